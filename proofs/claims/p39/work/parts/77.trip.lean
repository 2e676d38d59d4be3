/-! ===== the table is made: a trip ===== -/
theorem DrT.cal_ {h : Hp} {G sa X : Nat} {S T D k v : Int} (q : DrT h G sa X S T D) (hk : hi h (G + 1 + 1) 7 ≤ k) : DrT (setI h (G + 161) k v) G sa X S T D := by
  have e : hi (setI h (G + 161) k v) G = hi h G := hi_setI_ne (by omega)
  have q0 := q
  obtain ⟨q1, q2, ⟨g, ⟨n3, n5, n7, n9⟩, rest⟩, q4, q5⟩ := q0
  have c6 := q4.2.2.1
  exact q.sameG (ch_setI (Or.inr ⟨by omega, by omega⟩)) (by rw [e]) (by rw [e]) (by rw [e]; exact n3) (by rw [e]; exact n9) (by rw [e]; exact q5) (fun c d c0 c1 => by rw [hi_setI_ne (by omega)]) (fun t t0 t1 => by rw [hi_upF, upF_ne _ (by omega)])
set_option maxRecDepth 100000 in
set_option maxHeartbeats 4000000 in
theorem l_tBody2 {G sa X : Nat} {S T D N m y c : Int} {h8 : Hp} {Q : Option AV → Hp → Prop} (D8 : DrT h8 G sa X S T D) (hD : D ≤ 900000) (hN : 0 ≤ N ∧ N < 8) (hc : 0 ≤ c ∧ c < 5) (hy : 0 ≤ y ∧ y ≤ 2879)
  (kk : ∀ g' m', DrT g' G sa X S T (D + 2) → ch (PV G) nP h8 g' → (∀ a, a ≠ G → a ≠ G + 183 + N.toNat → hi g' a = hi h8 a) → hi g' (G + 183 + N.toNat) c = y → y ≤ m' → m' ≤ 2879 → wp 104 174 [some (vR (some G)), some (vI N), some (vI m'), some (vI c)] [] g' Q noX) : wp 104 136 [some (vR (some G)), some (vI N), some (vI y), some (vI c)] [] h8 Q noX := by
  obtain ⟨⟨tk, tr0, tr1, tr4, tr6, tr8, tr10, tr11, tr12, tr13, tr14, tr15, tr16⟩, ⟨⟨a4, b4⟩, ⟨a6, b6⟩, ⟨a10, b10⟩, ⟨a11, b11⟩, a12, b12⟩, ⟨mz8, mz13, mz14, mz15, mz16⟩, -⟩ := D8.1
  obtain ⟨rn3, rn5, rn7, rn9⟩ := D8.2.2.1.2.1
  obtain ⟨cn4, cn5, cn6, cn7⟩ := D8.2.2.2.1
  have ro_8 : hr h8 (G + 182) N = some (G + 183 + N.toNat) ∧ kd h8 (G + 183 + N.toNat) = 100 ∧ ln h8 (G + 183 + N.toNat) = 5 := mz15.row (by omega) (by omega)
  refine wp_aload_n d_104_136 (by rfl) ?_
  refine wp_getR (15) d_104_137 fl_12_46 rfl rfl (by first | assumption | (simp only [kd_setI, kd_setR]; assumption)) (by first | assumption | (simp only [hr_setI]; assumption)) ?_
  refine wp_iload_n d_104_140 (by rfl) ?_
  refine wp_aald d_104_141 (by have := mz15.1; omega) (by have := mz15.1; omega) (isRf_of mz15.1 rfl) (by omega) (by have := mz15.2.1; omega) ro_8.1 ?_
  refine wp_iload_n d_104_142 (by rfl) ?_
  refine wp_iload_n d_104_143 (by rfl) ?_
  refine wp_iast d_104_144 ro_8.2.1 (by omega) (by omega) (by omega) ?_
  have D_144 := D8.row (o := G + 183 + N.toNat) (k := c) (v := y) (by omega)
  have K_144 : ∀ a, a ≠ G + 183 + N.toNat → hi (setI h8 (G + 183 + N.toNat) c (y)) a = hi h8 a := fun a ha => hi_setI_ne ha
  have V_144 : hi (setI h8 (G + 183 + N.toNat) c (y)) (G + 183 + N.toNat) c = y := by rw [hi_upF, upF_same]
  have C_144 : ch (PV G) nP h8 (setI h8 (G + 183 + N.toNat) c (y)) := ch_setI (Or.inr (Or.inr ⟨by omega, by omega⟩))
  generalize setI h8 (G + 183 + N.toNat) c (y) = h_144 at D_144 K_144 V_144 C_144 ⊢
  clear tk tr0 tr1 tr4 tr6 tr8 tr10 tr11 tr12 tr13 tr14 tr15 tr16 a4 b4 a6 b6 a10 b10 a11 b11 a12 b12 mz8 mz13 mz14 mz15 mz16 rn3 rn5 rn7 rn9 cn4 cn5 cn6 cn7
  obtain ⟨⟨tk, tr0, tr1, tr4, tr6, tr8, tr10, tr11, tr12, tr13, tr14, tr15, tr16⟩, ⟨⟨a4, b4⟩, ⟨a6, b6⟩, ⟨a10, b10⟩, ⟨a11, b11⟩, a12, b12⟩, ⟨mz8, mz13, mz14, mz15, mz16⟩, -⟩ := D_144.1
  obtain ⟨rn3, rn5, rn7, rn9⟩ := D_144.2.2.1.2.1
  obtain ⟨cn4, cn5, cn6, cn7⟩ := D_144.2.2.2.1
  refine wp_sipush d_104_145 (by decide) ?_
  refine wp_iload_n d_104_148 (by rfl) ?_
  refine wp_aload_n d_104_149 (by rfl) ?_
  refine wp_iconst d_104_150 ?_
  refine wp_callV d_104_151 c_104_69 rfl (by rfl) (by rfl) ⟨12, rfl, rfl, by decide⟩ (by first | assumption | (simp only [kd_setI, kd_setR]; assumption)) (by exact Nat.le_of_ble_eq_true rfl) (by exact Nat.le_of_ble_eq_true rfl) (s_drawT D_144 (by omega) (by omega)) (fun v_151 h_151 q_151 => ?_) (fun _ _ q => q.elim)
  clear tk tr0 tr1 tr4 tr6 tr8 tr10 tr11 tr12 tr13 tr14 tr15 tr16 a4 b4 a6 b6 a10 b10 a11 b11 a12 b12 mz8 mz13 mz14 mz15 mz16 rn3 rn5 rn7 rn9 cn4 cn5 cn6 cn7
  obtain ⟨z_151, rfl, y_151, D_151, C_151, K_151, M_151⟩ := q_151
  have N_151 := K_151 (G + 1 + 1) (by omega)
  have n4_151 := congrFun N_151 4
  have n6_151 := congrFun N_151 6
  have n7_151 := congrFun N_151 7
  obtain ⟨⟨tk, tr0, tr1, tr4, tr6, tr8, tr10, tr11, tr12, tr13, tr14, tr15, tr16⟩, ⟨⟨a4, b4⟩, ⟨a6, b6⟩, ⟨a10, b10⟩, ⟨a11, b11⟩, a12, b12⟩, ⟨mz8, mz13, mz14, mz15, mz16⟩, -⟩ := D_151.1
  obtain ⟨rn3, rn5, rn7, rn9⟩ := D_151.2.2.1.2.1
  obtain ⟨cn4, cn5, cn6, cn7⟩ := D_151.2.2.2.1
  refine wp_if_ne (tgt := 161) d_104_154 (by decide) (by omega) (fun c_154 => ?_) (fun c_154 => ?_)
  · refine wp_iconst d_104_161 ?_
    refine wp_aload_n d_104_162 (by rfl) ?_
    refine wp_bipush d_104_163 (by decide) ?_
    refine wp_callV d_104_165 c_104_69 rfl (by rfl) (by rfl) ⟨12, rfl, rfl, by decide⟩ (by first | assumption | (simp only [kd_setI, kd_setR]; assumption)) (by exact Nat.le_of_ble_eq_true rfl) (by exact Nat.le_of_ble_eq_true rfl) (s_drawT D_151 (by omega) (by omega)) (fun v_165 h_165 q_165 => ?_) (fun _ _ q => q.elim)
    clear tk tr0 tr1 tr4 tr6 tr8 tr10 tr11 tr12 tr13 tr14 tr15 tr16 a4 b4 a6 b6 a10 b10 a11 b11 a12 b12 mz8 mz13 mz14 mz15 mz16 rn3 rn5 rn7 rn9 cn4 cn5 cn6 cn7
    obtain ⟨z_165, rfl, y_165, D_165, C_165, K_165, M_165⟩ := q_165
    have N_165 := K_165 (G + 1 + 1) (by omega)
    have n4_165 := congrFun N_165 4
    have n6_165 := congrFun N_165 6
    have n7_165 := congrFun N_165 7
    obtain ⟨⟨tk, tr0, tr1, tr4, tr6, tr8, tr10, tr11, tr12, tr13, tr14, tr15, tr16⟩, ⟨⟨a4, b4⟩, ⟨a6, b6⟩, ⟨a10, b10⟩, ⟨a11, b11⟩, a12, b12⟩, ⟨mz8, mz13, mz14, mz15, mz16⟩, -⟩ := D_165.1
    obtain ⟨rn3, rn5, rn7, rn9⟩ := D_165.2.2.1.2.1
    obtain ⟨cn4, cn5, cn6, cn7⟩ := D_165.2.2.2.1
    refine wp_iadd d_104_168 ?_
    refine wp_iadd d_104_169 ?_
    refine wp_callS d_104_170 c_104_93 rfl (by rfl) (by rfl) (by exact Nat.le_of_ble_eq_true rfl) (by exact Nat.le_of_ble_eq_true rfl) (s_min (by omega) (by omega)) (fun v_170 h_170 q_170 => ?_) (fun _ _ q => q.elim)
    obtain ⟨rfl, z_170⟩ := q_170
    replace z_170 := z_170.symm
    subst z_170
    refine wp_istore_n d_104_173 (by decide) ?_
    have e151 : hi h_151 (G + 183 + N.toNat) c = y := by rw [K_151 _ (by omega)]; exact V_144
    first
      | exact kk h_165 _ (D_165.up (by omega)) ((C_144.trans (C_151.mono (fun a z => Or.inl z) (fun a z => z))).trans (C_165.mono (fun a z => Or.inl z) (fun a z => z))) (fun a z0 z1 => (K_165 a z0).trans ((K_151 a z0).trans (K_144 a z1))) (by rw [K_165 _ (by omega)]; exact e151) (by omega) (by omega)
      | exact kk h_151 _ (D_151.up (by omega)) (C_144.trans (C_151.mono (fun a z => Or.inl z) (fun a z => z))) (fun a z0 z1 => (K_151 a z0).trans (K_144 a z1)) e151 (by omega) (by omega)
  · refine wp_iconst d_104_157 ?_
    refine wp_goto (tgt := 169) d_104_158 (by decide) ?_
    refine wp_iadd d_104_169 ?_
    refine wp_callS d_104_170 c_104_93 rfl (by rfl) (by rfl) (by exact Nat.le_of_ble_eq_true rfl) (by exact Nat.le_of_ble_eq_true rfl) (s_min (by omega) (by omega)) (fun v_170 h_170 q_170 => ?_) (fun _ _ q => q.elim)
    obtain ⟨rfl, z_170⟩ := q_170
    replace z_170 := z_170.symm
    subst z_170
    refine wp_istore_n d_104_173 (by decide) ?_
    have e151 : hi h_151 (G + 183 + N.toNat) c = y := by rw [K_151 _ (by omega)]; exact V_144
    first
      | exact kk h_165 _ (D_165.up (by omega)) ((C_144.trans (C_151.mono (fun a z => Or.inl z) (fun a z => z))).trans (C_165.mono (fun a z => Or.inl z) (fun a z => z))) (fun a z0 z1 => (K_165 a z0).trans ((K_151 a z0).trans (K_144 a z1))) (by rw [K_165 _ (by omega)]; exact e151) (by omega) (by omega)
      | exact kk h_151 _ (D_151.up (by omega)) (C_144.trans (C_151.mono (fun a z => Or.inl z) (fun a z => z))) (fun a z0 z1 => (K_151 a z0).trans (K_144 a z1)) e151 (by omega) (by omega)
set_option maxRecDepth 100000 in
set_option maxHeartbeats 4000000 in
theorem l_tBody {G sa X : Nat} {S T D N m c : Int} {g : Hp} {Q : Option AV → Hp → Prop} (q : DrT g G sa X S T D) (hD : D ≤ 800000) (hN : 0 ≤ N ∧ N < 8) (hc : 0 ≤ c ∧ c < 5) (hS : 1 ≤ S ∧ S ≤ 7) (hm : 0 ≤ m ∧ m ≤ 2879)
  (kk : ∀ g' s x y m', DrT g' G sa X S T (D + 4) → ch (PV G) nP g g' → (∀ a, a ≠ G → a ≠ G + 165 + N.toNat → a ≠ G + 174 + N.toNat → a ≠ G + 183 + N.toNat → hi g' a = hi g a) → hi g' (G + 165 + N.toNat) c = s → hi g' (G + 174 + N.toNat) c = x → hi g' (G + 183 + N.toNat) c = y → (0 ≤ s ∧ s < S) → x = m → m ≤ y → y ≤ 2879 → (c = 0 → y = m) → y ≤ m' → m' ≤ 2879 → wp 104 174 [some (vR (some G)), some (vI N), some (vI m'), some (vI c)] [] g' Q noX) : wp 104 93 [some (vR (some G)), some (vI N), some (vI m), some (vI c)] [] g Q noX := by
  obtain ⟨⟨tk, tr0, tr1, tr4, tr6, tr8, tr10, tr11, tr12, tr13, tr14, tr15, tr16⟩, ⟨⟨a4, b4⟩, ⟨a6, b6⟩, ⟨a10, b10⟩, ⟨a11, b11⟩, a12, b12⟩, ⟨mz8, mz13, mz14, mz15, mz16⟩, -⟩ := q.1
  obtain ⟨rn3, rn5, rn7, rn9⟩ := q.2.2.1.2.1
  obtain ⟨cn4, cn5, cn6, cn7⟩ := q.2.2.2.1
  have rg3 := rn3
  refine wp_aload_n d_104_93 (by rfl) ?_
  refine wp_getR (13) d_104_94 fl_12_40 rfl rfl (by first | assumption | (simp only [kd_setI, kd_setR]; assumption)) (by first | assumption | (simp only [hr_setI]; assumption)) ?_
  refine wp_iload_n d_104_97 (by rfl) ?_
  have ro_g : hr g (G + 164) N = some (G + 165 + N.toNat) ∧ kd g (G + 165 + N.toNat) = 100 ∧ ln g (G + 165 + N.toNat) = 5 := mz13.row (by omega) (by omega)
  refine wp_aald d_104_98 (by have := mz13.1; omega) (by have := mz13.1; omega) (isRf_of mz13.1 rfl) (by omega) (by have := mz13.2.1; omega) ro_g.1 ?_
  refine wp_iload_n d_104_99 (by rfl) ?_
  refine wp_aload_n d_104_100 (by rfl) ?_
  refine wp_aload_n d_104_101 (by rfl) ?_
  refine wp_getI (3) d_104_102 fl_12_90 rfl rfl (by first | assumption | (simp only [kd_setI, kd_setR]; assumption)) (fun x_102 e_102 r_102 => ?_)
  subst e_102
  refine wp_callV d_104_105 c_104_69 rfl (by rfl) (by rfl) ⟨12, rfl, rfl, by decide⟩ (by first | assumption | (simp only [kd_setI, kd_setR]; assumption)) (by exact Nat.le_of_ble_eq_true rfl) (by exact Nat.le_of_ble_eq_true rfl) (s_drawT q (by omega) (by omega)) (fun v_105 h_105 q_105 => ?_) (fun _ _ q => q.elim)
  clear tk tr0 tr1 tr4 tr6 tr8 tr10 tr11 tr12 tr13 tr14 tr15 tr16 a4 b4 a6 b6 a10 b10 a11 b11 a12 b12 mz8 mz13 mz14 mz15 mz16 rn3 rn5 rn7 rn9 cn4 cn5 cn6 cn7
  obtain ⟨z_105, rfl, y_105, D_105, C_105, K_105, M_105⟩ := q_105
  have N_105 := K_105 (G + 1 + 1) (by omega)
  have n4_105 := congrFun N_105 4
  have n6_105 := congrFun N_105 6
  have n7_105 := congrFun N_105 7
  obtain ⟨⟨tk, tr0, tr1, tr4, tr6, tr8, tr10, tr11, tr12, tr13, tr14, tr15, tr16⟩, ⟨⟨a4, b4⟩, ⟨a6, b6⟩, ⟨a10, b10⟩, ⟨a11, b11⟩, a12, b12⟩, ⟨mz8, mz13, mz14, mz15, mz16⟩, -⟩ := D_105.1
  obtain ⟨rn3, rn5, rn7, rn9⟩ := D_105.2.2.1.2.1
  obtain ⟨cn4, cn5, cn6, cn7⟩ := D_105.2.2.2.1
  have ro_105 : hr h_105 (G + 164) N = some (G + 165 + N.toNat) ∧ kd h_105 (G + 165 + N.toNat) = 100 ∧ ln h_105 (G + 165 + N.toNat) = 5 := mz13.row (by omega) (by omega)
  refine wp_iast d_104_108 ro_105.2.1 (by omega) (by omega) (by omega) ?_
  have D_108 := D_105.row (o := G + 165 + N.toNat) (k := c) (v := z_105) (by omega)
  have K_108 : ∀ a, a ≠ G + 165 + N.toNat → hi (setI h_105 (G + 165 + N.toNat) c (z_105)) a = hi h_105 a := fun a ha => hi_setI_ne ha
  have V_108 : hi (setI h_105 (G + 165 + N.toNat) c (z_105)) (G + 165 + N.toNat) c = z_105 := by rw [hi_upF, upF_same]
  have C_108 : ch (PV G) nP h_105 (setI h_105 (G + 165 + N.toNat) c (z_105)) := ch_setI (Or.inr (Or.inr ⟨by omega, by omega⟩))
  generalize setI h_105 (G + 165 + N.toNat) c (z_105) = h_108 at D_108 K_108 V_108 C_108 ⊢
  clear tk tr0 tr1 tr4 tr6 tr8 tr10 tr11 tr12 tr13 tr14 tr15 tr16 a4 b4 a6 b6 a10 b10 a11 b11 a12 b12 mz8 mz13 mz14 mz15 mz16 rn3 rn5 rn7 rn9 cn4 cn5 cn6 cn7
  obtain ⟨⟨tk, tr0, tr1, tr4, tr6, tr8, tr10, tr11, tr12, tr13, tr14, tr15, tr16⟩, ⟨⟨a4, b4⟩, ⟨a6, b6⟩, ⟨a10, b10⟩, ⟨a11, b11⟩, a12, b12⟩, ⟨mz8, mz13, mz14, mz15, mz16⟩, -⟩ := D_108.1
  obtain ⟨rn3, rn5, rn7, rn9⟩ := D_108.2.2.1.2.1
  obtain ⟨cn4, cn5, cn6, cn7⟩ := D_108.2.2.2.1
  have ro_108 : hr h_108 (G + 173) N = some (G + 174 + N.toNat) ∧ kd h_108 (G + 174 + N.toNat) = 100 ∧ ln h_108 (G + 174 + N.toNat) = 5 := mz14.row (by omega) (by omega)
  refine wp_aload_n d_104_109 (by rfl) ?_
  refine wp_getR (14) d_104_110 fl_12_43 rfl rfl (by first | assumption | (simp only [kd_setI, kd_setR]; assumption)) (by first | assumption | (simp only [hr_setI]; assumption)) ?_
  refine wp_iload_n d_104_113 (by rfl) ?_
  refine wp_aald d_104_114 (by have := mz14.1; omega) (by have := mz14.1; omega) (isRf_of mz14.1 rfl) (by omega) (by have := mz14.2.1; omega) ro_108.1 ?_
  refine wp_iload_n d_104_115 (by rfl) ?_
  refine wp_iload_n d_104_116 (by rfl) ?_
  refine wp_iast d_104_117 ro_108.2.1 (by omega) (by omega) (by omega) ?_
  have D_117 := D_108.row (o := G + 174 + N.toNat) (k := c) (v := m) (by omega)
  have K_117 : ∀ a, a ≠ G + 174 + N.toNat → hi (setI h_108 (G + 174 + N.toNat) c (m)) a = hi h_108 a := fun a ha => hi_setI_ne ha
  have V_117 : hi (setI h_108 (G + 174 + N.toNat) c (m)) (G + 174 + N.toNat) c = m := by rw [hi_upF, upF_same]
  have C_117 : ch (PV G) nP h_108 (setI h_108 (G + 174 + N.toNat) c (m)) := ch_setI (Or.inr (Or.inr ⟨by omega, by omega⟩))
  generalize setI h_108 (G + 174 + N.toNat) c (m) = h_117 at D_117 K_117 V_117 C_117 ⊢
  clear tk tr0 tr1 tr4 tr6 tr8 tr10 tr11 tr12 tr13 tr14 tr15 tr16 a4 b4 a6 b6 a10 b10 a11 b11 a12 b12 mz8 mz13 mz14 mz15 mz16 rn3 rn5 rn7 rn9 cn4 cn5 cn6 cn7
  obtain ⟨⟨tk, tr0, tr1, tr4, tr6, tr8, tr10, tr11, tr12, tr13, tr14, tr15, tr16⟩, ⟨⟨a4, b4⟩, ⟨a6, b6⟩, ⟨a10, b10⟩, ⟨a11, b11⟩, a12, b12⟩, ⟨mz8, mz13, mz14, mz15, mz16⟩, -⟩ := D_117.1
  obtain ⟨rn3, rn5, rn7, rn9⟩ := D_117.2.2.1.2.1
  obtain ⟨cn4, cn5, cn6, cn7⟩ := D_117.2.2.2.1
  refine wp_iload_n d_104_118 (by rfl) ?_
  refine wp_if_le (tgt := 136) d_104_119 (by decide) (by omega) (fun c_119 => ?_) (fun c_119 => ?_)
  · first
      | (
        refine wp_to [some (vR (some G)), some (vI N), some (vI m), some (vI c)] ⟨rfl, rfl, rfl, rfl, trivial⟩ ?_
        refine l_tBody2 (m := m) (y := m) (c := c) (D_117.up (by omega) : DrT h_117 G sa X S T (D + 2)) (by omega) hN hc ⟨by omega, by omega⟩ (fun g' m' y1 y2 y3 y4 y5 y6 => ?_)
        refine kk g' z_105 m (m) m' (y1.up (by omega)) ((((C_105.mono (fun a z => Or.inl z) (fun a z => z)).trans C_108).trans C_117).trans y2) (fun a z0 z1 z2 z3 => (y3 a z0 z3).trans ((K_117 a z2).trans ((K_108 a z1).trans (K_105 a z0)))) ?_ ?_ y4 (by omega) rfl (by omega) (by omega) (by omega) y5 y6
        · rw [y3 _ (by omega) (by omega), K_117 _ (by omega)]; exact V_108
        · rw [y3 _ (by omega) (by omega)]; exact V_117
        )
      | (
        refine wp_to [some (vR (some G)), some (vI N), some (vI (min 2879 (m + z_128))), some (vI c)] ⟨rfl, rfl, rfl, rfl, trivial⟩ ?_
        refine l_tBody2 (m := m) (y := (min 2879 (m + z_128))) (c := c) (D_128.up (by omega) : DrT h_128 G sa X S T (D + 2)) (by omega) hN hc ⟨by omega, by omega⟩ (fun g' m' y1 y2 y3 y4 y5 y6 => ?_)
        refine kk g' z_105 m ((min 2879 (m + z_128))) m' (y1.up (by omega)) (((((C_105.mono (fun a z => Or.inl z) (fun a z => z)).trans C_108).trans C_117).trans (C_128.mono (fun a z => Or.inl z) (fun a z => z))).trans y2) (fun a z0 z1 z2 z3 => (y3 a z0 z3).trans ((K_128 a z0).trans ((K_117 a z2).trans ((K_108 a z1).trans (K_105 a z0))))) ?_ ?_ y4 (by omega) rfl (by omega) (by omega) (by omega) y5 y6
        · rw [y3 _ (by omega) (by omega), K_128 _ (by omega), K_117 _ (by omega)]; exact V_108
        · rw [y3 _ (by omega) (by omega), K_128 _ (by omega)]; exact V_117
        )
  · refine wp_sipush d_104_122 (by decide) ?_
    refine wp_iload_n d_104_125 (by rfl) ?_
    refine wp_aload_n d_104_126 (by rfl) ?_
    refine wp_iconst d_104_127 ?_
    refine wp_callV d_104_128 c_104_69 rfl (by rfl) (by rfl) ⟨12, rfl, rfl, by decide⟩ (by first | assumption | (simp only [kd_setI, kd_setR]; assumption)) (by exact Nat.le_of_ble_eq_true rfl) (by exact Nat.le_of_ble_eq_true rfl) (s_drawT D_117 (by omega) (by omega)) (fun v_128 h_128 q_128 => ?_) (fun _ _ q => q.elim)
    clear tk tr0 tr1 tr4 tr6 tr8 tr10 tr11 tr12 tr13 tr14 tr15 tr16 a4 b4 a6 b6 a10 b10 a11 b11 a12 b12 mz8 mz13 mz14 mz15 mz16 rn3 rn5 rn7 rn9 cn4 cn5 cn6 cn7
    obtain ⟨z_128, rfl, y_128, D_128, C_128, K_128, M_128⟩ := q_128
    have N_128 := K_128 (G + 1 + 1) (by omega)
    have n4_128 := congrFun N_128 4
    have n6_128 := congrFun N_128 6
    have n7_128 := congrFun N_128 7
    obtain ⟨⟨tk, tr0, tr1, tr4, tr6, tr8, tr10, tr11, tr12, tr13, tr14, tr15, tr16⟩, ⟨⟨a4, b4⟩, ⟨a6, b6⟩, ⟨a10, b10⟩, ⟨a11, b11⟩, a12, b12⟩, ⟨mz8, mz13, mz14, mz15, mz16⟩, -⟩ := D_128.1
    obtain ⟨rn3, rn5, rn7, rn9⟩ := D_128.2.2.1.2.1
    obtain ⟨cn4, cn5, cn6, cn7⟩ := D_128.2.2.2.1
    refine wp_iadd d_104_131 ?_
    refine wp_callS d_104_132 c_104_93 rfl (by rfl) (by rfl) (by exact Nat.le_of_ble_eq_true rfl) (by exact Nat.le_of_ble_eq_true rfl) (s_min (by omega) (by omega)) (fun v_132 h_132 q_132 => ?_) (fun _ _ q => q.elim)
    obtain ⟨rfl, z_132⟩ := q_132
    replace z_132 := z_132.symm
    subst z_132
    refine wp_istore_n d_104_135 (by decide) ?_
    first
      | (
        refine wp_to [some (vR (some G)), some (vI N), some (vI m), some (vI c)] ⟨rfl, rfl, rfl, rfl, trivial⟩ ?_
        refine l_tBody2 (m := m) (y := m) (c := c) (D_117.up (by omega) : DrT h_117 G sa X S T (D + 2)) (by omega) hN hc ⟨by omega, by omega⟩ (fun g' m' y1 y2 y3 y4 y5 y6 => ?_)
        refine kk g' z_105 m (m) m' (y1.up (by omega)) ((((C_105.mono (fun a z => Or.inl z) (fun a z => z)).trans C_108).trans C_117).trans y2) (fun a z0 z1 z2 z3 => (y3 a z0 z3).trans ((K_117 a z2).trans ((K_108 a z1).trans (K_105 a z0)))) ?_ ?_ y4 (by omega) rfl (by omega) (by omega) (by omega) y5 y6
        · rw [y3 _ (by omega) (by omega), K_117 _ (by omega)]; exact V_108
        · rw [y3 _ (by omega) (by omega)]; exact V_117
        )
      | (
        refine wp_to [some (vR (some G)), some (vI N), some (vI (min 2879 (m + z_128))), some (vI c)] ⟨rfl, rfl, rfl, rfl, trivial⟩ ?_
        refine l_tBody2 (m := m) (y := (min 2879 (m + z_128))) (c := c) (D_128.up (by omega) : DrT h_128 G sa X S T (D + 2)) (by omega) hN hc ⟨by omega, by omega⟩ (fun g' m' y1 y2 y3 y4 y5 y6 => ?_)
        refine kk g' z_105 m ((min 2879 (m + z_128))) m' (y1.up (by omega)) (((((C_105.mono (fun a z => Or.inl z) (fun a z => z)).trans C_108).trans C_117).trans (C_128.mono (fun a z => Or.inl z) (fun a z => z))).trans y2) (fun a z0 z1 z2 z3 => (y3 a z0 z3).trans ((K_128 a z0).trans ((K_117 a z2).trans ((K_108 a z1).trans (K_105 a z0))))) ?_ ?_ y4 (by omega) rfl (by omega) (by omega) (by omega) y5 y6
        · rw [y3 _ (by omega) (by omega), K_128 _ (by omega), K_117 _ (by omega)]; exact V_108
        · rw [y3 _ (by omega) (by omega), K_128 _ (by omega)]; exact V_117
        )
set_option maxRecDepth 100000 in
set_option maxHeartbeats 4000000 in
theorem l_tFirst {G sa : Nat} {S T D N m s y K p cc : Int} {g : Hp} {Q : Option AV → Hp → Prop} (q : DrT g G sa (nx g) S T D) (hN : 0 ≤ N ∧ N < 8) (h7 : hi g (G + 1 + 1) 7 = N) (hs : 0 ≤ s ∧ s < hi g (G + 1 + 1) 4) (hy : 0 ≤ y ∧ y ≤ 2879) (e1 : hi g (G + 165 + N.toNat) 0 = s) (e3 : hi g (G + 183 + N.toNat) 0 = y) (ep : hi g (G + 162) N = p) (ec : hi g (G + 161) N = cc) (hp : 0 ≤ p ∧ p ≤ 500) (hcc : 0 ≤ cc ∧ cc < hi g (G + 1 + 1) 6) (r1 : nx g + 5 ≤ cn g) (r2 : us g + 398 ≤ cs g)
  (kk : ∀ g', DrT g' G sa (nx g') S T D → fm (PB G) (RB G) g g' → nx g' = nx g + 5 → us g' = us g + 398 → (∀ k, k ≠ 7 → hi g' (G + 1 + 1) k = hi g (G + 1 + 1) k) → hi g' (G + 1 + 1) 7 = N + 1 → hi g' (adT g' (G + 1) N) 7 = 1 → hi g' (adT g' (G + 1) N + 3) 0 = y → (∀ a, G + 155 ≤ a → a < G + 200 → hi g' a = hi g a) → wp 104 83 [some (vR (some G)), some (vI N), some (vI m), some (vI 1)] [] g' Q noX) : wp 104 174 [some (vR (some G)), some (vI N), some (vI m), some (vI 0)] [] g Q noX := by
  obtain ⟨⟨tk, tr0, tr1, tr4, tr6, tr8, tr10, tr11, tr12, tr13, tr14, tr15, tr16⟩, ⟨⟨a4, b4⟩, ⟨a6, b6⟩, ⟨a10, b10⟩, ⟨a11, b11⟩, a12, b12⟩, ⟨mz8, mz13, mz14, mz15, mz16⟩, -⟩ := q.1
  obtain ⟨rn3, rn5, rn7, rn9⟩ := q.2.2.1.2.1
  obtain ⟨cn4, cn5, cn6, cn7⟩ := q.2.2.2.1
  have hX2 := q.1.2.2.2.2.2.2
  have ra_ : hr g (G + 164) N = some (G + 165 + N.toNat) ∧ kd g (G + 165 + N.toNat) = 100 ∧ ln g (G + 165 + N.toNat) = 5 := mz13.row (by omega) (by omega)
  have rb_ : hr g (G + 173) N = some (G + 174 + N.toNat) ∧ kd g (G + 174 + N.toNat) = 100 ∧ ln g (G + 174 + N.toNat) = 5 := mz14.row (by omega) (by omega)
  have rc_ : hr g (G + 182) N = some (G + 183 + N.toNat) ∧ kd g (G + 183 + N.toNat) = 100 ∧ ln g (G + 183 + N.toNat) = 5 := mz15.row (by omega) (by omega)
  have kS := q.2.1.1.1
  refine wp_iload_n d_104_174 (by rfl) ?_
  refine wp_if_ne (tgt := 217) d_104_175 (by decide) (by omega) (fun c_175 => ?_) (fun c_175 => ?_)
  · exact absurd c_175 (by omega)
  refine wp_aload_n d_104_178 (by rfl) ?_
  refine wp_getR (0) d_104_179 fl_12_10 rfl rfl (by first | assumption | (simp only [kd_setI, kd_setR]; assumption)) (by first | assumption | (simp only [hr_setI]; assumption)) ?_
  refine wp_aload_n d_104_182 (by rfl) ?_
  refine wp_getR (10) d_104_183 fl_12_30 rfl rfl (by first | assumption | (simp only [kd_setI, kd_setR]; assumption)) (by first | assumption | (simp only [hr_setI]; assumption)) ?_
  refine wp_iload_n d_104_186 (by rfl) ?_
  refine wp_iald d_104_187 (Or.inl a10) (by omega) (by omega) (fun x_187 e_187 r_187 => ?_)
  rw [ec] at e_187
  replace e_187 := e_187.symm
  subst e_187
  refine wp_aload_n d_104_188 (by rfl) ?_
  refine wp_getR (11) d_104_189 fl_12_33 rfl rfl (by first | assumption | (simp only [kd_setI, kd_setR]; assumption)) (by first | assumption | (simp only [hr_setI]; assumption)) ?_
  refine wp_iload_n d_104_192 (by rfl) ?_
  refine wp_iald d_104_193 (Or.inl a11) (by omega) (by omega) (fun x_193 e_193 r_193 => ?_)
  rw [ep] at e_193
  replace e_193 := e_193.symm
  subst e_193
  refine wp_aload_n d_104_194 (by rfl) ?_
  refine wp_getR (13) d_104_195 fl_12_40 rfl rfl (by first | assumption | (simp only [kd_setI, kd_setR]; assumption)) (by first | assumption | (simp only [hr_setI]; assumption)) ?_
  refine wp_iload_n d_104_198 (by rfl) ?_
  refine wp_aald d_104_199 (by have := mz13.1; omega) (by have := mz13.1; omega) (isRf_of mz13.1 rfl) (by omega) (by have := mz13.2.1; omega) ra_.1 ?_
  refine wp_iconst d_104_200 ?_
  refine wp_iald d_104_201 (Or.inl ra_.2.1) (by omega) (by omega) (fun x_201 e_201 r_201 => ?_)
  rw [e1] at e_201
  replace e_201 := e_201.symm
  subst e_201
  refine wp_aload_n d_104_202 (by rfl) ?_
  refine wp_getR (15) d_104_203 fl_12_46 rfl rfl (by first | assumption | (simp only [kd_setI, kd_setR]; assumption)) (by first | assumption | (simp only [hr_setI]; assumption)) ?_
  refine wp_iload_n d_104_206 (by rfl) ?_
  refine wp_aald d_104_207 (by have := mz15.1; omega) (by have := mz15.1; omega) (isRf_of mz15.1 rfl) (by omega) (by have := mz15.2.1; omega) rc_.1 ?_
  refine wp_iconst d_104_208 ?_
  refine wp_iald d_104_209 (Or.inl rc_.2.1) (by omega) (by omega) (fun x_209 e_209 r_209 => ?_)
  rw [e3] at e_209
  replace e_209 := e_209.symm
  subst e_209
  refine wp_callV d_104_210 c_104_98 rfl (by rfl) (by rfl) ⟨0, rfl, rfl, by decide⟩ (by first | assumption | (simp only [kd_setI, kd_setR]; assumption)) (by exact Nat.le_of_ble_eq_true rfl) (by exact Nat.le_of_ble_eq_true rfl) (s_addTrip q.2.1 q.2.2.1.1 hcc hp hs (by omega) (by omega) r1 r2) (fun v_210 h_210 q_210 => ?_) (fun _ _ q => q.elim)
  obtain ⟨rfl, h1, fT, rfl⟩ := q_210
  obtain ⟨T1, T2, T3, T4, T5, T6, T7, T8⟩ := q.trip fT hs (by omega) hp hcc (by omega) (by rw [h7]; exact ec)
  have e8n : nx (setI (setR (apT h1 (nx g) s y y) (G + 1 + 5) (hi g (G + 1 + 1) 7) (some (nx g))) (G + 1 + 1) 7 (hi g (G + 1 + 1) 7 + 1)) = nx h1 := rfl
  have e8u : us (setI (setR (apT h1 (nx g) s y y) (G + 1 + 5) (hi g (G + 1 + 1) 7) (some (nx g))) (G + 1 + 1) 7 (hi g (G + 1 + 1) 7 + 1)) = us h1 := rfl
  have fn_ := fT.2.1
  have fu_ := fT.2.2.1
  generalize setI (setR (apT h1 (nx g) s y y) (G + 1 + 5) (hi g (G + 1 + 1) 7) (some (nx g))) (G + 1 + 1) 7 (hi g (G + 1 + 1) 7 + 1) = g9 at *
  refine wp_iload_n d_104_213 (by rfl) ?_
  refine wp_icmp_ne (tgt := 257) d_104_214 (by decide) (by omega) (by omega) (fun c_214 => ?_) (fun c_214 => ?_)
  · exact absurd c_214 (by omega)
  refine wp_iload_n d_104_217 (by rfl) ?_
  refine wp_if_le (tgt := 259) d_104_218 (by decide) (by omega) (fun c_218 => ?_) (fun c_218 => ?_)
  rotate_left
  · exact absurd c_218 (by omega)
  refine wp_iinc d_104_259 (by rfl) (by decide) ?_
  refine wp_goto (tgt := 83) d_104_262 (by decide) ?_
  refine wp_to [some (vR (some G)), some (vI N), some (vI m), some (vI 1)] ⟨rfl, rfl, rfl, rfl, trivial⟩ ?_
  rw [h7] at T4 T3
  exact kk g9 (e8n ▸ T1) T7 (by omega) (by omega) T2 T3 (by rw [T4]; exact T5) (by rw [T4]; exact T6) T8
set_option maxRecDepth 100000 in
set_option maxHeartbeats 4000000 in
theorem l_tCall {G sa X : Nat} {S T D N m s x y c : Int} {g : Hp} {Q : Option AV → Hp → Prop} (q : DrT g G sa X S T D) (hN : 0 ≤ N ∧ N < 8) (hc : 1 ≤ c ∧ c < 5) (h7 : N < hi g (G + 1 + 1) 7) (hs : 0 ≤ s ∧ s < hi g (G + 1 + 1) 4) (hxy : x ≤ y ∧ y ≤ 2879) (hx0 : 0 ≤ x) (e1 : hi g (G + 165 + N.toNat) c = s) (e2 : hi g (G + 174 + N.toNat) c = x) (e3 : hi g (G + 183 + N.toNat) c = y) (a7 : hi g (adT g (G + 1) N) 7 = c) (a3 : hi g (adT g (G + 1) N + 3) (c - 1) ≤ x)
  (kk : ∀ g', DrT g' G sa X S T D → ch (PB G) nP g g' → hi g' (G + 1 + 1) = hi g (G + 1 + 1) → hi g' (adT g' (G + 1) N) 7 = c + 1 → hi g' (adT g' (G + 1) N + 3) c = y → (∀ a, G + 155 ≤ a → a < G + 200 → hi g' a = hi g a) → wp 104 83 [some (vR (some G)), some (vI N), some (vI m), some (vI (c + 1))] [] g' Q noX) : wp 104 174 [some (vR (some G)), some (vI N), some (vI m), some (vI c)] [] g Q noX := by
  obtain ⟨⟨tk, tr0, tr1, tr4, tr6, tr8, tr10, tr11, tr12, tr13, tr14, tr15, tr16⟩, ⟨⟨a4, b4⟩, ⟨a6, b6⟩, ⟨a10, b10⟩, ⟨a11, b11⟩, a12, b12⟩, ⟨mz8, mz13, mz14, mz15, mz16⟩, -⟩ := q.1
  obtain ⟨rn3, rn5, rn7, rn9⟩ := q.2.2.1.2.1
  obtain ⟨cn4, cn5, cn6, cn7⟩ := q.2.2.2.1
  have hX2 := q.1.2.2.2.2.2.2
  have ra_ : hr g (G + 164) N = some (G + 165 + N.toNat) ∧ kd g (G + 165 + N.toNat) = 100 ∧ ln g (G + 165 + N.toNat) = 5 := mz13.row (by omega) (by omega)
  have rb_ : hr g (G + 173) N = some (G + 174 + N.toNat) ∧ kd g (G + 174 + N.toNat) = 100 ∧ ln g (G + 174 + N.toNat) = 5 := mz14.row (by omega) (by omega)
  have rc_ : hr g (G + 182) N = some (G + 183 + N.toNat) ∧ kd g (G + 183 + N.toNat) = 100 ∧ ln g (G + 183 + N.toNat) = 5 := mz15.row (by omega) (by omega)
  have kS := q.2.1.1.1
  refine wp_iload_n d_104_174 (by rfl) ?_
  refine wp_if_ne (tgt := 217) d_104_175 (by decide) (by omega) (fun c_175 => ?_) (fun c_175 => ?_)
  rotate_left
  · exact absurd c_175 (by omega)
  refine wp_iload_n d_104_217 (by rfl) ?_
  refine wp_if_le (tgt := 259) d_104_218 (by decide) (by omega) (fun c_218 => ?_) (fun c_218 => ?_)
  · exact absurd c_218 (by omega)
  refine wp_aload_n d_104_221 (by rfl) ?_
  refine wp_getR (0) d_104_222 fl_12_10 rfl rfl (by first | assumption | (simp only [kd_setI, kd_setR]; assumption)) (by first | assumption | (simp only [hr_setI]; assumption)) ?_
  refine wp_iload_n d_104_225 (by rfl) ?_
  refine wp_aload_n d_104_226 (by rfl) ?_
  refine wp_getR (13) d_104_227 fl_12_40 rfl rfl (by first | assumption | (simp only [kd_setI, kd_setR]; assumption)) (by first | assumption | (simp only [hr_setI]; assumption)) ?_
  refine wp_iload_n d_104_230 (by rfl) ?_
  refine wp_aald d_104_231 (by have := mz13.1; omega) (by have := mz13.1; omega) (isRf_of mz13.1 rfl) (by omega) (by have := mz13.2.1; omega) ra_.1 ?_
  refine wp_iload_n d_104_232 (by rfl) ?_
  refine wp_iald d_104_233 (Or.inl ra_.2.1) (by omega) (by omega) (fun x_233 e_233 r_233 => ?_)
  rw [e1] at e_233
  replace e_233 := e_233.symm
  subst e_233
  refine wp_aload_n d_104_234 (by rfl) ?_
  refine wp_getR (14) d_104_235 fl_12_43 rfl rfl (by first | assumption | (simp only [kd_setI, kd_setR]; assumption)) (by first | assumption | (simp only [hr_setI]; assumption)) ?_
  refine wp_iload_n d_104_238 (by rfl) ?_
  refine wp_aald d_104_239 (by have := mz14.1; omega) (by have := mz14.1; omega) (isRf_of mz14.1 rfl) (by omega) (by have := mz14.2.1; omega) rb_.1 ?_
  refine wp_iload_n d_104_240 (by rfl) ?_
  refine wp_iald d_104_241 (Or.inl rb_.2.1) (by omega) (by omega) (fun x_241 e_241 r_241 => ?_)
  rw [e2] at e_241
  replace e_241 := e_241.symm
  subst e_241
  refine wp_aload_n d_104_242 (by rfl) ?_
  refine wp_getR (15) d_104_243 fl_12_46 rfl rfl (by first | assumption | (simp only [kd_setI, kd_setR]; assumption)) (by first | assumption | (simp only [hr_setI]; assumption)) ?_
  refine wp_iload_n d_104_246 (by rfl) ?_
  refine wp_aald d_104_247 (by have := mz15.1; omega) (by have := mz15.1; omega) (isRf_of mz15.1 rfl) (by omega) (by have := mz15.2.1; omega) rc_.1 ?_
  refine wp_iload_n d_104_248 (by rfl) ?_
  refine wp_iald d_104_249 (Or.inl rc_.2.1) (by omega) (by omega) (fun x_249 e_249 r_249 => ?_)
  rw [e3] at e_249
  replace e_249 := e_249.symm
  subst e_249
  refine wp_callV d_104_250 c_104_102 rfl (by rfl) (by rfl) ⟨0, rfl, rfl, by decide⟩ (by first | assumption | (simp only [kd_setI, kd_setR]; assumption)) (by exact Nat.le_of_ble_eq_true rfl) (by exact Nat.le_of_ble_eq_true rfl) (s_addCall q.2.1 q.2.2.1.1 (by omega) hs (by rw [a7]; exact ⟨a3, hxy⟩) (by omega)) (fun v_250 h_250 q_250 => ?_) (fun _ _ q => q.elim)
  obtain ⟨rfl, rfl⟩ := q_250
  obtain ⟨T1, T2, T3, T4, T5, T6, T7⟩ := q.call (t := N) (by omega) hs (by rw [a7]; exact ⟨a3, hxy⟩) (by omega)
  have a79 : inR (hi g (adT g (G + 1) N) 7) := by rw [a7]; exact ⟨by omega, by omega⟩
  generalize apT g (adT g (G + 1) N) s x y = g9 at *
  refine wp_iload_n d_104_253 (by rfl) ?_
  refine wp_icmp_eq (tgt := 259) d_104_254 (by decide) (by omega) (by omega) (fun c_254 => ?_) (fun c_254 => ?_)
  rotate_left
  · exact absurd c_254 (by omega)
  refine wp_iinc d_104_259 (by rfl) (by decide) ?_
  refine wp_goto (tgt := 83) d_104_262 (by decide) ?_
  refine wp_to [some (vR (some G)), some (vI N), some (vI m), some (vI (c + 1))] ⟨rfl, rfl, rfl, rfl, trivial⟩ ?_
  rw [a7] at T4 T5
  exact kk g9 T1 T6 T2 (by rw [T3]; exact T4) (by rw [T3]; exact T5) T7
set_option maxRecDepth 100000 in
set_option maxHeartbeats 4000000 in
theorem l_tRest {G sa : Nat} {N K : Int} (hN : 0 ≤ N ∧ N < 8) (hK : 1 ≤ K ∧ K ≤ 5) : ∀ (n : Nat) (g : Hp) (D c m : Int), 1 ≤ c → c + n = K → D + 4 * (n : Int) ≤ 800000 → DrS g G sa (nx g) D → N < hi g (G + 1 + 1) 7 → hi g (G + 163) N = K → hi g (adT g (G + 1) N) 7 = c → hi g (adT g (G + 1) N + 3) (c - 1) ≤ m → (0 ≤ m ∧ m ≤ 2879) → 1 ≤ hi g (G + 1 + 1) 4 → wp 104 83 [some (vR (some G)), some (vI N), some (vI m), some (vI c)] [] g (fun v h' => v = some (vI 1) ∧ DrS h' G sa (nx h') (D + 4 * (n : Int)) ∧ fm (PB G) (RB G) g h' ∧ nx h' = nx g ∧ us h' = us g ∧ hi h' (G + 1 + 1) = hi g (G + 1 + 1)) noX := by
  intro n
  induction n with
  | zero =>
    intro g D c m hc hcn hD q h7 eK a7 a3 hm hS
    obtain ⟨⟨tk, tr0, tr1, tr4, tr6, tr8, tr10, tr11, tr12, tr13, tr14, tr15, tr16⟩, ⟨⟨a4, b4⟩, ⟨a6, b6⟩, ⟨a10, b10⟩, ⟨a11, b11⟩, a12, b12⟩, ⟨mz8, mz13, mz14, mz15, mz16⟩, -⟩ := q.1
    obtain ⟨rn3, rn5, rn7, rn9⟩ := q.2.2.1.2.1
    obtain ⟨cn4, cn5, cn6, cn7⟩ := q.2.2.2.1
    have kS := q.2.1.1.1
    refine wp_iload_n d_104_83 (by rfl) ?_
    refine wp_aload_n d_104_84 (by rfl) ?_
    refine wp_getR (12) d_104_85 fl_12_36 rfl rfl (by first | assumption | (simp only [kd_setI, kd_setR]; assumption)) (by first | assumption | (simp only [hr_setI]; assumption)) ?_
    refine wp_iload_n d_104_88 (by rfl) ?_
    refine wp_iald d_104_89 (Or.inl a12) (by omega) (by omega) (fun x_89 e_89 r_89 => ?_)
    rw [eK] at e_89
    replace e_89 := e_89.symm
    subst e_89
    refine wp_icmp_ge (tgt := 265) d_104_90 (by decide) (by omega) (by omega) (fun c_90 => ?_) (fun c_90 => ?_)
    rotate_left
    · exact absurd c_90 (by omega)
    refine wp_aload_n d_104_265 (by rfl) ?_
    refine wp_getR (0) d_104_266 fl_12_10 rfl rfl (by first | assumption | (simp only [kd_setI, kd_setR]; assumption)) (by first | assumption | (simp only [hr_setI]; assumption)) ?_
    refine wp_iload_n d_104_269 (by rfl) ?_
    refine wp_callV d_104_270 c_104_105 rfl (by rfl) (by rfl) ⟨0, rfl, rfl, by decide⟩ (by first | assumption | (simp only [kd_setI, kd_setR]; assumption)) (by exact Nat.le_of_ble_eq_true rfl) (by exact Nat.le_of_ble_eq_true rfl) (s_calls q.2.1 q.2.2.1.1 (by omega)) (fun v_270 h_270 q_270 => ?_) (fun _ _ q => q.elim)
    obtain ⟨rfl, z_270⟩ := q_270
    replace z_270 := z_270.symm
    subst z_270
    have a79 : inR (hi g (adT g (G + 1) N) 7) := by rw [a7]; exact ⟨by omega, by omega⟩
    refine wp_aload_n d_104_273 (by rfl) ?_
    refine wp_getR (12) d_104_274 fl_12_36 rfl rfl (by first | assumption | (simp only [kd_setI, kd_setR]; assumption)) (by first | assumption | (simp only [hr_setI]; assumption)) ?_
    refine wp_iload_n d_104_277 (by rfl) ?_
    refine wp_iald d_104_278 (Or.inl a12) (by omega) (by omega) (fun x_278 e_278 r_278 => ?_)
    rw [eK] at e_278
    replace e_278 := e_278.symm
    subst e_278
    refine wp_icmp_ne (tgt := 286) d_104_279 (by decide) (by omega) (by omega) (fun c_279 => ?_) (fun c_279 => ?_)
    · exact absurd c_279 (by omega)
    refine wp_iconst d_104_282 ?_
    refine wp_goto (tgt := 287) d_104_283 (by decide) ?_
    refine wp_zret d_104_287 rfl (by omega) ?_
    exact ⟨rfl, q.up (by omega), fm.rfl, rfl, rfl, rfl⟩
  | succ n ih =>
    intro g D c m hc hcn hD q h7 eK a7 a3 hm hS
    obtain ⟨⟨tk, tr0, tr1, tr4, tr6, tr8, tr10, tr11, tr12, tr13, tr14, tr15, tr16⟩, ⟨⟨a4, b4⟩, ⟨a6, b6⟩, ⟨a10, b10⟩, ⟨a11, b11⟩, a12, b12⟩, ⟨mz8, mz13, mz14, mz15, mz16⟩, -⟩ := q.1
    obtain ⟨rn3, rn5, rn7, rn9⟩ := q.2.2.1.2.1
    obtain ⟨cn4, cn5, cn6, cn7⟩ := q.2.2.2.1
    have kS := q.2.1.1.1
    refine wp_iload_n d_104_83 (by rfl) ?_
    refine wp_aload_n d_104_84 (by rfl) ?_
    refine wp_getR (12) d_104_85 fl_12_36 rfl rfl (by first | assumption | (simp only [kd_setI, kd_setR]; assumption)) (by first | assumption | (simp only [hr_setI]; assumption)) ?_
    refine wp_iload_n d_104_88 (by rfl) ?_
    refine wp_iald d_104_89 (Or.inl a12) (by omega) (by omega) (fun x_89 e_89 r_89 => ?_)
    rw [eK] at e_89
    replace e_89 := e_89.symm
    subst e_89
    refine wp_icmp_ge (tgt := 265) d_104_90 (by decide) (by omega) (by omega) (fun c_90 => ?_) (fun c_90 => ?_)
    · exact absurd c_90 (by omega)
    refine wp_to [some (vR (some G)), some (vI N), some (vI m), some (vI c)] ⟨rfl, rfl, rfl, rfl, trivial⟩ ?_
    have hXn := q.1.2.2.2.2.2.2
    have hb := (q.2.2.1.1.2.2.2.2.2.1 N hN.1 h7).1
    refine l_tBody (m := m) (c := c) q.toT (by omega) hN ⟨by omega, by omega⟩ ⟨by omega, by omega⟩ hm (fun g1 s x y m1 y1 y2 y3 y4 y5 y6 y7 y8 y9 y10 y11 y12 y13 => ?_)
    have n1_ : hi g1 (G + 1 + 1) = hi g (G + 1 + 1) := y3 _ (by omega) (by omega) (by omega) (by omega)
    have ea : adT g1 (G + 1) N = adT g (G + 1) N := by unfold adT; rw [y2.2.2.2.2.2.2.2.2 _ _ (fun z => z)]
    have n14 := congrFun n1_ 4
    have n17 := congrFun n1_ 7
    refine l_tCall (m := m1) (s := s) (x := x) (y := y) (c := c) y1 hN ⟨hc, by omega⟩ (by omega) (by omega) ⟨by omega, by omega⟩ (by omega) y4 y5 y6 (by rw [ea, y3 _ (by omega) (by omega) (by omega) (by omega)]; exact a7) (by rw [ea, y3 _ (by omega) (by omega) (by omega) (by omega)]; omega) (fun g2 w1 w2 w3 w4 w5 w6 => ?_)
    have n2_ := w3.trans n1_
    have n24 := congrFun n2_ 4
    have n27 := congrFun n2_ 7
    have x2 : nx g2 = nx g := w2.2.2.2.1.trans y2.2.2.2.1
    have u2 : us g2 = us g := w2.2.2.2.2.1.trans y2.2.2.2.2.1
    have w1' : DrT g2 G sa (nx g2) (hi g (G + 1 + 1) 4) (hi g (G + 1 + 1) 7) (D + 4) := by rw [x2]; exact w1
    refine wp_mono (fun v h' z => ?_) (fun _ _ z => z) (ih g2 (D + 4) (c + 1) m1 (by omega) (by omega) (by omega) (w1'.toS n24.symm n27.symm) (by omega) (by rw [w6 _ (by omega) (by omega), y3 _ (by omega) (by omega) (by omega) (by omega)]; exact eK) w4 (by rw [show c + 1 - 1 = c by omega, w5]; exact y12) ⟨by omega, by omega⟩ (by omega))
    obtain ⟨z1, z2, z3, z4, z5, z6⟩ := z
    refine ⟨z1, z2.up (by omega), ((y2.fm.mono (fun a z => ?_) (fun a z => z.elim)).trans (w2.fm.mono (fun a z => z) (fun a z => z.elim))).trans z3, by omega, by omega, z6.trans n2_⟩
    have z : a = G ∨ a = G + 155 ∨ (G + 162 ≤ a ∧ a < G + 192) := z
    show a = G ∨ (G + 2 ≤ a ∧ a ≤ G + 6) ∨ G + 155 ≤ a
    omega
