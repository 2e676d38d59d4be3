/-! ===== the runs between two times ===== -/
def PC (w : Nat) : Nat → Prop := fun a => a = w + 6 ∨ a = w + 8 ∨ a = w + 9
def PQ (w : Nat) : Nat → Prop := fun a => a = w + 7
/-- a run of the trip at a (number t) on the day d that is under way between S and U -/
def Cd (h : Hp) (w : Nat) (S U t d : Int) (a : Nat) : Prop := hr h (w + 5) t = some a ∧ hasRn h a d ∧ 1 < hi h a 7 ∧ baseOf h a d + hi h (a + 3) 0 ≤ U ∧ S ≤ baseOf h a d + hi h (a + 3) (hi h a 7 - 1)
def CoI (h0 h : Hp) (w : Nat) (S U A B N D : Int) : Prop := (0 ≤ hi h (w + 6) 3 ∧ hi h (w + 6) 3 ≤ 8 * N + (D - A)) ∧
  (∀ k, 0 ≤ k → k < hi h (w + 6) 3 → ∃ t a, 0 ≤ t ∧ t < hi h0 (w + 1) 7 ∧ Cd h0 w S U t (hi h (w + 8) k) a ∧ hr h (w + 7) k = some a ∧ hi h (w + 9) k = baseOf h0 a (hi h (w + 8) k)) ∧
  (∀ t d a, 0 ≤ t → t < hi h0 (w + 1) 7 → (t < N ∨ (t = N ∧ d < D)) → A ≤ d → d ≤ B → Cd h0 w S U t d a → ∃ k, 0 ≤ k ∧ k < hi h (w + 6) 3 ∧ hr h (w + 7) k = some a ∧ hi h (w + 9) k = baseOf h0 a d)
theorem CoI.next {h0 h : Hp} {w : Nat} {S U A B N D : Int} (q : CoI h0 h w S U A B N D) (hD : D ≤ B + 1 ∨ D = A) (hB : B < D) (hAB : B - A ≤ 7) : CoI h0 h w S U A B (N + 1) A := by
  obtain ⟨q1, q2, q3⟩ := q
  exact ⟨⟨q1.1, by omega⟩, q2, fun t d a h1 h2 h3 h4 h5 h6 => q3 t d a h1 h2 (by omega) h4 h5 h6⟩
theorem CoI.skip {h0 h : Hp} {w : Nat} {S U A B N D : Int} (q : CoI h0 h w S U A B N D) (hn : ∀ a, ¬ Cd h0 w S U N D a) : CoI h0 h w S U A B N (D + 1) := by
  obtain ⟨q1, q2, q3⟩ := q
  refine ⟨⟨q1.1, by omega⟩, q2, fun t d a h1 h2 h3 h4 h5 h6 => ?_⟩
  by_cases hc : t = N ∧ d = D
  · obtain ⟨rfl, rfl⟩ := hc
    exact absurd h6 (hn a)
  · exact q3 t d a h1 h2 (by omega) h4 h5 h6
theorem CoI.put {h0 h : Hp} {w : Nat} {S U A B N D : Int} {a : Nat} (q : CoI h0 h w S U A B N D) (hN : 0 ≤ N ∧ N < hi h0 (w + 1) 7) (hc : Cd h0 w S U N D a) : CoI h0 (setI (setI (setI (setR h (w + 7) (hi h (w + 6) 3) (some a)) (w + 8) (hi h (w + 6) 3) D) (w + 9) (hi h (w + 6) 3) (baseOf h0 a D)) (w + 6) 3 (hi h (w + 6) 3 + 1)) w S U A B N (D + 1) := by
  obtain ⟨q1, q2, q3⟩ := q
  generalize hz : hi h (w + 6) 3 = z at *
  have g6 : hi (setI (setI (setI (setR h (w + 7) z (some a)) (w + 8) z D) (w + 9) z (baseOf h0 a D)) (w + 6) 3 (z + 1)) (w + 6) 3 = z + 1 := by rw [hi_upF, upF_same]
  have g8 : hi (setI (setI (setI (setR h (w + 7) z (some a)) (w + 8) z D) (w + 9) z (baseOf h0 a D)) (w + 6) 3 (z + 1)) (w + 8) = upF (hi h (w + 8)) z D := by rw [hi_setI_ne (by omega), hi_setI_ne (by omega), hi_upF]; rfl
  have g9 : hi (setI (setI (setI (setR h (w + 7) z (some a)) (w + 8) z D) (w + 9) z (baseOf h0 a D)) (w + 6) 3 (z + 1)) (w + 9) = upF (hi h (w + 9)) z (baseOf h0 a D) := by rw [hi_setI_ne (by omega), hi_upF, hi_setI_ne (by omega)]; rfl
  have g7 : ∀ k, hr (setI (setI (setI (setR h (w + 7) z (some a)) (w + 8) z D) (w + 9) z (baseOf h0 a D)) (w + 6) 3 (z + 1)) (w + 7) k = if k = z then some a else hr h (w + 7) k := fun k => by
    show hr (setR h (w + 7) z (some a)) (w + 7) k = _
    rw [hr_setR]
    unfold up2
    by_cases hk : k = z
    · rw [if_pos ⟨rfl, hk⟩, if_pos hk]
    · rw [if_neg (fun y => hk y.2), if_neg hk]
  generalize setI (setI (setI (setR h (w + 7) z (some a)) (w + 8) z D) (w + 9) z (baseOf h0 a D)) (w + 6) 3 (z + 1) = g at *
  unfold CoI
  rw [g6]
  refine ⟨by omega, fun k k0 k1 => ?_, fun t d a' h1 h2 h3 h4 h5 h6 => ?_⟩
  · by_cases hk : k = z
    · subst hk
      refine ⟨N, a, hN.1, hN.2, ?_, by rw [g7, if_pos rfl], ?_⟩
      · rw [g8, upF_same]; exact hc
      · rw [g8, g9, upF_same, upF_same]
    · obtain ⟨t, a', y1, y2, y3, y4, y5⟩ := q2 k k0 (by omega)
      refine ⟨t, a', y1, y2, ?_, by rw [g7, if_neg hk]; exact y4, ?_⟩
      · rw [g8, upF_ne _ hk]; exact y3
      · rw [g8, g9, upF_ne _ hk, upF_ne _ hk]; exact y5
  · by_cases hc9 : t = N ∧ d = D
    · obtain ⟨rfl, rfl⟩ := hc9
      cases hc.1.symm.trans h6.1
      exact ⟨z, q1.1, by omega, by rw [g7, if_pos rfl], by rw [g9, upF_same]⟩
    · obtain ⟨k, y1, y2, y3, y4⟩ := q3 t d a' h1 h2 (by omega) h4 h5 h6
      exact ⟨k, y1, by omega, by rw [g7, if_neg (by omega)]; exact y3, by rw [g9, upF_ne _ (by omega)]; exact y4⟩
theorem hr_ne_setR {h : Hp} {a b : Nat} {k j : Int} {v : Option Nat} (q : b ≠ a) : hr (setR h a k v) b j = hr h b j := by rw [hr_setR, up2_ne _ _ (fun z => q z.1)]
set_option maxRecDepth 100000 in
set_option maxHeartbeats 4000000 in
theorem s_add {w a : Nat} {n d S U : Int} {h : Hp} (hS : Sk h w) (hT : TripOk h n a) (ha : w + 154 ≤ a) (hd : 0 ≤ d ∧ d ≤ 365) (hz : 0 ≤ hi h (w + 6) 3 ∧ hi h (w + 6) 3 < 192) (hSU : inR S ∧ inR U) : wp 92 0 (entL [vR (some (w + 6)), vR (some a), vI d, vI S, vI U] (mL 92)) [] h (fun v h' => v = none ∧ (((baseOf h a d + hi h (a + 3) 0 ≤ U ∧ S ≤ baseOf h a d + hi h (a + 3) (hi h a 7 - 1)) ∧ h' = setI (setI (setI (setR h (w + 7) (hi h (w + 6) 3) (some a)) (w + 8) (hi h (w + 6) 3) d) (w + 9) (hi h (w + 6) 3) (baseOf h a d)) (w + 6) 3 (hi h (w + 6) 3 + 1)) ∨ (¬ (baseOf h a d + hi h (a + 3) 0 ≤ U ∧ S ≤ baseOf h a d + hi h (a + 3) (hi h a 7 - 1)) ∧ h' = h))) noX := by
  have hT0 := hT
  obtain ⟨⟨k1, k2, k3, k4, k5, k6, k7⟩, ⟨n1, ⟨n2, n3, n4, n5⟩, ⟨n6, n7⟩, ⟨n8, n9⟩, ⟨n10, n11⟩, n12, n13⟩, ⟨m1, ⟨m2, m3, m4⟩, ⟨m5, m6⟩, ⟨m7, m8⟩, m9, m10⟩, ⟨o1, ⟨o2, o3, o4⟩, ⟨o5, o6, o7⟩, ⟨o8, o9, o10⟩, o11, o12⟩, ⟨b1, ⟨b2, b3⟩, ⟨b4, b5, b6⟩, b7, b8, b9⟩, ⟨j1, ⟨j2, j3, j4, j5, j6, j7, j8⟩, ⟨j9, j10⟩, j11⟩⟩ := hS
  obtain ⟨t1, ⟨u1, u2, u3, u4⟩, ⟨⟨v1, v2⟩, ⟨v3, v4⟩, ⟨v5, v6⟩, v7, v8⟩, t4, t5, t6, t7, t8⟩ := hT
  have tz := t5 0 (by decide) (by omega)
  have tl := t5 (hi h a 7 - 1) (by omega) (by omega)
  have td := t7 d hd.1 hd.2
  have bb : -1 ≤ baseOf h a d ∧ baseOf h a d ≤ 600000 := by unfold baseOf; omega
  refine wp_aload_n d_92_0 (by rfl) ?_
  refine wp_iload_n d_92_1 (by rfl) ?_
  refine wp_callV d_92_2 c_92_55 rfl (by rfl) (by rfl) ⟨11, rfl, rfl, by decide⟩ (by first | assumption | (simp only [kd_setI, kd_setR]; assumption)) (by exact Nat.le_of_ble_eq_true rfl) (by exact Nat.le_of_ble_eq_true rfl) (s_baseOf hT0 hd) (fun v_2 h_2 q_2 => ?_) (fun _ _ q => q.elim)
  obtain ⟨rfl, z_2⟩ := q_2
  replace z_2 := z_2.symm
  subst z_2
  refine wp_istore d_92_5 (by decide) ?_
  refine wp_iload d_92_7 (by rfl) ?_
  refine wp_aload_n d_92_9 (by rfl) ?_
  refine wp_getR (5) d_92_10 fl_10_59 rfl rfl (by first | assumption | (simp only [kd_setI, kd_setR]; assumption)) (by first | assumption | exact rb _ | exact rc _) ?_
  refine wp_iconst d_92_13 ?_
  refine wp_iald d_92_14 (Or.inl (by first | assumption | (simp only [kd_setI, kd_setR]; assumption))) (by first | omega | (simp only [ln_setI, ln_setR]; omega)) (by first | omega | (simp only [ln_setI, ln_setR]; omega)) (fun x_14 e_14 r_14 => ?_)
  refine wp_iadd d_92_15 ?_
  refine wp_iload d_92_16 (by rfl) ?_
  refine wp_icmp_gt (tgt := 36) d_92_18 (by decide) (by first | omega | (simp only [ln_setI, ln_setR]; omega)) (by first | omega | (simp only [ln_setI, ln_setR]; omega)) (fun c_18 => ?_) (fun c_18 => ?_)
  · refine wp_iconst d_92_36 ?_
    refine wp_istore d_92_37 (by decide) ?_
    refine wp_iload d_92_39 (by rfl) ?_
    refine wp_if_eq (tgt := 95) d_92_41 (by decide) (by first | omega | (simp only [ln_setI, ln_setR]; omega)) (fun c_41 => ?_) (fun c_41 => ?_)
    · refine wp_vret d_92_95 rfl ?_
      first
        | (refine ⟨rfl, Or.inr ⟨?_, rfl⟩⟩; intro z; omega)
        | (refine ⟨rfl, Or.inl ⟨⟨by omega, by omega⟩, ?_⟩⟩
           simp only [*])
    · refine wp_aload_n d_92_44 (by rfl) ?_
      refine wp_getI (3) d_92_45 fl_10_24 rfl rfl (by first | assumption | (simp only [kd_setI, kd_setR]; assumption)) (fun x_45 e_45 r_45 => ?_)
      (try rw [hi_setI_ne (by omega)] at e_45)
      (try rw [hi_setI_ne (by omega)] at e_45)
      (try rw [hi_setR] at e_45)
      refine wp_sipush d_92_48 (by decide) ?_
      refine wp_icmp_ge (tgt := 95) d_92_51 (by decide) (by first | omega | (simp only [ln_setI, ln_setR]; omega)) (by first | omega | (simp only [ln_setI, ln_setR]; omega)) (fun c_51 => ?_) (fun c_51 => ?_)
      · refine wp_vret d_92_95 rfl ?_
        first
          | (refine ⟨rfl, Or.inr ⟨?_, rfl⟩⟩; intro z; omega)
          | (refine ⟨rfl, Or.inl ⟨⟨by omega, by omega⟩, ?_⟩⟩
             simp only [*])
      · refine wp_aload_n d_92_54 (by rfl) ?_
        refine wp_getR (0) d_92_55 fl_10_11 rfl rfl (by first | assumption | (simp only [kd_setI, kd_setR]; assumption)) (by first | assumption | exact rb _ | exact rc _) ?_
        refine wp_aload_n d_92_58 (by rfl) ?_
        refine wp_getI (3) d_92_59 fl_10_24 rfl rfl (by first | assumption | (simp only [kd_setI, kd_setR]; assumption)) (fun x_59 e_59 r_59 => ?_)
        (try rw [hi_setI_ne (by omega)] at e_59)
        (try rw [hi_setI_ne (by omega)] at e_59)
        (try rw [hi_setR] at e_59)
        refine wp_aload_n d_92_62 (by rfl) ?_
        refine wp_aastO (cb := 11) d_92_63 (by omega) (by omega) t1 (by decide) (by rw [m5]; rfl) (by omega) (by omega) ?_
        have rb : ∀ z : Int, hr (setR h (w + 7) z (some a)) (w + 6) 1 = some (w + 8) := fun z => by rw [hr_ne_setR (by omega)]; exact m3
        have rc : ∀ z : Int, hr (setR h (w + 7) z (some a)) (w + 6) 2 = some (w + 9) := fun z => by rw [hr_ne_setR (by omega)]; exact m4
        refine wp_aload_n d_92_64 (by rfl) ?_
        refine wp_getR (1) d_92_65 fl_10_17 rfl rfl (by first | assumption | (simp only [kd_setI, kd_setR]; assumption)) (by first | assumption | exact rb _ | exact rc _) ?_
        refine wp_aload_n d_92_68 (by rfl) ?_
        refine wp_getI (3) d_92_69 fl_10_24 rfl rfl (by first | assumption | (simp only [kd_setI, kd_setR]; assumption)) (fun x_69 e_69 r_69 => ?_)
        (try rw [hi_setI_ne (by omega)] at e_69)
        (try rw [hi_setI_ne (by omega)] at e_69)
        (try rw [hi_setR] at e_69)
        refine wp_iload_n d_92_72 (by rfl) ?_
        refine wp_iast d_92_73 (by first | assumption | (simp only [kd_setI, kd_setR]; assumption)) (by first | omega | (simp only [ln_setI, ln_setR]; omega)) (by first | omega | (simp only [ln_setI, ln_setR]; omega)) (by first | omega | (simp only [ln_setI, ln_setR]; omega)) ?_
        refine wp_aload_n d_92_74 (by rfl) ?_
        refine wp_getR (2) d_92_75 fl_10_21 rfl rfl (by first | assumption | (simp only [kd_setI, kd_setR]; assumption)) (by first | assumption | exact rb _ | exact rc _) ?_
        refine wp_aload_n d_92_78 (by rfl) ?_
        refine wp_getI (3) d_92_79 fl_10_24 rfl rfl (by first | assumption | (simp only [kd_setI, kd_setR]; assumption)) (fun x_79 e_79 r_79 => ?_)
        (try rw [hi_setI_ne (by omega)] at e_79)
        (try rw [hi_setI_ne (by omega)] at e_79)
        (try rw [hi_setR] at e_79)
        refine wp_iload d_92_82 (by rfl) ?_
        refine wp_iast d_92_84 (by first | assumption | (simp only [kd_setI, kd_setR]; assumption)) (by first | omega | (simp only [ln_setI, ln_setR]; omega)) (by first | omega | (simp only [ln_setI, ln_setR]; omega)) (by first | omega | (simp only [ln_setI, ln_setR]; omega)) ?_
        refine wp_aload_n d_92_85 (by rfl) ?_
        refine wp_dup d_92_86 (by rfl) ?_
        refine wp_getI (3) d_92_87 fl_10_24 rfl rfl (by first | assumption | (simp only [kd_setI, kd_setR]; assumption)) (fun x_87 e_87 r_87 => ?_)
        (try rw [hi_setI_ne (by omega)] at e_87)
        (try rw [hi_setI_ne (by omega)] at e_87)
        (try rw [hi_setR] at e_87)
        refine wp_iconst d_92_90 ?_
        refine wp_iadd d_92_91 ?_
        refine wp_putI (3) d_92_92 fl_10_24 rfl rfl (Or.inl (by rfl)) (by first | assumption | (simp only [kd_setI, kd_setR]; assumption)) (by first | omega | (simp only [ln_setI, ln_setR]; omega)) (fun q => nomatch q) ?_
        refine wp_vret d_92_95 rfl ?_
        first
          | (refine ⟨rfl, Or.inr ⟨?_, rfl⟩⟩; intro z; omega)
          | (refine ⟨rfl, Or.inl ⟨⟨by omega, by omega⟩, ?_⟩⟩
             simp only [*])
  · refine wp_iload d_92_21 (by rfl) ?_
    refine wp_aload_n d_92_23 (by rfl) ?_
    refine wp_callV d_92_24 c_92_62 rfl (by rfl) (by rfl) ⟨11, rfl, rfl, by decide⟩ (by first | assumption | (simp only [kd_setI, kd_setR]; assumption)) (by exact Nat.le_of_ble_eq_true rfl) (by exact Nat.le_of_ble_eq_true rfl) (s_lastDeparts hT0) (fun v_24 h_24 q_24 => ?_) (fun _ _ q => q.elim)
    obtain ⟨rfl, z_24⟩ := q_24
    replace z_24 := z_24.symm
    subst z_24
    refine wp_iadd d_92_27 ?_
    refine wp_iload_n d_92_28 (by rfl) ?_
    refine wp_icmp_lt (tgt := 36) d_92_29 (by decide) (by first | omega | (simp only [ln_setI, ln_setR]; omega)) (by first | omega | (simp only [ln_setI, ln_setR]; omega)) (fun c_29 => ?_) (fun c_29 => ?_)
    · refine wp_iconst d_92_36 ?_
      refine wp_istore d_92_37 (by decide) ?_
      refine wp_iload d_92_39 (by rfl) ?_
      refine wp_if_eq (tgt := 95) d_92_41 (by decide) (by first | omega | (simp only [ln_setI, ln_setR]; omega)) (fun c_41 => ?_) (fun c_41 => ?_)
      · refine wp_vret d_92_95 rfl ?_
        first
          | (refine ⟨rfl, Or.inr ⟨?_, rfl⟩⟩; intro z; omega)
          | (refine ⟨rfl, Or.inl ⟨⟨by omega, by omega⟩, ?_⟩⟩
             simp only [*])
      · refine wp_aload_n d_92_44 (by rfl) ?_
        refine wp_getI (3) d_92_45 fl_10_24 rfl rfl (by first | assumption | (simp only [kd_setI, kd_setR]; assumption)) (fun x_45 e_45 r_45 => ?_)
        (try rw [hi_setI_ne (by omega)] at e_45)
        (try rw [hi_setI_ne (by omega)] at e_45)
        (try rw [hi_setR] at e_45)
        refine wp_sipush d_92_48 (by decide) ?_
        refine wp_icmp_ge (tgt := 95) d_92_51 (by decide) (by first | omega | (simp only [ln_setI, ln_setR]; omega)) (by first | omega | (simp only [ln_setI, ln_setR]; omega)) (fun c_51 => ?_) (fun c_51 => ?_)
        · refine wp_vret d_92_95 rfl ?_
          first
            | (refine ⟨rfl, Or.inr ⟨?_, rfl⟩⟩; intro z; omega)
            | (refine ⟨rfl, Or.inl ⟨⟨by omega, by omega⟩, ?_⟩⟩
               simp only [*])
        · refine wp_aload_n d_92_54 (by rfl) ?_
          refine wp_getR (0) d_92_55 fl_10_11 rfl rfl (by first | assumption | (simp only [kd_setI, kd_setR]; assumption)) (by first | assumption | exact rb _ | exact rc _) ?_
          refine wp_aload_n d_92_58 (by rfl) ?_
          refine wp_getI (3) d_92_59 fl_10_24 rfl rfl (by first | assumption | (simp only [kd_setI, kd_setR]; assumption)) (fun x_59 e_59 r_59 => ?_)
          (try rw [hi_setI_ne (by omega)] at e_59)
          (try rw [hi_setI_ne (by omega)] at e_59)
          (try rw [hi_setR] at e_59)
          refine wp_aload_n d_92_62 (by rfl) ?_
          refine wp_aastO (cb := 11) d_92_63 (by omega) (by omega) t1 (by decide) (by rw [m5]; rfl) (by omega) (by omega) ?_
          have rb : ∀ z : Int, hr (setR h (w + 7) z (some a)) (w + 6) 1 = some (w + 8) := fun z => by rw [hr_ne_setR (by omega)]; exact m3
          have rc : ∀ z : Int, hr (setR h (w + 7) z (some a)) (w + 6) 2 = some (w + 9) := fun z => by rw [hr_ne_setR (by omega)]; exact m4
          refine wp_aload_n d_92_64 (by rfl) ?_
          refine wp_getR (1) d_92_65 fl_10_17 rfl rfl (by first | assumption | (simp only [kd_setI, kd_setR]; assumption)) (by first | assumption | exact rb _ | exact rc _) ?_
          refine wp_aload_n d_92_68 (by rfl) ?_
          refine wp_getI (3) d_92_69 fl_10_24 rfl rfl (by first | assumption | (simp only [kd_setI, kd_setR]; assumption)) (fun x_69 e_69 r_69 => ?_)
          (try rw [hi_setI_ne (by omega)] at e_69)
          (try rw [hi_setI_ne (by omega)] at e_69)
          (try rw [hi_setR] at e_69)
          refine wp_iload_n d_92_72 (by rfl) ?_
          refine wp_iast d_92_73 (by first | assumption | (simp only [kd_setI, kd_setR]; assumption)) (by first | omega | (simp only [ln_setI, ln_setR]; omega)) (by first | omega | (simp only [ln_setI, ln_setR]; omega)) (by first | omega | (simp only [ln_setI, ln_setR]; omega)) ?_
          refine wp_aload_n d_92_74 (by rfl) ?_
          refine wp_getR (2) d_92_75 fl_10_21 rfl rfl (by first | assumption | (simp only [kd_setI, kd_setR]; assumption)) (by first | assumption | exact rb _ | exact rc _) ?_
          refine wp_aload_n d_92_78 (by rfl) ?_
          refine wp_getI (3) d_92_79 fl_10_24 rfl rfl (by first | assumption | (simp only [kd_setI, kd_setR]; assumption)) (fun x_79 e_79 r_79 => ?_)
          (try rw [hi_setI_ne (by omega)] at e_79)
          (try rw [hi_setI_ne (by omega)] at e_79)
          (try rw [hi_setR] at e_79)
          refine wp_iload d_92_82 (by rfl) ?_
          refine wp_iast d_92_84 (by first | assumption | (simp only [kd_setI, kd_setR]; assumption)) (by first | omega | (simp only [ln_setI, ln_setR]; omega)) (by first | omega | (simp only [ln_setI, ln_setR]; omega)) (by first | omega | (simp only [ln_setI, ln_setR]; omega)) ?_
          refine wp_aload_n d_92_85 (by rfl) ?_
          refine wp_dup d_92_86 (by rfl) ?_
          refine wp_getI (3) d_92_87 fl_10_24 rfl rfl (by first | assumption | (simp only [kd_setI, kd_setR]; assumption)) (fun x_87 e_87 r_87 => ?_)
          (try rw [hi_setI_ne (by omega)] at e_87)
          (try rw [hi_setI_ne (by omega)] at e_87)
          (try rw [hi_setR] at e_87)
          refine wp_iconst d_92_90 ?_
          refine wp_iadd d_92_91 ?_
          refine wp_putI (3) d_92_92 fl_10_24 rfl rfl (Or.inl (by rfl)) (by first | assumption | (simp only [kd_setI, kd_setR]; assumption)) (by first | omega | (simp only [ln_setI, ln_setR]; omega)) (fun q => nomatch q) ?_
          refine wp_vret d_92_95 rfl ?_
          first
            | (refine ⟨rfl, Or.inr ⟨?_, rfl⟩⟩; intro z; omega)
            | (refine ⟨rfl, Or.inl ⟨⟨by omega, by omega⟩, ?_⟩⟩
               simp only [*])
    · refine wp_iconst d_92_32 ?_
      refine wp_goto (tgt := 37) d_92_33 (by decide) ?_
      refine wp_istore d_92_37 (by decide) ?_
      refine wp_iload d_92_39 (by rfl) ?_
      refine wp_if_eq (tgt := 95) d_92_41 (by decide) (by first | omega | (simp only [ln_setI, ln_setR]; omega)) (fun c_41 => ?_) (fun c_41 => ?_)
      · refine wp_vret d_92_95 rfl ?_
        first
          | (refine ⟨rfl, Or.inr ⟨?_, rfl⟩⟩; intro z; omega)
          | (refine ⟨rfl, Or.inl ⟨⟨by omega, by omega⟩, ?_⟩⟩
             simp only [*])
      · refine wp_aload_n d_92_44 (by rfl) ?_
        refine wp_getI (3) d_92_45 fl_10_24 rfl rfl (by first | assumption | (simp only [kd_setI, kd_setR]; assumption)) (fun x_45 e_45 r_45 => ?_)
        (try rw [hi_setI_ne (by omega)] at e_45)
        (try rw [hi_setI_ne (by omega)] at e_45)
        (try rw [hi_setR] at e_45)
        refine wp_sipush d_92_48 (by decide) ?_
        refine wp_icmp_ge (tgt := 95) d_92_51 (by decide) (by first | omega | (simp only [ln_setI, ln_setR]; omega)) (by first | omega | (simp only [ln_setI, ln_setR]; omega)) (fun c_51 => ?_) (fun c_51 => ?_)
        · refine wp_vret d_92_95 rfl ?_
          first
            | (refine ⟨rfl, Or.inr ⟨?_, rfl⟩⟩; intro z; omega)
            | (refine ⟨rfl, Or.inl ⟨⟨by omega, by omega⟩, ?_⟩⟩
               simp only [*])
        · refine wp_aload_n d_92_54 (by rfl) ?_
          refine wp_getR (0) d_92_55 fl_10_11 rfl rfl (by first | assumption | (simp only [kd_setI, kd_setR]; assumption)) (by first | assumption | exact rb _ | exact rc _) ?_
          refine wp_aload_n d_92_58 (by rfl) ?_
          refine wp_getI (3) d_92_59 fl_10_24 rfl rfl (by first | assumption | (simp only [kd_setI, kd_setR]; assumption)) (fun x_59 e_59 r_59 => ?_)
          (try rw [hi_setI_ne (by omega)] at e_59)
          (try rw [hi_setI_ne (by omega)] at e_59)
          (try rw [hi_setR] at e_59)
          refine wp_aload_n d_92_62 (by rfl) ?_
          refine wp_aastO (cb := 11) d_92_63 (by omega) (by omega) t1 (by decide) (by rw [m5]; rfl) (by omega) (by omega) ?_
          have rb : ∀ z : Int, hr (setR h (w + 7) z (some a)) (w + 6) 1 = some (w + 8) := fun z => by rw [hr_ne_setR (by omega)]; exact m3
          have rc : ∀ z : Int, hr (setR h (w + 7) z (some a)) (w + 6) 2 = some (w + 9) := fun z => by rw [hr_ne_setR (by omega)]; exact m4
          refine wp_aload_n d_92_64 (by rfl) ?_
          refine wp_getR (1) d_92_65 fl_10_17 rfl rfl (by first | assumption | (simp only [kd_setI, kd_setR]; assumption)) (by first | assumption | exact rb _ | exact rc _) ?_
          refine wp_aload_n d_92_68 (by rfl) ?_
          refine wp_getI (3) d_92_69 fl_10_24 rfl rfl (by first | assumption | (simp only [kd_setI, kd_setR]; assumption)) (fun x_69 e_69 r_69 => ?_)
          (try rw [hi_setI_ne (by omega)] at e_69)
          (try rw [hi_setI_ne (by omega)] at e_69)
          (try rw [hi_setR] at e_69)
          refine wp_iload_n d_92_72 (by rfl) ?_
          refine wp_iast d_92_73 (by first | assumption | (simp only [kd_setI, kd_setR]; assumption)) (by first | omega | (simp only [ln_setI, ln_setR]; omega)) (by first | omega | (simp only [ln_setI, ln_setR]; omega)) (by first | omega | (simp only [ln_setI, ln_setR]; omega)) ?_
          refine wp_aload_n d_92_74 (by rfl) ?_
          refine wp_getR (2) d_92_75 fl_10_21 rfl rfl (by first | assumption | (simp only [kd_setI, kd_setR]; assumption)) (by first | assumption | exact rb _ | exact rc _) ?_
          refine wp_aload_n d_92_78 (by rfl) ?_
          refine wp_getI (3) d_92_79 fl_10_24 rfl rfl (by first | assumption | (simp only [kd_setI, kd_setR]; assumption)) (fun x_79 e_79 r_79 => ?_)
          (try rw [hi_setI_ne (by omega)] at e_79)
          (try rw [hi_setI_ne (by omega)] at e_79)
          (try rw [hi_setR] at e_79)
          refine wp_iload d_92_82 (by rfl) ?_
          refine wp_iast d_92_84 (by first | assumption | (simp only [kd_setI, kd_setR]; assumption)) (by first | omega | (simp only [ln_setI, ln_setR]; omega)) (by first | omega | (simp only [ln_setI, ln_setR]; omega)) (by first | omega | (simp only [ln_setI, ln_setR]; omega)) ?_
          refine wp_aload_n d_92_85 (by rfl) ?_
          refine wp_dup d_92_86 (by rfl) ?_
          refine wp_getI (3) d_92_87 fl_10_24 rfl rfl (by first | assumption | (simp only [kd_setI, kd_setR]; assumption)) (fun x_87 e_87 r_87 => ?_)
          (try rw [hi_setI_ne (by omega)] at e_87)
          (try rw [hi_setI_ne (by omega)] at e_87)
          (try rw [hi_setR] at e_87)
          refine wp_iconst d_92_90 ?_
          refine wp_iadd d_92_91 ?_
          refine wp_putI (3) d_92_92 fl_10_24 rfl rfl (Or.inl (by rfl)) (by first | assumption | (simp only [kd_setI, kd_setR]; assumption)) (by first | omega | (simp only [ln_setI, ln_setR]; omega)) (fun q => nomatch q) ?_
          refine wp_vret d_92_95 rfl ?_
          first
            | (refine ⟨rfl, Or.inr ⟨?_, rfl⟩⟩; intro z; omega)
            | (refine ⟨rfl, Or.inl ⟨⟨by omega, by omega⟩, ?_⟩⟩
               simp only [*])
