/-! ===== a leg more ===== -/
/-- a ride was taken: one from which one is in time with m rides left -/
def TkR (h h' : Hp) (w m : Nat) : Prop := ∃ (t dd i j tt : Int) (a : Nat), (0 ≤ t ∧ t < hi h (w + 1) 7) ∧ hr h (w + 5) t = some a ∧ hasRn h a dd ∧ Rc h w (rnB h a (baseOf h a dd)) ∧ (0 ≤ i ∧ i < j ∧ j < hi h a 7) ∧ hi h (a + 1) i = spJ h w (szJ h w) ∧ snJ h w (szJ h w) ≤ baseOf h a dd + hi h (a + 3) i ∧ baseOf h a dd + hi h (a + 2) j ≤ hi h (w + 40 + m) (hi h (a + 1) j) ∧ -1 ≤ tt ∧
  App h h' w (some a) dd i j (hi h (a + 1) j) (baseOf h a dd + hi h (a + 3) i) (baseOf h a dd + hi h (a + 2) j) tt (hi h (w + 146) 13 + hi h a 2)
/-- no such ride along r -/
def NoR (h : Hp) (w m : Nat) (r : Rn) : Prop := ∀ i j, 0 ≤ i → i < j → j < rz r → rs r i = spJ h w (szJ h w) → snJ h w (szJ h w) ≤ rd r i → hi h (w + 40 + m) (rs r j) < ra r j
def TkW (h h' : Hp) (w L : Nat) : Prop := ∃ s' mm, Wy h w (spJ h w (szJ h w)) s' mm ∧ tmJ h w (szJ h w) + mm ≤ lat (tgB h w) (dlB h w) (hi h (w + 32 + L)) s' ∧ (0 < szJ h w → afJ h w (szJ h w)) ∧
  App h h' w none (hi h (w + 148) (szJ h w)) (hi h (w + 149) (szJ h w)) (hi h (w + 150) (szJ h w)) s' (tmJ h w (szJ h w)) (tmJ h w (szJ h w) + mm) (hi h (w + 146) 12) (hi h (w + 146) 13)
set_option maxRecDepth 100000 in
set_option maxHeartbeats 4000000 in
theorem l_alightingOf {w a ra : Nat} {n b0 i : Int} {h : Hp} (hT0 : TripOk h n a) (hn : n ≤ 16) (kr : kd h ra = 100) (lr : ln h ra = 16) (hb0 : 0 ≤ b0 ∧ b0 ≤ 600000) (hi_ : 0 ≤ i ∧ i < hi h a 7) : ∀ (m : Nat) (k : Int), k + m = hi h a 7 → i < k → (∀ j, i < j → j < k → hi h ra (hi h (a + 1) j) < b0 + hi h (a + 2) j) → wp 65 5 [some (vR (some (w + 146))), some (vR (some a)), some (vI b0), some (vI i), some (vR (some ra)), some (vI (k))] [] h (fun v h' => ∃ z, v = some (vI z) ∧ h' = h ∧ ((i < z ∧ z < hi h a 7 ∧ b0 + hi h (a + 2) z ≤ hi h ra (hi h (a + 1) z)) ∨ (z = -1 ∧ ∀ j, i < j → j < hi h a 7 → hi h ra (hi h (a + 1) j) < b0 + hi h (a + 2) j))) noX := by
  intro m
  have hT := hT0
  obtain ⟨t1, ⟨u1, u2, u3, u4⟩, ⟨⟨v1, v2⟩, ⟨v3, v4⟩, ⟨v5, v6⟩, v7, v8⟩, t4, t5, t6, t7, t8⟩ := hT
  induction m with
  | zero =>
    intro k e0 e1 I
    refine wp_iload d_65_5 (by rfl) ?_
    refine wp_aload_n d_65_7 (by rfl) ?_
    refine wp_getI (7) d_65_8 fl_6_90 rfl rfl (by assumption) (fun x_8 e_8 r_8 => ?_)
    refine wp_icmp_ge (tgt := 45) d_65_11 (by decide) (by omega) (by omega) (fun c_11 => ?_) (fun c_11 => ?_)
    rotate_left
    · exact absurd c_11 (by omega)
    refine wp_iconst d_65_45 ?_
    refine wp_iret d_65_46 rfl ?_
    exact ⟨_, rfl, rfl, Or.inr ⟨rfl, fun j z0 z1 => I j z0 (by omega)⟩⟩
  | succ m ih =>
    intro k e0 e1 I
    have tk := t5 k (by omega) (by omega)
    refine wp_iload d_65_5 (by rfl) ?_
    refine wp_aload_n d_65_7 (by rfl) ?_
    refine wp_getI (7) d_65_8 fl_6_90 rfl rfl (by assumption) (fun x_8 e_8 r_8 => ?_)
    subst e_8
    refine wp_icmp_ge (tgt := 45) d_65_11 (by decide) (by omega) (by omega) (fun c_11 => ?_) (fun c_11 => ?_)
    · exact absurd c_11 (by omega)
    refine wp_iload_n d_65_14 (by rfl) ?_
    refine wp_aload_n d_65_15 (by rfl) ?_
    refine wp_getR (4) d_65_16 fl_6_112 rfl rfl (by assumption) (by assumption) ?_
    refine wp_iload d_65_19 (by rfl) ?_
    refine wp_iald d_65_21 (Or.inl (by assumption)) (by omega) (by omega) (fun x_21 e_21 r_21 => ?_)
    subst e_21
    refine wp_iadd d_65_22 ?_
    refine wp_aload d_65_23 (by rfl) ?_
    refine wp_aload_n d_65_25 (by rfl) ?_
    refine wp_getR (3) d_65_26 fl_6_91 rfl rfl (by assumption) (by assumption) ?_
    refine wp_iload d_65_29 (by rfl) ?_
    refine wp_iald d_65_31 (Or.inl (by assumption)) (by omega) (by omega) (fun x_31 e_31 r_31 => ?_)
    subst e_31
    refine wp_iald d_65_32 (Or.inl (by assumption)) (by omega) (by omega) (fun x_32 e_32 r_32 => ?_)
    subst e_32
    refine wp_icmp_gt (tgt := 39) d_65_33 (by decide) (by omega) (by omega) (fun c_33 => ?_) (fun c_33 => ?_)
    · refine wp_iinc d_65_39 (by rfl) (by decide) ?_
      refine wp_goto (tgt := 5) d_65_42 (by decide) ?_
      refine wp_to [some (vR (some (w + 146))), some (vR (some a)), some (vI b0), some (vI i), some (vR (some ra)), some (vI (k + 1))] ⟨rfl, rfl, rfl, rfl, rfl, rfl, trivial⟩ ?_
      refine ih (k + 1) (by omega) (by omega) (fun j z0 z1 => ?_)
      by_cases z : j = k
      · subst z; omega
      · exact I j z0 (by omega)
    · refine wp_iload d_65_36 (by rfl) ?_
      refine wp_iret d_65_38 rfl ?_
      first | exact absurd c_11 (by omega) | exact ⟨_, rfl, rfl, Or.inl ⟨e1, by omega, by omega⟩⟩
set_option maxRecDepth 100000 in
set_option maxHeartbeats 4000000 in
theorem s_alightingOf {w a ra : Nat} {n b0 i : Int} {h : Hp} (hT0 : TripOk h n a) (hn : n ≤ 16) (kr : kd h ra = 100) (lr : ln h ra = 16) (hb0 : 0 ≤ b0 ∧ b0 ≤ 600000) (hi_ : 0 ≤ i ∧ i < hi h a 7) : wp 65 0 (entL [vR (some (w + 146)), vR (some a), vI b0, vI i, vR (some ra)] (mL 65)) [] h (fun v h' => ∃ z, v = some (vI z) ∧ h' = h ∧ ((i < z ∧ z < hi h a 7 ∧ b0 + hi h (a + 2) z ≤ hi h ra (hi h (a + 1) z)) ∨ (z = -1 ∧ ∀ j, i < j → j < hi h a 7 → hi h ra (hi h (a + 1) j) < b0 + hi h (a + 2) j))) noX := by
  have t4 := hT0.2.2.2.1
  refine wp_iload_n d_65_0 (by rfl) ?_
  refine wp_iconst d_65_1 ?_
  refine wp_iadd d_65_2 ?_
  refine wp_istore d_65_3 (by decide) ?_
  refine wp_to [some (vR (some (w + 146))), some (vR (some a)), some (vI b0), some (vI i), some (vR (some ra)), some (vI (i + 1))] ⟨rfl, rfl, rfl, rfl, rfl, rfl, trivial⟩ ?_
  exact l_alightingOf hT0 hn kr lr hb0 hi_ (hi h a 7 - (i + 1)).toNat (i + 1) (by omega) (by omega) (fun j z0 z1 => by omega)
set_option maxRecDepth 100000 in
set_option maxHeartbeats 4000000 in
theorem l_takeI {w X m a : Nat} {q : Int} {h : Hp} (hS : Sk h w) (hT : TT h w X) (hR : RunsOk h w) (hz : 0 ≤ szJ h w ∧ szJ h w < 13) (hsp : 0 ≤ spJ h w (szJ h w) ∧ spJ h w (szJ h w) < hi h (w + 1) 4) (htm : 0 ≤ tmJ h w (szJ h w) ∧ tmJ h w (szJ h w) ≤ 1000000) (htt : -1 ≤ hi h (w + 146) 12) (hff : 0 ≤ hi h (w + 146) 13 ∧ hi h (w + 146) 13 ≤ 1000000) (hm : m + 1 < 7) (hq : 0 ≤ q ∧ q < hi h (w + 6) 3) (ga : hr h (w + 7) q = some a) {Q : Option AV → Hp → Prop} (kS : ∀ h', TkR h h' w m → Q (some (vI 1)) h') (kN : NoR h w m (rnB h a (hi h (w + 9) q)) → wp 62 34 [some (vR (some (w + 146))), some (vR (some (w + 1))), some (vR (some (w + 6))), some (vR (some (w + 30))), some (vI ((m : Int) + 1)), some (vI (spJ h w (szJ h w))), some (vI (snJ h w (szJ h w))), some (vI (q + 1)), none, none, none, none] [] h Q noX) : ∀ (mm : Nat) (k : Int), k + mm = hi h a 7 → 0 ≤ k → (∀ i, 0 ≤ i → i < k → ∀ j, i < j → j < hi h a 7 → hi h (a + 1) i = spJ h w (szJ h w) → snJ h w (szJ h w) ≤ hi h (w + 9) q + hi h (a + 3) i → hi h (w + 40 + m) (hi h (a + 1) j) < hi h (w + 9) q + hi h (a + 2) j) → wp 62 64 [some (vR (some (w + 146))), some (vR (some (w + 1))), some (vR (some (w + 6))), some (vR (some (w + 30))), some (vI ((m : Int) + 1)), some (vI (spJ h w (szJ h w))), some (vI (snJ h w (szJ h w))), some (vI (q)), some (vR (some a)), some (vI (hi h (w + 9) q)), some (vI (k)), none] [] h Q noX := by
  intro mm
  induction mm with
  | zero =>
    intro k e0 e1 I
    have hS9 := hS
    have hrc := hR.1
    obtain ⟨t, a', g1, g2, g3, g4, g5, g6⟩ := hR.2 q hq.1 hq.2
    cases ga.symm.trans g4
    obtain ⟨a'', c, z1, z2, z3, hTr, z5, z6, z7, z8, z9⟩ := hT.2.2.2.2.2.1 t g1 g2
    cases g3.symm.trans z1
    have hX := hT.2.2.2.2.2.2
    have hn := hT.1
    obtain ⟨aq, y1, y2, y3, y4, y5, y6⟩ := hR.at hT hq.1 hq.2
    cases ga.symm.trans y1
    have hT0 := hTr
    obtain ⟨⟨k1, k2, k3, k4, k5, k6, k7⟩, ⟨n1, ⟨n2, n3, n4, n5⟩, ⟨n6, n7⟩, ⟨n8, n9⟩, ⟨n10, n11⟩, n12, n13⟩, ⟨m1, ⟨m2, m3, m4⟩, ⟨m5, m6⟩, ⟨m7, m8⟩, m9, m10⟩, ⟨o1, ⟨o2, o3, o4⟩, ⟨o5, o6, o7⟩, ⟨o8, o9, o10⟩, o11, o12⟩, ⟨b1, ⟨b2, b3⟩, ⟨b4, b5, b6⟩, b7, b8, b9⟩, ⟨j1, ⟨j2, j3, j4, j5, j6, j7, j8⟩, ⟨j9, j10⟩, j11⟩⟩ := hS
    obtain ⟨t1, ⟨u1, u2, u3, u4⟩, ⟨⟨v1, v2⟩, ⟨v3, v4⟩, ⟨v5, v6⟩, v7, v8⟩, t4, t5, t6, t7, t8⟩ := hTr
    obtain ⟨r4, r5, r6⟩ := b9 m (by omega)
    have c1 : (m : Int) + 1 - 1 = (m : Int) := by omega
    have r4' : hr h (w + 39) ((m : Int) + 1 - 1) = some (w + 40 + m) := by rw [c1]; exact r4
    have cN : (∀ i, 0 ≤ i → i < hi h a 7 - 1 → ∀ j, i < j → j < hi h a 7 → hi h (a + 1) i = spJ h w (szJ h w) → snJ h w (szJ h w) ≤ hi h (w + 9) q + hi h (a + 3) i → hi h (w + 40 + m) (hi h (a + 1) j) < hi h (w + 9) q + hi h (a + 2) j) → NoR h w m (rnB h a (hi h (w + 9) q)) := fun z i j i0 i1 i2 i3 i4 => z i i0 (by have i2' : j < hi h a 7 := i2; omega) j i1 i2 i3 i4
    refine wp_iload d_62_64 (by rfl) ?_
    refine wp_aload d_62_66 (by rfl) ?_
    refine wp_getI (7) d_62_68 fl_6_90 rfl rfl (by assumption) (fun x_68 e_68 r_68 => ?_)
    refine wp_iconst d_62_71 ?_
    refine wp_isub d_62_72 ?_
    refine wp_icmp_ge (tgt := 159) d_62_73 (by decide) (by omega) (by omega) (fun c_73 => ?_) (fun c_73 => ?_)
    rotate_left
    · exact absurd c_73 (by omega)
    refine wp_iinc d_62_159 (by rfl) (by decide) ?_
    refine wp_goto (tgt := 34) d_62_162 (by decide) ?_
    refine wp_to [some (vR (some (w + 146))), some (vR (some (w + 1))), some (vR (some (w + 6))), some (vR (some (w + 30))), some (vI ((m : Int) + 1)), some (vI (spJ h w (szJ h w))), some (vI (snJ h w (szJ h w))), some (vI (q + 1)), none, none, none, none] ⟨rfl, rfl, rfl, rfl, rfl, rfl, rfl, rfl, trivial⟩ ?_
    exact kN (cN (fun i i0 i1 => I i i0 (by omega)))
  | succ mm ih =>
    intro k e0 e1 I
    have hS9 := hS
    have hrc := hR.1
    obtain ⟨t, a', g1, g2, g3, g4, g5, g6⟩ := hR.2 q hq.1 hq.2
    cases ga.symm.trans g4
    obtain ⟨a'', c, z1, z2, z3, hTr, z5, z6, z7, z8, z9⟩ := hT.2.2.2.2.2.1 t g1 g2
    cases g3.symm.trans z1
    have hX := hT.2.2.2.2.2.2
    have hn := hT.1
    obtain ⟨aq, y1, y2, y3, y4, y5, y6⟩ := hR.at hT hq.1 hq.2
    cases ga.symm.trans y1
    have hT0 := hTr
    obtain ⟨⟨k1, k2, k3, k4, k5, k6, k7⟩, ⟨n1, ⟨n2, n3, n4, n5⟩, ⟨n6, n7⟩, ⟨n8, n9⟩, ⟨n10, n11⟩, n12, n13⟩, ⟨m1, ⟨m2, m3, m4⟩, ⟨m5, m6⟩, ⟨m7, m8⟩, m9, m10⟩, ⟨o1, ⟨o2, o3, o4⟩, ⟨o5, o6, o7⟩, ⟨o8, o9, o10⟩, o11, o12⟩, ⟨b1, ⟨b2, b3⟩, ⟨b4, b5, b6⟩, b7, b8, b9⟩, ⟨j1, ⟨j2, j3, j4, j5, j6, j7, j8⟩, ⟨j9, j10⟩, j11⟩⟩ := hS
    obtain ⟨t1, ⟨u1, u2, u3, u4⟩, ⟨⟨v1, v2⟩, ⟨v3, v4⟩, ⟨v5, v6⟩, v7, v8⟩, t4, t5, t6, t7, t8⟩ := hTr
    obtain ⟨r4, r5, r6⟩ := b9 m (by omega)
    have c1 : (m : Int) + 1 - 1 = (m : Int) := by omega
    have r4' : hr h (w + 39) ((m : Int) + 1 - 1) = some (w + 40 + m) := by rw [c1]; exact r4
    have cN : (∀ i, 0 ≤ i → i < hi h a 7 - 1 → ∀ j, i < j → j < hi h a 7 → hi h (a + 1) i = spJ h w (szJ h w) → snJ h w (szJ h w) ≤ hi h (w + 9) q + hi h (a + 3) i → hi h (w + 40 + m) (hi h (a + 1) j) < hi h (w + 9) q + hi h (a + 2) j) → NoR h w m (rnB h a (hi h (w + 9) q)) := fun z i j i0 i1 i2 i3 i4 => z i i0 (by have i2' : j < hi h a 7 := i2; omega) j i1 i2 i3 i4
    have tk := t5 k e1 (by omega)
    have sn0 : 0 ≤ snJ h w (szJ h w) ∧ snJ h w (szJ h w) ≤ 1000030 := by
      unfold snJ
      have := hT.2.2.2.1 (spJ h w (szJ h w))
      split <;> omega
    refine wp_iload d_62_64 (by rfl) ?_
    refine wp_aload d_62_66 (by rfl) ?_
    refine wp_getI (7) d_62_68 fl_6_90 rfl rfl (by assumption) (fun x_68 e_68 r_68 => ?_)
    subst e_68
    refine wp_iconst d_62_71 ?_
    refine wp_isub d_62_72 ?_
    refine wp_icmp_ge (tgt := 159) d_62_73 (by decide) (by omega) (by omega) (fun c_73 => ?_) (fun c_73 => ?_)
    · refine wp_iinc d_62_159 (by rfl) (by decide) ?_
      refine wp_goto (tgt := 34) d_62_162 (by decide) ?_
      refine wp_to [some (vR (some (w + 146))), some (vR (some (w + 1))), some (vR (some (w + 6))), some (vR (some (w + 30))), some (vI ((m : Int) + 1)), some (vI (spJ h w (szJ h w))), some (vI (snJ h w (szJ h w))), some (vI (q + 1)), none, none, none, none] ⟨rfl, rfl, rfl, rfl, rfl, rfl, rfl, rfl, trivial⟩ ?_
      exact kN (cN (fun i i0 i1 => I i i0 (by omega)))
    · refine wp_aload d_62_76 (by rfl) ?_
      refine wp_getR (3) d_62_78 fl_6_91 rfl rfl (by assumption) (by assumption) ?_
      refine wp_iload d_62_81 (by rfl) ?_
      refine wp_iald d_62_83 (Or.inl (by assumption)) (by omega) (by omega) (fun x_83 e_83 r_83 => ?_)
      subst e_83
      refine wp_iload d_62_84 (by rfl) ?_
      refine wp_icmp_ne (tgt := 153) d_62_86 (by decide) (by omega) (by omega) (fun c_86 => ?_) (fun c_86 => ?_)
      · refine wp_iinc d_62_153 (by rfl) (by decide) ?_
        refine wp_goto (tgt := 64) d_62_156 (by decide) ?_
        refine wp_to [some (vR (some (w + 146))), some (vR (some (w + 1))), some (vR (some (w + 6))), some (vR (some (w + 30))), some (vI ((m : Int) + 1)), some (vI (spJ h w (szJ h w))), some (vI (snJ h w (szJ h w))), some (vI (q)), some (vR (some a)), some (vI (hi h (w + 9) q)), some (vI (k + 1)), none] ⟨rfl, rfl, rfl, rfl, rfl, rfl, rfl, rfl, rfl, rfl, rfl, trivial⟩ ?_
        refine ih (k + 1) (by omega) (by omega) (fun i i0 i1 j j0 j1 j2 j3 => ?_)
        by_cases z : i = k
        · subst z
          first
            | (exfalso; omega)
            | exact (u_121.resolve_left (fun y => by omega)).2 j j0 j1
        · exact I i i0 (by omega) j j0 j1 j2 j3
      · refine wp_iload d_62_89 (by rfl) ?_
        refine wp_aload d_62_91 (by rfl) ?_
        refine wp_getR (5) d_62_93 fl_6_94 rfl rfl (by assumption) (by assumption) ?_
        refine wp_iload d_62_96 (by rfl) ?_
        refine wp_iald d_62_98 (Or.inl (by assumption)) (by omega) (by omega) (fun x_98 e_98 r_98 => ?_)
        subst e_98
        refine wp_iadd d_62_99 ?_
        refine wp_iload d_62_100 (by rfl) ?_
        refine wp_icmp_lt (tgt := 153) d_62_102 (by decide) (by omega) (by omega) (fun c_102 => ?_) (fun c_102 => ?_)
        · refine wp_iinc d_62_153 (by rfl) (by decide) ?_
          refine wp_goto (tgt := 64) d_62_156 (by decide) ?_
          refine wp_to [some (vR (some (w + 146))), some (vR (some (w + 1))), some (vR (some (w + 6))), some (vR (some (w + 30))), some (vI ((m : Int) + 1)), some (vI (spJ h w (szJ h w))), some (vI (snJ h w (szJ h w))), some (vI (q)), some (vR (some a)), some (vI (hi h (w + 9) q)), some (vI (k + 1)), none] ⟨rfl, rfl, rfl, rfl, rfl, rfl, rfl, rfl, rfl, rfl, rfl, trivial⟩ ?_
          refine ih (k + 1) (by omega) (by omega) (fun i i0 i1 j j0 j1 j2 j3 => ?_)
          by_cases z : i = k
          · subst z
            first
              | (exfalso; omega)
              | exact (u_121.resolve_left (fun y => by omega)).2 j j0 j1
          · exact I i i0 (by omega) j j0 j1 j2 j3
        · refine wp_aload_n d_62_105 (by rfl) ?_
          refine wp_aload d_62_106 (by rfl) ?_
          refine wp_iload d_62_108 (by rfl) ?_
          refine wp_iload d_62_110 (by rfl) ?_
          refine wp_aload_n d_62_112 (by rfl) ?_
          refine wp_getR (1) d_62_113 fl_6_97 rfl rfl (by assumption) (by assumption) ?_
          refine wp_iload d_62_116 (by rfl) ?_
          refine wp_iconst d_62_118 ?_
          refine wp_isub d_62_119 ?_
          refine wp_aald d_62_120 (by first | omega | (simp only [kd_setI, kd_cpI]; omega)) (by first | omega | (simp only [kd_setI, kd_cpI]; omega)) (by apply isRf_of; assumption; rfl) (by omega) (by omega) (by assumption) ?_
          refine wp_callV d_62_121 c_62_103 rfl (by rfl) (by rfl) ⟨6, rfl, rfl, by decide⟩ (by assumption) (by exact Nat.le_of_ble_eq_true rfl) (by exact Nat.le_of_ble_eq_true rfl) (s_alightingOf (w := w) hT0 hn.2 r5 r6 ⟨y5, y6⟩ ⟨e1, by omega⟩) (fun v_121 h_121 q_121 => ?_) (fun _ _ q => q.elim)
          obtain ⟨z_121, rfl, y_121, u_121⟩ := q_121
          replace y_121 := y_121.symm
          subst y_121
          refine wp_istore d_62_124 (by decide) ?_
          refine wp_iload d_62_126 (by rfl) ?_
          refine wp_iconst d_62_128 ?_
          refine wp_icmp_eq (tgt := 153) d_62_129 (by decide) (by omega) (by omega) (fun c_129 => ?_) (fun c_129 => ?_)
          · refine wp_iinc d_62_153 (by rfl) (by decide) ?_
            refine wp_goto (tgt := 64) d_62_156 (by decide) ?_
            refine wp_to [some (vR (some (w + 146))), some (vR (some (w + 1))), some (vR (some (w + 6))), some (vR (some (w + 30))), some (vI ((m : Int) + 1)), some (vI (spJ h w (szJ h w))), some (vI (snJ h w (szJ h w))), some (vI (q)), some (vR (some a)), some (vI (hi h (w + 9) q)), some (vI (k + 1)), none] ⟨rfl, rfl, rfl, rfl, rfl, rfl, rfl, rfl, rfl, rfl, rfl, trivial⟩ ?_
            refine ih (k + 1) (by omega) (by omega) (fun i i0 i1 j j0 j1 j2 j3 => ?_)
            by_cases z : i = k
            · subst z
              first
                | (exfalso; omega)
                | exact (u_121.resolve_left (fun y => by omega)).2 j j0 j1
            · exact I i i0 (by omega) j j0 j1 j2 j3
          · obtain ⟨j0, j1, j2⟩ := u_121.resolve_right (fun y => by omega)
            refine wp_aload_n d_62_132 (by rfl) ?_
            refine wp_aload d_62_133 (by rfl) ?_
            refine wp_aload_n d_62_135 (by rfl) ?_
            refine wp_getR (1) d_62_136 fl_6_107 rfl rfl (by assumption) (by assumption) ?_
            refine wp_iload d_62_139 (by rfl) ?_
            refine wp_iald d_62_141 (Or.inl (by assumption)) (by omega) (by omega) (fun x_141 e_141 r_141 => ?_)
            subst e_141
            refine wp_iload d_62_142 (by rfl) ?_
            refine wp_iload d_62_144 (by rfl) ?_
            refine wp_iload d_62_146 (by rfl) ?_
            refine wp_callV d_62_148 c_62_108 rfl (by rfl) (by rfl) ⟨6, rfl, rfl, by decide⟩ (by assumption) (by exact Nat.le_of_ble_eq_true rfl) (by exact Nat.le_of_ble_eq_true rfl) (s_addRide hS9 hT0 hn.2 z2 (by omega) (by omega) ⟨g5.1.1, g5.1.2⟩ hz ⟨e1, by omega⟩ ⟨by omega, j1⟩ htt hff ⟨sn0.1, by rw [← g6]; omega⟩) (fun v_148 h_148 q_148 => ?_) (fun _ _ q => q.elim)
            obtain ⟨rfl, tt, tt0, AP⟩ := q_148
            refine wp_iconst d_62_151 ?_
            refine wp_zret d_62_152 rfl (by omega) ?_
            exact kS _ ⟨t, _, k, z_121, tt, a, ⟨g1, g2⟩, g3, g5, by rw [← g6]; exact ⟨q, a, hq.1, hq.2, ga, rfl⟩, ⟨e1, j0, j1⟩, by omega, by rw [← g6]; omega, by rw [← g6]; exact j2, tt0, AP⟩
set_option maxRecDepth 100000 in
set_option maxHeartbeats 4000000 in
theorem l_takeO {w X m : Nat} {h : Hp} (hS : Sk h w) (hT : TT h w X) (hR : RunsOk h w) (hz : 0 ≤ szJ h w ∧ szJ h w < 13) (hsp : 0 ≤ spJ h w (szJ h w) ∧ spJ h w (szJ h w) < hi h (w + 1) 4) (htm : 0 ≤ tmJ h w (szJ h w) ∧ tmJ h w (szJ h w) ≤ 1000000) (htt : -1 ≤ hi h (w + 146) 12) (hff : 0 ≤ hi h (w + 146) 13 ∧ hi h (w + 146) 13 ≤ 1000000) (hm : m + 1 < 7) {Q : Option AV → Hp → Prop} (kS : ∀ h', TkR h h' w m → Q (some (vI 1)) h') (kE : (∀ r, Rc h w r → NoR h w m r) → Q (some (vI 0)) h) : ∀ (mm : Nat) (q : Int), q + mm = hi h (w + 6) 3 → 0 ≤ q → (∀ k r, k < q → RcI h w k r → NoR h w m r) → wp 62 34 [some (vR (some (w + 146))), some (vR (some (w + 1))), some (vR (some (w + 6))), some (vR (some (w + 30))), some (vI ((m : Int) + 1)), some (vI (spJ h w (szJ h w))), some (vI (snJ h w (szJ h w))), some (vI (q)), none, none, none, none] [] h Q noX := by
  intro mm
  induction mm with
  | zero =>
    intro q e0 e1 I
    have hS9 := hS
    have hrc := hR.1
    obtain ⟨⟨k1, k2, k3, k4, k5, k6, k7⟩, ⟨n1, ⟨n2, n3, n4, n5⟩, ⟨n6, n7⟩, ⟨n8, n9⟩, ⟨n10, n11⟩, n12, n13⟩, ⟨m1, ⟨m2, m3, m4⟩, ⟨m5, m6⟩, ⟨m7, m8⟩, m9, m10⟩, ⟨o1, ⟨o2, o3, o4⟩, ⟨o5, o6, o7⟩, ⟨o8, o9, o10⟩, o11, o12⟩, ⟨b1, ⟨b2, b3⟩, ⟨b4, b5, b6⟩, b7, b8, b9⟩, ⟨j1, ⟨j2, j3, j4, j5, j6, j7, j8⟩, ⟨j9, j10⟩, j11⟩⟩ := hS
    refine wp_iload d_62_34 (by rfl) ?_
    refine wp_aload_n d_62_36 (by rfl) ?_
    refine wp_getI (3) d_62_37 fl_6_83 rfl rfl (by assumption) (fun x_37 e_37 r_37 => ?_)
    refine wp_icmp_ge (tgt := 165) d_62_40 (by decide) (by omega) (by omega) (fun c_40 => ?_) (fun c_40 => ?_)
    rotate_left
    · exact absurd c_40 (by omega)
    refine wp_iconst d_62_165 ?_
    refine wp_zret d_62_166 rfl (by omega) ?_
    refine kE (fun r z => ?_)
    obtain ⟨k, z0, z1⟩ := Rc_iff.mp z
    exact I k r (by omega) z1
  | succ mm ih =>
    intro q e0 e1 I
    have hS9 := hS
    have hrc := hR.1
    obtain ⟨⟨k1, k2, k3, k4, k5, k6, k7⟩, ⟨n1, ⟨n2, n3, n4, n5⟩, ⟨n6, n7⟩, ⟨n8, n9⟩, ⟨n10, n11⟩, n12, n13⟩, ⟨m1, ⟨m2, m3, m4⟩, ⟨m5, m6⟩, ⟨m7, m8⟩, m9, m10⟩, ⟨o1, ⟨o2, o3, o4⟩, ⟨o5, o6, o7⟩, ⟨o8, o9, o10⟩, o11, o12⟩, ⟨b1, ⟨b2, b3⟩, ⟨b4, b5, b6⟩, b7, b8, b9⟩, ⟨j1, ⟨j2, j3, j4, j5, j6, j7, j8⟩, ⟨j9, j10⟩, j11⟩⟩ := hS
    obtain ⟨a, g1, g2, g3, g4, g5, g6⟩ := hR.at hT e1 (by omega)
    have ka : kd h a = 12 := g4.1
    refine wp_iload d_62_34 (by rfl) ?_
    refine wp_aload_n d_62_36 (by rfl) ?_
    refine wp_getI (3) d_62_37 fl_6_83 rfl rfl (by assumption) (fun x_37 e_37 r_37 => ?_)
    subst e_37
    refine wp_icmp_ge (tgt := 165) d_62_40 (by decide) (by omega) (by omega) (fun c_40 => ?_) (fun c_40 => ?_)
    · exact absurd c_40 (by omega)
    refine wp_aload_n d_62_43 (by rfl) ?_
    refine wp_getR (0) d_62_44 fl_6_86 rfl rfl (by assumption) (by assumption) ?_
    refine wp_iload d_62_47 (by rfl) ?_
    refine wp_aald d_62_49 (by first | omega | (simp only [kd_setI, kd_cpI]; omega)) (by first | omega | (simp only [kd_setI, kd_cpI]; omega)) (by apply isRf_of; assumption; rfl) (by omega) (by omega) (by assumption) ?_
    refine wp_astore d_62_50 (by decide) ?_
    refine wp_aload_n d_62_52 (by rfl) ?_
    refine wp_getR (2) d_62_53 fl_6_87 rfl rfl (by assumption) (by assumption) ?_
    refine wp_iload d_62_56 (by rfl) ?_
    refine wp_iald d_62_58 (Or.inl (by assumption)) (by omega) (by omega) (fun x_58 e_58 r_58 => ?_)
    subst e_58
    refine wp_istore d_62_59 (by decide) ?_
    refine wp_iconst d_62_61 ?_
    refine wp_istore d_62_62 (by decide) ?_
    refine wp_to [some (vR (some (w + 146))), some (vR (some (w + 1))), some (vR (some (w + 6))), some (vR (some (w + 30))), some (vI ((m : Int) + 1)), some (vI (spJ h w (szJ h w))), some (vI (snJ h w (szJ h w))), some (vI (q)), some (vR (some a)), some (vI (hi h (w + 9) q)), some (vI (0)), none] ⟨rfl, rfl, rfl, rfl, rfl, rfl, rfl, rfl, rfl, rfl, rfl, trivial⟩ ?_
    refine l_takeI hS9 hT hR hz hsp htm htt hff hm ⟨e1, by omega⟩ g1 kS (fun z => ih (q + 1) (by omega) (by omega) (fun k r k0 k1 => ?_)) (hi h a 7).toNat 0 (by have := g4.2.2.2.1; omega) (by omega) (fun i i0 i1 => by omega)
    by_cases y : k = q
    · subst y
      obtain ⟨-, a', y1, rfl⟩ := k1
      cases y1.symm.trans g1
      exact z
    · exact I k r (by omega) k1
set_option maxRecDepth 100000 in
set_option maxHeartbeats 4000000 in
theorem s_takeRide {w X m : Nat} {h : Hp} (hS : Sk h w) (hT : TT h w X) (hR : RunsOk h w) (hz : 0 ≤ szJ h w ∧ szJ h w < 13) (hsp : 0 ≤ spJ h w (szJ h w) ∧ spJ h w (szJ h w) < hi h (w + 1) 4) (htm : 0 ≤ tmJ h w (szJ h w) ∧ tmJ h w (szJ h w) ≤ 1000000) (htt : -1 ≤ hi h (w + 146) 12) (hff : 0 ≤ hi h (w + 146) 13 ∧ hi h (w + 146) 13 ≤ 1000000) (hm : m + 1 < 7) : wp 62 0 (entL [vR (some (w + 146)), vR (some (w + 1)), vR (some (w + 6)), vR (some (w + 30)), vI ((m : Int) + 1)] (mL 62)) [] h (fun v h' => ∃ z, v = some (vI z) ∧ ((z = 1 ∧ TkR h h' w m) ∨ (z = 0 ∧ h' = h ∧ ∀ r, Rc h w r → NoR h w m r))) noX := by
  have hS9 := hS
  obtain ⟨⟨k1, k2, k3, k4, k5, k6, k7⟩, ⟨n1, ⟨n2, n3, n4, n5⟩, ⟨n6, n7⟩, ⟨n8, n9⟩, ⟨n10, n11⟩, n12, n13⟩, ⟨m1, ⟨m2, m3, m4⟩, ⟨m5, m6⟩, ⟨m7, m8⟩, m9, m10⟩, ⟨o1, ⟨o2, o3, o4⟩, ⟨o5, o6, o7⟩, ⟨o8, o9, o10⟩, o11, o12⟩, ⟨b1, ⟨b2, b3⟩, ⟨b4, b5, b6⟩, b7, b8, b9⟩, ⟨j1, ⟨j2, j3, j4, j5, j6, j7, j8⟩, ⟨j9, j10⟩, j11⟩⟩ := hS
  have hn := hT.1
  have hc := hT.2.2.2.1 (spJ h w (szJ h w))
  refine wp_aload_n d_62_0 (by rfl) ?_
  refine wp_callV d_62_1 c_62_59 rfl (by rfl) (by rfl) ⟨6, rfl, rfl, by decide⟩ (by assumption) (by exact Nat.le_of_ble_eq_true rfl) (by exact Nat.le_of_ble_eq_true rfl) (s_stopNow hS9 ⟨hz.1, by omega⟩) (fun v_1 h_1 q_1 => ?_) (fun _ _ q => q.elim)
  obtain ⟨rfl, z_1⟩ := q_1
  replace z_1 := z_1.symm
  subst z_1
  refine wp_istore d_62_4 (by decide) ?_
  refine wp_aload_n d_62_6 (by rfl) ?_
  refine wp_callV d_62_7 c_62_71 rfl (by rfl) (by rfl) ⟨6, rfl, rfl, by decide⟩ (by assumption) (by exact Nat.le_of_ble_eq_true rfl) (by exact Nat.le_of_ble_eq_true rfl) (s_timeNow hS9 ⟨hz.1, by omega⟩) (fun v_7 h_7 q_7 => ?_) (fun _ _ q => q.elim)
  obtain ⟨rfl, z_7⟩ := q_7
  replace z_7 := z_7.symm
  subst z_7
  refine wp_aload_n d_62_10 (by rfl) ?_
  refine wp_callV d_62_11 c_62_74 rfl (by rfl) (by rfl) ⟨6, rfl, rfl, by decide⟩ (by assumption) (by exact Nat.le_of_ble_eq_true rfl) (by exact Nat.le_of_ble_eq_true rfl) (s_isAfterRide hS9 ⟨hz.1, by omega⟩) (fun v_11 h_11 q_11 => ?_) (fun _ _ q => q.elim)
  obtain ⟨z_11, rfl, y_11, u_11⟩ := q_11
  replace y_11 := y_11.symm
  subst y_11
  refine wp_if_eq (tgt := 27) d_62_14 (by decide) (by omega) (fun c_14 => ?_) (fun c_14 => ?_)
  · refine wp_iconst d_62_27 ?_
    refine wp_iadd d_62_28 ?_
    refine wp_istore d_62_29 (by decide) ?_
    refine wp_iconst d_62_31 ?_
    refine wp_istore d_62_32 (by decide) ?_
    have es : snJ h w (szJ h w) = tmJ h w (szJ h w) + (if afJ h w (szJ h w) then hi h (w + 2) (spJ h w (szJ h w)) else 0) := rfl
    first
      | rw [if_pos (u_11.resolve_right (fun y => by omega)).2] at es
      | rw [if_neg (u_11.resolve_left (fun y => by omega)).2] at es
    rw [← es]
    refine wp_to [some (vR (some (w + 146))), some (vR (some (w + 1))), some (vR (some (w + 6))), some (vR (some (w + 30))), some (vI ((m : Int) + 1)), some (vI (spJ h w (szJ h w))), some (vI (snJ h w (szJ h w))), some (vI (0)), none, none, none, none] ⟨rfl, rfl, rfl, rfl, rfl, rfl, rfl, rfl, trivial⟩ ?_
    have hrc := hR.1
    exact l_takeO hS9 hT hR hz hsp htm htt hff hm (fun h' z => ⟨1, rfl, Or.inl ⟨rfl, z⟩⟩) (fun z => ⟨0, rfl, Or.inr ⟨rfl, rfl, z⟩⟩) (hi h (w + 6) 3).toNat 0 (by omega) (by omega) (fun k r k0 k1 => by have := k1.1; omega)
  · refine wp_aload_n d_62_17 (by rfl) ?_
    refine wp_getR (0) d_62_18 fl_6_78 rfl rfl (by assumption) (by assumption) ?_
    refine wp_iload d_62_21 (by rfl) ?_
    refine wp_iald d_62_23 (Or.inl (by assumption)) (by omega) (by omega) (fun x_23 e_23 r_23 => ?_)
    subst e_23
    refine wp_goto (tgt := 28) d_62_24 (by decide) ?_
    refine wp_iadd d_62_28 ?_
    refine wp_istore d_62_29 (by decide) ?_
    refine wp_iconst d_62_31 ?_
    refine wp_istore d_62_32 (by decide) ?_
    have es : snJ h w (szJ h w) = tmJ h w (szJ h w) + (if afJ h w (szJ h w) then hi h (w + 2) (spJ h w (szJ h w)) else 0) := rfl
    first
      | rw [if_pos (u_11.resolve_right (fun y => by omega)).2] at es
      | rw [if_neg (u_11.resolve_left (fun y => by omega)).2] at es
    rw [← es]
    refine wp_to [some (vR (some (w + 146))), some (vR (some (w + 1))), some (vR (some (w + 6))), some (vR (some (w + 30))), some (vI ((m : Int) + 1)), some (vI (spJ h w (szJ h w))), some (vI (snJ h w (szJ h w))), some (vI (0)), none, none, none, none] ⟨rfl, rfl, rfl, rfl, rfl, rfl, rfl, rfl, trivial⟩ ?_
    have hrc := hR.1
    exact l_takeO hS9 hT hR hz hsp htm htt hff hm (fun h' z => ⟨1, rfl, Or.inl ⟨rfl, z⟩⟩) (fun z => ⟨0, rfl, Or.inr ⟨rfl, rfl, z⟩⟩) (hi h (w + 6) 3).toNat 0 (by omega) (by omega) (fun k r k0 k1 => by have := k1.1; omega)
set_option maxRecDepth 100000 in
set_option maxHeartbeats 4000000 in
theorem l_takeW {w X L : Nat} {h : Hp} (hS : Sk h w) (hT : TT h w X) (hz : 0 ≤ szJ h w ∧ szJ h w < 13) (hsp : 0 ≤ spJ h w (szJ h w) ∧ spJ h w (szJ h w) < hi h (w + 1) 4) (htm : 0 ≤ tmJ h w (szJ h w) ∧ tmJ h w (szJ h w) ≤ 1000000) (hL : L < 7) (hD : -1000000000 ≤ dlB h w ∧ dlB h w ≤ 1000000) (hb : Bb (hi h (w + 1) 4) (hi h (w + 32 + L))) (haf : 0 < szJ h w → afJ h w (szJ h w)) : ∀ (mm : Nat) (k : Int), k + mm = hi h (w + 1) 5 → 0 ≤ k → (∀ q s' m', q < k → WyI h w q (spJ h w (szJ h w)) s' m' → lat (tgB h w) (dlB h w) (hi h (w + 32 + L)) s' < tmJ h w (szJ h w) + m') → wp 68 25 [some (vR (some (w + 146))), some (vR (some (w + 1))), some (vR (some (w + 30))), some (vI (L : Int)), some (vI (tmJ h w (szJ h w))), some (vI (k)), none, none] [] h (fun v h' => ∃ z, v = some (vI z) ∧ ((z = 1 ∧ TkW h h' w L) ∨ (z = 0 ∧ h' = h ∧ ((0 < szJ h w ∧ ¬ afJ h w (szJ h w)) ∨ ∀ s' mm, Wy h w (spJ h w (szJ h w)) s' mm → lat (tgB h w) (dlB h w) (hi h (w + 32 + L)) s' < tmJ h w (szJ h w) + mm)))) noX := by
  intro mm
  induction mm with
  | zero =>
    intro k e0 e1 I
    have hS9 := hS
    have hn := hT.1
    have hn5 := hT.2.1
    have hX := hT.2.2.2.2.2.2
    have sz0 : szJ h w = hi h (w + 146) 4 := rfl
    obtain ⟨⟨k1, k2, k3, k4, k5, k6, k7⟩, ⟨n1, ⟨n2, n3, n4, n5⟩, ⟨n6, n7⟩, ⟨n8, n9⟩, ⟨n10, n11⟩, n12, n13⟩, ⟨m1, ⟨m2, m3, m4⟩, ⟨m5, m6⟩, ⟨m7, m8⟩, m9, m10⟩, ⟨o1, ⟨o2, o3, o4⟩, ⟨o5, o6, o7⟩, ⟨o8, o9, o10⟩, o11, o12⟩, ⟨b1, ⟨b2, b3⟩, ⟨b4, b5, b6⟩, b7, b8, b9⟩, ⟨j1, ⟨j2, j3, j4, j5, j6, j7, j8⟩, ⟨j9, j10⟩, j11⟩⟩ := hS
    refine wp_iload d_68_25 (by rfl) ?_
    refine wp_aload_n d_68_27 (by rfl) ?_
    refine wp_getI (5) d_68_28 fl_6_130 rfl rfl (by assumption) (fun x_28 e_28 r_28 => ?_)
    refine wp_icmp_ge (tgt := 112) d_68_31 (by decide) (by omega) (by omega) (fun c_31 => ?_) (fun c_31 => ?_)
    rotate_left
    · exact absurd c_31 (by omega)
    refine wp_iconst d_68_112 ?_
    refine wp_zret d_68_113 rfl (by omega) ?_
    refine ⟨_, rfl, Or.inr ⟨rfl, rfl, Or.inr (fun s' m' z => ?_)⟩⟩
    obtain ⟨q, q0, q1⟩ := Wy_iff.mp z
    exact I q s' m' (by omega) q1
  | succ mm ih =>
    intro k e0 e1 I
    have hS9 := hS
    have hn := hT.1
    have hn5 := hT.2.1
    have hX := hT.2.2.2.2.2.2
    have sz0 : szJ h w = hi h (w + 146) 4 := rfl
    obtain ⟨⟨k1, k2, k3, k4, k5, k6, k7⟩, ⟨n1, ⟨n2, n3, n4, n5⟩, ⟨n6, n7⟩, ⟨n8, n9⟩, ⟨n10, n11⟩, n12, n13⟩, ⟨m1, ⟨m2, m3, m4⟩, ⟨m5, m6⟩, ⟨m7, m8⟩, m9, m10⟩, ⟨o1, ⟨o2, o3, o4⟩, ⟨o5, o6, o7⟩, ⟨o8, o9, o10⟩, o11, o12⟩, ⟨b1, ⟨b2, b3⟩, ⟨b4, b5, b6⟩, b7, b8, b9⟩, ⟨j1, ⟨j2, j3, j4, j5, j6, j7, j8⟩, ⟨j9, j10⟩, j11⟩⟩ := hS
    obtain ⟨a, g1, g2, g3, g4, g5, g6, g7⟩ := hT.2.2.2.2.1 k e1 (by omega)
    refine wp_iload d_68_25 (by rfl) ?_
    refine wp_aload_n d_68_27 (by rfl) ?_
    refine wp_getI (5) d_68_28 fl_6_130 rfl rfl (by first | assumption | (simp only [kd_setI, kd_setR]; assumption)) (fun x_28 e_28 r_28 => ?_)
    (try rw [hi_setR] at e_28)
    subst e_28
    refine wp_icmp_ge (tgt := 112) d_68_31 (by decide) (by first | omega | (simp only [ln_setI, ln_setR]; omega)) (by first | omega | (simp only [ln_setI, ln_setR]; omega)) (fun c_31 => ?_) (fun c_31 => ?_)
    · exact absurd c_31 (by omega)
    refine wp_aload_n d_68_34 (by rfl) ?_
    refine wp_getR (1) d_68_35 fl_6_133 rfl rfl (by first | assumption | (simp only [kd_setI, kd_setR]; assumption)) (by first | assumption) ?_
    refine wp_iload d_68_38 (by rfl) ?_
    refine wp_aald d_68_40 (by first | omega | (simp only [kd_setI, kd_cpI]; omega)) (by first | omega | (simp only [kd_setI, kd_cpI]; omega)) (by apply isRf_of; assumption; rfl) (by first | omega | (simp only [ln_setI, ln_setR]; omega)) (by first | omega | (simp only [ln_setI, ln_setR]; omega)) (by first | assumption) ?_
    refine wp_astore d_68_41 (by decide) ?_
    refine wp_aload d_68_43 (by rfl) ?_
    refine wp_aload_n d_68_45 (by rfl) ?_
    refine wp_callV d_68_46 c_68_59 rfl (by rfl) (by rfl) ⟨6, rfl, rfl, by decide⟩ (by first | assumption | (simp only [kd_setI, kd_setR]; assumption)) (by exact Nat.le_of_ble_eq_true rfl) (by exact Nat.le_of_ble_eq_true rfl) (s_stopNow hS9 ⟨hz.1, by omega⟩) (fun v_46 h_46 q_46 => ?_) (fun _ _ q => q.elim)
    obtain ⟨rfl, z_46⟩ := q_46
    replace z_46 := z_46.symm
    subst z_46
    refine wp_callV d_68_49 c_68_137 rfl (by rfl) (by rfl) ⟨5, rfl, rfl, by decide⟩ (by first | assumption | (simp only [kd_setI, kd_setR]; assumption)) (by exact Nat.le_of_ble_eq_true rfl) (by exact Nat.le_of_ble_eq_true rfl) (s_across g4 (by omega)) (fun v_49 h_49 q_49 => ?_) (fun _ _ q => q.elim)
    obtain ⟨z_49, rfl, y_49, u_49⟩ := q_49
    replace y_49 := y_49.symm
    subst y_49
    refine wp_istore d_68_52 (by decide) ?_
    refine wp_iload d_68_54 (by rfl) ?_
    refine wp_iconst d_68_56 ?_
    refine wp_icmp_eq (tgt := 106) d_68_57 (by decide) (by first | omega | (simp only [ln_setI, ln_setR]; omega)) (by first | omega | (simp only [ln_setI, ln_setR]; omega)) (fun c_57 => ?_) (fun c_57 => ?_)
    · refine wp_iinc d_68_106 (by rfl) (by decide) ?_
      refine wp_goto (tgt := 25) d_68_109 (by decide) ?_
      refine wp_to [some (vR (some (w + 146))), some (vR (some (w + 1))), some (vR (some (w + 30))), some (vI (L : Int)), some (vI (tmJ h w (szJ h w))), some (vI (k + 1)), none, none] ⟨rfl, rfl, rfl, rfl, rfl, rfl, trivial⟩ ?_
      refine ih (k + 1) (by omega) (by omega) (fun q s' m' q0 q1 => ?_)
      by_cases y : q = k
      · subst y
        obtain ⟨-, a', y1, y2, y3⟩ := q1
        cases y1.symm.trans g1
        first
          | (exfalso; omega)
          | (have es : s' = z_49 := by omega
             rw [es]
             omega)
      · exact I q s' m' (by omega) q1
    · refine wp_iload d_68_60 (by rfl) ?_
      refine wp_aload d_68_62 (by rfl) ?_
      refine wp_getI (2) d_68_64 fl_6_142 rfl rfl (by first | assumption | (simp only [kd_setI, kd_setR]; assumption)) (fun x_64 e_64 r_64 => ?_)
      (try rw [hi_setR] at e_64)
      subst e_64
      refine wp_iadd d_68_67 ?_
      refine wp_aload_n d_68_68 (by rfl) ?_
      refine wp_iload d_68_69 (by rfl) ?_
      refine wp_iload_n d_68_71 (by rfl) ?_
      refine wp_callV d_68_72 c_68_145 rfl (by rfl) (by rfl) ⟨1, rfl, rfl, by decide⟩ (by first | assumption | (simp only [kd_setI, kd_setR]; assumption)) (by exact Nat.le_of_ble_eq_true rfl) (by exact Nat.le_of_ble_eq_true rfl) (s_latestAt hS9 hL (by omega)) (fun v_72 h_72 q_72 => ?_) (fun _ _ q => q.elim)
      have lz : -1000000000 ≤ lat (tgB h w) (dlB h w) (hi h (w + 32 + L)) z_49 ∧ lat (tgB h w) (dlB h w) (hi h (w + 32 + L)) z_49 ≤ 1000000 := by
        unfold lat
        split
        · exact hD
        · exact hb _ (by omega) (by omega)
      obtain ⟨rfl, z_72⟩ := q_72
      replace z_72 := z_72.symm
      subst z_72
      refine wp_icmp_gt (tgt := 106) d_68_75 (by decide) (by first | omega | (simp only [ln_setI, ln_setR]; omega)) (by first | omega | (simp only [ln_setI, ln_setR]; omega)) (fun c_75 => ?_) (fun c_75 => ?_)
      · refine wp_iinc d_68_106 (by rfl) (by decide) ?_
        refine wp_goto (tgt := 25) d_68_109 (by decide) ?_
        refine wp_to [some (vR (some (w + 146))), some (vR (some (w + 1))), some (vR (some (w + 30))), some (vI (L : Int)), some (vI (tmJ h w (szJ h w))), some (vI (k + 1)), none, none] ⟨rfl, rfl, rfl, rfl, rfl, rfl, trivial⟩ ?_
        refine ih (k + 1) (by omega) (by omega) (fun q s' m' q0 q1 => ?_)
        by_cases y : q = k
        · subst y
          obtain ⟨-, a', y1, y2, y3⟩ := q1
          cases y1.symm.trans g1
          first
            | (exfalso; omega)
            | (have es : s' = z_49 := by omega
               rw [es]
               omega)
        · exact I q s' m' (by omega) q1
      · refine wp_aload_n d_68_78 (by rfl) ?_
        refine wp_getR (5) d_68_79 fl_6_11 rfl rfl (by first | assumption | (simp only [kd_setI, kd_setR]; assumption)) (by first | assumption) ?_
        refine wp_aload_n d_68_82 (by rfl) ?_
        refine wp_getI (4) d_68_83 fl_6_50 rfl rfl (by first | assumption | (simp only [kd_setI, kd_setR]; assumption)) (fun x_83 e_83 r_83 => ?_)
        (try rw [hi_setR] at e_83)
        subst e_83
        refine wp_null d_68_86 ?_
        refine wp_aastN (C := "WhistleStop$Trip") d_68_87 (by omega) (by omega) (by rw [j9]; rfl) (by omega) (by omega) ?_
        refine wp_aload_n d_68_88 (by rfl) ?_
        refine wp_iload d_68_89 (by rfl) ?_
        refine wp_iload d_68_91 (by rfl) ?_
        refine wp_iload d_68_93 (by rfl) ?_
        refine wp_aload d_68_95 (by rfl) ?_
        refine wp_getI (2) d_68_97 fl_6_142 rfl rfl (by first | assumption | (simp only [kd_setI, kd_setR]; assumption)) (fun x_97 e_97 r_97 => ?_)
        (try rw [hi_setR] at e_97)
        subst e_97
        refine wp_iadd d_68_100 ?_
        refine wp_callV d_68_101 c_68_126 rfl (by rfl) (by rfl) ⟨6, rfl, rfl, by decide⟩ (by first | assumption | (simp only [kd_setI, kd_setR]; assumption)) (by exact Nat.le_of_ble_eq_true rfl) (by exact Nat.le_of_ble_eq_true rfl) (s_addLeg (SkG hS9 (by omega) (by repeat (first | exact ch_setI (by unfold PJ; omega) | exact ch_setR (by unfold PJR; rfl) | refine ch.trans ?_ (ch_setI (by unfold PJ; omega)) | refine ch.trans ?_ (ch_setR (by unfold PJR; rfl))))) (by show 0 ≤ hi _ (w + 146) 4 ∧ hi _ (w + 146) 4 < 13; rw [hi_setR]; exact hz) (by omega) (by omega) (by omega)) (fun v_101 h_101 q_101 => ?_) (fun _ _ q => q.elim)
        obtain ⟨rfl, z_101⟩ := q_101
        replace z_101 := z_101.symm
        subst z_101
        refine wp_iconst d_68_104 ?_
        refine wp_zret d_68_105 rfl (by omega) ?_
        refine ⟨1, rfl, Or.inl ⟨rfl, z_49, hi h a 2, ⟨k, a, e1, by omega, g1, by omega, rfl⟩, by omega, haf, ?_, fun k => ?_, ⟨?_, ?_, ?_⟩, ⟨?_, ?_, ?_⟩, ⟨?_, ?_, ?_⟩, ?_, ?_, ?_⟩⟩
        · unfold addL
          repeat (first | exact ch_setI (by unfold PJ; omega) | exact ch_setR (by unfold PJR; rfl) | refine ch.trans ?_ (ch_setI (by unfold PJ; omega)) | refine ch.trans ?_ (ch_setR (by unfold PJR; rfl)))
        · simp only [addL, hr_setI, hr_setR]
          unfold up2
          by_cases hk : k = hi h (w + 146) 4
          · rw [if_pos ⟨rfl, hk⟩, if_pos hk]
          · rw [if_neg (fun z => hk z.2), if_neg hk]
        all_goals unfold addL szJ
        all_goals (try rw [upF_self])
        all_goals (repeat first | rw [hi_setI_ne (by omega)] | rw [hi_setR] | rw [hi_upF, upF_ne _ (by decide)] | rw [hi_upF, upF_same] | rw [hi_upF])
set_option maxRecDepth 100000 in
set_option maxHeartbeats 4000000 in
theorem s_takeWalk {w X L : Nat} {h : Hp} (hS : Sk h w) (hT : TT h w X) (hz : 0 ≤ szJ h w ∧ szJ h w < 13) (hsp : 0 ≤ spJ h w (szJ h w) ∧ spJ h w (szJ h w) < hi h (w + 1) 4) (htm : 0 ≤ tmJ h w (szJ h w) ∧ tmJ h w (szJ h w) ≤ 1000000) (hL : L < 7) (hD : -1000000000 ≤ dlB h w ∧ dlB h w ≤ 1000000) (hb : Bb (hi h (w + 1) 4) (hi h (w + 32 + L))) : wp 68 0 (entL [vR (some (w + 146)), vR (some (w + 1)), vR (some (w + 30)), vI (L : Int)] (mL 68)) [] h (fun v h' => ∃ z, v = some (vI z) ∧ ((z = 1 ∧ TkW h h' w L) ∨ (z = 0 ∧ h' = h ∧ ((0 < szJ h w ∧ ¬ afJ h w (szJ h w)) ∨ ∀ s' mm, Wy h w (spJ h w (szJ h w)) s' mm → lat (tgB h w) (dlB h w) (hi h (w + 32 + L)) s' < tmJ h w (szJ h w) + mm)))) noX := by
  have hS9 := hS
  have sz0 : szJ h w = hi h (w + 146) 4 := rfl
  have hn5 := hT.2.1
  obtain ⟨⟨k1, k2, k3, k4, k5, k6, k7⟩, ⟨n1, ⟨n2, n3, n4, n5⟩, ⟨n6, n7⟩, ⟨n8, n9⟩, ⟨n10, n11⟩, n12, n13⟩, ⟨m1, ⟨m2, m3, m4⟩, ⟨m5, m6⟩, ⟨m7, m8⟩, m9, m10⟩, ⟨o1, ⟨o2, o3, o4⟩, ⟨o5, o6, o7⟩, ⟨o8, o9, o10⟩, o11, o12⟩, ⟨b1, ⟨b2, b3⟩, ⟨b4, b5, b6⟩, b7, b8, b9⟩, ⟨j1, ⟨j2, j3, j4, j5, j6, j7, j8⟩, ⟨j9, j10⟩, j11⟩⟩ := hS
  refine wp_aload_n d_68_0 (by rfl) ?_
  refine wp_getI (4) d_68_1 fl_6_50 rfl rfl (by assumption) (fun x_1 e_1 r_1 => ?_)
  subst e_1
  refine wp_if_le (tgt := 16) d_68_4 (by decide) (by omega) (fun c_4 => ?_) (fun c_4 => ?_)
  · refine wp_aload_n d_68_16 (by rfl) ?_
    refine wp_callV d_68_17 c_68_71 rfl (by rfl) (by rfl) ⟨6, rfl, rfl, by decide⟩ (by assumption) (by exact Nat.le_of_ble_eq_true rfl) (by exact Nat.le_of_ble_eq_true rfl) (s_timeNow hS9 ⟨hz.1, by omega⟩) (fun v_17 h_17 q_17 => ?_) (fun _ _ q => q.elim)
    obtain ⟨rfl, z_17⟩ := q_17
    replace z_17 := z_17.symm
    subst z_17
    refine wp_istore d_68_20 (by decide) ?_
    refine wp_iconst d_68_22 ?_
    refine wp_istore d_68_23 (by decide) ?_
    refine wp_to [some (vR (some (w + 146))), some (vR (some (w + 1))), some (vR (some (w + 30))), some (vI (L : Int)), some (vI (tmJ h w (szJ h w))), some (vI (0)), none, none] ⟨rfl, rfl, rfl, rfl, rfl, rfl, trivial⟩ ?_
    refine l_takeW hS9 hT hz hsp htm hL hD hb (fun y => ?_) (hi h (w + 1) 5).toNat 0 (by omega) (by omega) (fun q s' m' q0 q1 => by have := q1.1; omega)
    first
      | (exfalso; omega)
      | exact (u_8.resolve_right (fun y => by omega)).2
  · refine wp_aload_n d_68_7 (by rfl) ?_
    refine wp_callV d_68_8 c_68_74 rfl (by rfl) (by rfl) ⟨6, rfl, rfl, by decide⟩ (by assumption) (by exact Nat.le_of_ble_eq_true rfl) (by exact Nat.le_of_ble_eq_true rfl) (s_isAfterRide hS9 ⟨hz.1, by omega⟩) (fun v_8 h_8 q_8 => ?_) (fun _ _ q => q.elim)
    obtain ⟨z_8, rfl, y_8, u_8⟩ := q_8
    replace y_8 := y_8.symm
    subst y_8
    refine wp_if_ne (tgt := 16) d_68_11 (by decide) (by omega) (fun c_11 => ?_) (fun c_11 => ?_)
    · refine wp_aload_n d_68_16 (by rfl) ?_
      refine wp_callV d_68_17 c_68_71 rfl (by rfl) (by rfl) ⟨6, rfl, rfl, by decide⟩ (by assumption) (by exact Nat.le_of_ble_eq_true rfl) (by exact Nat.le_of_ble_eq_true rfl) (s_timeNow hS9 ⟨hz.1, by omega⟩) (fun v_17 h_17 q_17 => ?_) (fun _ _ q => q.elim)
      obtain ⟨rfl, z_17⟩ := q_17
      replace z_17 := z_17.symm
      subst z_17
      refine wp_istore d_68_20 (by decide) ?_
      refine wp_iconst d_68_22 ?_
      refine wp_istore d_68_23 (by decide) ?_
      refine wp_to [some (vR (some (w + 146))), some (vR (some (w + 1))), some (vR (some (w + 30))), some (vI (L : Int)), some (vI (tmJ h w (szJ h w))), some (vI (0)), none, none] ⟨rfl, rfl, rfl, rfl, rfl, rfl, trivial⟩ ?_
      refine l_takeW hS9 hT hz hsp htm hL hD hb (fun y => ?_) (hi h (w + 1) 5).toNat 0 (by omega) (by omega) (fun q s' m' q0 q1 => by have := q1.1; omega)
      first
        | (exfalso; omega)
        | exact (u_8.resolve_right (fun y => by omega)).2
    · refine wp_iconst d_68_14 ?_
      refine wp_zret d_68_15 rfl (by omega) ?_
      exact ⟨_, rfl, Or.inr ⟨rfl, rfl, Or.inl ⟨by omega, (u_8.resolve_left (fun y => by omega)).2⟩⟩⟩
