/-! ===== latest ===== -/
theorem cov_of {h h' : Hp} {w X : Nat} {S U : Int} (hT0 : TT h w X) (q : ∀ t d a, 0 ≤ t → t < hi h (w + 1) 7 → Cd h w S U t d a → Rc h' w (rnB h a (baseOf h a d))) : ∀ r i j, Ra h w r → 0 ≤ i → i < j → j < rz r → S ≤ rd r i → ra r j ≤ U → Rc h' w r := by
  rintro r i j ⟨t, a, d, z0, z1, z2, z3, rfl⟩ i0 i1 i2 i3 i4
  obtain ⟨a', c, g1, g2, g3, ⟨t1, t2, t3, t4, t5, t6, t7, t8⟩, -⟩ := hT0.2.2.2.2.2.1 t z0 z1
  cases z2.symm.trans g1
  have i2' : j < hi h a 7 := i2
  have i3' : S ≤ baseOf h a d + hi h (a + 3) i := i3
  have i4' : baseOf h a d + hi h (a + 2) j ≤ U := i4
  refine q t d a z0 z1 ⟨z2, z3, by omega, ?_, ?_⟩
  · have := t6 0 j (by omega) (by omega) i2'
    omega
  · have x1 := t6 i (hi h a 7 - 1) i0 (by omega) (by omega)
    have x2 := t5 (hi h a 7 - 1) (by omega) (by omega)
    omega
/-- a journey from o at t, of 6 rides at most and 2880 minutes at most, ends at d at e -/
def Lg (h : Hp) (w : Nat) (o d t e : Int) : Prop := ∃ j p, j ≤ 6 ∧ JE (hi h (w + 2)) (Wy h w) (Ra h w) o t (t + 2880) j d e p
theorem Lg.kept {P R : Nat → Prop} {h h' : Hp} {w X : Nat} {o d t e : Int} (q : TT h w X) (e' : fm P R h h') (of : Off w X P R) : Lg h' w o d t e ↔ Lg h w o d t e := by
  unfold Lg
  rw [Wy.kept q e' of, Ra.kept q e' of, of.i e' q.2.2.2.2.2.2.1 (a := w + 2) (by omega) q.2.2.2.2.2.2.2]
/-- what latest tells -/
def La (h : Hp) (w : Nat) (o d T x : Int) : Prop := (x = -1 ∨ (0 ≤ x ∧ ∃ e, Lg h w o d x e ∧ e ≤ T)) ∧ ∀ t e, 0 ≤ t → Lg h w o d t e → e ≤ T → t ≤ x
/-- a journey that begins late enough is one over the runs that are collected -/
theorem Lg.os {n : Int} {c : Int → Int} {W : Int → Int → Int → Prop} {R R' : Rn → Prop} {o d t e D S L : Int} {j : Nat} {p : Int} (N : Net n c W R) (ho : 0 ≤ o ∧ o < n) (hS : S ≤ t) (hc : ∀ r i j, R r → 0 ≤ i → i < j → j < rz r → S ≤ rd r i → ra r j ≤ D → R' r) (hj : j ≤ 6) (h : JE c W R o t L j d e p) (he : e ≤ D) : OS c W R' d D 6 o t := by
  obtain ⟨t1, g1, g2⟩ := JE.earlier (L := D) N ho (Int.le_refl t) h he
  have g3 := JE.runs (R' := R') N ho (fun r i j a0 a1 a2 a3 a4 a5 => hc r i j a0 a1 a2 a3 (by omega) a5) g2
  exact (OS.of_EN g3 (by omega)).mono (fun s t z => OB.mono hj z)
def PLT (w : Nat) : Nat → Prop := fun a => (w + 6 ≤ a ∧ a ≤ w + 9) ∨ (w + 30 ≤ a ∧ a ≤ w + 46)
theorem PLToff {w X : Nat} : Off w X (PLT w) (PQ w) := ⟨fun a z => by unfold PLT at z; omega, fun a z => by unfold PQ at z; omega⟩
set_option maxRecDepth 100000 in
set_option maxHeartbeats 4000000 in
theorem l_latest {w X : Nat} {o d T : Int} {h0 : Hp} (hS0 : Sk h0 w) (hT0 : TT h0 w X) (ho : 0 ≤ o ∧ o < hi h0 (w + 1) 4) (hd : 0 ≤ d ∧ d < hi h0 (w + 1) 4) (hT : 0 ≤ T ∧ T ≤ 500000) : ∀ (m : Nat) (D : Int) (h : Hp), D + 1 ≤ m → -1 ≤ D ∧ D ≤ T → ch (PLT w) (PQ w) h0 h → (∀ t e, 0 ≤ t → Lg h0 w o d t e → e ≤ T → e ≤ D) → wp 11 17 [some (vR (some w)), some (vI o), some (vI d), some (vI T), some (vI (D)), none, none] [] h (fun v h' => ch (PLT w) (PQ w) h0 h' ∧ ∃ x, v = some (vI x) ∧ La h0 w o d T x) noX := by
  intro m
  have N := hT0.net
  have hn := hT0.1
  have hX := hT0.2.2.2.2.2.2
  have ge : ∀ t e, Lg h0 w o d t e → t ≤ e := fun t e ⟨j, p, hj, he⟩ => (JE.ge N ho he).1
  induction m with
  | zero =>
    intro D h e0 e1 E I
    refine wp_iload d_11_17 (by rfl) ?_
    refine wp_if_lt (tgt := 140) d_11_19 (by decide) (by omega) (fun c_19 => ?_) (fun c_19 => ?_)
    rotate_left
    · exact absurd c_19 (by omega)
    refine wp_iconst d_11_140 ?_
    refine wp_iret d_11_141 rfl ?_
    exact ⟨E, _, rfl, Or.inl rfl, fun t e z0 z1 z2 => by have := I t e z0 z1 z2; have := ge t e z1; omega⟩
  | succ m ih =>
    intro D h e0 e1 E I
    have hSh : Sk h w := hS0.kept E.fm ((PLToff (X := X)).pr hX.2) (by omega)
    have hTh := hT0.kept E.fm PLToff
    have hS := hSh
    obtain ⟨⟨k1, k2, k3, k4, k5, k6, k7⟩, ⟨n1, ⟨n2, n3, n4, n5⟩, ⟨n6, n7⟩, ⟨n8, n9⟩, ⟨n10, n11⟩, n12, n13⟩, ⟨m1, ⟨m2, m3, m4⟩, ⟨m5, m6⟩, ⟨m7, m8⟩, m9, m10⟩, ⟨o1, ⟨o2, o3, o4⟩, ⟨o5, o6, o7⟩, ⟨o8, o9, o10⟩, o11, o12⟩, ⟨b1, ⟨b2, b3⟩, ⟨b4, b5, b6⟩, b7, b8, b9⟩, ⟨j1, ⟨j2, j3, j4, j5, j6, j7, j8⟩, ⟨j9, j10⟩, j11⟩⟩ := hS
    have raE := Ra.kept hT0 E.fm PLToff
    refine wp_iload d_11_17 (by rfl) ?_
    refine wp_if_lt (tgt := 140) d_11_19 (by decide) (by omega) (fun c_19 => ?_) (fun c_19 => ?_)
    · refine wp_iconst d_11_140 ?_
      refine wp_iret d_11_141 rfl ?_
      exact ⟨E, _, rfl, Or.inl rfl, fun t e z0 z1 z2 => by have := I t e z0 z1 z2; have := ge t e z1; omega⟩
    · refine wp_aload_n d_11_22 (by rfl) ?_
      refine wp_getR (1) d_11_23 fl_0_19 rfl rfl (by first | assumption | exact hS1.1.1 | exact hS2.1.1 | exact hS1.2.2.2.2.1.1 | exact hS2.2.2.2.2.1.1) (by first | assumption | exact hS1.1.2.1 | exact hS1.1.2.2.1 | exact hS1.1.2.2.2.2.1 | exact hS2.1.2.1 | exact hS2.1.2.2.2.2.1) ?_
      refine wp_aload_n d_11_26 (by rfl) ?_
      refine wp_getR (0) d_11_27 fl_0_12 rfl rfl (by first | assumption | exact hS1.1.1 | exact hS2.1.1 | exact hS1.2.2.2.2.1.1 | exact hS2.2.2.2.2.1.1) (by first | assumption | exact hS1.1.2.1 | exact hS1.1.2.2.1 | exact hS1.1.2.2.2.2.1 | exact hS2.1.2.1 | exact hS2.1.2.2.2.2.1) ?_
      refine wp_iload d_11_30 (by rfl) ?_
      refine wp_sipush d_11_32 (by decide) ?_
      refine wp_isub d_11_35 ?_
      refine wp_iload d_11_36 (by rfl) ?_
      refine wp_callV d_11_38 c_11_183 rfl (by rfl) (by rfl) ⟨10, rfl, rfl, by decide⟩ (by first | assumption | exact hS1.1.1 | exact hS2.1.1 | exact hS1.2.2.2.2.1.1 | exact hS2.2.2.2.2.1.1) (by exact Nat.le_of_ble_eq_true rfl) (by exact Nat.le_of_ble_eq_true rfl) (s_collect (X := X) hSh hTh ⟨by omega, by omega⟩ (by omega) (by omega)) (fun v_38 h_38 q_38 => ?_) (fun _ _ q => q.elim)
      obtain ⟨rfl, E1, R1, C1⟩ := q_38
      have G1 : ch (PLT w) (PQ w) h0 h_38 := E.trans (E1.mono (fun x z => by unfold PC at z; unfold PLT; omega) (fun x z => z))
      have hS1 : Sk h_38 w := hS0.kept G1.fm ((PLToff (X := X)).pr hX.2) (by omega)
      have hT1 := hT0.kept G1.fm PLToff
      have n1' : hi h_38 (w + 1) 4 = hi h0 (w + 1) 4 := G1.2.2.2.2.2.2.2.1 _ _ (by unfold PLT; omega)
      have c1' : hi h_38 (w + 2) = hi h0 (w + 2) := funext fun x => G1.2.2.2.2.2.2.2.1 _ _ (by unfold PLT; omega)
      have w1' : Wy h_38 w = Wy h0 w := Wy.kept hT0 G1.fm PLToff
      have cov := cov_of hTh C1
      rw [raE] at cov
      have sub1 : ∀ r, Rc h_38 w r → Ra h0 w r := fun r z => by
        have z9 := R1.sub z
        rw [Ra.kept hT0 G1.fm PLToff] at z9
        exact z9
      have N1 : Net (hi h0 (w + 1) 4) (hi h0 (w + 2)) (Wy h0 w) (Rc h_38 w) := ⟨N.1, N.2.1, N.2.2.1, fun r z => N.2.2.2 r (sub1 r z)⟩
      refine wp_aload_n d_11_41 (by rfl) ?_
      refine wp_getR (4) d_11_42 fl_0_40 rfl rfl (by first | assumption | exact hS1.1.1 | exact hS2.1.1 | exact hS1.2.2.2.2.1.1 | exact hS2.2.2.2.2.1.1) (by first | assumption | exact hS1.1.2.1 | exact hS1.1.2.2.1 | exact hS1.1.2.2.2.2.1 | exact hS2.1.2.1 | exact hS2.1.2.2.2.2.1) ?_
      refine wp_aload_n d_11_45 (by rfl) ?_
      refine wp_getR (0) d_11_46 fl_0_12 rfl rfl (by first | assumption | exact hS1.1.1 | exact hS2.1.1 | exact hS1.2.2.2.2.1.1 | exact hS2.2.2.2.2.1.1) (by first | assumption | exact hS1.1.2.1 | exact hS1.1.2.2.1 | exact hS1.1.2.2.2.2.1 | exact hS2.1.2.1 | exact hS2.1.2.2.2.2.1) ?_
      refine wp_aload_n d_11_49 (by rfl) ?_
      refine wp_getR (1) d_11_50 fl_0_19 rfl rfl (by first | assumption | exact hS1.1.1 | exact hS2.1.1 | exact hS1.2.2.2.2.1.1 | exact hS2.2.2.2.2.1.1) (by first | assumption | exact hS1.1.2.1 | exact hS1.1.2.2.1 | exact hS1.1.2.2.2.2.1 | exact hS2.1.2.1 | exact hS2.1.2.2.2.2.1) ?_
      refine wp_iload_n d_11_53 (by rfl) ?_
      refine wp_iload d_11_54 (by rfl) ?_
      refine wp_bipush d_11_56 (by decide) ?_
      refine wp_callV d_11_58 c_11_198 rfl (by rfl) (by rfl) ⟨1, rfl, rfl, by decide⟩ (by first | assumption | exact hS1.1.1 | exact hS2.1.1 | exact hS1.2.2.2.2.1.1 | exact hS2.2.2.2.2.1.1) (by exact Nat.le_of_ble_eq_true rfl) (by exact Nat.le_of_ble_eq_true rfl) (s_seekB (R := 6) hS1 hT1 R1 (by rw [n1']; exact hd) (by omega) (by omega)) (fun v_58 h_58 q_58 => ?_) (fun _ _ q => q.elim)
      obtain ⟨rfl, E2, ⟨B1, B2⟩, B3⟩ := q_58
      have G2 : ch (PLT w) (PQ w) h0 h_58 := G1.trans (E2.mono (fun x z => by unfold PBK at z; unfold PLT; omega) (fun x z => z.elim))
      have hS2 : Sk h_58 w := hS0.kept G2.fm ((PLToff (X := X)).pr hX.2) (by omega)
      have hT2 := hT0.kept G2.fm PLToff
      have n2' : hi h_58 (w + 1) 4 = hi h0 (w + 1) 4 := G2.2.2.2.2.2.2.2.1 _ _ (by unfold PLT; omega)
      have w2' : Wy h_58 w = Wy h0 w := Wy.kept hT0 G2.fm PLToff
      rw [n1', c1', w1'] at B3
      obtain ⟨x1, -, x3⟩ := B3 6 (Nat.le_refl 6)
      refine wp_aload_n d_11_61 (by rfl) ?_
      refine wp_getR (4) d_11_62 fl_0_40 rfl rfl (by first | assumption | exact hS1.1.1 | exact hS2.1.1 | exact hS1.2.2.2.2.1.1 | exact hS2.2.2.2.2.1.1) (by first | assumption | exact hS1.1.2.1 | exact hS1.1.2.2.1 | exact hS1.1.2.2.2.2.1 | exact hS2.1.2.1 | exact hS2.1.2.2.2.2.1) ?_
      refine wp_aload_n d_11_65 (by rfl) ?_
      refine wp_getR (0) d_11_66 fl_0_12 rfl rfl (by first | assumption | exact hS1.1.1 | exact hS2.1.1 | exact hS1.2.2.2.2.1.1 | exact hS2.2.2.2.2.1.1) (by first | assumption | exact hS1.1.2.1 | exact hS1.1.2.2.1 | exact hS1.1.2.2.2.2.1 | exact hS2.1.2.1 | exact hS2.1.2.2.2.2.1) ?_
      refine wp_iload_n d_11_69 (by rfl) ?_
      refine wp_bipush d_11_70 (by decide) ?_
      refine wp_callV d_11_72 c_11_199 rfl (by rfl) (by rfl) ⟨1, rfl, rfl, by decide⟩ (by first | assumption | exact hS1.1.1 | exact hS2.1.1 | exact hS1.2.2.2.2.1.1 | exact hS2.2.2.2.2.1.1) (by exact Nat.le_of_ble_eq_true rfl) (by exact Nat.le_of_ble_eq_true rfl) (s_latestBegin (K := 6) hS2 hT2 (by omega) (by rw [n2']; exact ho) (by rw [B2]; omega) (by rw [n2']; exact x3)) (fun v_72 h_72 q_72 => ?_) (fun _ _ q => q.elim)
      obtain ⟨z, rfl, y_72, LB, zb⟩ := q_72
      replace y_72 := y_72.symm
      subst y_72
      rw [w2', B1, B2] at LB
      have os : ∀ t, -900000 ≤ t → (t ≤ z ↔ _) := fun t ht => LB.os N1 ho x1 ht
      have key : ∀ t e, 0 ≤ t → Lg h0 w o d t e → e ≤ T → D - 5760 ≤ t → t ≤ z := fun t e z0 z1 z2 z3 => by
        have z4 := I t e z0 z1 z2
        obtain ⟨j, p, hj, he⟩ := z1
        exact (os t (by omega)).mpr (Lg.os N ho z3 cov hj he z4)
      have len : ∀ t e, Lg h0 w o d t e → e ≤ t + 2880 := fun t e ⟨j, p, hj, he⟩ => JE.le (by omega) he
      refine wp_istore d_11_75 (by decide) ?_
      refine wp_iload d_11_77 (by rfl) ?_
      refine wp_iload d_11_79 (by rfl) ?_
      refine wp_sipush d_11_81 (by decide) ?_
      refine wp_isub d_11_84 ?_
      refine wp_icmp_lt (tgt := 100) d_11_85 (by decide) (by omega) (by omega) (fun c_85 => ?_) (fun c_85 => ?_)
      · refine wp_iload d_11_100 (by rfl) ?_
        refine wp_iload d_11_102 (by rfl) ?_
        refine wp_sipush d_11_104 (by decide) ?_
        refine wp_isub d_11_107 ?_
        refine wp_iconst d_11_108 ?_
        refine wp_isub d_11_109 ?_
        refine wp_callS d_11_110 c_11_203 rfl (by rfl) (by rfl) (by exact Nat.le_of_ble_eq_true rfl) (by exact Nat.le_of_ble_eq_true rfl) (s_max (by omega) (by omega)) (fun v_110 h_110 q_110 => ?_) (fun _ _ q => q.elim)
        obtain ⟨rfl, z_110⟩ := q_110
        replace z_110 := z_110.symm
        subst z_110
        refine wp_istore d_11_113 (by decide) ?_
        refine wp_iload d_11_115 (by rfl) ?_
        refine wp_if_ge (tgt := 122) d_11_117 (by decide) (by omega) (fun c_117 => ?_) (fun c_117 => ?_)
        · refine wp_iload d_11_122 (by rfl) ?_
          refine wp_iconst d_11_124 ?_
          refine wp_isub d_11_125 ?_
          refine wp_iload d_11_126 (by rfl) ?_
          refine wp_sipush d_11_128 (by decide) ?_
          refine wp_iadd d_11_131 ?_
          refine wp_callS d_11_132 c_11_187 rfl (by rfl) (by rfl) (by exact Nat.le_of_ble_eq_true rfl) (by exact Nat.le_of_ble_eq_true rfl) (s_min (by omega) (by omega)) (fun v_132 h_132 q_132 => ?_) (fun _ _ q => q.elim)
          obtain ⟨rfl, z_132⟩ := q_132
          replace z_132 := z_132.symm
          subst z_132
          refine wp_istore d_11_135 (by decide) ?_
          refine wp_goto (tgt := 17) d_11_137 (by decide) ?_
          refine wp_to [some (vR (some w)), some (vI o), some (vI d), some (vI T), some (vI (min (D - 1) (max z (D - 5760 - 1) + 2880))), none, none] ⟨rfl, rfl, rfl, rfl, rfl, trivial⟩ ?_
          refine ih _ _ (by omega) (by omega) G2 (fun t e z0 z1 z2 => ?_)
          have k1 := key t e z0 z1 z2
          have k2 := len t e z1
          have k3 := I t e z0 z1 z2
          omega
        · refine wp_iconst d_11_120 ?_
          refine wp_iret d_11_121 rfl ?_
          first
            | (refine ⟨G2, _, rfl, Or.inr ⟨by omega, ?_⟩, fun t e z0 z1 z2 => ?_⟩
               · obtain ⟨j, e, q, g1, g2, g3⟩ := JE.of_OS (L := z + 2880) N1 (by omega) ((os z (by omega)).mp (Int.le_refl z))
                 exact ⟨e, ⟨j, q, g1, JE.sub sub1 g2⟩, by omega⟩
               · have k1 := key t e z0 z1 z2
                 omega)
            | (refine ⟨G2, _, rfl, Or.inl rfl, fun t e z0 z1 z2 => ?_⟩
               have k1 := key t e z0 z1 z2
               omega)
            | (exfalso; omega)
      · refine wp_iload d_11_88 (by rfl) ?_
        refine wp_if_lt (tgt := 98) d_11_90 (by decide) (by omega) (fun c_90 => ?_) (fun c_90 => ?_)
        · refine wp_iconst d_11_98 ?_
          refine wp_iret d_11_99 rfl ?_
          first
            | (refine ⟨G2, _, rfl, Or.inr ⟨by omega, ?_⟩, fun t e z0 z1 z2 => ?_⟩
               · obtain ⟨j, e, q, g1, g2, g3⟩ := JE.of_OS (L := z + 2880) N1 (by omega) ((os z (by omega)).mp (Int.le_refl z))
                 exact ⟨e, ⟨j, q, g1, JE.sub sub1 g2⟩, by omega⟩
               · have k1 := key t e z0 z1 z2
                 omega)
            | (refine ⟨G2, _, rfl, Or.inl rfl, fun t e z0 z1 z2 => ?_⟩
               have k1 := key t e z0 z1 z2
               omega)
            | (exfalso; omega)
        · refine wp_iload d_11_93 (by rfl) ?_
          refine wp_goto (tgt := 99) d_11_95 (by decide) ?_
          refine wp_iret d_11_99 rfl ?_
          first
            | (refine ⟨G2, _, rfl, Or.inr ⟨by omega, ?_⟩, fun t e z0 z1 z2 => ?_⟩
               · obtain ⟨j, e, q, g1, g2, g3⟩ := JE.of_OS (L := z + 2880) N1 (by omega) ((os z (by omega)).mp (Int.le_refl z))
                 exact ⟨e, ⟨j, q, g1, JE.sub sub1 g2⟩, by omega⟩
               · have k1 := key t e z0 z1 z2
                 omega)
            | (refine ⟨G2, _, rfl, Or.inl rfl, fun t e z0 z1 z2 => ?_⟩
               have k1 := key t e z0 z1 z2
               omega)
            | (exfalso; omega)
set_option maxRecDepth 100000 in
set_option maxHeartbeats 4000000 in
theorem s_latest {w X : Nat} {o d T : Int} {h0 : Hp} (hS0 : Sk h0 w) (hT0 : TT h0 w X) (ho : 0 ≤ o ∧ o < hi h0 (w + 1) 4) (hd : 0 ≤ d ∧ d < hi h0 (w + 1) 4) (hT : 0 ≤ T ∧ T ≤ 500000) : wp 11 0 (entL [vR (some w), vI o, vI d, vI T] (mL 11)) [] h0 (fun v h' => ch (PLT w) (PQ w) h0 h' ∧ ∃ x, v = some (vI x) ∧ La h0 w o d T x) noX := by
  have hn := hT0.1
  refine wp_aload_n d_11_0 (by rfl) ?_
  refine wp_iload_n d_11_1 (by rfl) ?_
  refine wp_callV d_11_2 c_11_77 rfl (by rfl) (by rfl) ⟨0, rfl, rfl, by decide⟩ (by exact hS0.1.1) (by exact Nat.le_of_ble_eq_true rfl) (by exact Nat.le_of_ble_eq_true rfl) (s_needStop hS0 ho (by omega)) (fun v_2 h_2 q_2 => ?_) (fun _ _ q => q.elim)
  obtain ⟨rfl, z_2⟩ := q_2
  replace z_2 := z_2.symm
  subst z_2
  refine wp_aload_n d_11_5 (by rfl) ?_
  refine wp_iload_n d_11_6 (by rfl) ?_
  refine wp_callV d_11_7 c_11_77 rfl (by rfl) (by rfl) ⟨0, rfl, rfl, by decide⟩ (by exact hS0.1.1) (by exact Nat.le_of_ble_eq_true rfl) (by exact Nat.le_of_ble_eq_true rfl) (s_needStop hS0 hd (by omega)) (fun v_7 h_7 q_7 => ?_) (fun _ _ q => q.elim)
  obtain ⟨rfl, z_7⟩ := q_7
  replace z_7 := z_7.symm
  subst z_7
  refine wp_iload_n d_11_10 (by rfl) ?_
  refine wp_callS d_11_11 c_11_154 rfl (by rfl) (by rfl) (by exact Nat.le_of_ble_eq_true rfl) (by exact Nat.le_of_ble_eq_true rfl) (s_needTime hT) (fun v_11 h_11 q_11 => ?_) (fun _ _ q => q.elim)
  obtain ⟨rfl, z_11⟩ := q_11
  replace z_11 := z_11.symm
  subst z_11
  refine wp_iload_n d_11_14 (by rfl) ?_
  refine wp_istore d_11_15 (by decide) ?_
  refine wp_to [some (vR (some w)), some (vI o), some (vI d), some (vI T), some (vI (T)), none, none] ⟨rfl, rfl, rfl, rfl, rfl, trivial⟩ ?_
  exact l_latest hS0 hT0 ho hd hT (T + 1).toNat T h0 (by omega) (by omega) ch.rfl (fun t e z0 z1 z2 => z2)
