/-! ===== a step of the law: behind the legs, the checksum, its head ===== -/
set_option maxRecDepth 100000 in
set_option maxHeartbeats 4000000 in
theorem s_slackR {w : Nat} {h : Hp} (hS : Sk h w) (hk : hi h (w + 146) 0 = 1) : wp 21 0 (entL [vR (some w)] (mL 21)) [] h (fun v h' => v = some (vI (hi h (w + 146) 12)) ∧ inR (hi h (w + 146) 12) ∧ h' = h) noX := by
  have hS9 := hS
  obtain ⟨⟨k1, k2, k3, k4, k5, k6, k7⟩, ⟨n1, ⟨n2, n3, n4, n5⟩, ⟨n6, n7⟩, ⟨n8, n9⟩, ⟨n10, n11⟩, n12, n13⟩, ⟨m1, ⟨m2, m3, m4⟩, ⟨m5, m6⟩, ⟨m7, m8⟩, m9, m10⟩, ⟨o1, ⟨o2, o3, o4⟩, ⟨o5, o6, o7⟩, ⟨o8, o9, o10⟩, o11, o12⟩, ⟨b1, ⟨b2, b3⟩, ⟨b4, b5, b6⟩, b7, b8, b9⟩, ⟨j1, ⟨j2, j3, j4, j5, j6, j7, j8⟩, ⟨j9, j10⟩, j11⟩⟩ := hS
  refine wp_aload_n d_21_0 (by rfl) ?_
  refine wp_getR (6) d_21_1 fl_0_54 rfl rfl (by assumption) (by assumption) ?_
  refine wp_getI (0) d_21_4 fl_0_219 rfl rfl (by assumption) (fun x_4 e_4 r_4 => ?_)
  subst e_4
  refine wp_callS d_21_7 c_21_70 rfl (by rfl) (by rfl) (by exact Nat.le_of_ble_eq_true rfl) (by exact Nat.le_of_ble_eq_true rfl) (s_needState hk) (fun v_7 h_7 q_7 => ?_) (fun _ _ q => q.elim)
  obtain ⟨rfl, z_7⟩ := q_7
  replace z_7 := z_7.symm
  subst z_7
  refine wp_aload_n d_21_10 (by rfl) ?_
  refine wp_getR (6) d_21_11 fl_0_54 rfl rfl (by assumption) (by assumption) ?_
  refine wp_getI (12) d_21_14 fl_0_237 rfl rfl (by assumption) (fun x_14 e_14 r_14 => ?_)
  subst e_14
  refine wp_iret d_21_17 rfl ?_
  exact ⟨rfl, r_14, rfl⟩
set_option maxRecDepth 100000 in
set_option maxHeartbeats 4000000 in
theorem l_lwG {h1 : Hp} {G sa X A B : Nat} {tm st o d T lg V D e6 : Int} {Q : Option AV → Hp → Prop} (hT1 : TT h1 (G + 1) X) (ho : 0 ≤ o ∧ o < hi h1 (G + 1 + 1) 4) (hd : 0 ≤ d ∧ d < hi h1 (G + 1 + 1) 4) (hT : 0 ≤ T ∧ T < 7000) (hD : D ≤ 500000) (E6 : Ea h1 (G + 1) o T 2880 6 d e6) {K n : Nat} (kp1 : Kp h1 (G + 1) o d T e6 K n) (K6 : K ≤ 6) (he : e6 < 1000000000) (Km : ∀ j : Nat, j < K → ∀ e', Ea h1 (G + 1) o T 2880 j d e' → e6 < e') (KE : Ea h1 (G + 1) o T 2880 K d e6) {h : Hp} (q : LI h1 h G sa X D A B) (w6 : T ≤ e6 ∧ e6 ≤ T + 2880) (kk : ∀ h', LI h1 h' G sa X D A B → wp 108 765 [some (vR (some sa)), some (vI tm), some (vR (some G)), some (vR (some (G + 1))), some (vI st), some (vI o), some (vI d), some (vI T), some (vI (n : Int)), some (vL V), none, none, none, none, none, none, none, none, none, none, none, none, none] [] h' Q noX) : wp 108 690 [some (vR (some sa)), some (vI tm), some (vR (some G)), some (vR (some (G + 1))), some (vI st), some (vI o), some (vI d), some (vI T), some (vI (n : Int)), some (vL V), none, none, some (vI e6), none, none, none, none, none, none, some (vI e6), some (vI (K : Int)), none, none] [] h Q noX := by
  have hS := q.sk
  have hTT := q.tt
  have n4 := congrFun (q.n hT1) 4
  have kS : kd h (G + 1) = 1 := hS.1.1
  have kT : kd h G = 13 := q.1.1.1.1
  have n16 := hT1.1
  have kp := q.kp hT1 kp1
  have kp0 := kp
  obtain ⟨g1, g2, g3, g4, g5, g6, -, g8, g9, g10, -, g12⟩ := kp0
  have to_ : 0 < n → hi h (G + 1 + 151) ((n : Int) - 1) = d := fun z => by
    have y := g8
    unfold spJ at y
    rw [if_neg (by omega)] at y
    exact y
  refine wp_iload d_108_690 (by rfl) ?_
  refine wp_iload d_108_692 (by rfl) ?_
  refine wp_icmp_ne (tgt := 763) d_108_694 (by decide) (by omega) (by omega) (fun c_694 => ?_) (fun c_694 => ?_)
  · exact absurd c_694 (by omega)
  refine wp_iload d_108_697 (by rfl) ?_
  refine wp_if_le (tgt := 715) d_108_699 (by decide) (by omega) (fun c_699 => ?_) (fun c_699 => ?_)
  · refine wp_iload d_108_715 (by rfl) ?_
    refine wp_aload_n d_108_717 (by rfl) ?_
    refine wp_iload d_108_718 (by rfl) ?_
    refine wp_iload d_108_720 (by rfl) ?_
    refine wp_iload d_108_722 (by rfl) ?_
    refine wp_callV d_108_724 c_108_54 rfl (by rfl) (by rfl) ⟨0, rfl, rfl, by decide⟩ (by assumption) (by exact Nat.le_of_ble_eq_true rfl) (by exact Nat.le_of_ble_eq_true rfl) (s_rides (X := X) hS hTT (by omega) (by omega) (by omega)) (fun v_724 h_724 q_724 => ?_) (fun _ _ q => q.elim)
    obtain ⟨c_724, e_724, u_724, v9⟩ := q_724
    have sub_ : ∀ (j : Nat) e', Ea h1 (G + 1) o T 2880 j d e' → Ea h (G + 1) o T 2880 j d e' := fun j e' z => (Ea.kept hT1 q.2.2 offL).mpr z
    have eu_ : e6 = e_724 := JL.uniq (by omega) (by omega) E6 (q.ea hT1 u_724)
    obtain rfl : v_724 = some (vI (K : Int)) := by
      rcases v9 with ⟨z1, z2⟩ | ⟨z1, k9, z2, z3, z4, z5⟩
      · omega
      · rw [← eu_] at z4
        have : K = k9 := JL.uniqK (by omega) (by omega) KE (q.ea hT1 z4) Km (fun j hj e' y => by rw [eu_]; exact z5 j hj e' (sub_ j e' y))
        rw [this]; exact z2
    clear v9 sub_
    have L_724 := q.call c_724 (fun a z => po_in z) (fun a z => pq_in z)
    have v_724 := q.ea hT1 u_724
    have S_724 := L_724.sk
    have T_724 := L_724.tt
    have n_724 := congrFun (L_724.n hT1) 4
    have kS_724 : kd h_724 (G + 1) = 1 := S_724.1.1
    have kT_724 : kd h_724 G = 13 := L_724.1.1.1.1
    have kp9 := L_724.kp hT1 kp1
    have k1_724 := kp9.1
    have k12_724 := kp9.2.2.2.2.2.1
    refine wp_icmp_ne (tgt := 763) d_108_727 (by decide) (by omega) (by omega) (fun c_727 => ?_) (fun c_727 => ?_)
    · exact absurd c_727 (by omega)
    refine wp_aload_n d_108_730 (by rfl) ?_
    refine wp_callV d_108_731 c_108_82 rfl (by rfl) (by rfl) ⟨0, rfl, rfl, by decide⟩ (by assumption) (by exact Nat.le_of_ble_eq_true rfl) (by exact Nat.le_of_ble_eq_true rfl) (s_holds S_724 T_724 kp9) (fun v_731 h_731 q_731 => ?_) (fun _ _ q => q.elim)
    obtain ⟨rfl, z_731⟩ := q_731
    replace z_731 := z_731.symm
    subst z_731
    refine wp_if_eq (tgt := 763) d_108_734 (by decide) (by omega) (fun c_734 => ?_) (fun c_734 => ?_)
    · exact absurd c_734 (by omega)
    refine wp_aload_n d_108_737 (by rfl) ?_
    refine wp_callV d_108_738 c_108_85 rfl (by rfl) (by rfl) ⟨0, rfl, rfl, by decide⟩ (by assumption) (by exact Nat.le_of_ble_eq_true rfl) (by exact Nat.le_of_ble_eq_true rfl) (s_slackR S_724 k1_724) (fun v_738 h_738 q_738 => ?_) (fun _ _ q => q.elim)
    obtain ⟨rfl, sl_, z_738⟩ := q_738
    replace z_738 := z_738.symm
    subst z_738
    refine wp_iconst d_108_741 ?_
    refine wp_icmp_lt (tgt := 763) d_108_742 (by decide) (by omega) (by omega) (fun c_742 => ?_) (fun c_742 => ?_)
    · exact absurd c_742 (by omega)
    refine wp_aload_n d_108_745 (by rfl) ?_
    refine wp_callV d_108_746 c_108_88 rfl (by rfl) (by rfl) ⟨0, rfl, rfl, by decide⟩ (by assumption) (by exact Nat.le_of_ble_eq_true rfl) (by exact Nat.le_of_ble_eq_true rfl) (s_moving S_724 T_724 kp9) (fun v_746 h_746 q_746 => ?_) (fun _ _ q => q.elim)
    obtain ⟨b_746, rfl, y_746, mg_746, ml_746⟩ := q_746
    replace y_746 := y_746.symm
    subst y_746
    obtain ⟨zg, hg1, hg2⟩ : ∃ z : Int, Op.cmpValue (FP.dcmp b_746 FP.dconst0) .g = Int32.ofInt z ∧ (z = 0 ∨ z = 1) := by
      rcases mg_746 with y | y
      · exact ⟨1, by rw [y]; rfl, Or.inr rfl⟩
      · exact ⟨0, by rw [y]; rfl, Or.inl rfl⟩
    refine wp_dconst0 d_108_749 ?_
    refine wp_dcmp (z := zg) d_108_750 hg1 ?_
    refine wp_if_lt (tgt := 763) d_108_751 (by decide) (by omega) (fun c_751 => ?_) (fun c_751 => ?_)
    · exact absurd c_751 (by omega)
    refine wp_aload_n d_108_754 (by rfl) ?_
    refine wp_callV d_108_755 c_108_88 rfl (by rfl) (by rfl) ⟨0, rfl, rfl, by decide⟩ (by assumption) (by exact Nat.le_of_ble_eq_true rfl) (by exact Nat.le_of_ble_eq_true rfl) (s_moving S_724 T_724 kp9) (fun v_755 h_755 q_755 => ?_) (fun _ _ q => q.elim)
    obtain ⟨b_755, rfl, y_755, mg_755, ml_755⟩ := q_755
    replace y_755 := y_755.symm
    subst y_755
    obtain ⟨zl, hl1, hl2⟩ : ∃ z : Int, Op.cmpValue (FP.dcmp b_755 FP.dconst1) .l = Int32.ofInt z ∧ (z = 0 ∨ z = -1) := by
      rcases ml_755 with y | y
      · exact ⟨-1, by rw [y]; rfl, Or.inr rfl⟩
      · exact ⟨0, by rw [y]; rfl, Or.inl rfl⟩
    refine wp_dconst1 d_108_758 ?_
    refine wp_dcmp (z := zl) d_108_759 hl1 ?_
    refine wp_if_le (tgt := 765) d_108_760 (by decide) (by omega) (fun c_760 => ?_) (fun c_760 => ?_)
    rotate_left
    · exact absurd c_760 (by omega)
    refine wp_to [some (vR (some sa)), some (vI tm), some (vR (some G)), some (vR (some (G + 1))), some (vI st), some (vI o), some (vI d), some (vI T), some (vI (n : Int)), some (vL V), none, none, none, none, none, none, none, none, none, none, none, none, none] ⟨rfl, rfl, rfl, rfl, rfl, rfl, rfl, rfl, rfl, rfl, trivial⟩ ?_
    exact kk h_724 L_724
  · refine wp_aload_n d_108_702 (by rfl) ?_
    refine wp_iload d_108_703 (by rfl) ?_
    refine wp_iconst d_108_705 ?_
    refine wp_isub d_108_706 ?_
    refine wp_callV d_108_707 c_108_79 rfl (by rfl) (by rfl) ⟨0, rfl, rfl, by decide⟩ (by assumption) (by exact Nat.le_of_ble_eq_true rfl) (by exact Nat.le_of_ble_eq_true rfl) (s_legTo hS g1 (by omega) (by omega)) (fun v_707 h_707 q_707 => ?_) (fun _ _ q => q.elim)
    obtain ⟨rfl, z_707⟩ := q_707
    replace z_707 := z_707.symm
    subst z_707
    have to2 := to_ (by omega)
    refine wp_iload d_108_710 (by rfl) ?_
    refine wp_icmp_ne (tgt := 763) d_108_712 (by decide) (by omega) (by omega) (fun c_712 => ?_) (fun c_712 => ?_)
    · exact absurd c_712 (by omega)
    refine wp_iload d_108_715 (by rfl) ?_
    refine wp_aload_n d_108_717 (by rfl) ?_
    refine wp_iload d_108_718 (by rfl) ?_
    refine wp_iload d_108_720 (by rfl) ?_
    refine wp_iload d_108_722 (by rfl) ?_
    refine wp_callV d_108_724 c_108_54 rfl (by rfl) (by rfl) ⟨0, rfl, rfl, by decide⟩ (by assumption) (by exact Nat.le_of_ble_eq_true rfl) (by exact Nat.le_of_ble_eq_true rfl) (s_rides (X := X) hS hTT (by omega) (by omega) (by omega)) (fun v_724 h_724 q_724 => ?_) (fun _ _ q => q.elim)
    obtain ⟨c_724, e_724, u_724, v9⟩ := q_724
    have sub_ : ∀ (j : Nat) e', Ea h1 (G + 1) o T 2880 j d e' → Ea h (G + 1) o T 2880 j d e' := fun j e' z => (Ea.kept hT1 q.2.2 offL).mpr z
    have eu_ : e6 = e_724 := JL.uniq (by omega) (by omega) E6 (q.ea hT1 u_724)
    obtain rfl : v_724 = some (vI (K : Int)) := by
      rcases v9 with ⟨z1, z2⟩ | ⟨z1, k9, z2, z3, z4, z5⟩
      · omega
      · rw [← eu_] at z4
        have : K = k9 := JL.uniqK (by omega) (by omega) KE (q.ea hT1 z4) Km (fun j hj e' y => by rw [eu_]; exact z5 j hj e' (sub_ j e' y))
        rw [this]; exact z2
    clear v9 sub_
    have L_724 := q.call c_724 (fun a z => po_in z) (fun a z => pq_in z)
    have v_724 := q.ea hT1 u_724
    have S_724 := L_724.sk
    have T_724 := L_724.tt
    have n_724 := congrFun (L_724.n hT1) 4
    have kS_724 : kd h_724 (G + 1) = 1 := S_724.1.1
    have kT_724 : kd h_724 G = 13 := L_724.1.1.1.1
    have kp9 := L_724.kp hT1 kp1
    have k1_724 := kp9.1
    have k12_724 := kp9.2.2.2.2.2.1
    refine wp_icmp_ne (tgt := 763) d_108_727 (by decide) (by omega) (by omega) (fun c_727 => ?_) (fun c_727 => ?_)
    · exact absurd c_727 (by omega)
    refine wp_aload_n d_108_730 (by rfl) ?_
    refine wp_callV d_108_731 c_108_82 rfl (by rfl) (by rfl) ⟨0, rfl, rfl, by decide⟩ (by assumption) (by exact Nat.le_of_ble_eq_true rfl) (by exact Nat.le_of_ble_eq_true rfl) (s_holds S_724 T_724 kp9) (fun v_731 h_731 q_731 => ?_) (fun _ _ q => q.elim)
    obtain ⟨rfl, z_731⟩ := q_731
    replace z_731 := z_731.symm
    subst z_731
    refine wp_if_eq (tgt := 763) d_108_734 (by decide) (by omega) (fun c_734 => ?_) (fun c_734 => ?_)
    · exact absurd c_734 (by omega)
    refine wp_aload_n d_108_737 (by rfl) ?_
    refine wp_callV d_108_738 c_108_85 rfl (by rfl) (by rfl) ⟨0, rfl, rfl, by decide⟩ (by assumption) (by exact Nat.le_of_ble_eq_true rfl) (by exact Nat.le_of_ble_eq_true rfl) (s_slackR S_724 k1_724) (fun v_738 h_738 q_738 => ?_) (fun _ _ q => q.elim)
    obtain ⟨rfl, sl_, z_738⟩ := q_738
    replace z_738 := z_738.symm
    subst z_738
    refine wp_iconst d_108_741 ?_
    refine wp_icmp_lt (tgt := 763) d_108_742 (by decide) (by omega) (by omega) (fun c_742 => ?_) (fun c_742 => ?_)
    · exact absurd c_742 (by omega)
    refine wp_aload_n d_108_745 (by rfl) ?_
    refine wp_callV d_108_746 c_108_88 rfl (by rfl) (by rfl) ⟨0, rfl, rfl, by decide⟩ (by assumption) (by exact Nat.le_of_ble_eq_true rfl) (by exact Nat.le_of_ble_eq_true rfl) (s_moving S_724 T_724 kp9) (fun v_746 h_746 q_746 => ?_) (fun _ _ q => q.elim)
    obtain ⟨b_746, rfl, y_746, mg_746, ml_746⟩ := q_746
    replace y_746 := y_746.symm
    subst y_746
    obtain ⟨zg, hg1, hg2⟩ : ∃ z : Int, Op.cmpValue (FP.dcmp b_746 FP.dconst0) .g = Int32.ofInt z ∧ (z = 0 ∨ z = 1) := by
      rcases mg_746 with y | y
      · exact ⟨1, by rw [y]; rfl, Or.inr rfl⟩
      · exact ⟨0, by rw [y]; rfl, Or.inl rfl⟩
    refine wp_dconst0 d_108_749 ?_
    refine wp_dcmp (z := zg) d_108_750 hg1 ?_
    refine wp_if_lt (tgt := 763) d_108_751 (by decide) (by omega) (fun c_751 => ?_) (fun c_751 => ?_)
    · exact absurd c_751 (by omega)
    refine wp_aload_n d_108_754 (by rfl) ?_
    refine wp_callV d_108_755 c_108_88 rfl (by rfl) (by rfl) ⟨0, rfl, rfl, by decide⟩ (by assumption) (by exact Nat.le_of_ble_eq_true rfl) (by exact Nat.le_of_ble_eq_true rfl) (s_moving S_724 T_724 kp9) (fun v_755 h_755 q_755 => ?_) (fun _ _ q => q.elim)
    obtain ⟨b_755, rfl, y_755, mg_755, ml_755⟩ := q_755
    replace y_755 := y_755.symm
    subst y_755
    obtain ⟨zl, hl1, hl2⟩ : ∃ z : Int, Op.cmpValue (FP.dcmp b_755 FP.dconst1) .l = Int32.ofInt z ∧ (z = 0 ∨ z = -1) := by
      rcases ml_755 with y | y
      · exact ⟨-1, by rw [y]; rfl, Or.inr rfl⟩
      · exact ⟨0, by rw [y]; rfl, Or.inl rfl⟩
    refine wp_dconst1 d_108_758 ?_
    refine wp_dcmp (z := zl) d_108_759 hl1 ?_
    refine wp_if_le (tgt := 765) d_108_760 (by decide) (by omega) (fun c_760 => ?_) (fun c_760 => ?_)
    rotate_left
    · exact absurd c_760 (by omega)
    refine wp_to [some (vR (some sa)), some (vI tm), some (vR (some G)), some (vR (some (G + 1))), some (vI st), some (vI o), some (vI d), some (vI T), some (vI (n : Int)), some (vL V), none, none, none, none, none, none, none, none, none, none, none, none, none] ⟨rfl, rfl, rfl, rfl, rfl, rfl, rfl, rfl, rfl, rfl, trivial⟩ ?_
    exact kk h_724 L_724
set_option maxRecDepth 100000 in
set_option maxHeartbeats 4000000 in
theorem l_lwH {h1 : Hp} {G sa X A B : Nat} {tm st o d T lg V D e6 : Int} {Q : Option AV → Hp → Prop} (hT1 : TT h1 (G + 1) X) (ho : 0 ≤ o ∧ o < hi h1 (G + 1 + 1) 4) (hd : 0 ≤ d ∧ d < hi h1 (G + 1 + 1) 4) (hT : 0 ≤ T ∧ T < 7000) (hD : D ≤ 500000) (hK : hi h1 (G + 1 + 146) 0 = 0 ∨ ∃ K n : Nat, Kp h1 (G + 1) o d T e6 K n) (hst : 0 ≤ st ∧ st < 5) (hV : V = dgV h1 (G + 1)) {h : Hp} (q : LI h1 h G sa X D A B) (kk : ∀ h', DrS h' G sa X D → (∃ g, FaS h' (G + 1) X g A B) → hi h' (G + 1 + 1) = hi h1 (G + 1 + 1) → wp 108 42 [some (vR (some sa)), some (vI tm), some (vR (some G)), some (vR (some (G + 1))), some (vI (st + 1)), none, none, none, none, none, none, none, none, none, none, none, none, none, none, none, none, none, none] [] h' Q noX) : wp 108 765 [some (vR (some sa)), some (vI tm), some (vR (some G)), some (vR (some (G + 1))), some (vI st), some (vI o), some (vI d), some (vI T), some (vI lg), some (vL V), none, none, none, none, none, none, none, none, none, none, none, none, none] [] h Q noX := by
  have hS := q.sk
  have hTT := q.tt
  have n4 := congrFun (q.n hT1) 4
  have kS : kd h (G + 1) = 1 := hS.1.1
  have kT : kd h G = 13 := q.1.1.1.1
  have hX9 := hT1.2.2.2.2.2.2
  have ke : Kept h1 (G + 1) := by
    rcases hK with z | ⟨K, n, z⟩
    · exact Or.inl z
    · exact Or.inr ⟨o, d, T, e6, K, n, z⟩
  have pP : ∀ a, PL G X a → ¬ (G + 1 + 146 ≤ a ∧ a ≤ G + 1 + 153) := fun a z y => by unfold PL at z; omega
  have pR : ∀ a, RLw G X a → a ≠ G + 1 + 147 := fun a z y => by unfold RLw at z; omega
  have kh := Kept.kept hT1 ke q.2.2 offL pP pR
  have dh := dgV.kept hT1 ke q.2.2 offL pP pR
  subst hV
  rw [← dh]
  refine wp_aload_n d_108_765 (by rfl) ?_
  refine wp_callV d_108_766 c_108_43 rfl (by rfl) (by rfl) ⟨0, rfl, rfl, by decide⟩ (by assumption) (by exact Nat.le_of_ble_eq_true rfl) (by exact Nat.le_of_ble_eq_true rfl) (s_digest hS hTT kh) (fun v_766 h_766 q_766 => ?_) (fun _ _ q => q.elim)
  obtain ⟨rfl, z_766⟩ := q_766
  replace z_766 := z_766.symm
  subst z_766
  refine wp_lload d_108_769 (by rfl) ?_
  refine wp_lcmpE d_108_771 ?_
  refine wp_if_eq (tgt := 777) d_108_772 (by decide) (by omega) (fun c_772 => ?_) (fun c_772 => ?_)
  rotate_left
  · exact absurd c_772 (by omega)
  refine wp_iinc d_108_777 (by rfl) (by decide) ?_
  refine wp_goto (tgt := 42) d_108_780 (by decide) ?_
  refine wp_to [some (vR (some sa)), some (vI tm), some (vR (some G)), some (vR (some (G + 1))), some (vI (st + 1)), none, none, none, none, none, none, none, none, none, none, none, none, none, none, none, none, none, none] ⟨rfl, rfl, rfl, rfl, rfl, trivial⟩ ?_
  exact kk h q.1 q.2.1 (q.n hT1)
