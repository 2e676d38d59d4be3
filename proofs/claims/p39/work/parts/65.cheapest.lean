/-! ===== cheapest ===== -/
theorem FaS.ch {h h' : Hp} {w X g A B : Nat} {P R : Nat → Prop} (F : FaS h w X g A B) (e : ch P R h h') (hP : ∀ a, P a → ¬ PFa w X a) (hR : ∀ a, R a → ¬ PFa w X a) : FaS h' w X g A B := by
  have F0 := F
  obtain ⟨⟨f1, f2, f3, f4⟩, ⟨⟨f5, f6⟩, f7, f8⟩, f9, f10, f11, f12, f14, f15⟩ := F
  have e0 := e
  obtain ⟨a1, a2, a3, a4, a5, a6, a7, a8, a9⟩ := e
  have rg : ∀ b, Rg w X b → PFa w X b := fun b z => by unfold Rg at z; unfold PFa; omega
  have ok : ∀ k, k < 32 → PFa w X (ofK w k) := fun k hk => by unfold PFa ofK; omega
  have r : ∀ a k, PFa w X a → hr h' a k = hr h a k := fun a k z => a9 a k (fun y => hR a y z)
  have oth : ∀ j, j < 32 → OfE h h' (ofK w j) := fun j hj => OfE.of (f10 j hj).1 e0.fm (fun y => hP _ y (ok j hj)) (fun y => hR _ y (ok j hj)) (fun y => hP _ y (rg _ (f10 j hj).2.1)) (fun y => hP _ y (rg _ (f10 j hj).2.2))
  have sl := sL_upd (h := h) (h' := h') (w := w) (k := 32) (fun j hj hjk => by rw [(oth j hj).1]; exact (oth j hj).2.2.2.2.2.1) 32 (Nat.le_refl _)
  rw [if_neg (by omega)] at sl
  refine ⟨⟨f1, by rw [a1]; exact f2, (r _ _ (by unfold PFa; omega)).trans f3, (r _ _ (by unfold PFa; omega)).trans f4⟩, by rw [a1, a2]; exact ⟨⟨f5, f6⟩, f7, f8⟩, fun s hs => ?_, fun j hj => ?_, fun k j hk hj hkj => ?_, ?_, f14, by omega⟩
  · rw [r _ _ (by unfold PFa; omega), r _ _ (by unfold PFa; omega)]; exact f9 s hs
  · rw [(oth j hj).1, (oth j hj).2.1]
    exact ⟨(oth j hj).2.2.2.2.2.2 (f10 j hj).1, (f10 j hj).2⟩
  · rw [(oth j hj).1, (oth j hj).2.1, (oth k hk).1, (oth k hk).2.1]
    exact f11 k j hk hj hkj
  · rw [sl, a4, a5, a6, a7]; omega
/-- the least price of a journey by L -/
def Ch (h : Hp) (w : Nat) (o T L d z : Int) : Prop := 0 ≤ z ∧ z ≤ 1000000000 ∧ (z = 1000000000 ∨ ∃ j t, j ≤ 6 ∧ JE (hi h (w + 2)) (Wy h w) (Ra h w) o T L j d t z) ∧ ∀ j t p, j ≤ 6 → JE (hi h (w + 2)) (Wy h w) (Ra h w) o T L j d t p → z ≤ p
def PCh (w X : Nat) : Nat → Prop := fun a => (w + 6 ≤ a ∧ a ≤ w + 9) ∨ (w + 47 ≤ a ∧ a ≤ w + 145) ∨ X ≤ a
def PChR (w X : Nat) : Nat → Prop := fun a => a = w + 7 ∨ (w + 47 ≤ a ∧ a ≤ w + 145) ∨ X ≤ a
theorem PChoff {w X : Nat} : Off w X (PCh w X) (PChR w X) := ⟨fun a z => by unfold PCh at z; omega, fun a z => by unfold PChR at z; omega⟩
set_option maxRecDepth 100000 in
set_option maxHeartbeats 4000000 in
theorem s_cheapest {w X A B : Nat} {o d T by_ : Int} {h0 : Hp} (hS0 : Sk h0 w) (hT0 : TT h0 w X) (FB : ∃ g, FaS h0 w X g A B) (ho : 0 ≤ o ∧ o < hi h0 (w + 1) 4) (hd : 0 ≤ d ∧ d < hi h0 (w + 1) 4) (hT : 0 ≤ T ∧ T ≤ 500000) (hb : T ≤ by_ ∧ by_ ≤ 1000000) : wp 10 0 (entL [vR (some w), vI o, vI d, vI T, vI by_] (mL 10)) [] h0 (fun v h' => fm (PCh w X) (PChR w X) h0 h' ∧ (∃ g, FaS h' w X g A B) ∧ ∃ z, v = some (vI (an z)) ∧ Ch h0 w o T (min by_ (T + 2880)) d z) noX := by
  obtain ⟨g, F⟩ := FB
  have hS := hS0
  obtain ⟨⟨k1, k2, k3, k4, k5, k6, k7⟩, ⟨n1, ⟨n2, n3, n4, n5⟩, ⟨n6, n7⟩, ⟨n8, n9⟩, ⟨n10, n11⟩, n12, n13⟩, ⟨m1, ⟨m2, m3, m4⟩, ⟨m5, m6⟩, ⟨m7, m8⟩, m9, m10⟩, ⟨o1, ⟨o2, o3, o4⟩, ⟨o5, o6, o7⟩, ⟨o8, o9, o10⟩, o11, o12⟩, ⟨b1, ⟨b2, b3⟩, ⟨b4, b5, b6⟩, b7, b8, b9⟩, ⟨j1, ⟨j2, j3, j4, j5, j6, j7, j8⟩, ⟨j9, j10⟩, j11⟩⟩ := hS
  have hX := hT0.2.2.2.2.2.2
  have hn := hT0.1
  refine wp_aload_n d_10_0 (by rfl) ?_
  refine wp_iload_n d_10_1 (by rfl) ?_
  refine wp_callV d_10_2 c_10_77 rfl (by rfl) (by rfl) ⟨0, rfl, rfl, by decide⟩ (by first | assumption | exact hS2.1.1) (by exact Nat.le_of_ble_eq_true rfl) (by exact Nat.le_of_ble_eq_true rfl) (s_needStop hS0 ho (by omega)) (fun v_2 h_2 q_2 => ?_) (fun _ _ q => q.elim)
  obtain ⟨rfl, z_2⟩ := q_2
  replace z_2 := z_2.symm
  subst z_2
  refine wp_aload_n d_10_5 (by rfl) ?_
  refine wp_iload_n d_10_6 (by rfl) ?_
  refine wp_callV d_10_7 c_10_77 rfl (by rfl) (by rfl) ⟨0, rfl, rfl, by decide⟩ (by first | assumption | exact hS2.1.1) (by exact Nat.le_of_ble_eq_true rfl) (by exact Nat.le_of_ble_eq_true rfl) (s_needStop hS0 hd (by omega)) (fun v_7 h_7 q_7 => ?_) (fun _ _ q => q.elim)
  obtain ⟨rfl, z_7⟩ := q_7
  replace z_7 := z_7.symm
  subst z_7
  refine wp_iload_n d_10_10 (by rfl) ?_
  refine wp_callS d_10_11 c_10_154 rfl (by rfl) (by rfl) (by exact Nat.le_of_ble_eq_true rfl) (by exact Nat.le_of_ble_eq_true rfl) (s_needTime hT) (fun v_11 h_11 q_11 => ?_) (fun _ _ q => q.elim)
  obtain ⟨rfl, z_11⟩ := q_11
  replace z_11 := z_11.symm
  subst z_11
  refine wp_iload d_10_14 (by rfl) ?_
  refine wp_iload_n d_10_16 (by rfl) ?_
  refine wp_icmp_lt (tgt := 24) d_10_17 (by decide) (by omega) (by omega) (fun c_17 => ?_) (fun c_17 => ?_)
  · refine wp_iconst d_10_24 ?_
    refine wp_callS d_10_25 c_10_62 rfl (by rfl) (by rfl) (by exact Nat.le_of_ble_eq_true rfl) (by exact Nat.le_of_ble_eq_true rfl) (s_needArgument (by omega)) (fun v_25 h_25 q_25 => ?_) (fun _ _ q => q.elim)
    obtain ⟨rfl, z_25⟩ := q_25
    replace z_25 := z_25.symm
    subst z_25
    refine wp_aload_n d_10_28 (by rfl) ?_
    refine wp_getR (1) d_10_29 fl_0_19 rfl rfl (by first | assumption | exact hS2.1.1) (by first | assumption | exact hS2.1.2.1 | exact hS2.1.2.2.1 | exact hS2.1.2.2.2.2.2.1) ?_
    refine wp_aload_n d_10_32 (by rfl) ?_
    refine wp_getR (0) d_10_33 fl_0_12 rfl rfl (by first | assumption | exact hS2.1.1) (by first | assumption | exact hS2.1.2.1 | exact hS2.1.2.2.1 | exact hS2.1.2.2.2.2.2.1) ?_
    refine wp_iload_n d_10_36 (by rfl) ?_
    refine wp_iload_n d_10_37 (by rfl) ?_
    refine wp_sipush d_10_38 (by decide) ?_
    refine wp_iadd d_10_41 ?_
    refine wp_callV d_10_42 c_10_183 rfl (by rfl) (by rfl) ⟨10, rfl, rfl, by decide⟩ (by first | assumption | exact hS2.1.1) (by exact Nat.le_of_ble_eq_true rfl) (by exact Nat.le_of_ble_eq_true rfl) (s_collect hS0 hT0 ⟨by omega, by omega⟩ (by omega) (by omega)) (fun v_42 h_42 q_42 => ?_) (fun _ _ q => q.elim)
    obtain ⟨rfl, E1, R1, Cv⟩ := q_42
    have of1 : Off w X (PC w) (PQ w) := ⟨fun a z => by unfold PC at z; omega, fun a z => by unfold PQ at z; omega⟩
    have hS2 : Sk h_42 w := hS0.kept E1.fm (of1.pr hX.2) (by omega)
    have hT2 : TT h_42 w X := hT0.kept E1.fm of1
    have F2 : FaS h_42 w X g A B := F.ch E1 (fun a z y => by unfold PC at z; unfold PFa at y; omega) (fun a z y => by unfold PQ at z; unfold PFa at y; omega)
    have n4 : hi h_42 (w + 1) 4 = hi h0 (w + 1) 4 := E1.2.2.2.2.2.2.2.1 _ _ (by unfold PC; omega)
    have c2 : hi h_42 (w + 2) = hi h0 (w + 2) := of1.i E1.fm hX.1 (by omega) hX.2
    have wyE : Wy h_42 w = Wy h0 w := Wy.kept hT0 E1.fm of1
    have raE : Ra h_42 w = Ra h0 w := Ra.kept hT0 E1.fm of1
    have kf : kd h_42 (w + 47) = 5 := F2.1.2.1
    refine wp_aload_n d_10_45 (by rfl) ?_
    refine wp_getR (5) d_10_46 fl_0_47 rfl rfl (by first | assumption | exact hS2.1.1) (by first | assumption | exact hS2.1.2.1 | exact hS2.1.2.2.1 | exact hS2.1.2.2.2.2.2.1) ?_
    refine wp_aload_n d_10_49 (by rfl) ?_
    refine wp_getR (0) d_10_50 fl_0_12 rfl rfl (by first | assumption | exact hS2.1.1) (by first | assumption | exact hS2.1.2.1 | exact hS2.1.2.2.1 | exact hS2.1.2.2.2.2.2.1) ?_
    refine wp_aload_n d_10_53 (by rfl) ?_
    refine wp_getR (1) d_10_54 fl_0_19 rfl rfl (by first | assumption | exact hS2.1.1) (by first | assumption | exact hS2.1.2.1 | exact hS2.1.2.2.1 | exact hS2.1.2.2.2.2.2.1) ?_
    refine wp_iload_n d_10_57 (by rfl) ?_
    refine wp_iload_n d_10_58 (by rfl) ?_
    refine wp_iload_n d_10_59 (by rfl) ?_
    refine wp_iload d_10_60 (by rfl) ?_
    refine wp_iload_n d_10_62 (by rfl) ?_
    refine wp_sipush d_10_63 (by decide) ?_
    refine wp_iadd d_10_66 ?_
    refine wp_callS d_10_67 c_10_187 rfl (by rfl) (by rfl) (by exact Nat.le_of_ble_eq_true rfl) (by exact Nat.le_of_ble_eq_true rfl) (s_min (by omega) (by omega)) (fun v_67 h_67 q_67 => ?_) (fun _ _ q => q.elim)
    obtain ⟨rfl, z_67⟩ := q_67
    replace z_67 := z_67.symm
    subst z_67
    refine wp_callV d_10_70 c_10_193 rfl (by rfl) (by rfl) ⟨4, rfl, rfl, by decide⟩ (by first | assumption | exact hS2.1.1) (by exact Nat.le_of_ble_eq_true rfl) (by exact Nat.le_of_ble_eq_true rfl) (s_leastPrice hS2 hT2 R1 (by rw [n4]; exact ho) (by rw [n4]; exact hd) (up := min by_ (T + 2880)) ⟨by omega, by omega⟩ ⟨by omega, by omega⟩ ⟨g, F2⟩) (fun v_70 h_70 q_70 => ?_) (fun _ _ q => q.elim)
    obtain ⟨z_70, rfl, E2, F3, LR⟩ := q_70
    have cE : Ch h0 w o T (min by_ (T + 2880)) d z_70 := by
      obtain ⟨l1, l2, l3, l4⟩ := LR
      rw [c2, wyE] at l3 l4
      refine ⟨l1, l2, l3.imp id (fun ⟨j, t, y1, y2⟩ => ⟨j, t, y1, JE.sub (fun r z => by rw [← raE]; exact R1.sub z) y2⟩), fun j t p hj hje => l4 j t p hj ?_⟩
      exact JE.runs hT0.net ho (fun r i j a0 a1 a2 a3 a4 a5 => cov_of hT0 Cv r i j a0 a1 a2 a3 a4 (by omega)) hje
    have cB := cE.1
    have cB2 := cE.2.1
    refine wp_istore d_10_73 (by decide) ?_
    refine wp_iload d_10_75 (by rfl) ?_
    refine wp_ldc (1000000000) d_10_77 ck_0_197 (by decide) ?_
    refine wp_icmp_ge (tgt := 87) d_10_79 (by decide) (by omega) (by omega) (fun c_79 => ?_) (fun c_79 => ?_)
    · refine wp_iconst d_10_87 ?_
      refine wp_iret d_10_88 rfl ?_
      first
        | (refine ⟨(E1.fm.mono (fun a z => ?_) (fun a z => ?_)).trans (E2.mono (fun a z => ?_) (fun a z => ?_)), F3, _, ?_, cE⟩
           · unfold PC at z; unfold PCh; omega
           · unfold PQ at z; unfold PChR; omega
           · unfold PFa at z; unfold PCh; omega
           · unfold PFa at z; unfold PChR; omega
           · unfold an; rw [if_pos (by omega)])
        | (refine ⟨(E1.fm.mono (fun a z => ?_) (fun a z => ?_)).trans (E2.mono (fun a z => ?_) (fun a z => ?_)), F3, _, ?_, cE⟩
           · unfold PC at z; unfold PCh; omega
           · unfold PQ at z; unfold PChR; omega
           · unfold PFa at z; unfold PCh; omega
           · unfold PFa at z; unfold PChR; omega
           · unfold an; rw [if_neg (by omega)])
    · refine wp_iload d_10_82 (by rfl) ?_
      refine wp_goto (tgt := 88) d_10_84 (by decide) ?_
      refine wp_iret d_10_88 rfl ?_
      first
        | (refine ⟨(E1.fm.mono (fun a z => ?_) (fun a z => ?_)).trans (E2.mono (fun a z => ?_) (fun a z => ?_)), F3, _, ?_, cE⟩
           · unfold PC at z; unfold PCh; omega
           · unfold PQ at z; unfold PChR; omega
           · unfold PFa at z; unfold PCh; omega
           · unfold PFa at z; unfold PChR; omega
           · unfold an; rw [if_pos (by omega)])
        | (refine ⟨(E1.fm.mono (fun a z => ?_) (fun a z => ?_)).trans (E2.mono (fun a z => ?_) (fun a z => ?_)), F3, _, ?_, cE⟩
           · unfold PC at z; unfold PCh; omega
           · unfold PQ at z; unfold PChR; omega
           · unfold PFa at z; unfold PCh; omega
           · unfold PFa at z; unfold PChR; omega
           · unfold an; rw [if_neg (by omega)])
  · refine wp_iconst d_10_20 ?_
    refine wp_goto (tgt := 25) d_10_21 (by decide) ?_
    refine wp_callS d_10_25 c_10_62 rfl (by rfl) (by rfl) (by exact Nat.le_of_ble_eq_true rfl) (by exact Nat.le_of_ble_eq_true rfl) (s_needArgument (by omega)) (fun v_25 h_25 q_25 => ?_) (fun _ _ q => q.elim)
    obtain ⟨rfl, z_25⟩ := q_25
    replace z_25 := z_25.symm
    subst z_25
    refine wp_aload_n d_10_28 (by rfl) ?_
    refine wp_getR (1) d_10_29 fl_0_19 rfl rfl (by first | assumption | exact hS2.1.1) (by first | assumption | exact hS2.1.2.1 | exact hS2.1.2.2.1 | exact hS2.1.2.2.2.2.2.1) ?_
    refine wp_aload_n d_10_32 (by rfl) ?_
    refine wp_getR (0) d_10_33 fl_0_12 rfl rfl (by first | assumption | exact hS2.1.1) (by first | assumption | exact hS2.1.2.1 | exact hS2.1.2.2.1 | exact hS2.1.2.2.2.2.2.1) ?_
    refine wp_iload_n d_10_36 (by rfl) ?_
    refine wp_iload_n d_10_37 (by rfl) ?_
    refine wp_sipush d_10_38 (by decide) ?_
    refine wp_iadd d_10_41 ?_
    refine wp_callV d_10_42 c_10_183 rfl (by rfl) (by rfl) ⟨10, rfl, rfl, by decide⟩ (by first | assumption | exact hS2.1.1) (by exact Nat.le_of_ble_eq_true rfl) (by exact Nat.le_of_ble_eq_true rfl) (s_collect hS0 hT0 ⟨by omega, by omega⟩ (by omega) (by omega)) (fun v_42 h_42 q_42 => ?_) (fun _ _ q => q.elim)
    obtain ⟨rfl, E1, R1, Cv⟩ := q_42
    have of1 : Off w X (PC w) (PQ w) := ⟨fun a z => by unfold PC at z; omega, fun a z => by unfold PQ at z; omega⟩
    have hS2 : Sk h_42 w := hS0.kept E1.fm (of1.pr hX.2) (by omega)
    have hT2 : TT h_42 w X := hT0.kept E1.fm of1
    have F2 : FaS h_42 w X g A B := F.ch E1 (fun a z y => by unfold PC at z; unfold PFa at y; omega) (fun a z y => by unfold PQ at z; unfold PFa at y; omega)
    have n4 : hi h_42 (w + 1) 4 = hi h0 (w + 1) 4 := E1.2.2.2.2.2.2.2.1 _ _ (by unfold PC; omega)
    have c2 : hi h_42 (w + 2) = hi h0 (w + 2) := of1.i E1.fm hX.1 (by omega) hX.2
    have wyE : Wy h_42 w = Wy h0 w := Wy.kept hT0 E1.fm of1
    have raE : Ra h_42 w = Ra h0 w := Ra.kept hT0 E1.fm of1
    have kf : kd h_42 (w + 47) = 5 := F2.1.2.1
    refine wp_aload_n d_10_45 (by rfl) ?_
    refine wp_getR (5) d_10_46 fl_0_47 rfl rfl (by first | assumption | exact hS2.1.1) (by first | assumption | exact hS2.1.2.1 | exact hS2.1.2.2.1 | exact hS2.1.2.2.2.2.2.1) ?_
    refine wp_aload_n d_10_49 (by rfl) ?_
    refine wp_getR (0) d_10_50 fl_0_12 rfl rfl (by first | assumption | exact hS2.1.1) (by first | assumption | exact hS2.1.2.1 | exact hS2.1.2.2.1 | exact hS2.1.2.2.2.2.2.1) ?_
    refine wp_aload_n d_10_53 (by rfl) ?_
    refine wp_getR (1) d_10_54 fl_0_19 rfl rfl (by first | assumption | exact hS2.1.1) (by first | assumption | exact hS2.1.2.1 | exact hS2.1.2.2.1 | exact hS2.1.2.2.2.2.2.1) ?_
    refine wp_iload_n d_10_57 (by rfl) ?_
    refine wp_iload_n d_10_58 (by rfl) ?_
    refine wp_iload_n d_10_59 (by rfl) ?_
    refine wp_iload d_10_60 (by rfl) ?_
    refine wp_iload_n d_10_62 (by rfl) ?_
    refine wp_sipush d_10_63 (by decide) ?_
    refine wp_iadd d_10_66 ?_
    refine wp_callS d_10_67 c_10_187 rfl (by rfl) (by rfl) (by exact Nat.le_of_ble_eq_true rfl) (by exact Nat.le_of_ble_eq_true rfl) (s_min (by omega) (by omega)) (fun v_67 h_67 q_67 => ?_) (fun _ _ q => q.elim)
    obtain ⟨rfl, z_67⟩ := q_67
    replace z_67 := z_67.symm
    subst z_67
    refine wp_callV d_10_70 c_10_193 rfl (by rfl) (by rfl) ⟨4, rfl, rfl, by decide⟩ (by first | assumption | exact hS2.1.1) (by exact Nat.le_of_ble_eq_true rfl) (by exact Nat.le_of_ble_eq_true rfl) (s_leastPrice hS2 hT2 R1 (by rw [n4]; exact ho) (by rw [n4]; exact hd) (up := min by_ (T + 2880)) ⟨by omega, by omega⟩ ⟨by omega, by omega⟩ ⟨g, F2⟩) (fun v_70 h_70 q_70 => ?_) (fun _ _ q => q.elim)
    obtain ⟨z_70, rfl, E2, F3, LR⟩ := q_70
    have cE : Ch h0 w o T (min by_ (T + 2880)) d z_70 := by
      obtain ⟨l1, l2, l3, l4⟩ := LR
      rw [c2, wyE] at l3 l4
      refine ⟨l1, l2, l3.imp id (fun ⟨j, t, y1, y2⟩ => ⟨j, t, y1, JE.sub (fun r z => by rw [← raE]; exact R1.sub z) y2⟩), fun j t p hj hje => l4 j t p hj ?_⟩
      exact JE.runs hT0.net ho (fun r i j a0 a1 a2 a3 a4 a5 => cov_of hT0 Cv r i j a0 a1 a2 a3 a4 (by omega)) hje
    have cB := cE.1
    have cB2 := cE.2.1
    refine wp_istore d_10_73 (by decide) ?_
    refine wp_iload d_10_75 (by rfl) ?_
    refine wp_ldc (1000000000) d_10_77 ck_0_197 (by decide) ?_
    refine wp_icmp_ge (tgt := 87) d_10_79 (by decide) (by omega) (by omega) (fun c_79 => ?_) (fun c_79 => ?_)
    · refine wp_iconst d_10_87 ?_
      refine wp_iret d_10_88 rfl ?_
      first
        | (refine ⟨(E1.fm.mono (fun a z => ?_) (fun a z => ?_)).trans (E2.mono (fun a z => ?_) (fun a z => ?_)), F3, _, ?_, cE⟩
           · unfold PC at z; unfold PCh; omega
           · unfold PQ at z; unfold PChR; omega
           · unfold PFa at z; unfold PCh; omega
           · unfold PFa at z; unfold PChR; omega
           · unfold an; rw [if_pos (by omega)])
        | (refine ⟨(E1.fm.mono (fun a z => ?_) (fun a z => ?_)).trans (E2.mono (fun a z => ?_) (fun a z => ?_)), F3, _, ?_, cE⟩
           · unfold PC at z; unfold PCh; omega
           · unfold PQ at z; unfold PChR; omega
           · unfold PFa at z; unfold PCh; omega
           · unfold PFa at z; unfold PChR; omega
           · unfold an; rw [if_neg (by omega)])
    · refine wp_iload d_10_82 (by rfl) ?_
      refine wp_goto (tgt := 88) d_10_84 (by decide) ?_
      refine wp_iret d_10_88 rfl ?_
      first
        | (refine ⟨(E1.fm.mono (fun a z => ?_) (fun a z => ?_)).trans (E2.mono (fun a z => ?_) (fun a z => ?_)), F3, _, ?_, cE⟩
           · unfold PC at z; unfold PCh; omega
           · unfold PQ at z; unfold PChR; omega
           · unfold PFa at z; unfold PCh; omega
           · unfold PFa at z; unfold PChR; omega
           · unfold an; rw [if_pos (by omega)])
        | (refine ⟨(E1.fm.mono (fun a z => ?_) (fun a z => ?_)).trans (E2.mono (fun a z => ?_) (fun a z => ?_)), F3, _, ?_, cE⟩
           · unfold PC at z; unfold PCh; omega
           · unfold PQ at z; unfold PChR; omega
           · unfold PFa at z; unfold PCh; omega
           · unfold PFa at z; unfold PChR; omega
           · unfold an; rw [if_neg (by omega)])
