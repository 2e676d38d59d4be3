/-! ===== along a run, for the least price ===== -/
theorem FRg.cut {n : Int} {c : Int → Int} {W : Int → Int → Int → Prop} {R : Rn → Prop} {Q Q' : Rn → Int → Int → Prop} {L d : Int} {f g0 g : Int → Int → Int} {z0 z : Int} (h : ∀ r i j, Q' r i j → ra r j ≤ L → Q r i j) (q : FRg n c W R Q L d f g0 g z0 z) : FRg n c W R Q' L d f g0 g z0 z :=
  ⟨q.1, q.2.1, q.2.2.1, fun r i j h1 h2 => q.2.2.2 r i j (h r i j h1 h2) h2⟩
set_option maxRecDepth 100000 in
set_option maxHeartbeats 4000000 in
theorem l_frideRun {w X g A B : Nat} {lo up d : Int} {hb : Hp} (hS0 : Sk hb w) (hT0 : TT hb w X) (hd : hi hb (w + 47) 2 = d) (hu : hi hb (w + 47) 3 = up) (hlu : 0 ≤ lo ∧ up ≤ 1000000 ∧ up - lo ≤ 2880) (hR : RunsOk hb w) (FB : FaS hb w X g A B) (CB : ∀ s : Nat, s < 16 → OfC hb (bef w g s) lo up) {a : Nat} {b0 : Int} (gT : TripOk hb (hi hb (w + 1) 4) a) (ga : w + 154 ≤ a ∧ a + 5 ≤ X) (hb0 : 0 ≤ b0 ∧ b0 ≤ 600000) (hr_ : Rc hb w (rnB hb a b0)) {gs : Int → Int → Int} {zs : Int} {Q : Option AV → Hp → Prop} (kq : ∀ h b, FaT hb h w X g A B lo up → (b = 0 ∨ b = 1) → FRg (hi hb (w + 1) 4) (hi hb (w + 2)) (Wy hb w) (fun r => r = rnB hb a b0) (fun r i j => r = rnB hb a b0 ∧ 0 ≤ i ∧ i < j ∧ j < rz r) up d (bF hb w g) gs (gF h w g) zs (hi h (w + 47) 4) → (b = 0 → ∀ s', 0 ≤ s' → s' < 16 → ∀ x, gF h w g s' x = gs s' x) → Q (some (vI b)) h) : ∀ (m : Nat) (k b ab : Int) (h : Hp), k + m = hi hb a 7 → 0 ≤ k → FaT hb h w X g A B lo up → (b = 0 ∨ b = 1) → FRg (hi hb (w + 1) 4) (hi hb (w + 2)) (Wy hb w) (fun r => r = rnB hb a b0) (fun r i j => r = rnB hb a b0 ∧ 0 ≤ i ∧ i < j ∧ j < k) up d (bF hb w g) gs (gF h w g) zs (hi h (w + 47) 4) → (b = 0 → ∀ s', 0 ≤ s' → s' < 16 → ∀ x, gF h w g s' x = gs s' x) → (0 ≤ ab ∧ ab ≤ 1000000000) → (∀ i, 0 ≤ i → i < k → ab ≤ bF hb w g (hi hb (a + 1) i) (b0 + hi hb (a + 3) i)) → (ab = 1000000000 ∨ ∃ i, 0 ≤ i ∧ i < k ∧ ab = bF hb w g (hi hb (a + 1) i) (b0 + hi hb (a + 3) i)) → wp 54 10 [some (vR (some (w + 47))), some (vR (some (w + 1))), some (vR (some a)), some (vI b0), some (vI (b)), some (vI (ab)), some (vI (k)), none, none] [] h Q noX := by
  intro m
  have N0 := hT0.net
  have N : Net (hi hb (w + 1) 4) (hi hb (w + 2)) (Wy hb w) (fun r => r = rnB hb a b0) := ⟨N0.1, N0.2.1, N0.2.2.1, fun r z => by rw [z]; exact N0.2.2.2 _ (hR.sub hr_)⟩
  have hg1 := FB.g1
  have fv : ∀ s x : Int, 0 ≤ s → s < 16 → 0 ≤ bF hb w g s x ∧ bF hb w g s x ≤ 1000000000 := fun s x s0 s1 => (CB s.toNat (by omega)).val (FB.2.2.2.1 (2 * s.toNat + g) (by omega)).1
  induction m with
  | zero =>
    intro k b ab h e0 e1 T gb I J a1 a2 a3
    have E := T.2.2.1
    have hX := hT0.2.2.2.2.2.2
    have hn16 := hT0.1
    have hn5 := hT0.2.1
    have hS := hS0.kept E (PFaoff.pr hX.2) (by omega)
    have hS9 := hS
    have hTh := hT0.kept E PFaoff
    have en : hi h (w + 1) = hi hb (w + 1) := PFaoff.i E hX.1 (by omega) hX.2
    have e2 : hi h (w + 2) = hi hb (w + 2) := PFaoff.i E hX.1 (by omega) hX.2
    have en4 : hi h (w + 1) 4 = hi hb (w + 1) 4 := congrFun en 4
    have en5 : hi h (w + 1) 5 = hi hb (w + 1) 5 := congrFun en 5
    have t2 : hi h (w + 47) 2 = d := T.2.2.2.2.1.1.trans hd
    have t3 : hi h (w + 47) 3 = up := T.2.2.2.2.1.2.trans hu
    have t4 := T.2.2.2.2.2
    obtain ⟨f1, f2, f3, f4⟩ := T.1.1
    have ea0 : hi h a = hi hb a := PFaoff.i E hX.1 (by omega) hX.2
    have ea1 : hi h (a + 1) = hi hb (a + 1) := PFaoff.i E hX.1 (by omega) hX.2
    have ea2 : hi h (a + 2) = hi hb (a + 2) := PFaoff.i E hX.1 (by omega) hX.2
    have ea3 : hi h (a + 3) = hi hb (a + 3) := PFaoff.i E hX.1 (by omega) hX.2
    have hTr := gT.kept E (fun b z0 z1 z => by unfold PFa at z; omega) (fun z => by unfold PFa at z; omega) (by omega)
    have hT1 := hTr
    obtain ⟨⟨k1, k2, k3, k4, k5, k6, k7⟩, ⟨n1, ⟨n2, n3, n4, n5⟩, ⟨n6, n7⟩, ⟨n8, n9⟩, ⟨n10, n11⟩, n12, n13⟩, ⟨m1, ⟨m2, m3, m4⟩, ⟨m5, m6⟩, ⟨m7, m8⟩, m9, m10⟩, ⟨o1, ⟨o2, o3, o4⟩, ⟨o5, o6, o7⟩, ⟨o8, o9, o10⟩, o11, o12⟩, ⟨b1, ⟨b2, b3⟩, ⟨b4, b5, b6⟩, b7, b8, b9⟩, ⟨j1, ⟨j2, j3, j4, j5, j6, j7, j8⟩, ⟨j9, j10⟩, j11⟩⟩ := hS
    obtain ⟨tk1, ⟨u1, u2, u3, u4⟩, ⟨⟨v1, v2⟩, ⟨v3, v4⟩, ⟨v5, v6⟩, v7, v8⟩, tq4, tq5, tq6, tq7, tq8⟩ := hT1
    have sz7 : hi h a 7 = hi hb a 7 := congrFun ea0 7
    have T4 := gT.2.2.2.1
    have T5 := gT.2.2.2.2.1
    have T6 := gT.2.2.2.2.2.1
    have T8 := gT.2.2.2.2.2.2.2
    refine wp_iload d_54_10 (by rfl) ?_
    refine wp_aload_n d_54_12 (by rfl) ?_
    refine wp_getI (7) d_54_13 fl_4_65 rfl rfl (by assumption) (fun x_13 e_13 r_13 => ?_)
    (try rw [ea0] at e_13)
    subst e_13
    refine wp_icmp_ge (tgt := 128) d_54_16 (by decide) (by omega) (by omega) (fun c_16 => ?_) (fun c_16 => ?_)
    rotate_left
    · exact absurd c_16 (by omega)
    refine wp_iload d_54_128 (by rfl) ?_
    refine wp_zret d_54_130 rfl (by omega) ?_
    exact kq h b T gb (FRg.cut (fun r i j z _ => ⟨z.1, z.2.1, z.2.2.1, by have y := z.2.2.2; rw [z.1] at y; have y : j < hi hb a 7 := y; omega⟩) I) J
  | succ m ih =>
    intro k b ab h e0 e1 T gb I J a1 a2 a3
    have kE : ∀ (b : Int) (h : Hp), FaT hb h w X g A B lo up → (b = 0 ∨ b = 1) → FRg (hi hb (w + 1) 4) (hi hb (w + 2)) (Wy hb w) (fun r => r = rnB hb a b0) (fun r i j => r = rnB hb a b0 ∧ 0 ≤ i ∧ i < j ∧ j < k + 1) up d (bF hb w g) gs (gF h w g) zs (hi h (w + 47) 4) → (b = 0 → ∀ s', 0 ≤ s' → s' < 16 → ∀ x, gF h w g s' x = gs s' x) → wp 54 96 [some (vR (some (w + 47))), some (vR (some (w + 1))), some (vR (some a)), some (vI b0), some (vI (b)), some (vI (ab)), some (vI (k)), some (vI (hi hb (a + 1) k)), none] [] h Q noX := by
      intro b h T gb I J
      have E := T.2.2.1
      have hX := hT0.2.2.2.2.2.2
      have hn16 := hT0.1
      have hn5 := hT0.2.1
      have hS := hS0.kept E (PFaoff.pr hX.2) (by omega)
      have hS9 := hS
      have hTh := hT0.kept E PFaoff
      have en : hi h (w + 1) = hi hb (w + 1) := PFaoff.i E hX.1 (by omega) hX.2
      have e2 : hi h (w + 2) = hi hb (w + 2) := PFaoff.i E hX.1 (by omega) hX.2
      have en4 : hi h (w + 1) 4 = hi hb (w + 1) 4 := congrFun en 4
      have en5 : hi h (w + 1) 5 = hi hb (w + 1) 5 := congrFun en 5
      have t2 : hi h (w + 47) 2 = d := T.2.2.2.2.1.1.trans hd
      have t3 : hi h (w + 47) 3 = up := T.2.2.2.2.1.2.trans hu
      have t4 := T.2.2.2.2.2
      obtain ⟨f1, f2, f3, f4⟩ := T.1.1
      have ea0 : hi h a = hi hb a := PFaoff.i E hX.1 (by omega) hX.2
      have ea1 : hi h (a + 1) = hi hb (a + 1) := PFaoff.i E hX.1 (by omega) hX.2
      have ea2 : hi h (a + 2) = hi hb (a + 2) := PFaoff.i E hX.1 (by omega) hX.2
      have ea3 : hi h (a + 3) = hi hb (a + 3) := PFaoff.i E hX.1 (by omega) hX.2
      have hTr := gT.kept E (fun b z0 z1 z => by unfold PFa at z; omega) (fun z => by unfold PFa at z; omega) (by omega)
      have hT1 := hTr
      obtain ⟨⟨k1, k2, k3, k4, k5, k6, k7⟩, ⟨n1, ⟨n2, n3, n4, n5⟩, ⟨n6, n7⟩, ⟨n8, n9⟩, ⟨n10, n11⟩, n12, n13⟩, ⟨m1, ⟨m2, m3, m4⟩, ⟨m5, m6⟩, ⟨m7, m8⟩, m9, m10⟩, ⟨o1, ⟨o2, o3, o4⟩, ⟨o5, o6, o7⟩, ⟨o8, o9, o10⟩, o11, o12⟩, ⟨b1, ⟨b2, b3⟩, ⟨b4, b5, b6⟩, b7, b8, b9⟩, ⟨j1, ⟨j2, j3, j4, j5, j6, j7, j8⟩, ⟨j9, j10⟩, j11⟩⟩ := hS
      obtain ⟨tk1, ⟨u1, u2, u3, u4⟩, ⟨⟨v1, v2⟩, ⟨v3, v4⟩, ⟨v5, v6⟩, v7, v8⟩, tq4, tq5, tq6, tq7, tq8⟩ := hT1
      have sz7 : hi h a 7 = hi hb a 7 := congrFun ea0 7
      have T4 := gT.2.2.2.1
      have T5 := gT.2.2.2.2.1
      have T6 := gT.2.2.2.2.2.1
      have T8 := gT.2.2.2.2.2.2.2
      have tk := T5 k e1 (by omega)
      obtain ⟨r1_, r2_, r3_, r4_⟩ := T.1.befr (s := hi hb (a + 1) k) (by omega)
      have r5_ : kd h (bef w g (hi hb (a + 1) k).toNat) = 9 := (T.1.2.2.2.1 _ r4_).1.1
      have fk : oV h (bef w g (hi hb (a + 1) k).toNat) (b0 + hi hb (a + 3) k) = bF hb w g (hi hb (a + 1) k) (b0 + hi hb (a + 3) k) := T.2.2.2.1 _ _ (by omega)
      have fb := fv (hi hb (a + 1) k) (b0 + hi hb (a + 3) k) (by omega) (by omega)
      refine wp_iload d_54_96 (by rfl) ?_
      refine wp_aload_n d_54_98 (by rfl) ?_
      refine wp_getR (0) d_54_99 fl_4_11 rfl rfl (by assumption) (by assumption) ?_
      refine wp_iload d_54_102 (by rfl) ?_
      refine wp_aald d_54_104 (by first | omega | (simp only [kd_setI, kd_cpI]; omega)) (by first | omega | (simp only [kd_setI, kd_cpI]; omega)) (by apply isRf_of; assumption; rfl) (by omega) (by omega) (by assumption) ?_
      refine wp_iload_n d_54_105 (by rfl) ?_
      refine wp_aload_n d_54_106 (by rfl) ?_
      refine wp_getR (5) d_54_107 fl_4_80 rfl rfl (by assumption) (by assumption) ?_
      refine wp_iload d_54_110 (by rfl) ?_
      refine wp_iald d_54_112 (Or.inl (by assumption)) (by omega) (by omega) (fun x_112 e_112 r_112 => ?_)
      (first | rw [ea1] at e_112 | rw [ea2] at e_112 | rw [ea3] at e_112)
      subst e_112
      refine wp_iadd d_54_113 ?_
      refine wp_callV d_54_114 c_54_83 rfl (by rfl) (by rfl) ⟨8, rfl, rfl, by decide⟩ (by assumption) (by exact Nat.le_of_ble_eq_true rfl) (by exact Nat.le_of_ble_eq_true rfl) (s_priceAt (T.1.2.2.2.1 _ r4_).1 (by omega)) (fun v_114 h_114 q_114 => ?_) (fun _ _ q => q.elim)
      obtain ⟨rfl, z_114⟩ := q_114
      replace z_114 := z_114.symm
      subst z_114
      rw [show oV h (ofK w (2 * (hi hb (a + 1) k).toNat + g)) (b0 + hi hb (a + 3) k) = bF hb w g (hi hb (a + 1) k) (b0 + hi hb (a + 3) k) from fk]
      refine wp_callS d_54_117 c_54_87 rfl (by rfl) (by rfl) (by exact Nat.le_of_ble_eq_true rfl) (by exact Nat.le_of_ble_eq_true rfl) (s_min (by omega) (by omega)) (fun v_117 h_117 q_117 => ?_) (fun _ _ q => q.elim)
      obtain ⟨rfl, z_117⟩ := q_117
      replace z_117 := z_117.symm
      subst z_117
      refine wp_istore d_54_120 (by decide) ?_
      refine wp_iinc d_54_122 (by rfl) (by decide) ?_
      refine wp_goto (tgt := 10) d_54_125 (by decide) ?_
      refine wp_to [some (vR (some (w + 47))), some (vR (some (w + 1))), some (vR (some a)), some (vI b0), some (vI (b)), some (vI (min ab (bF hb w g (hi hb (a + 1) k) (b0 + hi hb (a + 3) k)))), some (vI (k + 1)), none, none] ⟨rfl, rfl, rfl, rfl, rfl, rfl, rfl, trivial⟩ ?_
      refine ih (k + 1) b _ h (by omega) (by omega) T gb I J (by omega) (fun i i0 i1 => ?_) ?_
      · by_cases z : i = k
        · rw [z]; omega
        · have := a2 i i0 (by omega)
          omega
      · by_cases z : ab ≤ bF hb w g (hi hb (a + 1) k) (b0 + hi hb (a + 3) k)
        · rw [show min ab (bF hb w g (hi hb (a + 1) k) (b0 + hi hb (a + 3) k)) = ab by omega]
          exact a3.imp id (fun ⟨i, y1, y2, y3⟩ => ⟨i, y1, by omega, y3⟩)
        · exact Or.inr ⟨k, e1, by omega, by omega⟩
    have E := T.2.2.1
    have hX := hT0.2.2.2.2.2.2
    have hn16 := hT0.1
    have hn5 := hT0.2.1
    have hS := hS0.kept E (PFaoff.pr hX.2) (by omega)
    have hS9 := hS
    have hTh := hT0.kept E PFaoff
    have en : hi h (w + 1) = hi hb (w + 1) := PFaoff.i E hX.1 (by omega) hX.2
    have e2 : hi h (w + 2) = hi hb (w + 2) := PFaoff.i E hX.1 (by omega) hX.2
    have en4 : hi h (w + 1) 4 = hi hb (w + 1) 4 := congrFun en 4
    have en5 : hi h (w + 1) 5 = hi hb (w + 1) 5 := congrFun en 5
    have t2 : hi h (w + 47) 2 = d := T.2.2.2.2.1.1.trans hd
    have t3 : hi h (w + 47) 3 = up := T.2.2.2.2.1.2.trans hu
    have t4 := T.2.2.2.2.2
    obtain ⟨f1, f2, f3, f4⟩ := T.1.1
    have ea0 : hi h a = hi hb a := PFaoff.i E hX.1 (by omega) hX.2
    have ea1 : hi h (a + 1) = hi hb (a + 1) := PFaoff.i E hX.1 (by omega) hX.2
    have ea2 : hi h (a + 2) = hi hb (a + 2) := PFaoff.i E hX.1 (by omega) hX.2
    have ea3 : hi h (a + 3) = hi hb (a + 3) := PFaoff.i E hX.1 (by omega) hX.2
    have hTr := gT.kept E (fun b z0 z1 z => by unfold PFa at z; omega) (fun z => by unfold PFa at z; omega) (by omega)
    have hT1 := hTr
    obtain ⟨⟨k1, k2, k3, k4, k5, k6, k7⟩, ⟨n1, ⟨n2, n3, n4, n5⟩, ⟨n6, n7⟩, ⟨n8, n9⟩, ⟨n10, n11⟩, n12, n13⟩, ⟨m1, ⟨m2, m3, m4⟩, ⟨m5, m6⟩, ⟨m7, m8⟩, m9, m10⟩, ⟨o1, ⟨o2, o3, o4⟩, ⟨o5, o6, o7⟩, ⟨o8, o9, o10⟩, o11, o12⟩, ⟨b1, ⟨b2, b3⟩, ⟨b4, b5, b6⟩, b7, b8, b9⟩, ⟨j1, ⟨j2, j3, j4, j5, j6, j7, j8⟩, ⟨j9, j10⟩, j11⟩⟩ := hS
    obtain ⟨tk1, ⟨u1, u2, u3, u4⟩, ⟨⟨v1, v2⟩, ⟨v3, v4⟩, ⟨v5, v6⟩, v7, v8⟩, tq4, tq5, tq6, tq7, tq8⟩ := hT1
    have sz7 : hi h a 7 = hi hb a 7 := congrFun ea0 7
    have T4 := gT.2.2.2.1
    have T5 := gT.2.2.2.2.1
    have T6 := gT.2.2.2.2.2.1
    have T8 := gT.2.2.2.2.2.2.2
    have tk := T5 k e1 (by omega)
    have early : ab < 1000000000 → ∃ i, 0 ≤ i ∧ i < k ∧ ab = bF hb w g (hi hb (a + 1) i) (b0 + hi hb (a + 3) i) ∧ lo ≤ b0 + hi hb (a + 2) k := fun y => by
      obtain ⟨i, i0, i1, i2⟩ := a3.resolve_left (by omega)
      have ti := T5 i i0 (by omega)
      have := (CB (hi hb (a + 1) i).toNat (by omega)).early (FB.2.2.2.1 (2 * (hi hb (a + 1) i).toNat + g) (by omega)).1 (x := b0 + hi hb (a + 3) i) (by omega : bF hb w g (hi hb (a + 1) i) (b0 + hi hb (a + 3) i) < 1000000000)
      have := T6 i k i0 i1 (by omega)
      exact ⟨i, i0, i1, i2, by omega⟩
    have hm9 : ∀ s, 0 ≤ s → s < hi hb (w + 1) 4 → ∀ x x', x ≤ x' → gF h w g s x' ≤ gF h w g s x := fun s s0 s1 x x' hx => T.mono ⟨s0, by omega⟩ hx
    have seq : ∀ h' : Hp, FRg (hi hb (w + 1) 4) (hi hb (w + 2)) (Wy hb w) (fun r => r = rnB hb a b0) (fun r i j => r = rnB hb a b0 ∧ 0 ≤ i ∧ i < j ∧ j = k) up d (bF hb w g) (gF h w g) (gF h' w g) (hi h (w + 47) 4) (hi h' (w + 47) 4) → FRg (hi hb (w + 1) 4) (hi hb (w + 2)) (Wy hb w) (fun r => r = rnB hb a b0) (fun r i j => r = rnB hb a b0 ∧ 0 ≤ i ∧ i < j ∧ j < k + 1) up d (bF hb w g) gs (gF h' w g) zs (hi h' (w + 47) 4) := fun h' y => by
      refine FRg.seq N (fun r z => z) (fun r z => z) (fun r i j z => ?_) (fun r i j z => ?_) I y
      · by_cases c : j = k
        · exact Or.inr ⟨z.1, z.2.1, z.2.2.1, c⟩
        · exact Or.inl ⟨z.1, z.2.1, z.2.2.1, by omega⟩
      · rw [z.1]
        exact (T5 j (by omega) (by omega)).1
    clear a3 j1 j2 j3 j4 j5 j6 j7 j8 j9 j10 j11 b1 b2 b3 b4 b5 b6 b7 b8 b9 o1 o2 o3 o4 o5 o6 o7 o8 o9 o10 o11 o12 k1 k2 k3 k4 k5 k6 k7 n1 n2 n3 n4 n5 n6 n7 n8 n9 n10 n11 n12 n13 m1 m2 m3 m4 m5 m6 m7 m8 m9 m10
    refine wp_iload d_54_10 (by rfl) ?_
    refine wp_aload_n d_54_12 (by rfl) ?_
    refine wp_getI (7) d_54_13 fl_4_65 rfl rfl (by assumption) (fun x_13 e_13 r_13 => ?_)
    (try rw [ea0] at e_13)
    subst e_13
    refine wp_icmp_ge (tgt := 128) d_54_16 (by decide) (by omega) (by omega) (fun c_16 => ?_) (fun c_16 => ?_)
    · exact absurd c_16 (by omega)
    refine wp_aload_n d_54_19 (by rfl) ?_
    refine wp_getR (3) d_54_20 fl_4_68 rfl rfl (by assumption) (by assumption) ?_
    refine wp_iload d_54_23 (by rfl) ?_
    refine wp_iald d_54_25 (Or.inl (by assumption)) (by omega) (by omega) (fun x_25 e_25 r_25 => ?_)
    (first | rw [ea1] at e_25 | rw [ea2] at e_25 | rw [ea3] at e_25)
    subst e_25
    refine wp_istore d_54_26 (by decide) ?_
    refine wp_iload_n d_54_28 (by rfl) ?_
    refine wp_aload_n d_54_29 (by rfl) ?_
    refine wp_getR (4) d_54_30 fl_4_71 rfl rfl (by assumption) (by assumption) ?_
    refine wp_iload d_54_33 (by rfl) ?_
    refine wp_iald d_54_35 (Or.inl (by assumption)) (by omega) (by omega) (fun x_35 e_35 r_35 => ?_)
    (first | rw [ea1] at e_35 | rw [ea2] at e_35 | rw [ea3] at e_35)
    subst e_35
    refine wp_iadd d_54_36 ?_
    refine wp_istore d_54_37 (by decide) ?_
    refine wp_iload d_54_39 (by rfl) ?_
    refine wp_aload_n d_54_41 (by rfl) ?_
    refine wp_getI (3) d_54_42 fl_4_25 rfl rfl (by assumption) (fun x_42 e_42 r_42 => ?_)
    (try rw [ea0] at e_42)
    subst e_42
    refine wp_icmp_le (tgt := 51) d_54_45 (by decide) (by omega) (by omega) (fun c_45 => ?_) (fun c_45 => ?_)
    · refine wp_iload d_54_51 (by rfl) ?_
      refine wp_aload_n d_54_53 (by rfl) ?_
      refine wp_getI (2) d_54_54 fl_4_74 rfl rfl (by assumption) (fun x_54 e_54 r_54 => ?_)
      (try rw [ea0] at e_54)
      subst e_54
      refine wp_iadd d_54_57 ?_
      refine wp_aload_n d_54_58 (by rfl) ?_
      refine wp_getI (4) d_54_59 fl_4_29 rfl rfl (by assumption) (fun x_59 e_59 r_59 => ?_)
      (try rw [ea0] at e_59)
      subst e_59
      refine wp_icmp_ge (tgt := 96) d_54_62 (by decide) (by omega) (by omega) (fun c_62 => ?_) (fun c_62 => ?_)
      · first
          | (refine wp_to [some (vR (some (w + 47))), some (vR (some (w + 1))), some (vR (some a)), some (vI b0), some (vI (1)), some (vI (ab)), some (vI (k)), some (vI (hi hb (a + 1) k)), none] ⟨rfl, rfl, rfl, rfl, rfl, rfl, rfl, rfl, trivial⟩ (kE 1 _ T2 (Or.inr rfl) (seq _ ?_) (fun y => by omega))
             exact FRg.alight N rfl ⟨ie0, ie1, (by omega : k < hi hb a 7)⟩ ie2 (by omega) (fun i' i0 i1 => a2 i' i0 i1) (by omega : b0 + hi hb (a + 2) k ≤ up) A2)
          | (refine wp_to [some (vR (some (w + 47))), some (vR (some (w + 1))), some (vR (some a)), some (vI b0), some (vI (0)), some (vI (ab)), some (vI (k)), some (vI (hi hb (a + 1) k)), none] ⟨rfl, rfl, rfl, rfl, rfl, rfl, rfl, rfl, trivial⟩ (kE 0 _ T2 (Or.inl rfl) (seq _ ?_) (fun y s' s0 s1 x => by rw [J2 (by omega) s' s0 s1 x]; exact J (by omega) s' s0 s1 x))
             exact FRg.alight N rfl ⟨ie0, ie1, (by omega : k < hi hb a 7)⟩ ie2 (by omega) (fun i' i0 i1 => a2 i' i0 i1) (by omega : b0 + hi hb (a + 2) k ≤ up) A2)
          | (refine wp_to [some (vR (some (w + 47))), some (vR (some (w + 1))), some (vR (some a)), some (vI b0), some (vI (b)), some (vI (ab)), some (vI (k)), some (vI (hi hb (a + 1) k)), none] ⟨rfl, rfl, rfl, rfl, rfl, rfl, rfl, rfl, trivial⟩ (kE b _ T gb (seq _ ?_) J)
             exact FRg.pass (ab := ab) hm9 (fun i' i0 i1 => a2 i' i0 i1) (by omega : hi h (w + 47) 4 ≤ ab + hi hb a 2))
      · obtain ⟨ie, ie0, ie1, ie2, ie3⟩ := early (by omega)
        clear early
        refine wp_aload_n d_54_65 (by rfl) ?_
        refine wp_aload_n d_54_66 (by rfl) ?_
        refine wp_iload d_54_67 (by rfl) ?_
        refine wp_iload d_54_69 (by rfl) ?_
        refine wp_iload d_54_71 (by rfl) ?_
        refine wp_aload_n d_54_73 (by rfl) ?_
        refine wp_getI (2) d_54_74 fl_4_74 rfl rfl (by assumption) (fun x_74 e_74 r_74 => ?_)
        (try rw [ea0] at e_74)
        subst e_74
        refine wp_iadd d_54_77 ?_
        refine wp_callV d_54_78 c_54_77 rfl (by rfl) (by rfl) ⟨4, rfl, rfl, by decide⟩ (by assumption) (by exact Nat.le_of_ble_eq_true rfl) (by exact Nat.le_of_ble_eq_true rfl) (s_falight hS0 hT0 hd hu hlu ⟨by omega, by omega⟩ tk.1 ⟨by omega, by omega⟩ T) (fun v_78 h_78 q_78 => ?_) (fun _ _ q => q.elim)
        obtain ⟨z_78, rfl, y1_, T2, A2, J2⟩ := q_78
        refine wp_if_ne (tgt := 89) d_54_81 (by decide) (by omega) (fun c_81 => ?_) (fun c_81 => ?_)
        · refine wp_iconst d_54_89 ?_
          refine wp_goto (tgt := 94) d_54_90 (by decide) ?_
          refine wp_istore d_54_94 (by decide) ?_
          first
            | (refine wp_to [some (vR (some (w + 47))), some (vR (some (w + 1))), some (vR (some a)), some (vI b0), some (vI (1)), some (vI (ab)), some (vI (k)), some (vI (hi hb (a + 1) k)), none] ⟨rfl, rfl, rfl, rfl, rfl, rfl, rfl, rfl, trivial⟩ (kE 1 _ T2 (Or.inr rfl) (seq _ ?_) (fun y => by omega))
               exact FRg.alight N rfl ⟨ie0, ie1, (by omega : k < hi hb a 7)⟩ ie2 (by omega) (fun i' i0 i1 => a2 i' i0 i1) (by omega : b0 + hi hb (a + 2) k ≤ up) A2)
            | (refine wp_to [some (vR (some (w + 47))), some (vR (some (w + 1))), some (vR (some a)), some (vI b0), some (vI (0)), some (vI (ab)), some (vI (k)), some (vI (hi hb (a + 1) k)), none] ⟨rfl, rfl, rfl, rfl, rfl, rfl, rfl, rfl, trivial⟩ (kE 0 _ T2 (Or.inl rfl) (seq _ ?_) (fun y s' s0 s1 x => by rw [J2 (by omega) s' s0 s1 x]; exact J (by omega) s' s0 s1 x))
               exact FRg.alight N rfl ⟨ie0, ie1, (by omega : k < hi hb a 7)⟩ ie2 (by omega) (fun i' i0 i1 => a2 i' i0 i1) (by omega : b0 + hi hb (a + 2) k ≤ up) A2)
            | (refine wp_to [some (vR (some (w + 47))), some (vR (some (w + 1))), some (vR (some a)), some (vI b0), some (vI (b)), some (vI (ab)), some (vI (k)), some (vI (hi hb (a + 1) k)), none] ⟨rfl, rfl, rfl, rfl, rfl, rfl, rfl, rfl, trivial⟩ (kE b _ T gb (seq _ ?_) J)
               exact FRg.pass (ab := ab) hm9 (fun i' i0 i1 => a2 i' i0 i1) (by omega : hi h (w + 47) 4 ≤ ab + hi hb a 2))
        · refine wp_iload d_54_84 (by rfl) ?_
          refine wp_if_eq (tgt := 93) d_54_86 (by decide) (by omega) (fun c_86 => ?_) (fun c_86 => ?_)
          · refine wp_iconst d_54_93 ?_
            refine wp_istore d_54_94 (by decide) ?_
            first
              | (refine wp_to [some (vR (some (w + 47))), some (vR (some (w + 1))), some (vR (some a)), some (vI b0), some (vI (1)), some (vI (ab)), some (vI (k)), some (vI (hi hb (a + 1) k)), none] ⟨rfl, rfl, rfl, rfl, rfl, rfl, rfl, rfl, trivial⟩ (kE 1 _ T2 (Or.inr rfl) (seq _ ?_) (fun y => by omega))
                 exact FRg.alight N rfl ⟨ie0, ie1, (by omega : k < hi hb a 7)⟩ ie2 (by omega) (fun i' i0 i1 => a2 i' i0 i1) (by omega : b0 + hi hb (a + 2) k ≤ up) A2)
              | (refine wp_to [some (vR (some (w + 47))), some (vR (some (w + 1))), some (vR (some a)), some (vI b0), some (vI (0)), some (vI (ab)), some (vI (k)), some (vI (hi hb (a + 1) k)), none] ⟨rfl, rfl, rfl, rfl, rfl, rfl, rfl, rfl, trivial⟩ (kE 0 _ T2 (Or.inl rfl) (seq _ ?_) (fun y s' s0 s1 x => by rw [J2 (by omega) s' s0 s1 x]; exact J (by omega) s' s0 s1 x))
                 exact FRg.alight N rfl ⟨ie0, ie1, (by omega : k < hi hb a 7)⟩ ie2 (by omega) (fun i' i0 i1 => a2 i' i0 i1) (by omega : b0 + hi hb (a + 2) k ≤ up) A2)
              | (refine wp_to [some (vR (some (w + 47))), some (vR (some (w + 1))), some (vR (some a)), some (vI b0), some (vI (b)), some (vI (ab)), some (vI (k)), some (vI (hi hb (a + 1) k)), none] ⟨rfl, rfl, rfl, rfl, rfl, rfl, rfl, rfl, trivial⟩ (kE b _ T gb (seq _ ?_) J)
                 exact FRg.pass (ab := ab) hm9 (fun i' i0 i1 => a2 i' i0 i1) (by omega : hi h (w + 47) 4 ≤ ab + hi hb a 2))
          · refine wp_iconst d_54_89 ?_
            refine wp_goto (tgt := 94) d_54_90 (by decide) ?_
            refine wp_istore d_54_94 (by decide) ?_
            first
              | (refine wp_to [some (vR (some (w + 47))), some (vR (some (w + 1))), some (vR (some a)), some (vI b0), some (vI (1)), some (vI (ab)), some (vI (k)), some (vI (hi hb (a + 1) k)), none] ⟨rfl, rfl, rfl, rfl, rfl, rfl, rfl, rfl, trivial⟩ (kE 1 _ T2 (Or.inr rfl) (seq _ ?_) (fun y => by omega))
                 exact FRg.alight N rfl ⟨ie0, ie1, (by omega : k < hi hb a 7)⟩ ie2 (by omega) (fun i' i0 i1 => a2 i' i0 i1) (by omega : b0 + hi hb (a + 2) k ≤ up) A2)
              | (refine wp_to [some (vR (some (w + 47))), some (vR (some (w + 1))), some (vR (some a)), some (vI b0), some (vI (0)), some (vI (ab)), some (vI (k)), some (vI (hi hb (a + 1) k)), none] ⟨rfl, rfl, rfl, rfl, rfl, rfl, rfl, rfl, trivial⟩ (kE 0 _ T2 (Or.inl rfl) (seq _ ?_) (fun y s' s0 s1 x => by rw [J2 (by omega) s' s0 s1 x]; exact J (by omega) s' s0 s1 x))
                 exact FRg.alight N rfl ⟨ie0, ie1, (by omega : k < hi hb a 7)⟩ ie2 (by omega) (fun i' i0 i1 => a2 i' i0 i1) (by omega : b0 + hi hb (a + 2) k ≤ up) A2)
              | (refine wp_to [some (vR (some (w + 47))), some (vR (some (w + 1))), some (vR (some a)), some (vI b0), some (vI (b)), some (vI (ab)), some (vI (k)), some (vI (hi hb (a + 1) k)), none] ⟨rfl, rfl, rfl, rfl, rfl, rfl, rfl, rfl, trivial⟩ (kE b _ T gb (seq _ ?_) J)
                 exact FRg.pass (ab := ab) hm9 (fun i' i0 i1 => a2 i' i0 i1) (by omega : hi h (w + 47) 4 ≤ ab + hi hb a 2))
    · refine wp_goto (tgt := 128) d_54_48 (by decide) ?_
      refine wp_iload d_54_128 (by rfl) ?_
      refine wp_zret d_54_130 rfl (by omega) ?_
      exact kq h b T gb (FRg.cut (fun r i j z zl => ⟨z.1, z.2.1, z.2.2.1, by
        have y := z.2.2.2
        rw [z.1] at y zl
        have y : j < hi hb a 7 := y
        have zl : b0 + hi hb (a + 2) j ≤ up := zl
        by_cases c : j < k
        · exact c
        · exfalso
          by_cases c2 : j = k
          · rw [c2] at zl; omega
          · have x1 := T6 k j e1 (by omega) y
            omega⟩) I) J
set_option maxRecDepth 100000 in
set_option maxHeartbeats 4000000 in
theorem s_frideRun {w X g A B : Nat} {lo up d : Int} {hb : Hp} (hS0 : Sk hb w) (hT0 : TT hb w X) (hd : hi hb (w + 47) 2 = d) (hu : hi hb (w + 47) 3 = up) (hlu : 0 ≤ lo ∧ up ≤ 1000000 ∧ up - lo ≤ 2880) (hR : RunsOk hb w) (FB : FaS hb w X g A B) (CB : ∀ s : Nat, s < 16 → OfC hb (bef w g s) lo up) {a : Nat} {b0 : Int} (gT : TripOk hb (hi hb (w + 1) 4) a) (ga : w + 154 ≤ a ∧ a + 5 ≤ X) (hb0 : 0 ≤ b0 ∧ b0 ≤ 600000) (hr_ : Rc hb w (rnB hb a b0)) {h : Hp} (T : FaT hb h w X g A B lo up) : wp 54 0 (entL [vR (some (w + 47)), vR (some (w + 1)), vR (some a), vI b0] (mL 54)) [] h (fun v h' => ∃ b, v = some (vI b) ∧ (b = 0 ∨ b = 1) ∧ FaT hb h' w X g A B lo up ∧ FRg (hi hb (w + 1) 4) (hi hb (w + 2)) (Wy hb w) (fun r => r = rnB hb a b0) (fun r i j => r = rnB hb a b0 ∧ 0 ≤ i ∧ i < j ∧ j < rz r) up d (bF hb w g) (gF h w g) (gF h' w g) (hi h (w + 47) 4) (hi h' (w + 47) 4) ∧ (b = 0 → ∀ s', 0 ≤ s' → s' < 16 → ∀ x, gF h' w g s' x = gF h w g s' x)) noX := by
  refine wp_iconst d_54_0 ?_
  refine wp_istore d_54_1 (by decide) ?_
  refine wp_ldc (1000000000) d_54_3 ck_4_28 (by decide) ?_
  refine wp_istore d_54_5 (by decide) ?_
  refine wp_iconst d_54_7 ?_
  refine wp_istore d_54_8 (by decide) ?_
  have hn16 := hT0.1
  have T4 := gT.2.2.2.1
  refine wp_to [some (vR (some (w + 47))), some (vR (some (w + 1))), some (vR (some a)), some (vI b0), some (vI (0)), some (vI (1000000000)), some (vI (0)), none, none] ⟨rfl, rfl, rfl, rfl, rfl, rfl, rfl, trivial⟩ ?_
  exact l_frideRun hS0 hT0 hd hu hlu hR FB CB gT ga hb0 hr_ (gs := gF h w g) (zs := hi h (w + 47) 4) (fun h' b z1 z2 z3 z4 => ⟨b, rfl, z2, z1, z3, z4⟩) (hi hb a 7).toNat 0 0 1000000000 h (by omega) (by omega) T (Or.inl rfl) (FRg.cut (fun r i j z _ => by omega) ((FRg.nil (R := fun r => r = rnB hb a b0) (fun s' s0 s1 x x' hx => T.mono ⟨s0, by omega⟩ hx)))) (fun _ _ _ _ _ => rfl) (by omega) (fun i i0 i1 => by omega) (Or.inl rfl)
