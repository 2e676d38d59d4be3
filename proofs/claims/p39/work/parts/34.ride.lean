/-! ===== the search onwards: rides ===== -/
set_option maxRecDepth 100000 in
set_option maxHeartbeats 4000000 in
theorem l_rideRun {w a r : Nat} {n b0 : Int} {h0 : Hp} (hS0 : Sk h0 w) (hT0 : TripOk h0 n a) (ha : w + 154 ≤ a) (hn : n ≤ 16) (kr : kd h0 r = 100) (lr : ln h0 r = 16) (hr29 : r ≠ w + 29) (hw : w + 154 ≤ nx h0) (han : a + 5 ≤ nx h0) (hb0 : 0 ≤ b0 ∧ b0 ≤ 600000) (hlim : 0 ≤ hi h0 (w + 12) 3 ∧ hi h0 (w + 12) 3 ≤ 1000000) {Q : Option AV → Hp → Prop} : ∀ (m : Nat) (k g b : Int) (h : Hp), k + m = hi h0 a 7 → 0 ≤ k → ch (· = w + 29) nP h0 h → RRI (hi h0 a 7) (hi h0 (a + 1)) (fun i => b0 + hi h0 (a + 2) i) (fun i => b0 + hi h0 (a + 3) i) (hi h0 (w + 12) 3) (hi h0 r) (hi h0 (w + 29)) (hi h (w + 29)) k k g b → (∀ h' b', ch (· = w + 29) nP h0 h' → RRun (hi h0 a 7) (hi h0 (a + 1)) (fun i => b0 + hi h0 (a + 2) i) (fun i => b0 + hi h0 (a + 3) i) (hi h0 (w + 12) 3) (hi h0 r) (hi h0 (w + 29)) (hi h' (w + 29)) b' → Q (some (vI b')) h') → wp 85 9 [some (vR (some (w + 12))), some (vR (some a)), some (vI b0), some (vR (some r)), some (vI b), some (vI g), some (vI k), none, none] [] h Q noX := by
  intro m
  have t40 := hT0.2.2.2.1
  have t50 := hT0.2.2.2.2.1
  have t60 := hT0.2.2.2.2.2.1
  induction m with
  | zero =>
    intro k g b h e0 e1 E I kq
    have hS := hS0.kept E.fm PRok_nP hw
    have hT := hT0.kept E.fm (fun q z1 z2 z3 => by omega) id han
    have E8 := E.2.2.2.2.2.2.2.1
    have pa : ∀ q, a ≤ q → ¬ q = w + 29 := fun q z => by omega
    have pl : ¬ w + 12 = w + 29 := by omega
    have gb : (g = 0 ∨ g = 1) ∧ (b = 0 ∨ b = 1) := ⟨by rcases I.2.2.1 with z | z <;> omega, by rcases I.2.2.2 with z | z <;> omega⟩
    have kr1 : kd h r = 100 := (congrFun E.1 r).trans kr
    have lr1 : ln h r = 16 := (congrFun E.2.1 r).trans lr
    obtain ⟨⟨k1, k2, k3, k4, k5, k6, k7⟩, ⟨n1, ⟨n2, n3, n4, n5⟩, ⟨n6, n7⟩, ⟨n8, n9⟩, ⟨n10, n11⟩, n12, n13⟩, ⟨m1, ⟨m2, m3, m4⟩, ⟨m5, m6⟩, ⟨m7, m8⟩, m9, m10⟩, ⟨o1, ⟨o2, o3, o4⟩, ⟨o5, o6, o7⟩, ⟨o8, o9, o10⟩, o11, o12⟩, ⟨b1, ⟨b2, b3⟩, ⟨b4, b5, b6⟩, b7, b8, b9⟩, ⟨j1, ⟨j2, j3, j4, j5, j6, j7, j8⟩, ⟨j9, j10⟩, j11⟩⟩ := hS
    obtain ⟨t1, ⟨u1, u2, u3, u4⟩, ⟨⟨v1, v2⟩, ⟨v3, v4⟩, ⟨v5, v6⟩, v7, v8⟩, t4, t5, t6, t7, t8⟩ := hT
    refine wp_iload d_85_9 (by rfl) ?_
    refine wp_aload_n d_85_11 (by rfl) ?_
    refine wp_getI (7) d_85_12 fl_9_79 rfl rfl (by assumption) (fun x_12 e_12 r_12 => ?_)
    (try rw [E8 _ _ (pa _ (by omega))] at e_12)
    (try rw [E8 _ _ pl] at e_12)
    (try rw [E8 _ _ hr29] at e_12)
    refine wp_icmp_ge (tgt := 113) d_85_15 (by decide) (by omega) (by omega) (fun c_15 => ?_) (fun c_15 => ?_)
    rotate_left
    · exact absurd c_15 (by omega)
    refine wp_iload d_85_113 (by rfl) ?_
    refine wp_zret d_85_115 rfl (by omega) ?_
    exact kq h b E (I.done (Or.inl (by omega)))
  | succ m ih =>
    intro k g b h e0 e1 E I kq
    have hS := hS0.kept E.fm PRok_nP hw
    have hT := hT0.kept E.fm (fun q z1 z2 z3 => by omega) id han
    have E8 := E.2.2.2.2.2.2.2.1
    have pa : ∀ q, a ≤ q → ¬ q = w + 29 := fun q z => by omega
    have pl : ¬ w + 12 = w + 29 := by omega
    have gb : (g = 0 ∨ g = 1) ∧ (b = 0 ∨ b = 1) := ⟨by rcases I.2.2.1 with z | z <;> omega, by rcases I.2.2.2 with z | z <;> omega⟩
    have kr1 : kd h r = 100 := (congrFun E.1 r).trans kr
    have lr1 : ln h r = 16 := (congrFun E.2.1 r).trans lr
    obtain ⟨⟨k1, k2, k3, k4, k5, k6, k7⟩, ⟨n1, ⟨n2, n3, n4, n5⟩, ⟨n6, n7⟩, ⟨n8, n9⟩, ⟨n10, n11⟩, n12, n13⟩, ⟨m1, ⟨m2, m3, m4⟩, ⟨m5, m6⟩, ⟨m7, m8⟩, m9, m10⟩, ⟨o1, ⟨o2, o3, o4⟩, ⟨o5, o6, o7⟩, ⟨o8, o9, o10⟩, o11, o12⟩, ⟨b1, ⟨b2, b3⟩, ⟨b4, b5, b6⟩, b7, b8, b9⟩, ⟨j1, ⟨j2, j3, j4, j5, j6, j7, j8⟩, ⟨j9, j10⟩, j11⟩⟩ := hS
    obtain ⟨t1, ⟨u1, u2, u3, u4⟩, ⟨⟨v1, v2⟩, ⟨v3, v4⟩, ⟨v5, v6⟩, v7, v8⟩, t4, t5, t6, t7, t8⟩ := hT
    have kk := t50 k e1 (by omega)
    have mono : ∀ j, k ≤ j → j < hi h0 a 7 → b0 + hi h0 (a + 2) k ≤ b0 + hi h0 (a + 2) j := fun j z1 z2 => by
      by_cases z : j = k
      · subst z; omega
      · have := t60 k j e1 (by omega) z2
        omega
    refine wp_iload d_85_9 (by rfl) ?_
    refine wp_aload_n d_85_11 (by rfl) ?_
    refine wp_getI (7) d_85_12 fl_9_79 rfl rfl (by first | assumption | (simp only [kd_setI]; assumption)) (fun x_12 e_12 r_12 => ?_)
    (try rw [E8 _ _ (pa _ (by omega))] at e_12)
    (try rw [E8 _ _ pl] at e_12)
    (try rw [E8 _ _ hr29] at e_12)
    refine wp_icmp_ge (tgt := 113) d_85_15 (by decide) (by first | omega | (simp only [ln_setI]; omega)) (by first | omega | (simp only [ln_setI]; omega)) (fun c_15 => ?_) (fun c_15 => ?_)
    · refine wp_iload d_85_113 (by rfl) ?_
      refine wp_zret d_85_115 rfl (by omega) ?_
      first | exact absurd c_15 (by omega) | exact kq h b E (I.done (Or.inr ⟨by show _ < b0 + hi h0 (a + 2) k; omega, mono⟩))
    · refine wp_aload_n d_85_18 (by rfl) ?_
      refine wp_getR (3) d_85_19 fl_9_82 rfl rfl (by first | assumption | (simp only [kd_setI]; assumption)) (by first | assumption | (simp only [hr_setI]; assumption)) ?_
      refine wp_iload d_85_22 (by rfl) ?_
      refine wp_iald d_85_24 (Or.inl (by first | assumption | (simp only [kd_setI]; assumption))) (by first | omega | (simp only [ln_setI]; omega)) (by first | omega | (simp only [ln_setI]; omega)) (fun x_24 e_24 r_24 => ?_)
      (try rw [E8 _ _ (pa _ (by omega))] at e_24)
      (try rw [E8 _ _ pl] at e_24)
      (try rw [E8 _ _ hr29] at e_24)
      refine wp_istore d_85_25 (by decide) ?_
      refine wp_iload_n d_85_27 (by rfl) ?_
      refine wp_aload_n d_85_28 (by rfl) ?_
      refine wp_getR (4) d_85_29 fl_9_85 rfl rfl (by first | assumption | (simp only [kd_setI]; assumption)) (by first | assumption | (simp only [hr_setI]; assumption)) ?_
      refine wp_iload d_85_32 (by rfl) ?_
      refine wp_iald d_85_34 (Or.inl (by first | assumption | (simp only [kd_setI]; assumption))) (by first | omega | (simp only [ln_setI]; omega)) (by first | omega | (simp only [ln_setI]; omega)) (fun x_34 e_34 r_34 => ?_)
      (try rw [E8 _ _ (pa _ (by omega))] at e_34)
      (try rw [E8 _ _ pl] at e_34)
      (try rw [E8 _ _ hr29] at e_34)
      refine wp_iadd d_85_35 ?_
      refine wp_istore d_85_36 (by decide) ?_
      refine wp_iload d_85_38 (by rfl) ?_
      refine wp_aload_n d_85_40 (by rfl) ?_
      refine wp_getI (3) d_85_41 fl_9_28 rfl rfl (by first | assumption | (simp only [kd_setI]; assumption)) (fun x_41 e_41 r_41 => ?_)
      (try rw [E8 _ _ (pa _ (by omega))] at e_41)
      (try rw [E8 _ _ pl] at e_41)
      (try rw [E8 _ _ hr29] at e_41)
      refine wp_icmp_le (tgt := 50) d_85_44 (by decide) (by first | omega | (simp only [ln_setI]; omega)) (by first | omega | (simp only [ln_setI]; omega)) (fun c_44 => ?_) (fun c_44 => ?_)
      · refine wp_iload d_85_50 (by rfl) ?_
        refine wp_if_eq (tgt := 79) d_85_52 (by decide) (by first | omega | (simp only [ln_setI]; omega)) (fun c_52 => ?_) (fun c_52 => ?_)
        · refine wp_iload d_85_79 (by rfl) ?_
          refine wp_if_ne (tgt := 100) d_85_81 (by decide) (by first | omega | (simp only [ln_setI]; omega)) (fun c_81 => ?_) (fun c_81 => ?_)
          · refine wp_iconst d_85_100 ?_
            refine wp_goto (tgt := 105) d_85_101 (by decide) ?_
            refine wp_istore d_85_105 (by decide) ?_
            refine wp_iinc d_85_107 (by rfl) (by decide) ?_
            refine wp_goto (tgt := 9) d_85_110 (by decide) ?_
            first
              | (exfalso; omega)
              | (refine wp_to [some (vR (some (w + 12))), some (vR (some a)), some (vI b0), some (vR (some r)), some (vI 1), some (vI 1), some (vI (k + 1)), none, none] ⟨rfl, rfl, rfl, rfl, rfl, rfl, rfl, trivial⟩ ?_
                 refine ih (k + 1) 1 1 _ (by omega) (by omega) (E.trans (ch_setI rfl)) ?_ kq
                 rw [hi_upF]
                 have J := I.write e1 (by omega) (by omega) (by show b0 + hi h0 (a + 2) k ≤ _; omega) (by show b0 + hi h0 (a + 2) k < _; rw [← e_24]; omega)
                 rw [e_24, show b0 + x_34 = b0 + hi h0 (a + 2) k by omega]
                 exact J.on e1 (Or.inl (by omega)))
              | (refine wp_to [some (vR (some (w + 12))), some (vR (some a)), some (vI b0), some (vR (some r)), some (vI b), some (vI 1), some (vI (k + 1)), none, none] ⟨rfl, rfl, rfl, rfl, rfl, rfl, rfl, trivial⟩ ?_
                 refine ih (k + 1) 1 b _ (by omega) (by omega) E ?_ kq
                 have J := I.pass (by first | exact Or.inl (by omega) | exact Or.inr (by show _ ≤ b0 + hi h0 (a + 2) k; rw [← e_24]; omega))
                 exact J.on e1 (by first | exact Or.inl (by omega) | exact Or.inr (by show _ ≤ b0 + hi h0 (a + 3) k; rw [← e_24]; omega)))
              | (refine wp_to [some (vR (some (w + 12))), some (vR (some a)), some (vI b0), some (vR (some r)), some (vI b), some (vI 0), some (vI (k + 1)), none, none] ⟨rfl, rfl, rfl, rfl, rfl, rfl, rfl, trivial⟩ ?_
                 refine ih (k + 1) 0 b _ (by omega) (by omega) E ?_ kq
                 have J := I.pass (Or.inl (by omega))
                 exact J.off (by omega) (by show b0 + hi h0 (a + 3) k < _; rw [← e_24]; omega))
          · refine wp_iload_n d_85_84 (by rfl) ?_
            refine wp_aload_n d_85_85 (by rfl) ?_
            refine wp_getR (5) d_85_86 fl_9_88 rfl rfl (by first | assumption | (simp only [kd_setI]; assumption)) (by first | assumption | (simp only [hr_setI]; assumption)) ?_
            refine wp_iload d_85_89 (by rfl) ?_
            refine wp_iald d_85_91 (Or.inl (by first | assumption | (simp only [kd_setI]; assumption))) (by first | omega | (simp only [ln_setI]; omega)) (by first | omega | (simp only [ln_setI]; omega)) (fun x_91 e_91 r_91 => ?_)
            (try rw [E8 _ _ (pa _ (by omega))] at e_91)
            (try rw [E8 _ _ pl] at e_91)
            (try rw [E8 _ _ hr29] at e_91)
            refine wp_iadd d_85_92 ?_
            refine wp_aload_n d_85_93 (by rfl) ?_
            refine wp_iload d_85_94 (by rfl) ?_
            refine wp_iald d_85_96 (Or.inl (by first | assumption | (simp only [kd_setI]; assumption))) (by first | omega | (simp only [ln_setI]; omega)) (by first | omega | (simp only [ln_setI]; omega)) (fun x_96 e_96 r_96 => ?_)
            (try rw [E8 _ _ (pa _ (by omega))] at e_96)
            (try rw [E8 _ _ pl] at e_96)
            (try rw [E8 _ _ hr29] at e_96)
            refine wp_icmp_lt (tgt := 104) d_85_97 (by decide) (by first | omega | (simp only [ln_setI]; omega)) (by first | omega | (simp only [ln_setI]; omega)) (fun c_97 => ?_) (fun c_97 => ?_)
            · refine wp_iconst d_85_104 ?_
              refine wp_istore d_85_105 (by decide) ?_
              refine wp_iinc d_85_107 (by rfl) (by decide) ?_
              refine wp_goto (tgt := 9) d_85_110 (by decide) ?_
              first
                | (exfalso; omega)
                | (refine wp_to [some (vR (some (w + 12))), some (vR (some a)), some (vI b0), some (vR (some r)), some (vI 1), some (vI 1), some (vI (k + 1)), none, none] ⟨rfl, rfl, rfl, rfl, rfl, rfl, rfl, trivial⟩ ?_
                   refine ih (k + 1) 1 1 _ (by omega) (by omega) (E.trans (ch_setI rfl)) ?_ kq
                   rw [hi_upF]
                   have J := I.write e1 (by omega) (by omega) (by show b0 + hi h0 (a + 2) k ≤ _; omega) (by show b0 + hi h0 (a + 2) k < _; rw [← e_24]; omega)
                   rw [e_24, show b0 + x_34 = b0 + hi h0 (a + 2) k by omega]
                   exact J.on e1 (Or.inl (by omega)))
                | (refine wp_to [some (vR (some (w + 12))), some (vR (some a)), some (vI b0), some (vR (some r)), some (vI b), some (vI 1), some (vI (k + 1)), none, none] ⟨rfl, rfl, rfl, rfl, rfl, rfl, rfl, trivial⟩ ?_
                   refine ih (k + 1) 1 b _ (by omega) (by omega) E ?_ kq
                   have J := I.pass (by first | exact Or.inl (by omega) | exact Or.inr (by show _ ≤ b0 + hi h0 (a + 2) k; rw [← e_24]; omega))
                   exact J.on e1 (by first | exact Or.inl (by omega) | exact Or.inr (by show _ ≤ b0 + hi h0 (a + 3) k; rw [← e_24]; omega)))
                | (refine wp_to [some (vR (some (w + 12))), some (vR (some a)), some (vI b0), some (vR (some r)), some (vI b), some (vI 0), some (vI (k + 1)), none, none] ⟨rfl, rfl, rfl, rfl, rfl, rfl, rfl, trivial⟩ ?_
                   refine ih (k + 1) 0 b _ (by omega) (by omega) E ?_ kq
                   have J := I.pass (Or.inl (by omega))
                   exact J.off (by omega) (by show b0 + hi h0 (a + 3) k < _; rw [← e_24]; omega))
            · refine wp_iconst d_85_100 ?_
              refine wp_goto (tgt := 105) d_85_101 (by decide) ?_
              refine wp_istore d_85_105 (by decide) ?_
              refine wp_iinc d_85_107 (by rfl) (by decide) ?_
              refine wp_goto (tgt := 9) d_85_110 (by decide) ?_
              first
                | (exfalso; omega)
                | (refine wp_to [some (vR (some (w + 12))), some (vR (some a)), some (vI b0), some (vR (some r)), some (vI 1), some (vI 1), some (vI (k + 1)), none, none] ⟨rfl, rfl, rfl, rfl, rfl, rfl, rfl, trivial⟩ ?_
                   refine ih (k + 1) 1 1 _ (by omega) (by omega) (E.trans (ch_setI rfl)) ?_ kq
                   rw [hi_upF]
                   have J := I.write e1 (by omega) (by omega) (by show b0 + hi h0 (a + 2) k ≤ _; omega) (by show b0 + hi h0 (a + 2) k < _; rw [← e_24]; omega)
                   rw [e_24, show b0 + x_34 = b0 + hi h0 (a + 2) k by omega]
                   exact J.on e1 (Or.inl (by omega)))
                | (refine wp_to [some (vR (some (w + 12))), some (vR (some a)), some (vI b0), some (vR (some r)), some (vI b), some (vI 1), some (vI (k + 1)), none, none] ⟨rfl, rfl, rfl, rfl, rfl, rfl, rfl, trivial⟩ ?_
                   refine ih (k + 1) 1 b _ (by omega) (by omega) E ?_ kq
                   have J := I.pass (by first | exact Or.inl (by omega) | exact Or.inr (by show _ ≤ b0 + hi h0 (a + 2) k; rw [← e_24]; omega))
                   exact J.on e1 (by first | exact Or.inl (by omega) | exact Or.inr (by show _ ≤ b0 + hi h0 (a + 3) k; rw [← e_24]; omega)))
                | (refine wp_to [some (vR (some (w + 12))), some (vR (some a)), some (vI b0), some (vR (some r)), some (vI b), some (vI 0), some (vI (k + 1)), none, none] ⟨rfl, rfl, rfl, rfl, rfl, rfl, rfl, trivial⟩ ?_
                   refine ih (k + 1) 0 b _ (by omega) (by omega) E ?_ kq
                   have J := I.pass (Or.inl (by omega))
                   exact J.off (by omega) (by show b0 + hi h0 (a + 3) k < _; rw [← e_24]; omega))
        · refine wp_iload d_85_55 (by rfl) ?_
          refine wp_aload_n d_85_57 (by rfl) ?_
          refine wp_getR (2) d_85_58 fl_9_19 rfl rfl (by first | assumption | (simp only [kd_setI]; assumption)) (by first | assumption | (simp only [hr_setI]; assumption)) ?_
          refine wp_iload d_85_61 (by rfl) ?_
          refine wp_iald d_85_63 (Or.inl (by first | assumption | (simp only [kd_setI]; assumption))) (by first | omega | (simp only [ln_setI]; omega)) (by first | omega | (simp only [ln_setI]; omega)) (fun x_63 e_63 r_63 => ?_)
          (try rw [E8 _ _ (pa _ (by omega))] at e_63)
          (try rw [E8 _ _ pl] at e_63)
          (try rw [E8 _ _ hr29] at e_63)
          refine wp_icmp_ge (tgt := 79) d_85_64 (by decide) (by first | omega | (simp only [ln_setI]; omega)) (by first | omega | (simp only [ln_setI]; omega)) (fun c_64 => ?_) (fun c_64 => ?_)
          · refine wp_iload d_85_79 (by rfl) ?_
            refine wp_if_ne (tgt := 100) d_85_81 (by decide) (by first | omega | (simp only [ln_setI]; omega)) (fun c_81 => ?_) (fun c_81 => ?_)
            · refine wp_iconst d_85_100 ?_
              refine wp_goto (tgt := 105) d_85_101 (by decide) ?_
              refine wp_istore d_85_105 (by decide) ?_
              refine wp_iinc d_85_107 (by rfl) (by decide) ?_
              refine wp_goto (tgt := 9) d_85_110 (by decide) ?_
              first
                | (exfalso; omega)
                | (refine wp_to [some (vR (some (w + 12))), some (vR (some a)), some (vI b0), some (vR (some r)), some (vI 1), some (vI 1), some (vI (k + 1)), none, none] ⟨rfl, rfl, rfl, rfl, rfl, rfl, rfl, trivial⟩ ?_
                   refine ih (k + 1) 1 1 _ (by omega) (by omega) (E.trans (ch_setI rfl)) ?_ kq
                   rw [hi_upF]
                   have J := I.write e1 (by omega) (by omega) (by show b0 + hi h0 (a + 2) k ≤ _; omega) (by show b0 + hi h0 (a + 2) k < _; rw [← e_24]; omega)
                   rw [e_24, show b0 + x_34 = b0 + hi h0 (a + 2) k by omega]
                   exact J.on e1 (Or.inl (by omega)))
                | (refine wp_to [some (vR (some (w + 12))), some (vR (some a)), some (vI b0), some (vR (some r)), some (vI b), some (vI 1), some (vI (k + 1)), none, none] ⟨rfl, rfl, rfl, rfl, rfl, rfl, rfl, trivial⟩ ?_
                   refine ih (k + 1) 1 b _ (by omega) (by omega) E ?_ kq
                   have J := I.pass (by first | exact Or.inl (by omega) | exact Or.inr (by show _ ≤ b0 + hi h0 (a + 2) k; rw [← e_24]; omega))
                   exact J.on e1 (by first | exact Or.inl (by omega) | exact Or.inr (by show _ ≤ b0 + hi h0 (a + 3) k; rw [← e_24]; omega)))
                | (refine wp_to [some (vR (some (w + 12))), some (vR (some a)), some (vI b0), some (vR (some r)), some (vI b), some (vI 0), some (vI (k + 1)), none, none] ⟨rfl, rfl, rfl, rfl, rfl, rfl, rfl, trivial⟩ ?_
                   refine ih (k + 1) 0 b _ (by omega) (by omega) E ?_ kq
                   have J := I.pass (Or.inl (by omega))
                   exact J.off (by omega) (by show b0 + hi h0 (a + 3) k < _; rw [← e_24]; omega))
            · refine wp_iload_n d_85_84 (by rfl) ?_
              refine wp_aload_n d_85_85 (by rfl) ?_
              refine wp_getR (5) d_85_86 fl_9_88 rfl rfl (by first | assumption | (simp only [kd_setI]; assumption)) (by first | assumption | (simp only [hr_setI]; assumption)) ?_
              refine wp_iload d_85_89 (by rfl) ?_
              refine wp_iald d_85_91 (Or.inl (by first | assumption | (simp only [kd_setI]; assumption))) (by first | omega | (simp only [ln_setI]; omega)) (by first | omega | (simp only [ln_setI]; omega)) (fun x_91 e_91 r_91 => ?_)
              (try rw [E8 _ _ (pa _ (by omega))] at e_91)
              (try rw [E8 _ _ pl] at e_91)
              (try rw [E8 _ _ hr29] at e_91)
              refine wp_iadd d_85_92 ?_
              refine wp_aload_n d_85_93 (by rfl) ?_
              refine wp_iload d_85_94 (by rfl) ?_
              refine wp_iald d_85_96 (Or.inl (by first | assumption | (simp only [kd_setI]; assumption))) (by first | omega | (simp only [ln_setI]; omega)) (by first | omega | (simp only [ln_setI]; omega)) (fun x_96 e_96 r_96 => ?_)
              (try rw [E8 _ _ (pa _ (by omega))] at e_96)
              (try rw [E8 _ _ pl] at e_96)
              (try rw [E8 _ _ hr29] at e_96)
              refine wp_icmp_lt (tgt := 104) d_85_97 (by decide) (by first | omega | (simp only [ln_setI]; omega)) (by first | omega | (simp only [ln_setI]; omega)) (fun c_97 => ?_) (fun c_97 => ?_)
              · refine wp_iconst d_85_104 ?_
                refine wp_istore d_85_105 (by decide) ?_
                refine wp_iinc d_85_107 (by rfl) (by decide) ?_
                refine wp_goto (tgt := 9) d_85_110 (by decide) ?_
                first
                  | (exfalso; omega)
                  | (refine wp_to [some (vR (some (w + 12))), some (vR (some a)), some (vI b0), some (vR (some r)), some (vI 1), some (vI 1), some (vI (k + 1)), none, none] ⟨rfl, rfl, rfl, rfl, rfl, rfl, rfl, trivial⟩ ?_
                     refine ih (k + 1) 1 1 _ (by omega) (by omega) (E.trans (ch_setI rfl)) ?_ kq
                     rw [hi_upF]
                     have J := I.write e1 (by omega) (by omega) (by show b0 + hi h0 (a + 2) k ≤ _; omega) (by show b0 + hi h0 (a + 2) k < _; rw [← e_24]; omega)
                     rw [e_24, show b0 + x_34 = b0 + hi h0 (a + 2) k by omega]
                     exact J.on e1 (Or.inl (by omega)))
                  | (refine wp_to [some (vR (some (w + 12))), some (vR (some a)), some (vI b0), some (vR (some r)), some (vI b), some (vI 1), some (vI (k + 1)), none, none] ⟨rfl, rfl, rfl, rfl, rfl, rfl, rfl, trivial⟩ ?_
                     refine ih (k + 1) 1 b _ (by omega) (by omega) E ?_ kq
                     have J := I.pass (by first | exact Or.inl (by omega) | exact Or.inr (by show _ ≤ b0 + hi h0 (a + 2) k; rw [← e_24]; omega))
                     exact J.on e1 (by first | exact Or.inl (by omega) | exact Or.inr (by show _ ≤ b0 + hi h0 (a + 3) k; rw [← e_24]; omega)))
                  | (refine wp_to [some (vR (some (w + 12))), some (vR (some a)), some (vI b0), some (vR (some r)), some (vI b), some (vI 0), some (vI (k + 1)), none, none] ⟨rfl, rfl, rfl, rfl, rfl, rfl, rfl, trivial⟩ ?_
                     refine ih (k + 1) 0 b _ (by omega) (by omega) E ?_ kq
                     have J := I.pass (Or.inl (by omega))
                     exact J.off (by omega) (by show b0 + hi h0 (a + 3) k < _; rw [← e_24]; omega))
              · refine wp_iconst d_85_100 ?_
                refine wp_goto (tgt := 105) d_85_101 (by decide) ?_
                refine wp_istore d_85_105 (by decide) ?_
                refine wp_iinc d_85_107 (by rfl) (by decide) ?_
                refine wp_goto (tgt := 9) d_85_110 (by decide) ?_
                first
                  | (exfalso; omega)
                  | (refine wp_to [some (vR (some (w + 12))), some (vR (some a)), some (vI b0), some (vR (some r)), some (vI 1), some (vI 1), some (vI (k + 1)), none, none] ⟨rfl, rfl, rfl, rfl, rfl, rfl, rfl, trivial⟩ ?_
                     refine ih (k + 1) 1 1 _ (by omega) (by omega) (E.trans (ch_setI rfl)) ?_ kq
                     rw [hi_upF]
                     have J := I.write e1 (by omega) (by omega) (by show b0 + hi h0 (a + 2) k ≤ _; omega) (by show b0 + hi h0 (a + 2) k < _; rw [← e_24]; omega)
                     rw [e_24, show b0 + x_34 = b0 + hi h0 (a + 2) k by omega]
                     exact J.on e1 (Or.inl (by omega)))
                  | (refine wp_to [some (vR (some (w + 12))), some (vR (some a)), some (vI b0), some (vR (some r)), some (vI b), some (vI 1), some (vI (k + 1)), none, none] ⟨rfl, rfl, rfl, rfl, rfl, rfl, rfl, trivial⟩ ?_
                     refine ih (k + 1) 1 b _ (by omega) (by omega) E ?_ kq
                     have J := I.pass (by first | exact Or.inl (by omega) | exact Or.inr (by show _ ≤ b0 + hi h0 (a + 2) k; rw [← e_24]; omega))
                     exact J.on e1 (by first | exact Or.inl (by omega) | exact Or.inr (by show _ ≤ b0 + hi h0 (a + 3) k; rw [← e_24]; omega)))
                  | (refine wp_to [some (vR (some (w + 12))), some (vR (some a)), some (vI b0), some (vR (some r)), some (vI b), some (vI 0), some (vI (k + 1)), none, none] ⟨rfl, rfl, rfl, rfl, rfl, rfl, rfl, trivial⟩ ?_
                     refine ih (k + 1) 0 b _ (by omega) (by omega) E ?_ kq
                     have J := I.pass (Or.inl (by omega))
                     exact J.off (by omega) (by show b0 + hi h0 (a + 3) k < _; rw [← e_24]; omega))
          · refine wp_aload_n d_85_67 (by rfl) ?_
            refine wp_getR (2) d_85_68 fl_9_19 rfl rfl (by first | assumption | (simp only [kd_setI]; assumption)) (by first | assumption | (simp only [hr_setI]; assumption)) ?_
            refine wp_iload d_85_71 (by rfl) ?_
            refine wp_iload d_85_73 (by rfl) ?_
            refine wp_iast d_85_75 (by first | assumption | (simp only [kd_setI]; assumption)) (by first | omega | (simp only [ln_setI]; omega)) (by first | omega | (simp only [ln_setI]; omega)) (by first | omega | (simp only [ln_setI]; omega)) ?_
            refine wp_iconst d_85_76 ?_
            refine wp_istore d_85_77 (by decide) ?_
            refine wp_iload d_85_79 (by rfl) ?_
            refine wp_if_ne (tgt := 100) d_85_81 (by decide) (by first | omega | (simp only [ln_setI]; omega)) (fun c_81 => ?_) (fun c_81 => ?_)
            · refine wp_iconst d_85_100 ?_
              refine wp_goto (tgt := 105) d_85_101 (by decide) ?_
              refine wp_istore d_85_105 (by decide) ?_
              refine wp_iinc d_85_107 (by rfl) (by decide) ?_
              refine wp_goto (tgt := 9) d_85_110 (by decide) ?_
              first
                | (exfalso; omega)
                | (refine wp_to [some (vR (some (w + 12))), some (vR (some a)), some (vI b0), some (vR (some r)), some (vI 1), some (vI 1), some (vI (k + 1)), none, none] ⟨rfl, rfl, rfl, rfl, rfl, rfl, rfl, trivial⟩ ?_
                   refine ih (k + 1) 1 1 _ (by omega) (by omega) (E.trans (ch_setI rfl)) ?_ kq
                   rw [hi_upF]
                   have J := I.write e1 (by omega) (by omega) (by show b0 + hi h0 (a + 2) k ≤ _; omega) (by show b0 + hi h0 (a + 2) k < _; rw [← e_24]; omega)
                   rw [e_24, show b0 + x_34 = b0 + hi h0 (a + 2) k by omega]
                   exact J.on e1 (Or.inl (by omega)))
                | (refine wp_to [some (vR (some (w + 12))), some (vR (some a)), some (vI b0), some (vR (some r)), some (vI b), some (vI 1), some (vI (k + 1)), none, none] ⟨rfl, rfl, rfl, rfl, rfl, rfl, rfl, trivial⟩ ?_
                   refine ih (k + 1) 1 b _ (by omega) (by omega) E ?_ kq
                   have J := I.pass (by first | exact Or.inl (by omega) | exact Or.inr (by show _ ≤ b0 + hi h0 (a + 2) k; rw [← e_24]; omega))
                   exact J.on e1 (by first | exact Or.inl (by omega) | exact Or.inr (by show _ ≤ b0 + hi h0 (a + 3) k; rw [← e_24]; omega)))
                | (refine wp_to [some (vR (some (w + 12))), some (vR (some a)), some (vI b0), some (vR (some r)), some (vI b), some (vI 0), some (vI (k + 1)), none, none] ⟨rfl, rfl, rfl, rfl, rfl, rfl, rfl, trivial⟩ ?_
                   refine ih (k + 1) 0 b _ (by omega) (by omega) E ?_ kq
                   have J := I.pass (Or.inl (by omega))
                   exact J.off (by omega) (by show b0 + hi h0 (a + 3) k < _; rw [← e_24]; omega))
            · refine wp_iload_n d_85_84 (by rfl) ?_
              refine wp_aload_n d_85_85 (by rfl) ?_
              refine wp_getR (5) d_85_86 fl_9_88 rfl rfl (by first | assumption | (simp only [kd_setI]; assumption)) (by first | assumption | (simp only [hr_setI]; assumption)) ?_
              refine wp_iload d_85_89 (by rfl) ?_
              refine wp_iald d_85_91 (Or.inl (by first | assumption | (simp only [kd_setI]; assumption))) (by first | omega | (simp only [ln_setI]; omega)) (by first | omega | (simp only [ln_setI]; omega)) (fun x_91 e_91 r_91 => ?_)
              (try rw [E8 _ _ (pa _ (by omega))] at e_91)
              (try rw [E8 _ _ pl] at e_91)
              (try rw [E8 _ _ hr29] at e_91)
              refine wp_iadd d_85_92 ?_
              refine wp_aload_n d_85_93 (by rfl) ?_
              refine wp_iload d_85_94 (by rfl) ?_
              refine wp_iald d_85_96 (Or.inl (by first | assumption | (simp only [kd_setI]; assumption))) (by first | omega | (simp only [ln_setI]; omega)) (by first | omega | (simp only [ln_setI]; omega)) (fun x_96 e_96 r_96 => ?_)
              (try rw [E8 _ _ (pa _ (by omega))] at e_96)
              (try rw [E8 _ _ pl] at e_96)
              (try rw [E8 _ _ hr29] at e_96)
              refine wp_icmp_lt (tgt := 104) d_85_97 (by decide) (by first | omega | (simp only [ln_setI]; omega)) (by first | omega | (simp only [ln_setI]; omega)) (fun c_97 => ?_) (fun c_97 => ?_)
              · refine wp_iconst d_85_104 ?_
                refine wp_istore d_85_105 (by decide) ?_
                refine wp_iinc d_85_107 (by rfl) (by decide) ?_
                refine wp_goto (tgt := 9) d_85_110 (by decide) ?_
                first
                  | (exfalso; omega)
                  | (refine wp_to [some (vR (some (w + 12))), some (vR (some a)), some (vI b0), some (vR (some r)), some (vI 1), some (vI 1), some (vI (k + 1)), none, none] ⟨rfl, rfl, rfl, rfl, rfl, rfl, rfl, trivial⟩ ?_
                     refine ih (k + 1) 1 1 _ (by omega) (by omega) (E.trans (ch_setI rfl)) ?_ kq
                     rw [hi_upF]
                     have J := I.write e1 (by omega) (by omega) (by show b0 + hi h0 (a + 2) k ≤ _; omega) (by show b0 + hi h0 (a + 2) k < _; rw [← e_24]; omega)
                     rw [e_24, show b0 + x_34 = b0 + hi h0 (a + 2) k by omega]
                     exact J.on e1 (Or.inl (by omega)))
                  | (refine wp_to [some (vR (some (w + 12))), some (vR (some a)), some (vI b0), some (vR (some r)), some (vI b), some (vI 1), some (vI (k + 1)), none, none] ⟨rfl, rfl, rfl, rfl, rfl, rfl, rfl, trivial⟩ ?_
                     refine ih (k + 1) 1 b _ (by omega) (by omega) E ?_ kq
                     have J := I.pass (by first | exact Or.inl (by omega) | exact Or.inr (by show _ ≤ b0 + hi h0 (a + 2) k; rw [← e_24]; omega))
                     exact J.on e1 (by first | exact Or.inl (by omega) | exact Or.inr (by show _ ≤ b0 + hi h0 (a + 3) k; rw [← e_24]; omega)))
                  | (refine wp_to [some (vR (some (w + 12))), some (vR (some a)), some (vI b0), some (vR (some r)), some (vI b), some (vI 0), some (vI (k + 1)), none, none] ⟨rfl, rfl, rfl, rfl, rfl, rfl, rfl, trivial⟩ ?_
                     refine ih (k + 1) 0 b _ (by omega) (by omega) E ?_ kq
                     have J := I.pass (Or.inl (by omega))
                     exact J.off (by omega) (by show b0 + hi h0 (a + 3) k < _; rw [← e_24]; omega))
              · refine wp_iconst d_85_100 ?_
                refine wp_goto (tgt := 105) d_85_101 (by decide) ?_
                refine wp_istore d_85_105 (by decide) ?_
                refine wp_iinc d_85_107 (by rfl) (by decide) ?_
                refine wp_goto (tgt := 9) d_85_110 (by decide) ?_
                first
                  | (exfalso; omega)
                  | (refine wp_to [some (vR (some (w + 12))), some (vR (some a)), some (vI b0), some (vR (some r)), some (vI 1), some (vI 1), some (vI (k + 1)), none, none] ⟨rfl, rfl, rfl, rfl, rfl, rfl, rfl, trivial⟩ ?_
                     refine ih (k + 1) 1 1 _ (by omega) (by omega) (E.trans (ch_setI rfl)) ?_ kq
                     rw [hi_upF]
                     have J := I.write e1 (by omega) (by omega) (by show b0 + hi h0 (a + 2) k ≤ _; omega) (by show b0 + hi h0 (a + 2) k < _; rw [← e_24]; omega)
                     rw [e_24, show b0 + x_34 = b0 + hi h0 (a + 2) k by omega]
                     exact J.on e1 (Or.inl (by omega)))
                  | (refine wp_to [some (vR (some (w + 12))), some (vR (some a)), some (vI b0), some (vR (some r)), some (vI b), some (vI 1), some (vI (k + 1)), none, none] ⟨rfl, rfl, rfl, rfl, rfl, rfl, rfl, trivial⟩ ?_
                     refine ih (k + 1) 1 b _ (by omega) (by omega) E ?_ kq
                     have J := I.pass (by first | exact Or.inl (by omega) | exact Or.inr (by show _ ≤ b0 + hi h0 (a + 2) k; rw [← e_24]; omega))
                     exact J.on e1 (by first | exact Or.inl (by omega) | exact Or.inr (by show _ ≤ b0 + hi h0 (a + 3) k; rw [← e_24]; omega)))
                  | (refine wp_to [some (vR (some (w + 12))), some (vR (some a)), some (vI b0), some (vR (some r)), some (vI b), some (vI 0), some (vI (k + 1)), none, none] ⟨rfl, rfl, rfl, rfl, rfl, rfl, rfl, trivial⟩ ?_
                     refine ih (k + 1) 0 b _ (by omega) (by omega) E ?_ kq
                     have J := I.pass (Or.inl (by omega))
                     exact J.off (by omega) (by show b0 + hi h0 (a + 3) k < _; rw [← e_24]; omega))
      · refine wp_goto (tgt := 113) d_85_47 (by decide) ?_
        refine wp_iload d_85_113 (by rfl) ?_
        refine wp_zret d_85_115 rfl (by omega) ?_
        first | exact absurd c_15 (by omega) | exact kq h b E (I.done (Or.inr ⟨by show _ < b0 + hi h0 (a + 2) k; omega, mono⟩))
set_option maxRecDepth 100000 in
set_option maxHeartbeats 4000000 in
theorem s_rideRun {w a r : Nat} {n b0 : Int} {h0 : Hp} (hS0 : Sk h0 w) (hT0 : TripOk h0 n a) (ha : w + 154 ≤ a) (hn : n ≤ 16) (kr : kd h0 r = 100) (lr : ln h0 r = 16) (hr29 : r ≠ w + 29) (hw : w + 154 ≤ nx h0) (han : a + 5 ≤ nx h0) (hb0 : 0 ≤ b0 ∧ b0 ≤ 600000) (hlim : 0 ≤ hi h0 (w + 12) 3 ∧ hi h0 (w + 12) 3 ≤ 1000000) : wp 85 0 (entL [vR (some (w + 12)), vR (some a), vI b0, vR (some r)] (mL 85)) [] h0 (fun v h' => ∃ b', v = some (vI b') ∧ ch (· = w + 29) nP h0 h' ∧ RRun (hi h0 a 7) (hi h0 (a + 1)) (fun i => b0 + hi h0 (a + 2) i) (fun i => b0 + hi h0 (a + 3) i) (hi h0 (w + 12) 3) (hi h0 r) (hi h0 (w + 29)) (hi h' (w + 29)) b') noX := by
  refine wp_iconst d_85_0 ?_
  refine wp_istore d_85_1 (by decide) ?_
  refine wp_iconst d_85_3 ?_
  refine wp_istore d_85_4 (by decide) ?_
  refine wp_iconst d_85_6 ?_
  refine wp_istore d_85_7 (by decide) ?_
  refine wp_to [some (vR (some (w + 12))), some (vR (some a)), some (vI b0), some (vR (some r)), some (vI 0), some (vI 0), some (vI 0), none, none] ⟨rfl, rfl, rfl, rfl, rfl, rfl, rfl, trivial⟩ ?_
  have t4 := hT0.2.2.2.1
  exact l_rideRun hS0 hT0 ha hn kr lr hr29 hw han hb0 hlim (hi h0 a 7).toNat 0 0 0 h0 (by omega) (by omega) ch.rfl RRI.start (fun h' b' E I => ⟨b', rfl, E, I⟩)
