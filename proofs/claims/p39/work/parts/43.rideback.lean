/-! ===== the search back: rides ===== -/
set_option maxRecDepth 100000 in
set_option maxHeartbeats 4000000 in
theorem l_rideRunB {w a r ra : Nat} {n b0 : Int} {h0 : Hp} (hT0 : TripOk h0 n a) (hn : n ≤ 16) (kr : kd h0 r = 100) (lr : ln h0 r = 16) (kr2 : kd h0 ra = 100) (lr2 : ln h0 ra = 16) (hrr : ra ≠ r) (hra : r < a ∨ a + 4 < r) (han : a + 5 ≤ nx h0) (hb0 : 0 ≤ b0 ∧ b0 ≤ 600000) {Q : Option AV → Hp → Prop} : ∀ (m : Nat) (k g b : Int) (h : Hp), k + 1 = m → k < hi h0 a 7 → ch (· = r) nP h0 h → RBI (hi h0 a 7) (hi h0 (a + 1)) (fun i => b0 + hi h0 (a + 2) i) (fun i => b0 + hi h0 (a + 3) i) (hi h0 ra) (hi h0 r) (hi h r) (k + 1) (k + 1) g b → (∀ h' b', ch (· = r) nP h0 h' → RBun (hi h0 a 7) (hi h0 (a + 1)) (fun i => b0 + hi h0 (a + 2) i) (fun i => b0 + hi h0 (a + 3) i) (hi h0 ra) (hi h0 r) (hi h' r) b' → Q (some (vI b')) h') → wp 45 14 [some (vR (some (w + 30))), some (vR (some a)), some (vI b0), some (vR (some r)), some (vR (some ra)), some (vI b), some (vI g), some (vI (k)), none, none] [] h Q noX := by
  intro m
  have t40 := hT0.2.2.2.1
  have t50 := hT0.2.2.2.2.1
  induction m with
  | zero =>
    intro k g b h e0 e1 E I kq
    have hT := hT0.kept E.fm (fun q z1 z2 z3 => by omega) id han
    have E8 := E.2.2.2.2.2.2.2.1
    have pa : ∀ q, a ≤ q → q ≤ a + 4 → ¬ q = r := fun q z y => by omega
    have gb : (g = 0 ∨ g = 1) ∧ (b = 0 ∨ b = 1) := ⟨by rcases I.2.2.1 with z | z <;> omega, by rcases I.2.2.2 with z | z <;> omega⟩
    have kr1 : kd h r = 100 := (congrFun E.1 r).trans kr
    have lr1 : ln h r = 16 := (congrFun E.2.1 r).trans lr
    have kr3 : kd h ra = 100 := (congrFun E.1 ra).trans kr2
    have lr3 : ln h ra = 16 := (congrFun E.2.1 ra).trans lr2
    obtain ⟨t1, ⟨u1, u2, u3, u4⟩, ⟨⟨v1, v2⟩, ⟨v3, v4⟩, ⟨v5, v6⟩, v7, v8⟩, t4, t5, t6, t7, t8⟩ := hT
    refine wp_iload d_45_14 (by rfl) ?_
    refine wp_if_lt (tgt := 97) d_45_16 (by decide) (by omega) (fun c_16 => ?_) (fun c_16 => ?_)
    rotate_left
    · exact absurd c_16 (by omega)
    refine wp_iload d_45_97 (by rfl) ?_
    refine wp_zret d_45_99 rfl (by omega) ?_
    exact kq h b E (I.done (by omega))
  | succ m ih =>
    intro k g b h e0 e1 E I kq
    have hT := hT0.kept E.fm (fun q z1 z2 z3 => by omega) id han
    have E8 := E.2.2.2.2.2.2.2.1
    have pa : ∀ q, a ≤ q → q ≤ a + 4 → ¬ q = r := fun q z y => by omega
    have gb : (g = 0 ∨ g = 1) ∧ (b = 0 ∨ b = 1) := ⟨by rcases I.2.2.1 with z | z <;> omega, by rcases I.2.2.2 with z | z <;> omega⟩
    have kr1 : kd h r = 100 := (congrFun E.1 r).trans kr
    have lr1 : ln h r = 16 := (congrFun E.2.1 r).trans lr
    have kr3 : kd h ra = 100 := (congrFun E.1 ra).trans kr2
    have lr3 : ln h ra = 16 := (congrFun E.2.1 ra).trans lr2
    obtain ⟨t1, ⟨u1, u2, u3, u4⟩, ⟨⟨v1, v2⟩, ⟨v3, v4⟩, ⟨v5, v6⟩, v7, v8⟩, t4, t5, t6, t7, t8⟩ := hT
    have kk := t50 k (by omega) (by omega)
    refine wp_iload d_45_14 (by rfl) ?_
    refine wp_if_lt (tgt := 97) d_45_16 (by decide) (by first | omega | (simp only [ln_setI]; omega)) (fun c_16 => ?_) (fun c_16 => ?_)
    · refine wp_iload d_45_97 (by rfl) ?_
      refine wp_zret d_45_99 rfl (by omega) ?_
      exact absurd c_16 (by omega)
    · refine wp_aload_n d_45_19 (by rfl) ?_
      refine wp_getR (3) d_45_20 fl_1_97 rfl rfl (by first | assumption | (simp only [kd_setI]; assumption)) (by first | assumption | (simp only [hr_setI]; assumption)) ?_
      refine wp_iload d_45_23 (by rfl) ?_
      refine wp_iald d_45_25 (Or.inl (by first | assumption | (simp only [kd_setI]; assumption))) (by first | omega | (simp only [ln_setI]; omega)) (by first | omega | (simp only [ln_setI]; omega)) (fun x_25 e_25 r_25 => ?_)
      (try rw [E8 _ _ (pa _ (by omega) (by omega))] at e_25)
      (try rw [E8 _ _ hrr] at e_25)
      refine wp_istore d_45_26 (by decide) ?_
      refine wp_iload_n d_45_28 (by rfl) ?_
      refine wp_aload_n d_45_29 (by rfl) ?_
      refine wp_getR (5) d_45_30 fl_1_100 rfl rfl (by first | assumption | (simp only [kd_setI]; assumption)) (by first | assumption | (simp only [hr_setI]; assumption)) ?_
      refine wp_iload d_45_33 (by rfl) ?_
      refine wp_iald d_45_35 (Or.inl (by first | assumption | (simp only [kd_setI]; assumption))) (by first | omega | (simp only [ln_setI]; omega)) (by first | omega | (simp only [ln_setI]; omega)) (fun x_35 e_35 r_35 => ?_)
      (try rw [E8 _ _ (pa _ (by omega) (by omega))] at e_35)
      (try rw [E8 _ _ hrr] at e_35)
      refine wp_iadd d_45_36 ?_
      refine wp_istore d_45_37 (by decide) ?_
      refine wp_iload d_45_39 (by rfl) ?_
      refine wp_if_eq (tgt := 62) d_45_41 (by decide) (by first | omega | (simp only [ln_setI]; omega)) (fun c_41 => ?_) (fun c_41 => ?_)
      · refine wp_iload d_45_62 (by rfl) ?_
        refine wp_if_ne (tgt := 84) d_45_64 (by decide) (by first | omega | (simp only [ln_setI]; omega)) (fun c_64 => ?_) (fun c_64 => ?_)
        · refine wp_iconst d_45_84 ?_
          refine wp_goto (tgt := 89) d_45_85 (by decide) ?_
          refine wp_istore d_45_89 (by decide) ?_
          refine wp_iinc d_45_91 (by rfl) (by decide) ?_
          refine wp_goto (tgt := 14) d_45_94 (by decide) ?_
          first
            | (exfalso; omega)
            | (refine wp_to [some (vR (some (w + 30))), some (vR (some a)), some (vI b0), some (vR (some r)), some (vR (some ra)), some (vI 1), some (vI 1), some (vI (k - 1)), none, none] ⟨rfl, rfl, rfl, rfl, rfl, rfl, rfl, rfl, trivial⟩ ?_
               refine ih (k - 1) 1 1 _ (by omega) (by omega) (E.trans (ch_setI rfl)) ?_ kq
               rw [hi_upF]
               have J := I.write (by omega) (by omega) (by show _ < b0 + hi h0 (a + 3) k; rw [← e_25]; omega)
               rw [e_25, show b0 + x_35 = b0 + hi h0 (a + 3) k by omega, show k - 1 + 1 = k by omega]
               exact J.on (by omega) (Or.inl (by omega)))
            | (refine wp_to [some (vR (some (w + 30))), some (vR (some a)), some (vI b0), some (vR (some r)), some (vR (some ra)), some (vI b), some (vI 1), some (vI (k - 1)), none, none] ⟨rfl, rfl, rfl, rfl, rfl, rfl, rfl, rfl, trivial⟩ ?_
               refine ih (k - 1) 1 b _ (by omega) (by omega) E ?_ kq
               rw [show k - 1 + 1 = k by omega]
               have J := I.pass (by first | exact Or.inl (by omega) | exact Or.inr (by show b0 + hi h0 (a + 3) k ≤ _; rw [← e_25]; omega))
               exact J.on (by omega) (by first | exact Or.inl (by omega) | exact Or.inr (by show b0 + hi h0 (a + 2) k ≤ _; rw [← e_25]; omega)))
            | (refine wp_to [some (vR (some (w + 30))), some (vR (some a)), some (vI b0), some (vR (some r)), some (vR (some ra)), some (vI b), some (vI 0), some (vI (k - 1)), none, none] ⟨rfl, rfl, rfl, rfl, rfl, rfl, rfl, rfl, trivial⟩ ?_
               refine ih (k - 1) 0 b _ (by omega) (by omega) E ?_ kq
               rw [show k - 1 + 1 = k by omega]
               have J := I.pass (Or.inl (by omega))
               exact J.off (by omega) (by show _ < b0 + hi h0 (a + 2) k; rw [← e_25]; omega))
        · refine wp_iload_n d_45_67 (by rfl) ?_
          refine wp_aload_n d_45_68 (by rfl) ?_
          refine wp_getR (4) d_45_69 fl_1_103 rfl rfl (by first | assumption | (simp only [kd_setI]; assumption)) (by first | assumption | (simp only [hr_setI]; assumption)) ?_
          refine wp_iload d_45_72 (by rfl) ?_
          refine wp_iald d_45_74 (Or.inl (by first | assumption | (simp only [kd_setI]; assumption))) (by first | omega | (simp only [ln_setI]; omega)) (by first | omega | (simp only [ln_setI]; omega)) (fun x_74 e_74 r_74 => ?_)
          (try rw [E8 _ _ (pa _ (by omega) (by omega))] at e_74)
          (try rw [E8 _ _ hrr] at e_74)
          refine wp_iadd d_45_75 ?_
          refine wp_aload d_45_76 (by rfl) ?_
          refine wp_iload d_45_78 (by rfl) ?_
          refine wp_iald d_45_80 (Or.inl (by first | assumption | (simp only [kd_setI]; assumption))) (by first | omega | (simp only [ln_setI]; omega)) (by first | omega | (simp only [ln_setI]; omega)) (fun x_80 e_80 r_80 => ?_)
          (try rw [E8 _ _ (pa _ (by omega) (by omega))] at e_80)
          (try rw [E8 _ _ hrr] at e_80)
          refine wp_icmp_gt (tgt := 88) d_45_81 (by decide) (by first | omega | (simp only [ln_setI]; omega)) (by first | omega | (simp only [ln_setI]; omega)) (fun c_81 => ?_) (fun c_81 => ?_)
          · refine wp_iconst d_45_88 ?_
            refine wp_istore d_45_89 (by decide) ?_
            refine wp_iinc d_45_91 (by rfl) (by decide) ?_
            refine wp_goto (tgt := 14) d_45_94 (by decide) ?_
            first
              | (exfalso; omega)
              | (refine wp_to [some (vR (some (w + 30))), some (vR (some a)), some (vI b0), some (vR (some r)), some (vR (some ra)), some (vI 1), some (vI 1), some (vI (k - 1)), none, none] ⟨rfl, rfl, rfl, rfl, rfl, rfl, rfl, rfl, trivial⟩ ?_
                 refine ih (k - 1) 1 1 _ (by omega) (by omega) (E.trans (ch_setI rfl)) ?_ kq
                 rw [hi_upF]
                 have J := I.write (by omega) (by omega) (by show _ < b0 + hi h0 (a + 3) k; rw [← e_25]; omega)
                 rw [e_25, show b0 + x_35 = b0 + hi h0 (a + 3) k by omega, show k - 1 + 1 = k by omega]
                 exact J.on (by omega) (Or.inl (by omega)))
              | (refine wp_to [some (vR (some (w + 30))), some (vR (some a)), some (vI b0), some (vR (some r)), some (vR (some ra)), some (vI b), some (vI 1), some (vI (k - 1)), none, none] ⟨rfl, rfl, rfl, rfl, rfl, rfl, rfl, rfl, trivial⟩ ?_
                 refine ih (k - 1) 1 b _ (by omega) (by omega) E ?_ kq
                 rw [show k - 1 + 1 = k by omega]
                 have J := I.pass (by first | exact Or.inl (by omega) | exact Or.inr (by show b0 + hi h0 (a + 3) k ≤ _; rw [← e_25]; omega))
                 exact J.on (by omega) (by first | exact Or.inl (by omega) | exact Or.inr (by show b0 + hi h0 (a + 2) k ≤ _; rw [← e_25]; omega)))
              | (refine wp_to [some (vR (some (w + 30))), some (vR (some a)), some (vI b0), some (vR (some r)), some (vR (some ra)), some (vI b), some (vI 0), some (vI (k - 1)), none, none] ⟨rfl, rfl, rfl, rfl, rfl, rfl, rfl, rfl, trivial⟩ ?_
                 refine ih (k - 1) 0 b _ (by omega) (by omega) E ?_ kq
                 rw [show k - 1 + 1 = k by omega]
                 have J := I.pass (Or.inl (by omega))
                 exact J.off (by omega) (by show _ < b0 + hi h0 (a + 2) k; rw [← e_25]; omega))
          · refine wp_iconst d_45_84 ?_
            refine wp_goto (tgt := 89) d_45_85 (by decide) ?_
            refine wp_istore d_45_89 (by decide) ?_
            refine wp_iinc d_45_91 (by rfl) (by decide) ?_
            refine wp_goto (tgt := 14) d_45_94 (by decide) ?_
            first
              | (exfalso; omega)
              | (refine wp_to [some (vR (some (w + 30))), some (vR (some a)), some (vI b0), some (vR (some r)), some (vR (some ra)), some (vI 1), some (vI 1), some (vI (k - 1)), none, none] ⟨rfl, rfl, rfl, rfl, rfl, rfl, rfl, rfl, trivial⟩ ?_
                 refine ih (k - 1) 1 1 _ (by omega) (by omega) (E.trans (ch_setI rfl)) ?_ kq
                 rw [hi_upF]
                 have J := I.write (by omega) (by omega) (by show _ < b0 + hi h0 (a + 3) k; rw [← e_25]; omega)
                 rw [e_25, show b0 + x_35 = b0 + hi h0 (a + 3) k by omega, show k - 1 + 1 = k by omega]
                 exact J.on (by omega) (Or.inl (by omega)))
              | (refine wp_to [some (vR (some (w + 30))), some (vR (some a)), some (vI b0), some (vR (some r)), some (vR (some ra)), some (vI b), some (vI 1), some (vI (k - 1)), none, none] ⟨rfl, rfl, rfl, rfl, rfl, rfl, rfl, rfl, trivial⟩ ?_
                 refine ih (k - 1) 1 b _ (by omega) (by omega) E ?_ kq
                 rw [show k - 1 + 1 = k by omega]
                 have J := I.pass (by first | exact Or.inl (by omega) | exact Or.inr (by show b0 + hi h0 (a + 3) k ≤ _; rw [← e_25]; omega))
                 exact J.on (by omega) (by first | exact Or.inl (by omega) | exact Or.inr (by show b0 + hi h0 (a + 2) k ≤ _; rw [← e_25]; omega)))
              | (refine wp_to [some (vR (some (w + 30))), some (vR (some a)), some (vI b0), some (vR (some r)), some (vR (some ra)), some (vI b), some (vI 0), some (vI (k - 1)), none, none] ⟨rfl, rfl, rfl, rfl, rfl, rfl, rfl, rfl, trivial⟩ ?_
                 refine ih (k - 1) 0 b _ (by omega) (by omega) E ?_ kq
                 rw [show k - 1 + 1 = k by omega]
                 have J := I.pass (Or.inl (by omega))
                 exact J.off (by omega) (by show _ < b0 + hi h0 (a + 2) k; rw [← e_25]; omega))
      · refine wp_iload d_45_44 (by rfl) ?_
        refine wp_aload_n d_45_46 (by rfl) ?_
        refine wp_iload d_45_47 (by rfl) ?_
        refine wp_iald d_45_49 (Or.inl (by first | assumption | (simp only [kd_setI]; assumption))) (by first | omega | (simp only [ln_setI]; omega)) (by first | omega | (simp only [ln_setI]; omega)) (fun x_49 e_49 r_49 => ?_)
        (try rw [E8 _ _ (pa _ (by omega) (by omega))] at e_49)
        (try rw [E8 _ _ hrr] at e_49)
        refine wp_icmp_le (tgt := 62) d_45_50 (by decide) (by first | omega | (simp only [ln_setI]; omega)) (by first | omega | (simp only [ln_setI]; omega)) (fun c_50 => ?_) (fun c_50 => ?_)
        · refine wp_iload d_45_62 (by rfl) ?_
          refine wp_if_ne (tgt := 84) d_45_64 (by decide) (by first | omega | (simp only [ln_setI]; omega)) (fun c_64 => ?_) (fun c_64 => ?_)
          · refine wp_iconst d_45_84 ?_
            refine wp_goto (tgt := 89) d_45_85 (by decide) ?_
            refine wp_istore d_45_89 (by decide) ?_
            refine wp_iinc d_45_91 (by rfl) (by decide) ?_
            refine wp_goto (tgt := 14) d_45_94 (by decide) ?_
            first
              | (exfalso; omega)
              | (refine wp_to [some (vR (some (w + 30))), some (vR (some a)), some (vI b0), some (vR (some r)), some (vR (some ra)), some (vI 1), some (vI 1), some (vI (k - 1)), none, none] ⟨rfl, rfl, rfl, rfl, rfl, rfl, rfl, rfl, trivial⟩ ?_
                 refine ih (k - 1) 1 1 _ (by omega) (by omega) (E.trans (ch_setI rfl)) ?_ kq
                 rw [hi_upF]
                 have J := I.write (by omega) (by omega) (by show _ < b0 + hi h0 (a + 3) k; rw [← e_25]; omega)
                 rw [e_25, show b0 + x_35 = b0 + hi h0 (a + 3) k by omega, show k - 1 + 1 = k by omega]
                 exact J.on (by omega) (Or.inl (by omega)))
              | (refine wp_to [some (vR (some (w + 30))), some (vR (some a)), some (vI b0), some (vR (some r)), some (vR (some ra)), some (vI b), some (vI 1), some (vI (k - 1)), none, none] ⟨rfl, rfl, rfl, rfl, rfl, rfl, rfl, rfl, trivial⟩ ?_
                 refine ih (k - 1) 1 b _ (by omega) (by omega) E ?_ kq
                 rw [show k - 1 + 1 = k by omega]
                 have J := I.pass (by first | exact Or.inl (by omega) | exact Or.inr (by show b0 + hi h0 (a + 3) k ≤ _; rw [← e_25]; omega))
                 exact J.on (by omega) (by first | exact Or.inl (by omega) | exact Or.inr (by show b0 + hi h0 (a + 2) k ≤ _; rw [← e_25]; omega)))
              | (refine wp_to [some (vR (some (w + 30))), some (vR (some a)), some (vI b0), some (vR (some r)), some (vR (some ra)), some (vI b), some (vI 0), some (vI (k - 1)), none, none] ⟨rfl, rfl, rfl, rfl, rfl, rfl, rfl, rfl, trivial⟩ ?_
                 refine ih (k - 1) 0 b _ (by omega) (by omega) E ?_ kq
                 rw [show k - 1 + 1 = k by omega]
                 have J := I.pass (Or.inl (by omega))
                 exact J.off (by omega) (by show _ < b0 + hi h0 (a + 2) k; rw [← e_25]; omega))
          · refine wp_iload_n d_45_67 (by rfl) ?_
            refine wp_aload_n d_45_68 (by rfl) ?_
            refine wp_getR (4) d_45_69 fl_1_103 rfl rfl (by first | assumption | (simp only [kd_setI]; assumption)) (by first | assumption | (simp only [hr_setI]; assumption)) ?_
            refine wp_iload d_45_72 (by rfl) ?_
            refine wp_iald d_45_74 (Or.inl (by first | assumption | (simp only [kd_setI]; assumption))) (by first | omega | (simp only [ln_setI]; omega)) (by first | omega | (simp only [ln_setI]; omega)) (fun x_74 e_74 r_74 => ?_)
            (try rw [E8 _ _ (pa _ (by omega) (by omega))] at e_74)
            (try rw [E8 _ _ hrr] at e_74)
            refine wp_iadd d_45_75 ?_
            refine wp_aload d_45_76 (by rfl) ?_
            refine wp_iload d_45_78 (by rfl) ?_
            refine wp_iald d_45_80 (Or.inl (by first | assumption | (simp only [kd_setI]; assumption))) (by first | omega | (simp only [ln_setI]; omega)) (by first | omega | (simp only [ln_setI]; omega)) (fun x_80 e_80 r_80 => ?_)
            (try rw [E8 _ _ (pa _ (by omega) (by omega))] at e_80)
            (try rw [E8 _ _ hrr] at e_80)
            refine wp_icmp_gt (tgt := 88) d_45_81 (by decide) (by first | omega | (simp only [ln_setI]; omega)) (by first | omega | (simp only [ln_setI]; omega)) (fun c_81 => ?_) (fun c_81 => ?_)
            · refine wp_iconst d_45_88 ?_
              refine wp_istore d_45_89 (by decide) ?_
              refine wp_iinc d_45_91 (by rfl) (by decide) ?_
              refine wp_goto (tgt := 14) d_45_94 (by decide) ?_
              first
                | (exfalso; omega)
                | (refine wp_to [some (vR (some (w + 30))), some (vR (some a)), some (vI b0), some (vR (some r)), some (vR (some ra)), some (vI 1), some (vI 1), some (vI (k - 1)), none, none] ⟨rfl, rfl, rfl, rfl, rfl, rfl, rfl, rfl, trivial⟩ ?_
                   refine ih (k - 1) 1 1 _ (by omega) (by omega) (E.trans (ch_setI rfl)) ?_ kq
                   rw [hi_upF]
                   have J := I.write (by omega) (by omega) (by show _ < b0 + hi h0 (a + 3) k; rw [← e_25]; omega)
                   rw [e_25, show b0 + x_35 = b0 + hi h0 (a + 3) k by omega, show k - 1 + 1 = k by omega]
                   exact J.on (by omega) (Or.inl (by omega)))
                | (refine wp_to [some (vR (some (w + 30))), some (vR (some a)), some (vI b0), some (vR (some r)), some (vR (some ra)), some (vI b), some (vI 1), some (vI (k - 1)), none, none] ⟨rfl, rfl, rfl, rfl, rfl, rfl, rfl, rfl, trivial⟩ ?_
                   refine ih (k - 1) 1 b _ (by omega) (by omega) E ?_ kq
                   rw [show k - 1 + 1 = k by omega]
                   have J := I.pass (by first | exact Or.inl (by omega) | exact Or.inr (by show b0 + hi h0 (a + 3) k ≤ _; rw [← e_25]; omega))
                   exact J.on (by omega) (by first | exact Or.inl (by omega) | exact Or.inr (by show b0 + hi h0 (a + 2) k ≤ _; rw [← e_25]; omega)))
                | (refine wp_to [some (vR (some (w + 30))), some (vR (some a)), some (vI b0), some (vR (some r)), some (vR (some ra)), some (vI b), some (vI 0), some (vI (k - 1)), none, none] ⟨rfl, rfl, rfl, rfl, rfl, rfl, rfl, rfl, trivial⟩ ?_
                   refine ih (k - 1) 0 b _ (by omega) (by omega) E ?_ kq
                   rw [show k - 1 + 1 = k by omega]
                   have J := I.pass (Or.inl (by omega))
                   exact J.off (by omega) (by show _ < b0 + hi h0 (a + 2) k; rw [← e_25]; omega))
            · refine wp_iconst d_45_84 ?_
              refine wp_goto (tgt := 89) d_45_85 (by decide) ?_
              refine wp_istore d_45_89 (by decide) ?_
              refine wp_iinc d_45_91 (by rfl) (by decide) ?_
              refine wp_goto (tgt := 14) d_45_94 (by decide) ?_
              first
                | (exfalso; omega)
                | (refine wp_to [some (vR (some (w + 30))), some (vR (some a)), some (vI b0), some (vR (some r)), some (vR (some ra)), some (vI 1), some (vI 1), some (vI (k - 1)), none, none] ⟨rfl, rfl, rfl, rfl, rfl, rfl, rfl, rfl, trivial⟩ ?_
                   refine ih (k - 1) 1 1 _ (by omega) (by omega) (E.trans (ch_setI rfl)) ?_ kq
                   rw [hi_upF]
                   have J := I.write (by omega) (by omega) (by show _ < b0 + hi h0 (a + 3) k; rw [← e_25]; omega)
                   rw [e_25, show b0 + x_35 = b0 + hi h0 (a + 3) k by omega, show k - 1 + 1 = k by omega]
                   exact J.on (by omega) (Or.inl (by omega)))
                | (refine wp_to [some (vR (some (w + 30))), some (vR (some a)), some (vI b0), some (vR (some r)), some (vR (some ra)), some (vI b), some (vI 1), some (vI (k - 1)), none, none] ⟨rfl, rfl, rfl, rfl, rfl, rfl, rfl, rfl, trivial⟩ ?_
                   refine ih (k - 1) 1 b _ (by omega) (by omega) E ?_ kq
                   rw [show k - 1 + 1 = k by omega]
                   have J := I.pass (by first | exact Or.inl (by omega) | exact Or.inr (by show b0 + hi h0 (a + 3) k ≤ _; rw [← e_25]; omega))
                   exact J.on (by omega) (by first | exact Or.inl (by omega) | exact Or.inr (by show b0 + hi h0 (a + 2) k ≤ _; rw [← e_25]; omega)))
                | (refine wp_to [some (vR (some (w + 30))), some (vR (some a)), some (vI b0), some (vR (some r)), some (vR (some ra)), some (vI b), some (vI 0), some (vI (k - 1)), none, none] ⟨rfl, rfl, rfl, rfl, rfl, rfl, rfl, rfl, trivial⟩ ?_
                   refine ih (k - 1) 0 b _ (by omega) (by omega) E ?_ kq
                   rw [show k - 1 + 1 = k by omega]
                   have J := I.pass (Or.inl (by omega))
                   exact J.off (by omega) (by show _ < b0 + hi h0 (a + 2) k; rw [← e_25]; omega))
        · refine wp_aload_n d_45_53 (by rfl) ?_
          refine wp_iload d_45_54 (by rfl) ?_
          refine wp_iload d_45_56 (by rfl) ?_
          refine wp_iast d_45_58 (by first | assumption | (simp only [kd_setI]; assumption)) (by first | omega | (simp only [ln_setI]; omega)) (by first | omega | (simp only [ln_setI]; omega)) (by first | omega | (simp only [ln_setI]; omega)) ?_
          refine wp_iconst d_45_59 ?_
          refine wp_istore d_45_60 (by decide) ?_
          refine wp_iload d_45_62 (by rfl) ?_
          refine wp_if_ne (tgt := 84) d_45_64 (by decide) (by first | omega | (simp only [ln_setI]; omega)) (fun c_64 => ?_) (fun c_64 => ?_)
          · refine wp_iconst d_45_84 ?_
            refine wp_goto (tgt := 89) d_45_85 (by decide) ?_
            refine wp_istore d_45_89 (by decide) ?_
            refine wp_iinc d_45_91 (by rfl) (by decide) ?_
            refine wp_goto (tgt := 14) d_45_94 (by decide) ?_
            first
              | (exfalso; omega)
              | (refine wp_to [some (vR (some (w + 30))), some (vR (some a)), some (vI b0), some (vR (some r)), some (vR (some ra)), some (vI 1), some (vI 1), some (vI (k - 1)), none, none] ⟨rfl, rfl, rfl, rfl, rfl, rfl, rfl, rfl, trivial⟩ ?_
                 refine ih (k - 1) 1 1 _ (by omega) (by omega) (E.trans (ch_setI rfl)) ?_ kq
                 rw [hi_upF]
                 have J := I.write (by omega) (by omega) (by show _ < b0 + hi h0 (a + 3) k; rw [← e_25]; omega)
                 rw [e_25, show b0 + x_35 = b0 + hi h0 (a + 3) k by omega, show k - 1 + 1 = k by omega]
                 exact J.on (by omega) (Or.inl (by omega)))
              | (refine wp_to [some (vR (some (w + 30))), some (vR (some a)), some (vI b0), some (vR (some r)), some (vR (some ra)), some (vI b), some (vI 1), some (vI (k - 1)), none, none] ⟨rfl, rfl, rfl, rfl, rfl, rfl, rfl, rfl, trivial⟩ ?_
                 refine ih (k - 1) 1 b _ (by omega) (by omega) E ?_ kq
                 rw [show k - 1 + 1 = k by omega]
                 have J := I.pass (by first | exact Or.inl (by omega) | exact Or.inr (by show b0 + hi h0 (a + 3) k ≤ _; rw [← e_25]; omega))
                 exact J.on (by omega) (by first | exact Or.inl (by omega) | exact Or.inr (by show b0 + hi h0 (a + 2) k ≤ _; rw [← e_25]; omega)))
              | (refine wp_to [some (vR (some (w + 30))), some (vR (some a)), some (vI b0), some (vR (some r)), some (vR (some ra)), some (vI b), some (vI 0), some (vI (k - 1)), none, none] ⟨rfl, rfl, rfl, rfl, rfl, rfl, rfl, rfl, trivial⟩ ?_
                 refine ih (k - 1) 0 b _ (by omega) (by omega) E ?_ kq
                 rw [show k - 1 + 1 = k by omega]
                 have J := I.pass (Or.inl (by omega))
                 exact J.off (by omega) (by show _ < b0 + hi h0 (a + 2) k; rw [← e_25]; omega))
          · refine wp_iload_n d_45_67 (by rfl) ?_
            refine wp_aload_n d_45_68 (by rfl) ?_
            refine wp_getR (4) d_45_69 fl_1_103 rfl rfl (by first | assumption | (simp only [kd_setI]; assumption)) (by first | assumption | (simp only [hr_setI]; assumption)) ?_
            refine wp_iload d_45_72 (by rfl) ?_
            refine wp_iald d_45_74 (Or.inl (by first | assumption | (simp only [kd_setI]; assumption))) (by first | omega | (simp only [ln_setI]; omega)) (by first | omega | (simp only [ln_setI]; omega)) (fun x_74 e_74 r_74 => ?_)
            (try rw [E8 _ _ (pa _ (by omega) (by omega))] at e_74)
            (try rw [E8 _ _ hrr] at e_74)
            refine wp_iadd d_45_75 ?_
            refine wp_aload d_45_76 (by rfl) ?_
            refine wp_iload d_45_78 (by rfl) ?_
            refine wp_iald d_45_80 (Or.inl (by first | assumption | (simp only [kd_setI]; assumption))) (by first | omega | (simp only [ln_setI]; omega)) (by first | omega | (simp only [ln_setI]; omega)) (fun x_80 e_80 r_80 => ?_)
            (try rw [E8 _ _ (pa _ (by omega) (by omega))] at e_80)
            (try rw [E8 _ _ hrr] at e_80)
            refine wp_icmp_gt (tgt := 88) d_45_81 (by decide) (by first | omega | (simp only [ln_setI]; omega)) (by first | omega | (simp only [ln_setI]; omega)) (fun c_81 => ?_) (fun c_81 => ?_)
            · refine wp_iconst d_45_88 ?_
              refine wp_istore d_45_89 (by decide) ?_
              refine wp_iinc d_45_91 (by rfl) (by decide) ?_
              refine wp_goto (tgt := 14) d_45_94 (by decide) ?_
              first
                | (exfalso; omega)
                | (refine wp_to [some (vR (some (w + 30))), some (vR (some a)), some (vI b0), some (vR (some r)), some (vR (some ra)), some (vI 1), some (vI 1), some (vI (k - 1)), none, none] ⟨rfl, rfl, rfl, rfl, rfl, rfl, rfl, rfl, trivial⟩ ?_
                   refine ih (k - 1) 1 1 _ (by omega) (by omega) (E.trans (ch_setI rfl)) ?_ kq
                   rw [hi_upF]
                   have J := I.write (by omega) (by omega) (by show _ < b0 + hi h0 (a + 3) k; rw [← e_25]; omega)
                   rw [e_25, show b0 + x_35 = b0 + hi h0 (a + 3) k by omega, show k - 1 + 1 = k by omega]
                   exact J.on (by omega) (Or.inl (by omega)))
                | (refine wp_to [some (vR (some (w + 30))), some (vR (some a)), some (vI b0), some (vR (some r)), some (vR (some ra)), some (vI b), some (vI 1), some (vI (k - 1)), none, none] ⟨rfl, rfl, rfl, rfl, rfl, rfl, rfl, rfl, trivial⟩ ?_
                   refine ih (k - 1) 1 b _ (by omega) (by omega) E ?_ kq
                   rw [show k - 1 + 1 = k by omega]
                   have J := I.pass (by first | exact Or.inl (by omega) | exact Or.inr (by show b0 + hi h0 (a + 3) k ≤ _; rw [← e_25]; omega))
                   exact J.on (by omega) (by first | exact Or.inl (by omega) | exact Or.inr (by show b0 + hi h0 (a + 2) k ≤ _; rw [← e_25]; omega)))
                | (refine wp_to [some (vR (some (w + 30))), some (vR (some a)), some (vI b0), some (vR (some r)), some (vR (some ra)), some (vI b), some (vI 0), some (vI (k - 1)), none, none] ⟨rfl, rfl, rfl, rfl, rfl, rfl, rfl, rfl, trivial⟩ ?_
                   refine ih (k - 1) 0 b _ (by omega) (by omega) E ?_ kq
                   rw [show k - 1 + 1 = k by omega]
                   have J := I.pass (Or.inl (by omega))
                   exact J.off (by omega) (by show _ < b0 + hi h0 (a + 2) k; rw [← e_25]; omega))
            · refine wp_iconst d_45_84 ?_
              refine wp_goto (tgt := 89) d_45_85 (by decide) ?_
              refine wp_istore d_45_89 (by decide) ?_
              refine wp_iinc d_45_91 (by rfl) (by decide) ?_
              refine wp_goto (tgt := 14) d_45_94 (by decide) ?_
              first
                | (exfalso; omega)
                | (refine wp_to [some (vR (some (w + 30))), some (vR (some a)), some (vI b0), some (vR (some r)), some (vR (some ra)), some (vI 1), some (vI 1), some (vI (k - 1)), none, none] ⟨rfl, rfl, rfl, rfl, rfl, rfl, rfl, rfl, trivial⟩ ?_
                   refine ih (k - 1) 1 1 _ (by omega) (by omega) (E.trans (ch_setI rfl)) ?_ kq
                   rw [hi_upF]
                   have J := I.write (by omega) (by omega) (by show _ < b0 + hi h0 (a + 3) k; rw [← e_25]; omega)
                   rw [e_25, show b0 + x_35 = b0 + hi h0 (a + 3) k by omega, show k - 1 + 1 = k by omega]
                   exact J.on (by omega) (Or.inl (by omega)))
                | (refine wp_to [some (vR (some (w + 30))), some (vR (some a)), some (vI b0), some (vR (some r)), some (vR (some ra)), some (vI b), some (vI 1), some (vI (k - 1)), none, none] ⟨rfl, rfl, rfl, rfl, rfl, rfl, rfl, rfl, trivial⟩ ?_
                   refine ih (k - 1) 1 b _ (by omega) (by omega) E ?_ kq
                   rw [show k - 1 + 1 = k by omega]
                   have J := I.pass (by first | exact Or.inl (by omega) | exact Or.inr (by show b0 + hi h0 (a + 3) k ≤ _; rw [← e_25]; omega))
                   exact J.on (by omega) (by first | exact Or.inl (by omega) | exact Or.inr (by show b0 + hi h0 (a + 2) k ≤ _; rw [← e_25]; omega)))
                | (refine wp_to [some (vR (some (w + 30))), some (vR (some a)), some (vI b0), some (vR (some r)), some (vR (some ra)), some (vI b), some (vI 0), some (vI (k - 1)), none, none] ⟨rfl, rfl, rfl, rfl, rfl, rfl, rfl, rfl, trivial⟩ ?_
                   refine ih (k - 1) 0 b _ (by omega) (by omega) E ?_ kq
                   rw [show k - 1 + 1 = k by omega]
                   have J := I.pass (Or.inl (by omega))
                   exact J.off (by omega) (by show _ < b0 + hi h0 (a + 2) k; rw [← e_25]; omega))
set_option maxRecDepth 100000 in
set_option maxHeartbeats 4000000 in
theorem s_rideRunB {w a r ra : Nat} {n b0 : Int} {h0 : Hp} (hT0 : TripOk h0 n a) (hn : n ≤ 16) (kr : kd h0 r = 100) (lr : ln h0 r = 16) (kr2 : kd h0 ra = 100) (lr2 : ln h0 ra = 16) (hrr : ra ≠ r) (hra : r < a ∨ a + 4 < r) (han : a + 5 ≤ nx h0) (hb0 : 0 ≤ b0 ∧ b0 ≤ 600000) : wp 45 0 (entL [vR (some (w + 30)), vR (some a), vI b0, vR (some r), vR (some ra)] (mL 45)) [] h0 (fun v h' => ∃ b', v = some (vI b') ∧ ch (· = r) nP h0 h' ∧ RBun (hi h0 a 7) (hi h0 (a + 1)) (fun i => b0 + hi h0 (a + 2) i) (fun i => b0 + hi h0 (a + 3) i) (hi h0 ra) (hi h0 r) (hi h' r) b') noX := by
  have hT := hT0
  obtain ⟨t1, ⟨u1, u2, u3, u4⟩, ⟨⟨v1, v2⟩, ⟨v3, v4⟩, ⟨v5, v6⟩, v7, v8⟩, t4, t5, t6, t7, t8⟩ := hT
  refine wp_iconst d_45_0 ?_
  refine wp_istore d_45_1 (by decide) ?_
  refine wp_iconst d_45_3 ?_
  refine wp_istore d_45_4 (by decide) ?_
  refine wp_aload_n d_45_6 (by rfl) ?_
  refine wp_getI (7) d_45_7 fl_1_94 rfl rfl (by assumption) (fun x_7 e_7 r_7 => ?_)
  refine wp_iconst d_45_10 ?_
  refine wp_isub d_45_11 ?_
  refine wp_istore d_45_12 (by decide) ?_
  subst e_7
  refine wp_to [some (vR (some (w + 30))), some (vR (some a)), some (vI b0), some (vR (some r)), some (vR (some ra)), some (vI 0), some (vI 0), some (vI (hi h0 a 7 - 1)), none, none] ⟨rfl, rfl, rfl, rfl, rfl, rfl, rfl, rfl, trivial⟩ ?_
  refine l_rideRunB hT0 hn kr lr kr2 lr2 hrr hra han hb0 (hi h0 a 7).toNat (hi h0 a 7 - 1) 0 0 h0 (by omega) (by omega) ch.rfl ?_ (fun h' b' E I => ⟨b', rfl, E, I⟩)
  rw [show hi h0 a 7 - 1 + 1 = hi h0 a 7 by omega]
  exact RBI.start
set_option maxRecDepth 100000 in
set_option maxHeartbeats 4000000 in
theorem l_rideB {w X K : Nat} {h0 : Hp} (hS0 : Sk h0 w) (hT0 : TT h0 w X) (hR0 : RunsOk h0 w) (hK : K + 1 < 7) {Q : Option AV → Hp → Prop} : ∀ (m : Nat) (q b : Int) (h : Hp), q + m = hi h0 (w + 6) 3 → 0 ≤ q → ch (· = w + 32 + (K + 1)) nP h0 h → RbdI (hi h0 (w + 1) 4) (RcI h0 w) (hi h0 (w + 40 + K)) (hi h0 (w + 32 + (K + 1))) (hi h (w + 32 + (K + 1))) q b → (∀ h' b', ch (· = w + 32 + (K + 1)) nP h0 h' → RbdI (hi h0 (w + 1) 4) (RcI h0 w) (hi h0 (w + 40 + K)) (hi h0 (w + 32 + (K + 1))) (hi h' (w + 32 + (K + 1))) (hi h0 (w + 6) 3) b' → Q (some (vI b')) h') → wp 44 6 [some (vR (some (w + 30))), some (vR (some (w + 6))), some (vR (some (w + 32 + (K + 1)))), some (vR (some (w + 40 + K))), some (vI b), some (vI (q))] [] h Q noX := by
  intro m
  have hX := hT0.2.2.2.2.2.2
  have hn := hT0.1
  have hrc := hR0.1
  induction m with
  | zero =>
    intro q b h e0 e1 E I kq
    have hS := hS0.ch E hT0
    have hS9 := hS
    have E8 := E.2.2.2.2.2.2.2.1
    have p6 : ¬ w + 6 = w + 32 + (K + 1) := by omega
    have p9 : ¬ w + 9 = w + 32 + (K + 1) := by omega
    have gb : b = 0 ∨ b = 1 := by rcases I.2.2 with z | z <;> omega
    obtain ⟨⟨k1, k2, k3, k4, k5, k6, k7⟩, ⟨n1, ⟨n2, n3, n4, n5⟩, ⟨n6, n7⟩, ⟨n8, n9⟩, ⟨n10, n11⟩, n12, n13⟩, ⟨m1, ⟨m2, m3, m4⟩, ⟨m5, m6⟩, ⟨m7, m8⟩, m9, m10⟩, ⟨o1, ⟨o2, o3, o4⟩, ⟨o5, o6, o7⟩, ⟨o8, o9, o10⟩, o11, o12⟩, ⟨b1, ⟨b2, b3⟩, ⟨b4, b5, b6⟩, b7, b8, b9⟩, ⟨j1, ⟨j2, j3, j4, j5, j6, j7, j8⟩, ⟨j9, j10⟩, j11⟩⟩ := hS
    obtain ⟨r1, r2, r3⟩ := b6 (K + 1) hK
    obtain ⟨r4, r5, r6⟩ := b9 K (by omega)
    refine wp_iload d_44_6 (by rfl) ?_
    refine wp_aload_n d_44_8 (by rfl) ?_
    refine wp_getI (3) d_44_9 fl_1_77 rfl rfl (by assumption) (fun x_9 e_9 r_9 => ?_)
    (try rw [E8 _ _ p6] at e_9)
    (try rw [E8 _ _ p9] at e_9)
    refine wp_icmp_ge (tgt := 56) d_44_12 (by decide) (by omega) (by omega) (fun c_12 => ?_) (fun c_12 => ?_)
    rotate_left
    · exact absurd c_12 (by omega)
    refine wp_iload d_44_56 (by rfl) ?_
    refine wp_zret d_44_58 rfl (by omega) ?_
    obtain rfl : q = hi h0 (w + 6) 3 := by omega
    exact kq h b E I
  | succ m ih =>
    intro q b h e0 e1 E I kq
    have hS := hS0.ch E hT0
    have hS9 := hS
    have E8 := E.2.2.2.2.2.2.2.1
    have p6 : ¬ w + 6 = w + 32 + (K + 1) := by omega
    have p9 : ¬ w + 9 = w + 32 + (K + 1) := by omega
    have gb : b = 0 ∨ b = 1 := by rcases I.2.2 with z | z <;> omega
    obtain ⟨⟨k1, k2, k3, k4, k5, k6, k7⟩, ⟨n1, ⟨n2, n3, n4, n5⟩, ⟨n6, n7⟩, ⟨n8, n9⟩, ⟨n10, n11⟩, n12, n13⟩, ⟨m1, ⟨m2, m3, m4⟩, ⟨m5, m6⟩, ⟨m7, m8⟩, m9, m10⟩, ⟨o1, ⟨o2, o3, o4⟩, ⟨o5, o6, o7⟩, ⟨o8, o9, o10⟩, o11, o12⟩, ⟨b1, ⟨b2, b3⟩, ⟨b4, b5, b6⟩, b7, b8, b9⟩, ⟨j1, ⟨j2, j3, j4, j5, j6, j7, j8⟩, ⟨j9, j10⟩, j11⟩⟩ := hS
    obtain ⟨r1, r2, r3⟩ := b6 (K + 1) hK
    obtain ⟨r4, r5, r6⟩ := b9 K (by omega)
    obtain ⟨a, g1, g2, g3, g4, g5, g6⟩ := hR0.at hT0 e1 (by omega)
    have f1 : hr h (w + 7) q = some a := (E.2.2.2.2.2.2.2.2 _ _ id).trans g1
    have ka : kd h a = 12 := (congrFun E.1 a).trans g4.1
    have hT := g4.kept E.fm (fun z z1 z2 z3 => by omega) id (by omega)
    have ea : hi h a = hi h0 a := funext fun z => E8 a z (by omega)
    have ea1 : hi h (a + 1) = hi h0 (a + 1) := funext fun z => E8 (a + 1) z (by omega)
    have ea2 : hi h (a + 2) = hi h0 (a + 2) := funext fun z => E8 (a + 2) z (by omega)
    have ea3 : hi h (a + 3) = hi h0 (a + 3) := funext fun z => E8 (a + 3) z (by omega)
    have ey : hi h (w + 40 + K) = hi h0 (w + 40 + K) := funext fun z => E8 (w + 40 + K) z (by omega)
    have enx : nx h = nx h0 := E.2.2.2.1
    refine wp_iload d_44_6 (by rfl) ?_
    refine wp_aload_n d_44_8 (by rfl) ?_
    refine wp_getI (3) d_44_9 fl_1_77 rfl rfl (by assumption) (fun x_9 e_9 r_9 => ?_)
    (try rw [E8 _ _ p6] at e_9)
    (try rw [E8 _ _ p9] at e_9)
    refine wp_icmp_ge (tgt := 56) d_44_12 (by decide) (by omega) (by omega) (fun c_12 => ?_) (fun c_12 => ?_)
    · refine wp_iload d_44_56 (by rfl) ?_
      refine wp_zret d_44_58 rfl (by omega) ?_
      exact absurd c_12 (by omega)
    · refine wp_aload_n d_44_15 (by rfl) ?_
      refine wp_aload_n d_44_16 (by rfl) ?_
      refine wp_getR (0) d_44_17 fl_1_82 rfl rfl (by assumption) (by assumption) ?_
      refine wp_iload d_44_20 (by rfl) ?_
      refine wp_aald d_44_22 (by first | omega | (simp only [kd_setI, kd_cpI]; omega)) (by first | omega | (simp only [kd_setI, kd_cpI]; omega)) (by apply isRf_of; assumption; rfl) (by omega) (by omega) (by assumption) ?_
      refine wp_aload_n d_44_23 (by rfl) ?_
      refine wp_getR (2) d_44_24 fl_1_86 rfl rfl (by assumption) (by assumption) ?_
      refine wp_iload d_44_27 (by rfl) ?_
      refine wp_iald d_44_29 (Or.inl (by assumption)) (by omega) (by omega) (fun x_29 e_29 r_29 => ?_)
      (try rw [E8 _ _ p6] at e_29)
      (try rw [E8 _ _ p9] at e_29)
      refine wp_aload_n d_44_30 (by rfl) ?_
      refine wp_aload_n d_44_31 (by rfl) ?_
      refine wp_callV d_44_32 c_44_90 rfl (by rfl) (by rfl) ⟨1, rfl, rfl, by decide⟩ (by assumption) (by exact Nat.le_of_ble_eq_true rfl) (by exact Nat.le_of_ble_eq_true rfl) (s_rideRunB (w := w) hT hn.2 r2 r3 r5 r6 (by omega) (by omega) (by omega) (by rw [e_29]; exact ⟨g5, g6⟩)) (fun v_32 h_32 q_32 => ?_) (fun _ _ q => q.elim)
      obtain ⟨b1, rfl, E1, I1⟩ := q_32
      rw [ea, ea1, ea2, ea3, ey, e_29] at I1
      have gb1 : b1 = 0 ∨ b1 = 1 := by rcases I1.2.2 with z | z <;> omega
      refine wp_if_ne (tgt := 43) d_44_35 (by decide) (by omega) (fun c_35 => ?_) (fun c_35 => ?_)
      · refine wp_iconst d_44_43 ?_
        refine wp_goto (tgt := 48) d_44_44 (by decide) ?_
        refine wp_istore d_44_48 (by decide) ?_
        refine wp_iinc d_44_50 (by rfl) (by decide) ?_
        refine wp_goto (tgt := 6) d_44_53 (by decide) ?_
        first
          | (refine wp_to [some (vR (some (w + 30))), some (vR (some (w + 6))), some (vR (some (w + 32 + (K + 1)))), some (vR (some (w + 40 + K))), some (vI 1), some (vI (q + 1))] ⟨rfl, rfl, rfl, rfl, rfl, rfl, trivial⟩ ?_
             exact ih (q + 1) 1 _ (by omega) (by omega) (E.trans E1) (I.step (r0 := rnB h0 a (hi h0 (w + 9) q)) (fun r z => by obtain ⟨-, a', z1, z2⟩ := z; cases z1.symm.trans g1; exact z2) ⟨e1, a, g1, rfl⟩ I1 (Or.inr rfl)) kq)
          | (refine wp_to [some (vR (some (w + 30))), some (vR (some (w + 6))), some (vR (some (w + 32 + (K + 1)))), some (vR (some (w + 40 + K))), some (vI 0), some (vI (q + 1))] ⟨rfl, rfl, rfl, rfl, rfl, rfl, trivial⟩ ?_
             exact ih (q + 1) 0 _ (by omega) (by omega) (E.trans E1) (I.step (r0 := rnB h0 a (hi h0 (w + 9) q)) (fun r z => by obtain ⟨-, a', z1, z2⟩ := z; cases z1.symm.trans g1; exact z2) ⟨e1, a, g1, rfl⟩ I1 (Or.inl ⟨rfl, by omega, by omega⟩)) kq)
      · refine wp_iload d_44_38 (by rfl) ?_
        refine wp_if_eq (tgt := 47) d_44_40 (by decide) (by omega) (fun c_40 => ?_) (fun c_40 => ?_)
        · refine wp_iconst d_44_47 ?_
          refine wp_istore d_44_48 (by decide) ?_
          refine wp_iinc d_44_50 (by rfl) (by decide) ?_
          refine wp_goto (tgt := 6) d_44_53 (by decide) ?_
          first
            | (refine wp_to [some (vR (some (w + 30))), some (vR (some (w + 6))), some (vR (some (w + 32 + (K + 1)))), some (vR (some (w + 40 + K))), some (vI 1), some (vI (q + 1))] ⟨rfl, rfl, rfl, rfl, rfl, rfl, trivial⟩ ?_
               exact ih (q + 1) 1 _ (by omega) (by omega) (E.trans E1) (I.step (r0 := rnB h0 a (hi h0 (w + 9) q)) (fun r z => by obtain ⟨-, a', z1, z2⟩ := z; cases z1.symm.trans g1; exact z2) ⟨e1, a, g1, rfl⟩ I1 (Or.inr rfl)) kq)
            | (refine wp_to [some (vR (some (w + 30))), some (vR (some (w + 6))), some (vR (some (w + 32 + (K + 1)))), some (vR (some (w + 40 + K))), some (vI 0), some (vI (q + 1))] ⟨rfl, rfl, rfl, rfl, rfl, rfl, trivial⟩ ?_
               exact ih (q + 1) 0 _ (by omega) (by omega) (E.trans E1) (I.step (r0 := rnB h0 a (hi h0 (w + 9) q)) (fun r z => by obtain ⟨-, a', z1, z2⟩ := z; cases z1.symm.trans g1; exact z2) ⟨e1, a, g1, rfl⟩ I1 (Or.inl ⟨rfl, by omega, by omega⟩)) kq)
        · refine wp_iconst d_44_43 ?_
          refine wp_goto (tgt := 48) d_44_44 (by decide) ?_
          refine wp_istore d_44_48 (by decide) ?_
          refine wp_iinc d_44_50 (by rfl) (by decide) ?_
          refine wp_goto (tgt := 6) d_44_53 (by decide) ?_
          first
            | (refine wp_to [some (vR (some (w + 30))), some (vR (some (w + 6))), some (vR (some (w + 32 + (K + 1)))), some (vR (some (w + 40 + K))), some (vI 1), some (vI (q + 1))] ⟨rfl, rfl, rfl, rfl, rfl, rfl, trivial⟩ ?_
               exact ih (q + 1) 1 _ (by omega) (by omega) (E.trans E1) (I.step (r0 := rnB h0 a (hi h0 (w + 9) q)) (fun r z => by obtain ⟨-, a', z1, z2⟩ := z; cases z1.symm.trans g1; exact z2) ⟨e1, a, g1, rfl⟩ I1 (Or.inr rfl)) kq)
            | (refine wp_to [some (vR (some (w + 30))), some (vR (some (w + 6))), some (vR (some (w + 32 + (K + 1)))), some (vR (some (w + 40 + K))), some (vI 0), some (vI (q + 1))] ⟨rfl, rfl, rfl, rfl, rfl, rfl, trivial⟩ ?_
               exact ih (q + 1) 0 _ (by omega) (by omega) (E.trans E1) (I.step (r0 := rnB h0 a (hi h0 (w + 9) q)) (fun r z => by obtain ⟨-, a', z1, z2⟩ := z; cases z1.symm.trans g1; exact z2) ⟨e1, a, g1, rfl⟩ I1 (Or.inl ⟨rfl, by omega, by omega⟩)) kq)
set_option maxRecDepth 100000 in
set_option maxHeartbeats 4000000 in
theorem s_rideB {w X K : Nat} {h0 : Hp} (hS0 : Sk h0 w) (hT0 : TT h0 w X) (hR0 : RunsOk h0 w) (hK : K + 1 < 7) : wp 44 0 (entL [vR (some (w + 30)), vR (some (w + 6)), vR (some (w + 32 + (K + 1))), vR (some (w + 40 + K))] (mL 44)) [] h0 (fun v h' => ∃ b, v = some (vI b) ∧ ch (· = w + 32 + (K + 1)) nP h0 h' ∧ BRide (hi h0 (w + 1) 4) (Rc h0 w) (hi h0 (w + 40 + K)) (hi h0 (w + 32 + (K + 1))) (hi h' (w + 32 + (K + 1))) ∧ ((b = 0 ∧ ∀ s, 0 ≤ s → s < hi h0 (w + 1) 4 → hi h' (w + 32 + (K + 1)) s = hi h0 (w + 32 + (K + 1)) s) ∨ b = 1)) noX := by
  refine wp_iconst d_44_0 ?_
  refine wp_istore d_44_1 (by decide) ?_
  refine wp_iconst d_44_3 ?_
  refine wp_istore d_44_4 (by decide) ?_
  refine wp_to [some (vR (some (w + 30))), some (vR (some (w + 6))), some (vR (some (w + 32 + (K + 1)))), some (vR (some (w + 40 + K))), some (vI 0), some (vI (0))] ⟨rfl, rfl, rfl, rfl, rfl, rfl, trivial⟩ ?_
  have hrc := hR0.1
  refine l_rideB hS0 hT0 hR0 hK (hi h0 (w + 6) 3).toNat 0 0 h0 (by omega) (by omega) ch.rfl (RbdI.start fun q r z => z.1) (fun h' b' E I => ?_)
  obtain ⟨d1, d2⟩ := I.done (R := Rc h0 w) (fun r => Rc_iff)
  exact ⟨b', rfl, E, d1, d2⟩
