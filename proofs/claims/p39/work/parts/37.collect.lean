/-! ===== collect ===== -/
theorem PCoff {w X : Nat} : Off w X (PC w) (PQ w) := ⟨fun a z => by unfold PC at z; omega, fun a z => by unfold PQ at z; omega⟩
set_option maxRecDepth 100000 in
set_option maxHeartbeats 4000000 in
theorem l_colI {w X a c : Nat} {S U A B N : Int} {h0 : Hp} (hS0 : Sk h0 w) (hT0 : TT h0 w X) (hSU : inR S ∧ inR U) (hA : 0 ≤ A ∧ A ≤ 1000000) (hB : B ≤ 365) (hAB : B - A ≤ 7) (hBr : inR B) (hN : 0 ≤ N ∧ N < hi h0 (w + 1) 7) (ga : hr h0 (w + 5) N = some a) (gT : TripOk h0 (hi h0 (w + 1) 4) a) (gr : w + 154 ≤ a ∧ a + 5 ≤ X) (gc : hr h0 a 1 = some c) (gC : CalOk h0 c) (gcr : w + 154 ≤ c ∧ c + 2 ≤ X) {Q : Option AV → Hp → Prop} : ∀ (m : Nat) (D : Int) (h : Hp), B + 1 - D ≤ m → A ≤ D → D ≤ B + 1 ∨ D = A → ch (PC w) (PQ w) h0 h → CoI h0 h w S U A B N D → (∀ h', ch (PC w) (PQ w) h0 h' → CoI h0 h' w S U A B (N + 1) A → wp 91 108 [some (vR (some (w + 6))), some (vR (some (w + 1))), some (vI S), some (vI U), some (vI A), some (vI B), some (vI N), none, none] [] h' Q noX) → wp 91 66 [some (vR (some (w + 6))), some (vR (some (w + 1))), some (vI S), some (vI U), some (vI A), some (vI B), some (vI N), some (vR (some a)), some (vI D)] [] h Q noX := by
  intro m
  have h24 := hT0.2.2.1
  have kt := hasRn.kept hT0 (h' := h0) (ch.rfl (P := PC w) (R := PQ w)).fm PCoff (d := 0) hN.1 hN.2 ga
  induction m with
  | zero =>
    intro D h e0 e1 eD E I kq
    have hX := hT0.2.2.2.2.2.2
    have hS := hS0.kept E.fm ((PCoff (X := X)).pr hX.2) (by omega)
    have hS9 := hS
    have E8 := E.2.2.2.2.2.2.2.1
    have E9 := E.2.2.2.2.2.2.2.2
    have pa : ∀ q, a ≤ q → ¬ PC w q := fun q z y => by unfold PC at y; omega
    have hT := gT.kept E.fm (fun q z1 z2 z3 => by unfold PC at z3; omega) (fun z => by unfold PQ at z; omega) (by omega)
    have hT9 := hT
    have gC9 := gC.kept E.fm (fun z => by unfold PQ at z; omega) (by omega)
    have gc9 : hr h a 1 = some c := (E9 _ _ (fun z => by unfold PQ at z; omega)).trans gc
    have enx : nx h = nx h0 := E.2.2.2.1
    obtain ⟨t1, ⟨u1, u2, u3, u4⟩, ⟨⟨v1, v2⟩, ⟨v3, v4⟩, ⟨v5, v6⟩, v7, v8⟩, t4, t5, t6, t7, t8⟩ := hT
    refine wp_iload d_91_66 (by rfl) ?_
    refine wp_iload d_91_68 (by rfl) ?_
    refine wp_icmp_gt (tgt := 108) d_91_70 (by decide) (by omega) (by omega) (fun c_70 => ?_) (fun c_70 => ?_)
    rotate_left
    · exact absurd c_70 (by omega)
    refine wp_to [some (vR (some (w + 6))), some (vR (some (w + 1))), some (vI S), some (vI U), some (vI A), some (vI B), some (vI N), none, none] ⟨rfl, rfl, rfl, rfl, rfl, rfl, rfl, trivial⟩ ?_
    exact kq h E (I.next eD (by omega) hAB)
  | succ m ih =>
    intro D h e0 e1 eD E I kq
    have hX := hT0.2.2.2.2.2.2
    have hS := hS0.kept E.fm ((PCoff (X := X)).pr hX.2) (by omega)
    have hS9 := hS
    have E8 := E.2.2.2.2.2.2.2.1
    have E9 := E.2.2.2.2.2.2.2.2
    have pa : ∀ q, a ≤ q → ¬ PC w q := fun q z y => by unfold PC at y; omega
    have hT := gT.kept E.fm (fun q z1 z2 z3 => by unfold PC at z3; omega) (fun z => by unfold PQ at z; omega) (by omega)
    have hT9 := hT
    have gC9 := gC.kept E.fm (fun z => by unfold PQ at z; omega) (by omega)
    have gc9 : hr h a 1 = some c := (E9 _ _ (fun z => by unfold PQ at z; omega)).trans gc
    have enx : nx h = nx h0 := E.2.2.2.1
    obtain ⟨t1, ⟨u1, u2, u3, u4⟩, ⟨⟨v1, v2⟩, ⟨v3, v4⟩, ⟨v5, v6⟩, v7, v8⟩, t4, t5, t6, t7, t8⟩ := hT
    have kh := hasRn.kept hT0 E.fm PCoff (d := D) hN.1 hN.2 ga
    have ea : hi h a = hi h0 a := funext fun z => E8 a z (pa a (by omega))
    have ea3 : hi h (a + 3) = hi h0 (a + 3) := funext fun z => E8 (a + 3) z (pa _ (by omega))
    have hz := I.1
    have g5 : hr h (w + 5) N = some a := (E9 _ _ (fun z => by unfold PQ at z; omega)).trans ga
    refine wp_iload d_91_66 (by rfl) ?_
    refine wp_iload d_91_68 (by rfl) ?_
    refine wp_icmp_gt (tgt := 108) d_91_70 (by decide) (by omega) (by omega) (fun c_70 => ?_) (fun c_70 => ?_)
    · refine wp_to [some (vR (some (w + 6))), some (vR (some (w + 1))), some (vI S), some (vI U), some (vI A), some (vI B), some (vI N), none, none] ⟨rfl, rfl, rfl, rfl, rfl, rfl, rfl, trivial⟩ ?_
      exact kq h E (I.next eD (by omega) hAB)
    · refine wp_aload d_91_73 (by rfl) ?_
      refine wp_getI (7) d_91_75 fl_10_46 rfl rfl (by first | assumption | exact hS9.2.2.1.1) (fun x_75 e_75 r_75 => ?_)
      (try rw [E8 _ _ (pa _ (by omega))] at e_75)
      refine wp_iconst d_91_78 ?_
      refine wp_icmp_le (tgt := 102) d_91_79 (by decide) (by omega) (by omega) (fun c_79 => ?_) (fun c_79 => ?_)
      · refine wp_iinc d_91_102 (by rfl) (by decide) ?_
        refine wp_goto (tgt := 66) d_91_105 (by decide) ?_
        refine wp_to [some (vR (some (w + 6))), some (vR (some (w + 1))), some (vI S), some (vI U), some (vI A), some (vI B), some (vI N), some (vR (some a)), some (vI (D + 1))] ⟨rfl, rfl, rfl, rfl, rfl, rfl, rfl, rfl, rfl, trivial⟩ ?_
        first
          | (refine ih (D + 1) _ (by omega) (by omega) (by omega) E (I.skip fun a' y => ?_) kq
             cases ga.symm.trans y.1
             first
               | (have y9 := y.2.2.1; omega)
               | (rcases u_86 with ⟨y1, y2⟩ | ⟨y1, y2⟩
                  · omega
                  · exact y2 (kh.1.mpr y.2.1)))
          | (rcases q_99 with ⟨z1, z2⟩ | ⟨z1, z2⟩
             · subst z2
               rw [kh.2.2, ea3, ea] at z1
               refine ih (D + 1) _ (by omega) (by omega) (by omega) (E.trans ?_) ?_ kq
               · exact ((ch_setR (P := PC w) (R := PQ w) rfl).trans (ch_setI (P := PC w) (R := PQ w) (Or.inr (Or.inl rfl)))).trans ((ch_setI (P := PC w) (R := PQ w) (Or.inr (Or.inr rfl))).trans (ch_setI (P := PC w) (R := PQ w) (Or.inl rfl)))
               · rw [kh.2.2]
                 rcases u_86 with ⟨y1, y2⟩ | ⟨y1, y2⟩
                 · exact I.put hN ⟨ga, kh.1.mp y2, by first | omega | (rw [← ea]; omega), z1.1, z1.2⟩
                 · omega
             · subst z2
               rw [kh.2.2, ea3, ea] at z1
               exact ih (D + 1) _ (by omega) (by omega) (by omega) E (I.skip fun a' y => by cases ga.symm.trans y.1; exact z1 ⟨y.2.2.2.1, y.2.2.2.2⟩) kq)
      · refine wp_aload d_91_82 (by rfl) ?_
        refine wp_iload d_91_84 (by rfl) ?_
        refine wp_callV d_91_86 c_91_47 rfl (by rfl) (by rfl) ⟨11, rfl, rfl, by decide⟩ (by first | assumption | exact hS9.2.2.1.1) (by exact Nat.le_of_ble_eq_true rfl) (by exact Nat.le_of_ble_eq_true rfl) (s_hasRun hT9 gc9 gC9 ⟨by omega, by omega⟩) (fun v_86 h_86 q_86 => ?_) (fun _ _ q => q.elim)
        obtain ⟨z_86, rfl, y_86, u_86⟩ := q_86
        replace y_86 := y_86.symm
        subst y_86
        refine wp_if_eq (tgt := 102) d_91_89 (by decide) (by omega) (fun c_89 => ?_) (fun c_89 => ?_)
        · refine wp_iinc d_91_102 (by rfl) (by decide) ?_
          refine wp_goto (tgt := 66) d_91_105 (by decide) ?_
          refine wp_to [some (vR (some (w + 6))), some (vR (some (w + 1))), some (vI S), some (vI U), some (vI A), some (vI B), some (vI N), some (vR (some a)), some (vI (D + 1))] ⟨rfl, rfl, rfl, rfl, rfl, rfl, rfl, rfl, rfl, trivial⟩ ?_
          first
            | (refine ih (D + 1) _ (by omega) (by omega) (by omega) E (I.skip fun a' y => ?_) kq
               cases ga.symm.trans y.1
               first
                 | (have y9 := y.2.2.1; omega)
                 | (rcases u_86 with ⟨y1, y2⟩ | ⟨y1, y2⟩
                    · omega
                    · exact y2 (kh.1.mpr y.2.1)))
            | (rcases q_99 with ⟨z1, z2⟩ | ⟨z1, z2⟩
               · subst z2
                 rw [kh.2.2, ea3, ea] at z1
                 refine ih (D + 1) _ (by omega) (by omega) (by omega) (E.trans ?_) ?_ kq
                 · exact ((ch_setR (P := PC w) (R := PQ w) rfl).trans (ch_setI (P := PC w) (R := PQ w) (Or.inr (Or.inl rfl)))).trans ((ch_setI (P := PC w) (R := PQ w) (Or.inr (Or.inr rfl))).trans (ch_setI (P := PC w) (R := PQ w) (Or.inl rfl)))
                 · rw [kh.2.2]
                   rcases u_86 with ⟨y1, y2⟩ | ⟨y1, y2⟩
                   · exact I.put hN ⟨ga, kh.1.mp y2, by first | omega | (rw [← ea]; omega), z1.1, z1.2⟩
                   · omega
               · subst z2
                 rw [kh.2.2, ea3, ea] at z1
                 exact ih (D + 1) _ (by omega) (by omega) (by omega) E (I.skip fun a' y => by cases ga.symm.trans y.1; exact z1 ⟨y.2.2.2.1, y.2.2.2.2⟩) kq)
        · refine wp_aload_n d_91_92 (by rfl) ?_
          refine wp_aload d_91_93 (by rfl) ?_
          refine wp_iload d_91_95 (by rfl) ?_
          refine wp_iload_n d_91_97 (by rfl) ?_
          refine wp_iload_n d_91_98 (by rfl) ?_
          refine wp_callV d_91_99 c_91_51 rfl (by rfl) (by rfl) ⟨10, rfl, rfl, by decide⟩ (by first | assumption | exact hS9.2.2.1.1) (by exact Nat.le_of_ble_eq_true rfl) (by exact Nat.le_of_ble_eq_true rfl) (s_add hS9 hT9 gr.1 ⟨by omega, by omega⟩ ⟨by omega, by omega⟩ hSU) (fun v_99 h_99 q_99 => ?_) (fun _ _ q => q.elim)
          obtain ⟨rfl, q_99⟩ := q_99
          refine wp_iinc d_91_102 (by rfl) (by decide) ?_
          refine wp_goto (tgt := 66) d_91_105 (by decide) ?_
          refine wp_to [some (vR (some (w + 6))), some (vR (some (w + 1))), some (vI S), some (vI U), some (vI A), some (vI B), some (vI N), some (vR (some a)), some (vI (D + 1))] ⟨rfl, rfl, rfl, rfl, rfl, rfl, rfl, rfl, rfl, trivial⟩ ?_
          first
            | (refine ih (D + 1) _ (by omega) (by omega) (by omega) E (I.skip fun a' y => ?_) kq
               cases ga.symm.trans y.1
               first
                 | (have y9 := y.2.2.1; omega)
                 | (rcases u_86 with ⟨y1, y2⟩ | ⟨y1, y2⟩
                    · omega
                    · exact y2 (kh.1.mpr y.2.1)))
            | (rcases q_99 with ⟨z1, z2⟩ | ⟨z1, z2⟩
               · subst z2
                 rw [kh.2.2, ea3, ea] at z1
                 refine ih (D + 1) _ (by omega) (by omega) (by omega) (E.trans ?_) ?_ kq
                 · exact ((ch_setR (P := PC w) (R := PQ w) rfl).trans (ch_setI (P := PC w) (R := PQ w) (Or.inr (Or.inl rfl)))).trans ((ch_setI (P := PC w) (R := PQ w) (Or.inr (Or.inr rfl))).trans (ch_setI (P := PC w) (R := PQ w) (Or.inl rfl)))
                 · rw [kh.2.2]
                   rcases u_86 with ⟨y1, y2⟩ | ⟨y1, y2⟩
                   · exact I.put hN ⟨ga, kh.1.mp y2, by first | omega | (rw [← ea]; omega), z1.1, z1.2⟩
                   · omega
               · subst z2
                 rw [kh.2.2, ea3, ea] at z1
                 exact ih (D + 1) _ (by omega) (by omega) (by omega) E (I.skip fun a' y => by cases ga.symm.trans y.1; exact z1 ⟨y.2.2.2.1, y.2.2.2.2⟩) kq)
set_option maxRecDepth 100000 in
set_option maxHeartbeats 4000000 in
theorem l_colO {w X : Nat} {S U A B : Int} {h0 : Hp} (hS0 : Sk h0 w) (hT0 : TT h0 w X) (hSU : inR S ∧ inR U) (hA : 0 ≤ A ∧ A ≤ 1000000) (hB : B ≤ 365) (hAB : B - A ≤ 7) (hBr : inR B) {Q : Option AV → Hp → Prop} : ∀ (m : Nat) (N : Int) (h : Hp), N + m = hi h0 (w + 1) 7 → 0 ≤ N → ch (PC w) (PQ w) h0 h → CoI h0 h w S U A B N A → (∀ h', ch (PC w) (PQ w) h0 h' → CoI h0 h' w S U A B (hi h0 (w + 1) 7) A → Q none h') → wp 91 44 [some (vR (some (w + 6))), some (vR (some (w + 1))), some (vI S), some (vI U), some (vI A), some (vI B), some (vI N), none, none] [] h Q noX := by
  intro m
  have h24 := hT0.2.2.1
  induction m with
  | zero =>
    intro N h e0 e1 E I kq
    have hX := hT0.2.2.2.2.2.2
    have hS := hS0.kept E.fm ((PCoff (X := X)).pr hX.2) (by omega)
    have E8 := E.2.2.2.2.2.2.2.1
    have E9 := E.2.2.2.2.2.2.2.2
    have p1 : ¬ PC w (w + 1) := fun z => by unfold PC at z; omega
    obtain ⟨⟨k1, k2, k3, k4, k5, k6, k7⟩, ⟨n1, ⟨n2, n3, n4, n5⟩, ⟨n6, n7⟩, ⟨n8, n9⟩, ⟨n10, n11⟩, n12, n13⟩, ⟨m1, ⟨m2, m3, m4⟩, ⟨m5, m6⟩, ⟨m7, m8⟩, m9, m10⟩, ⟨o1, ⟨o2, o3, o4⟩, ⟨o5, o6, o7⟩, ⟨o8, o9, o10⟩, o11, o12⟩, ⟨b1, ⟨b2, b3⟩, ⟨b4, b5, b6⟩, b7, b8, b9⟩, ⟨j1, ⟨j2, j3, j4, j5, j6, j7, j8⟩, ⟨j9, j10⟩, j11⟩⟩ := hS
    refine wp_iload d_91_44 (by rfl) ?_
    refine wp_aload_n d_91_46 (by rfl) ?_
    refine wp_getI (7) d_91_47 fl_10_40 rfl rfl (by assumption) (fun x_47 e_47 r_47 => ?_)
    (try rw [E8 _ _ p1] at e_47)
    refine wp_icmp_ge (tgt := 114) d_91_50 (by decide) (by omega) (by omega) (fun c_50 => ?_) (fun c_50 => ?_)
    rotate_left
    · exact absurd c_50 (by omega)
    refine wp_vret d_91_114 rfl ?_
    obtain rfl : N = hi h0 (w + 1) 7 := by omega
    exact kq h E I
  | succ m ih =>
    intro N h e0 e1 E I kq
    have hX := hT0.2.2.2.2.2.2
    have hS := hS0.kept E.fm ((PCoff (X := X)).pr hX.2) (by omega)
    have E8 := E.2.2.2.2.2.2.2.1
    have E9 := E.2.2.2.2.2.2.2.2
    have p1 : ¬ PC w (w + 1) := fun z => by unfold PC at z; omega
    obtain ⟨⟨k1, k2, k3, k4, k5, k6, k7⟩, ⟨n1, ⟨n2, n3, n4, n5⟩, ⟨n6, n7⟩, ⟨n8, n9⟩, ⟨n10, n11⟩, n12, n13⟩, ⟨m1, ⟨m2, m3, m4⟩, ⟨m5, m6⟩, ⟨m7, m8⟩, m9, m10⟩, ⟨o1, ⟨o2, o3, o4⟩, ⟨o5, o6, o7⟩, ⟨o8, o9, o10⟩, o11, o12⟩, ⟨b1, ⟨b2, b3⟩, ⟨b4, b5, b6⟩, b7, b8, b9⟩, ⟨j1, ⟨j2, j3, j4, j5, j6, j7, j8⟩, ⟨j9, j10⟩, j11⟩⟩ := hS
    obtain ⟨a, c, g1, g2, g3, g4, g5, g6, g7, g8, g9⟩ := hT0.2.2.2.2.2.1 N e1 (by omega)
    have f1 : hr h (w + 5) N = some a := (E9 _ _ (fun z => by unfold PQ at z; omega)).trans g1
    refine wp_iload d_91_44 (by rfl) ?_
    refine wp_aload_n d_91_46 (by rfl) ?_
    refine wp_getI (7) d_91_47 fl_10_40 rfl rfl (by assumption) (fun x_47 e_47 r_47 => ?_)
    (try rw [E8 _ _ p1] at e_47)
    refine wp_icmp_ge (tgt := 114) d_91_50 (by decide) (by omega) (by omega) (fun c_50 => ?_) (fun c_50 => ?_)
    · exact absurd c_50 (by omega)
    refine wp_aload_n d_91_53 (by rfl) ?_
    refine wp_getR (3) d_91_54 fl_10_45 rfl rfl (by assumption) (by assumption) ?_
    refine wp_iload d_91_57 (by rfl) ?_
    refine wp_aald d_91_59 (by first | omega | (simp only [kd_setI, kd_cpI]; omega)) (by first | omega | (simp only [kd_setI, kd_cpI]; omega)) (by apply isRf_of; assumption; rfl) (by omega) (by omega) (by assumption) ?_
    refine wp_astore d_91_60 (by decide) ?_
    refine wp_iload d_91_62 (by rfl) ?_
    refine wp_istore d_91_64 (by decide) ?_
    refine wp_to [some (vR (some (w + 6))), some (vR (some (w + 1))), some (vI S), some (vI U), some (vI A), some (vI B), some (vI N), some (vR (some a)), some (vI A)] ⟨rfl, rfl, rfl, rfl, rfl, rfl, rfl, rfl, rfl, trivial⟩ ?_
    refine l_colI hS0 hT0 hSU hA hB hAB hBr ⟨e1, by omega⟩ g1 g4 ⟨g2, g3⟩ g6 g9 ⟨g7, g8⟩ (B + 1 - A).toNat A h (by omega) (by omega) (Or.inr rfl) E I (fun h' E' I' => ?_)
    refine wp_iinc d_91_108 (by rfl) (by decide) ?_
    refine wp_goto (tgt := 44) d_91_111 (by decide) ?_
    refine wp_to [some (vR (some (w + 6))), some (vR (some (w + 1))), some (vI S), some (vI U), some (vI A), some (vI B), some (vI (N + 1)), none, none] ⟨rfl, rfl, rfl, rfl, rfl, rfl, rfl, trivial⟩ ?_
    exact ih (N + 1) h' (by omega) (by omega) E' I' kq
set_option maxRecDepth 100000 in
set_option maxHeartbeats 4000000 in
theorem s_collect {w X : Nat} {S U : Int} {h0 : Hp} (hS0 : Sk h0 w) (hT0 : TT h0 w X) (hSr : -10000 ≤ S ∧ S ≤ U) (hUr : U ≤ 1000000) (hSU : U - S ≤ 5760) : wp 91 0 (entL [vR (some (w + 6)), vR (some (w + 1)), vI S, vI U] (mL 91)) [] h0 (fun v h' => v = none ∧ ch (PC w) (PQ w) h0 h' ∧ RunsOk h' w ∧ ∀ t d a, 0 ≤ t → t < hi h0 (w + 1) 7 → Cd h0 w S U t d a → Rc h' w (rnB h0 a (baseOf h0 a d))) noX := by
  have hS := hS0
  obtain ⟨⟨k1, k2, k3, k4, k5, k6, k7⟩, ⟨n1, ⟨n2, n3, n4, n5⟩, ⟨n6, n7⟩, ⟨n8, n9⟩, ⟨n10, n11⟩, n12, n13⟩, ⟨m1, ⟨m2, m3, m4⟩, ⟨m5, m6⟩, ⟨m7, m8⟩, m9, m10⟩, ⟨o1, ⟨o2, o3, o4⟩, ⟨o5, o6, o7⟩, ⟨o8, o9, o10⟩, o11, o12⟩, ⟨b1, ⟨b2, b3⟩, ⟨b4, b5, b6⟩, b7, b8, b9⟩, ⟨j1, ⟨j2, j3, j4, j5, j6, j7, j8⟩, ⟨j9, j10⟩, j11⟩⟩ := hS
  have hX := hT0.2.2.2.2.2.2
  have hS1 : Sk (setI h0 (w + 6) 3 0) w := hS0.kept (ch_setI (P := PC w) (R := PQ w) (Or.inl rfl)).fm ((PCoff (X := X)).pr hX.2) (by omega)
  have hT1 : TT (setI h0 (w + 6) 3 0) w X := hT0.kept (ch_setI (P := PC w) (R := PQ w) (Or.inl rfl)).fm PCoff
  refine wp_aload_n d_91_0 (by rfl) ?_
  refine wp_iconst d_91_1 ?_
  refine wp_putI (3) d_91_2 fl_10_24 rfl rfl (Or.inl (by rfl)) (by assumption) (by omega) (fun q => nomatch q) ?_
  refine wp_iconst d_91_5 ?_
  refine wp_iload_n d_91_6 (by rfl) ?_
  refine wp_sipush d_91_7 (by decide) ?_
  refine wp_isub d_91_10 ?_
  refine wp_sipush d_91_11 (by decide) ?_
  refine wp_isub d_91_14 ?_
  refine wp_sipush d_91_15 (by decide) ?_
  refine wp_callS d_91_18 c_91_28 rfl (by rfl) (by rfl) (by exact Nat.le_of_ble_eq_true rfl) (by exact Nat.le_of_ble_eq_true rfl) (s_floorDiv (by omega) (by omega) (by omega)) (fun v_18 h_18 q_18 => ?_) (fun _ _ q => q.elim)
  obtain ⟨rfl, z_18⟩ := q_18
  replace z_18 := z_18.symm
  subst z_18
  refine wp_callS d_91_21 c_91_34 rfl (by rfl) (by rfl) (by exact Nat.le_of_ble_eq_true rfl) (by exact Nat.le_of_ble_eq_true rfl) (s_max (by omega) (by omega)) (fun v_21 h_21 q_21 => ?_) (fun _ _ q => q.elim)
  obtain ⟨rfl, z_21⟩ := q_21
  replace z_21 := z_21.symm
  subst z_21
  refine wp_istore d_91_24 (by decide) ?_
  refine wp_sipush d_91_26 (by decide) ?_
  refine wp_iload_n d_91_29 (by rfl) ?_
  refine wp_sipush d_91_30 (by decide) ?_
  refine wp_callS d_91_33 c_91_28 rfl (by rfl) (by rfl) (by exact Nat.le_of_ble_eq_true rfl) (by exact Nat.le_of_ble_eq_true rfl) (s_floorDiv (by omega) (by omega) (by omega)) (fun v_33 h_33 q_33 => ?_) (fun _ _ q => q.elim)
  obtain ⟨rfl, z_33⟩ := q_33
  replace z_33 := z_33.symm
  subst z_33
  refine wp_callS d_91_36 c_91_37 rfl (by rfl) (by rfl) (by exact Nat.le_of_ble_eq_true rfl) (by exact Nat.le_of_ble_eq_true rfl) (s_min (by omega) (by omega)) (fun v_36 h_36 q_36 => ?_) (fun _ _ q => q.elim)
  obtain ⟨rfl, z_36⟩ := q_36
  replace z_36 := z_36.symm
  subst z_36
  refine wp_istore d_91_39 (by decide) ?_
  refine wp_iconst d_91_41 ?_
  refine wp_istore d_91_42 (by decide) ?_
  refine wp_to [some (vR (some (w + 6))), some (vR (some (w + 1))), some (vI S), some (vI U), some (vI (max 0 ((S - 2879 - 180) / 1440))), some (vI (min 365 (U / 1440))), some (vI 0), none, none] ⟨rfl, rfl, rfl, rfl, rfl, rfl, rfl, trivial⟩ ?_
  have e1 : hi (setI h0 (w + 6) 3 0) (w + 1) = hi h0 (w + 1) := hi_setI_ne (by omega)
  have t3 := hT1.2.2.1
  have t30 := hT0.2.2.1
  refine l_colO hS1 hT1 ⟨⟨by omega, by omega⟩, ⟨by omega, by omega⟩⟩ ⟨by omega, by omega⟩ (by omega) (by omega) ⟨by omega, by omega⟩ (hi (setI h0 (w + 6) 3 0) (w + 1) 7).toNat 0 _ (by omega) (by omega) ch.rfl ⟨⟨by rw [hi_upF, upF_same]; omega, by rw [hi_upF, upF_same]; omega⟩, fun k k0 k1 => by rw [hi_upF, upF_same] at k1; omega, fun t d a z1 z2 z3 => by omega⟩ (fun h' E I => ?_)
  have E0 : ch (PC w) (PQ w) h0 h' := (ch_setI (Or.inl rfl)).trans E
  obtain ⟨I1, I2, I3⟩ := I
  have kk : ∀ {t d : Int} {a : Nat}, 0 ≤ t → t < hi h0 (w + 1) 7 → hr h0 (w + 5) t = some a → (hasRn (setI h0 (w + 6) 3 0) a d ↔ hasRn h0 a d) ∧ rnB (setI h0 (w + 6) 3 0) a = rnB h0 a ∧ baseOf (setI h0 (w + 6) 3 0) a = baseOf h0 a := fun z0 z1 z2 => hasRn.kept hT0 (ch_setI (P := PC w) (R := PQ w) (Or.inl rfl)).fm PCoff z0 z1 z2
  rw [e1] at I1 I2 I3
  have cdE : ∀ t d a, 0 ≤ t → t < hi h0 (w + 1) 7 → (Cd (setI h0 (w + 6) 3 0) w S U t d a ↔ Cd h0 w S U t d a) := fun t d a z0 z1 => by
    have hne : ∀ {y : Nat}, hr h0 (w + 5) t = some y → w + 154 ≤ y := fun q => by
      obtain ⟨a', c, g1, g2, -⟩ := hT0.2.2.2.2.2.1 t z0 z1
      cases q.symm.trans g1
      exact g2
    unfold Cd
    constructor
    · rintro ⟨y1, y2, y3, y4, y5⟩
      have k9 := kk (d := d) z0 z1 y1
      have h9 := hne y1
      rw [k9.2.2, hi_setI_ne (by omega)] at y4
      rw [k9.2.2, hi_setI_ne (by omega), hi_setI_ne (by omega)] at y5
      rw [hi_setI_ne (by omega)] at y3
      exact ⟨y1, k9.1.mp y2, y3, y4, y5⟩
    · rintro ⟨y1, y2, y3, y4, y5⟩
      have k9 := kk (d := d) z0 z1 y1
      have h9 := hne y1
      refine ⟨y1, k9.1.mpr y2, ?_, ?_, ?_⟩
      · rw [hi_setI_ne (by omega)]; exact y3
      · rw [k9.2.2, hi_setI_ne (by omega)]; exact y4
      · rw [k9.2.2, hi_setI_ne (by omega), hi_setI_ne (by omega)]; exact y5
  have q1 : hi h' (w + 1) = hi h0 (w + 1) := funext fun z => E0.2.2.2.2.2.2.2.1 _ z (fun y => by unfold PC at y; omega)
  have q5 : hr h' (w + 5) = hr h0 (w + 5) := funext fun z => E0.2.2.2.2.2.2.2.2 _ z (fun y => by unfold PQ at y; omega)
  refine ⟨rfl, E0, ⟨⟨I1.1, by omega⟩, fun k k0 k1 => ?_⟩, fun t d a z0 z1 z2 => ?_⟩
  · obtain ⟨t, a, y1, y2, y3, y4, y5⟩ := I2 k k0 k1
    have y6 := (cdE _ _ _ y1 y2).mp y3
    have k9 := hasRn.kept hT0 E0.fm PCoff (d := hi h' (w + 8) k) y1 y2 y6.1
    refine ⟨t, a, y1, by rw [q1]; exact y2, by rw [q5]; exact y6.1, y4, k9.1.mpr y6.2.1, ?_⟩
    rw [k9.2.2, y5]
    exact congrFun (kk (d := 0) y1 y2 y6.1).2.2 _
  · obtain ⟨a', c, g1, g2, g3, g4, -⟩ := hT0.2.2.2.2.2.1 t z0 z1
    have y9 := z2
    obtain ⟨y1, ⟨y2, y3, -⟩, y4, y5, y6⟩ := z2
    cases y1.symm.trans g1
    have g7 := g4.2.2.2.2.2.2.1 d y2.1 y2.2
    have b0 := g4.2.2.2.2.1 0 (by decide) (by omega)
    have bl := g4.2.2.2.2.1 (hi h0 a 7 - 1) (by omega) (by omega)
    unfold baseOf at y5 y6
    obtain ⟨k, k0, k1, k2, k3⟩ := I3 t d a z0 z1 (Or.inl z1) (by omega) (by omega) ((cdE _ _ _ z0 z1).mpr y9)
    refine ⟨k, a, k0, k1, k2, ?_⟩
    rw [k3, (hasRn.kept hT0 E0.fm PCoff (d := d) z0 z1 y1).2.1]
    exact (congrArg (rnB h0 a) (congrFun (kk (d := d) z0 z1 y1).2.2 d)).symm
