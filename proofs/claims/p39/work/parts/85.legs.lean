/-! ===== a step of the law: the legs ===== -/
theorem LegOk.num {h : Hp} {w X : Nat} {k : Int} {a : Nat} (hT : TT h w X) (q : LegOk h w k) (ha : hr h (w + 147) k = some a) : 0 ≤ hi h a 0 ∧ hi h a 0 ≤ 24 := by
  rcases q with ⟨t, a1, z1, z2, z3, -⟩ | ⟨z1, -⟩
  · cases z1.symm.trans ha
    obtain ⟨a', c, y1, -, -, -, y5, -⟩ := hT.2.2.2.2.2.1 t z2.1 z2.2
    cases z3.symm.trans y1
    have := hT.2.2.1.2
    omega
  · rw [ha] at z1; cases z1
set_option maxRecDepth 100000 in
set_option maxHeartbeats 4000000 in
theorem l_leg1 {h : Hp} {G sa X : Nat} {tm st o d T V e6 : Int} {K n : Nat} {Q : Option AV → Hp → Prop} (hS : Sk h (G + 1)) (hTT : TT h (G + 1) X) (kp : Kp h (G + 1) o d T e6 K n) {k : Nat} (hk : k < n) (kk : ∀ f : Int, (f = 0 ∧ hr h (G + 1 + 147) (k : Int) = none) ∨ (f = 1 ∧ hr h (G + 1 + 147) (k : Int) ≠ none) → wp 108 596 [some (vR (some sa)), some (vI tm), some (vR (some G)), some (vR (some (G + 1))), some (vI st), some (vI o), some (vI d), some (vI T), some (vI (n : Int)), some (vL V), none, none, some (vI e6), none, none, none, none, none, none, some (vI (tmJ h (G + 1) (k : Int))), some (vI (rcN h (G + 1) k)), some (vI ((k : Int))), some (vI (f))] [] h Q noX) : wp 108 580 [some (vR (some sa)), some (vI tm), some (vR (some G)), some (vR (some (G + 1))), some (vI st), some (vI o), some (vI d), some (vI T), some (vI (n : Int)), some (vL V), none, none, some (vI e6), none, none, none, none, none, none, some (vI (tmJ h (G + 1) (k : Int))), some (vI (rcN h (G + 1) k)), some (vI ((k : Int))), none] [] h Q noX := by
  have kS : kd h (G + 1) = 1 := hS.1.1
  obtain ⟨kp1, kp2, kp3, kp4, kp5, kp6, -, kp8, kp9, kp10, -, kp12⟩ := kp
  have lg := kp4 (k : Int) (by omega) (by omega)
  have ls := LegOk.step hTT (by omega) lg
  refine wp_aload_n d_108_580 (by rfl) ?_
  refine wp_iload d_108_581 (by rfl) ?_
  refine wp_callV d_108_583 c_108_70 rfl (by rfl) (by rfl) ⟨0, rfl, rfl, by decide⟩ (by assumption) (by exact Nat.le_of_ble_eq_true rfl) (by exact Nat.le_of_ble_eq_true rfl) (s_legTrip hS kp1 (by omega) (by omega) (fun a ha => (LegOk.kind hTT lg ha).1)) (fun v_583 h_583 q_583 => ?_) (fun _ _ q => q.elim)
  obtain ⟨z_583, rfl, y_583, u_583⟩ := q_583
  replace y_583 := y_583.symm
  subst y_583
  have fi_ : -1 ≤ z_583 ∧ z_583 ≤ 24 := by
    rcases u_583 with ⟨y1, y2⟩ | ⟨a, y1, y2⟩
    · omega
    · have := LegOk.num hTT lg y1
      omega
  have fz : (z_583 = -1 ∧ hr h (G + 1 + 147) (k : Int) = none) ∨ (0 ≤ z_583 ∧ hr h (G + 1 + 147) (k : Int) ≠ none) := by
    rcases u_583 with ⟨y1, y2⟩ | ⟨a, y1, y2⟩
    · exact Or.inl ⟨y2, y1⟩
    · refine Or.inr ⟨?_, by rw [y1]; exact fun z => nomatch z⟩
      have := (LegOk.kind hTT lg y1).2
      omega
  clear u_583
  refine wp_if_lt (tgt := 593) d_108_586 (by decide) (by omega) (fun c_586 => ?_) (fun c_586 => ?_)
  · refine wp_iconst d_108_593 ?_
    refine wp_istore d_108_594 (by decide) ?_
    first
      | exact wp_to [some (vR (some sa)), some (vI tm), some (vR (some G)), some (vR (some (G + 1))), some (vI st), some (vI o), some (vI d), some (vI T), some (vI (n : Int)), some (vL V), none, none, some (vI e6), none, none, none, none, none, none, some (vI (tmJ h (G + 1) (k : Int))), some (vI (rcN h (G + 1) k)), some (vI ((k : Int))), some (vI (0))] ⟨rfl, rfl, rfl, rfl, rfl, rfl, rfl, rfl, rfl, rfl, rfl, rfl, rfl, rfl, rfl, trivial⟩ (kk 0 (Or.inl ⟨rfl, by
          rcases fz with y | y
          · exact y.2
          · omega⟩))
      | exact wp_to [some (vR (some sa)), some (vI tm), some (vR (some G)), some (vR (some (G + 1))), some (vI st), some (vI o), some (vI d), some (vI T), some (vI (n : Int)), some (vL V), none, none, some (vI e6), none, none, none, none, none, none, some (vI (tmJ h (G + 1) (k : Int))), some (vI (rcN h (G + 1) k)), some (vI ((k : Int))), some (vI (1))] ⟨rfl, rfl, rfl, rfl, rfl, rfl, rfl, rfl, rfl, rfl, rfl, rfl, rfl, rfl, rfl, trivial⟩ (kk 1 (Or.inr ⟨rfl, by
          rcases fz with y | y
          · omega
          · exact y.2⟩))
  · refine wp_iconst d_108_589 ?_
    refine wp_goto (tgt := 594) d_108_590 (by decide) ?_
    refine wp_istore d_108_594 (by decide) ?_
    first
      | exact wp_to [some (vR (some sa)), some (vI tm), some (vR (some G)), some (vR (some (G + 1))), some (vI st), some (vI o), some (vI d), some (vI T), some (vI (n : Int)), some (vL V), none, none, some (vI e6), none, none, none, none, none, none, some (vI (tmJ h (G + 1) (k : Int))), some (vI (rcN h (G + 1) k)), some (vI ((k : Int))), some (vI (0))] ⟨rfl, rfl, rfl, rfl, rfl, rfl, rfl, rfl, rfl, rfl, rfl, rfl, rfl, rfl, rfl, trivial⟩ (kk 0 (Or.inl ⟨rfl, by
          rcases fz with y | y
          · exact y.2
          · omega⟩))
      | exact wp_to [some (vR (some sa)), some (vI tm), some (vR (some G)), some (vR (some (G + 1))), some (vI st), some (vI o), some (vI d), some (vI T), some (vI (n : Int)), some (vL V), none, none, some (vI e6), none, none, none, none, none, none, some (vI (tmJ h (G + 1) (k : Int))), some (vI (rcN h (G + 1) k)), some (vI ((k : Int))), some (vI (1))] ⟨rfl, rfl, rfl, rfl, rfl, rfl, rfl, rfl, rfl, rfl, rfl, rfl, rfl, rfl, rfl, trivial⟩ (kk 1 (Or.inr ⟨rfl, by
          rcases fz with y | y
          · omega
          · exact y.2⟩))
set_option maxRecDepth 100000 in
set_option maxHeartbeats 4000000 in
theorem l_leg2 {h : Hp} {G sa X : Nat} {tm st o d T V e6 : Int} {K n : Nat} {Q : Option AV → Hp → Prop} (hS : Sk h (G + 1)) (hTT : TT h (G + 1) X) (kp : Kp h (G + 1) o d T e6 K n) {k : Nat} {f : Int} (hk : k < n) (hf : (f = 0 ∧ hr h (G + 1 + 147) (k : Int) = none) ∨ (f = 1 ∧ hr h (G + 1 + 147) (k : Int) ≠ none)) (kk : wp 108 661 [some (vR (some sa)), some (vI tm), some (vR (some G)), some (vR (some (G + 1))), some (vI st), some (vI o), some (vI d), some (vI T), some (vI (n : Int)), some (vL V), none, none, some (vI e6), none, none, none, none, none, none, some (vI (tmJ h (G + 1) (k : Int))), some (vI (rcN h (G + 1) k)), some (vI ((k : Int))), some (vI (f))] [] h Q noX) : wp 108 596 [some (vR (some sa)), some (vI tm), some (vR (some G)), some (vR (some (G + 1))), some (vI st), some (vI o), some (vI d), some (vI T), some (vI (n : Int)), some (vL V), none, none, some (vI e6), none, none, none, none, none, none, some (vI (tmJ h (G + 1) (k : Int))), some (vI (rcN h (G + 1) k)), some (vI ((k : Int))), some (vI (f))] [] h Q noX := by
  have kpq := kp
  have kS : kd h (G + 1) = 1 := hS.1.1
  obtain ⟨kp1, kp2, kp3, kp4, kp5, kp6, -, kp8, kp9, kp10, -, kp12⟩ := kp
  have lg := kp4 (k : Int) (by omega) (by omega)
  have ls := LegOk.step hTT (by omega) lg
  have b1 := (hS.1.1)
  have ff : f = 0 ∨ f = 1 := by rcases hf with y | y <;> omega
  have l0 : f = 0 → hi h (G + 1 + 152) (k : Int) = tmJ h (G + 1) (k : Int) := fun z => by
    rcases hf with y | y
    · exact ls.2.2 y.2
    · omega
  have lp : f = 0 → 0 < (k : Int) → hr h (G + 1 + 147) ((k : Int) - 1) ≠ none := fun z z0 => by
    rcases hf with y | y
    · rcases lg with ⟨t, a, x1, -⟩ | ⟨-, -, -, x4⟩
      · rw [y.2] at x1; cases x1
      · exact x4 z0
    · omega
  have tb := Kp.tm hTT kpq (k := (k : Int)) (by omega) (by omega)
  have tb2 := Kp.tm hTT kpq (k := (k : Int) + 1) (by omega) (by omega)
  have te : tmJ h (G + 1) ((k : Int) + 1) = hi h (G + 1 + 153) (k : Int) := by
    unfold tmJ
    rw [if_neg (by omega), show (k : Int) + 1 - 1 = k by omega]
  have ls1 := ls.1
  have ls2 := ls.2.1
  clear hf lg ls
  refine wp_aload_n d_108_596 (by rfl) ?_
  refine wp_iload d_108_597 (by rfl) ?_
  refine wp_callV d_108_599 c_108_73 rfl (by rfl) (by rfl) ⟨0, rfl, rfl, by decide⟩ (by assumption) (by exact Nat.le_of_ble_eq_true rfl) (by exact Nat.le_of_ble_eq_true rfl) (s_legBegin hS kp1 (by omega) (by omega)) (fun v_599 h_599 q_599 => ?_) (fun _ _ q => q.elim)
  obtain ⟨rfl, z_599⟩ := q_599
  replace z_599 := z_599.symm
  subst z_599
  refine wp_iload d_108_602 (by rfl) ?_
  refine wp_icmp_lt (tgt := 659) d_108_604 (by decide) (by omega) (by omega) (fun c_604 => ?_) (fun c_604 => ?_)
  · exact absurd c_604 (by omega)
  refine wp_iload d_108_607 (by rfl) ?_
  refine wp_if_ne (tgt := 623) d_108_609 (by decide) (by omega) (fun c_609 => ?_) (fun c_609 => ?_)
  · refine wp_aload_n d_108_623 (by rfl) ?_
    refine wp_iload d_108_624 (by rfl) ?_
    refine wp_callV d_108_626 c_108_76 rfl (by rfl) (by rfl) ⟨0, rfl, rfl, by decide⟩ (by assumption) (by exact Nat.le_of_ble_eq_true rfl) (by exact Nat.le_of_ble_eq_true rfl) (s_legEnd hS kp1 (by omega) (by omega)) (fun v_626 h_626 q_626 => ?_) (fun _ _ q => q.elim)
    obtain ⟨rfl, z_626⟩ := q_626
    replace z_626 := z_626.symm
    subst z_626
    refine wp_aload_n d_108_629 (by rfl) ?_
    refine wp_iload d_108_630 (by rfl) ?_
    refine wp_callV d_108_632 c_108_73 rfl (by rfl) (by rfl) ⟨0, rfl, rfl, by decide⟩ (by assumption) (by exact Nat.le_of_ble_eq_true rfl) (by exact Nat.le_of_ble_eq_true rfl) (s_legBegin hS kp1 (by omega) (by omega)) (fun v_632 h_632 q_632 => ?_) (fun _ _ q => q.elim)
    obtain ⟨rfl, z_632⟩ := q_632
    replace z_632 := z_632.symm
    subst z_632
    refine wp_icmp_lt (tgt := 659) d_108_635 (by decide) (by omega) (by omega) (fun c_635 => ?_) (fun c_635 => ?_)
    · exact absurd c_635 (by omega)
    refine wp_iload d_108_638 (by rfl) ?_
    refine wp_if_le (tgt := 661) d_108_640 (by decide) (by omega) (fun c_640 => ?_) (fun c_640 => ?_)
    · refine wp_to [some (vR (some sa)), some (vI tm), some (vR (some G)), some (vR (some (G + 1))), some (vI st), some (vI o), some (vI d), some (vI T), some (vI (n : Int)), some (vL V), none, none, some (vI e6), none, none, none, none, none, none, some (vI (tmJ h (G + 1) (k : Int))), some (vI (rcN h (G + 1) k)), some (vI ((k : Int))), some (vI (f))] ⟨rfl, rfl, rfl, rfl, rfl, rfl, rfl, rfl, rfl, rfl, rfl, rfl, rfl, rfl, rfl, trivial⟩ ?_
      exact kk
    · refine wp_iload d_108_643 (by rfl) ?_
      refine wp_if_ne (tgt := 661) d_108_645 (by decide) (by omega) (fun c_645 => ?_) (fun c_645 => ?_)
      · refine wp_to [some (vR (some sa)), some (vI tm), some (vR (some G)), some (vR (some (G + 1))), some (vI st), some (vI o), some (vI d), some (vI T), some (vI (n : Int)), some (vL V), none, none, some (vI e6), none, none, none, none, none, none, some (vI (tmJ h (G + 1) (k : Int))), some (vI (rcN h (G + 1) k)), some (vI ((k : Int))), some (vI (f))] ⟨rfl, rfl, rfl, rfl, rfl, rfl, rfl, rfl, rfl, rfl, rfl, rfl, rfl, rfl, rfl, trivial⟩ ?_
        exact kk
      · refine wp_aload_n d_108_648 (by rfl) ?_
        refine wp_iload d_108_649 (by rfl) ?_
        refine wp_iconst d_108_651 ?_
        refine wp_isub d_108_652 ?_
        refine wp_callV d_108_653 c_108_70 rfl (by rfl) (by rfl) ⟨0, rfl, rfl, by decide⟩ (by assumption) (by exact Nat.le_of_ble_eq_true rfl) (by exact Nat.le_of_ble_eq_true rfl) (s_legTrip hS kp1 (by omega) (by omega) (fun a ha => (LegOk.kind hTT (kp4 _ (by omega) (by omega)) ha).1)) (fun v_653 h_653 q_653 => ?_) (fun _ _ q => q.elim)
        obtain ⟨z_653, rfl, y_653, u_653⟩ := q_653
        replace y_653 := y_653.symm
        subst y_653
        have fz : 0 ≤ z_653 ∧ z_653 ≤ 24 := by
          rcases u_653 with ⟨y1, y2⟩ | ⟨a, y1, y2⟩
          · exact absurd y1 (lp (by omega) (by omega))
          · have := LegOk.num hTT (kp4 ((k : Int) - 1) (by omega) (by omega)) y1
            omega
        clear u_653
        refine wp_if_ge (tgt := 661) d_108_656 (by decide) (by omega) (fun c_656 => ?_) (fun c_656 => ?_)
        rotate_left
        · exact absurd c_656 (by omega)
        refine wp_to [some (vR (some sa)), some (vI tm), some (vR (some G)), some (vR (some (G + 1))), some (vI st), some (vI o), some (vI d), some (vI T), some (vI (n : Int)), some (vL V), none, none, some (vI e6), none, none, none, none, none, none, some (vI (tmJ h (G + 1) (k : Int))), some (vI (rcN h (G + 1) k)), some (vI ((k : Int))), some (vI (f))] ⟨rfl, rfl, rfl, rfl, rfl, rfl, rfl, rfl, rfl, rfl, rfl, rfl, rfl, rfl, rfl, trivial⟩ ?_
        exact kk
  · refine wp_aload_n d_108_612 (by rfl) ?_
    refine wp_iload d_108_613 (by rfl) ?_
    refine wp_callV d_108_615 c_108_73 rfl (by rfl) (by rfl) ⟨0, rfl, rfl, by decide⟩ (by assumption) (by exact Nat.le_of_ble_eq_true rfl) (by exact Nat.le_of_ble_eq_true rfl) (s_legBegin hS kp1 (by omega) (by omega)) (fun v_615 h_615 q_615 => ?_) (fun _ _ q => q.elim)
    obtain ⟨rfl, z_615⟩ := q_615
    replace z_615 := z_615.symm
    subst z_615
    refine wp_iload d_108_618 (by rfl) ?_
    refine wp_icmp_ne (tgt := 659) d_108_620 (by decide) (by omega) (by omega) (fun c_620 => ?_) (fun c_620 => ?_)
    · exact absurd c_620 (by omega)
    refine wp_aload_n d_108_623 (by rfl) ?_
    refine wp_iload d_108_624 (by rfl) ?_
    refine wp_callV d_108_626 c_108_76 rfl (by rfl) (by rfl) ⟨0, rfl, rfl, by decide⟩ (by assumption) (by exact Nat.le_of_ble_eq_true rfl) (by exact Nat.le_of_ble_eq_true rfl) (s_legEnd hS kp1 (by omega) (by omega)) (fun v_626 h_626 q_626 => ?_) (fun _ _ q => q.elim)
    obtain ⟨rfl, z_626⟩ := q_626
    replace z_626 := z_626.symm
    subst z_626
    refine wp_aload_n d_108_629 (by rfl) ?_
    refine wp_iload d_108_630 (by rfl) ?_
    refine wp_callV d_108_632 c_108_73 rfl (by rfl) (by rfl) ⟨0, rfl, rfl, by decide⟩ (by assumption) (by exact Nat.le_of_ble_eq_true rfl) (by exact Nat.le_of_ble_eq_true rfl) (s_legBegin hS kp1 (by omega) (by omega)) (fun v_632 h_632 q_632 => ?_) (fun _ _ q => q.elim)
    obtain ⟨rfl, z_632⟩ := q_632
    replace z_632 := z_632.symm
    subst z_632
    refine wp_icmp_lt (tgt := 659) d_108_635 (by decide) (by omega) (by omega) (fun c_635 => ?_) (fun c_635 => ?_)
    · exact absurd c_635 (by omega)
    refine wp_iload d_108_638 (by rfl) ?_
    refine wp_if_le (tgt := 661) d_108_640 (by decide) (by omega) (fun c_640 => ?_) (fun c_640 => ?_)
    · refine wp_to [some (vR (some sa)), some (vI tm), some (vR (some G)), some (vR (some (G + 1))), some (vI st), some (vI o), some (vI d), some (vI T), some (vI (n : Int)), some (vL V), none, none, some (vI e6), none, none, none, none, none, none, some (vI (tmJ h (G + 1) (k : Int))), some (vI (rcN h (G + 1) k)), some (vI ((k : Int))), some (vI (f))] ⟨rfl, rfl, rfl, rfl, rfl, rfl, rfl, rfl, rfl, rfl, rfl, rfl, rfl, rfl, rfl, trivial⟩ ?_
      exact kk
    · refine wp_iload d_108_643 (by rfl) ?_
      refine wp_if_ne (tgt := 661) d_108_645 (by decide) (by omega) (fun c_645 => ?_) (fun c_645 => ?_)
      · refine wp_to [some (vR (some sa)), some (vI tm), some (vR (some G)), some (vR (some (G + 1))), some (vI st), some (vI o), some (vI d), some (vI T), some (vI (n : Int)), some (vL V), none, none, some (vI e6), none, none, none, none, none, none, some (vI (tmJ h (G + 1) (k : Int))), some (vI (rcN h (G + 1) k)), some (vI ((k : Int))), some (vI (f))] ⟨rfl, rfl, rfl, rfl, rfl, rfl, rfl, rfl, rfl, rfl, rfl, rfl, rfl, rfl, rfl, trivial⟩ ?_
        exact kk
      · refine wp_aload_n d_108_648 (by rfl) ?_
        refine wp_iload d_108_649 (by rfl) ?_
        refine wp_iconst d_108_651 ?_
        refine wp_isub d_108_652 ?_
        refine wp_callV d_108_653 c_108_70 rfl (by rfl) (by rfl) ⟨0, rfl, rfl, by decide⟩ (by assumption) (by exact Nat.le_of_ble_eq_true rfl) (by exact Nat.le_of_ble_eq_true rfl) (s_legTrip hS kp1 (by omega) (by omega) (fun a ha => (LegOk.kind hTT (kp4 _ (by omega) (by omega)) ha).1)) (fun v_653 h_653 q_653 => ?_) (fun _ _ q => q.elim)
        obtain ⟨z_653, rfl, y_653, u_653⟩ := q_653
        replace y_653 := y_653.symm
        subst y_653
        have fz : 0 ≤ z_653 ∧ z_653 ≤ 24 := by
          rcases u_653 with ⟨y1, y2⟩ | ⟨a, y1, y2⟩
          · exact absurd y1 (lp (by omega) (by omega))
          · have := LegOk.num hTT (kp4 ((k : Int) - 1) (by omega) (by omega)) y1
            omega
        clear u_653
        refine wp_if_ge (tgt := 661) d_108_656 (by decide) (by omega) (fun c_656 => ?_) (fun c_656 => ?_)
        rotate_left
        · exact absurd c_656 (by omega)
        refine wp_to [some (vR (some sa)), some (vI tm), some (vR (some G)), some (vR (some (G + 1))), some (vI st), some (vI o), some (vI d), some (vI T), some (vI (n : Int)), some (vL V), none, none, some (vI e6), none, none, none, none, none, none, some (vI (tmJ h (G + 1) (k : Int))), some (vI (rcN h (G + 1) k)), some (vI ((k : Int))), some (vI (f))] ⟨rfl, rfl, rfl, rfl, rfl, rfl, rfl, rfl, rfl, rfl, rfl, rfl, rfl, rfl, rfl, trivial⟩ ?_
        exact kk
set_option maxRecDepth 100000 in
set_option maxHeartbeats 4000000 in
theorem l_leg3 {h : Hp} {G sa X : Nat} {tm st o d T V e6 : Int} {K n : Nat} {Q : Option AV → Hp → Prop} (hS : Sk h (G + 1)) (hTT : TT h (G + 1) X) (kp : Kp h (G + 1) o d T e6 K n) {k : Nat} {f : Int} (hk : k < n) (hf : (f = 0 ∧ hr h (G + 1 + 147) (k : Int) = none) ∨ (f = 1 ∧ hr h (G + 1 + 147) (k : Int) ≠ none)) (kk : wp 108 573 [some (vR (some sa)), some (vI tm), some (vR (some G)), some (vR (some (G + 1))), some (vI st), some (vI o), some (vI d), some (vI T), some (vI (n : Int)), some (vL V), none, none, some (vI e6), none, none, none, none, none, none, some (vI (tmJ h (G + 1) ((k + 1 : Nat) : Int))), some (vI (rcN h (G + 1) (k + 1))), some (vI (((k + 1 : Nat) : Int))), none] [] h Q noX) : wp 108 661 [some (vR (some sa)), some (vI tm), some (vR (some G)), some (vR (some (G + 1))), some (vI st), some (vI o), some (vI d), some (vI T), some (vI (n : Int)), some (vL V), none, none, some (vI e6), none, none, none, none, none, none, some (vI (tmJ h (G + 1) (k : Int))), some (vI (rcN h (G + 1) k)), some (vI ((k : Int))), some (vI (f))] [] h Q noX := by
  have kS : kd h (G + 1) = 1 := hS.1.1
  obtain ⟨kp1, kp2, kp3, kp4, kp5, kp6, -, kp8, kp9, kp10, -, kp12⟩ := kp
  have lg := kp4 (k : Int) (by omega) (by omega)
  have ls := LegOk.step hTT (by omega) lg
  have ff : f = 0 ∨ f = 1 := by rcases hf with y | y <;> omega
  have rs : rcN h (G + 1) (k + 1) = rcN h (G + 1) k + f := by
    show rcN h (G + 1) k + (if hr h (G + 1 + 147) (k : Int) = none then 0 else 1) = _
    rcases hf with y | y
    · rw [if_pos y.2, y.1]
    · rw [if_neg y.2, y.1]
  have te : tmJ h (G + 1) ((k + 1 : Nat) : Int) = hi h (G + 1 + 153) (k : Int) := by
    unfold tmJ
    rw [if_neg (by omega), show ((k + 1 : Nat) : Int) - 1 = k by omega]
  clear hf lg ls
  refine wp_iload d_108_661 (by rfl) ?_
  refine wp_iload d_108_663 (by rfl) ?_
  refine wp_if_eq (tgt := 672) d_108_665 (by decide) (by omega) (fun c_665 => ?_) (fun c_665 => ?_)
  · refine wp_iconst d_108_672 ?_
    refine wp_iadd d_108_673 ?_
    refine wp_istore d_108_674 (by decide) ?_
    refine wp_aload_n d_108_676 (by rfl) ?_
    refine wp_iload d_108_677 (by rfl) ?_
    refine wp_callV d_108_679 c_108_76 rfl (by rfl) (by rfl) ⟨0, rfl, rfl, by decide⟩ (by assumption) (by exact Nat.le_of_ble_eq_true rfl) (by exact Nat.le_of_ble_eq_true rfl) (s_legEnd hS kp1 (by omega) (by omega)) (fun v_679 h_679 q_679 => ?_) (fun _ _ q => q.elim)
    obtain ⟨rfl, z_679⟩ := q_679
    replace z_679 := z_679.symm
    subst z_679
    refine wp_istore d_108_682 (by decide) ?_
    refine wp_iinc d_108_684 (by rfl) (by decide) ?_
    refine wp_goto (tgt := 573) d_108_687 (by decide) ?_
    rw [te, rs] at kk
    first
      | exact wp_to [some (vR (some sa)), some (vI tm), some (vR (some G)), some (vR (some (G + 1))), some (vI st), some (vI o), some (vI d), some (vI T), some (vI (n : Int)), some (vL V), none, none, some (vI e6), none, none, none, none, none, none, some (vI (hi h (G + 1 + 153) (k : Int))), some (vI (rcN h (G + 1) k + f)), some (vI (((k + 1 : Nat) : Int))), none] ⟨rfl, rfl, rfl, rfl, rfl, rfl, rfl, rfl, rfl, rfl, rfl, rfl, congrArg (fun z => some (vI z)) (by omega), rfl, trivial⟩ kk
      | exact wp_to [some (vR (some sa)), some (vI tm), some (vR (some G)), some (vR (some (G + 1))), some (vI st), some (vI o), some (vI d), some (vI T), some (vI (n : Int)), some (vL V), none, none, some (vI e6), none, none, none, none, none, none, some (vI (hi h (G + 1 + 153) (k : Int))), some (vI (rcN h (G + 1) k + f)), some (vI (((k + 1 : Nat) : Int))), none] ⟨rfl, rfl, rfl, rfl, rfl, rfl, rfl, rfl, rfl, rfl, rfl, rfl, by show some (vI _) = some (vI _); exact congrArg (fun z => some (vI z)) (by omega), rfl, trivial⟩ kk
  · refine wp_iconst d_108_668 ?_
    refine wp_goto (tgt := 673) d_108_669 (by decide) ?_
    refine wp_iadd d_108_673 ?_
    refine wp_istore d_108_674 (by decide) ?_
    refine wp_aload_n d_108_676 (by rfl) ?_
    refine wp_iload d_108_677 (by rfl) ?_
    refine wp_callV d_108_679 c_108_76 rfl (by rfl) (by rfl) ⟨0, rfl, rfl, by decide⟩ (by assumption) (by exact Nat.le_of_ble_eq_true rfl) (by exact Nat.le_of_ble_eq_true rfl) (s_legEnd hS kp1 (by omega) (by omega)) (fun v_679 h_679 q_679 => ?_) (fun _ _ q => q.elim)
    obtain ⟨rfl, z_679⟩ := q_679
    replace z_679 := z_679.symm
    subst z_679
    refine wp_istore d_108_682 (by decide) ?_
    refine wp_iinc d_108_684 (by rfl) (by decide) ?_
    refine wp_goto (tgt := 573) d_108_687 (by decide) ?_
    rw [te, rs] at kk
    first
      | exact wp_to [some (vR (some sa)), some (vI tm), some (vR (some G)), some (vR (some (G + 1))), some (vI st), some (vI o), some (vI d), some (vI T), some (vI (n : Int)), some (vL V), none, none, some (vI e6), none, none, none, none, none, none, some (vI (hi h (G + 1 + 153) (k : Int))), some (vI (rcN h (G + 1) k + f)), some (vI (((k + 1 : Nat) : Int))), none] ⟨rfl, rfl, rfl, rfl, rfl, rfl, rfl, rfl, rfl, rfl, rfl, rfl, congrArg (fun z => some (vI z)) (by omega), rfl, trivial⟩ kk
      | exact wp_to [some (vR (some sa)), some (vI tm), some (vR (some G)), some (vR (some (G + 1))), some (vI st), some (vI o), some (vI d), some (vI T), some (vI (n : Int)), some (vL V), none, none, some (vI e6), none, none, none, none, none, none, some (vI (hi h (G + 1 + 153) (k : Int))), some (vI (rcN h (G + 1) k + f)), some (vI (((k + 1 : Nat) : Int))), none] ⟨rfl, rfl, rfl, rfl, rfl, rfl, rfl, rfl, rfl, rfl, rfl, rfl, by show some (vI _) = some (vI _); exact congrArg (fun z => some (vI z)) (by omega), rfl, trivial⟩ kk
set_option maxRecDepth 100000 in
set_option maxHeartbeats 4000000 in
theorem l_legs {h : Hp} {G sa X : Nat} {tm st o d T V e6 : Int} {K n : Nat} {Q : Option AV → Hp → Prop} (hS : Sk h (G + 1)) (hTT : TT h (G + 1) X) (kp : Kp h (G + 1) o d T e6 K n) : ∀ (m k : Nat), k + m = n → wp 108 690 [some (vR (some sa)), some (vI tm), some (vR (some G)), some (vR (some (G + 1))), some (vI st), some (vI o), some (vI d), some (vI T), some (vI (n : Int)), some (vL V), none, none, some (vI e6), none, none, none, none, none, none, some (vI (e6)), some (vI ((K : Int))), some (vI ((n : Int))), none] [] h Q noX → wp 108 573 [some (vR (some sa)), some (vI tm), some (vR (some G)), some (vR (some (G + 1))), some (vI st), some (vI o), some (vI d), some (vI T), some (vI (n : Int)), some (vL V), none, none, some (vI e6), none, none, none, none, none, none, some (vI (tmJ h (G + 1) (k : Int))), some (vI (rcN h (G + 1) k)), some (vI ((k : Int))), none] [] h Q noX := by
  intro m
  have kpq := kp
  obtain ⟨kp1, kp2, kp3, kp4, kp5, kp6, -, kp8, kp9, kp10, -, kp12⟩ := kp
  induction m with
  | zero =>
    intro k hk kk
    refine wp_iload d_108_573 (by rfl) ?_
    refine wp_iload d_108_575 (by rfl) ?_
    refine wp_icmp_ge (tgt := 690) d_108_577 (by decide) (by omega) (by omega) (fun c_577 => ?_) (fun c_577 => ?_)
    rotate_left
    · exact absurd c_577 (by omega)
    have ek : k = n := by omega
    subst ek
    refine wp_to [some (vR (some sa)), some (vI tm), some (vR (some G)), some (vR (some (G + 1))), some (vI st), some (vI o), some (vI d), some (vI T), some (vI (k : Int)), some (vL V), none, none, some (vI e6), none, none, none, none, none, none, some (vI (e6)), some (vI ((K : Int))), some (vI ((k : Int))), none] ⟨rfl, rfl, rfl, rfl, rfl, rfl, rfl, rfl, rfl, rfl, rfl, congrArg (fun z => some (vI z)) kp9, congrArg (fun z => some (vI z)) kp5, rfl, trivial⟩ kk
  | succ m ih =>
    intro k hk kk
    refine wp_iload d_108_573 (by rfl) ?_
    refine wp_iload d_108_575 (by rfl) ?_
    refine wp_icmp_ge (tgt := 690) d_108_577 (by decide) (by omega) (by omega) (fun c_577 => ?_) (fun c_577 => ?_)
    · exact absurd c_577 (by omega)
    refine wp_to [some (vR (some sa)), some (vI tm), some (vR (some G)), some (vR (some (G + 1))), some (vI st), some (vI o), some (vI d), some (vI T), some (vI (n : Int)), some (vL V), none, none, some (vI e6), none, none, none, none, none, none, some (vI (tmJ h (G + 1) (k : Int))), some (vI (rcN h (G + 1) k)), some (vI ((k : Int))), none] ⟨rfl, rfl, rfl, rfl, rfl, rfl, rfl, rfl, rfl, rfl, rfl, rfl, rfl, rfl, trivial⟩ ?_
    exact l_leg1 hS hTT kpq (by omega) (fun f hf => l_leg2 hS hTT kpq (by omega) hf (l_leg3 hS hTT kpq (by omega) hf (ih (k + 1) (by omega) kk)))
