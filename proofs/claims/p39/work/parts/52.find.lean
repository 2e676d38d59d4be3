/-! ===== what is kept, and when it stays so ===== -/
def EqJ (h h' : Hp) (w : Nat) : Prop := (hi h' (w + 146) 1 = hi h (w + 146) 1 ∧ hi h' (w + 146) 3 = hi h (w + 146) 3) ∧ hr h' (w + 147) = hr h (w + 147) ∧ ∀ b, w + 148 ≤ b → b ≤ w + 153 → hi h' b = hi h b
section EQJ
variable {h h' : Hp} {w X : Nat} {P R : Nat → Prop} {k : Int}
theorem EqJ.sp (j : EqJ h h' w) : spJ h' w k = spJ h w k := by
  unfold spJ
  rw [j.1.1, j.2.2 (w + 151) (by omega) (by omega)]
theorem EqJ.tm (j : EqJ h h' w) : tmJ h' w k = tmJ h w k := by
  unfold tmJ
  rw [j.1.2, j.2.2 (w + 153) (by omega) (by omega)]
theorem EqJ.sn (j : EqJ h h' w) (e2 : hi h' (w + 2) = hi h (w + 2)) : snJ h' w k = snJ h w k := by
  unfold snJ afJ
  rw [j.tm, j.sp, e2, j.2.1]
theorem EqJ.rc (j : EqJ h h' w) : ∀ n : Nat, rcN h' w n = rcN h w n
  | 0 => rfl
  | n + 1 => by
    show rcN h' w n + _ = rcN h w n + _
    rw [j.rc n, j.2.1]
theorem EqJ.of (e : fm P R h h') (hw : w + 154 ≤ nx h) (hP : ∀ a, P a → ¬ (w + 146 ≤ a ∧ a ≤ w + 153)) (hR : ∀ a, R a → a ≠ w + 147) : EqJ h h' w := by
  have F : ∀ b, w + 146 ≤ b → b ≤ w + 153 → hi h' b = hi h b := fun b b1 b2 => funext fun k => e.2.2.1 b k (by omega) (fun z => hP b z ⟨b1, b2⟩)
  refine ⟨⟨?_, ?_⟩, funext fun k => e.2.2.2.1 _ k (by omega) (fun z => hR _ z rfl), fun b b1 b2 => F b (by omega) b2⟩
  · rw [F (w + 146) (by omega) (by omega)]
  · rw [F (w + 146) (by omega) (by omega)]
theorem LegOk.kept (hT : TT h w X) (e : fm P R h h') (o : Off w X P R) (j : EqJ h h' w) (z : LegOk h w k) : LegOk h' w k := by
  have hX := hT.2.2.2.2.2.2
  have e1 : hi h' (w + 1) = hi h (w + 1) := o.i e hX.1 (by omega) hX.2
  have e2 : hi h' (w + 2) = hi h (w + 2) := o.i e hX.1 (by omega) hX.2
  have e5 : hr h' (w + 5) = hr h (w + 5) := o.r e hX.1 (by omega) hX.2
  have b148 := j.2.2 (w + 148) (by omega) (by omega)
  have b149 := j.2.2 (w + 149) (by omega) (by omega)
  have b150 := j.2.2 (w + 150) (by omega) (by omega)
  have b151 := j.2.2 (w + 151) (by omega) (by omega)
  have b152 := j.2.2 (w + 152) (by omega) (by omega)
  have b153 := j.2.2 (w + 153) (by omega) (by omega)
  unfold LegOk
  rw [j.2.1, e1, e5, b148, b149, b150, b151, b152, b153, j.sp, j.tm, j.sn e2, Wy.kept hT e o]
  rcases z with ⟨t, a, z1, z2, z3, z4, z5⟩ | z
  · obtain ⟨a', c, y1, y2, y3, -⟩ := hT.2.2.2.2.2.1 t z2.1 z2.2
    cases z3.symm.trans y1
    obtain ⟨k1, k2, k3⟩ := hasRn.kept hT e o (d := hi h (w + 148) k) z2.1 z2.2 z3
    refine Or.inl ⟨t, a, z1, z2, z3, k1.mpr z4, ?_⟩
    rw [k3, o.i e hX.1 (a := a) (by omega) hX.2, o.i e hX.1 (a := a + 1) (by omega) hX.2, o.i e hX.1 (a := a + 2) (by omega) hX.2, o.i e hX.1 (a := a + 3) (by omega) hX.2]
    exact z5
  · exact Or.inr z
end EQJ
/-- the journey that is kept: n legs, K rides, from o at T to d at D -/
def Kp (h : Hp) (w : Nat) (o d T D : Int) (K n : Nat) : Prop := hi h (w + 146) 0 = 1 ∧ szJ h w = n ∧ n ≤ 13 ∧ (∀ k : Int, 0 ≤ k → k < (n : Int) → LegOk h w k) ∧ rcN h w n = K ∧ -1 ≤ hi h (w + 146) 12 ∧ (hi h (w + 146) 1 = o ∧ hi h (w + 146) 2 = d ∧ hi h (w + 146) 3 = T) ∧ spJ h w n = d ∧ tmJ h w n = D ∧ (0 ≤ hi h (w + 146) 13 ∧ hi h (w + 146) 13 ≤ 1000000) ∧ JE (hi h (w + 2)) (Wy h w) (Ra h w) o T (T + 2880) K d D (hi h (w + 146) 13) ∧ (0 ≤ T ∧ T ≤ D ∧ D ≤ T + 2880 ∧ T ≤ 500000)
section KPT
variable {h h' : Hp} {w X : Nat} {P R : Nat → Prop} {o d T D : Int} {K n : Nat}
theorem Kp.kept (hT : TT h w X) (e : fm P R h h') (f : Off w X P R) (hP : ∀ a, P a → ¬ (w + 146 ≤ a ∧ a ≤ w + 153)) (hR : ∀ a, R a → a ≠ w + 147) (q : Kp h w o d T D K n) : Kp h' w o d T D K n := by
  have hX := hT.2.2.2.2.2.2
  have j := EqJ.of e (by omega) hP hR
  have F : hi h' (w + 146) = hi h (w + 146) := funext fun k => e.2.2.1 _ k (by omega) (fun z => hP _ z ⟨by omega, by omega⟩)
  obtain ⟨q1, q2, q3, q4, q5, q6, q7, q8, q9, q10, q11, q12⟩ := q
  unfold Kp szJ
  rw [F, j.rc, j.sp, j.tm, f.i e hX.1 (a := w + 2) (by omega) hX.2, Wy.kept hT e f, Ra.kept hT e f]
  exact ⟨q1, q2, q3, fun k z0 z1 => (q4 k z0 z1).kept hT e f j, q5, q6, q7, q8, q9, q10, q11, q12⟩
theorem Kp.of {h0 : Hp} (hT : TT h0 w X) (kn : Kn h0 w o d T D K) (I : TrI h0 h w o d T D K 0 n) (hd : spJ h w n = d) (hn : n ≤ 13) : Kp (setI h (w + 146) 0 1) w o d T D K n := by
  have E := I.1
  have hX := hT.2.2.2.2.2.2
  have hTh := hT.kept E.fm PJoff
  have E1 : ch (PJ w) (PJR w) h (setI h (w + 146) 0 1) := ch_setI (by unfold PJ; omega)
  have fI := I.fare hT kn
  obtain ⟨fin1, fin2⟩ := I.fin hT kn hd
  have g : ∀ k : Int, k ≠ 0 → hi (setI h (w + 146) 0 1) (w + 146) k = hi h (w + 146) k := fun k hk => by rw [hi_upF, upF_ne _ hk]
  have j : EqJ h (setI h (w + 146) 0 1) w := ⟨⟨g 1 (by decide), g 3 (by decide)⟩, rfl, fun b b1 b2 => hi_setI_ne (by omega)⟩
  have c2 : hi (setI h (w + 146) 0 1) (w + 2) = hi h0 (w + 2) := PJoff.i (E.trans E1).fm hX.1 (by omega) hX.2
  obtain ⟨-, i1, -, i2, i3, i4, i5, -⟩ := I
  refine ⟨by rw [hi_upF, upF_same], (g 4 (by decide)).trans i1, hn, fun k z0 z1 => (i2 k z0 z1).kept hTh E1.fm PJoff j, ?_, ?_, ?_, by rw [j.sp]; exact hd, by rw [j.tm]; exact fin2, ?_, ?_, ?_⟩
  · rw [j.rc, i3]; omega
  · rw [g 12 (by decide)]; exact i4
  · rw [g 1 (by decide), g 2 (by decide), g 3 (by decide)]; exact i5
  · rw [g 13 (by decide)]; exact fI
  · rw [g 13 (by decide), c2, Wy.kept hT (E.trans E1).fm PJoff, Ra.kept hT (E.trans E1).fm PJoff]; exact fin1
  · have := kn.2.2.2.1
    exact ⟨by omega, by omega, by omega, by omega⟩
end KPT
/-- what find changes -/
def PF (w : Nat) : Nat → Prop := fun a => (w + 6 ≤ a ∧ a ≤ w + 46) ∨ (w + 146 ≤ a ∧ a ≤ w + 153)
def PFR (w : Nat) : Nat → Prop := fun a => a = w + 7 ∨ a = w + 147
theorem PFoff {w X : Nat} : Off w X (PF w) (PFR w) := ⟨fun a z => by unfold PF at z; omega, fun a z => by unfold PFR at z; omega⟩
set_option maxRecDepth 100000 in
set_option maxHeartbeats 4000000 in
theorem s_legs {w : Nat} {h : Hp} (hS : Sk h w) : wp 14 0 (entL [vR (some w)] (mL 14)) [] h (fun v h' => ∃ z, v = some (vI z) ∧ h' = h ∧ ((hi h (w + 146) 0 = 0 ∧ z = -1) ∨ (hi h (w + 146) 0 ≠ 0 ∧ z = szJ h w))) noX := by
  obtain ⟨⟨k1, k2, k3, k4, k5, k6, k7⟩, ⟨n1, ⟨n2, n3, n4, n5⟩, ⟨n6, n7⟩, ⟨n8, n9⟩, ⟨n10, n11⟩, n12, n13⟩, ⟨m1, ⟨m2, m3, m4⟩, ⟨m5, m6⟩, ⟨m7, m8⟩, m9, m10⟩, ⟨o1, ⟨o2, o3, o4⟩, ⟨o5, o6, o7⟩, ⟨o8, o9, o10⟩, o11, o12⟩, ⟨b1, ⟨b2, b3⟩, ⟨b4, b5, b6⟩, b7, b8, b9⟩, ⟨j1, ⟨j2, j3, j4, j5, j6, j7, j8⟩, ⟨j9, j10⟩, j11⟩⟩ := hS
  refine wp_aload_n d_14_0 (by rfl) ?_
  refine wp_getR (6) d_14_1 fl_0_54 rfl rfl (by assumption) (by assumption) ?_
  refine wp_getI (0) d_14_4 fl_0_219 rfl rfl (by assumption) (fun x_4 e_4 r_4 => ?_)
  subst e_4
  refine wp_if_eq (tgt := 20) d_14_7 (by decide) (by omega) (fun c_7 => ?_) (fun c_7 => ?_)
  · refine wp_iconst d_14_20 ?_
    refine wp_iret d_14_21 rfl ?_
    first
      | exact ⟨_, rfl, rfl, Or.inl ⟨by omega, rfl⟩⟩
      | exact ⟨_, rfl, rfl, Or.inr ⟨by omega, rfl⟩⟩
  · refine wp_aload_n d_14_10 (by rfl) ?_
    refine wp_getR (6) d_14_11 fl_0_54 rfl rfl (by assumption) (by assumption) ?_
    refine wp_getI (4) d_14_14 fl_0_223 rfl rfl (by assumption) (fun x_14 e_14 r_14 => ?_)
    subst e_14
    refine wp_goto (tgt := 21) d_14_17 (by decide) ?_
    refine wp_iret d_14_21 rfl ?_
    first
      | exact ⟨_, rfl, rfl, Or.inl ⟨by omega, rfl⟩⟩
      | exact ⟨_, rfl, rfl, Or.inr ⟨by omega, rfl⟩⟩
set_option maxRecDepth 100000 in
set_option maxHeartbeats 4000000 in
theorem s_find {w X : Nat} {o T d : Int} {h0 : Hp} (hS0 : Sk h0 w) (hT0 : TT h0 w X) (ho : 0 ≤ o ∧ o < hi h0 (w + 1) 4) (hd : 0 ≤ d ∧ d < hi h0 (w + 1) 4) (hT : 0 ≤ T ∧ T ≤ 500000) : wp 13 0 (entL [vR (some w), vI o, vI d, vI T] (mL 13)) [] h0 (fun v h' => ch (PF w) (PFR w) h0 h' ∧ ∃ e, Ea h0 w o T 2880 6 d e ∧ ((v = some (vI (-1)) ∧ e = 1000000000 ∧ hi h' (w + 146) 0 = 0) ∨ (e < 1000000000 ∧ ∃ K n : Nat, v = some (vI (n : Int)) ∧ K ≤ 6 ∧ Ea h0 w o T 2880 K d e ∧ (∀ j : Nat, j < K → ∀ e', Ea h0 w o T 2880 j d e' → e < e') ∧ Kp h' w o d T e K n))) noX := by
  have hS := hS0
  obtain ⟨⟨k1, k2, k3, k4, k5, k6, k7⟩, ⟨n1, ⟨n2, n3, n4, n5⟩, ⟨n6, n7⟩, ⟨n8, n9⟩, ⟨n10, n11⟩, n12, n13⟩, ⟨m1, ⟨m2, m3, m4⟩, ⟨m5, m6⟩, ⟨m7, m8⟩, m9, m10⟩, ⟨o1, ⟨o2, o3, o4⟩, ⟨o5, o6, o7⟩, ⟨o8, o9, o10⟩, o11, o12⟩, ⟨b1, ⟨b2, b3⟩, ⟨b4, b5, b6⟩, b7, b8, b9⟩, ⟨j1, ⟨j2, j3, j4, j5, j6, j7, j8⟩, ⟨j9, j10⟩, j11⟩⟩ := hS
  have hX := hT0.2.2.2.2.2.2
  have hn := hT0.1
  have of1 : Off w X (· = w + 146) nP := ⟨fun a z => by have y : a = w + 146 := z; omega, fun a z => z.elim⟩
  refine wp_aload_n d_13_0 (by rfl) ?_
  refine wp_iload_n d_13_1 (by rfl) ?_
  refine wp_callV d_13_2 c_13_77 rfl (by rfl) (by rfl) ⟨0, rfl, rfl, by decide⟩ (by first | assumption | exact hS5.1.1) (by exact Nat.le_of_ble_eq_true rfl) (by exact Nat.le_of_ble_eq_true rfl) (s_needStop hS0 ho (by omega)) (fun v_2 h_2 q_2 => ?_) (fun _ _ q => q.elim)
  obtain ⟨rfl, z_2⟩ := q_2
  replace z_2 := z_2.symm
  subst z_2
  refine wp_aload_n d_13_5 (by rfl) ?_
  refine wp_iload_n d_13_6 (by rfl) ?_
  refine wp_callV d_13_7 c_13_77 rfl (by rfl) (by rfl) ⟨0, rfl, rfl, by decide⟩ (by first | assumption | exact hS5.1.1) (by exact Nat.le_of_ble_eq_true rfl) (by exact Nat.le_of_ble_eq_true rfl) (s_needStop hS0 hd (by omega)) (fun v_7 h_7 q_7 => ?_) (fun _ _ q => q.elim)
  obtain ⟨rfl, z_7⟩ := q_7
  replace z_7 := z_7.symm
  subst z_7
  refine wp_iload_n d_13_10 (by rfl) ?_
  refine wp_callS d_13_11 c_13_154 rfl (by rfl) (by rfl) (by exact Nat.le_of_ble_eq_true rfl) (by exact Nat.le_of_ble_eq_true rfl) (s_needTime hT) (fun v_11 h_11 q_11 => ?_) (fun _ _ q => q.elim)
  obtain ⟨rfl, z_11⟩ := q_11
  replace z_11 := z_11.symm
  subst z_11
  refine wp_aload_n d_13_14 (by rfl) ?_
  refine wp_getR (6) d_13_15 fl_0_54 rfl rfl (by first | assumption | exact hS5.1.1) (by first | assumption | exact hS5.1.2.1) ?_
  refine wp_iload_n d_13_18 (by rfl) ?_
  refine wp_iload_n d_13_19 (by rfl) ?_
  refine wp_iload_n d_13_20 (by rfl) ?_
  refine wp_callV d_13_21 c_13_206 rfl (by rfl) (by rfl) ⟨6, rfl, rfl, by decide⟩ (by first | assumption | exact hS5.1.1) (by exact Nat.le_of_ble_eq_true rfl) (by exact Nat.le_of_ble_eq_true rfl) (s_ask hS0 (by omega) (by omega) (by omega)) (fun v_21 h_21 q_21 => ?_) (fun _ _ q => q.elim)
  obtain ⟨rfl, E1, a0, a1, a2, a3, a4, a5, a6⟩ := q_21
  have hS1 : Sk h_21 w := hS0.kept E1.fm (of1.pr hX.2) (by omega)
  have hT1 : TT h_21 w X := hT0.kept E1.fm of1
  have hX1 := hT1.2.2.2.2.2.2
  have nA1 : hi h_21 (w + 1) 4 = hi h0 (w + 1) 4 := E1.2.2.2.2.2.2.2.1 _ _ (fun z => by have y : w + 1 = w + 146 := z; omega)
  have ho1 : 0 ≤ o ∧ o < hi h_21 (w + 1) 4 := by rw [nA1]; exact ho
  have hd1 : 0 ≤ d ∧ d < hi h_21 (w + 1) 4 := by rw [nA1]; exact hd
  have cE : ∀ {K : Nat} {e : Int}, Ea h_21 w o T 2880 K d e ↔ Ea h0 w o T 2880 K d e := Ea.kept hT0 E1.fm of1
  have hS := hS1
  obtain ⟨⟨k1, k2, k3, k4, k5, k6, k7⟩, ⟨n1, ⟨n2, n3, n4, n5⟩, ⟨n6, n7⟩, ⟨n8, n9⟩, ⟨n10, n11⟩, n12, n13⟩, ⟨m1, ⟨m2, m3, m4⟩, ⟨m5, m6⟩, ⟨m7, m8⟩, m9, m10⟩, ⟨o1, ⟨o2, o3, o4⟩, ⟨o5, o6, o7⟩, ⟨o8, o9, o10⟩, o11, o12⟩, ⟨b1, ⟨b2, b3⟩, ⟨b4, b5, b6⟩, b7, b8, b9⟩, ⟨j1, ⟨j2, j3, j4, j5, j6, j7, j8⟩, ⟨j9, j10⟩, j11⟩⟩ := hS
  refine wp_aload_n d_13_24 (by rfl) ?_
  refine wp_getR (3) d_13_25 fl_0_33 rfl rfl (by first | assumption | exact hS5.1.1) (by first | assumption | exact hS5.1.2.1) ?_
  refine wp_aload_n d_13_28 (by rfl) ?_
  refine wp_getR (0) d_13_29 fl_0_12 rfl rfl (by first | assumption | exact hS5.1.1) (by first | assumption | exact hS5.1.2.1) ?_
  refine wp_aload_n d_13_32 (by rfl) ?_
  refine wp_getR (1) d_13_33 fl_0_19 rfl rfl (by first | assumption | exact hS5.1.1) (by first | assumption | exact hS5.1.2.1) ?_
  refine wp_iload_n d_13_36 (by rfl) ?_
  refine wp_iload_n d_13_37 (by rfl) ?_
  refine wp_sipush d_13_38 (by decide) ?_
  refine wp_callV d_13_41 c_13_173 rfl (by rfl) (by rfl) ⟨9, rfl, rfl, by decide⟩ (by first | assumption | exact hS5.1.1) (by exact Nat.le_of_ble_eq_true rfl) (by exact Nat.le_of_ble_eq_true rfl) (s_seek hS1 hT1 ho1 hT (by omega)) (fun v_41 h_41 q_41 => ?_) (fun _ _ q => q.elim)
  obtain ⟨rfl, E2, O2⟩ := q_41
  have hS2 : Sk h_41 w := hS1.kept E2.fm ((POoff (X := X)).pr hX.2) (by omega)
  have hT2 : TT h_41 w X := hT1.kept E2.fm POoff
  have hX2 := hT2.2.2.2.2.2.2
  have nA2 : hi h_41 (w + 1) 4 = hi h0 (w + 1) 4 := (E2.2.2.2.2.2.2.2.1 _ _ (by unfold PO; omega)).trans nA1
  have C2 : ch (PF w) (PFR w) h0 h_41 := (E1.mono (fun a z => by have y : a = w + 146 := z; unfold PF; omega) (fun a z => z.elim)).trans (E2.mono (fun a z => by unfold PO at z; unfold PF; omega) (fun a z => by unfold PQ at z; unfold PFR; omega))
  have eA := O2.ea hT1 E2.fm POoff ho1 hd1 (Nat.le_refl 6)
  have eB := eA.bd hT1 ho1 (by omega) (by omega)
  have g146 : hi h_41 (w + 146) = hi h_21 (w + 146) := funext fun k => E2.2.2.2.2.2.2.2.1 _ _ (by unfold PO; omega)
  have hS := hS2
  obtain ⟨⟨k1, k2, k3, k4, k5, k6, k7⟩, ⟨n1, ⟨n2, n3, n4, n5⟩, ⟨n6, n7⟩, ⟨n8, n9⟩, ⟨n10, n11⟩, n12, n13⟩, ⟨m1, ⟨m2, m3, m4⟩, ⟨m5, m6⟩, ⟨m7, m8⟩, m9, m10⟩, ⟨o1, ⟨o2, o3, o4⟩, ⟨o5, o6, o7⟩, ⟨o8, o9, o10⟩, o11, o12⟩, ⟨b1, ⟨b2, b3⟩, ⟨b4, b5, b6⟩, b7, b8, b9⟩, ⟨j1, ⟨j2, j3, j4, j5, j6, j7, j8⟩, ⟨j9, j10⟩, j11⟩⟩ := hS
  refine wp_aload_n d_13_44 (by rfl) ?_
  refine wp_getR (3) d_13_45 fl_0_33 rfl rfl (by first | assumption | exact hS5.1.1) (by first | assumption | exact hS5.1.2.1) ?_
  refine wp_iload_n d_13_48 (by rfl) ?_
  refine wp_callV d_13_49 c_13_177 rfl (by rfl) (by rfl) ⟨9, rfl, rfl, by decide⟩ (by first | assumption | exact hS5.1.1) (by exact Nat.le_of_ble_eq_true rfl) (by exact Nat.le_of_ble_eq_true rfl) (s_isReached hS2 (by omega)) (fun v_49 h_49 q_49 => ?_) (fun _ _ q => q.elim)
  obtain ⟨z_49, rfl, y_49, u_49⟩ := q_49
  replace y_49 := y_49.symm
  subst y_49
  refine wp_if_ne (tgt := 57) d_13_52 (by decide) (by omega) (fun c_52 => ?_) (fun c_52 => ?_)
  · refine wp_aload_n d_13_57 (by rfl) ?_
    refine wp_getR (3) d_13_58 fl_0_33 rfl rfl (by first | assumption | exact hS5.1.1) (by first | assumption | exact hS5.1.2.1) ?_
    refine wp_iload_n d_13_61 (by rfl) ?_
    refine wp_callV d_13_62 c_13_180 rfl (by rfl) (by rfl) ⟨9, rfl, rfl, by decide⟩ (by first | assumption | exact hS5.1.1) (by exact Nat.le_of_ble_eq_true rfl) (by exact Nat.le_of_ble_eq_true rfl) (s_fewest hS2 (by omega)) (fun v_62 h_62 q_62 => ?_) (fun _ _ q => q.elim)
    obtain ⟨z_62, k, rfl, g1, g2, g3⟩ := q_62
    replace z_62 := z_62.symm
    subst z_62
    have ek := O2.ea hT1 E2.fm POoff ho1 hd1 g1
    have kb := ek.bd hT1 ho1 (by omega) (by omega)
    have ek6 : hi h_41 (w + 14 + k) d = hi h_41 (w + 14 + 6) d := by
      rcases ek.1 with z | ⟨j, p, hj, he⟩
      · omega
      · have := eA.2 j _ p (by omega) he
        omega
    refine wp_istore d_13_65 (by decide) ?_
    refine wp_aload_n d_13_67 (by rfl) ?_
    refine wp_getR (4) d_13_68 fl_0_40 rfl rfl (by first | assumption | exact hS5.1.1) (by first | assumption | exact hS5.1.2.1) ?_
    refine wp_aload_n d_13_71 (by rfl) ?_
    refine wp_getR (0) d_13_72 fl_0_12 rfl rfl (by first | assumption | exact hS5.1.1) (by first | assumption | exact hS5.1.2.1) ?_
    refine wp_aload_n d_13_75 (by rfl) ?_
    refine wp_getR (1) d_13_76 fl_0_19 rfl rfl (by first | assumption | exact hS5.1.1) (by first | assumption | exact hS5.1.2.1) ?_
    refine wp_iload_n d_13_79 (by rfl) ?_
    refine wp_aload_n d_13_80 (by rfl) ?_
    refine wp_getR (3) d_13_81 fl_0_33 rfl rfl (by first | assumption | exact hS5.1.1) (by first | assumption | exact hS5.1.2.1) ?_
    refine wp_iload_n d_13_84 (by rfl) ?_
    refine wp_iload d_13_85 (by rfl) ?_
    refine wp_callV d_13_87 c_13_209 rfl (by rfl) (by rfl) ⟨9, rfl, rfl, by decide⟩ (by first | assumption | exact hS5.1.1) (by exact Nat.le_of_ble_eq_true rfl) (by exact Nat.le_of_ble_eq_true rfl) (s_endOf hS2 g1 (by omega)) (fun v_87 h_87 q_87 => ?_) (fun _ _ q => q.elim)
    obtain ⟨rfl, z_87⟩ := q_87
    replace z_87 := z_87.symm
    subst z_87
    refine wp_iload d_13_90 (by rfl) ?_
    refine wp_callV d_13_92 c_13_198 rfl (by rfl) (by rfl) ⟨1, rfl, rfl, by decide⟩ (by first | assumption | exact hS5.1.1) (by exact Nat.le_of_ble_eq_true rfl) (by exact Nat.le_of_ble_eq_true rfl) (s_seekB (R := k) hS2 hT2 O2.1 (by rw [nA2]; exact hd) ⟨by omega, by omega⟩ g1) (fun v_92 h_92 q_92 => ?_) (fun _ _ q => q.elim)
    obtain ⟨rfl, E3, B3⟩ := q_92
    have hS3 : Sk h_92 w := hS2.kept E3.fm ((PBKoff (X := X)).pr hX.2) (by omega)
    have hT3 : TT h_92 w X := hT2.kept E3.fm PBKoff
    have hX3 := hT3.2.2.2.2.2.2
    have n3' : hi h_92 (w + 1) 4 = hi h_41 (w + 1) 4 := E3.2.2.2.2.2.2.2.1 _ _ (by unfold PBK; omega)
    have c3 : hi h_92 (w + 2) = hi h_41 (w + 2) := PBKoff.i E3.fm hX2.1 (by omega) hX2.2
    have C3 : ch (PF w) (PFR w) h0 h_92 := C2.trans (E3.mono (fun a z => by unfold PBK at z; unfold PF; omega) (fun a z => z.elim))
    obtain ⟨rcE, hR3⟩ := Rc.kept hT2 O2.1 E3.fm PBKoff (fun a z y => by unfold PBK at z; omega) (fun a z y => z.elim)
    have f146 : ∀ x, hi h_92 (w + 146) x = hi h_21 (w + 146) x := fun x => (E3.2.2.2.2.2.2.2.1 _ _ (by unfold PBK; omega)).trans (congrFun g146 x)
    have up3 : ∀ {K : Nat} {e : Int}, Ea h_21 w o T 2880 K d e → Ea h_92 w o T 2880 K d e := fun z => (Ea.kept hT2 E3.fm PBKoff).mpr ((Ea.kept hT1 E2.fm POoff).mpr z)
    have ek3 := up3 ek
    have kn : Kn h_92 w o d T (hi h_41 (w + 14 + k) d) k := by
      refine ⟨hR3, by rw [n3', nA2]; exact ho, by rw [n3', nA2]; exact hd, ⟨by omega, by omega, by omega, by omega⟩, g1, fun t p z => ek3.2 k t p (Nat.le_refl _) z, fun j t p hj z => ?_, ?_⟩
      · have ej3 := up3 (O2.ea hT1 E2.fm POoff ho1 hd1 (K := j) (by omega))
        have := ej3.2 j t p (Nat.le_refl _) z
        have := g3 j hj
        omega
      · unfold BkW
        rw [n3', c3, Wy.kept hT2 E3.fm PBKoff, rcE]
        exact B3
    have hos : OS (hi h_92 (w + 2)) (Wy h_92 w) (Rc h_92 w) d (hi h_41 (w + 14 + k) d) k o T := by
      rcases ek3.1 with z | ⟨j, p, hj, je⟩
      · omega
      · have je2 := JE.runs (R' := Rc h_92 w) hT3.net (by rw [n3', nA2]; exact ho) (fun r i j z => by
          rw [Ra.kept hT2 E3.fm PBKoff, Ra.kept hT1 E2.fm POoff] at z
          rw [rcE]
          exact O2.cov hT1 r i j z) je
        exact (OS.of_EN je2 (Int.le_refl _)).mono (fun s t z => OB.mono hj z)
    have I0 := TrI.start kn hos ((f146 1).trans a1) ((f146 2).trans a2) ((f146 3).trans a3) ((f146 4).trans a4) ((f146 12).trans a5) ((f146 13).trans a6)
    have hS := hS3
    obtain ⟨⟨k1, k2, k3, k4, k5, k6, k7⟩, ⟨n1, ⟨n2, n3, n4, n5⟩, ⟨n6, n7⟩, ⟨n8, n9⟩, ⟨n10, n11⟩, n12, n13⟩, ⟨m1, ⟨m2, m3, m4⟩, ⟨m5, m6⟩, ⟨m7, m8⟩, m9, m10⟩, ⟨o1, ⟨o2, o3, o4⟩, ⟨o5, o6, o7⟩, ⟨o8, o9, o10⟩, o11, o12⟩, ⟨b1, ⟨b2, b3⟩, ⟨b4, b5, b6⟩, b7, b8, b9⟩, ⟨j1, ⟨j2, j3, j4, j5, j6, j7, j8⟩, ⟨j9, j10⟩, j11⟩⟩ := hS
    refine wp_aload_n d_13_95 (by rfl) ?_
    refine wp_getR (6) d_13_96 fl_0_54 rfl rfl (by first | assumption | exact hS5.1.1) (by first | assumption | exact hS5.1.2.1) ?_
    refine wp_aload_n d_13_99 (by rfl) ?_
    refine wp_getR (0) d_13_100 fl_0_12 rfl rfl (by first | assumption | exact hS5.1.1) (by first | assumption | exact hS5.1.2.1) ?_
    refine wp_aload_n d_13_103 (by rfl) ?_
    refine wp_getR (1) d_13_104 fl_0_19 rfl rfl (by first | assumption | exact hS5.1.1) (by first | assumption | exact hS5.1.2.1) ?_
    refine wp_aload_n d_13_107 (by rfl) ?_
    refine wp_getR (4) d_13_108 fl_0_40 rfl rfl (by first | assumption | exact hS5.1.1) (by first | assumption | exact hS5.1.2.1) ?_
    refine wp_iload d_13_111 (by rfl) ?_
    refine wp_callV d_13_113 c_13_212 rfl (by rfl) (by rfl) ⟨6, rfl, rfl, by decide⟩ (by first | assumption | exact hS5.1.1) (by exact Nat.le_of_ble_eq_true rfl) (by exact Nat.le_of_ble_eq_true rfl) (s_trace hS3 hT3 kn I0) (fun v_113 h_113 q_113 => ?_) (fun _ _ q => q.elim)
    obtain ⟨rfl, hh, n, I, sd, n13, rfl⟩ := q_113
    have E5 : ch (PJ w) (PJR w) h_92 (setI hh (w + 146) 0 1) := I.1.trans (ch_setI (by unfold PJ; omega))
    have hS5 := SkG hS3 (by omega) E5
    have kp := Kp.of hT3 kn I sd n13
    have C5 : ch (PF w) (PFR w) h0 (setI hh (w + 146) 0 1) := C3.trans (E5.mono (fun a z => by unfold PJ at z; unfold PF; omega) (fun a z => by unfold PJR at z; unfold PFR; omega))
    refine wp_aload_n d_13_116 (by rfl) ?_
    refine wp_callV d_13_117 c_13_216 rfl (by rfl) (by rfl) ⟨0, rfl, rfl, by decide⟩ (by first | assumption | exact hS5.1.1) (by exact Nat.le_of_ble_eq_true rfl) (by exact Nat.le_of_ble_eq_true rfl) (s_legs hS5) (fun v_117 h_117 q_117 => ?_) (fun _ _ q => q.elim)
    obtain ⟨z_117, rfl, y_117, u_117⟩ := q_117
    replace y_117 := y_117.symm
    subst y_117
    refine wp_iret d_13_120 rfl ?_
    first
      | exact ⟨C2, _, cE.mp eA, Or.inl ⟨rfl, by omega, by rw [g146]; exact a0⟩⟩
      | (refine ⟨C5, _, cE.mp eA, Or.inr ⟨by omega, k, n, ?_, g1, ?_, fun j hj e' he' => ?_, ?_⟩⟩
         · exact congrArg (fun z => some (vI z)) ((u_117.resolve_left (fun y => by have := kp.1; omega)).2.trans kp.2.1)
         · rw [← ek6]; exact cE.mp ek
         · rw [(cE.mpr he').uniq (by omega) (by omega) (O2.ea hT1 E2.fm POoff ho1 hd1 (K := j) (by omega))]
           exact g3 j hj
         · rw [← ek6]; exact kp)
  · refine wp_iconst d_13_55 ?_
    refine wp_iret d_13_56 rfl ?_
    first
      | exact ⟨C2, _, cE.mp eA, Or.inl ⟨rfl, by omega, by rw [g146]; exact a0⟩⟩
      | (refine ⟨C5, _, cE.mp eA, Or.inr ⟨by omega, k, n, ?_, g1, ?_, fun j hj e' he' => ?_, ?_⟩⟩
         · exact congrArg (fun z => some (vI z)) ((u_117.resolve_left (fun y => by have := kp.1; omega)).2.trans kp.2.1)
         · rw [← ek6]; exact cE.mp ek
         · rw [(cE.mpr he').uniq (by omega) (by omega) (O2.ea hT1 E2.fm POoff ho1 hd1 (K := j) (by omega))]
           exact g3 j hj
         · rw [← ek6]; exact kp)
