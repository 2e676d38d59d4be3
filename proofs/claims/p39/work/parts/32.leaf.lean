/-! ===== leaves ===== -/
theorem isRf_of {h : Hp} {a K : Nat} (hk : kd h a = K) (hr : isRf (AT K) = true) : isRf (AT (kd h a)) = true := by rw [hk]; exact hr
theorem vand_in (x y : Int) : inR (vand x y) := ⟨Int32.le_toInt _, by have := Int32.toInt_lt (Int32.ofInt x &&& Int32.ofInt y); unfold vand; omega⟩
theorem vshr_in (x y : Int) : inR (vshr x y) := ⟨Int32.le_toInt _, by have := Int32.toInt_lt (Int32.ofInt x >>> (Int32.ofInt y &&& 31)); unfold vshr; omega⟩
set_option maxRecDepth 100000 in
set_option maxHeartbeats 4000000 in
theorem s_max {x y : Int} {h : Hp} (hx : inR x) (hy : inR y) : wp 110 0 (entL [vI x, vI y] (mL 110)) [] h (fun v h' => v = some (vI (max x y)) ∧ h' = h) noX := by
  refine wp_iload_n d_110_0 (by rfl) ?_
  refine wp_iload_n d_110_1 (by rfl) ?_
  refine wp_icmp_lt (tgt := 9) d_110_2 (by decide) (by omega) (by omega) (fun c_2 => ?_) (fun c_2 => ?_)
  · refine wp_iload_n d_110_9 (by rfl) ?_
    refine wp_iret d_110_10 rfl ?_
    exact ⟨congrArg (fun z => some (vI z)) (by omega), rfl⟩
  · refine wp_iload_n d_110_5 (by rfl) ?_
    refine wp_goto (tgt := 10) d_110_6 (by decide) ?_
    refine wp_iret d_110_10 rfl ?_
    exact ⟨congrArg (fun z => some (vI z)) (by omega), rfl⟩
set_option maxRecDepth 100000 in
set_option maxHeartbeats 4000000 in
theorem s_min {x y : Int} {h : Hp} (hx : inR x) (hy : inR y) : wp 111 0 (entL [vI x, vI y] (mL 111)) [] h (fun v h' => v = some (vI (min x y)) ∧ h' = h) noX := by
  refine wp_iload_n d_111_0 (by rfl) ?_
  refine wp_iload_n d_111_1 (by rfl) ?_
  refine wp_icmp_gt (tgt := 9) d_111_2 (by decide) (by omega) (by omega) (fun c_2 => ?_) (fun c_2 => ?_)
  · refine wp_iload_n d_111_9 (by rfl) ?_
    refine wp_iret d_111_10 rfl ?_
    exact ⟨congrArg (fun z => some (vI z)) (by omega), rfl⟩
  · refine wp_iload_n d_111_5 (by rfl) ?_
    refine wp_goto (tgt := 10) d_111_6 (by decide) ?_
    refine wp_iret d_111_10 rfl ?_
    exact ⟨congrArg (fun z => some (vI z)) (by omega), rfl⟩
set_option maxRecDepth 100000 in
set_option maxHeartbeats 4000000 in
theorem s_isW {x a b : Int} {h : Hp} (hx : inR x) (ha : inR a) (hb : inR b) : wp 4 0 (entL [vI x, vI a, vI b] (mL 4)) [] h (fun v h' => ∃ z, v = some (vI z) ∧ h' = h ∧ ((a ≤ x ∧ x ≤ b ∧ z = 1) ∨ (¬ (a ≤ x ∧ x ≤ b) ∧ z = 0))) noX := by
  refine wp_iload_n d_4_0 (by rfl) ?_
  refine wp_iload_n d_4_1 (by rfl) ?_
  refine wp_icmp_lt (tgt := 14) d_4_2 (by decide) (by omega) (by omega) (fun c_2 => ?_) (fun c_2 => ?_)
  · refine wp_iconst d_4_14 ?_
    refine wp_zret d_4_15 rfl (by omega) ?_
    exact ⟨_, rfl, rfl, by omega⟩
  · refine wp_iload_n d_4_5 (by rfl) ?_
    refine wp_iload_n d_4_6 (by rfl) ?_
    refine wp_icmp_gt (tgt := 14) d_4_7 (by decide) (by omega) (by omega) (fun c_7 => ?_) (fun c_7 => ?_)
    · refine wp_iconst d_4_14 ?_
      refine wp_zret d_4_15 rfl (by omega) ?_
      exact ⟨_, rfl, rfl, by omega⟩
    · refine wp_iconst d_4_10 ?_
      refine wp_goto (tgt := 15) d_4_11 (by decide) ?_
      refine wp_zret d_4_15 rfl (by omega) ?_
      exact ⟨_, rfl, rfl, by omega⟩
set_option maxRecDepth 100000 in
set_option maxHeartbeats 4000000 in
theorem s_isD {x : Int} {h : Hp} (hx : inR x) : wp 7 0 (entL [vI x] (mL 7)) [] h (fun v h' => ∃ z, v = some (vI z) ∧ h' = h ∧ ((0 ≤ x ∧ x ≤ 365 ∧ z = 1) ∨ (¬ (0 ≤ x ∧ x ≤ 365) ∧ z = 0))) noX := by
  refine wp_iload_n d_7_0 (by rfl) ?_
  refine wp_iconst d_7_1 ?_
  refine wp_sipush d_7_2 (by decide) ?_
  refine wp_callS d_7_5 c_7_58 rfl (by rfl) (by rfl) (by exact Nat.le_of_ble_eq_true rfl) (by exact Nat.le_of_ble_eq_true rfl) (s_isW hx (by omega) (by omega)) (fun v_5 h_5 q_5 => ?_) (fun _ _ q => q.elim)
  obtain ⟨z_5, rfl, y_5, u_5⟩ := q_5
  replace y_5 := y_5.symm
  subst y_5
  refine wp_zret d_7_8 rfl (by omega) ?_
  exact ⟨_, rfl, rfl, by omega⟩
theorem vxor_neg {x y : Int} (hx : inR x) (hy : inR y) (h0 : 0 ≤ y) : vxor x y < 0 ↔ x < 0 := by
  have hm : ∀ z : Int32, z.toInt < 0 ↔ z.toBitVec.msb = true := fun z => by
    rw [BitVec.msb_eq_toInt]
    simp
  unfold vxor
  rw [hm]
  have e : (Int32.ofInt x ^^^ Int32.ofInt y).toBitVec = (Int32.ofInt x).toBitVec ^^^ (Int32.ofInt y).toBitVec := rfl
  rw [e, BitVec.msb_xor]
  have h1 := hm (Int32.ofInt x)
  have h2 := hm (Int32.ofInt y)
  rw [i_toInt hx] at h1
  rw [i_toInt hy] at h2
  have h3 : (Int32.ofInt y).toBitVec.msb = false := by
    cases h : (Int32.ofInt y).toBitVec.msb with
    | false => rfl
    | true => exact absurd (h2.mpr h) (by omega)
  rw [h3, Bool.xor_false]
  exact h1.symm
theorem fdiv_case {x y : Int} (hy : 0 < y) : (x < 0 → x.tdiv y * y ≠ x → x.tdiv y - 1 = x / y) ∧ ((0 ≤ x ∨ x.tdiv y * y = x) → x.tdiv y = x / y) := by
  have h1 := Int.tmod_add_mul_tdiv x y
  have h2 := Int.emod_add_mul_ediv x y
  have h3 := Int.emod_nonneg x (by omega : y ≠ 0)
  have h4 := Int.emod_lt_of_pos x hy
  have e : x.tdiv y * y = y * x.tdiv y := Int.mul_comm _ _
  rcases Int.lt_or_le x 0 with hx | hx
  · have h5 : x.tmod y ≤ 0 := by
      have : 0 ≤ (-x).tmod y := Int.tmod_nonneg y (by omega)
      rw [Int.neg_tmod] at this
      omega
    have h6 := Int.lt_tmod_of_pos x hy
    have h7 : y * (x.tdiv y - x / y) = x % y - x.tmod y := by rw [Int.mul_sub]; omega
    constructor
    · intro _ hne
      have h8 : x.tmod y ≠ 0 := by omega
      have : x.tdiv y - x / y = 1 := by
        have a1 : 0 < y * (x.tdiv y - x / y) := by omega
        have a2 : y * (x.tdiv y - x / y) < y * 2 := by omega
        have a3 : 0 < x.tdiv y - x / y := Int.pos_of_mul_pos_right a1 (by omega) |> fun h => h
        have a4 : x.tdiv y - x / y < 2 := Int.lt_of_mul_lt_mul_left a2 (by omega)
        omega
      omega
    · rintro (h | h)
      · omega
      · have h8 : x.tmod y = 0 := by omega
        have a2 : y * (x.tdiv y - x / y) < y * 1 := by omega
        have a1 : y * 0 ≤ y * (x.tdiv y - x / y) := by omega
        have a4 : x.tdiv y - x / y < 1 := Int.lt_of_mul_lt_mul_left a2 (by omega)
        have a3 : 0 ≤ x.tdiv y - x / y := Int.le_of_mul_le_mul_left a1 hy
        omega
  · constructor
    · intro h _
      omega
    · intro _
      exact Int.tdiv_eq_ediv_of_nonneg hx
set_option maxRecDepth 100000 in
set_option maxHeartbeats 4000000 in
theorem s_floorDiv {x y : Int} {h : Hp} (hx : inR x) (hy : inR y) (h0 : 0 < y) : wp 109 0 (entL [vI x, vI y] (mL 109)) [] h (fun v h' => v = some (vI (x / y)) ∧ h' = h) noX := by
  have hfd := fdiv_case (x := x) h0
  have hdv : x < 0 → x ≤ x.tdiv y * y ∧ x.tdiv y * y ≤ y := by
    intro hx0
    have g1 := Int.tmod_add_mul_tdiv x y
    have e : x.tdiv y * y = y * x.tdiv y := Int.mul_comm _ _
    have g2 : 0 ≤ (-x).tmod y := Int.tmod_nonneg y (by omega)
    rw [Int.neg_tmod] at g2
    have g3 := Int.lt_tmod_of_pos x h0
    omega
  have hvn := vxor_neg hx hy (by omega)
  have hvr : inR (vxor x y) := ⟨Int32.le_toInt _, by have := Int32.toInt_lt (Int32.ofInt x ^^^ Int32.ofInt y); unfold vxor; omega⟩
  refine wp_iload_n d_109_0 (by rfl) ?_
  refine wp_iload_n d_109_1 (by rfl) ?_
  refine wp_idiv d_109_2 (by first | omega | (refine ⟨?_, ?_⟩ <;> omega)) (by first | omega | (refine ⟨?_, ?_⟩ <;> omega)) (by omega) ?_
  refine wp_istore_n d_109_3 (by decide) ?_
  refine wp_iload_n d_109_4 (by rfl) ?_
  refine wp_iload_n d_109_5 (by rfl) ?_
  refine wp_ixor d_109_6 ?_
  refine wp_if_ge (tgt := 21) d_109_7 (by decide) (by first | omega | (refine ⟨?_, ?_⟩ <;> omega)) (fun c_7 => ?_) (fun c_7 => ?_)
  · refine wp_iload_n d_109_21 (by rfl) ?_
    refine wp_iret d_109_22 rfl ?_
    refine ⟨congrArg (fun z => some (vI z)) ?_, rfl⟩
    first | (exact hfd.2 (by omega)) | (exact hfd.1 (by omega) (by omega))
  · refine wp_iload_n d_109_10 (by rfl) ?_
    refine wp_iload_n d_109_11 (by rfl) ?_
    refine wp_imul d_109_12 ?_
    refine wp_iload_n d_109_13 (by rfl) ?_
    refine wp_icmp_eq (tgt := 21) d_109_14 (by decide) (by first | omega | (refine ⟨?_, ?_⟩ <;> omega)) (by first | omega | (refine ⟨?_, ?_⟩ <;> omega)) (fun c_14 => ?_) (fun c_14 => ?_)
    · refine wp_iload_n d_109_21 (by rfl) ?_
      refine wp_iret d_109_22 rfl ?_
      refine ⟨congrArg (fun z => some (vI z)) ?_, rfl⟩
      first | (exact hfd.2 (by omega)) | (exact hfd.1 (by omega) (by omega))
    · refine wp_iload_n d_109_17 (by rfl) ?_
      refine wp_iconst d_109_18 ?_
      refine wp_isub d_109_19 ?_
      refine wp_iret d_109_20 rfl ?_
      refine ⟨congrArg (fun z => some (vI z)) ?_, rfl⟩
      first | (exact hfd.2 (by omega)) | (exact hfd.1 (by omega) (by omega))
set_option maxRecDepth 100000 in
set_option maxHeartbeats 4000000 in
theorem l_fill {a : Nat} {x N : Int} (hx : inR x) (hN : 0 ≤ N ∧ N ≤ 1000000) {Q : Option AV → Hp → Prop} : ∀ (n : Nat) (j : Int) (h : Hp), j + n = N → 0 ≤ j → kd h a = 100 → ln h a = N → (∀ h', ch (· = a) nP h h' → (∀ k, 0 ≤ k → k < N → hi h' a k = if j ≤ k then x else hi h a k) → Q none h') → wp 112 5 [some (vR (some a)), some (vI x), some (vI j), some (vI N)] [] h Q noX := by
  intro n
  induction n with
  | zero =>
    intro j h e0 e1 hk hl k
    refine wp_iload_n d_112_5 (by rfl) ?_
    refine wp_iload_n d_112_6 (by rfl) ?_
    refine wp_icmp_ge (tgt := 20) d_112_7 (by decide) (by omega) (by omega) (fun c_7 => ?_) (fun c_7 => absurd c_7 (by omega))
    refine wp_vret d_112_20 rfl ?_
    exact k h ch.rfl (fun k h0 h1 => (if_neg (by omega)).symm)
  | succ n ih =>
    intro j h e0 e1 hk hl k
    refine wp_iload_n d_112_5 (by rfl) ?_
    refine wp_iload_n d_112_6 (by rfl) ?_
    refine wp_icmp_ge (tgt := 20) d_112_7 (by decide) (by omega) (by omega) (fun c_7 => ?_) (fun c_7 => ?_)
    · refine wp_vret d_112_20 rfl ?_
      exact absurd c_7 (by omega)
    · refine wp_aload_n d_112_10 (by rfl) ?_
      refine wp_iload_n d_112_11 (by rfl) ?_
      refine wp_iload_n d_112_12 (by rfl) ?_
      refine wp_iast d_112_13 (by assumption) (by omega) (by omega) (by omega) ?_
      refine wp_iinc d_112_14 (by rfl) (by decide) ?_
      refine wp_goto (tgt := 5) d_112_17 (by decide) ?_
      refine ih (j + 1) (setI h a j x) (by omega) (by omega) hk hl (fun h' e e2 => ?_)
      refine k h' ((ch_setI (P := (· = a)) rfl).trans e) (fun k h0 h1 => ?_)
      rw [e2 k h0 h1, hi_setI]
      unfold up2
      by_cases c : j + 1 ≤ k
      · rw [if_pos c, if_pos (by omega)]
      · rw [if_neg c]
        by_cases c2 : k = j
        · rw [if_pos ⟨rfl, c2⟩, if_pos (by omega)]
        · rw [if_neg (fun z => c2 z.2), if_neg (by omega)]
set_option maxRecDepth 100000 in
set_option maxHeartbeats 4000000 in
theorem s_fill {a : Nat} {x N : Int} {h : Hp} (hx : inR x) (hN : 0 ≤ N ∧ N ≤ 1000000) (hk : kd h a = 100) (hl : ln h a = N) : wp 112 0 (entL [vR (some a), vI x] (mL 112)) [] h (fun v h' => v = none ∧ ch (· = a) nP h h' ∧ ∀ k, 0 ≤ k → k < N → hi h' a k = x) noX := by
  refine wp_iconst d_112_0 ?_
  refine wp_istore_n d_112_1 (by decide) ?_
  refine wp_aload_n d_112_2 (by rfl) ?_
  refine wp_alen d_112_3 (by omega) ?_
  refine wp_istore_n d_112_4 (by decide) ?_
  rw [hl]
  refine wp_to [some (vR (some a)), some (vI x), some (vI 0), some (vI N)] ⟨rfl, rfl, rfl, rfl, trivial⟩ ?_
  exact l_fill hx hN N.toNat 0 h (by omega) (by omega) hk hl (fun h' e e2 => ⟨rfl, e, fun k h0 h1 => by rw [e2 k h0 h1, if_pos h0]⟩)
set_option maxRecDepth 100000 in
set_option maxHeartbeats 4000000 in
theorem s_across {a : Nat} {s : Int} {h : Hp} (hk : kd h a = 6) (hs : inR s) : wp 57 0 (entL [vR (some a), vI s] (mL 57)) [] h (fun v h' => ∃ z, v = some (vI z) ∧ h' = h ∧ ((s = hi h a 0 ∧ z = hi h a 1) ∨ (s ≠ hi h a 0 ∧ s = hi h a 1 ∧ z = hi h a 0) ∨ (s ≠ hi h a 0 ∧ s ≠ hi h a 1 ∧ z = -1))) noX := by
  refine wp_iload_n d_57_0 (by rfl) ?_
  refine wp_aload_n d_57_1 (by rfl) ?_
  refine wp_getI (0) d_57_2 fl_5_9 rfl rfl (by assumption) (fun x_2 e_2 r_2 => ?_)
  refine wp_icmp_ne (tgt := 13) d_57_5 (by decide) (by omega) (by omega) (fun c_5 => ?_) (fun c_5 => ?_)
  · refine wp_iload_n d_57_13 (by rfl) ?_
    refine wp_aload_n d_57_14 (by rfl) ?_
    refine wp_getI (1) d_57_15 fl_5_15 rfl rfl (by assumption) (fun x_15 e_15 r_15 => ?_)
    refine wp_icmp_ne (tgt := 28) d_57_18 (by decide) (by omega) (by omega) (fun c_18 => ?_) (fun c_18 => ?_)
    · refine wp_iconst d_57_28 ?_
      refine wp_iret d_57_29 rfl ?_
      exact ⟨_, rfl, rfl, by omega⟩
    · refine wp_aload_n d_57_21 (by rfl) ?_
      refine wp_getI (0) d_57_22 fl_5_9 rfl rfl (by assumption) (fun x_22 e_22 r_22 => ?_)
      refine wp_goto (tgt := 29) d_57_25 (by decide) ?_
      refine wp_iret d_57_29 rfl ?_
      exact ⟨_, rfl, rfl, by omega⟩
  · refine wp_aload_n d_57_8 (by rfl) ?_
    refine wp_getI (1) d_57_9 fl_5_15 rfl rfl (by assumption) (fun x_9 e_9 r_9 => ?_)
    refine wp_iret d_57_12 rfl ?_
    exact ⟨_, rfl, rfl, by omega⟩
set_option maxRecDepth 100000 in
set_option maxHeartbeats 4000000 in
theorem s_isRunning {a : Nat} {d : Int} {h : Hp} (hc : CalOk h a) (hd : inR d) : wp 49 0 (entL [vR (some a), vI d] (mL 49)) [] h (fun v h' => ∃ z, v = some (vI z) ∧ h' = h ∧ ((z = 1 ∧ isRun h a d) ∨ (z = 0 ∧ ¬ isRun h a d))) noX := by
  obtain ⟨c1, c2, c3, c4⟩ := hc
  have v1 := vand_in (vshr (hi h a 0) (d.tmod 7)) 1
  have dm : 0 ≤ d → 0 ≤ d.tmod 7 ∧ d.tmod 7 < 7 := fun q => ⟨Int.tmod_nonneg 7 q, Int.tmod_lt_of_pos d (by decide)⟩
  refine wp_iload_n d_49_0 (by rfl) ?_
  refine wp_callSn d_49_1 c_49_25 rfl (by rfl) (by rfl) (by exact Nat.le_of_ble_eq_true rfl) (by exact Nat.le_of_ble_eq_true rfl) (s_isD hd) (fun v_1 h_1 q_1 => ?_) (fun _ _ q => q.elim)
  obtain ⟨z_1, rfl, y_1, u_1⟩ := q_1
  replace y_1 := y_1.symm
  subst y_1
  refine wp_if_ne (tgt := 9) d_49_4 (by decide) (by first | omega | assumption | decide) (fun c_4 => ?_) (fun c_4 => ?_)
  · refine wp_aload_n d_49_9 (by rfl) ?_
    refine wp_getR (3) d_49_10 fl_3_9 rfl rfl (by assumption) (by assumption) ?_
    refine wp_iload_n d_49_13 (by rfl) ?_
    refine wp_iald d_49_14 (Or.inl (by assumption)) (by first | omega | assumption | decide) (by first | omega | assumption | decide) (fun x_14 e_14 r_14 => ?_)
    refine wp_if_eq (tgt := 34) d_49_15 (by decide) (by first | omega | assumption | decide) (fun c_15 => ?_) (fun c_15 => ?_)
    · refine wp_iload_n d_49_34 (by rfl) ?_
      refine wp_aload_n d_49_35 (by rfl) ?_
      refine wp_getI (1) d_49_36 fl_3_19 rfl rfl (by assumption) (fun x_36 e_36 r_36 => ?_)
      refine wp_aload_n d_49_39 (by rfl) ?_
      refine wp_getI (2) d_49_40 fl_3_22 rfl rfl (by assumption) (fun x_40 e_40 r_40 => ?_)
      refine wp_callSn d_49_43 c_49_29 rfl (by rfl) (by rfl) (by exact Nat.le_of_ble_eq_true rfl) (by exact Nat.le_of_ble_eq_true rfl) (s_isW hd (by omega) (by omega)) (fun v_43 h_43 q_43 => ?_) (fun _ _ q => q.elim)
      obtain ⟨z_43, rfl, y_43, u_43⟩ := q_43
      replace y_43 := y_43.symm
      subst y_43
      refine wp_if_eq (tgt := 68) d_49_46 (by decide) (by first | omega | assumption | decide) (fun c_46 => ?_) (fun c_46 => ?_)
      · refine wp_iconst d_49_68 ?_
        refine wp_zret d_49_69 rfl (by omega) ?_
        refine ⟨_, rfl, rfl, ?_⟩
        unfold isRun
        first | (refine Or.inl ⟨rfl, ?_⟩; omega) | (refine Or.inr ⟨rfl, ?_⟩; omega)
      · refine wp_aload_n d_49_49 (by rfl) ?_
        refine wp_getI (0) d_49_50 fl_3_15 rfl rfl (by assumption) (fun x_50 e_50 r_50 => ?_)
        refine wp_iload_n d_49_53 (by rfl) ?_
        refine wp_bipush d_49_54 (by decide) ?_
        refine wp_irem d_49_56 (by first | omega | assumption | decide) (by first | omega | assumption | decide) (by omega) ?_
        have dm2 := dm (by omega)
        refine wp_ishr d_49_57 ?_
        refine wp_iconst d_49_58 ?_
        rw [e_50]
        refine wp_iand d_49_59 ?_
        refine wp_iconst d_49_60 ?_
        refine wp_icmp_ne (tgt := 68) d_49_61 (by decide) (by first | omega | assumption | decide) (by first | omega | assumption | decide) (fun c_61 => ?_) (fun c_61 => ?_)
        · refine wp_iconst d_49_68 ?_
          refine wp_zret d_49_69 rfl (by omega) ?_
          refine ⟨_, rfl, rfl, ?_⟩
          unfold isRun
          first | (refine Or.inl ⟨rfl, ?_⟩; omega) | (refine Or.inr ⟨rfl, ?_⟩; omega)
        · refine wp_iconst d_49_64 ?_
          refine wp_goto (tgt := 69) d_49_65 (by decide) ?_
          refine wp_zret d_49_69 rfl (by omega) ?_
          refine ⟨_, rfl, rfl, ?_⟩
          unfold isRun
          first | (refine Or.inl ⟨rfl, ?_⟩; omega) | (refine Or.inr ⟨rfl, ?_⟩; omega)
    · refine wp_aload_n d_49_18 (by rfl) ?_
      refine wp_getR (3) d_49_19 fl_3_9 rfl rfl (by assumption) (by assumption) ?_
      refine wp_iload_n d_49_22 (by rfl) ?_
      refine wp_iald d_49_23 (Or.inl (by assumption)) (by first | omega | assumption | decide) (by first | omega | assumption | decide) (fun x_23 e_23 r_23 => ?_)
      refine wp_iconst d_49_24 ?_
      refine wp_icmp_ne (tgt := 32) d_49_25 (by decide) (by first | omega | assumption | decide) (by first | omega | assumption | decide) (fun c_25 => ?_) (fun c_25 => ?_)
      · refine wp_iconst d_49_32 ?_
        refine wp_zret d_49_33 rfl (by omega) ?_
        refine ⟨_, rfl, rfl, ?_⟩
        unfold isRun
        first | (refine Or.inl ⟨rfl, ?_⟩; omega) | (refine Or.inr ⟨rfl, ?_⟩; omega)
      · refine wp_iconst d_49_28 ?_
        refine wp_goto (tgt := 33) d_49_29 (by decide) ?_
        refine wp_zret d_49_33 rfl (by omega) ?_
        refine ⟨_, rfl, rfl, ?_⟩
        unfold isRun
        first | (refine Or.inl ⟨rfl, ?_⟩; omega) | (refine Or.inr ⟨rfl, ?_⟩; omega)
  · refine wp_iconst d_49_7 ?_
    refine wp_zret d_49_8 rfl (by omega) ?_
    refine ⟨_, rfl, rfl, ?_⟩
    unfold isRun
    first | (refine Or.inl ⟨rfl, ?_⟩; omega) | (refine Or.inr ⟨rfl, ?_⟩; omega)
set_option maxRecDepth 100000 in
set_option maxHeartbeats 4000000 in
theorem s_baseOf {a : Nat} {d n : Int} {h : Hp} (hT : TripOk h n a) (hd : 0 ≤ d ∧ d ≤ 365) : wp 95 0 (entL [vR (some a), vI d] (mL 95)) [] h (fun v h' => v = some (vI (baseOf h a d)) ∧ h' = h) noX := by
  obtain ⟨t1, ⟨u1, u2, u3, u4⟩, ⟨⟨v1, v2⟩, ⟨v3, v4⟩, ⟨v5, v6⟩, v7, v8⟩, t4, t5, t6, t7, t8⟩ := hT
  refine wp_iload_n d_95_0 (by rfl) ?_
  refine wp_callSn d_95_1 c_95_38 rfl (by rfl) (by rfl) (by exact Nat.le_of_ble_eq_true rfl) (by exact Nat.le_of_ble_eq_true rfl) (s_isD (by omega)) (fun v_1 h_1 q_1 => ?_) (fun _ _ q => q.elim)
  obtain ⟨z_1, rfl, y_1, u_1⟩ := q_1
  replace y_1 := y_1.symm
  subst y_1
  refine wp_if_eq (tgt := 22) d_95_4 (by decide) (by omega) (fun c_4 => ?_) (fun c_4 => ?_)
  · exact absurd c_4 (by omega)
  refine wp_sipush d_95_7 (by decide) ?_
  refine wp_iload_n d_95_10 (by rfl) ?_
  refine wp_imul d_95_11 ?_
  refine wp_aload_n d_95_12 (by rfl) ?_
  refine wp_getR (6) d_95_13 fl_11_21 rfl rfl (by assumption) (by assumption) ?_
  refine wp_iload_n d_95_16 (by rfl) ?_
  refine wp_iald d_95_17 (Or.inl (by assumption)) (by omega) (by omega) (fun x_17 e_17 r_17 => ?_)
  refine wp_iadd d_95_18 ?_
  refine wp_goto (tgt := 24) d_95_19 (by decide) ?_
  refine wp_iret d_95_24 rfl ?_
  exact ⟨congrArg (fun z => some (vI z)) (by unfold baseOf; omega), rfl⟩
set_option maxRecDepth 100000 in
set_option maxHeartbeats 4000000 in
theorem s_lastDeparts {a : Nat} {n : Int} {h : Hp} (hT : TripOk h n a) : wp 96 0 (entL [vR (some a)] (mL 96)) [] h (fun v h' => v = some (vI (hi h (a + 3) (hi h a 7 - 1))) ∧ h' = h) noX := by
  obtain ⟨t1, ⟨u1, u2, u3, u4⟩, ⟨⟨v1, v2⟩, ⟨v3, v4⟩, ⟨v5, v6⟩, v7, v8⟩, t4, t5, t6, t7, t8⟩ := hT
  refine wp_aload_n d_96_0 (by rfl) ?_
  refine wp_getI (7) d_96_1 fl_11_35 rfl rfl (by assumption) (fun x_1 e_1 r_1 => ?_)
  refine wp_if_le (tgt := 21) d_96_4 (by decide) (by omega) (fun c_4 => ?_) (fun c_4 => ?_)
  · exact absurd c_4 (by omega)
  refine wp_aload_n d_96_7 (by rfl) ?_
  refine wp_getR (5) d_96_8 fl_11_18 rfl rfl (by assumption) (by assumption) ?_
  refine wp_aload_n d_96_11 (by rfl) ?_
  refine wp_getI (7) d_96_12 fl_11_35 rfl rfl (by assumption) (fun x_12 e_12 r_12 => ?_)
  refine wp_iconst d_96_15 ?_
  refine wp_isub d_96_16 ?_
  refine wp_iald d_96_17 (Or.inl (by assumption)) (by omega) (by omega) (fun x_17 e_17 r_17 => ?_)
  refine wp_goto (tgt := 22) d_96_18 (by decide) ?_
  refine wp_iret d_96_22 rfl ?_
  exact ⟨congrArg (fun z => some (vI z)) (by rw [e_17, e_12]), rfl⟩
set_option maxRecDepth 100000 in
set_option maxHeartbeats 4000000 in
theorem s_hasRun {a c : Nat} {d n : Int} {h : Hp} (hT : TripOk h n a) (hc : hr h a 1 = some c) (hC : CalOk h c) (hd : inR d) : wp 94 0 (entL [vR (some a), vI d] (mL 94)) [] h (fun v h' => ∃ z, v = some (vI z) ∧ h' = h ∧ ((z = 1 ∧ hasRn h a d) ∨ (z = 0 ∧ ¬ hasRn h a d))) noX := by
  obtain ⟨t1, ⟨u1, u2, u3, u4⟩, ⟨⟨v1, v2⟩, ⟨v3, v4⟩, ⟨v5, v6⟩, v7, v8⟩, t4, t5, t6, t7, t8⟩ := hT
  refine wp_iload_n d_94_0 (by rfl) ?_
  refine wp_callSn d_94_1 c_94_38 rfl (by rfl) (by rfl) (by exact Nat.le_of_ble_eq_true rfl) (by exact Nat.le_of_ble_eq_true rfl) (s_isD hd) (fun v_1 h_1 q_1 => ?_) (fun _ _ q => q.elim)
  obtain ⟨z_1, rfl, y_1, u_1⟩ := q_1
  replace y_1 := y_1.symm
  subst y_1
  refine wp_if_eq (tgt := 32) d_94_4 (by decide) (by omega) (fun c_4 => ?_) (fun c_4 => ?_)
  · refine wp_iconst d_94_32 ?_
    refine wp_zret d_94_33 rfl (by omega) ?_
    refine ⟨_, rfl, rfl, ?_⟩
    first
      | (refine Or.inr ⟨rfl, fun q => ?_⟩
         obtain ⟨q1, q2, c', q3, q4⟩ := q
         first
           | omega
           | (rcases u_22 with ⟨z1, z2⟩ | ⟨z1, z2⟩
              · omega
              · cases q3.symm.trans hc; exact z2 q4))
      | (refine Or.inl ⟨rfl, ⟨by omega, by omega⟩, by omega, c, hc, ?_⟩
         rcases u_22 with ⟨z1, z2⟩ | ⟨z1, z2⟩
         · exact z2
         · omega)
  · refine wp_aload_n d_94_7 (by rfl) ?_
    refine wp_getR (6) d_94_8 fl_11_21 rfl rfl (by first | assumption | exact hC.1) (by assumption) ?_
    refine wp_iload_n d_94_11 (by rfl) ?_
    refine wp_iald d_94_12 (Or.inl (by first | assumption | exact hC.1)) (by omega) (by omega) (fun x_12 e_12 r_12 => ?_)
    refine wp_iconst d_94_13 ?_
    refine wp_icmp_eq (tgt := 32) d_94_14 (by decide) (by omega) (by omega) (fun c_14 => ?_) (fun c_14 => ?_)
    · refine wp_iconst d_94_32 ?_
      refine wp_zret d_94_33 rfl (by omega) ?_
      refine ⟨_, rfl, rfl, ?_⟩
      first
        | (refine Or.inr ⟨rfl, fun q => ?_⟩
           obtain ⟨q1, q2, c', q3, q4⟩ := q
           first
             | omega
             | (rcases u_22 with ⟨z1, z2⟩ | ⟨z1, z2⟩
                · omega
                · cases q3.symm.trans hc; exact z2 q4))
        | (refine Or.inl ⟨rfl, ⟨by omega, by omega⟩, by omega, c, hc, ?_⟩
           rcases u_22 with ⟨z1, z2⟩ | ⟨z1, z2⟩
           · exact z2
           · omega)
    · refine wp_aload_n d_94_17 (by rfl) ?_
      refine wp_getR (1) d_94_18 fl_11_28 rfl rfl (by first | assumption | exact hC.1) (by assumption) ?_
      refine wp_iload_n d_94_21 (by rfl) ?_
      refine wp_callV d_94_22 c_94_42 rfl (by rfl) (by rfl) ⟨3, rfl, rfl, by decide⟩ (by first | assumption | exact hC.1) (by exact Nat.le_of_ble_eq_true rfl) (by exact Nat.le_of_ble_eq_true rfl) (s_isRunning hC hd) (fun v_22 h_22 q_22 => ?_) (fun _ _ q => q.elim)
      obtain ⟨z_22, rfl, y_22, u_22⟩ := q_22
      replace y_22 := y_22.symm
      subst y_22
      refine wp_if_eq (tgt := 32) d_94_25 (by decide) (by omega) (fun c_25 => ?_) (fun c_25 => ?_)
      · refine wp_iconst d_94_32 ?_
        refine wp_zret d_94_33 rfl (by omega) ?_
        refine ⟨_, rfl, rfl, ?_⟩
        first
          | (refine Or.inr ⟨rfl, fun q => ?_⟩
             obtain ⟨q1, q2, c', q3, q4⟩ := q
             first
               | omega
               | (rcases u_22 with ⟨z1, z2⟩ | ⟨z1, z2⟩
                  · omega
                  · cases q3.symm.trans hc; exact z2 q4))
          | (refine Or.inl ⟨rfl, ⟨by omega, by omega⟩, by omega, c, hc, ?_⟩
             rcases u_22 with ⟨z1, z2⟩ | ⟨z1, z2⟩
             · exact z2
             · omega)
      · refine wp_iconst d_94_28 ?_
        refine wp_goto (tgt := 33) d_94_29 (by decide) ?_
        refine wp_zret d_94_33 rfl (by omega) ?_
        refine ⟨_, rfl, rfl, ?_⟩
        first
          | (refine Or.inr ⟨rfl, fun q => ?_⟩
             obtain ⟨q1, q2, c', q3, q4⟩ := q
             first
               | omega
               | (rcases u_22 with ⟨z1, z2⟩ | ⟨z1, z2⟩
                  · omega
                  · cases q3.symm.trans hc; exact z2 q4))
          | (refine Or.inl ⟨rfl, ⟨by omega, by omega⟩, by omega, c, hc, ?_⟩
             rcases u_22 with ⟨z1, z2⟩ | ⟨z1, z2⟩
             · exact z2
             · omega)
