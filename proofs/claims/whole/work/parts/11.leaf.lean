/-! ===== leaves ===== -/
theorem vxor_neg {x y : Int} (hx : inR x) (hy : inR y) (h0 : 0 ≤ y) : vxor x y < 0 ↔ x < 0 := by
  have hm : ∀ z : Int32, z.toInt < 0 ↔ z.toBitVec.msb = true := fun z => by
    rw [BitVec.msb_eq_toInt]
    simp
  unfold vxor
  rw [hm]
  have e : (Int32.ofInt x ^^^ Int32.ofInt y).toBitVec = (Int32.ofInt x).toBitVec ^^^ (Int32.ofInt y).toBitVec := rfl
  rw [e, BitVec.msb_xor]
  have h1 := hm (Int32.ofInt x)
  have h2 := hm (Int32.ofInt y)
  rw [i_toInt hx] at h1
  rw [i_toInt hy] at h2
  have h3 : (Int32.ofInt y).toBitVec.msb = false := by
    cases h : (Int32.ofInt y).toBitVec.msb with
    | false => rfl
    | true => exact absurd (h2.mpr h) (by omega)
  rw [h3, Bool.xor_false]
  exact h1.symm
theorem fdiv_case {x y : Int} (hy : 0 < y) : (x < 0 → x.tdiv y * y ≠ x → x.tdiv y - 1 = x / y) ∧ ((0 ≤ x ∨ x.tdiv y * y = x) → x.tdiv y = x / y) := by
  have h1 := Int.tmod_add_mul_tdiv x y
  have h2 := Int.emod_add_mul_ediv x y
  have h3 := Int.emod_nonneg x (by omega : y ≠ 0)
  have h4 := Int.emod_lt_of_pos x hy
  have e : x.tdiv y * y = y * x.tdiv y := Int.mul_comm _ _
  rcases Int.lt_or_le x 0 with hx | hx
  · have h5 : x.tmod y ≤ 0 := by
      have : 0 ≤ (-x).tmod y := Int.tmod_nonneg y (by omega)
      rw [Int.neg_tmod] at this
      omega
    have h6 := Int.lt_tmod_of_pos x hy
    have h7 : y * (x.tdiv y - x / y) = x % y - x.tmod y := by rw [Int.mul_sub]; omega
    constructor
    · intro _ hne
      have h8 : x.tmod y ≠ 0 := by omega
      have : x.tdiv y - x / y = 1 := by
        have a1 : 0 < y * (x.tdiv y - x / y) := by omega
        have a2 : y * (x.tdiv y - x / y) < y * 2 := by omega
        have a3 : 0 < x.tdiv y - x / y := Int.pos_of_mul_pos_right a1 (by omega) |> fun h => h
        have a4 : x.tdiv y - x / y < 2 := Int.lt_of_mul_lt_mul_left a2 (by omega)
        omega
      omega
    · rintro (h | h)
      · omega
      · have h8 : x.tmod y = 0 := by omega
        have a2 : y * (x.tdiv y - x / y) < y * 1 := by omega
        have a1 : y * 0 ≤ y * (x.tdiv y - x / y) := by omega
        have a4 : x.tdiv y - x / y < 1 := Int.lt_of_mul_lt_mul_left a2 (by omega)
        have a3 : 0 ≤ x.tdiv y - x / y := Int.le_of_mul_le_mul_left a1 hy
        omega
  · constructor
    · intro h _
      omega
    · intro _
      exact Int.tdiv_eq_ediv_of_nonneg hx
set_option maxRecDepth 100000 in
theorem s_max {x y : Int} {h : Hp} (hx : inR x) (hy : inR y) : wp 214 0 (entL [vI x, vI y] (mL 214)) [] h (fun v h' => v = some (vI (max x y)) ∧ h' = h) noX := by
  refine wp_iload_n d_214_0 (by rfl) ?_
  refine wp_iload_n d_214_1 (by rfl) ?_
  refine wp_icmp_lt (tgt := 9) d_214_2 (by decide) (by omega) (by omega) (fun c_2 => ?_) (fun c_2 => ?_)
  · refine wp_iload_n d_214_9 (by rfl) ?_
    refine wp_iret d_214_10 rfl ?_
    exact ⟨congrArg (fun z => some (vI z)) (by omega), rfl⟩
  · refine wp_iload_n d_214_5 (by rfl) ?_
    refine wp_goto (tgt := 10) d_214_6 (by decide) ?_
    refine wp_iret d_214_10 rfl ?_
    exact ⟨congrArg (fun z => some (vI z)) (by omega), rfl⟩
set_option maxRecDepth 100000 in
theorem s_isWithin {x a b : Int} {h : Hp} (hx : inR x) (ha : inR a) (hb : inR b) : wp 11 0 (entL [vI x, vI a, vI b] (mL 11)) [] h (fun v h' => v = some (vI (if a ≤ x ∧ x ≤ b then 1 else 0)) ∧ h' = h) noX := by
  refine wp_iload_n d_11_0 (by rfl) ?_
  refine wp_iload_n d_11_1 (by rfl) ?_
  refine wp_icmp_lt (tgt := 14) d_11_2 (by decide) (by omega) (by omega) (fun c_2 => ?_) (fun c_2 => ?_)
  · refine wp_iconst d_11_14 ?_
    refine wp_zret d_11_15 rfl (by omega) ?_
    exact ⟨by first | rw [if_pos (by omega)] | rw [if_neg (by omega)], rfl⟩
  · refine wp_iload_n d_11_5 (by rfl) ?_
    refine wp_iload_n d_11_6 (by rfl) ?_
    refine wp_icmp_gt (tgt := 14) d_11_7 (by decide) (by omega) (by omega) (fun c_7 => ?_) (fun c_7 => ?_)
    · refine wp_iconst d_11_14 ?_
      refine wp_zret d_11_15 rfl (by omega) ?_
      exact ⟨by first | rw [if_pos (by omega)] | rw [if_neg (by omega)], rfl⟩
    · refine wp_iconst d_11_10 ?_
      refine wp_goto (tgt := 15) d_11_11 (by decide) ?_
      refine wp_zret d_11_15 rfl (by omega) ?_
      exact ⟨by first | rw [if_pos (by omega)] | rw [if_neg (by omega)], rfl⟩
set_option maxRecDepth 100000 in
theorem s_isDay {x : Int} {h : Hp} (hx : inR x) : wp 10 0 (entL [vI x] (mL 10)) [] h (fun v h' => v = some (vI (if 0 ≤ x ∧ x ≤ 365 then 1 else 0)) ∧ h' = h) noX := by
  refine wp_iload_n d_10_0 (by rfl) ?_
  refine wp_iconst d_10_1 ?_
  refine wp_sipush d_10_2 (by decide) ?_
  refine wp_callS d_10_5 c_10_58 rfl (by rfl) (by rfl) (by exact Nat.le_of_ble_eq_true rfl) (by exact Nat.le_of_ble_eq_true rfl) (s_isWithin hx (by omega) (by omega)) (fun v_5 h_5 q_5 => ?_) (fun _ _ q => q.elim)
  obtain ⟨rfl, rfl⟩ := q_5
  refine wp_zret d_10_8 rfl (by omega) ?_
  exact ⟨rfl, rfl⟩
set_option maxRecDepth 100000 in
theorem s_floorDiv {x y : Int} {h : Hp} (hx : inR x) (hy : inR y) (h0 : 0 < y) : wp 213 0 (entL [vI x, vI y] (mL 213)) [] h (fun v h' => v = some (vI (x / y)) ∧ h' = h) noX := by
  have hfd := fdiv_case (x := x) h0
  have hdv : x < 0 → x ≤ x.tdiv y * y ∧ x.tdiv y * y ≤ y := by
    intro hx0
    have g1 := Int.tmod_add_mul_tdiv x y
    have e : x.tdiv y * y = y * x.tdiv y := Int.mul_comm _ _
    have g2 : 0 ≤ (-x).tmod y := Int.tmod_nonneg y (by omega)
    rw [Int.neg_tmod] at g2
    have g3 := Int.lt_tmod_of_pos x h0
    omega
  have hvn := vxor_neg hx hy (by omega)
  have hvr : inR (vxor x y) := ⟨Int32.le_toInt _, by have := Int32.toInt_lt (Int32.ofInt x ^^^ Int32.ofInt y); unfold vxor; omega⟩
  refine wp_iload_n d_213_0 (by rfl) ?_
  refine wp_iload_n d_213_1 (by rfl) ?_
  refine wp_idiv d_213_2 (by first | omega | (refine ⟨?_, ?_⟩ <;> omega)) (by first | omega | (refine ⟨?_, ?_⟩ <;> omega)) (by omega) ?_
  refine wp_istore_n d_213_3 (by decide) ?_
  refine wp_iload_n d_213_4 (by rfl) ?_
  refine wp_iload_n d_213_5 (by rfl) ?_
  refine wp_ixor d_213_6 ?_
  refine wp_if_ge (tgt := 21) d_213_7 (by decide) (by first | omega | (refine ⟨?_, ?_⟩ <;> omega)) (fun c_7 => ?_) (fun c_7 => ?_)
  · refine wp_iload_n d_213_21 (by rfl) ?_
    refine wp_iret d_213_22 rfl ?_
    refine ⟨congrArg (fun z => some (vI z)) ?_, rfl⟩
    first | (exact hfd.2 (by omega)) | (exact hfd.1 (by omega) (by omega))
  · refine wp_iload_n d_213_10 (by rfl) ?_
    refine wp_iload_n d_213_11 (by rfl) ?_
    refine wp_imul d_213_12 ?_
    refine wp_iload_n d_213_13 (by rfl) ?_
    refine wp_icmp_eq (tgt := 21) d_213_14 (by decide) (by first | omega | (refine ⟨?_, ?_⟩ <;> omega)) (by first | omega | (refine ⟨?_, ?_⟩ <;> omega)) (fun c_14 => ?_) (fun c_14 => ?_)
    · refine wp_iload_n d_213_21 (by rfl) ?_
      refine wp_iret d_213_22 rfl ?_
      refine ⟨congrArg (fun z => some (vI z)) ?_, rfl⟩
      first | (exact hfd.2 (by omega)) | (exact hfd.1 (by omega) (by omega))
    · refine wp_iload_n d_213_17 (by rfl) ?_
      refine wp_iconst d_213_18 ?_
      refine wp_isub d_213_19 ?_
      refine wp_iret d_213_20 rfl ?_
      refine ⟨congrArg (fun z => some (vI z)) ?_, rfl⟩
      first | (exact hfd.2 (by omega)) | (exact hfd.1 (by omega) (by omega))
