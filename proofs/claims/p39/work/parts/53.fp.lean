/-! ===== the part of the minutes: between 0 and 1 ===== -/
theorem fp_le {X Y c d : Nat} {q r e0 : Int} (hXY : X ≤ Y) (hX : c * 2 ^ q.toNat = X * 2 ^ (-q).toNat) (hY : d * 2 ^ r.toNat = Y * 2 ^ (-r).toNat) (he : e0 ≤ q - r) (he0 : e0 ≤ 0) : c * 2 ^ (q - r - e0).toNat ≤ 2 ^ (-e0).toNat * d := by
  refine Nat.le_of_mul_le_mul_right (c := 2 ^ (r.toNat + (-q).toNat)) ?_ (Nat.two_pow_pos _)
  have eL : c * 2 ^ (q - r - e0).toNat * 2 ^ (r.toNat + (-q).toNat) = X * 2 ^ ((-q).toNat + ((-r).toNat + (-e0).toNat)) := by
    rw [Nat.mul_assoc, ← Nat.pow_add, show (q - r - e0).toNat + (r.toNat + (-q).toNat) = q.toNat + ((-r).toNat + (-e0).toNat) by omega, Nat.pow_add, ← Nat.mul_assoc, hX, Nat.mul_assoc, ← Nat.pow_add]
  have eR : 2 ^ (-e0).toNat * d * 2 ^ (r.toNat + (-q).toNat) = Y * 2 ^ ((-q).toNat + ((-r).toNat + (-e0).toNat)) := by
    have : 2 ^ (-e0).toNat * d * 2 ^ (r.toNat + (-q).toNat) = (d * 2 ^ r.toNat) * (2 ^ (-e0).toNat * 2 ^ (-q).toNat) := by
      rw [Nat.pow_add]
      ac_rfl
    rw [this, hY, Nat.pow_add, Nat.pow_add]
    ac_rfl
  rw [eL, eR]
  exact Nat.mul_le_mul_right _ hXY
theorem fp_whole {x : Int} {s : Bool} {c : Nat} {q : Int} (hx : 0 ≤ x) (h : Jvm.FP.Core.Whole x (.fin s c q)) : c * 2 ^ q.toNat = x.toNat * 2 ^ (-q).toNat ∧ (s = true → c = 0) ∧ (0 < x → s = false ∧ 0 < c) := by
  have h : Jvm.FP.Core.signed s (c * 2 ^ q.toNat) = x * ((2 ^ (-q).toNat : Nat) : Int) := h
  have hP := Nat.two_pow_pos (-q).toNat
  have hQ := Nat.two_pow_pos q.toNat
  have hxe : x = (x.toNat : Int) := by omega
  have e : x * ((2 ^ (-q).toNat : Nat) : Int) = ((x.toNat * 2 ^ (-q).toNat : Nat) : Int) := by
    rw [Int.natCast_mul, ← hxe]
  rw [e] at h
  have hx0 : 0 < x → 0 < x.toNat * 2 ^ (-q).toNat := fun z => Nat.mul_pos (by omega) hP
  generalize hA : x.toNat * 2 ^ (-q).toNat = A at *
  generalize hB : c * 2 ^ q.toNat = B at *
  cases s with
  | true =>
    have h : -(B : Int) = (A : Int) := h
    refine ⟨by omega, fun _ => ?_, fun z => by have := hx0 z; omega⟩
    have hB0 : c * 2 ^ q.toNat = 0 := by omega
    rcases Nat.mul_eq_zero.mp hB0 with z | z
    · exact z
    · omega
  | false =>
    have h : (B : Int) = (A : Int) := h
    refine ⟨by omega, fun z => (nomatch z), fun z => ⟨rfl, ?_⟩⟩
    have := hx0 z
    have hB0 : 0 < c * 2 ^ q.toNat := by omega
    exact Nat.pos_of_mul_pos_right hB0
theorem fp_one : Jvm.FP.Core.val64 FP.dconst1 = .fin false 4503599627370496 (-52) := by decide +kernel
theorem fp_zero : Jvm.FP.Core.val64 FP.dconst0 = .fin false 0 (-1074) := by decide +kernel
theorem fp_qmin : Jvm.FP.Core.b64.qmin = -1074 := by decide +kernel
theorem fp_cmp {z v : Int} : (z ≤ v → (compare z v = .lt ∨ compare z v = .eq)) ∧ (v ≤ z → (compare z v = .gt ∨ compare z v = .eq)) := by
  simp only [compare, compareOfLessAndEq]
  constructor
  · intro h
    by_cases h1 : z < v
    · rw [if_pos h1]; exact Or.inl rfl
    · rw [if_neg h1, if_pos (by omega)]; exact Or.inr rfl
  · intro h
    rw [if_neg (by omega)]
    by_cases h1 : z = v
    · rw [if_pos h1]; exact Or.inr rfl
    · rw [if_neg h1]; exact Or.inl rfl
theorem fp_part {x y : Int} (hx : 0 ≤ x) (hxy : x ≤ y) (hy : 0 < y) (hyr : inR y) : vf_n64 (FP.ddiv (FP.i2d (Int32.ofInt x)) (FP.i2d (Int32.ofInt y))) ∧ (FP.dcmp (FP.ddiv (FP.i2d (Int32.ofInt x)) (FP.i2d (Int32.ofInt y))) FP.dconst0 = some .gt ∨ FP.dcmp (FP.ddiv (FP.i2d (Int32.ofInt x)) (FP.i2d (Int32.ofInt y))) FP.dconst0 = some .eq) ∧ (FP.dcmp (FP.ddiv (FP.i2d (Int32.ofInt x)) (FP.i2d (Int32.ofInt y))) FP.dconst1 = some .lt ∨ FP.dcmp (FP.ddiv (FP.i2d (Int32.ofInt x)) (FP.i2d (Int32.ofInt y))) FP.dconst1 = some .eq) := by
  have i1 := Jvm.FP.Core.i2d_int (Int32.ofInt x)
  have i2 := Jvm.FP.Core.i2d_int (Int32.ofInt y)
  rw [i_toInt ⟨by omega, by have := hyr.2; omega⟩] at i1
  rw [i_toInt hyr] at i2
  obtain ⟨s, c, q, e1⟩ := Jvm.FP.Core.i2d_fin (Int32.ofInt x)
  obtain ⟨t, d, r, e2⟩ := Jvm.FP.Core.i2d_fin (Int32.ofInt y)
  unfold Jvm.FP.Core.DInt at i1 i2
  rw [e1] at i1
  rw [e2] at i2
  obtain ⟨g1, g2, -⟩ := fp_whole hx i1
  obtain ⟨k1, -, k2⟩ := fp_whole (by omega) i2
  obtain ⟨rfl, k3⟩ := k2 hy
  generalize hb : FP.ddiv (FP.i2d (Int32.ofInt x)) (FP.i2d (Int32.ofInt y)) = b
  have hv : Jvm.FP.Core.val64 b = Jvm.FP.Core.roundRatio Jvm.FP.Core.b64 (s != false) c d (q - r) := by
    rw [← hb]
    show Jvm.FP.Core.val64 (Jvm.FP.Core.ddiv _ _) = _
    rw [Jvm.FP.Core.val64_ddiv, e1, e2]
    show (if d = 0 then _ else _) = _
    rw [if_neg (by omega)]
  have nn : Jvm.FP.Core.val64 b ≠ .nan := by rw [hv]; exact Jvm.FP.Core.roundRatio_ne_nan _ _ _ _ _
  have n1 : Jvm.FP.Core.val64 FP.dconst1 ≠ .nan := by rw [fp_one]; exact Jvm.FP.Core.Datum.noConfusion
  have n0 : Jvm.FP.Core.val64 FP.dconst0 ≠ .nan := by rw [fp_zero]; exact Jvm.FP.Core.Datum.noConfusion
  have up : Jvm.FP.Core.zmag Jvm.FP.Core.b64 (Jvm.FP.Core.val64 b) ≤ Jvm.FP.Core.zmag Jvm.FP.Core.b64 (Jvm.FP.Core.val64 FP.dconst1) := by
    rw [hv]
    refine Jvm.FP.Core.zmag_roundRatio_le (e0 := min (-1074) (q - r)) Jvm.FP.Core.good_b64 k3 (Jvm.FP.Core.val64_fits _) n1 (by rw [fp_qmin]; omega) (by omega) ?_
    rw [fp_one]
    show c * 2 ^ (q - r - min (-1074) (q - r)).toNat ≤ 4503599627370496 * 2 ^ (-52 - Jvm.FP.Core.b64.qmin).toNat * 2 ^ (Jvm.FP.Core.b64.qmin - min (-1074) (q - r)).toNat * d
    rw [fp_qmin]
    have e : 4503599627370496 * 2 ^ ((-52 : Int) - -1074).toNat * 2 ^ ((-1074 : Int) - min (-1074) (q - r)).toNat = 2 ^ (-(min (-1074) (q - r))).toNat := by
      rw [show (4503599627370496 : Nat) = 2 ^ 52 by decide, ← Nat.pow_add, ← Nat.pow_add]
      congr 1
      omega
    rw [e]
    exact fp_le (by omega : x.toNat ≤ y.toNat) g1 k1 (by omega) (by omega)
  have z0 : Jvm.FP.Core.zval Jvm.FP.Core.b64 (Jvm.FP.Core.val64 FP.dconst0) = 0 := by rw [fp_zero]; decide +kernel
  have z1 : Jvm.FP.Core.zval Jvm.FP.Core.b64 (Jvm.FP.Core.val64 FP.dconst1) = (Jvm.FP.Core.zmag Jvm.FP.Core.b64 (Jvm.FP.Core.val64 FP.dconst1) : Int) := by rw [fp_one]; rfl
  have zb : 0 ≤ Jvm.FP.Core.zval Jvm.FP.Core.b64 (Jvm.FP.Core.val64 b) ∧ Jvm.FP.Core.zval Jvm.FP.Core.b64 (Jvm.FP.Core.val64 b) ≤ (Jvm.FP.Core.zmag Jvm.FP.Core.b64 (Jvm.FP.Core.val64 b) : Int) := by
    unfold Jvm.FP.Core.zval
    rw [hv, Jvm.FP.Core.sgn_roundRatio]
    cases s with
    | false => exact ⟨by show (0 : Int) ≤ ((_ : Nat) : Int); omega, Int.le_refl _⟩
    | true =>
      have c0 := g2 rfl
      subst c0
      have er : Jvm.FP.Core.roundRatio Jvm.FP.Core.b64 (true != false) 0 d (q - r) = .fin (true != false) 0 Jvm.FP.Core.b64.qmin := by
        unfold Jvm.FP.Core.roundRatio
        rw [if_pos rfl]
      rw [er]
      have ez : Jvm.FP.Core.zmag Jvm.FP.Core.b64 (.fin (true != false) 0 Jvm.FP.Core.b64.qmin) = 0 := Nat.zero_mul _
      rw [ez]
      exact ⟨Int.le_refl _, Int.le_refl _⟩
  refine ⟨?_, ?_, ?_⟩
  · unfold vf_n64
    have hn := (Jvm.FP.Core.ne_nan b).mp nn
    rw [UInt64.le_iff_toNat_le, UInt64.toNat_and, show (0x7fffffffffffffff : UInt64).toNat = 2 ^ 63 - 1 from rfl, Nat.and_two_pow_sub_one_eq_mod]
    exact hn
  · have ho : FP.dcmp b FP.dconst0 = some (compare (Jvm.FP.Core.zval Jvm.FP.Core.b64 (Jvm.FP.Core.val64 b)) (Jvm.FP.Core.zval Jvm.FP.Core.b64 (Jvm.FP.Core.val64 FP.dconst0))) := Jvm.FP.Core.order_zval Jvm.FP.Core.good_b64 (Jvm.FP.Core.val64_fits _) (Jvm.FP.Core.val64_fits _) nn n0
    rw [ho, z0]
    rcases fp_cmp.2 zb.1 with z | z
    · exact Or.inl (congrArg some z)
    · exact Or.inr (congrArg some z)
  · have ho : FP.dcmp b FP.dconst1 = some (compare (Jvm.FP.Core.zval Jvm.FP.Core.b64 (Jvm.FP.Core.val64 b)) (Jvm.FP.Core.zval Jvm.FP.Core.b64 (Jvm.FP.Core.val64 FP.dconst1))) := Jvm.FP.Core.order_zval Jvm.FP.Core.good_b64 (Jvm.FP.Core.val64_fits _) (Jvm.FP.Core.val64_fits _) nn n1
    rw [ho, z1]
    rcases fp_cmp.1 (show Jvm.FP.Core.zval Jvm.FP.Core.b64 (Jvm.FP.Core.val64 b) ≤ (Jvm.FP.Core.zmag Jvm.FP.Core.b64 (Jvm.FP.Core.val64 FP.dconst1) : Int) by omega) with z | z
    · exact Or.inl (congrArg some z)
    · exact Or.inr (congrArg some z)
section HDV
variable {i pc : Nat} {ls : List (Option AV)} {st : List AV} {h : Hp} {Q : Option AV → Hp → Prop} {X : String → Hp → Prop}
theorem wp_i2d {x : Int} (hd : decode (mB i) pc = .ok (.i2d, 1)) (k : wp i (pc + 1) ls (vD (FP.i2d (Int32.ofInt x)) :: st) h Q X) : wp i pc ls (vI x :: st) h Q X := by
  intro D DA B0 CN CS p l e R s m args below meth c H locs ls' hfl hE
  exact lv_i2d hE.1.1 hE.1.2.1 hd (k D DA B0 CN CS p l e R s m args below meth c H locs ls' hfl hE)
theorem wp_ddiv {x y : UInt64} (hd : decode (mB i) pc = .ok (.ddiv, 1)) (hn : vf_n64 (FP.ddiv x y)) (k : wp i (pc + 1) ls (vD (FP.ddiv x y) :: st) h Q X) : wp i pc ls (vD y :: vD x :: st) h Q X := by
  intro D DA B0 CN CS p l e R s m args below meth c H locs ls' hfl hE
  exact lv_ddiv hE.1.1 hE.1.2.1 hd hn (k D DA B0 CN CS p l e R s m args below meth c H locs ls' hfl hE)
theorem wp_dconst0 (hd : decode (mB i) pc = .ok (.dconst 0, 1)) (k : wp i (pc + 1) ls (vD FP.dconst0 :: st) h Q X) : wp i pc ls st h Q X := by
  intro D DA B0 CN CS p l e R s m args below meth c H locs ls' hfl hE
  exact lv_dconst0 hE.1.1 hE.1.2.1 hd (k D DA B0 CN CS p l e R s m args below meth c H locs ls' hfl hE)
theorem wp_dconst1 (hd : decode (mB i) pc = .ok (.dconst 1, 1)) (k : wp i (pc + 1) ls (vD FP.dconst1 :: st) h Q X) : wp i pc ls st h Q X := by
  intro D DA B0 CN CS p l e R s m args below meth c H locs ls' hfl hE
  exact lv_dconst1 hE.1.1 hE.1.2.1 hd (k D DA B0 CN CS p l e R s m args below meth c H locs ls' hfl hE)
theorem wp_dcmp {x y : UInt64} {z : Int} {op : CmpOp} (hd : decode (mB i) pc = .ok (.dcmp op, 1)) (hz : Op.cmpValue (FP.dcmp x y) op = Int32.ofInt z) (k : wp i (pc + 1) ls (vI z :: st) h Q X) : wp i pc ls (vD y :: vD x :: st) h Q X := by
  intro D DA B0 CN CS p l e R s m args below meth c H locs ls' hfl hE
  have kk := k D DA B0 CN CS p l e R s m args below meth c H locs ls' hfl hE
  refine lv_dcmp hE.1.1 hE.1.2.1 hd ?_
  rw [hz]
  exact kk
end HDV
