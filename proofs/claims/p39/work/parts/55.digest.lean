/-! ===== the checksum, as a value ===== -/
/-- how late: lateOf's answer -/
noncomputable def ltV (h : Hp) (a : Nat) (d : Int) : Int := @ite Int (hasRn h a d) (Classical.propDecidable _) (hi h (a + 4) d) (-1)
def adT (h : Hp) (w : Nat) (t : Int) : Nat := (hr h (w + 5) t).getD 0
def dgC (h : Hp) (a : Nat) (s : Int) : Nat → Int
  | 0 => s
  | k + 1 => dgC h a s k * 31 + hi h (a + 1) (k : Int)
def dgT (h : Hp) (w : Nat) (s : Int) : Nat → Int
  | 0 => s
  | t + 1 => dgC h (adT h w t) (dgT h w s t * 31 + hi h (adT h w t) 7) (hi h (adT h w t) 7).toNat
noncomputable def dgL (h : Hp) (a : Nat) (s : Int) : Nat → Int
  | 0 => s
  | k + 1 => dgL h a s k * 31 + ltV h a (k : Int)
noncomputable def dgR (h : Hp) (w : Nat) (s : Int) : Nat → Int
  | 0 => s
  | t + 1 => dgL h (adT h w t) (dgR h w s t) 7
def tpV (h : Hp) (w : Nat) (k : Int) : Int := match hr h (w + 147) k with
  | none => -1
  | some a => hi h a 0
def dgK (h : Hp) (w : Nat) (s : Int) : Nat → Int
  | 0 => s
  | k + 1 => (((dgK h w s k * 31 + tpV h w (k : Int)) * 31 + hi h (w + 151) (k : Int)) * 31 + hi h (w + 152) (k : Int)) * 31 + hi h (w + 153) (k : Int)
def lgV (h : Hp) (w : Nat) : Int := if hi h (w + 146) 0 = 0 then -1 else szJ h w
noncomputable def dg3 (h : Hp) (w : Nat) : Int := dgR h w (dgT h w ((2503 * 31 + hi h (w + 1) 4) * 31 + hi h (w + 1) 7) (hi h (w + 1) 7).toNat) (hi h (w + 1) 7).toNat * 31 + lgV h w
noncomputable def dgV (h : Hp) (w : Nat) : Int := if hi h (w + 146) 0 = 0 then dg3 h w else ((dgK h w (dg3 h w) (szJ h w).toNat * 31 + hi h (w + 146) 12) * 31 + hi h (w + 146) 13) * 31 + 1
/-- the state that find leaves: none is kept, or the one that is told -/
def Kept (h : Hp) (w : Nat) : Prop := hi h (w + 146) 0 = 0 ∨ ∃ o d T D K n, Kp h w o d T D K n
section DGK
variable {h h' : Hp} {w X : Nat} {P R : Nat → Prop}
theorem dgC.congr {a : Nat} {s : Int} (q : hi h' (a + 1) = hi h (a + 1)) : ∀ n, dgC h' a s n = dgC h a s n
  | 0 => rfl
  | n + 1 => by
    show dgC h' a s n * 31 + _ = dgC h a s n * 31 + _
    rw [dgC.congr q n, q]
theorem dgL.congr {a : Nat} {s : Int} (q : ∀ d, ltV h' a d = ltV h a d) : ∀ n, dgL h' a s n = dgL h a s n
  | 0 => rfl
  | n + 1 => by
    show dgL h' a s n * 31 + _ = dgL h a s n * 31 + _
    rw [dgL.congr q n, q]
theorem adT_of (hT : TT h w X) {t : Int} (h0 : 0 ≤ t) (h1 : t < hi h (w + 1) 7) : ∃ c, hr h (w + 5) t = some (adT h w t) ∧ w + 154 ≤ adT h w t ∧ adT h w t + 5 ≤ X ∧ TripOk h (hi h (w + 1) 4) (adT h w t) ∧ hi h (adT h w t) 0 = t ∧ hr h (adT h w t) 1 = some c ∧ w + 154 ≤ c ∧ c + 2 ≤ X ∧ CalOk h c := by
  obtain ⟨a, c, g⟩ := hT.2.2.2.2.2.1 t h0 h1
  have e : adT h w t = a := by unfold adT; rw [g.1]; rfl
  rw [e]
  exact ⟨c, g⟩
theorem ltV.kept (hT : TT h w X) (e : fm P R h h') (o : Off w X P R) {t d : Int} (h0 : 0 ≤ t) (h1 : t < hi h (w + 1) 7) : ltV h' (adT h w t) d = ltV h (adT h w t) d := by
  have hX := hT.2.2.2.2.2.2
  obtain ⟨c, g1, g2, g3, -⟩ := adT_of hT h0 h1
  obtain ⟨k1, -, -⟩ := hasRn.kept hT e o (d := d) h0 h1 g1
  unfold ltV
  rw [o.i e hX.1 (a := adT h w t + 4) (by omega) hX.2]
  by_cases c : hasRn h (adT h w t) d
  · rw [if_pos c, if_pos (k1.mpr c)]
  · rw [if_neg c, if_neg (fun z => c (k1.mp z))]
theorem adT.kept (hT : TT h w X) (e : fm P R h h') (o : Off w X P R) (t : Int) : adT h' w t = adT h w t := by
  have hX := hT.2.2.2.2.2.2
  unfold adT
  rw [o.r e hX.1 (a := w + 5) (by omega) hX.2]
theorem dgT.kept (hT : TT h w X) (e : fm P R h h') (o : Off w X P R) (s : Int) : ∀ n : Nat, (n : Int) ≤ hi h (w + 1) 7 → dgT h' w s n = dgT h w s n
  | 0, _ => rfl
  | n + 1, hn => by
    have hX := hT.2.2.2.2.2.2
    obtain ⟨c, g1, g2, g3, -⟩ := adT_of hT (t := n) (by omega) (by omega)
    show dgC h' (adT h' w n) (dgT h' w s n * 31 + hi h' (adT h' w n) 7) (hi h' (adT h' w n) 7).toNat = dgC h (adT h w n) (dgT h w s n * 31 + hi h (adT h w n) 7) (hi h (adT h w n) 7).toNat
    rw [dgT.kept hT e o s n (by omega), adT.kept hT e o, o.i e hX.1 (a := adT h w n) (by omega) hX.2, dgC.congr (o.i e hX.1 (by omega) hX.2)]
theorem dgR.kept (hT : TT h w X) (e : fm P R h h') (o : Off w X P R) (s : Int) : ∀ n : Nat, (n : Int) ≤ hi h (w + 1) 7 → dgR h' w s n = dgR h w s n
  | 0, _ => rfl
  | n + 1, hn => by
    show dgL h' (adT h' w n) (dgR h' w s n) 7 = dgL h (adT h w n) (dgR h w s n) 7
    rw [dgR.kept hT e o s n (by omega), adT.kept hT e o, dgL.congr (fun d => ltV.kept hT e o (by omega) (by omega))]
theorem dgK.kept {N : Nat} (j : EqJ h h' w) (q : ∀ k : Int, 0 ≤ k → k < (N : Int) → tpV h' w k = tpV h w k) (s : Int) : ∀ n : Nat, n ≤ N → dgK h' w s n = dgK h w s n
  | 0, _ => rfl
  | n + 1, hn => by
    show (((dgK h' w s n * 31 + tpV h' w n) * 31 + hi h' (w + 151) n) * 31 + hi h' (w + 152) n) * 31 + hi h' (w + 153) n = (((dgK h w s n * 31 + tpV h w n) * 31 + hi h (w + 151) n) * 31 + hi h (w + 152) n) * 31 + hi h (w + 153) n
    rw [dgK.kept j q s n (by omega), q n (by omega) (by omega), j.2.2 (w + 151) (by omega) (by omega), j.2.2 (w + 152) (by omega) (by omega), j.2.2 (w + 153) (by omega) (by omega)]
/-- what touches neither the timetable nor the kept journey leaves the checksum -/
theorem dgV.kept (hT : TT h w X) (kp : Kept h w) (e : fm P R h h') (o : Off w X P R) (hP : ∀ a, P a → ¬ (w + 146 ≤ a ∧ a ≤ w + 153)) (hR : ∀ a, R a → a ≠ w + 147) : dgV h' w = dgV h w := by
  have hX := hT.2.2.2.2.2.2
  have hn := hT.2.2.1
  have j := EqJ.of e (by omega) hP hR
  have F : hi h' (w + 146) = hi h (w + 146) := funext fun k => e.2.2.1 _ k (by omega) (fun z => hP _ z ⟨by omega, by omega⟩)
  have e3 : dg3 h' w = dg3 h w := by
    unfold dg3 lgV szJ
    rw [o.i e hX.1 (a := w + 1) (by omega) hX.2, F, dgT.kept hT e o _ _ (by omega), dgR.kept hT e o _ _ (by omega)]
  unfold dgV
  rw [e3, F]
  by_cases c : hi h (w + 146) 0 = 0
  · rw [if_pos c, if_pos c]
  · rw [if_neg c, if_neg c]
    rcases kp with z | ⟨o', d, T, D, K, n, q⟩
    · exact absurd z c
    · have es : szJ h' w = szJ h w := by unfold szJ; rw [F]
      rw [es, dgK.kept (N := n) j (fun k z0 z1 => ?_) _ _ (by rw [q.2.1]; exact Nat.le_refl _)]
      unfold tpV
      rw [j.2.1]
      have lg := q.2.2.2.1 k z0 z1
      match hh : hr h (w + 147) k with
      | none => rfl
      | some a =>
        rcases lg with ⟨t, a', l1, l2, l3, -⟩ | ⟨l1, -⟩
        · cases hh.symm.trans l1
          obtain ⟨a', c, g1, g2, g3, -⟩ := hT.2.2.2.2.2.1 t l2.1 l2.2
          cases l3.symm.trans g1
          show hi h' a 0 = hi h a 0
          rw [o.i e hX.1 (a := a) (by omega) hX.2]
        · rw [hh] at l1
          cases l1
theorem Kept.kept (hT : TT h w X) (kp : Kept h w) (e : fm P R h h') (o : Off w X P R) (hP : ∀ a, P a → ¬ (w + 146 ≤ a ∧ a ≤ w + 153)) (hR : ∀ a, R a → a ≠ w + 147) : Kept h' w := by
  have hX := hT.2.2.2.2.2.2
  have F : hi h' (w + 146) = hi h (w + 146) := funext fun k => e.2.2.1 _ k (by omega) (fun z => hP _ z ⟨by omega, by omega⟩)
  rcases kp with z | ⟨o', d, T, D, K, n, q⟩
  · exact Or.inl (by rw [F]; exact z)
  · exact Or.inr ⟨o', d, T, D, K, n, q.kept hT e o hP hR⟩
end DGK
set_option maxRecDepth 100000 in
set_option maxHeartbeats 4000000 in
theorem s_mix {s v : Int} {h : Hp} (hv : inR v) : wp 26 0 (entL [vL s, vI v] (mL 26)) [] h (fun v' h' => v' = some (vL (s * 31 + v)) ∧ h' = h) noX := by
  refine wp_lload_n d_26_0 (by rfl) ?_
  refine wp_ldc2 (31) d_26_1 ck_0_275 (by decide) ?_
  refine wp_lmul d_26_4 ?_
  refine wp_iload_n d_26_5 (by rfl) ?_
  refine wp_i2l d_26_6 (by omega) ?_
  refine wp_ladd d_26_7 ?_
  refine wp_lret d_26_8 rfl ?_
  exact ⟨rfl, rfl⟩
set_option maxRecDepth 100000 in
set_option maxHeartbeats 4000000 in
theorem s_lateOf {w X : Nat} {t d : Int} {h : Hp} (hS : Sk h w) (hT : TT h w X) (h0 : 0 ≤ t ∧ t < hi h (w + 1) 7) (hd : 0 ≤ d ∧ d ≤ 365) : wp 27 0 (entL [vR (some w), vI t, vI d] (mL 27)) [] h (fun v h' => v = some (vI (ltV h (adT h w t) d)) ∧ h' = h) noX := by
  have hS9 := hS
  obtain ⟨⟨k1, k2, k3, k4, k5, k6, k7⟩, ⟨n1, ⟨n2, n3, n4, n5⟩, ⟨n6, n7⟩, ⟨n8, n9⟩, ⟨n10, n11⟩, n12, n13⟩, ⟨m1, ⟨m2, m3, m4⟩, ⟨m5, m6⟩, ⟨m7, m8⟩, m9, m10⟩, ⟨o1, ⟨o2, o3, o4⟩, ⟨o5, o6, o7⟩, ⟨o8, o9, o10⟩, o11, o12⟩, ⟨b1, ⟨b2, b3⟩, ⟨b4, b5, b6⟩, b7, b8, b9⟩, ⟨j1, ⟨j2, j3, j4, j5, j6, j7, j8⟩, ⟨j9, j10⟩, j11⟩⟩ := hS
  have hX := hT.2.2.2.2.2.2
  have hn := hT.1
  have hn7 := hT.2.2.1
  obtain ⟨ct, g1, g2, g3, gT, g5, gc, g6, g7, gC⟩ := adT_of hT (t := t) (by omega) (by omega)
  have hT0 := gT
  obtain ⟨tk1, ⟨u1, u2, u3, u4⟩, ⟨⟨v1, v2⟩, ⟨v3, v4⟩, ⟨v5, v6⟩, v7, v8⟩, t4, t5, t6, t7, t8⟩ := gT
  refine wp_aload_n d_27_0 (by rfl) ?_
  refine wp_iload_n d_27_1 (by rfl) ?_
  refine wp_callV d_27_2 c_27_135 rfl (by rfl) (by rfl) ⟨0, rfl, rfl, by decide⟩ (by assumption) (by exact Nat.le_of_ble_eq_true rfl) (by exact Nat.le_of_ble_eq_true rfl) (s_needTrip hS9 h0 hn7.2) (fun v_2 h_2 q_2 => ?_) (fun _ _ q => q.elim)
  obtain ⟨rfl, z_2⟩ := q_2
  replace z_2 := z_2.symm
  subst z_2
  refine wp_aload_n d_27_5 (by rfl) ?_
  refine wp_getR (0) d_27_6 fl_0_12 rfl rfl (by assumption) (by assumption) ?_
  refine wp_getR (3) d_27_9 fl_0_128 rfl rfl (by assumption) (by assumption) ?_
  refine wp_iload_n d_27_12 (by rfl) ?_
  refine wp_aald d_27_13 (by first | omega | (simp only [kd_setI, kd_cpI]; omega)) (by first | omega | (simp only [kd_setI, kd_cpI]; omega)) (by apply isRf_of; assumption; rfl) (by omega) (by omega) (by assumption) ?_
  refine wp_iload_n d_27_14 (by rfl) ?_
  refine wp_callV d_27_15 c_27_151 rfl (by rfl) (by rfl) ⟨11, rfl, rfl, by decide⟩ (by assumption) (by exact Nat.le_of_ble_eq_true rfl) (by exact Nat.le_of_ble_eq_true rfl) (s_hasRun hT0 gc gC (by omega)) (fun v_15 h_15 q_15 => ?_) (fun _ _ q => q.elim)
  obtain ⟨z_15, rfl, y_15, u_15⟩ := q_15
  replace y_15 := y_15.symm
  subst y_15
  have zz_15 : z_15 = 0 ∨ z_15 = 1 := by rcases u_15 with ⟨y, -⟩ | ⟨y, -⟩ <;> omega
  refine wp_if_eq (tgt := 38) d_27_18 (by decide) (by omega) (fun c_18 => ?_) (fun c_18 => ?_)
  · refine wp_iconst d_27_38 ?_
    refine wp_iret d_27_39 rfl ?_
    first
      | (refine ⟨congrArg (fun z => some (vI z)) ?_, rfl⟩; unfold ltV; rw [if_pos (u_15.resolve_right (fun y => by omega)).2]; done)
      | (refine ⟨congrArg (fun z => some (vI z)) ?_, rfl⟩; unfold ltV; rw [if_neg (u_15.resolve_left (fun y => by omega)).2]; done)
  · refine wp_aload_n d_27_21 (by rfl) ?_
    refine wp_getR (0) d_27_22 fl_0_12 rfl rfl (by assumption) (by assumption) ?_
    refine wp_getR (3) d_27_25 fl_0_128 rfl rfl (by assumption) (by assumption) ?_
    refine wp_iload_n d_27_28 (by rfl) ?_
    refine wp_aald d_27_29 (by first | omega | (simp only [kd_setI, kd_cpI]; omega)) (by first | omega | (simp only [kd_setI, kd_cpI]; omega)) (by apply isRf_of; assumption; rfl) (by omega) (by omega) (by assumption) ?_
    refine wp_getR (6) d_27_30 fl_0_148 rfl rfl (by assumption) (by assumption) ?_
    refine wp_iload_n d_27_33 (by rfl) ?_
    refine wp_iald d_27_34 (Or.inl (by assumption)) (by omega) (by omega) (fun x_34 e_34 r_34 => ?_)
    subst e_34
    refine wp_goto (tgt := 39) d_27_35 (by decide) ?_
    refine wp_iret d_27_39 rfl ?_
    first
      | (refine ⟨congrArg (fun z => some (vI z)) ?_, rfl⟩; unfold ltV; rw [if_pos (u_15.resolve_right (fun y => by omega)).2]; done)
      | (refine ⟨congrArg (fun z => some (vI z)) ?_, rfl⟩; unfold ltV; rw [if_neg (u_15.resolve_left (fun y => by omega)).2]; done)
theorem ltV_in {h : Hp} {n : Int} {a : Nat} {d : Int} (hT : TripOk h n a) : -1 ≤ ltV h a d ∧ ltV h a d ≤ 180 := by
  unfold ltV
  by_cases c : hasRn h a d
  · rw [if_pos c]
    exact hT.2.2.2.2.2.2.1 d c.1.1 c.1.2
  · rw [if_neg c]; omega
set_option maxRecDepth 100000 in
set_option maxHeartbeats 4000000 in
theorem l_dgC {w X : Nat} {h : Hp} (hS : Sk h w) (hT : TT h w X) {t s : Int} (h0 : 0 ≤ t ∧ t < hi h (w + 1) 7) {Q : Option AV → Hp → Prop} (kq : wp 25 26 [some (vR (some w)), some (vL (dgC h (adT h w t) s (hi h (adT h w t) 7).toNat)), none, some (vI (t + 1)), none] [] h Q noX) : ∀ (m k : Nat), (k : Int) + m = hi h (adT h w t) 7 → wp 25 57 [some (vR (some w)), some (vL (dgC h (adT h w t) s k)), none, some (vI (t)), some (vI ((k : Int)))] [] h Q noX := by
  have hS9 := hS
  obtain ⟨⟨k1, k2, k3, k4, k5, k6, k7⟩, ⟨n1, ⟨n2, n3, n4, n5⟩, ⟨n6, n7⟩, ⟨n8, n9⟩, ⟨n10, n11⟩, n12, n13⟩, ⟨m1, ⟨m2, m3, m4⟩, ⟨m5, m6⟩, ⟨m7, m8⟩, m9, m10⟩, ⟨o1, ⟨o2, o3, o4⟩, ⟨o5, o6, o7⟩, ⟨o8, o9, o10⟩, o11, o12⟩, ⟨b1, ⟨b2, b3⟩, ⟨b4, b5, b6⟩, b7, b8, b9⟩, ⟨j1, ⟨j2, j3, j4, j5, j6, j7, j8⟩, ⟨j9, j10⟩, j11⟩⟩ := hS
  have hX := hT.2.2.2.2.2.2
  have hn := hT.1
  have hn7 := hT.2.2.1
  obtain ⟨ct, g1, g2, g3, gT, g5, gc, g6, g7, gC⟩ := adT_of hT (t := t) (by omega) (by omega)
  have hT0 := gT
  obtain ⟨tk1, ⟨u1, u2, u3, u4⟩, ⟨⟨v1, v2⟩, ⟨v3, v4⟩, ⟨v5, v6⟩, v7, v8⟩, t4, t5, t6, t7, t8⟩ := gT
  intro m
  induction m with
  | zero =>
    intro k e0
    refine wp_iload d_25_57 (by rfl) ?_
    refine wp_aload_n d_25_59 (by rfl) ?_
    refine wp_getR (0) d_25_60 fl_0_12 rfl rfl (by assumption) (by assumption) ?_
    refine wp_getR (3) d_25_63 fl_0_128 rfl rfl (by assumption) (by assumption) ?_
    refine wp_iload_n d_25_66 (by rfl) ?_
    refine wp_aald d_25_67 (by first | omega | (simp only [kd_setI, kd_cpI]; omega)) (by first | omega | (simp only [kd_setI, kd_cpI]; omega)) (by apply isRf_of; assumption; rfl) (by omega) (by omega) (by assumption) ?_
    refine wp_getI (7) d_25_68 fl_0_142 rfl rfl (by assumption) (fun x_68 e_68 r_68 => ?_)
    subst e_68
    refine wp_icmp_ge (tgt := 100) d_25_71 (by decide) (by omega) (by omega) (fun c_71 => ?_) (fun c_71 => ?_)
    rotate_left
    · exact absurd c_71 (by omega)
    refine wp_iinc d_25_100 (by rfl) (by decide) ?_
    refine wp_goto (tgt := 26) d_25_103 (by decide) ?_
    refine wp_to [some (vR (some w)), some (vL (dgC h (adT h w t) s (hi h (adT h w t) 7).toNat)), none, some (vI (t + 1)), none] ⟨rfl, congrArg (fun z => some (vL z)) (by rw [show (hi h (adT h w t) 7).toNat = k by omega]), rfl, trivial⟩ ?_
    exact kq
  | succ m ih =>
    intro k e0
    have tk := t5 (k : Int) (by omega) (by omega)
    refine wp_iload d_25_57 (by rfl) ?_
    refine wp_aload_n d_25_59 (by rfl) ?_
    refine wp_getR (0) d_25_60 fl_0_12 rfl rfl (by assumption) (by assumption) ?_
    refine wp_getR (3) d_25_63 fl_0_128 rfl rfl (by assumption) (by assumption) ?_
    refine wp_iload_n d_25_66 (by rfl) ?_
    refine wp_aald d_25_67 (by first | omega | (simp only [kd_setI, kd_cpI]; omega)) (by first | omega | (simp only [kd_setI, kd_cpI]; omega)) (by apply isRf_of; assumption; rfl) (by omega) (by omega) (by assumption) ?_
    refine wp_getI (7) d_25_68 fl_0_142 rfl rfl (by assumption) (fun x_68 e_68 r_68 => ?_)
    subst e_68
    refine wp_icmp_ge (tgt := 100) d_25_71 (by decide) (by omega) (by omega) (fun c_71 => ?_) (fun c_71 => ?_)
    · exact absurd c_71 (by omega)
    refine wp_lload_n d_25_74 (by rfl) ?_
    refine wp_aload_n d_25_75 (by rfl) ?_
    refine wp_getR (0) d_25_76 fl_0_12 rfl rfl (by assumption) (by assumption) ?_
    refine wp_getR (3) d_25_79 fl_0_128 rfl rfl (by assumption) (by assumption) ?_
    refine wp_iload_n d_25_82 (by rfl) ?_
    refine wp_aald d_25_83 (by first | omega | (simp only [kd_setI, kd_cpI]; omega)) (by first | omega | (simp only [kd_setI, kd_cpI]; omega)) (by apply isRf_of; assumption; rfl) (by omega) (by omega) (by assumption) ?_
    refine wp_getR (3) d_25_84 fl_0_145 rfl rfl (by assumption) (by assumption) ?_
    refine wp_iload d_25_87 (by rfl) ?_
    refine wp_iald d_25_89 (Or.inl (by assumption)) (by omega) (by omega) (fun x_89 e_89 r_89 => ?_)
    subst e_89
    refine wp_callS d_25_90 c_25_264 rfl (by rfl) (by rfl) (by exact Nat.le_of_ble_eq_true rfl) (by exact Nat.le_of_ble_eq_true rfl) (s_mix (by omega)) (fun v_90 h_90 q_90 => ?_) (fun _ _ q => q.elim)
    obtain ⟨rfl, z_90⟩ := q_90
    replace z_90 := z_90.symm
    subst z_90
    refine wp_lstore_n d_25_93 (by decide) ?_
    refine wp_iinc d_25_94 (by rfl) (by decide) ?_
    refine wp_goto (tgt := 57) d_25_97 (by decide) ?_
    refine wp_to [some (vR (some w)), some (vL (dgC h (adT h w t) s (k + 1))), none, some (vI (t)), some (vI (((k + 1 : Nat) : Int)))] ⟨rfl, rfl, rfl, rfl, trivial⟩ ?_
    exact ih (k + 1) (by omega)
set_option maxRecDepth 100000 in
set_option maxHeartbeats 4000000 in
theorem l_dgT {w X : Nat} {h : Hp} (hS : Sk h w) (hT : TT h w X) {s : Int} {Q : Option AV → Hp → Prop} (kq : wp 25 108 [some (vR (some w)), some (vL (dgT h w s (hi h (w + 1) 7).toNat)), none, some (vI (0)), none] [] h Q noX) : ∀ (m t : Nat), (t : Int) + m = hi h (w + 1) 7 → wp 25 26 [some (vR (some w)), some (vL (dgT h w s t)), none, some (vI ((t : Int))), none] [] h Q noX := by
  have hS9 := hS
  obtain ⟨⟨k1, k2, k3, k4, k5, k6, k7⟩, ⟨n1, ⟨n2, n3, n4, n5⟩, ⟨n6, n7⟩, ⟨n8, n9⟩, ⟨n10, n11⟩, n12, n13⟩, ⟨m1, ⟨m2, m3, m4⟩, ⟨m5, m6⟩, ⟨m7, m8⟩, m9, m10⟩, ⟨o1, ⟨o2, o3, o4⟩, ⟨o5, o6, o7⟩, ⟨o8, o9, o10⟩, o11, o12⟩, ⟨b1, ⟨b2, b3⟩, ⟨b4, b5, b6⟩, b7, b8, b9⟩, ⟨j1, ⟨j2, j3, j4, j5, j6, j7, j8⟩, ⟨j9, j10⟩, j11⟩⟩ := hS
  have hX := hT.2.2.2.2.2.2
  have hn := hT.1
  have hn7 := hT.2.2.1
  intro m
  induction m with
  | zero =>
    intro t e0
    refine wp_iload_n d_25_26 (by rfl) ?_
    refine wp_aload_n d_25_27 (by rfl) ?_
    refine wp_getR (0) d_25_28 fl_0_12 rfl rfl (by assumption) (by assumption) ?_
    refine wp_getI (7) d_25_31 fl_0_117 rfl rfl (by assumption) (fun x_31 e_31 r_31 => ?_)
    subst e_31
    refine wp_icmp_ge (tgt := 106) d_25_34 (by decide) (by omega) (by omega) (fun c_34 => ?_) (fun c_34 => ?_)
    rotate_left
    · exact absurd c_34 (by omega)
    refine wp_iconst d_25_106 ?_
    refine wp_istore_n d_25_107 (by decide) ?_
    refine wp_to [some (vR (some w)), some (vL (dgT h w s (hi h (w + 1) 7).toNat)), none, some (vI (0)), none] ⟨rfl, congrArg (fun z => some (vL z)) (by rw [show (hi h (w + 1) 7).toNat = t by omega]), rfl, trivial⟩ ?_
    exact kq
  | succ m ih =>
    intro t e0
    obtain ⟨ct, g1, g2, g3, gT, g5, gc, g6, g7, gC⟩ := adT_of hT (t := t) (by omega) (by omega)
    have hT0 := gT
    obtain ⟨tk1, ⟨u1, u2, u3, u4⟩, ⟨⟨v1, v2⟩, ⟨v3, v4⟩, ⟨v5, v6⟩, v7, v8⟩, t4, t5, t6, t7, t8⟩ := gT
    refine wp_iload_n d_25_26 (by rfl) ?_
    refine wp_aload_n d_25_27 (by rfl) ?_
    refine wp_getR (0) d_25_28 fl_0_12 rfl rfl (by assumption) (by assumption) ?_
    refine wp_getI (7) d_25_31 fl_0_117 rfl rfl (by assumption) (fun x_31 e_31 r_31 => ?_)
    subst e_31
    refine wp_icmp_ge (tgt := 106) d_25_34 (by decide) (by omega) (by omega) (fun c_34 => ?_) (fun c_34 => ?_)
    · exact absurd c_34 (by omega)
    refine wp_lload_n d_25_37 (by rfl) ?_
    refine wp_aload_n d_25_38 (by rfl) ?_
    refine wp_getR (0) d_25_39 fl_0_12 rfl rfl (by assumption) (by assumption) ?_
    refine wp_getR (3) d_25_42 fl_0_128 rfl rfl (by assumption) (by assumption) ?_
    refine wp_iload_n d_25_45 (by rfl) ?_
    refine wp_aald d_25_46 (by first | omega | (simp only [kd_setI, kd_cpI]; omega)) (by first | omega | (simp only [kd_setI, kd_cpI]; omega)) (by apply isRf_of; assumption; rfl) (by omega) (by omega) (by assumption) ?_
    refine wp_getI (7) d_25_47 fl_0_142 rfl rfl (by assumption) (fun x_47 e_47 r_47 => ?_)
    subst e_47
    refine wp_callS d_25_50 c_25_264 rfl (by rfl) (by rfl) (by exact Nat.le_of_ble_eq_true rfl) (by exact Nat.le_of_ble_eq_true rfl) (s_mix (by omega)) (fun v_50 h_50 q_50 => ?_) (fun _ _ q => q.elim)
    obtain ⟨rfl, z_50⟩ := q_50
    replace z_50 := z_50.symm
    subst z_50
    refine wp_lstore_n d_25_53 (by decide) ?_
    refine wp_iconst d_25_54 ?_
    refine wp_istore d_25_55 (by decide) ?_
    refine wp_to [some (vR (some w)), some (vL (dgC h (adT h w t) (dgT h w s t * 31 + hi h (adT h w t) 7) 0)), none, some (vI ((t : Int))), some (vI (((0 : Nat) : Int)))] ⟨rfl, rfl, rfl, rfl, trivial⟩ ?_
    exact l_dgC hS9 hT (t := t) ⟨by omega, by omega⟩ (ih (t + 1) (by omega)) (hi h (adT h w t) 7).toNat 0 (by omega)
set_option maxRecDepth 100000 in
set_option maxHeartbeats 4000000 in
theorem l_dgL {w X : Nat} {h : Hp} (hS : Sk h w) (hT : TT h w X) {t s : Int} (h0 : 0 ≤ t ∧ t < hi h (w + 1) 7) {Q : Option AV → Hp → Prop} (kq : wp 25 108 [some (vR (some w)), some (vL (dgL h (adT h w t) s 7)), none, some (vI (t + 1)), none] [] h Q noX) : ∀ (m k : Nat), k + m = 7 → wp 25 122 [some (vR (some w)), some (vL (dgL h (adT h w t) s k)), none, some (vI (t)), some (vI ((k : Int)))] [] h Q noX := by
  have hS9 := hS
  obtain ⟨⟨k1, k2, k3, k4, k5, k6, k7⟩, ⟨n1, ⟨n2, n3, n4, n5⟩, ⟨n6, n7⟩, ⟨n8, n9⟩, ⟨n10, n11⟩, n12, n13⟩, ⟨m1, ⟨m2, m3, m4⟩, ⟨m5, m6⟩, ⟨m7, m8⟩, m9, m10⟩, ⟨o1, ⟨o2, o3, o4⟩, ⟨o5, o6, o7⟩, ⟨o8, o9, o10⟩, o11, o12⟩, ⟨b1, ⟨b2, b3⟩, ⟨b4, b5, b6⟩, b7, b8, b9⟩, ⟨j1, ⟨j2, j3, j4, j5, j6, j7, j8⟩, ⟨j9, j10⟩, j11⟩⟩ := hS
  have hX := hT.2.2.2.2.2.2
  have hn := hT.1
  have hn7 := hT.2.2.1
  obtain ⟨ct, g1, g2, g3, gT, g5, gc, g6, g7, gC⟩ := adT_of hT (t := t) (by omega) (by omega)
  have hT0 := gT
  obtain ⟨tk1, ⟨u1, u2, u3, u4⟩, ⟨⟨v1, v2⟩, ⟨v3, v4⟩, ⟨v5, v6⟩, v7, v8⟩, t4, t5, t6, t7, t8⟩ := gT
  intro m
  induction m with
  | zero =>
    intro k e0
    refine wp_iload d_25_122 (by rfl) ?_
    refine wp_bipush d_25_124 (by decide) ?_
    refine wp_icmp_ge (tgt := 147) d_25_126 (by decide) (by omega) (by omega) (fun c_126 => ?_) (fun c_126 => ?_)
    rotate_left
    · exact absurd c_126 (by omega)
    refine wp_iinc d_25_147 (by rfl) (by decide) ?_
    refine wp_goto (tgt := 108) d_25_150 (by decide) ?_
    refine wp_to [some (vR (some w)), some (vL (dgL h (adT h w t) s 7)), none, some (vI (t + 1)), none] ⟨rfl, congrArg (fun z => some (vL z)) (by rw [show k = 7 by omega]), rfl, trivial⟩ ?_
    exact kq
  | succ m ih =>
    intro k e0
    have lv := ltV_in hT0 (d := (k : Int))
    refine wp_iload d_25_122 (by rfl) ?_
    refine wp_bipush d_25_124 (by decide) ?_
    refine wp_icmp_ge (tgt := 147) d_25_126 (by decide) (by omega) (by omega) (fun c_126 => ?_) (fun c_126 => ?_)
    · exact absurd c_126 (by omega)
    refine wp_lload_n d_25_129 (by rfl) ?_
    refine wp_aload_n d_25_130 (by rfl) ?_
    refine wp_iload_n d_25_131 (by rfl) ?_
    refine wp_iload d_25_132 (by rfl) ?_
    refine wp_callV d_25_134 c_25_268 rfl (by rfl) (by rfl) ⟨0, rfl, rfl, by decide⟩ (by assumption) (by exact Nat.le_of_ble_eq_true rfl) (by exact Nat.le_of_ble_eq_true rfl) (s_lateOf hS9 hT h0 ⟨by omega, by omega⟩) (fun v_134 h_134 q_134 => ?_) (fun _ _ q => q.elim)
    obtain ⟨rfl, z_134⟩ := q_134
    replace z_134 := z_134.symm
    subst z_134
    refine wp_callS d_25_137 c_25_264 rfl (by rfl) (by rfl) (by exact Nat.le_of_ble_eq_true rfl) (by exact Nat.le_of_ble_eq_true rfl) (s_mix (by omega)) (fun v_137 h_137 q_137 => ?_) (fun _ _ q => q.elim)
    obtain ⟨rfl, z_137⟩ := q_137
    replace z_137 := z_137.symm
    subst z_137
    refine wp_lstore_n d_25_140 (by decide) ?_
    refine wp_iinc d_25_141 (by rfl) (by decide) ?_
    refine wp_goto (tgt := 122) d_25_144 (by decide) ?_
    refine wp_to [some (vR (some w)), some (vL (dgL h (adT h w t) s (k + 1))), none, some (vI (t)), some (vI (((k + 1 : Nat) : Int)))] ⟨rfl, rfl, rfl, rfl, trivial⟩ ?_
    exact ih (k + 1) (by omega)
set_option maxRecDepth 100000 in
set_option maxHeartbeats 4000000 in
theorem l_dgR {w X : Nat} {h : Hp} (hS : Sk h w) (hT : TT h w X) {s : Int} {Q : Option AV → Hp → Prop} (kq : wp 25 153 [some (vR (some w)), some (vL (dgR h w s (hi h (w + 1) 7).toNat)), none, none, none] [] h Q noX) : ∀ (m t : Nat), (t : Int) + m = hi h (w + 1) 7 → wp 25 108 [some (vR (some w)), some (vL (dgR h w s t)), none, some (vI ((t : Int))), none] [] h Q noX := by
  have hS9 := hS
  obtain ⟨⟨k1, k2, k3, k4, k5, k6, k7⟩, ⟨n1, ⟨n2, n3, n4, n5⟩, ⟨n6, n7⟩, ⟨n8, n9⟩, ⟨n10, n11⟩, n12, n13⟩, ⟨m1, ⟨m2, m3, m4⟩, ⟨m5, m6⟩, ⟨m7, m8⟩, m9, m10⟩, ⟨o1, ⟨o2, o3, o4⟩, ⟨o5, o6, o7⟩, ⟨o8, o9, o10⟩, o11, o12⟩, ⟨b1, ⟨b2, b3⟩, ⟨b4, b5, b6⟩, b7, b8, b9⟩, ⟨j1, ⟨j2, j3, j4, j5, j6, j7, j8⟩, ⟨j9, j10⟩, j11⟩⟩ := hS
  have hX := hT.2.2.2.2.2.2
  have hn := hT.1
  have hn7 := hT.2.2.1
  intro m
  induction m with
  | zero =>
    intro t e0
    refine wp_iload_n d_25_108 (by rfl) ?_
    refine wp_aload_n d_25_109 (by rfl) ?_
    refine wp_getR (0) d_25_110 fl_0_12 rfl rfl (by assumption) (by assumption) ?_
    refine wp_getI (7) d_25_113 fl_0_117 rfl rfl (by assumption) (fun x_113 e_113 r_113 => ?_)
    subst e_113
    refine wp_icmp_ge (tgt := 153) d_25_116 (by decide) (by omega) (by omega) (fun c_116 => ?_) (fun c_116 => ?_)
    rotate_left
    · exact absurd c_116 (by omega)
    refine wp_to [some (vR (some w)), some (vL (dgR h w s (hi h (w + 1) 7).toNat)), none, none, none] ⟨rfl, congrArg (fun z => some (vL z)) (by rw [show (hi h (w + 1) 7).toNat = t by omega]), trivial⟩ ?_
    exact kq
  | succ m ih =>
    intro t e0
    refine wp_iload_n d_25_108 (by rfl) ?_
    refine wp_aload_n d_25_109 (by rfl) ?_
    refine wp_getR (0) d_25_110 fl_0_12 rfl rfl (by assumption) (by assumption) ?_
    refine wp_getI (7) d_25_113 fl_0_117 rfl rfl (by assumption) (fun x_113 e_113 r_113 => ?_)
    subst e_113
    refine wp_icmp_ge (tgt := 153) d_25_116 (by decide) (by omega) (by omega) (fun c_116 => ?_) (fun c_116 => ?_)
    · exact absurd c_116 (by omega)
    refine wp_iconst d_25_119 ?_
    refine wp_istore d_25_120 (by decide) ?_
    refine wp_to [some (vR (some w)), some (vL (dgL h (adT h w t) (dgR h w s t) 0)), none, some (vI ((t : Int))), some (vI (((0 : Nat) : Int)))] ⟨rfl, rfl, rfl, rfl, trivial⟩ ?_
    exact l_dgL hS9 hT (t := t) ⟨by omega, by omega⟩ (ih (t + 1) (by omega)) 7 0 rfl
set_option maxRecDepth 100000 in
set_option maxHeartbeats 4000000 in
theorem l_dgK {w X : Nat} {h : Hp} (hS : Sk h w) (hT : TT h w X) {o d T D : Int} {K n : Nat} (kp : Kp h w o d T D K n) {s : Int} : ∀ (m k : Nat), k + m = n → wp 29 5 [some (vR (some w)), none, none, some (vL (dgK h w s k)), none, some (vI ((k : Int)))] [] h (fun v h' => v = some (vL (((dgK h w s (szJ h w).toNat * 31 + hi h (w + 146) 12) * 31 + hi h (w + 146) 13) * 31 + 1)) ∧ h' = h) noX := by
  intro m
  induction m with
  | zero =>
    intro k e0
    have hS9 := hS
    obtain ⟨⟨k1, k2, k3, k4, k5, k6, k7⟩, ⟨n1, ⟨n2, n3, n4, n5⟩, ⟨n6, n7⟩, ⟨n8, n9⟩, ⟨n10, n11⟩, n12, n13⟩, ⟨m1, ⟨m2, m3, m4⟩, ⟨m5, m6⟩, ⟨m7, m8⟩, m9, m10⟩, ⟨o1, ⟨o2, o3, o4⟩, ⟨o5, o6, o7⟩, ⟨o8, o9, o10⟩, o11, o12⟩, ⟨b1, ⟨b2, b3⟩, ⟨b4, b5, b6⟩, b7, b8, b9⟩, ⟨j1, ⟨j2, j3, j4, j5, j6, j7, j8⟩, ⟨j9, j10⟩, j11⟩⟩ := hS
    have hX := hT.2.2.2.2.2.2
    have hn := hT.1
    have hn7 := hT.2.2.1
    obtain ⟨x1, x2⟩ := j11 0 (by decide)
    obtain ⟨y1, y2⟩ := j11 1 (by decide)
    obtain ⟨z1, z2⟩ := j11 2 (by decide)
    obtain ⟨p1, p2⟩ := j11 3 (by decide)
    obtain ⟨q1, q2⟩ := j11 4 (by decide)
    obtain ⟨s1, s2⟩ := j11 5 (by decide)
    have p1 : kd h (w + 151) = 100 := p1
    have p2 : ln h (w + 151) = 13 := p2
    have q1 : kd h (w + 152) = 100 := q1
    have q2 : ln h (w + 152) = 13 := q2
    have s1 : kd h (w + 153) = 100 := s1
    have s2 : ln h (w + 153) = 13 := s2
    have szn : szJ h w = n := kp.2.1
    have sz0 : szJ h w = hi h (w + 146) 4 := rfl
    have n13 := kp.2.2.1
    refine wp_iload d_29_5 (by rfl) ?_
    refine wp_aload_n d_29_7 (by rfl) ?_
    refine wp_getR (6) d_29_8 fl_0_54 rfl rfl (by assumption) (by assumption) ?_
    refine wp_getI (4) d_29_11 fl_0_223 rfl rfl (by assumption) (fun x_11 e_11 r_11 => ?_)
    (try have r9_11 := r_11)
    subst e_11
    refine wp_icmp_ge (tgt := 82) d_29_14 (by decide) (by omega) (by omega) (fun c_14 => ?_) (fun c_14 => ?_)
    rotate_left
    · exact absurd c_14 (by omega)
    refine wp_lload_n d_29_82 (by rfl) ?_
    refine wp_aload_n d_29_83 (by rfl) ?_
    refine wp_getR (6) d_29_84 fl_0_54 rfl rfl (by assumption) (by assumption) ?_
    refine wp_getI (12) d_29_87 fl_0_237 rfl rfl (by assumption) (fun x_87 e_87 r_87 => ?_)
    (try have r9_87 := r_87)
    subst e_87
    refine wp_callS d_29_90 c_29_264 rfl (by rfl) (by rfl) (by exact Nat.le_of_ble_eq_true rfl) (by exact Nat.le_of_ble_eq_true rfl) (s_mix (by omega)) (fun v_90 h_90 q_90 => ?_) (fun _ _ q => q.elim)
    obtain ⟨rfl, z_90⟩ := q_90
    replace z_90 := z_90.symm
    subst z_90
    refine wp_lstore_n d_29_93 (by decide) ?_
    refine wp_lload_n d_29_94 (by rfl) ?_
    refine wp_aload_n d_29_95 (by rfl) ?_
    refine wp_getR (6) d_29_96 fl_0_54 rfl rfl (by assumption) (by assumption) ?_
    refine wp_getI (13) d_29_99 fl_0_240 rfl rfl (by assumption) (fun x_99 e_99 r_99 => ?_)
    (try have r9_99 := r_99)
    subst e_99
    refine wp_callS d_29_102 c_29_264 rfl (by rfl) (by rfl) (by exact Nat.le_of_ble_eq_true rfl) (by exact Nat.le_of_ble_eq_true rfl) (s_mix (by omega)) (fun v_102 h_102 q_102 => ?_) (fun _ _ q => q.elim)
    obtain ⟨rfl, z_102⟩ := q_102
    replace z_102 := z_102.symm
    subst z_102
    refine wp_lstore_n d_29_105 (by decide) ?_
    refine wp_lload_n d_29_106 (by rfl) ?_
    refine wp_aload_n d_29_107 (by rfl) ?_
    refine wp_getR (6) d_29_108 fl_0_54 rfl rfl (by assumption) (by assumption) ?_
    refine wp_aload_n d_29_111 (by rfl) ?_
    refine wp_getR (0) d_29_112 fl_0_12 rfl rfl (by assumption) (by assumption) ?_
    refine wp_callV d_29_115 c_29_243 rfl (by rfl) (by rfl) ⟨6, rfl, rfl, by decide⟩ (by assumption) (by exact Nat.le_of_ble_eq_true rfl) (by exact Nat.le_of_ble_eq_true rfl) (s_possible hS9 hT kp) (fun v_115 h_115 q_115 => ?_) (fun _ _ q => q.elim)
    obtain ⟨rfl, z_115⟩ := q_115
    replace z_115 := z_115.symm
    subst z_115
    refine wp_if_eq (tgt := 125) d_29_118 (by decide) (by omega) (fun c_118 => ?_) (fun c_118 => ?_)
    · exact absurd c_118 (by omega)
    refine wp_iconst d_29_121 ?_
    refine wp_goto (tgt := 126) d_29_122 (by decide) ?_
    refine wp_callS d_29_126 c_29_264 rfl (by rfl) (by rfl) (by exact Nat.le_of_ble_eq_true rfl) (by exact Nat.le_of_ble_eq_true rfl) (s_mix (by omega)) (fun v_126 h_126 q_126 => ?_) (fun _ _ q => q.elim)
    obtain ⟨rfl, z_126⟩ := q_126
    replace z_126 := z_126.symm
    subst z_126
    refine wp_lret d_29_129 rfl ?_
    exact ⟨congrArg (fun z => some (vL z)) (by rw [show (szJ h w).toNat = k by omega]), rfl⟩
  | succ m ih =>
    intro k e0
    have hS9 := hS
    obtain ⟨⟨k1, k2, k3, k4, k5, k6, k7⟩, ⟨n1, ⟨n2, n3, n4, n5⟩, ⟨n6, n7⟩, ⟨n8, n9⟩, ⟨n10, n11⟩, n12, n13⟩, ⟨m1, ⟨m2, m3, m4⟩, ⟨m5, m6⟩, ⟨m7, m8⟩, m9, m10⟩, ⟨o1, ⟨o2, o3, o4⟩, ⟨o5, o6, o7⟩, ⟨o8, o9, o10⟩, o11, o12⟩, ⟨b1, ⟨b2, b3⟩, ⟨b4, b5, b6⟩, b7, b8, b9⟩, ⟨j1, ⟨j2, j3, j4, j5, j6, j7, j8⟩, ⟨j9, j10⟩, j11⟩⟩ := hS
    have hX := hT.2.2.2.2.2.2
    have hn := hT.1
    have hn7 := hT.2.2.1
    obtain ⟨x1, x2⟩ := j11 0 (by decide)
    obtain ⟨y1, y2⟩ := j11 1 (by decide)
    obtain ⟨z1, z2⟩ := j11 2 (by decide)
    obtain ⟨p1, p2⟩ := j11 3 (by decide)
    obtain ⟨q1, q2⟩ := j11 4 (by decide)
    obtain ⟨s1, s2⟩ := j11 5 (by decide)
    have p1 : kd h (w + 151) = 100 := p1
    have p2 : ln h (w + 151) = 13 := p2
    have q1 : kd h (w + 152) = 100 := q1
    have q2 : ln h (w + 152) = 13 := q2
    have s1 : kd h (w + 153) = 100 := s1
    have s2 : ln h (w + 153) = 13 := s2
    have szn : szJ h w = n := kp.2.1
    have sz0 : szJ h w = hi h (w + 146) 4 := rfl
    have n13 := kp.2.2.1
    have lg := kp.2.2.2.1 (k : Int) (by omega) (by omega)
    have inr : ∀ b : Nat, ∀ x, inR x → inR x := fun _ _ z => z
    refine wp_iload d_29_5 (by rfl) ?_
    refine wp_aload_n d_29_7 (by rfl) ?_
    refine wp_getR (6) d_29_8 fl_0_54 rfl rfl (by assumption) (by assumption) ?_
    refine wp_getI (4) d_29_11 fl_0_223 rfl rfl (by assumption) (fun x_11 e_11 r_11 => ?_)
    subst e_11
    refine wp_icmp_ge (tgt := 82) d_29_14 (by decide) (by omega) (by omega) (fun c_14 => ?_) (fun c_14 => ?_)
    · exact absurd c_14 (by omega)
    refine wp_lload_n d_29_17 (by rfl) ?_
    refine wp_aload_n d_29_18 (by rfl) ?_
    refine wp_getR (6) d_29_19 fl_0_54 rfl rfl (by assumption) (by assumption) ?_
    refine wp_iload d_29_22 (by rfl) ?_
    refine wp_callV d_29_24 c_29_227 rfl (by rfl) (by rfl) ⟨6, rfl, rfl, by decide⟩ (by assumption) (by exact Nat.le_of_ble_eq_true rfl) (by exact Nat.le_of_ble_eq_true rfl) (s_tripOf hS9 ⟨by omega, by omega⟩ (fun a z => (lg.kind hT z).1)) (fun v_24 h_24 q_24 => ?_) (fun _ _ q => q.elim)
    obtain ⟨z_24, rfl, y_24, u_24⟩ := q_24
    replace y_24 := y_24.symm
    subst y_24
    have zt_24 : z_24 = tpV h w (k : Int) ∧ inR z_24 := by
      unfold tpV
      rcases u_24 with ⟨y, y2⟩ | ⟨a, y, y2⟩
      · rw [y]; exact ⟨y2, by omega⟩
      · rw [y]
        refine ⟨y2, ?_⟩
        rcases lg with ⟨t, a', l1, l2, l3, -⟩ | ⟨l1, -⟩
        · cases y.symm.trans l1
          obtain ⟨a', c, g1, g2, g3, g4, g5, -⟩ := hT.2.2.2.2.2.1 t l2.1 l2.2
          cases l3.symm.trans g1
          omega
        · rw [y] at l1
          cases l1
    have zi_24 := zt_24.2
    refine wp_callS d_29_27 c_29_264 rfl (by rfl) (by rfl) (by exact Nat.le_of_ble_eq_true rfl) (by exact Nat.le_of_ble_eq_true rfl) (s_mix (by omega)) (fun v_27 h_27 q_27 => ?_) (fun _ _ q => q.elim)
    obtain ⟨rfl, z_27⟩ := q_27
    replace z_27 := z_27.symm
    subst z_27
    refine wp_lstore_n d_29_30 (by decide) ?_
    refine wp_lload_n d_29_31 (by rfl) ?_
    refine wp_aload_n d_29_32 (by rfl) ?_
    refine wp_getR (6) d_29_33 fl_0_54 rfl rfl (by assumption) (by assumption) ?_
    refine wp_getR (9) d_29_36 fl_0_228 rfl rfl (by assumption) (by assumption) ?_
    refine wp_iload d_29_39 (by rfl) ?_
    refine wp_iald d_29_41 (Or.inl (by assumption)) (by omega) (by omega) (fun x_41 e_41 r_41 => ?_)
    subst e_41
    refine wp_callS d_29_42 c_29_264 rfl (by rfl) (by rfl) (by exact Nat.le_of_ble_eq_true rfl) (by exact Nat.le_of_ble_eq_true rfl) (s_mix (by omega)) (fun v_42 h_42 q_42 => ?_) (fun _ _ q => q.elim)
    obtain ⟨rfl, z_42⟩ := q_42
    replace z_42 := z_42.symm
    subst z_42
    refine wp_lstore_n d_29_45 (by decide) ?_
    refine wp_lload_n d_29_46 (by rfl) ?_
    refine wp_aload_n d_29_47 (by rfl) ?_
    refine wp_getR (6) d_29_48 fl_0_54 rfl rfl (by assumption) (by assumption) ?_
    refine wp_getR (10) d_29_51 fl_0_231 rfl rfl (by assumption) (by assumption) ?_
    refine wp_iload d_29_54 (by rfl) ?_
    refine wp_iald d_29_56 (Or.inl (by assumption)) (by omega) (by omega) (fun x_56 e_56 r_56 => ?_)
    subst e_56
    refine wp_callS d_29_57 c_29_264 rfl (by rfl) (by rfl) (by exact Nat.le_of_ble_eq_true rfl) (by exact Nat.le_of_ble_eq_true rfl) (s_mix (by omega)) (fun v_57 h_57 q_57 => ?_) (fun _ _ q => q.elim)
    obtain ⟨rfl, z_57⟩ := q_57
    replace z_57 := z_57.symm
    subst z_57
    refine wp_lstore_n d_29_60 (by decide) ?_
    refine wp_lload_n d_29_61 (by rfl) ?_
    refine wp_aload_n d_29_62 (by rfl) ?_
    refine wp_getR (6) d_29_63 fl_0_54 rfl rfl (by assumption) (by assumption) ?_
    refine wp_getR (11) d_29_66 fl_0_234 rfl rfl (by assumption) (by assumption) ?_
    refine wp_iload d_29_69 (by rfl) ?_
    refine wp_iald d_29_71 (Or.inl (by assumption)) (by omega) (by omega) (fun x_71 e_71 r_71 => ?_)
    subst e_71
    refine wp_callS d_29_72 c_29_264 rfl (by rfl) (by rfl) (by exact Nat.le_of_ble_eq_true rfl) (by exact Nat.le_of_ble_eq_true rfl) (s_mix (by omega)) (fun v_72 h_72 q_72 => ?_) (fun _ _ q => q.elim)
    obtain ⟨rfl, z_72⟩ := q_72
    replace z_72 := z_72.symm
    subst z_72
    refine wp_lstore_n d_29_75 (by decide) ?_
    refine wp_iinc d_29_76 (by rfl) (by decide) ?_
    refine wp_goto (tgt := 5) d_29_79 (by decide) ?_
    refine wp_to [some (vR (some w)), none, none, some (vL (dgK h w s (k + 1))), none, some (vI (((k + 1 : Nat) : Int)))] ⟨rfl, congrArg (fun z => some (vL z)) (by rw [zt_24.1]; rfl), rfl, trivial⟩ ?_
    exact ih (k + 1) (by omega)
set_option maxRecDepth 100000 in
set_option maxHeartbeats 4000000 in
theorem s_mixJ {w X : Nat} {h : Hp} (hS : Sk h w) (hT : TT h w X) {o d T D : Int} {K n : Nat} (kp : Kp h w o d T D K n) {s : Int} : wp 29 0 (entL [vR (some w), vL s] (mL 29)) [] h (fun v h' => v = some (vL (((dgK h w s (szJ h w).toNat * 31 + hi h (w + 146) 12) * 31 + hi h (w + 146) 13) * 31 + 1)) ∧ h' = h) noX := by
  refine wp_lload_n d_29_0 (by rfl) ?_
  refine wp_lstore_n d_29_1 (by decide) ?_
  refine wp_iconst d_29_2 ?_
  refine wp_istore d_29_3 (by decide) ?_
  refine wp_to [some (vR (some w)), none, none, some (vL (dgK h w s 0)), none, some (vI (((0 : Nat) : Int)))] ⟨rfl, rfl, rfl, trivial⟩ ?_
  exact l_dgK hS hT kp n 0 (by omega)
set_option maxRecDepth 100000 in
set_option maxHeartbeats 4000000 in
theorem l_dgE {w X : Nat} {h : Hp} (hS : Sk h w) (hT : TT h w X) (kp : Kept h w) : wp 25 153 [some (vR (some w)), some (vL (dgR h w (dgT h w ((2503 * 31 + hi h (w + 1) 4) * 31 + hi h (w + 1) 7) (hi h (w + 1) 7).toNat) (hi h (w + 1) 7).toNat)), none, none, none] [] h (fun v h' => v = some (vL (dgV h w)) ∧ h' = h) noX := by
  have hS9 := hS
  obtain ⟨⟨k1, k2, k3, k4, k5, k6, k7⟩, ⟨n1, ⟨n2, n3, n4, n5⟩, ⟨n6, n7⟩, ⟨n8, n9⟩, ⟨n10, n11⟩, n12, n13⟩, ⟨m1, ⟨m2, m3, m4⟩, ⟨m5, m6⟩, ⟨m7, m8⟩, m9, m10⟩, ⟨o1, ⟨o2, o3, o4⟩, ⟨o5, o6, o7⟩, ⟨o8, o9, o10⟩, o11, o12⟩, ⟨b1, ⟨b2, b3⟩, ⟨b4, b5, b6⟩, b7, b8, b9⟩, ⟨j1, ⟨j2, j3, j4, j5, j6, j7, j8⟩, ⟨j9, j10⟩, j11⟩⟩ := hS
  have hX := hT.2.2.2.2.2.2
  have hn := hT.1
  have hn7 := hT.2.2.1
  have lr : inR (lgV h w) := by
    unfold lgV
    rcases kp with z | ⟨o', d, T, D, K, n, q⟩
    · rw [if_pos z]; omega
    · have := q.1
      rw [if_neg (by omega), q.2.1]
      have := q.2.2.1
      omega
  refine wp_lload_n d_25_153 (by rfl) ?_
  refine wp_aload_n d_25_154 (by rfl) ?_
  refine wp_callV d_25_155 c_25_216 rfl (by rfl) (by rfl) ⟨0, rfl, rfl, by decide⟩ (by assumption) (by exact Nat.le_of_ble_eq_true rfl) (by exact Nat.le_of_ble_eq_true rfl) (s_legs hS9) (fun v_155 h_155 q_155 => ?_) (fun _ _ q => q.elim)
  obtain ⟨z_155, rfl, y_155, u_155⟩ := q_155
  replace y_155 := y_155.symm
  subst y_155
  obtain rfl : z_155 = lgV h w := by
    unfold lgV
    rcases u_155 with ⟨y1, y2⟩ | ⟨y1, y2⟩
    · rw [if_pos y1]; exact y2
    · rw [if_neg y1]; exact y2
  refine wp_callS d_25_158 c_25_264 rfl (by rfl) (by rfl) (by exact Nat.le_of_ble_eq_true rfl) (by exact Nat.le_of_ble_eq_true rfl) (s_mix (by omega)) (fun v_158 h_158 q_158 => ?_) (fun _ _ q => q.elim)
  obtain ⟨rfl, z_158⟩ := q_158
  replace z_158 := z_158.symm
  subst z_158
  refine wp_lstore_n d_25_161 (by decide) ?_
  refine wp_aload_n d_25_162 (by rfl) ?_
  refine wp_getR (6) d_25_163 fl_0_54 rfl rfl (by assumption) (by assumption) ?_
  refine wp_getI (0) d_25_166 fl_0_219 rfl rfl (by assumption) (fun x_166 e_166 r_166 => ?_)
  subst e_166
  refine wp_if_eq (tgt := 180) d_25_169 (by decide) (by omega) (fun c_169 => ?_) (fun c_169 => ?_)
  · refine wp_lload_n d_25_180 (by rfl) ?_
    refine wp_lret d_25_181 rfl ?_
    first
      | (refine ⟨congrArg (fun z => some (vL z)) ?_, rfl⟩; unfold dgV; rw [if_pos (by omega)]; rfl)
      | (refine ⟨congrArg (fun z => some (vL z)) ?_, rfl⟩; unfold dgV; rw [if_neg (by omega)]; rfl)
  · obtain ⟨o', d, T, D, K, n, kq⟩ := kp.resolve_left (by omega)
    refine wp_aload_n d_25_172 (by rfl) ?_
    refine wp_lload_n d_25_173 (by rfl) ?_
    refine wp_callV d_25_174 c_25_271 rfl (by rfl) (by rfl) ⟨0, rfl, rfl, by decide⟩ (by assumption) (by exact Nat.le_of_ble_eq_true rfl) (by exact Nat.le_of_ble_eq_true rfl) (s_mixJ hS9 hT kq) (fun v_174 h_174 q_174 => ?_) (fun _ _ q => q.elim)
    obtain ⟨rfl, z_174⟩ := q_174
    replace z_174 := z_174.symm
    subst z_174
    refine wp_goto (tgt := 181) d_25_177 (by decide) ?_
    refine wp_lret d_25_181 rfl ?_
    first
      | (refine ⟨congrArg (fun z => some (vL z)) ?_, rfl⟩; unfold dgV; rw [if_pos (by omega)]; rfl)
      | (refine ⟨congrArg (fun z => some (vL z)) ?_, rfl⟩; unfold dgV; rw [if_neg (by omega)]; rfl)
set_option maxRecDepth 100000 in
set_option maxHeartbeats 4000000 in
theorem s_digest {w X : Nat} {h : Hp} (hS : Sk h w) (hT : TT h w X) (kp : Kept h w) : wp 25 0 (entL [vR (some w)] (mL 25)) [] h (fun v h' => v = some (vL (dgV h w)) ∧ h' = h) noX := by
  have hS9 := hS
  obtain ⟨⟨k1, k2, k3, k4, k5, k6, k7⟩, ⟨n1, ⟨n2, n3, n4, n5⟩, ⟨n6, n7⟩, ⟨n8, n9⟩, ⟨n10, n11⟩, n12, n13⟩, ⟨m1, ⟨m2, m3, m4⟩, ⟨m5, m6⟩, ⟨m7, m8⟩, m9, m10⟩, ⟨o1, ⟨o2, o3, o4⟩, ⟨o5, o6, o7⟩, ⟨o8, o9, o10⟩, o11, o12⟩, ⟨b1, ⟨b2, b3⟩, ⟨b4, b5, b6⟩, b7, b8, b9⟩, ⟨j1, ⟨j2, j3, j4, j5, j6, j7, j8⟩, ⟨j9, j10⟩, j11⟩⟩ := hS
  have hX := hT.2.2.2.2.2.2
  have hn := hT.1
  have hn7 := hT.2.2.1
  refine wp_ldc2 (2503) d_25_0 ck_0_262 (by decide) ?_
  refine wp_aload_n d_25_3 (by rfl) ?_
  refine wp_getR (0) d_25_4 fl_0_12 rfl rfl (by assumption) (by assumption) ?_
  refine wp_getI (4) d_25_7 fl_0_66 rfl rfl (by assumption) (fun x_7 e_7 r_7 => ?_)
  subst e_7
  refine wp_callS d_25_10 c_25_264 rfl (by rfl) (by rfl) (by exact Nat.le_of_ble_eq_true rfl) (by exact Nat.le_of_ble_eq_true rfl) (s_mix (by omega)) (fun v_10 h_10 q_10 => ?_) (fun _ _ q => q.elim)
  obtain ⟨rfl, z_10⟩ := q_10
  replace z_10 := z_10.symm
  subst z_10
  refine wp_aload_n d_25_13 (by rfl) ?_
  refine wp_getR (0) d_25_14 fl_0_12 rfl rfl (by assumption) (by assumption) ?_
  refine wp_getI (7) d_25_17 fl_0_117 rfl rfl (by assumption) (fun x_17 e_17 r_17 => ?_)
  subst e_17
  refine wp_callS d_25_20 c_25_264 rfl (by rfl) (by rfl) (by exact Nat.le_of_ble_eq_true rfl) (by exact Nat.le_of_ble_eq_true rfl) (s_mix (by omega)) (fun v_20 h_20 q_20 => ?_) (fun _ _ q => q.elim)
  obtain ⟨rfl, z_20⟩ := q_20
  replace z_20 := z_20.symm
  subst z_20
  refine wp_lstore_n d_25_23 (by decide) ?_
  refine wp_iconst d_25_24 ?_
  refine wp_istore_n d_25_25 (by decide) ?_
  refine wp_to [some (vR (some w)), some (vL (dgT h w ((2503 * 31 + hi h (w + 1) 4) * 31 + hi h (w + 1) 7) 0)), none, some (vI (((0 : Nat) : Int))), none] ⟨rfl, rfl, rfl, trivial⟩ ?_
  refine l_dgT hS9 hT ?_ (hi h (w + 1) 7).toNat 0 (by omega)
  refine wp_to [some (vR (some w)), some (vL (dgR h w (dgT h w ((2503 * 31 + hi h (w + 1) 4) * 31 + hi h (w + 1) 7) (hi h (w + 1) 7).toNat) 0)), none, some (vI (((0 : Nat) : Int))), none] ⟨rfl, rfl, rfl, trivial⟩ ?_
  exact l_dgR hS9 hT (l_dgE hS9 hT kp) (hi h (w + 1) 7).toNat 0 (by omega)
