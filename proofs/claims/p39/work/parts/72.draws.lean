/-! ===== draws; a new table ===== -/
theorem vand_pos (x : Int) : 0 ≤ vand x 2147483647 ∧ vand x 2147483647 ≤ 2147483647 := by
  unfold vand
  have h1 : (Int32.ofInt x &&& Int32.ofInt 2147483647).toInt = ((Int32.ofInt x).toBitVec &&& (2147483647#32)).toInt := rfl
  rw [h1]
  have h2 : ((Int32.ofInt x).toBitVec &&& (2147483647#32)).toNat ≤ 2147483647 := by
    rw [BitVec.toNat_and]
    exact Nat.and_le_right
  rw [BitVec.toInt_eq_toNat_of_lt (by omega)]
  omega
set_option maxRecDepth 100000 in
set_option maxHeartbeats 4000000 in
theorem s_cell {sa : Nat} {k : Int} {h : Hp} (hk : kd h sa = 200) (hl : 0 ≤ ln h sa ∧ ln h sa ≤ 1000) (h0 : 0 ≤ k ∧ k ≤ 1000000) : wp 106 0 (entL [vR (some sa), vI k] (mL 106)) [] h (fun v h' => ∃ z, v = some (vI z) ∧ h' = h) noX := by
  refine wp_iload_n d_106_0 (by rfl) ?_
  refine wp_aload_n d_106_1 (by rfl) ?_
  refine wp_alen d_106_2 (by omega) ?_
  refine wp_icmp_ge (tgt := 12) d_106_3 (by decide) (by omega) (by omega) (fun c_3 => ?_) (fun c_3 => ?_)
  · refine wp_ldc (790386105) d_106_12 ck_13_8 (by decide) ?_
    refine wp_iload_n d_106_14 (by rfl) ?_
    refine wp_iconst d_106_15 ?_
    refine wp_iadd d_106_16 ?_
    refine wp_imul d_106_17 ?_
    refine wp_iret d_106_18 rfl ?_
    exact ⟨_, rfl, rfl⟩
  · refine wp_aload_n d_106_6 (by rfl) ?_
    refine wp_iload_n d_106_7 (by rfl) ?_
    refine wp_iald d_106_8 (Or.inr hk) (by omega) (by omega) (fun x_8 e_8 r_8 => ?_)
    subst e_8
    refine wp_goto (tgt := 18) d_106_9 (by decide) ?_
    refine wp_iret d_106_18 rfl ?_
    exact ⟨_, rfl, rfl⟩
set_option maxRecDepth 100000 in
set_option maxHeartbeats 4000000 in
theorem s_below {x n : Int} {h : Hp} (hn : 0 < n ∧ n ≤ 2147483647) : wp 107 0 (entL [vI x, vI n] (mL 107)) [] h (fun v h' => ∃ z, v = some (vI z) ∧ h' = h ∧ 0 ≤ z ∧ z < n) noX := by
  have vp := vand_pos x
  have t1 := Int.tmod_nonneg (a := vand x 2147483647) n vp.1
  have t2 := Int.tmod_lt_of_pos (vand x 2147483647) hn.1
  refine wp_iload_n d_107_0 (by rfl) ?_
  refine wp_ldc (2147483647) d_107_1 ck_13_7 (by decide) ?_
  refine wp_iand d_107_3 ?_
  refine wp_iload_n d_107_4 (by rfl) ?_
  refine wp_irem d_107_5 (by omega) (by omega) (by omega) ?_
  refine wp_iret d_107_6 rfl ?_
  exact ⟨_, rfl, rfl, t1, t2⟩
set_option maxRecDepth 100000 in
set_option maxHeartbeats 4000000 in
theorem s_draw {G sa : Nat} {n : Int} {h : Hp} (T : TbS h G sa) (hd : 0 ≤ hi h G 2 ∧ hi h G 2 ≤ 1000000) (hn : 0 < n ∧ n ≤ 2147483647) : wp 100 0 (entL [vR (some G), vI n] (mL 100)) [] h (fun v h' => ∃ z, v = some (vI z) ∧ (0 ≤ z ∧ z < n) ∧ h' = setI h G 2 (hi h G 2 + 1)) noX := by
  obtain ⟨⟨k0, r0, r1, -⟩, -, -, s1, s1b, -⟩ := T
  have m1 := Int.tmod_nonneg (a := hi h G 2) 24 hd.1
  have m2 := Int.tmod_lt_of_pos (hi h G 2) (by decide : (0 : Int) < 24)
  have m3 : 0 ≤ (hi h G 2).tdiv 24 := Int.tdiv_nonneg hd.1 (by decide)
  have m4 : (hi h G 2).tdiv 24 ≤ hi h G 2 := Int.tdiv_le_self 24 hd.1
  have m5 := Int.tmod_nonneg (a := (hi h G 2).tdiv 24) 8 m3
  have m6 := Int.tmod_lt_of_pos ((hi h G 2).tdiv 24) (by decide : (0 : Int) < 8)
  refine wp_aload_n d_100_0 (by rfl) ?_
  refine wp_getR (1) d_100_1 fl_12_52 rfl rfl (by assumption) (by assumption) ?_
  refine wp_aload_n d_100_4 (by rfl) ?_
  refine wp_getI (2) d_100_5 fl_12_55 rfl rfl (by assumption) (fun x_5 e_5 r_5 => ?_)
  subst e_5
  refine wp_bipush d_100_8 (by decide) ?_
  refine wp_irem d_100_10 (by omega) (by omega) (by omega) ?_
  refine wp_callSn d_100_11 c_100_59 rfl (by rfl) (by rfl) (by exact Nat.le_of_ble_eq_true rfl) (by exact Nat.le_of_ble_eq_true rfl) (s_cell s1 s1b ⟨by omega, by omega⟩) (fun v_11 h_11 q_11 => ?_) (fun _ _ q => q.elim)
  obtain ⟨z_11, rfl, y_11⟩ := q_11
  replace y_11 := y_11.symm
  subst y_11
  refine wp_aload_n d_100_14 (by rfl) ?_
  refine wp_getI (2) d_100_15 fl_12_55 rfl rfl (by assumption) (fun x_15 e_15 r_15 => ?_)
  subst e_15
  refine wp_bipush d_100_18 (by decide) ?_
  refine wp_idiv d_100_20 (by omega) (by omega) (by omega) ?_
  refine wp_bipush d_100_21 (by decide) ?_
  refine wp_irem d_100_23 (by omega) (by omega) (by omega) ?_
  refine wp_ishr d_100_24 ?_
  refine wp_bipush d_100_25 (by decide) ?_
  refine wp_aload_n d_100_27 (by rfl) ?_
  refine wp_getI (2) d_100_28 fl_12_55 rfl rfl (by assumption) (fun x_28 e_28 r_28 => ?_)
  subst e_28
  refine wp_imul d_100_31 ?_
  refine wp_iadd d_100_32 ?_
  refine wp_iload_n d_100_33 (by rfl) ?_
  refine wp_callSn d_100_34 c_100_65 rfl (by rfl) (by rfl) (by exact Nat.le_of_ble_eq_true rfl) (by exact Nat.le_of_ble_eq_true rfl) (s_below hn) (fun v_34 h_34 q_34 => ?_) (fun _ _ q => q.elim)
  obtain ⟨z_34, rfl, y_34, u_34⟩ := q_34
  replace y_34 := y_34.symm
  subst y_34
  refine wp_istore_n d_100_37 (by decide) ?_
  refine wp_aload_n d_100_38 (by rfl) ?_
  refine wp_dup d_100_39 (by rfl) ?_
  refine wp_getI (2) d_100_40 fl_12_55 rfl rfl (by assumption) (fun x_40 e_40 r_40 => ?_)
  subst e_40
  refine wp_iconst d_100_43 ?_
  refine wp_iadd d_100_44 ?_
  refine wp_putI (2) d_100_45 fl_12_55 rfl rfl (Or.inl (by rfl)) (by assumption) (by omega) (fun q => nomatch q) ?_
  refine wp_iload_n d_100_48 (by rfl) ?_
  refine wp_iret d_100_49 rfl ?_
  exact ⟨_, rfl, u_34, rfl⟩
/-- an array made and put into a field -/
def StO (h h' : Hp) (a K : Nat) (n k : Int) : Prop := fm nP (fun b => b = a) h h' ∧ nx h' = nx h + 1 ∧ (us h' : Int) = us h + n ∧ (kd h' (nx h) = K ∧ ln h' (nx h) = n) ∧ hr h' a k = some (nx h) ∧ ∀ j, j ≠ k → hr h' a j = hr h a j
def StM (h h' : Hp) (a : Nat) (n L k : Int) : Prop := fm nP (fun b => b = a) h h' ∧ (nx h' : Int) = nx h + 1 + n ∧ (us h' : Int) = us h + n + n * L ∧ (MxA h' (nx h) 103 100 n L ∧ ∀ r : Nat, (r : Int) < n → ∀ j, hi h' (nx h + 1 + r) j = 0) ∧ hr h' a k = some (nx h) ∧ ∀ j, j ≠ k → hr h' a j = hr h a j
def StZ (h h' : Hp) (a : Nat) (n L k : Int) : Prop := fm nP (fun b => b = a) h h' ∧ (nx h' : Int) = nx h + 1 + n ∧ (us h' : Int) = us h + n + n * L ∧ MxA h' (nx h) 108 102 n L ∧ hr h' a k = some (nx h) ∧ ∀ j, j ≠ k → hr h' a j = hr h a j
theorem AnK {h : Hp} {a K : Nat} {n k : Int} (ha : a < nx h) (hn : 0 ≤ n) : StO h (setR (mkO h K n) a k (some (nx h))) a K n k := by
  have hne : ∀ b, b < nx h → ¬ b = nx h := fun b z => by omega
  refine ⟨⟨by show nx h ≤ nx h + 1; omega, fun b z => ⟨?_, ?_⟩, fun b j z _ => ?_, fun b j z y => ?_, rfl, rfl⟩, rfl, ?_, ⟨?_, ?_⟩, ?_, fun j hj => ?_⟩
  · rw [kd_setR, kd_mkO, up1_ne _ _ (hne b z)]
  · rw [ln_setR, ln_mkO, up1_ne _ _ (hne b z)]
  · rw [hi_setR, hi_mkO, up1_ne _ _ (hne b z)]
  · rw [hr_setR, up2_ne _ _ (fun x => y x.1), hr_mkO, up1_ne _ _ (hne b z)]
  · rw [us_setR, us_mkO]; omega
  · rw [kd_setR, kd_mkO, up1_same]
  · rw [ln_setR, ln_mkO, up1_same]
  · rw [hr_setR, up2_same]
  · rw [hr_setR, up2_ne _ _ (fun x => hj x.2), hr_mkO, up1_ne _ _ (hne a ha)]
theorem MnM {h : Hp} {a : Nat} {n L k : Int} (ha : a < nx h) (hn : 0 ≤ n) (hL : 0 ≤ L) : StM h (setR (mkM h n L) a k (some (nx h))) a n L k := by
  have e := fun b (hb : b < nx h) => eqA_mkM (h := h) (n := n) (k := L) hb
  refine ⟨⟨by show nx h ≤ nx h + 1 + n.toNat; omega, fun b z => ⟨(e b z).1, (e b z).2.1⟩, fun b j z _ => (e b z).2.2.1 j, fun b j z y => ?_, rfl, rfl⟩, ?_, ?_, ⟨⟨?_, ?_, fun r hr_ => ⟨?_, ?_, ?_⟩⟩, fun r hr_ j => ?_⟩, ?_, fun j hj => ?_⟩
  · rw [hr_setR, up2_ne _ _ (fun x => y x.1)]; exact (e b z).2.2.2.1 j
  · rw [nx_setR, nx_mkM]; omega
  · rw [us_setR, us_mkM]
    have h1 : ((n.toNat * L.toNat : Nat) : Int) = n * L := by rw [Int.natCast_mul, Int.toNat_of_nonneg hn, Int.toNat_of_nonneg hL]
    omega
  · rw [kd_setR, kd_mkM, if_pos rfl]
  · rw [ln_setR, ln_mkM, if_pos rfl]
  · rw [hr_setR, up2_ne _ _ (fun x => by omega), hr_mkM, if_pos rfl]
    show (if 0 ≤ (r : Int) ∧ (r : Int) < n then _ else _) = _
    rw [if_pos ⟨by omega, hr_⟩, Int.toNat_natCast]
  · rw [kd_setR, kd_mkM, if_neg (by omega), if_pos (by omega)]
  · rw [ln_setR, ln_mkM, if_neg (by omega), if_pos (by omega)]
  · rw [hi_setR, hi_mkM, if_pos (by omega)]
  · rw [hr_setR, up2_same]
  · rw [hr_setR, up2_ne _ _ (fun x => hj x.2)]; exact (e a ha).2.2.2.1 j
theorem MnZ {h : Hp} {a : Nat} {n L k : Int} (ha : a < nx h) (hn : 0 ≤ n) (hL : 0 ≤ L) : StZ h (setR (mkZ h n L) a k (some (nx h))) a n L k := by
  have e : ∀ b, b < nx h → eqA h (mkZ h n L) b := fun b hb => by
    refine ⟨?_, ?_, fun q => ?_, fun q => ?_, fun q => ?_⟩
    · rw [kd_mkZ, if_neg (by omega), if_neg (by omega)]
    · rw [ln_mkZ, if_neg (by omega), if_neg (by omega)]
    · rw [hi_mkZ, if_neg (by omega)]
    · rw [hr_mkZ, if_neg (by omega), if_neg (by omega)]
    · rw [hl_mkZ, if_neg (by omega)]
  refine ⟨⟨by show nx h ≤ nx h + 1 + n.toNat; omega, fun b z => ⟨(e b z).1, (e b z).2.1⟩, fun b j z _ => (e b z).2.2.1 j, fun b j z y => ?_, rfl, rfl⟩, ?_, ?_, ⟨?_, ?_, fun r hr_ => ⟨?_, ?_, ?_⟩⟩, ?_, fun j hj => ?_⟩
  · rw [hr_setR, up2_ne _ _ (fun x => y x.1)]; exact (e b z).2.2.2.1 j
  · rw [nx_setR, nx_mkZ]; omega
  · rw [us_setR, us_mkZ]
    have h1 : ((n.toNat * L.toNat : Nat) : Int) = n * L := by rw [Int.natCast_mul, Int.toNat_of_nonneg hn, Int.toNat_of_nonneg hL]
    omega
  · rw [kd_setR, kd_mkZ, if_pos rfl]
  · rw [ln_setR, ln_mkZ, if_pos rfl]
  · rw [hr_setR, up2_ne _ _ (fun x => by omega), hr_mkZ, if_pos rfl]
    show (if 0 ≤ (r : Int) ∧ (r : Int) < n then _ else _) = _
    rw [if_pos ⟨by omega, hr_⟩, Int.toNat_natCast]
  · rw [kd_setR, kd_mkZ, if_neg (by omega), if_pos (by omega)]
  · rw [ln_setR, ln_mkZ, if_neg (by omega), if_pos (by omega)]
  · rw [hr_setR, up2_same]
  · rw [hr_setR, up2_ne _ _ (fun x => hj x.2)]; exact (e a ha).2.2.2.1 j
/-- a table as it is made; G is where it stands -/
def TbN (h h' : Hp) (sa : Nat) (D : Int) : Prop := fm nP nP h h' ∧ nx h' = nx h + 200 ∧ us h' = us h + 4112 ∧ TbS h' (nx h) sa ∧ Sk h' (nx h + 1) ∧ ((hi h' (nx h + 1 + 1) 4 = 0 ∧ hi h' (nx h + 1 + 1) 5 = 0 ∧ hi h' (nx h + 1 + 1) 6 = 0 ∧ hi h' (nx h + 1 + 1) 7 = 0) ∧ ∀ k, hi h' (nx h + 1 + 2) k = 0) ∧ (∀ A B, nx h' + A + 20438 ≤ cn h → us h' + B + 735744 ≤ cs h → FaS h' (nx h + 1) (nx h') 0 A B ∧ Low h' (nx h + 1)) ∧ hi h' (nx h + 1 + 146) 0 = 0 ∧ (hi h' (nx h) 2 = D ∧ hi h' (nx h) 3 = 0 ∧ hi h' (nx h) 5 = 0 ∧ hi h' (nx h) 7 = 0 ∧ hi h' (nx h) 9 = 0) ∧ ∀ (r : Nat) j, r < 8 → hi h' (nx h + 192 + r) j = 0
def TbM (h h9 g10 : Hp) : Prop := fm nP nP h g10 ∧ fm nP (fun b => b = nx h) h9 g10 ∧ (nx g10 = nx h + 200 ∧ us g10 = us h + 4112 ∧ cn g10 = cn h ∧ cs g10 = cs h) ∧ kd g10 (nx h) = 13 ∧ hr g10 (nx h) 0 = some (nx h + 1) ∧ (hr g10 (nx h) 4 = some (nx h + 155) ∧ hr g10 (nx h) 6 = some (nx h + 156) ∧ hr g10 (nx h) 8 = some (nx h + 157) ∧ hr g10 (nx h) 10 = some (nx h + 161) ∧ hr g10 (nx h) 11 = some (nx h + 162) ∧ hr g10 (nx h) 12 = some (nx h + 163) ∧ hr g10 (nx h) 13 = some (nx h + 164) ∧ hr g10 (nx h) 14 = some (nx h + 173) ∧ hr g10 (nx h) 15 = some (nx h + 182) ∧ hr g10 (nx h) 16 = some (nx h + 191)) ∧ ((kd g10 (nx h + 155) = 100 ∧ ln g10 (nx h + 155) = 7) ∧ (kd g10 (nx h + 156) = 103 ∧ ln g10 (nx h + 156) = 8) ∧ MxA g10 (nx h + 157) 108 102 3 12 ∧ (kd g10 (nx h + 161) = 100 ∧ ln g10 (nx h + 161) = 8) ∧ (kd g10 (nx h + 162) = 100 ∧ ln g10 (nx h + 162) = 8) ∧ (kd g10 (nx h + 163) = 100 ∧ ln g10 (nx h + 163) = 8) ∧ MxA g10 (nx h + 164) 103 100 8 5 ∧ MxA g10 (nx h + 173) 103 100 8 5 ∧ MxA g10 (nx h + 182) 103 100 8 5 ∧ MxA g10 (nx h + 191) 103 100 8 12) ∧ (∀ k, hi g10 (nx h) k = 0) ∧ ∀ (r : Nat) j, r < 8 → hi g10 (nx h + 192 + r) j = 0
theorem tb_made {h h9 g0 g1 g2 g3 g4 g5 g6 g7 g8 g9 g10 : Hp} (F0 : fm nP nP h g0) (W0 : fm nP (fun b => b = nx h) h9 g0) (N0 : (nx g0 : Int) = nx h + 155) (U0 : (us g0 : Int) = us h + 3786) (cn0 : cn g0 = cn h) (cs0 : cs g0 = cs h) (k0 : kd g0 (nx h) = 13) (z0 : ∀ k, hi g0 (nx h) k = 0) (hr0 : hr g0 (nx h) 0 = some (nx h + 1)) (S1 : StO g0 g1 (nx h) 100 7 (4)) (S2 : StO g1 g2 (nx h) 103 8 (6)) (S3 : StZ g2 g3 (nx h) 3 12 (8)) (S4 : StO g3 g4 (nx h) 100 8 (10)) (S5 : StO g4 g5 (nx h) 100 8 (11)) (S6 : StO g5 g6 (nx h) 100 8 (12)) (S7 : StM g6 g7 (nx h) 8 5 (13)) (S8 : StM g7 g8 (nx h) 8 5 (14)) (S9 : StM g8 g9 (nx h) 8 5 (15)) (S10 : StM g9 g10 (nx h) 8 12 (16)) : TbM h h9 g10 := by
  obtain ⟨F1, N1, U1, Z1, R1, O1⟩ := S1
  obtain ⟨F2, N2, U2, Z2, R2, O2⟩ := S2
  obtain ⟨F3, N3, U3, Z3, R3, O3⟩ := S3
  obtain ⟨F4, N4, U4, Z4, R4, O4⟩ := S4
  obtain ⟨F5, N5, U5, Z5, R5, O5⟩ := S5
  obtain ⟨F6, N6, U6, Z6, R6, O6⟩ := S6
  obtain ⟨F7, N7, U7, Z7, R7, O7⟩ := S7
  obtain ⟨F8, N8, U8, Z8, R8, O8⟩ := S8
  obtain ⟨F9, N9, U9, Z9, R9, O9⟩ := S9
  obtain ⟨F10, N10, U10, Z10, R10, O10⟩ := S10
  have T10 : fm nP (fun b => b = nx h) g10 g10 := fm.rfl
  have T9 : fm nP (fun b => b = nx h) g9 g10 := F10.trans T10
  have T8 : fm nP (fun b => b = nx h) g8 g10 := F9.trans T9
  have T7 : fm nP (fun b => b = nx h) g7 g10 := F8.trans T8
  have T6 : fm nP (fun b => b = nx h) g6 g10 := F7.trans T7
  have T5 : fm nP (fun b => b = nx h) g5 g10 := F6.trans T6
  have T4 : fm nP (fun b => b = nx h) g4 g10 := F5.trans T5
  have T3 : fm nP (fun b => b = nx h) g3 g10 := F4.trans T4
  have T2 : fm nP (fun b => b = nx h) g2 g10 := F3.trans T3
  have T1 : fm nP (fun b => b = nx h) g1 g10 := F2.trans T2
  have T0 : fm nP (fun b => b = nx h) g0 g10 := F1.trans T1
  have M0 : nx g0 = nx h + 155 := by omega
  have M1 : nx g1 = nx h + 156 := by omega
  have M2 : nx g2 = nx h + 157 := by omega
  have M3 : nx g3 = nx h + 161 := by omega
  have M4 : nx g4 = nx h + 162 := by omega
  have M5 : nx g5 = nx h + 163 := by omega
  have M6 : nx g6 = nx h + 164 := by omega
  have M7 : nx g7 = nx h + 173 := by omega
  have M8 : nx g8 = nx h + 182 := by omega
  have M9 : nx g9 = nx h + 191 := by omega
  have M10 : nx g10 = nx h + 200 := by omega
  have H1 : hr g10 (nx h) 4 = some (nx h + 155) := by rw [O10 4 (by decide), O9 4 (by decide), O8 4 (by decide), O7 4 (by decide), O6 4 (by decide), O5 4 (by decide), O4 4 (by decide), O3 4 (by decide), O2 4 (by decide), R1, M0]
  have Q1 : kd g10 (nx h + 155) = 100 ∧ ln g10 (nx h + 155) = 7 := by
    rw [M0] at Z1
    exact ⟨(T1.2.1 _ (by omega)).1.trans Z1.1, (T1.2.1 _ (by omega)).2.trans Z1.2⟩
  have H2 : hr g10 (nx h) 6 = some (nx h + 156) := by rw [O10 6 (by decide), O9 6 (by decide), O8 6 (by decide), O7 6 (by decide), O6 6 (by decide), O5 6 (by decide), O4 6 (by decide), O3 6 (by decide), R2, M1]
  have Q2 : kd g10 (nx h + 156) = 103 ∧ ln g10 (nx h + 156) = 8 := by
    rw [M1] at Z2
    exact ⟨(T2.2.1 _ (by omega)).1.trans Z2.1, (T2.2.1 _ (by omega)).2.trans Z2.2⟩
  have H3 : hr g10 (nx h) 8 = some (nx h + 157) := by rw [O10 8 (by decide), O9 8 (by decide), O8 8 (by decide), O7 8 (by decide), O6 8 (by decide), O5 8 (by decide), O4 8 (by decide), R3, M2]
  have Q3 : MxA g10 (nx h + 157) 108 102 3 12 := by
    rw [M2] at Z3
    exact Z3.kept T3 (by omega) (by omega) (by omega)
  have H4 : hr g10 (nx h) 10 = some (nx h + 161) := by rw [O10 10 (by decide), O9 10 (by decide), O8 10 (by decide), O7 10 (by decide), O6 10 (by decide), O5 10 (by decide), R4, M3]
  have Q4 : kd g10 (nx h + 161) = 100 ∧ ln g10 (nx h + 161) = 8 := by
    rw [M3] at Z4
    exact ⟨(T4.2.1 _ (by omega)).1.trans Z4.1, (T4.2.1 _ (by omega)).2.trans Z4.2⟩
  have H5 : hr g10 (nx h) 11 = some (nx h + 162) := by rw [O10 11 (by decide), O9 11 (by decide), O8 11 (by decide), O7 11 (by decide), O6 11 (by decide), R5, M4]
  have Q5 : kd g10 (nx h + 162) = 100 ∧ ln g10 (nx h + 162) = 8 := by
    rw [M4] at Z5
    exact ⟨(T5.2.1 _ (by omega)).1.trans Z5.1, (T5.2.1 _ (by omega)).2.trans Z5.2⟩
  have H6 : hr g10 (nx h) 12 = some (nx h + 163) := by rw [O10 12 (by decide), O9 12 (by decide), O8 12 (by decide), O7 12 (by decide), R6, M5]
  have Q6 : kd g10 (nx h + 163) = 100 ∧ ln g10 (nx h + 163) = 8 := by
    rw [M5] at Z6
    exact ⟨(T6.2.1 _ (by omega)).1.trans Z6.1, (T6.2.1 _ (by omega)).2.trans Z6.2⟩
  have H7 : hr g10 (nx h) 13 = some (nx h + 164) := by rw [O10 13 (by decide), O9 13 (by decide), O8 13 (by decide), R7, M6]
  have Q7 : MxA g10 (nx h + 164) 103 100 8 5 := by
    rw [M6] at Z7
    exact Z7.1.kept T7 (by omega) (by omega) (by omega)
  have H8 : hr g10 (nx h) 14 = some (nx h + 173) := by rw [O10 14 (by decide), O9 14 (by decide), R8, M7]
  have Q8 : MxA g10 (nx h + 173) 103 100 8 5 := by
    rw [M7] at Z8
    exact Z8.1.kept T8 (by omega) (by omega) (by omega)
  have H9 : hr g10 (nx h) 15 = some (nx h + 182) := by rw [O10 15 (by decide), R9, M8]
  have Q9 : MxA g10 (nx h + 182) 103 100 8 5 := by
    rw [M8] at Z9
    exact Z9.1.kept T9 (by omega) (by omega) (by omega)
  have H10 : hr g10 (nx h) 16 = some (nx h + 191) := by rw [R10, M9]
  have Q10 : MxA g10 (nx h + 191) 103 100 8 12 := by
    rw [M9] at Z10
    exact Z10.1.kept T10 (by omega) (by omega) (by omega)
  have H0 : hr g10 (nx h) 0 = some (nx h + 1) := by rw [O10 0 (by decide), O9 0 (by decide), O8 0 (by decide), O7 0 (by decide), O6 0 (by decide), O5 0 (by decide), O4 0 (by decide), O3 0 (by decide), O2 0 (by decide), O1 0 (by decide)]; exact hr0
  have zG : ∀ k, hi g10 (nx h) k = 0 := fun k => (T0.2.2.1 _ k (by omega) (fun z => z)).trans (z0 k)
  have cn10 : cn g10 = cn h := T0.2.2.2.2.1.trans cn0
  have cs10 : cs g10 = cs h := T0.2.2.2.2.2.trans cs0
  have k10 : kd g10 (nx h) = 13 := (T0.2.1 _ (by omega)).1.trans k0
  refine ⟨⟨by omega, fun x hx => ⟨(T0.2.1 x (by omega)).1.trans (F0.2.1 x hx).1, (T0.2.1 x (by omega)).2.trans (F0.2.1 x hx).2⟩, fun x k hx _ => (T0.2.2.1 x k (by omega) (fun z => z)).trans (F0.2.2.1 x k hx (fun z => z)), fun x k hx _ => (T0.2.2.2.1 x k (by omega) (fun z => by have z : x = nx h := z; omega)).trans (F0.2.2.2.1 x k hx (fun z => z)), cn10, cs10⟩, W0.trans T0, ⟨by omega, by omega, cn10, cs10⟩, k10, H0, ⟨H1, H2, H3, H4, H5, H6, H7, H8, H9, H10⟩, ⟨Q1, Q2, Q3, Q4, Q5, Q6, Q7, Q8, Q9, Q10⟩, zG, fun r j hr8 => ?_⟩
  have := Z10.2 r (by omega) j
  rw [M9] at this
  rw [show nx h + 192 + r = nx h + 191 + 1 + r by omega]
  exact this
theorem tb_end {h h9 g10 : Hp} {sa : Nat} {D : Int} (q : TbM h h9 g10) (WS : WsN h9 (nx h + 1)) (hk : kd h sa = 200) (hl : 0 ≤ ln h sa ∧ ln h sa ≤ 1000) (hsa : sa < nx h) (wn : nx h9 = nx h + 1 + 154) (wu : us h9 = us h + 24 + 3762) (wc : cn h9 = cn h) (wd : cs h9 = cs h) : TbN h (setI (setR g10 (nx h) 1 (some sa)) (nx h) 2 D) sa D := by
  have WSK := WS
  obtain ⟨E10, W10, ⟨M10, MU, cn10, cs10⟩, k10, H0, ⟨H1, H2, H3, H4, H5, H6, H7, H8, H9, H10⟩, ⟨Q1, Q2, Q3, Q4, Q5, Q6, Q7, Q8, Q9, Q10⟩, zG, zR⟩ := q
  have skw : Sk g10 (nx h + 1) := WS.sk.kept W10 (fun a z => by have z : a = nx h := z; omega) (by omega)
  generalize hg : setI (setR g10 (nx h) 1 (some sa)) (nx h) 2 D = h'
  have V10 : fm (fun b => b = nx h) (fun b => b = nx h) g10 h' := by rw [← hg]; exact ch.fm (ch.trans (ch_setR (P := fun b => b = nx h) (R := fun b => b = nx h) rfl) (ch_setI (P := fun b => b = nx h) (R := fun b => b = nx h) rfl))
  have X10 : fm (fun b => b = nx h) (fun b => b = nx h) h9 h' := (W10.mono (fun x z => z.elim) (fun x z => z)).trans V10
  have enx : nx h' = nx g10 := by rw [← hg]; rfl
  have eus : us h' = us g10 := by rw [← hg]; rfl
  have ekd : kd h' = kd g10 := by rw [← hg]; rfl
  have eln : ln h' = ln g10 := by rw [← hg]; rfl
  have r1' : hr h' (nx h) 1 = some sa := by rw [← hg, hr_setI, hr_setR, up2_same]
  have ro : ∀ k, k ≠ 1 → hr h' (nx h) k = hr g10 (nx h) k := fun k hk => by rw [← hg, hr_setI, hr_setR, up2_ne _ _ (fun z => hk z.2)]
  have i2 : hi h' (nx h) 2 = D := by rw [← hg, hi_upF, upF_same]
  have io : ∀ k, k ≠ 2 → hi h' (nx h) k = 0 := fun k hk => by rw [← hg, hi_upF, upF_ne _ hk, hi_setR]; exact zG k
  have mk : ∀ o K kk n L, MxA g10 o K kk n L → o ≠ nx h → MxA h' o K kk n L := fun o K kk n L q ho => by
    obtain ⟨q1, q2, q3⟩ := q
    refine ⟨by rw [ekd]; exact q1, by rw [eln]; exact q2, fun k hk => ?_⟩
    rw [ekd, eln, ← hg, hr_setI, hr_setR, up2_ne _ _ (fun z => ho z.1)]
    exact q3 k hk
  have hwi : ∀ a k, nx h < a → a < nx h + 155 → hi h' a k = hi h9 a k := fun a k z0 z1 => X10.2.2.1 a k (by omega) (fun z => by have z : a = nx h := z; omega)
  obtain ⟨-, -, ⟨-, -, -, -, -, ⟨t4, t5, t6, t7⟩, zc, -⟩, -, -, -, -, fari, jou⟩ := WS
  refine ⟨by rw [← hg]; exact (E10.putR (Or.inl (Nat.le_refl _))).put (Or.inl (Nat.le_refl _)), by omega, by omega, ?_, ?_, ⟨⟨?_, ?_, ?_, ?_⟩, fun k => ?_⟩, fun A B rA rB => ?_, ?_, ⟨i2, io 3 (by decide), io 5 (by decide), io 7 (by decide), io 9 (by decide)⟩, fun r j hr8 => ?_⟩
  · refine ⟨⟨by rw [ekd]; exact k10, by rw [ro 0 (by decide)]; exact H0, r1', ?_, ?_, ?_, ?_, ?_, ?_, ?_, ?_, ?_, ?_⟩, ⟨by rw [ekd, eln]; exact Q1, by rw [ekd, eln]; exact Q2, by rw [ekd, eln]; exact Q4, by rw [ekd, eln]; exact Q5, by rw [ekd, eln]; exact Q6⟩, ⟨mk _ _ _ _ _ Q3 (by omega), mk _ _ _ _ _ Q7 (by omega), mk _ _ _ _ _ Q8 (by omega), mk _ _ _ _ _ Q9 (by omega), mk _ _ _ _ _ Q10 (by omega)⟩, ?_, ?_, hsa, by omega⟩
    · rw [ro _ (by decide)]; exact H1
    · rw [ro _ (by decide)]; exact H2
    · rw [ro _ (by decide)]; exact H3
    · rw [ro _ (by decide)]; exact H4
    · rw [ro _ (by decide)]; exact H5
    · rw [ro _ (by decide)]; exact H6
    · rw [ro _ (by decide)]; exact H7
    · rw [ro _ (by decide)]; exact H8
    · rw [ro _ (by decide)]; exact H9
    · rw [ro _ (by decide)]; exact H10
    · rw [ekd, (E10.2.1 sa (by omega)).1]; exact hk
    · rw [eln, (E10.2.1 sa (by omega)).2]; exact hl
  · exact skw.kept V10 (fun a z => by have z : a = nx h := z; omega) (by omega)
  · rw [hwi _ _ (by omega) (by omega)]; exact t4
  · rw [hwi _ _ (by omega) (by omega)]; exact t5
  · rw [hwi _ _ (by omega) (by omega)]; exact t6
  · rw [hwi _ _ (by omega) (by omega)]; exact t7
  · rw [hwi _ _ (by omega) (by omega)]; exact zc.2.2 k
  · have fas := WSK.fas (X := nx h + 155) (A := A + 45) (B := B + 326) (by omega) ⟨by omega, by omega⟩ (by omega) (by omega)
    exact fas.1.grow fas.2 X10 (fun a z y => by have z : a = nx h := z; omega) (fun a z y => by have z : a = nx h := z; omega) (by omega) (Nat.le_refl _) (by omega) (by omega)
  · rw [hwi _ _ (by omega) (by omega)]; exact jou.2.2.2.2.2.2.2.2.1.1
  · rw [← hg, hi_setI_ne (by omega), hi_setR]; exact zR r j hr8
set_option maxRecDepth 100000 in
set_option maxHeartbeats 4000000 in
theorem s_TbInit {sa : Nat} {D : Int} {h : Hp} (hk : kd h sa = 200) (hl : 0 ≤ ln h sa ∧ ln h sa ≤ 1000) (hsa : sa < nx h) (hD : inR D) (r1 : nx h + 200 ≤ cn h) (r2 : us h + 4112 ≤ cs h) : wp 99 0 (entL [vR (some (nx h)), vR (some sa), vI D] (mL 99)) [] (mkO h 13 17) (fun v h' => v = none ∧ TbN h h' sa D) noX := by
  have ka : kd (mkO h 13 17) (nx h) = 13 := by rw [kd_mkO, up1_same]
  have n0 : nx (mkO h 13 17) = nx h + 1 := rfl
  have u0 : us (mkO h 13 17) = us h + 17 := rfl
  have cn_ : cn (mkO h 13 17) = cn h := rfl
  have cs_ : cs (mkO h 13 17) = cs h := rfl
  have kw : kd (mkO (mkO h 13 17) (0 + 1) ((7 : Nat) : Int)) (nx (mkO h 13 17)) = 1 := by rw [kd_mkO, up1_same]
  have n1 : nx (mkO (mkO h 13 17) (0 + 1) ((7 : Nat) : Int)) = nx h + 2 := rfl
  have u1 : us (mkO (mkO h 13 17) (0 + 1) ((7 : Nat) : Int)) = us h + 24 := rfl
  have cn1_ : cn (mkO (mkO h 13 17) (0 + 1) ((7 : Nat) : Int)) = cn h := rfl
  have cs1_ : cs (mkO (mkO h 13 17) (0 + 1) ((7 : Nat) : Int)) = cs h := rfl
  refine wp_aload_n d_99_0 (by rfl) ?_
  refine wp_objInit d_99_1 oi_12 co_code ⟨Nat.le_of_ble_eq_true rfl, Nat.le_of_ble_eq_true rfl⟩ ?_
  refine wp_aload_n d_99_4 (by rfl) ?_
  refine wp_new (ci := 0) d_99_5 cl_12_7 ci0 ⟨_, rfl⟩ (by decide) (by omega) (by omega) ?_
  refine wp_dup d_99_8 (by rfl) ?_
  refine wp_callI d_99_9 c_99_9 rfl rfl (by rfl) (by rfl) (by exact Nat.le_of_ble_eq_true rfl) (by exact Nat.le_of_ble_eq_true rfl) (s_WhistleStop kw (by omega) (by omega) (by omega)) (fun v_9 h_9 q_9 => ?_) (fun _ _ q => q.elim)
  obtain ⟨rfl, WS, wn, wu, wc, wd, we⟩ := q_9
  rw [n0] at WS wn we
  have WSK := WS
  rw [u1] at wu
  rw [cn1_] at wc
  rw [cs1_] at wd
  have e1 : ∀ b, b < nx h + 1 → eqA (mkO h 13 17) h_9 b := fun b hb => (eqA_mkO (h := mkO h 13 17) (K := 0 + 1) (n := ((7 : Nat) : Int)) (by omega)).trans (we b hb)
  have ka9 : kd h_9 (nx h) = 13 := (e1 _ (by omega)).1.trans ka
  have kz9 : ∀ k, hi h_9 (nx h) k = 0 := fun k => ((e1 _ (by omega)).2.2.1 k).trans (by rw [hi_mkO, up1_same])
  have E9 : fm nP nP h h_9 := ⟨by omega, fun x hx => ⟨(e1 x (by omega)).1.trans (fm_mkO.2.1 x hx).1, (e1 x (by omega)).2.1.trans (fm_mkO.2.1 x hx).2⟩, fun x k hx _ => ((e1 x (by omega)).2.2.1 k).trans (fm_mkO.2.2.1 x k hx (fun z => z)), fun x k hx _ => ((e1 x (by omega)).2.2.2.1 k).trans (fm_mkO.2.2.2.1 x k hx (fun z => z)), wc, wd⟩
  refine wp_putR (0) d_99_12 fl_12_10 rfl rfl (Or.inr ⟨by rfl, by rfl, by rfl⟩) (by first | assumption | (simp only [kd_setI, kd_setR]; assumption) | (rw [kd_mkO, up1_ne _ _ (by omega)]; assumption) | (rw [kd_mkM, if_neg (by omega), if_neg (by omega)]; assumption) | (rw [kd_mkZ, if_neg (by omega), if_neg (by omega)]; assumption)) ?_
  have hr9 : ∀ k, k ≠ 0 → hr (setR h_9 (nx h) 0 (some (nx (mkO h 13 17)))) (nx h) k = hr h_9 (nx h) k := fun k hk => by rw [hr_setR, up2_ne _ _ (fun z => hk z.2)]
  have hr0 : hr (setR h_9 (nx h) 0 (some (nx (mkO h 13 17)))) (nx h) 0 = some (nx h + 1) := by rw [hr_setR, up2_same]; rfl
  have F0 : fm nP nP h (setR h_9 (nx h) 0 (some (nx (mkO h 13 17)))) := E9.putR (Or.inl (Nat.le_refl _))
  have W0 : fm nP (fun b => b = nx h) h_9 (setR h_9 (nx h) 0 (some (nx (mkO h 13 17)))) := ch.fm (ch_setR rfl)
  have N0 : (nx (setR h_9 (nx h) 0 (some (nx (mkO h 13 17)))) : Int) = nx h + 155 := by show (nx h_9 : Int) = _; omega
  have U0 : (us (setR h_9 (nx h) 0 (some (nx (mkO h 13 17)))) : Int) = us h + 3786 := by show (us h_9 : Int) = _; omega
  have cn0 : cn (setR h_9 (nx h) 0 (some (nx (mkO h 13 17)))) = cn h := wc
  have cs0 : cs (setR h_9 (nx h) 0 (some (nx (mkO h 13 17)))) = cs h := wd
  have k0 : kd (setR h_9 (nx h) 0 (some (nx (mkO h 13 17)))) (nx h) = 13 := ka9
  have z0 : ∀ k, hi (setR h_9 (nx h) 0 (some (nx (mkO h 13 17)))) (nx h) k = 0 := kz9
  generalize setR h_9 (nx h) 0 (some (nx (mkO h 13 17))) = g0 at F0 W0 N0 U0 cn0 cs0 k0 z0 hr9 hr0 ⊢
  refine wp_aload_n d_99_15 (by rfl) ?_
  refine wp_bipush d_99_16 (by decide) ?_
  refine wp_newa (K := 100) d_99_18 rfl (by decide) ca_100 rfl (by omega) (by omega) (by decide) (by omega) (by omega) ?_
  refine wp_putR (4) d_99_20 fl_12_16 rfl rfl (Or.inr ⟨by rfl, by rfl, by rfl⟩) (by first | assumption | (simp only [kd_setI, kd_setR]; assumption) | (rw [kd_mkO, up1_ne _ _ (by omega)]; assumption) | (rw [kd_mkM, if_neg (by omega), if_neg (by omega)]; assumption) | (rw [kd_mkZ, if_neg (by omega), if_neg (by omega)]; assumption)) ?_
  have S1 := AnK (h := g0) (a := nx h) (K := 100) (n := 7) (k := 4) (by omega) (by omega)
  generalize setR (mkO g0 100 7) (nx h) 4 (some (nx g0)) = g1 at S1 ⊢
  have N1 := S1.2.1
  have U1 := S1.2.2.1
  have k1 : kd g1 (nx h) = 13 := (S1.1.2.1 (nx h) (by omega)).1.trans k0
  have cn1 : cn g1 = cn h := S1.1.2.2.2.2.1.trans cn0
  have cs1 : cs g1 = cs h := S1.1.2.2.2.2.2.trans cs0
  refine wp_aload_n d_99_23 (by rfl) ?_
  refine wp_bipush d_99_24 (by decide) ?_
  refine wp_anewA d_99_26 cl_12_20 ca_103 (by omega) (by omega) (by omega) (by omega) ?_
  refine wp_putR (6) d_99_29 fl_12_21 rfl rfl (Or.inr ⟨by rfl, by rfl, by rfl⟩) (by first | assumption | (simp only [kd_setI, kd_setR]; assumption) | (rw [kd_mkO, up1_ne _ _ (by omega)]; assumption) | (rw [kd_mkM, if_neg (by omega), if_neg (by omega)]; assumption) | (rw [kd_mkZ, if_neg (by omega), if_neg (by omega)]; assumption)) ?_
  have S2 := AnK (h := g1) (a := nx h) (K := 103) (n := 8) (k := 6) (by omega) (by omega)
  generalize setR (mkO g1 103 8) (nx h) 6 (some (nx g1)) = g2 at S2 ⊢
  have N2 := S2.2.1
  have U2 := S2.2.2.1
  have k2 : kd g2 (nx h) = 13 := (S2.1.2.1 (nx h) (by omega)).1.trans k1
  have cn2 : cn g2 = cn h := S2.1.2.2.2.2.1.trans cn1
  have cs2 : cs g2 = cs h := S2.1.2.2.2.2.2.trans cs1
  refine wp_aload_n d_99_32 (by rfl) ?_
  refine wp_iconst d_99_33 ?_
  refine wp_bipush d_99_34 (by decide) ?_
  refine wp_mnz d_99_36 cl_12_25 ca_108 ca_102 (by decide) (by decide) (by decide) (by decide) (by omega) (by rw [show Int.toNat 3 * Int.toNat 12 = 36 from rfl]; omega) ?_
  refine wp_putR (8) d_99_40 fl_12_27 rfl rfl (Or.inr ⟨by rfl, by rfl, by rfl⟩) (by first | assumption | (simp only [kd_setI, kd_setR]; assumption) | (rw [kd_mkO, up1_ne _ _ (by omega)]; assumption) | (rw [kd_mkM, if_neg (by omega), if_neg (by omega)]; assumption) | (rw [kd_mkZ, if_neg (by omega), if_neg (by omega)]; assumption)) ?_
  have S3 := MnZ (h := g2) (a := nx h) (n := 3) (L := 12) (k := 8) (by omega) (by omega) (by omega)
  generalize setR (mkZ g2 3 12) (nx h) 8 (some (nx g2)) = g3 at S3 ⊢
  have N3 := S3.2.1
  have U3 := S3.2.2.1
  have k3 : kd g3 (nx h) = 13 := (S3.1.2.1 (nx h) (by omega)).1.trans k2
  have cn3 : cn g3 = cn h := S3.1.2.2.2.2.1.trans cn2
  have cs3 : cs g3 = cs h := S3.1.2.2.2.2.2.trans cs2
  refine wp_aload_n d_99_43 (by rfl) ?_
  refine wp_bipush d_99_44 (by decide) ?_
  refine wp_newa (K := 100) d_99_46 rfl (by decide) ca_100 rfl (by omega) (by omega) (by decide) (by omega) (by omega) ?_
  refine wp_putR (10) d_99_48 fl_12_30 rfl rfl (Or.inr ⟨by rfl, by rfl, by rfl⟩) (by first | assumption | (simp only [kd_setI, kd_setR]; assumption) | (rw [kd_mkO, up1_ne _ _ (by omega)]; assumption) | (rw [kd_mkM, if_neg (by omega), if_neg (by omega)]; assumption) | (rw [kd_mkZ, if_neg (by omega), if_neg (by omega)]; assumption)) ?_
  have S4 := AnK (h := g3) (a := nx h) (K := 100) (n := 8) (k := 10) (by omega) (by omega)
  generalize setR (mkO g3 100 8) (nx h) 10 (some (nx g3)) = g4 at S4 ⊢
  have N4 := S4.2.1
  have U4 := S4.2.2.1
  have k4 : kd g4 (nx h) = 13 := (S4.1.2.1 (nx h) (by omega)).1.trans k3
  have cn4 : cn g4 = cn h := S4.1.2.2.2.2.1.trans cn3
  have cs4 : cs g4 = cs h := S4.1.2.2.2.2.2.trans cs3
  refine wp_aload_n d_99_51 (by rfl) ?_
  refine wp_bipush d_99_52 (by decide) ?_
  refine wp_newa (K := 100) d_99_54 rfl (by decide) ca_100 rfl (by omega) (by omega) (by decide) (by omega) (by omega) ?_
  refine wp_putR (11) d_99_56 fl_12_33 rfl rfl (Or.inr ⟨by rfl, by rfl, by rfl⟩) (by first | assumption | (simp only [kd_setI, kd_setR]; assumption) | (rw [kd_mkO, up1_ne _ _ (by omega)]; assumption) | (rw [kd_mkM, if_neg (by omega), if_neg (by omega)]; assumption) | (rw [kd_mkZ, if_neg (by omega), if_neg (by omega)]; assumption)) ?_
  have S5 := AnK (h := g4) (a := nx h) (K := 100) (n := 8) (k := 11) (by omega) (by omega)
  generalize setR (mkO g4 100 8) (nx h) 11 (some (nx g4)) = g5 at S5 ⊢
  have N5 := S5.2.1
  have U5 := S5.2.2.1
  have k5 : kd g5 (nx h) = 13 := (S5.1.2.1 (nx h) (by omega)).1.trans k4
  have cn5 : cn g5 = cn h := S5.1.2.2.2.2.1.trans cn4
  have cs5 : cs g5 = cs h := S5.1.2.2.2.2.2.trans cs4
  refine wp_aload_n d_99_59 (by rfl) ?_
  refine wp_bipush d_99_60 (by decide) ?_
  refine wp_newa (K := 100) d_99_62 rfl (by decide) ca_100 rfl (by omega) (by omega) (by decide) (by omega) (by omega) ?_
  refine wp_putR (12) d_99_64 fl_12_36 rfl rfl (Or.inr ⟨by rfl, by rfl, by rfl⟩) (by first | assumption | (simp only [kd_setI, kd_setR]; assumption) | (rw [kd_mkO, up1_ne _ _ (by omega)]; assumption) | (rw [kd_mkM, if_neg (by omega), if_neg (by omega)]; assumption) | (rw [kd_mkZ, if_neg (by omega), if_neg (by omega)]; assumption)) ?_
  have S6 := AnK (h := g5) (a := nx h) (K := 100) (n := 8) (k := 12) (by omega) (by omega)
  generalize setR (mkO g5 100 8) (nx h) 12 (some (nx g5)) = g6 at S6 ⊢
  have N6 := S6.2.1
  have U6 := S6.2.2.1
  have k6 : kd g6 (nx h) = 13 := (S6.1.2.1 (nx h) (by omega)).1.trans k5
  have cn6 : cn g6 = cn h := S6.1.2.2.2.2.1.trans cn5
  have cs6 : cs g6 = cs h := S6.1.2.2.2.2.2.trans cs5
  refine wp_aload_n d_99_67 (by rfl) ?_
  refine wp_bipush d_99_68 (by decide) ?_
  refine wp_iconst d_99_70 ?_
  refine wp_mna d_99_71 cl_12_39 ca_103 ca_100 (by decide) (by decide) (by decide) (by decide) (by omega) (by rw [show Int.toNat 8 * Int.toNat 5 = 40 from rfl]; omega) ?_
  refine wp_putR (13) d_99_75 fl_12_40 rfl rfl (Or.inr ⟨by rfl, by rfl, by rfl⟩) (by first | assumption | (simp only [kd_setI, kd_setR]; assumption) | (rw [kd_mkO, up1_ne _ _ (by omega)]; assumption) | (rw [kd_mkM, if_neg (by omega), if_neg (by omega)]; assumption) | (rw [kd_mkZ, if_neg (by omega), if_neg (by omega)]; assumption)) ?_
  have S7 := MnM (h := g6) (a := nx h) (n := 8) (L := 5) (k := 13) (by omega) (by omega) (by omega)
  generalize setR (mkM g6 8 5) (nx h) 13 (some (nx g6)) = g7 at S7 ⊢
  have N7 := S7.2.1
  have U7 := S7.2.2.1
  have k7 : kd g7 (nx h) = 13 := (S7.1.2.1 (nx h) (by omega)).1.trans k6
  have cn7 : cn g7 = cn h := S7.1.2.2.2.2.1.trans cn6
  have cs7 : cs g7 = cs h := S7.1.2.2.2.2.2.trans cs6
  refine wp_aload_n d_99_78 (by rfl) ?_
  refine wp_bipush d_99_79 (by decide) ?_
  refine wp_iconst d_99_81 ?_
  refine wp_mna d_99_82 cl_12_39 ca_103 ca_100 (by decide) (by decide) (by decide) (by decide) (by omega) (by rw [show Int.toNat 8 * Int.toNat 5 = 40 from rfl]; omega) ?_
  refine wp_putR (14) d_99_86 fl_12_43 rfl rfl (Or.inr ⟨by rfl, by rfl, by rfl⟩) (by first | assumption | (simp only [kd_setI, kd_setR]; assumption) | (rw [kd_mkO, up1_ne _ _ (by omega)]; assumption) | (rw [kd_mkM, if_neg (by omega), if_neg (by omega)]; assumption) | (rw [kd_mkZ, if_neg (by omega), if_neg (by omega)]; assumption)) ?_
  have S8 := MnM (h := g7) (a := nx h) (n := 8) (L := 5) (k := 14) (by omega) (by omega) (by omega)
  generalize setR (mkM g7 8 5) (nx h) 14 (some (nx g7)) = g8 at S8 ⊢
  have N8 := S8.2.1
  have U8 := S8.2.2.1
  have k8 : kd g8 (nx h) = 13 := (S8.1.2.1 (nx h) (by omega)).1.trans k7
  have cn8 : cn g8 = cn h := S8.1.2.2.2.2.1.trans cn7
  have cs8 : cs g8 = cs h := S8.1.2.2.2.2.2.trans cs7
  refine wp_aload_n d_99_89 (by rfl) ?_
  refine wp_bipush d_99_90 (by decide) ?_
  refine wp_iconst d_99_92 ?_
  refine wp_mna d_99_93 cl_12_39 ca_103 ca_100 (by decide) (by decide) (by decide) (by decide) (by omega) (by rw [show Int.toNat 8 * Int.toNat 5 = 40 from rfl]; omega) ?_
  refine wp_putR (15) d_99_97 fl_12_46 rfl rfl (Or.inr ⟨by rfl, by rfl, by rfl⟩) (by first | assumption | (simp only [kd_setI, kd_setR]; assumption) | (rw [kd_mkO, up1_ne _ _ (by omega)]; assumption) | (rw [kd_mkM, if_neg (by omega), if_neg (by omega)]; assumption) | (rw [kd_mkZ, if_neg (by omega), if_neg (by omega)]; assumption)) ?_
  have S9 := MnM (h := g8) (a := nx h) (n := 8) (L := 5) (k := 15) (by omega) (by omega) (by omega)
  generalize setR (mkM g8 8 5) (nx h) 15 (some (nx g8)) = g9 at S9 ⊢
  have N9 := S9.2.1
  have U9 := S9.2.2.1
  have k9 : kd g9 (nx h) = 13 := (S9.1.2.1 (nx h) (by omega)).1.trans k8
  have cn9 : cn g9 = cn h := S9.1.2.2.2.2.1.trans cn8
  have cs9 : cs g9 = cs h := S9.1.2.2.2.2.2.trans cs8
  refine wp_aload_n d_99_100 (by rfl) ?_
  refine wp_bipush d_99_101 (by decide) ?_
  refine wp_bipush d_99_103 (by decide) ?_
  refine wp_mna d_99_105 cl_12_39 ca_103 ca_100 (by decide) (by decide) (by decide) (by decide) (by omega) (by rw [show Int.toNat 8 * Int.toNat 12 = 96 from rfl]; omega) ?_
  refine wp_putR (16) d_99_109 fl_12_49 rfl rfl (Or.inr ⟨by rfl, by rfl, by rfl⟩) (by first | assumption | (simp only [kd_setI, kd_setR]; assumption) | (rw [kd_mkO, up1_ne _ _ (by omega)]; assumption) | (rw [kd_mkM, if_neg (by omega), if_neg (by omega)]; assumption) | (rw [kd_mkZ, if_neg (by omega), if_neg (by omega)]; assumption)) ?_
  have S10 := MnM (h := g9) (a := nx h) (n := 8) (L := 12) (k := 16) (by omega) (by omega) (by omega)
  generalize setR (mkM g9 8 12) (nx h) 16 (some (nx g9)) = g10 at S10 ⊢
  have N10 := S10.2.1
  have U10 := S10.2.2.1
  have k10 : kd g10 (nx h) = 13 := (S10.1.2.1 (nx h) (by omega)).1.trans k9
  have cn10 : cn g10 = cn h := S10.1.2.2.2.2.1.trans cn9
  have cs10 : cs g10 = cs h := S10.1.2.2.2.2.2.trans cs9
  refine wp_aload_n d_99_112 (by rfl) ?_
  refine wp_aload_n d_99_113 (by rfl) ?_
  refine wp_putR (1) d_99_114 fl_12_52 rfl rfl (Or.inr ⟨by rfl, by rfl, by rfl⟩) (by first | assumption | (simp only [kd_setI, kd_setR]; assumption) | (rw [kd_mkO, up1_ne _ _ (by omega)]; assumption) | (rw [kd_mkM, if_neg (by omega), if_neg (by omega)]; assumption) | (rw [kd_mkZ, if_neg (by omega), if_neg (by omega)]; assumption)) ?_
  refine wp_aload_n d_99_117 (by rfl) ?_
  refine wp_iload_n d_99_118 (by rfl) ?_
  refine wp_putI (2) d_99_119 fl_12_55 rfl rfl (Or.inl (by rfl)) (by first | assumption | (simp only [kd_setI, kd_setR]; assumption) | (rw [kd_mkO, up1_ne _ _ (by omega)]; assumption) | (rw [kd_mkM, if_neg (by omega), if_neg (by omega)]; assumption) | (rw [kd_mkZ, if_neg (by omega), if_neg (by omega)]; assumption)) (by omega) (fun q => nomatch q) ?_
  refine wp_vret d_99_122 rfl ?_
  exact ⟨rfl, tb_end (tb_made F0 W0 N0 U0 cn0 cs0 k0 z0 hr0 S1 S2 S3 S4 S5 S6 S7 S8 S9 S10) WSK hk hl hsa wn wu wc wd⟩
