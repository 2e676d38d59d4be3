/-! ===== the reference where nothing but stops is told ===== -/
def Ms (h : Hp) (m : Nat) (n : Int) : Prop := kd h m = 2 ∧ hr h m 2 = some (m + 1) ∧ kd h (m + 1) = 100 ∧ ln h (m + 1) = 16 ∧ hi h m 1 = n ∧ hi h m 3 = 0 ∧ hi h m 12 = 0
theorem Ms.kept {h h' : Hp} {m : Nat} {n : Int} (q : Ms h m n) (e : eqA h h' m) (e1 : eqA h h' (m + 1)) : Ms h' m n := by
  obtain ⟨q1, q2, q3, q4, q5, q6, q7⟩ := q
  exact ⟨e.1.trans q1, (e.2.2.2.1 _).trans q2, e1.1.trans q3, e1.2.1.trans q4, (e.2.2.1 _).trans q5, (e.2.2.1 _).trans q6, (e.2.2.1 _).trans q7⟩
theorem sh.eqA {P : Nat → Prop} {h h' : Hp} {b : Nat} (e : sh P h h') (n : ¬ P b) : eqA h h' b := by
  obtain ⟨e1, e2, e3, e4, e5, e6, e7, e8, e9⟩ := e
  exact ⟨by rw [e1], by rw [e2], fun k => e9 _ _ n, fun k => by rw [e3], fun k => by rw [e4]⟩
/-- grown by c cells and u places, all that was there is there -/
def gr (c u : Nat) (h h' : Hp) : Prop := nx h' = nx h + c ∧ us h' = us h + u ∧ cn h' = cn h ∧ cs h' = cs h ∧ ∀ b, b < nx h → eqA h h' b
theorem gr.trans {c u c' u' : Nat} {h h1 h2 : Hp} (a : gr c u h h1) (b : gr c' u' h1 h2) : gr (c + c') (u + u') h h2 := by
  obtain ⟨a1, a2, a3, a4, a5⟩ := a
  obtain ⟨b1, b2, b3, b4, b5⟩ := b
  exact ⟨by omega, by omega, b3.trans a3, b4.trans a4, fun x hx => (a5 x hx).trans (b5 x (by omega))⟩
set_option maxRecDepth 100000 in
set_option maxHeartbeats 4000000 in
theorem s_isIn {x a b : Int} {h : Hp} (hx : inR x) (ha : inR a) (hb : inR b) : wp 52 0 (entL [vI x, vI a, vI b] (mL 52)) [] h (fun v h' => v = some (vI (if a ≤ x ∧ x ≤ b then 1 else 0)) ∧ h' = h) noX := by
  refine wp_iload_n d_52_0 (by rfl) ?_
  refine wp_iload_n d_52_1 (by rfl) ?_
  refine wp_icmp_lt (tgt := 14) d_52_2 (by decide) (by omega) (by omega) (fun c_2 => ?_) (fun c_2 => ?_)
  · refine wp_iconst d_52_14 ?_
    refine wp_zret d_52_15 rfl (by omega) ?_
    exact ⟨congrArg (fun z => some (vI z)) (by first | (rw [if_pos (by omega)]) | (rw [if_neg (by omega)])), rfl⟩
  · refine wp_iload_n d_52_5 (by rfl) ?_
    refine wp_iload_n d_52_6 (by rfl) ?_
    refine wp_icmp_gt (tgt := 14) d_52_7 (by decide) (by omega) (by omega) (fun c_7 => ?_) (fun c_7 => ?_)
    · refine wp_iconst d_52_14 ?_
      refine wp_zret d_52_15 rfl (by omega) ?_
      exact ⟨congrArg (fun z => some (vI z)) (by first | (rw [if_pos (by omega)]) | (rw [if_neg (by omega)])), rfl⟩
    · refine wp_iconst d_52_10 ?_
      refine wp_goto (tgt := 15) d_52_11 (by decide) ?_
      refine wp_zret d_52_15 rfl (by omega) ?_
      exact ⟨congrArg (fun z => some (vI z)) (by first | (rw [if_pos (by omega)]) | (rw [if_neg (by omega)])), rfl⟩
set_option maxRecDepth 100000 in
set_option maxHeartbeats 4000000 in
theorem s_isStop {m : Nat} {x n : Int} {h : Hp} (hx : 0 ≤ x ∧ x < n) (hn : n ≤ 16) (hs : Ms h m n) : wp 55 0 (entL [vR (some m), vI x] (mL 55)) [] h (fun v h' => v = some (vI 1) ∧ h' = h) noX := by
  obtain ⟨k2, r2, k1, l1, i1, i3, i12⟩ := hs
  refine wp_iload_n d_55_0 (by rfl) ?_
  refine wp_iconst d_55_1 ?_
  refine wp_aload_n d_55_2 (by rfl) ?_
  refine wp_getI (1) d_55_3 fl_1_91 rfl rfl (by first | assumption | (simp only [kd_setI, kd_cpI]; assumption)) (fun x_3 e_3 r_3 => ?_)
  refine wp_iconst d_55_6 ?_
  refine wp_isub d_55_7 ?_
  refine wp_callS d_55_8 c_55_94 rfl (by rfl) (by rfl) (by exact Nat.le_of_ble_eq_true rfl) (by exact Nat.le_of_ble_eq_true rfl) (s_isIn (by omega) (by omega) (by omega)) (fun v_8 h_8 q_8 => ?_) (fun _ _ q => q.elim)
  obtain ⟨rfl, rfl⟩ := q_8
  refine wp_zret d_55_11 rfl (Or.inr (if_pos (by omega))) ?_
  exact ⟨congrArg (fun z => some (vI z)) (if_pos (by omega)), rfl⟩
set_option maxRecDepth 100000 in
set_option maxHeartbeats 4000000 in
theorem s_question {m : Nat} {f t a n : Int} {h : Hp} (hf : 0 ≤ f ∧ f < n) (ht : 0 ≤ t ∧ t < n) (ha : 0 ≤ a ∧ a ≤ 500000) (hn : n ≤ 16) (hs : Ms h m n) : wp 81 0 (entL [vR (some m), vI f, vI t, vI a] (mL 81)) [] h (fun v h' => v = some (vI 0) ∧ h' = h) noX := by
  refine wp_aload_n d_81_0 (by rfl) ?_
  refine wp_iload_n d_81_1 (by rfl) ?_
  refine wp_callV d_81_2 c_81_105 rfl (by rfl) (by rfl) ⟨1, rfl, rfl, by decide⟩ hs.1 (by exact Nat.le_of_ble_eq_true rfl) (by exact Nat.le_of_ble_eq_true rfl) (s_isStop (by omega) hn hs) (fun v_2 h_2 q_2 => ?_) (fun _ _ q => q.elim)
  obtain ⟨rfl, q_2⟩ := q_2
  replace q_2 := q_2.symm
  subst q_2
  refine wp_if_eq (tgt := 16) d_81_5 (by decide) (by first | omega | decide | (split <;> decide)) (fun c_5 => ?_) (fun c_5 => ?_)
  · exact absurd c_5 (by decide)
  · refine wp_aload_n d_81_8 (by rfl) ?_
    refine wp_iload_n d_81_9 (by rfl) ?_
    refine wp_callV d_81_10 c_81_105 rfl (by rfl) (by rfl) ⟨1, rfl, rfl, by decide⟩ hs.1 (by exact Nat.le_of_ble_eq_true rfl) (by exact Nat.le_of_ble_eq_true rfl) (s_isStop (by omega) hn hs) (fun v_10 h_10 q_10 => ?_) (fun _ _ q => q.elim)
    obtain ⟨rfl, q_10⟩ := q_10
    replace q_10 := q_10.symm
    subst q_10
    refine wp_if_ne (tgt := 20) d_81_13 (by decide) (by first | omega | decide | (split <;> decide)) (fun c_13 => ?_) (fun c_13 => ?_)
    · refine wp_iload_n d_81_20 (by rfl) ?_
      refine wp_iconst d_81_21 ?_
      refine wp_ldc (500000) d_81_22 ck_1_152 (by decide) ?_
      refine wp_callS d_81_24 c_81_94 rfl (by rfl) (by rfl) (by exact Nat.le_of_ble_eq_true rfl) (by exact Nat.le_of_ble_eq_true rfl) (s_isIn (by omega) (by omega) (by omega)) (fun v_24 h_24 q_24 => ?_) (fun _ _ q => q.elim)
      obtain ⟨rfl, q_24⟩ := q_24
      replace q_24 := q_24.symm
      subst q_24
      refine wp_if_eq (tgt := 34) d_81_27 (by decide) (by first | omega | decide | (split <;> decide)) (fun c_27 => ?_) (fun c_27 => ?_)
      · exact absurd c_27 (by rw [if_pos ha]; decide)
      · refine wp_iconst d_81_30 ?_
        refine wp_goto (tgt := 35) d_81_31 (by decide) ?_
        refine wp_iret d_81_35 rfl ?_
        exact ⟨rfl, rfl⟩
    · exact absurd c_13 (by decide)
set_option maxRecDepth 100000 in
set_option maxHeartbeats 4000000 in
theorem l_row {a : Nat} {x : Int} (hx : inR x) {Q : Option AV → Hp → Prop} : ∀ (n : Nat) (j : Int) (h : Hp), j + n = 16 → 0 ≤ j → kd h a = 100 → ln h a = 16 → (∀ h', sh (· = a) h h' → (∀ k, 0 ≤ k → k < 16 → hi h' a k = if j ≤ k then x else hi h a k) → Q (some (vR (some a))) h') → wp 84 7 [some (vI x), some (vR (some a)), some (vI j)] [] h Q noX := by
  intro n
  induction n with
  | zero =>
    intro j h e0 e1 hk hl k
    refine wp_iload_n d_84_7 (by rfl) ?_
    refine wp_bipush d_84_8 (by decide) ?_
    refine wp_icmp_ge (tgt := 23) d_84_10 (by decide) (by omega) (by omega) (fun c_10 => ?_) (fun c_10 => ?_)
    · refine wp_aload_n d_84_23 (by rfl) ?_
      refine wp_aret d_84_24 rfl rfl ?_
      exact k h sh.rfl (fun k h0 h1 => (if_neg (by omega)).symm)
    · exact absurd c_10 (by omega)
  | succ n ih =>
    intro j h e0 e1 hk hl k
    refine wp_iload_n d_84_7 (by rfl) ?_
    refine wp_bipush d_84_8 (by decide) ?_
    refine wp_icmp_ge (tgt := 23) d_84_10 (by decide) (by omega) (by omega) (fun c_10 => ?_) (fun c_10 => ?_)
    · exact absurd c_10 (by omega)
    · refine wp_aload_n d_84_13 (by rfl) ?_
      refine wp_iload_n d_84_14 (by rfl) ?_
      refine wp_iload_n d_84_15 (by rfl) ?_
      refine wp_iast d_84_16 (by assumption) (by omega) (by omega) (by omega) ?_
      refine wp_iinc d_84_17 (by rfl) (by decide) ?_
      refine wp_goto (tgt := 7) d_84_20 (by decide) ?_
      refine ih (j + 1) (setI h a j x) (by omega) (by omega) hk hl (fun h' e e2 => ?_)
      refine k h' ((sh_setI (P := (· = a)) rfl).trans e) (fun k h0 h1 => ?_)
      rw [e2 k h0 h1, hi_setI]
      unfold up2
      by_cases c : j + 1 ≤ k
      · rw [if_pos c, if_pos (by omega)]
      · rw [if_neg c]
        by_cases c2 : k = j
        · rw [if_pos ⟨rfl, c2⟩, if_pos (by omega)]
        · rw [if_neg (fun z => c2 z.2), if_neg (by omega)]
set_option maxRecDepth 100000 in
set_option maxHeartbeats 4000000 in
theorem s_row {x : Int} {h : Hp} (hx : inR x) (r1 : nx h + 1 ≤ cn h) (r2 : us h + 16 ≤ cs h) : wp 84 0 (entL [vI x] (mL 84)) [] h (fun v h' => v = some (vR (some (nx h))) ∧ gr 1 16 h h' ∧ kd h' (nx h) = 100 ∧ ln h' (nx h) = 16 ∧ ∀ k, 0 ≤ k → k < 16 → hi h' (nx h) k = x) noX := by
  refine wp_bipush d_84_0 (by decide) ?_
  refine wp_newa (K := 100) d_84_2 rfl (by decide) ca_100 rfl (by omega) (by omega) (by decide) (by omega) (by simp; omega) ?_
  refine wp_astore_n d_84_4 (by decide) ?_
  refine wp_iconst d_84_5 ?_
  refine wp_istore_n d_84_6 (by decide) ?_
  refine wp_to [some (vI x), some (vR (some (nx h))), some (vI 0)] ⟨rfl, rfl, rfl, trivial⟩ ?_
  refine l_row hx 16 0 _ rfl (by omega) (by rw [kd_mkO, up1_same]) (by rw [ln_mkO, up1_same]) (fun h' e e2 => ⟨rfl, ⟨?_, ?_, ?_, ?_, fun b hb => ?_⟩, ?_, ?_, fun k h0 h1 => ?_⟩)
  · rw [e.2.2.2.2.1, nx_mkO]
  · rw [e.2.2.2.2.2.1, us_mkO]
    rfl
  · rw [e.2.2.2.2.2.2.1]
    rfl
  · rw [e.2.2.2.2.2.2.2.1]
    rfl
  · exact (eqA_mkO hb).trans (e.eqA (by omega))
  · rw [e.1, kd_mkO, up1_same]
  · rw [e.2.1, ln_mkO, up1_same]
  · rw [e2 k h0 h1, if_pos h0]
set_option maxRecDepth 100000 in
set_option maxHeartbeats 4000000 in
theorem l_backwards {m A : Nat} {t b lo n : Int} {Q : Option AV → Hp → Prop} : ∀ (r K : Nat) (g : Hp), K + r = 6 → m + 1 < A → Ms g m n → hr g A K = some (A + 1 + K) → kd g (A + 1 + K) = 100 → ln g (A + 1 + K) = 16 → (∀ k, 0 ≤ k → k < 16 → hi g (A + 1 + K) k = -268435456) → kd g A = 103 → ln g A = 7 → nx g = A + 2 + K → nx g + r ≤ cn g → us g + 16 * r ≤ cs g → (∀ h', nx h' = A + 8 → us h' = us g + 16 * r → cn h' = cn g → cs h' = cs g → (∀ x, x < A → eqA g h' x) → kd h' A = 103 → ln h' A = 7 → hr h' A 6 = some (A + 7) → kd h' (A + 7) = 100 → ln h' (A + 7) = 16 → (∀ k, 0 ≤ k → k < 16 → hi h' (A + 7) k = -268435456) → Q (some (vR (some A))) h') → wp 98 19 [some (vR (some m)), some (vI t), some (vI b), some (vI lo), some (vR (some A)), some (vI ((K : Int) + 1)), none, none, none, none, none, none, none] [] g Q noX := by
  intro r
  induction r with
  | zero =>
    intro K g e0 em hs i0 i1 i2 i3 i4 i5 i6 r1 r2 k
    obtain rfl : K = 6 := by omega
    refine wp_iload d_98_19 (by rfl) ?_
    refine wp_bipush d_98_21 (by decide) ?_
    refine wp_icmp_gt (tgt := 253) d_98_23 (by decide) (by first | omega | decide) (by first | omega | decide) (fun c_23 => ?_) (fun c_23 => ?_)
    · refine wp_aload d_98_253 (by rfl) ?_
      refine wp_aret d_98_255 rfl rfl ?_
      exact k g (by omega) (by omega) rfl rfl (fun _ _ => eqA.rfl) i4 i5 i0 i1 i2 i3
    · exact absurd c_23 (by omega)
  | succ r ih =>
    intro K g e0 em hs i0 i1 i2 i3 i4 i5 i6 r1 r2 k
    have ix : (K : Int) + 1 - 1 = (K : Int) := by omega
    refine wp_iload d_98_19 (by rfl) ?_
    refine wp_bipush d_98_21 (by decide) ?_
    refine wp_icmp_gt (tgt := 253) d_98_23 (by decide) (by first | omega | decide) (by first | omega | decide) (fun c_23 => ?_) (fun c_23 => ?_)
    · exact absurd c_23 (by omega)
    · refine wp_aload d_98_26 (by rfl) ?_
      refine wp_iload d_98_28 (by rfl) ?_
      refine wp_bipush d_98_30 (by decide) ?_
      refine wp_newa (K := 100) d_98_32 rfl (by decide) ca_100 rfl (by first | omega | decide) (by first | omega | decide) (by decide) (by omega) (by simp; omega) ?_
      refine wp_aastA d_98_34 (by rw [kd_mkO, up1_ne _ _ (by omega)]; exact i4) (by rw [kd_mkO, up1_same]) (by omega) (by rw [ln_mkO, up1_ne _ _ (by omega)]; omega) ?_
      have j0 : hr (setR (mkO g 100 16) A ((K : Int) + 1) (some (nx g))) A ((K : Int) + 1 - 1) = some (A + 1 + K) := by
        rw [hr_setR, up2_ne _ _ (fun z => absurd z.2 (by omega)), hr_mkO, up1_ne _ _ (by omega), ix]
        exact i0
      have j1 : hr (setR (mkO g 100 16) A ((K : Int) + 1) (some (nx g))) A ((K : Int) + 1) = some (nx g) := by rw [hr_setR, up2_same]
      have j2 : kd (setR (mkO g 100 16) A ((K : Int) + 1) (some (nx g))) A = 103 := by rw [kd_setR, kd_mkO, up1_ne _ _ (by omega)]; exact i4
      have j3 : ln (setR (mkO g 100 16) A ((K : Int) + 1) (some (nx g))) A = 7 := by rw [ln_setR, ln_mkO, up1_ne _ _ (by omega)]; exact i5
      have j4 : kd (setR (mkO g 100 16) A ((K : Int) + 1) (some (nx g))) (A + 1 + K) = 100 := by rw [kd_setR, kd_mkO, up1_ne _ _ (by omega)]; exact i1
      have j5 : ln (setR (mkO g 100 16) A ((K : Int) + 1) (some (nx g))) (A + 1 + K) = 16 := by rw [ln_setR, ln_mkO, up1_ne _ _ (by omega)]; exact i2
      have j6 : kd (setR (mkO g 100 16) A ((K : Int) + 1) (some (nx g))) (nx g) = 100 := by rw [kd_setR, kd_mkO, up1_same]
      have j7 : ln (setR (mkO g 100 16) A ((K : Int) + 1) (some (nx g))) (nx g) = 16 := by rw [ln_setR, ln_mkO, up1_same]
      have F : ∀ x, x < A → eqA g (setR (mkO g 100 16) A ((K : Int) + 1) (some (nx g))) x := fun x hx => (eqA_mkO (by omega)).trans (eqA_setR (by omega))
      have j8 : ∀ k, 0 ≤ k → k < 16 → hi (setR (mkO g 100 16) A ((K : Int) + 1) (some (nx g))) (A + 1 + K) k = -268435456 := fun k h0 h1 => by rw [hi_setR, hi_mkO, up1_ne _ _ (by omega)]; exact i3 k h0 h1
      have j9 : nx (setR (mkO g 100 16) A ((K : Int) + 1) (some (nx g))) = nx g + 1 := rfl
      have j10 : us (setR (mkO g 100 16) A ((K : Int) + 1) (some (nx g))) = us g + 16 := rfl
      have j11 : cn (setR (mkO g 100 16) A ((K : Int) + 1) (some (nx g))) = cn g := rfl
      have j12 : cs (setR (mkO g 100 16) A ((K : Int) + 1) (some (nx g))) = cs g := rfl
      generalize setR (mkO g 100 16) A ((K : Int) + 1) (some (nx g)) = g1 at *
      refine wp_aload d_98_35 (by rfl) ?_
      refine wp_iload d_98_37 (by rfl) ?_
      refine wp_iconst d_98_39 ?_
      refine wp_isub d_98_40 ?_
      refine wp_aald d_98_41 (by first | omega | (simp only [kd_setI, kd_cpI]; omega)) (by first | omega | (simp only [kd_setI, kd_cpI]; omega)) (by first | (simp only [*]; rfl) | (simp only [kd_setI, kd_cpI, *]; rfl)) (by first | omega | decide) (by first | omega | decide) (by assumption) ?_
      refine wp_iconst d_98_42 ?_
      refine wp_aload d_98_43 (by rfl) ?_
      refine wp_iload d_98_45 (by rfl) ?_
      refine wp_aald d_98_47 (by first | omega | (simp only [kd_setI, kd_cpI]; omega)) (by first | omega | (simp only [kd_setI, kd_cpI]; omega)) (by first | (simp only [*]; rfl) | (simp only [kd_setI, kd_cpI, *]; rfl)) (by first | omega | decide) (by first | omega | decide) (by assumption) ?_
      refine wp_iconst d_98_48 ?_
      refine wp_bipush d_98_49 (by decide) ?_
      refine wp_copy d_98_51 cp_WhistleStopModel_167 cp_nat cp_sta cp_ini (by first | assumption | (rw [kd_mkO, up1_same])) (by first | assumption | (rw [kd_mkO, up1_same])) (by first | omega | decide) (by first | omega | decide) (by first | omega | decide) (by first | omega | decide) (by first | omega | decide) (by decide) (by decide) ?_
      have E1 : sh (· = nx g) g1 (cpI g1 (A + 1 + K) 0 (nx g) 0 16) := sh_cpI (P := (· = nx g)) rfl
      have T1 : ∀ k, 0 ≤ k → k < 16 → hi (cpI g1 (A + 1 + K) 0 (nx g) 0 16) (nx g) k = -268435456 := fun k h0 h1 => by
        rw [hi_cpI]
        show (if _ then _ else _) = _
        rw [if_pos ⟨rfl, by omega, by omega⟩, show (0 : Int) + (k - 0) = k by omega]
        exact j8 k h0 h1
      generalize cpI g1 (A + 1 + K) 0 (nx g) 0 16 = g2 at *
      have F2 : ∀ x, x < A → eqA g g2 x := fun x hx => (F x hx).trans (E1.eqA (by omega))
      have hs2 : Ms g2 m n := hs.kept (F2 _ (by omega)) (F2 _ (by omega))
      have km := hs2.1
      have e12 := hs2.2.2.2.2.2.2
      refine wp_iconst d_98_54 ?_
      refine wp_istore d_98_55 (by decide) ?_
      refine wp_iload d_98_57 (by rfl) ?_
      refine wp_aload_n d_98_59 (by rfl) ?_
      refine wp_getI (12) d_98_60 fl_1_98 rfl rfl (by first | assumption | (rw [kd_mkO, up1_same])) (fun x_60 e_60 r_60 => ?_)
      refine wp_icmp_ge (tgt := 247) d_98_63 (by decide) (by first | omega | decide) (by first | omega | decide) (fun c_63 => ?_) (fun c_63 => ?_)
      · refine wp_iinc d_98_247 (by rfl) (by decide) ?_
        refine wp_goto (tgt := 19) d_98_250 (by decide) ?_
        obtain ⟨s1, s2, s3, s4, s5, s6, s7, s8, s9⟩ := E1
        refine wp_to [some (vR (some m)), some (vI t), some (vI b), some (vI lo), some (vR (some A)), some (vI (((K + 1 : Nat) : Int) + 1)), none, none, none, none, none, none, none] ⟨rfl, rfl, rfl, rfl, rfl, rfl, trivial⟩ ?_
        have en : nx g = A + 1 + (K + 1) := by omega
        refine ih (K + 1) g2 (by omega) em hs2 ?_ ?_ ?_ ?_ ?_ ?_ ?_ ?_ ?_ (fun h' q1 q2 q3 q4 q5 q6 q7 q8 q9 q10 q11 => k h' q1 ?_ ?_ ?_ (fun x hx => (F2 x hx).trans (q5 x hx)) q6 q7 q8 q9 q10 q11)
        · rw [s3, ← en]
          exact j1
        · rw [s1, ← en]
          exact j6
        · rw [s2, ← en]
          exact j7
        · rw [← en]
          exact T1
        · rw [s1]
          exact j2
        · rw [s2]
          exact j3
        · omega
        · omega
        · omega
        · omega
        · omega
        · omega
      · exact absurd c_63 (by omega)
set_option maxRecDepth 100000 in
set_option maxHeartbeats 4000000 in
theorem s_backwards {m : Nat} {t b lo n : Int} {h : Hp} (hs : Ms h m n) (hm : m + 1 < nx h) (r1 : nx h + 8 ≤ cn h) (r2 : us h + 119 ≤ cs h) : wp 98 0 (entL [vR (some m), vI t, vI b, vI lo] (mL 98)) [] h (fun v h' => v = some (vR (some (nx h))) ∧ gr 8 119 h h' ∧ kd h' (nx h) = 103 ∧ ln h' (nx h) = 7 ∧ hr h' (nx h) 6 = some (nx h + 7) ∧ kd h' (nx h + 7) = 100 ∧ ln h' (nx h + 7) = 16 ∧ ∀ k, 0 ≤ k → k < 16 → hi h' (nx h + 7) k = -268435456) noX := by
  refine wp_bipush d_98_0 (by decide) ?_
  refine wp_anewA d_98_2 cl_1_157 ca_103 (by first | omega | decide) (by first | omega | decide) (by omega) (by simp; omega) ?_
  refine wp_astore d_98_5 (by decide) ?_
  refine wp_aload d_98_7 (by rfl) ?_
  refine wp_iconst d_98_9 ?_
  refine wp_ldc (-268435456) d_98_10 ck_1_215 (by decide) ?_
  refine wp_callS d_98_12 c_98_159 rfl (by rfl) (by rfl) (by exact Nat.le_of_ble_eq_true rfl) (by exact Nat.le_of_ble_eq_true rfl) (s_row (by omega) (by rw [nx_mkO, cn_mkO]; omega) (by rw [us_mkO, cs_mkO]; simp; omega)) (fun v_12 h_12 q_12 => ?_) (fun _ _ q => q.elim)
  obtain ⟨rfl, ⟨f1, f2, f3, f4, f5⟩, f6, f7, f8⟩ := q_12
  rw [nx_mkO] at f1 f5 f6 f7 f8 ⊢
  rw [us_mkO] at f2
  rw [cn_mkO] at f3
  rw [cs_mkO] at f4
  have f2 : us h_12 = us h + 23 := by simp at f2; omega
  have F := f5 (nx h) (by omega)
  have k4 : kd h_12 (nx h) = 103 := F.1.trans (by rw [kd_mkO, up1_same])
  have l4 : ln h_12 (nx h) = 7 := F.2.1.trans (by rw [ln_mkO, up1_same])
  have F2 : ∀ x, x < nx h → eqA h h_12 x := fun x hx => (eqA_mkO hx).trans (f5 x (by omega))
  refine wp_aastA d_98_15 k4 f6 (by omega) (by omega) ?_
  refine wp_iconst d_98_16 ?_
  refine wp_istore d_98_17 (by decide) ?_
  refine wp_to [some (vR (some m)), some (vI t), some (vI b), some (vI lo), some (vR (some (nx h))), some (vI (((0 : Nat) : Int) + 1)), none, none, none, none, none, none, none] ⟨rfl, rfl, rfl, rfl, rfl, rfl, trivial⟩ ?_
  have G : ∀ x, x < nx h → eqA h (setR h_12 (nx h) 0 (some (nx h + 1))) x := fun x hx => (F2 x hx).trans (eqA_setR (by omega))
  refine l_backwards (A := nx h) (n := n) 6 0 _ rfl hm (hs.kept (G _ (by omega)) (G _ (by omega))) (by rw [hr_setR]; exact up2_same _ _ _ _) f6 f7 f8 k4 l4 f1 ?_ ?_ (fun h' q1 q2 q3 q4 q5 q6 q7 q8 q9 q10 q11 => ⟨rfl, ⟨q1, ?_, ?_, ?_, fun x hx => (G x hx).trans (q5 x hx)⟩, q6, q7, q8, q9, q10, q11⟩)
  · rw [nx_setR, cn_setR]
    omega
  · rw [us_setR, cs_setR]
    omega
  · rw [q2, us_setR]
    omega
  · rw [q3, cn_setR, f3]
  · rw [q4, cs_setR, f4]
set_option maxRecDepth 100000 in
set_option maxHeartbeats 4000000 in
theorem l_latestNow {m : Nat} {f t a n : Int} (hf : 0 ≤ f ∧ f < 16) (ha : 0 ≤ a ∧ a ≤ 500000) {Q : Option AV → Hp → Prop} : ∀ (T : Nat) (d : Int) (h : Hp), 1441 * (T : Int) - 1441 ≤ d → d < 1441 * T → -1 ≤ d → d ≤ 500000 → Ms h m n → m + 1 < nx h → nx h + 8 * T ≤ cn h → us h + 119 * T ≤ cs h → (∀ h', gr (8 * T) (119 * T) h h' → Q (some (vI (-1))) h') → wp 97 10 [some (vR (some m)), some (vI f), some (vI t), some (vI a), some (vI d), none, none, none, none, none, none] [] h Q noX := by
  intro T
  induction T with
  | zero =>
    intro d h e0 e1 e2 e3 hs hm r1 r2 k
    refine wp_iload d_97_10 (by rfl) ?_
    refine wp_if_lt (tgt := 227) d_97_12 (by decide) (by first | omega | (simp only [ln_setI, ln_cpI]; omega) | decide) (fun c_12 => ?_) (fun c_12 => ?_)
    · refine wp_iconst d_97_227 ?_
      refine wp_iret d_97_228 rfl ?_
      exact k h ⟨rfl, rfl, rfl, rfl, fun _ _ => eqA.rfl⟩
    · exact absurd c_12 (by omega)
  | succ T ih =>
    intro d h e0 e1 e2 e3 hs hm r1 r2 k
    have km0 := hs.1
    refine wp_iload d_97_10 (by rfl) ?_
    refine wp_if_lt (tgt := 227) d_97_12 (by decide) (by first | omega | (simp only [ln_setI, ln_cpI]; omega) | decide) (fun c_12 => ?_) (fun c_12 => ?_)
    · exact absurd c_12 (by omega)
    · refine wp_iconst d_97_15 ?_
      refine wp_iload d_97_16 (by rfl) ?_
      refine wp_sipush d_97_18 (by decide) ?_
      refine wp_isub d_97_21 ?_
      refine wp_callS d_97_22 c_97_138 rfl (by rfl) (by rfl) (by exact Nat.le_of_ble_eq_true rfl) (by exact Nat.le_of_ble_eq_true rfl) (s_max (by omega) (by omega)) (fun v_22 h_22 q_22 => ?_) (fun _ _ q => q.elim)
      obtain ⟨rfl, q_22⟩ := q_22
      replace q_22 := q_22.symm
      subst q_22
      refine wp_istore d_97_25 (by decide) ?_
      refine wp_iload_n d_97_27 (by rfl) ?_
      refine wp_iload d_97_28 (by rfl) ?_
      refine wp_sipush d_97_30 (by decide) ?_
      refine wp_iadd d_97_33 ?_
      refine wp_callS d_97_34 c_97_143 rfl (by rfl) (by rfl) (by exact Nat.le_of_ble_eq_true rfl) (by exact Nat.le_of_ble_eq_true rfl) (s_min (by omega) (by omega)) (fun v_34 h_34 q_34 => ?_) (fun _ _ q => q.elim)
      obtain ⟨rfl, q_34⟩ := q_34
      replace q_34 := q_34.symm
      subst q_34
      refine wp_istore d_97_37 (by decide) ?_
      refine wp_aload_n d_97_39 (by rfl) ?_
      refine wp_iload_n d_97_40 (by rfl) ?_
      refine wp_iload d_97_41 (by rfl) ?_
      refine wp_iload d_97_43 (by rfl) ?_
      refine wp_callV d_97_45 c_97_220 rfl (by rfl) (by rfl) ⟨1, rfl, rfl, by decide⟩ (by first | assumption | (simp only [kd_setI, kd_cpI]; assumption)) (by exact Nat.le_of_ble_eq_true rfl) (by exact Nat.le_of_ble_eq_true rfl) (s_backwards hs hm (by omega) (by omega)) (fun v_45 h_45 q_45 => ?_) (fun _ _ q => q.elim)
      obtain ⟨rfl, q1, q2, q3, q4, q5, q6, q7⟩ := q_45
      have F := q1.2.2.2.2
      have hs1 : Ms h_45 m n := hs.kept (F _ (by omega)) (F _ (by omega))
      have km := hs1.1
      have i3 := hs1.2.2.2.2.2.1
      have hz := q7 f hf.1 hf.2
      have nn := q1.1
      have uu := q1.2.1
      have cc := q1.2.2.1
      have dd := q1.2.2.2.1
      refine wp_bipush d_97_48 (by decide) ?_
      refine wp_aald d_97_50 (by first | omega | (simp only [kd_setI, kd_cpI]; omega)) (by first | omega | (simp only [kd_setI, kd_cpI]; omega)) (by first | (simp only [*]; rfl) | (simp only [kd_setI, kd_cpI, *]; rfl)) (by first | omega | (simp only [ln_setI, ln_cpI]; omega) | decide) (by first | omega | (simp only [ln_setI, ln_cpI]; omega) | decide) (by first | assumption | (simp only [hr_setI, hr_cpI]; assumption)) ?_
      refine wp_astore d_97_51 (by decide) ?_
      refine wp_iload d_97_53 (by rfl) ?_
      refine wp_aload d_97_55 (by rfl) ?_
      refine wp_iload_n d_97_57 (by rfl) ?_
      refine wp_iald d_97_58 (Or.inl (by first | assumption | (simp only [kd_setI, kd_cpI]; assumption))) (by first | omega | (simp only [ln_setI, ln_cpI]; omega) | decide) (by first | omega | (simp only [ln_setI, ln_cpI]; omega) | decide) (fun x_58 e_58 r_58 => ?_)
      refine wp_callS d_97_59 c_97_143 rfl (by rfl) (by rfl) (by exact Nat.le_of_ble_eq_true rfl) (by exact Nat.le_of_ble_eq_true rfl) (s_min (by omega) (by omega)) (fun v_59 h_59 q_59 => ?_) (fun _ _ q => q.elim)
      obtain ⟨rfl, q_59⟩ := q_59
      replace q_59 := q_59.symm
      subst q_59
      refine wp_istore d_97_62 (by decide) ?_
      refine wp_iconst d_97_64 ?_
      refine wp_istore d_97_65 (by decide) ?_
      refine wp_iload d_97_67 (by rfl) ?_
      refine wp_aload_n d_97_69 (by rfl) ?_
      refine wp_getI (3) d_97_70 fl_1_109 rfl rfl (by first | assumption | (simp only [kd_setI, kd_cpI]; assumption)) (fun x_70 e_70 r_70 => ?_)
      refine wp_icmp_ge (tgt := 181) d_97_73 (by decide) (by first | omega | (simp only [ln_setI, ln_cpI]; omega) | decide) (by first | omega | (simp only [ln_setI, ln_cpI]; omega) | decide) (fun c_73 => ?_) (fun c_73 => ?_)
      · refine wp_iload d_97_181 (by rfl) ?_
        refine wp_iload d_97_183 (by rfl) ?_
        refine wp_icmp_ge (tgt := 206) d_97_185 (by decide) (by first | omega | (simp only [ln_setI, ln_cpI]; omega) | decide) (by first | omega | (simp only [ln_setI, ln_cpI]; omega) | decide) (fun c_185 => ?_) (fun c_185 => ?_)
        · exact absurd c_185 (by omega)
        · refine wp_iload d_97_188 (by rfl) ?_
          refine wp_if_ne (tgt := 197) d_97_190 (by decide) (by first | omega | (simp only [ln_setI, ln_cpI]; omega) | decide) (fun c_190 => ?_) (fun c_190 => ?_)
          · refine wp_iload d_97_197 (by rfl) ?_
            refine wp_iconst d_97_199 ?_
            refine wp_isub d_97_200 ?_
            refine wp_istore d_97_201 (by decide) ?_
            refine wp_goto (tgt := 224) d_97_203 (by decide) ?_
            refine wp_goto (tgt := 10) d_97_224 (by decide) ?_
            refine wp_to [some (vR (some m)), some (vI f), some (vI t), some (vI a), some (vI (max 0 (d - 1440) - 1)), none, none, none, none, none, none] ⟨rfl, rfl, rfl, rfl, rfl, trivial⟩ ?_
            exact ih _ h_45 (by omega) (by omega) (by omega) (by omega) hs1 (by omega) (by omega) (by omega) (fun h' e => k h' (by have := q1.trans e; rw [show 8 * (T + 1) = 8 + 8 * T by omega, show 119 * (T + 1) = 119 + 119 * T by omega]; exact this))
          · refine wp_iconst d_97_193 ?_
            refine wp_goto (tgt := 201) d_97_194 (by decide) ?_
            refine wp_istore d_97_201 (by decide) ?_
            refine wp_goto (tgt := 224) d_97_203 (by decide) ?_
            refine wp_goto (tgt := 10) d_97_224 (by decide) ?_
            refine wp_to [some (vR (some m)), some (vI f), some (vI t), some (vI a), some (vI (-1)), none, none, none, none, none, none] ⟨rfl, rfl, rfl, rfl, rfl, trivial⟩ ?_
            exact ih _ h_45 (by omega) (by omega) (by omega) (by omega) hs1 (by omega) (by omega) (by omega) (fun h' e => k h' (by have := q1.trans e; rw [show 8 * (T + 1) = 8 + 8 * T by omega, show 119 * (T + 1) = 119 + 119 * T by omega]; exact this))
      · exact absurd c_73 (by omega)
set_option maxRecDepth 100000 in
set_option maxHeartbeats 4000000 in
theorem s_latestNow {m T : Nat} {f t a n : Int} {h : Hp} (hf : 0 ≤ f ∧ f < 16) (hft : f ≠ t) (ht : inR t) (ha : 0 ≤ a ∧ a ≤ 500000) (hT : 1441 * (T : Int) - 1441 ≤ a ∧ a < 1441 * T) (hs : Ms h m n) (hm : m + 1 < nx h) (r1 : nx h + 8 * T ≤ cn h) (r2 : us h + 119 * T ≤ cs h) : wp 97 0 (entL [vR (some m), vI f, vI t, vI a] (mL 97)) [] h (fun v h' => v = some (vI (-1)) ∧ gr (8 * T) (119 * T) h h') noX := by
  refine wp_iload_n d_97_0 (by rfl) ?_
  refine wp_iload_n d_97_1 (by rfl) ?_
  refine wp_icmp_ne (tgt := 7) d_97_2 (by decide) (by first | omega | (simp only [ln_setI, ln_cpI]; omega) | decide) (by first | omega | (simp only [ln_setI, ln_cpI]; omega) | decide) (fun c_2 => ?_) (fun c_2 => ?_)
  · refine wp_iload_n d_97_7 (by rfl) ?_
    refine wp_istore d_97_8 (by decide) ?_
    refine wp_to [some (vR (some m)), some (vI f), some (vI t), some (vI a), some (vI a), none, none, none, none, none, none] ⟨rfl, rfl, rfl, rfl, rfl, trivial⟩ ?_
    exact l_latestNow hf ha T a h hT.1 hT.2 (by omega) (by omega) hs hm r1 r2 (fun h' e => ⟨rfl, e⟩)
  · exact absurd c_2 (by omega)
set_option maxRecDepth 100000 in
set_option maxHeartbeats 4000000 in
theorem s_mlatest {m T : Nat} {f t a n : Int} {h : Hp} (hf : 0 ≤ f ∧ f < n) (ht : 0 ≤ t ∧ t < n) (hft : f ≠ t) (ha : 0 ≤ a ∧ a ≤ 500000) (hn : n ≤ 16) (hT : 1441 * (T : Int) - 1441 ≤ a ∧ a < 1441 * T) (hs : Ms h m n) (hm : m + 1 < nx h) (r1 : nx h + 8 * T ≤ cn h) (r2 : us h + 119 * T ≤ cs h) : wp 96 0 (entL [vR (some m), vI f, vI t, vI a] (mL 96)) [] h (fun v h' => v = some (vI (-1)) ∧ gr (8 * T) (119 * T) (setI h m 0 0) h') noX := by
  have hs1 : Ms (setI h m 0 0) m n := by
    obtain ⟨q1, q2, q3, q4, q5, q6, q7⟩ := hs
    exact ⟨q1, q2, q3, q4, by rw [hi_setI, up2_ne _ _ (by omega)]; exact q5, by rw [hi_setI, up2_ne _ _ (by omega)]; exact q6, by rw [hi_setI, up2_ne _ _ (by omega)]; exact q7⟩
  refine wp_aload_n d_96_0 (by rfl) ?_
  refine wp_aload_n d_96_1 (by rfl) ?_
  refine wp_iload_n d_96_2 (by rfl) ?_
  refine wp_iload_n d_96_3 (by rfl) ?_
  refine wp_iload_n d_96_4 (by rfl) ?_
  refine wp_callV d_96_5 c_96_184 rfl (by rfl) (by rfl) ⟨1, rfl, rfl, by decide⟩ (by first | exact hs.1 | exact hs1.1) (by exact Nat.le_of_ble_eq_true rfl) (by exact Nat.le_of_ble_eq_true rfl) (s_question hf ht ha hn hs) (fun v_5 h_5 q_5 => ?_) (fun _ _ q => q.elim)
  obtain ⟨rfl, q_5⟩ := q_5
  replace q_5 := q_5.symm
  subst q_5
  refine wp_putI (0) d_96_8 fl_1_88 rfl rfl (Or.inl (by rfl)) (by first | exact hs.1 | exact hs1.1) (by first | omega | (simp only [ln_setI, ln_cpI]; omega) | decide) (fun q => nomatch q) ?_
  refine wp_aload_n d_96_11 (by rfl) ?_
  refine wp_getI (0) d_96_12 fl_1_88 rfl rfl (by first | exact hs.1 | exact hs1.1) (fun x_12 e_12 r_12 => ?_)
  rw [hi_setI, up2_same] at e_12
  refine wp_if_eq (tgt := 22) d_96_15 (by decide) (by first | omega | (simp only [ln_setI, ln_cpI]; omega) | decide) (fun c_15 => ?_) (fun c_15 => ?_)
  · refine wp_aload_n d_96_22 (by rfl) ?_
    refine wp_iload_n d_96_23 (by rfl) ?_
    refine wp_iload_n d_96_24 (by rfl) ?_
    refine wp_iload_n d_96_25 (by rfl) ?_
    refine wp_callV d_96_26 c_96_224 rfl (by rfl) (by rfl) ⟨1, rfl, rfl, by decide⟩ (by first | exact hs.1 | exact hs1.1) (by exact Nat.le_of_ble_eq_true rfl) (by exact Nat.le_of_ble_eq_true rfl) (s_latestNow (by omega) hft (by omega) ha hT hs1 hm r1 r2) (fun v_26 h_26 q_26 => ?_) (fun _ _ q => q.elim)
    obtain ⟨rfl, q_26⟩ := q_26
    refine wp_iret d_96_29 rfl ?_
    exact ⟨rfl, q_26⟩
  · exact absurd c_15 (by omega)
set_option maxRecDepth 100000 in
set_option maxHeartbeats 4000000 in
theorem s_thrown {m : Nat} {h : Hp} (hk : kd h m = 2) : wp 50 0 (entL [vR (some m)] (mL 50)) [] h (fun v h' => v = some (vI (hi h m 0)) ∧ h' = h) noX := by
  refine wp_aload_n d_50_0 (by rfl) ?_
  refine wp_getI (0) d_50_1 fl_1_88 rfl rfl hk (fun x_1 e_1 r_1 => ?_)
  refine wp_iret d_50_4 rfl ?_
  exact ⟨congrArg (fun z => some (vI z)) e_1, rfl⟩
set_option maxRecDepth 100000 in
set_option maxHeartbeats 4000000 in
theorem s_maddStop {m : Nat} {c n : Int} {h : Hp} (hs : Ms h m n) (hn : 0 ≤ n ∧ n < 16) (hx : 0 ≤ c ∧ c ≤ 30) : wp 51 0 (entL [vR (some m), vI c] (mL 51)) [] h (fun v h' => v = some (vI n) ∧ sh (fun a => a = m ∨ a = m + 1) h h' ∧ Ms h' m (n + 1) ∧ hi h' m 0 = 0) noX := by
  obtain ⟨k2, r2, k1, l1, i1, i3, i12⟩ := hs
  refine wp_aload_n d_51_0 (by rfl) ?_
  refine wp_iconst d_51_1 ?_
  refine wp_putI (0) d_51_2 fl_1_88 rfl rfl (Or.inl (by rfl)) (by first | assumption | (simp only [kd_setI, kd_cpI]; assumption)) (by first | omega | (simp only [ln_setI, ln_cpI]; omega) | decide | (split <;> decide)) (fun q => nomatch q) ?_
  refine wp_iload_n d_51_5 (by rfl) ?_
  refine wp_iconst d_51_6 ?_
  refine wp_bipush d_51_7 (by decide) ?_
  refine wp_callS d_51_9 c_51_94 rfl (by rfl) (by rfl) (by exact Nat.le_of_ble_eq_true rfl) (by exact Nat.le_of_ble_eq_true rfl) (s_isIn (by omega) (by omega) (by omega)) (fun v_9 h_9 q_9 => ?_) (fun _ _ q => q.elim)
  obtain ⟨rfl, q_9⟩ := q_9
  replace q_9 := q_9.symm
  subst q_9
  refine wp_if_ne (tgt := 21) d_51_12 (by decide) (by first | omega | (simp only [ln_setI, ln_cpI]; omega) | decide | (split <;> decide)) (fun c_12 => ?_) (fun c_12 => ?_)
  · refine wp_aload_n d_51_21 (by rfl) ?_
    refine wp_getI (1) d_51_22 fl_1_91 rfl rfl (by first | assumption | (simp only [kd_setI, kd_cpI]; assumption)) (fun x_22 e_22 r_22 => ?_)
    rw [hi_setI, up2_ne _ _ (by omega)] at e_22
    refine wp_bipush d_51_25 (by decide) ?_
    refine wp_icmp_ne (tgt := 36) d_51_27 (by decide) (by first | omega | (simp only [ln_setI, ln_cpI]; omega) | decide | (split <;> decide)) (by first | omega | (simp only [ln_setI, ln_cpI]; omega) | decide | (split <;> decide)) (fun c_27 => ?_) (fun c_27 => ?_)
    · refine wp_aload_n d_51_36 (by rfl) ?_
      refine wp_getR (2) d_51_37 fl_1_9 rfl rfl (by first | assumption | (simp only [kd_setI, kd_cpI]; assumption)) (by first | assumption | (simp only [hr_setI, hr_cpI]; assumption)) ?_
      refine wp_aload_n d_51_40 (by rfl) ?_
      refine wp_getI (1) d_51_41 fl_1_91 rfl rfl (by first | assumption | (simp only [kd_setI, kd_cpI]; assumption)) (fun x_41 e_41 r_41 => ?_)
      rw [hi_setI, up2_ne _ _ (by omega)] at e_41
      refine wp_iload_n d_51_44 (by rfl) ?_
      refine wp_iast d_51_45 (by first | assumption | (simp only [kd_setI, kd_cpI]; assumption)) (by first | omega | (simp only [ln_setI, ln_cpI]; omega) | decide | (split <;> decide)) (by first | omega | (simp only [ln_setI, ln_cpI]; omega) | decide | (split <;> decide)) (by first | omega | (simp only [ln_setI, ln_cpI]; omega) | decide | (split <;> decide)) ?_
      refine wp_aload_n d_51_46 (by rfl) ?_
      refine wp_dup d_51_47 (by rfl) ?_
      refine wp_getI (1) d_51_48 fl_1_91 rfl rfl (by first | assumption | (simp only [kd_setI, kd_cpI]; assumption)) (fun x_48 e_48 r_48 => ?_)
      rw [hi_setI, up2_ne _ _ (by omega), hi_setI, up2_ne _ _ (by omega)] at e_48
      refine wp_dup_x1 d_51_51 (by rfl) (by rfl) ?_
      refine wp_iconst d_51_52 ?_
      refine wp_iadd d_51_53 ?_
      refine wp_putI (1) d_51_54 fl_1_91 rfl rfl (Or.inl (by rfl)) (by first | assumption | (simp only [kd_setI, kd_cpI]; assumption)) (by first | omega | (simp only [ln_setI, ln_cpI]; omega) | decide | (split <;> decide)) (fun q => nomatch q) ?_
      refine wp_iret d_51_57 rfl ?_
      refine ⟨congrArg (fun z => some (vI z)) (by omega), ((sh_setI (P := fun a => a = m ∨ a = m + 1) (Or.inl rfl)).trans (sh_setI (P := fun a => a = m ∨ a = m + 1) (Or.inr rfl))).trans (sh_setI (P := fun a => a = m ∨ a = m + 1) (Or.inl rfl)), ⟨k2, r2, k1, l1, ?_, ?_, ?_⟩, ?_⟩
      · rw [hi_setI, up2_same]
        omega
      · rw [hi_setI, up2_ne _ _ (by omega), hi_setI, up2_ne _ _ (by omega), hi_setI, up2_ne _ _ (by omega)]
        exact i3
      · rw [hi_setI, up2_ne _ _ (by omega), hi_setI, up2_ne _ _ (by omega), hi_setI, up2_ne _ _ (by omega)]
        exact i12
      · rw [hi_setI, up2_ne _ _ (by omega), hi_setI, up2_ne _ _ (by omega), hi_setI, up2_same]
    · exact absurd c_27 (by omega)
  · exact absurd c_12 (by rw [if_pos hx]; decide)
