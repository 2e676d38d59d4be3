/-! ===== offers: the cells ===== -/
def tAr (h : Hp) (a : Nat) : Nat := (hr h a 0).getD 0
def pAr (h : Hp) (a : Nat) : Nat := (hr h a 1).getD 0
/-- the price at x -/
def oV (h : Hp) (a : Nat) (x : Int) : Int := pA (hi h (tAr h a)) (hi h (pAr h a)) (hi h a 2).toNat x
def OfS (h : Hp) (a : Nat) : Prop := kd h a = 9 ∧ hr h a 0 = some (tAr h a) ∧ hr h a 1 = some (pAr h a) ∧ (kd h (tAr h a) = 100 ∧ kd h (pAr h a) = 100 ∧ ln h (pAr h a) = ln h (tAr h a) ∧ 16 ≤ ln h (tAr h a) ∧ ln h (tAr h a) ≤ 5764) ∧ (0 ≤ hi h a 2 ∧ hi h a 2 ≤ ln h (tAr h a)) ∧ tAr h a ≠ pAr h a ∧ (a < nx h ∧ tAr h a < nx h ∧ pAr h a < nx h)
def OfC (h : Hp) (a : Nat) (lo up : Int) : Prop := (∀ i, 0 ≤ i → i < hi h a 2 → (lo ≤ hi h (tAr h a) i ∧ hi h (tAr h a) i ≤ up) ∧ 0 ≤ hi h (pAr h a) i ∧ hi h (pAr h a) i < 1000000000) ∧ Ofs (hi h (tAr h a)) (hi h (pAr h a)) (hi h a 2)
/-- whether the rows were made anew -/
def Gr (h h' : Hp) (a : Nat) : Prop := (tAr h' a = tAr h a ∧ pAr h' a = pAr h a ∧ nx h' = nx h ∧ us h' = us h ∧ ln h' (tAr h a) = ln h (tAr h a)) ∨ (tAr h' a = nx h ∧ pAr h' a = nx h + 1 ∧ nx h' = nx h + 2 ∧ (us h' : Int) = us h + 2 * ln h' (nx h) ∧ 2 * ln h (tAr h a) + 2 ≤ ln h' (nx h))
/-- what an offer at a changes -/
def OFr (h h' : Hp) (a : Nat) : Prop := fm (fun b => b = a ∨ b = tAr h a ∨ b = pAr h a) (· = a) h h' ∧ Gr h h' a
theorem Gr.rfl {h : Hp} {a : Nat} : Gr h h a := Or.inl ⟨Eq.refl _, Eq.refl _, Eq.refl _, Eq.refl _, Eq.refl _⟩
theorem OFr.rfl {h : Hp} {a : Nat} : OFr h h a := ⟨fm.rfl, Gr.rfl⟩
theorem OfS.ne {h : Hp} {a : Nat} (q : OfS h a) : a ≠ tAr h a ∧ a ≠ pAr h a := by
  obtain ⟨q1, -, -, ⟨q2, q3, -⟩, -⟩ := q
  exact ⟨fun z => by rw [← z] at q2; omega, fun z => by rw [← z] at q3; omega⟩
theorem OfC.few {h : Hp} {a : Nat} {lo up : Int} (q : OfC h a lo up) (hl : lo ≤ up) : hi h a 2 ≤ up - lo + 1 := q.2.few (fun i i0 i1 => (q.1 i i0 i1).1) hl
theorem OfC.early {h : Hp} {a : Nat} {lo up x : Int} (s : OfS h a) (q : OfC h a lo up) (hx : oV h a x < 1000000000) : lo ≤ x := by
  unfold oV at hx
  rcases pA_cases (ts := hi h (tAr h a)) (ps := hi h (pAr h a)) (hi h a 2).toNat x with ⟨g1, -⟩ | ⟨k, g1, g2, g3, -⟩
  · omega
  · have := s.2.2.2.2.1
    have := (q.1 k g1 (by omega)).1
    omega
theorem OfC.val {h : Hp} {a : Nat} {lo up x : Int} (s : OfS h a) (q : OfC h a lo up) : 0 ≤ oV h a x ∧ oV h a x ≤ 1000000000 := by
  unfold oV
  rcases pA_cases (ts := hi h (tAr h a)) (ps := hi h (pAr h a)) (hi h a 2).toNat x with ⟨g1, -⟩ | ⟨k, g1, g2, g3, -, g5⟩
  · omega
  · have := s.2.2.2.2.1
    have := (q.1 k g1 (by omega)).2
    omega
theorem OfC.mono {h : Hp} {a : Nat} {lo up x x' : Int} (s : OfS h a) (q : OfC h a lo up) (hx : x ≤ x') : oV h a x' ≤ oV h a x := by
  have hz := s.2.2.2.2.1
  have e : ((hi h a 2).toNat : Int) = hi h a 2 := by omega
  exact pA_mono (by rw [e]; exact q.2) (fun i i0 i1 => (q.1 i i0 (by omega)).2.2) hx
theorem hi_cpI_ne {h : Hp} {a b c : Nat} {s d n : Int} (q : c ≠ b) : hi (cpI h a s b d n) c = hi h c := by
  funext j
  rw [hi_cpI]
  exact if_neg (fun z => q z.1)
set_option maxRecDepth 100000 in
set_option maxHeartbeats 4000000 in
theorem l_priceAt {a : Nat} {x : Int} {h : Hp} (S : OfS h a) (hx : inR x) : ∀ k : Nat, (k : Int) ≤ hi h a 2 → wp 76 5 [some (vR (some a)), some (vI x), some (vI ((k : Int)))] [] h (fun v h' => v = some (vI (pA (hi h (tAr h a)) (hi h (pAr h a)) k x)) ∧ h' = h) noX := by
  have S9 := S
  obtain ⟨q1, q2, q3, ⟨q4, q5, q6, q7, q8⟩, ⟨q9, q10⟩, q11, ⟨q12, q13, q14⟩⟩ := S
  have ne1 := S9.ne.1
  have ne2 := S9.ne.2
  intro k
  induction k with
  | zero =>
    intro e0
    refine wp_iload_n d_76_5 (by rfl) ?_
    refine wp_if_le (tgt := 27) d_76_6 (by decide) (by omega) (fun c_6 => ?_) (fun c_6 => ?_)
    rotate_left
    · exact absurd c_6 (by omega)
    refine wp_iload_n d_76_27 (by rfl) ?_
    refine wp_if_le (tgt := 42) d_76_28 (by decide) (by omega) (fun c_28 => ?_) (fun c_28 => ?_)
    rotate_left
    · exact absurd c_28 (by omega)
    refine wp_ldc (1000000000) d_76_42 ck_8_22 (by decide) ?_
    refine wp_iret d_76_44 rfl ?_
    exact ⟨rfl, rfl⟩
  | succ k ih =>
    intro e0
    have e1 : (k : Int) + 1 - 1 = k := by omega
    refine wp_to [some (vR (some a)), some (vI x), some (vI ((k : Int) + 1))] ⟨rfl, rfl, rfl, trivial⟩ ?_
    refine wp_iload_n d_76_5 (by rfl) ?_
    refine wp_if_le (tgt := 27) d_76_6 (by decide) (by omega) (fun c_6 => ?_) (fun c_6 => ?_)
    · exact absurd c_6 (by omega)
    refine wp_aload_n d_76_9 (by rfl) ?_
    refine wp_getR (0) d_76_10 fl_8_11 rfl rfl (by assumption) (by assumption) ?_
    refine wp_iload_n d_76_13 (by rfl) ?_
    refine wp_iconst d_76_14 ?_
    refine wp_isub d_76_15 ?_
    refine wp_iald d_76_16 (Or.inl (by assumption)) (by omega) (by omega) (fun x_16 e_16 r_16 => ?_)
    rw [e1] at e_16
    subst e_16
    refine wp_iload_n d_76_17 (by rfl) ?_
    refine wp_icmp_le (tgt := 27) d_76_18 (by decide) (by omega) (by omega) (fun c_18 => ?_) (fun c_18 => ?_)
    · refine wp_iload_n d_76_27 (by rfl) ?_
      refine wp_if_le (tgt := 42) d_76_28 (by decide) (by omega) (fun c_28 => ?_) (fun c_28 => ?_)
      · exact absurd c_28 (by omega)
      refine wp_aload_n d_76_31 (by rfl) ?_
      refine wp_getR (1) d_76_32 fl_8_15 rfl rfl (by assumption) (by assumption) ?_
      refine wp_iload_n d_76_35 (by rfl) ?_
      refine wp_iconst d_76_36 ?_
      refine wp_isub d_76_37 ?_
      refine wp_iald d_76_38 (Or.inl (by assumption)) (by omega) (by omega) (fun x_38 e_38 r_38 => ?_)
      rw [e1] at e_38
      subst e_38
      refine wp_goto (tgt := 44) d_76_39 (by decide) ?_
      refine wp_iret d_76_44 rfl ?_
      refine ⟨congrArg (fun z => some (vI z)) ?_, rfl⟩
      show _ = (if hi h (tAr h a) (k : Int) ≤ x then _ else _)
      rw [if_pos (by omega)]
    · refine wp_iinc d_76_21 (by rfl) (by decide) ?_
      refine wp_goto (tgt := 5) d_76_24 (by decide) ?_
      refine wp_mono (fun v h' q => ⟨q.1.trans (congrArg (fun z => some (vI z)) ?_), q.2⟩) (fun _ _ q => q) (wp_to [some (vR (some a)), some (vI x), some (vI ((k : Int)))] ⟨rfl, rfl, congrArg (fun z => some (vI z)) (by omega : (k : Int) + 1 + -1 = k), trivial⟩ (ih (by omega)))
      show _ = (if hi h (tAr h a) (k : Int) ≤ x then _ else _)
      rw [if_neg (by omega)]
set_option maxRecDepth 100000 in
set_option maxHeartbeats 4000000 in
theorem s_priceAt {a : Nat} {x : Int} {h : Hp} (S : OfS h a) (hx : inR x) : wp 76 0 (entL [vR (some a), vI x] (mL 76)) [] h (fun v h' => v = some (vI (oV h a x)) ∧ h' = h) noX := by
  have S9 := S
  obtain ⟨q1, q2, q3, ⟨q4, q5, q6, q7, q8⟩, ⟨q9, q10⟩, q11, ⟨q12, q13, q14⟩⟩ := S
  have ne1 := S9.ne.1
  have ne2 := S9.ne.2
  refine wp_aload_n d_76_0 (by rfl) ?_
  refine wp_getI (2) d_76_1 fl_8_18 rfl rfl (by assumption) (fun x_1 e_1 r_1 => ?_)
  subst e_1
  refine wp_istore_n d_76_4 (by decide) ?_
  refine wp_to [some (vR (some a)), some (vI x), some (vI (((hi h a 2).toNat : Int)))] ⟨rfl, rfl, congrArg (fun z => some (vI z)) (by omega), trivial⟩ ?_
  exact l_priceAt S9 hx (hi h a 2).toNat (by omega)
/-- a row's copy, longer than it -/
def CpO (h h' : Hp) (b : Nat) (L N : Int) : Prop := fm nP nP h h' ∧ nx h' = nx h + 1 ∧ (us h' : Int) = us h + N ∧ kd h' (nx h) = 100 ∧ ln h' (nx h) = N ∧ ∀ j, 0 ≤ j → j < L → hi h' (nx h) j = hi h b j
theorem CpO.of {h : Hp} {b : Nat} {L N : Int} (hb : b < nx h) (hL : 0 ≤ L ∧ L < N) : CpO h (cpI (mkO h 100 N) b 0 (nx h) 0 L) b L N := by
  have hne : ∀ a, a < nx h → ¬ a = nx h := fun a z => by omega
  refine ⟨⟨by show nx h ≤ nx h + 1; omega, fun a z => ⟨?_, ?_⟩, fun a k z _ => ?_, fun a k z _ => ?_, rfl, rfl⟩, rfl, ?_, ?_, ?_, fun j j0 j1 => ?_⟩
  · rw [kd_cpI, kd_mkO, up1_ne _ _ (hne a z)]
  · rw [ln_cpI, ln_mkO, up1_ne _ _ (hne a z)]
  · rw [hi_cpI_ne (hne a z), hi_mkO, up1_ne _ _ (hne a z)]
  · rw [hr_cpI, hr_mkO, up1_ne _ _ (hne a z)]
  · rw [us_cpI, us_mkO]; omega
  · rw [kd_cpI, kd_mkO, up1_same]
  · rw [ln_cpI, ln_mkO, up1_same]
  · rw [hi_cpI]
    show (if nx h = nx h ∧ 0 ≤ j ∧ j < 0 + L then hi (mkO h 100 N) b (0 + (j - 0)) else _) = _
    rw [if_pos ⟨rfl, j0, by omega⟩, hi_mkO, up1_ne _ _ (hne b hb), show (0 : Int) + (j - 0) = j by omega]
set_option maxRecDepth 100000 in
set_option maxHeartbeats 4000000 in
theorem s_copyOf {b : Nat} {L N : Int} {h : Hp} (hk : kd h b = 100) (hl : ln h b = L) (hb : b < nx h) (hL : 0 ≤ L ∧ L < N ∧ N ≤ 1000000) (r1 : nx h + 1 ≤ cn h) (r2 : us h + N.toNat ≤ cs h) : wp 113 0 (entL [vR (some b), vI N] (mL 113)) [] h (fun v h' => v = some (vR (some (nx h))) ∧ CpO h h' b L N) noX := by
  have hne : ¬ b = nx h := by omega
  have kb : kd (mkO h 100 N) b = 100 := by rw [kd_mkO, up1_ne _ _ hne]; exact hk
  have lb : ln (mkO h 100 N) b = L := by rw [ln_mkO, up1_ne _ _ hne]; exact hl
  have kn : kd (mkO h 100 N) (nx h) = 100 := by rw [kd_mkO, up1_same]
  have lnn : ln (mkO h 100 N) (nx h) = N := by rw [ln_mkO, up1_same]
  refine wp_iload_n d_113_0 (by rfl) ?_
  refine wp_aload_n d_113_1 (by rfl) ?_
  refine wp_alen d_113_2 (by omega) ?_
  refine wp_icmp_ne (tgt := 14) d_113_3 (by decide) (by omega) (by omega) (fun c_3 => ?_) (fun c_3 => ?_)
  rotate_left
  · exact absurd c_3 (by omega)
  refine wp_iload_n d_113_14 (by rfl) ?_
  refine wp_newa (K := 100) d_113_15 rfl (by decide) ca_100 rfl (by omega) (by omega) (by decide) (by omega) (by omega) ?_
  refine wp_astore_n d_113_17 (by decide) ?_
  refine wp_aload_n d_113_18 (by rfl) ?_
  refine wp_iconst d_113_19 ?_
  refine wp_aload_n d_113_20 (by rfl) ?_
  refine wp_iconst d_113_21 ?_
  refine wp_aload_n d_113_22 (by rfl) ?_
  refine wp_alen d_113_23 (by omega) ?_
  refine wp_iload_n d_113_24 (by rfl) ?_
  refine wp_callS d_113_25 c_113_304 rfl (by rfl) (by rfl) (by exact Nat.le_of_ble_eq_true rfl) (by exact Nat.le_of_ble_eq_true rfl) (s_min (by omega) (by omega)) (fun v_25 h_25 q_25 => ?_) (fun _ _ q => q.elim)
  obtain ⟨rfl, z_25⟩ := q_25
  replace z_25 := z_25.symm
  subst z_25
  refine wp_copy d_113_28 cp_javautilArrays_150 cp_nat cp_sta cp_ini (by assumption) (by assumption) (by omega) (by omega) (by omega) (by omega) (by omega) (by decide) (by decide) ?_
  refine wp_aload_n d_113_31 (by rfl) ?_
  refine wp_aret d_113_32 rfl rfl ?_
  refine ⟨rfl, ?_⟩
  rw [lb, show min L N = L by omega]
  exact CpO.of hb ⟨hL.1, hL.2.1⟩
theorem hr_setR_hi {h : Hp} {a b : Nat} {k j : Int} {v : Option Nat} : hi (setR h a k v) b j = hi h b j := rfl
def Mk (h h' : Hp) (a : Nat) (need : Int) : Prop := OfS h' a ∧ need ≤ ln h' (tAr h' a) ∧ hi h' a = hi h a ∧ (∀ j, 0 ≤ j → j < ln h (tAr h a) → hi h' (tAr h' a) j = hi h (tAr h a) j ∧ hi h' (pAr h' a) j = hi h (pAr h a) j) ∧ fm nP (· = a) h h' ∧ Gr h h' a
theorem Mk.new {h h1 h3 : Hp} {a : Nat} {need : Int} (S : OfS h a) (hn : ln h (tAr h a) < need ∧ need ≤ 2882) (c1 : CpO h h1 (tAr h a) (ln h (tAr h a)) (2 * need)) (c2 : CpO (setR h1 a 0 (some (nx h))) h3 (pAr h a) (ln h (tAr h a)) (2 * need)) : Mk h (setR h3 a 1 (some (nx h + 1))) a need := by
  have S9 := S
  obtain ⟨q1, q2, q3, ⟨q4, q5, q6, q7, q8⟩, ⟨q9, q10⟩, q11, ⟨q12, q13, q14⟩⟩ := S
  obtain ⟨⟨f1, f2, f3, f4, f5, f6⟩, g1, g2, g3, g4, g5⟩ := c1
  obtain ⟨⟨k1, k2, k3, k4, k5, k6⟩, l1, l2, l3, l4, l5⟩ := c2
  have nx2 : nx (setR h1 a 0 (some (nx h))) = nx h + 1 := g1
  have us2 : us (setR h1 a 0 (some (nx h))) = us h1 := rfl
  rw [nx2] at k1 k2 k3 k4 l1 l3 l4 l5
  rw [us2] at l2
  have k2 : ∀ x, x < nx h + 1 → kd h3 x = kd h1 x ∧ ln h3 x = ln h1 x := k2
  have r0 : hr (setR h3 a 1 (some (nx h + 1))) a 0 = some (nx h) := by
    rw [hr_setR, up2_ne _ _ (fun z => by omega), k4 a 0 (by omega) (fun z => z), hr_setR, up2_same]
  have r1 : hr (setR h3 a 1 (some (nx h + 1))) a 1 = some (nx h + 1) := by rw [hr_setR, up2_same]
  have t' : tAr (setR h3 a 1 (some (nx h + 1))) a = nx h := by unfold tAr; rw [r0]; rfl
  have p' : pAr (setR h3 a 1 (some (nx h + 1))) a = nx h + 1 := by unfold pAr; rw [r1]; rfl
  have hia : hi (setR h3 a 1 (some (nx h + 1))) a = hi h a := funext fun k => by
    rw [hr_setR_hi, k3 a k (by omega) (fun z => z), hr_setR_hi, f3 a k (by omega) (fun z => z)]
  have lt : ln h3 (nx h) = 2 * need := (k2 _ (by omega)).2.trans g4
  have e1 : kd (setR h3 a 1 (some (nx h + 1))) = kd h3 := rfl
  have e2 : ln (setR h3 a 1 (some (nx h + 1))) = ln h3 := rfl
  have e3 : nx (setR h3 a 1 (some (nx h + 1))) = nx h + 2 := l1
  have e4 : us (setR h3 a 1 (some (nx h + 1))) = us h3 := rfl
  refine ⟨⟨?_, by rw [t', r0], by rw [p', r1], ?_, ?_, by rw [t', p']; omega, by rw [t', p', e3]; omega⟩, by rw [t', e2, lt]; omega, hia, fun j j0 j1 => ?_, ⟨by rw [e3]; omega, fun x hx => ?_, fun x k hx _ => ?_, fun x k hx hz => ?_, k5.trans f5, k6.trans f6⟩, Or.inr ⟨t', p', e3, ?_, by rw [e2, lt]; omega⟩⟩
  · rw [e1, (k2 a (by omega)).1, (f2 a q12).1]; exact q1
  · rw [t', p', e1, e2, l3, l4, lt, (k2 _ (by omega)).1, g3]
    exact ⟨rfl, rfl, rfl, by omega, by omega⟩
  · rw [hia, t', e2, lt]; omega
  · refine ⟨?_, ?_⟩
    · rw [t', hr_setR_hi, k3 (nx h) j (by omega) (fun z => z), hr_setR_hi, g5 j j0 j1]
    · rw [p', hr_setR_hi, l5 j j0 j1, hr_setR_hi, f3 _ j q14 (fun z => z)]
  · rw [e1, e2, (k2 x (by omega)).1, (k2 x (by omega)).2]; exact f2 x hx
  · rw [hr_setR_hi, k3 x k (by omega) (fun z => z), hr_setR_hi, f3 x k hx (fun z => z)]
  · have hz : x ≠ a := hz
    rw [hr_setR, up2_ne _ _ (fun z => hz z.1), k4 x k (by omega) (fun z => z), hr_setR, up2_ne _ _ (fun z => hz z.1), f4 x k hx (fun z => z)]
  · rw [e4, e2, lt]; omega
set_option maxRecDepth 100000 in
set_option maxHeartbeats 4000000 in
theorem s_makeRoom {a : Nat} {need : Int} {h : Hp} (S : OfS h a) (hn : 0 ≤ need ∧ need ≤ 2882) (rm : ln h (tAr h a) < need → nx h + 2 ≤ cn h ∧ (us h : Int) + 4 * need ≤ cs h) : wp 77 0 (entL [vR (some a), vI need] (mL 77)) [] h (fun v h' => v = none ∧ Mk h h' a need) noX := by
  have S9 := S
  obtain ⟨q1, q2, q3, ⟨q4, q5, q6, q7, q8⟩, ⟨q9, q10⟩, q11, ⟨q12, q13, q14⟩⟩ := S
  have ne1 := S9.ne.1
  have ne2 := S9.ne.2
  refine wp_iload_n d_77_0 (by rfl) ?_
  refine wp_aload_n d_77_1 (by rfl) ?_
  refine wp_getR (0) d_77_2 fl_8_11 rfl rfl (by assumption) (by assumption) ?_
  refine wp_alen d_77_5 (by omega) ?_
  refine wp_icmp_le (tgt := 37) d_77_6 (by decide) (by omega) (by omega) (fun c_6 => ?_) (fun c_6 => ?_)
  · refine wp_vret d_77_37 rfl ?_
    first
      | exact ⟨rfl, S9, by omega, rfl, fun j _ _ => ⟨rfl, rfl⟩, fm.rfl, Gr.rfl⟩
      | (refine ⟨rfl, ?_⟩
         rw [nx2]
         exact Mk.new S9 ⟨by omega, hn.2⟩ C1 C2)
  · have rm9 := rm (by omega)
    refine wp_aload_n d_77_9 (by rfl) ?_
    refine wp_aload_n d_77_10 (by rfl) ?_
    refine wp_getR (0) d_77_11 fl_8_11 rfl rfl (by assumption) (by assumption) ?_
    refine wp_iconst d_77_14 ?_
    refine wp_iload_n d_77_15 (by rfl) ?_
    refine wp_imul d_77_16 ?_
    refine wp_callS d_77_17 c_77_37 rfl (by rfl) (by rfl) (by exact Nat.le_of_ble_eq_true rfl) (by exact Nat.le_of_ble_eq_true rfl) (s_copyOf q4 rfl q13 (by omega) (by omega) (by omega)) (fun v_17 h_17 q_17 => ?_) (fun _ _ q => q.elim)
    obtain ⟨rfl, C1⟩ := q_17
    have c1 := C1
    obtain ⟨⟨f1, f2, f3, f4, f5, f6⟩, g1, g2, g3, g4, g5⟩ := c1
    have ka1 : kd h_17 a = 9 := (f2 a q12).1.trans q1
    have ka : kd (setR h_17 a 0 (some (nx h))) a = 9 := ka1
    have kp : kd (setR h_17 a 0 (some (nx h))) (pAr h a) = 100 := (f2 _ q14).1.trans q5
    have lp : ln (setR h_17 a 0 (some (nx h))) (pAr h a) = ln h (tAr h a) := (f2 _ q14).2.trans q6
    have rp1 : hr (setR h_17 a 0 (some (nx h))) a 1 = some (pAr h a) := by rw [hr_setR, up2_ne _ _ (fun z => by omega), f4 a 1 q12 (fun z => z)]; exact q3
    have nx2 : nx (setR h_17 a 0 (some (nx h))) = nx h + 1 := g1
    have us2 : us (setR h_17 a 0 (some (nx h))) = us h_17 := rfl
    have cn2 : cn (setR h_17 a 0 (some (nx h))) = cn h := f5
    have cs2 : cs (setR h_17 a 0 (some (nx h))) = cs h := f6
    refine wp_putR (0) d_77_20 fl_8_11 rfl rfl (Or.inl (by rfl)) (by assumption) ?_
    refine wp_aload_n d_77_23 (by rfl) ?_
    refine wp_aload_n d_77_24 (by rfl) ?_
    refine wp_getR (1) d_77_25 fl_8_15 rfl rfl (by assumption) (by assumption) ?_
    refine wp_iconst d_77_28 ?_
    refine wp_iload_n d_77_29 (by rfl) ?_
    refine wp_imul d_77_30 ?_
    refine wp_callS d_77_31 c_77_37 rfl (by rfl) (by rfl) (by exact Nat.le_of_ble_eq_true rfl) (by exact Nat.le_of_ble_eq_true rfl) (s_copyOf kp lp (by rw [nx2]; omega) (by omega) (by rw [nx2, cn2]; omega) (by rw [us2, cs2]; omega)) (fun v_31 h_31 q_31 => ?_) (fun _ _ q => q.elim)
    obtain ⟨rfl, C2⟩ := q_31
    have ka3 : kd h_31 a = 9 := (C2.1.2.1 a (by rw [nx2]; omega)).1.trans ka
    refine wp_putR (1) d_77_34 fl_8_15 rfl rfl (Or.inl (by rfl)) (by assumption) ?_
    refine wp_vret d_77_37 rfl ?_
    first
      | exact ⟨rfl, S9, by omega, rfl, fun j _ _ => ⟨rfl, rfl⟩, fm.rfl, Gr.rfl⟩
      | (refine ⟨rfl, ?_⟩
         rw [nx2]
         exact Mk.new S9 ⟨by omega, hn.2⟩ C1 C2)
