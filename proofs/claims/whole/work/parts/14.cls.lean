/-! ===== the class where nothing but stops is told ===== -/
/-- the same heap but for whole numbers at P -/
def sh (P : Nat → Prop) (h h' : Hp) : Prop := kd h' = kd h ∧ ln h' = ln h ∧ hr h' = hr h ∧ hl h' = hl h ∧ nx h' = nx h ∧ us h' = us h ∧ cn h' = cn h ∧ cs h' = cs h ∧ ∀ a k, ¬ P a → hi h' a k = hi h a k
theorem sh.rfl {P : Nat → Prop} {h : Hp} : sh P h h := ⟨Eq.refl _, Eq.refl _, Eq.refl _, Eq.refl _, Eq.refl _, Eq.refl _, Eq.refl _, Eq.refl _, fun _ _ _ => Eq.refl _⟩
theorem sh.trans {P : Nat → Prop} {h h1 h2 : Hp} (a : sh P h h1) (b : sh P h1 h2) : sh P h h2 := by
  obtain ⟨a1, a2, a3, a4, a5, a6, a7, a8, a9⟩ := a
  obtain ⟨b1, b2, b3, b4, b5, b6, b7, b8, b9⟩ := b
  exact ⟨b1.trans a1, b2.trans a2, b3.trans a3, b4.trans a4, b5.trans a5, b6.trans a6, b7.trans a7, b8.trans a8, fun x k n => (b9 x k n).trans (a9 x k n)⟩
theorem sh.mono {P P' : Nat → Prop} {h h1 : Hp} (a : sh P h h1) (q : ∀ x, P x → P' x) : sh P' h h1 := by
  obtain ⟨a1, a2, a3, a4, a5, a6, a7, a8, a9⟩ := a
  exact ⟨a1, a2, a3, a4, a5, a6, a7, a8, fun x k n => a9 x k (fun z => n (q x z))⟩
theorem sh_setI {P : Nat → Prop} {h : Hp} {a : Nat} {k v : Int} (q : P a) : sh P h (setI h a k v) := ⟨Eq.refl _, Eq.refl _, Eq.refl _, Eq.refl _, Eq.refl _, Eq.refl _, Eq.refl _, Eq.refl _, fun x j n => by
  rw [hi_setI]
  exact up2_ne _ _ (fun z => n (by rw [z.1]; exact q))⟩
theorem sh_cpI {P : Nat → Prop} {h : Hp} {a b : Nat} {s d n : Int} (q : P b) : sh P h (cpI h a s b d n) := ⟨Eq.refl _, Eq.refl _, Eq.refl _, Eq.refl _, Eq.refl _, Eq.refl _, Eq.refl _, Eq.refl _, fun x j m => by
  rw [hi_cpI]
  exact if_neg (fun z => m (by rw [z.1]; exact q))⟩
/-- the class's rows and parts stand where its constructor laid them -/
def Cs (h : Hp) (w : Nat) : Prop := kd h w = 1 ∧ hr h w 0 = some (w + 1) ∧ hr h w 1 = some (w + 6) ∧ hr h w 4 = some (w + 30) ∧ (kd h (w + 1) = 9 ∧ hr h (w + 1) 0 = some (w + 2) ∧ kd h (w + 2) = 100 ∧ ln h (w + 2) = 16) ∧ kd h (w + 6) = 12 ∧ (kd h (w + 30) = 3 ∧ hr h (w + 30) 0 = some (w + 31) ∧ hr h (w + 30) 1 = some (w + 39) ∧ kd h (w + 31) = 103 ∧ ln h (w + 31) = 7 ∧ kd h (w + 39) = 103 ∧ ln h (w + 39) = 7) ∧ ∀ j : Nat, j < 7 → hr h (w + 31) j = some (w + 32 + j) ∧ hr h (w + 39) j = some (w + 40 + j) ∧ kd h (w + 32 + j) = 100 ∧ ln h (w + 32 + j) = 16 ∧ kd h (w + 40 + j) = 100 ∧ ln h (w + 40 + j) = 16
theorem Cs.kept {P : Nat → Prop} {h h' : Hp} {w : Nat} (q : Cs h w) (e : sh P h h') : Cs h' w := by
  obtain ⟨e1, e2, e3, -⟩ := e
  unfold Cs
  rw [e1, e2, e3]
  exact q
/-- n stops, their changes in bounds, no footway, no trip -/
def Cn (h : Hp) (w : Nat) (n : Int) : Prop := hi h (w + 1) 4 = n ∧ hi h (w + 1) 5 = 0 ∧ hi h (w + 1) 7 = 0 ∧ ∀ k, 0 ≤ hi h (w + 2) k ∧ hi h (w + 2) k ≤ 30
theorem Cn.kept {P : Nat → Prop} {h h' : Hp} {w : Nat} {n : Int} (q : Cn h w n) (e : sh P h h') (n1 : ¬ P (w + 1)) (n2 : ¬ P (w + 2)) : Cn h' w n := by
  have e9 := e.2.2.2.2.2.2.2.2
  unfold Cn
  rw [e9 _ _ n1, e9 _ _ n1, e9 _ _ n1]
  exact ⟨q.1, q.2.1, q.2.2.1, fun k => by rw [e9 _ _ n2]; exact q.2.2.2 k⟩
set_option maxRecDepth 100000 in
set_option maxHeartbeats 4000000 in
theorem l_fill {a : Nat} {x N : Int} (hx : inR x) (hN : 0 ≤ N ∧ N ≤ 1000000) {Q : Option AV → Hp → Prop} : ∀ (n : Nat) (j : Int) (h : Hp), j + n = N → 0 ≤ j → kd h a = 100 → ln h a = N → (∀ h', sh (· = a) h h' → (∀ k, 0 ≤ k → k < N → hi h' a k = if j ≤ k then x else hi h a k) → Q none h') → wp 216 5 [some (vR (some a)), some (vI x), some (vI j), some (vI N)] [] h Q noX := by
  intro n
  induction n with
  | zero =>
    intro j h e0 e1 hk hl k
    refine wp_iload_n d_216_5 (by rfl) ?_
    refine wp_iload_n d_216_6 (by rfl) ?_
    refine wp_icmp_ge (tgt := 20) d_216_7 (by decide) (by omega) (by omega) (fun c_7 => ?_) (fun c_7 => absurd c_7 (by omega))
    refine wp_vret d_216_20 rfl ?_
    exact k h sh.rfl (fun k h0 h1 => (if_neg (by omega)).symm)
  | succ n ih =>
    intro j h e0 e1 hk hl k
    refine wp_iload_n d_216_5 (by rfl) ?_
    refine wp_iload_n d_216_6 (by rfl) ?_
    refine wp_icmp_ge (tgt := 20) d_216_7 (by decide) (by omega) (by omega) (fun c_7 => ?_) (fun c_7 => ?_)
    · refine wp_vret d_216_20 rfl ?_
      exact absurd c_7 (by omega)
    · refine wp_aload_n d_216_10 (by rfl) ?_
      refine wp_iload_n d_216_11 (by rfl) ?_
      refine wp_iload_n d_216_12 (by rfl) ?_
      refine wp_iast d_216_13 (by assumption) (by omega) (by omega) (by omega) ?_
      refine wp_iinc d_216_14 (by rfl) (by decide) ?_
      refine wp_goto (tgt := 5) d_216_17 (by decide) ?_
      refine ih (j + 1) (setI h a j x) (by omega) (by omega) hk hl (fun h' e e2 => ?_)
      refine k h' ((sh_setI (P := (· = a)) rfl).trans e) (fun k h0 h1 => ?_)
      rw [e2 k h0 h1, hi_setI]
      unfold up2
      by_cases c : j + 1 ≤ k
      · rw [if_pos c, if_pos (by omega)]
      · rw [if_neg c]
        by_cases c2 : k = j
        · rw [if_pos ⟨rfl, c2⟩, if_pos (by omega)]
        · rw [if_neg (fun z => c2 z.2), if_neg (by omega)]
set_option maxRecDepth 100000 in
set_option maxHeartbeats 4000000 in
theorem s_fill {a : Nat} {x N : Int} {h : Hp} (hx : inR x) (hN : 0 ≤ N ∧ N ≤ 1000000) (hk : kd h a = 100) (hl : ln h a = N) : wp 216 0 (entL [vR (some a), vI x] (mL 216)) [] h (fun v h' => v = none ∧ sh (· = a) h h' ∧ ∀ k, 0 ≤ k → k < N → hi h' a k = x) noX := by
  refine wp_iconst d_216_0 ?_
  refine wp_istore_n d_216_1 (by decide) ?_
  refine wp_aload_n d_216_2 (by rfl) ?_
  refine wp_alen d_216_3 (by omega) ?_
  refine wp_istore_n d_216_4 (by decide) ?_
  rw [hl]
  refine wp_to [some (vR (some a)), some (vI x), some (vI 0), some (vI N)] ⟨rfl, rfl, rfl, rfl, trivial⟩ ?_
  exact l_fill hx hN N.toNat 0 h (by omega) (by omega) hk hl (fun h' e e2 => ⟨rfl, e, fun k h0 h1 => by rw [e2 k h0 h1, if_pos h0]⟩)
set_option maxRecDepth 100000 in
set_option maxHeartbeats 4000000 in
theorem s_min {x y : Int} {h : Hp} (hx : inR x) (hy : inR y) : wp 215 0 (entL [vI x, vI y] (mL 215)) [] h (fun v h' => v = some (vI (min x y)) ∧ h' = h) noX := by
  refine wp_iload_n d_215_0 (by rfl) ?_
  refine wp_iload_n d_215_1 (by rfl) ?_
  refine wp_icmp_gt (tgt := 9) d_215_2 (by decide) (by omega) (by omega) (fun c_2 => ?_) (fun c_2 => ?_)
  · refine wp_iload_n d_215_9 (by rfl) ?_
    refine wp_iret d_215_10 rfl ?_
    exact ⟨congrArg (fun z => some (vI z)) (by omega), rfl⟩
  · refine wp_iload_n d_215_5 (by rfl) ?_
    refine wp_goto (tgt := 10) d_215_6 (by decide) ?_
    refine wp_iret d_215_10 rfl ?_
    exact ⟨congrArg (fun z => some (vI z)) (by omega), rfl⟩
set_option maxRecDepth 100000 in
set_option maxHeartbeats 4000000 in
theorem s_coll {w : Nat} {n a b : Int} {h : Hp} (hs : Cs h w) (hc : Cn h w n) (ha : -10000 ≤ a ∧ a ≤ 1000000) (hb : -10000 ≤ b ∧ b ≤ 1000000) : wp 174 0 (entL [vR (some (w + 6)), vR (some (w + 1)), vI a, vI b] (mL 174)) [] h (fun v h' => v = none ∧ sh (· = w + 6) h h' ∧ hi h' (w + 6) 3 = 0) noX := by
  obtain ⟨kw, rw0, rw1, rw4, ⟨kn, rn0, kc, lc⟩, kr, ⟨kb, rb0, rb1, kB, lB, kA, lA⟩, rows⟩ := hs
  have hc7 := hc.2.2.1
  refine wp_aload_n d_174_0 (by rfl) ?_
  refine wp_iconst d_174_1 ?_
  refine wp_putI (3) d_174_2 fl_11_24 rfl rfl (Or.inl (by rfl)) (by first | assumption | (simp only [kd_setI, kd_cpI]; assumption)) (by omega) (fun q => nomatch q) ?_
  refine wp_iconst d_174_5 ?_
  refine wp_iload_n d_174_6 (by rfl) ?_
  refine wp_sipush d_174_7 (by decide) ?_
  refine wp_isub d_174_10 ?_
  refine wp_sipush d_174_11 (by decide) ?_
  refine wp_isub d_174_14 ?_
  refine wp_sipush d_174_15 (by decide) ?_
  refine wp_callS d_174_18 c_174_28 rfl (by rfl) (by rfl) (by exact Nat.le_of_ble_eq_true rfl) (by exact Nat.le_of_ble_eq_true rfl) (s_floorDiv (by omega) (by omega) (by omega)) (fun v_18 h_18 q_18 => ?_) (fun _ _ q => q.elim)
  obtain ⟨rfl, rfl⟩ := q_18
  refine wp_callS d_174_21 c_174_34 rfl (by rfl) (by rfl) (by exact Nat.le_of_ble_eq_true rfl) (by exact Nat.le_of_ble_eq_true rfl) (s_max (by omega) (by omega)) (fun v_21 h_21 q_21 => ?_) (fun _ _ q => q.elim)
  obtain ⟨rfl, rfl⟩ := q_21
  refine wp_istore d_174_24 (by decide) ?_
  refine wp_sipush d_174_26 (by decide) ?_
  refine wp_iload_n d_174_29 (by rfl) ?_
  refine wp_sipush d_174_30 (by decide) ?_
  refine wp_callS d_174_33 c_174_28 rfl (by rfl) (by rfl) (by exact Nat.le_of_ble_eq_true rfl) (by exact Nat.le_of_ble_eq_true rfl) (s_floorDiv (by omega) (by omega) (by omega)) (fun v_33 h_33 q_33 => ?_) (fun _ _ q => q.elim)
  obtain ⟨rfl, rfl⟩ := q_33
  refine wp_callS d_174_36 c_174_37 rfl (by rfl) (by rfl) (by exact Nat.le_of_ble_eq_true rfl) (by exact Nat.le_of_ble_eq_true rfl) (s_min (by omega) (by omega)) (fun v_36 h_36 q_36 => ?_) (fun _ _ q => q.elim)
  obtain ⟨rfl, rfl⟩ := q_36
  refine wp_istore d_174_39 (by decide) ?_
  refine wp_iconst d_174_41 ?_
  refine wp_istore d_174_42 (by decide) ?_
  refine wp_iload d_174_44 (by rfl) ?_
  refine wp_aload_n d_174_46 (by rfl) ?_
  refine wp_getI (7) d_174_47 fl_11_40 rfl rfl (by first | assumption | (simp only [kd_setI, kd_cpI]; assumption)) (fun x_47 e_47 r_47 => ?_)
  rw [hi_setI, up2_ne _ _ (by omega), hc7] at e_47
  refine wp_icmp_ge (tgt := 114) d_174_50 (by decide) (by omega) (by omega) (fun c_50 => ?_) (fun c_50 => ?_)
  · refine wp_vret d_174_114 rfl ?_
    exact ⟨rfl, sh_setI (P := (· = w + 6)) rfl, by rw [hi_setI, up2_same]⟩
  · exact absurd c_50 (by omega)
set_option maxRecDepth 100000 in
set_option maxHeartbeats 4000000 in
theorem l_alight {w L : Nat} {n : Int} (hL : L < 7) (hn : 0 ≤ n ∧ n ≤ 16) {Q : Option AV → Hp → Prop} : ∀ (m : Nat) (j : Int) (h : Hp), j + m = n → 0 ≤ j → Cs h w → Cn h w n → (∀ k, 0 ≤ k → k < 16 → hi h (w + 32 + L) k = -1000000000) → (∀ h', sh (· = w + 40 + L) h h' → Q none h') → wp 120 2 [some (vR (some (w + 30))), some (vR (some (w + 1))), some (vI L), some (vI j)] [] h Q noX := by
  intro m
  induction m with
  | zero =>
    intro j h e0 e1 hs hc hT k
    obtain ⟨kw, rw0, rw1, rw4, ⟨kn, rn0, kc, lc⟩, kr, ⟨kb, rb0, rb1, kB, lB, kA, lA⟩, rows⟩ := hs
    obtain ⟨hc4, hc5, hc7, hch⟩ := hc
    refine wp_iload_n d_120_2 (by rfl) ?_
    refine wp_aload_n d_120_3 (by rfl) ?_
    refine wp_getI (4) d_120_4 fl_2_106 rfl rfl (by first | assumption | (simp only [kd_setI, kd_cpI]; assumption)) (fun x_4 e_4 r_4 => ?_)
    refine wp_icmp_ge (tgt := 54) d_120_7 (by decide) (by omega) (by omega) (fun c_7 => ?_) (fun c_7 => ?_)
    · refine wp_iconst d_120_54 ?_
      refine wp_istore_n d_120_55 (by decide) ?_
      refine wp_iload_n d_120_56 (by rfl) ?_
      refine wp_aload_n d_120_57 (by rfl) ?_
      refine wp_getI (5) d_120_58 fl_2_56 rfl rfl (by first | assumption | (simp only [kd_setI, kd_cpI]; assumption)) (fun x_58 e_58 r_58 => ?_)
      refine wp_icmp_ge (tgt := 118) d_120_61 (by decide) (by omega) (by omega) (fun c_61 => ?_) (fun c_61 => ?_)
      · refine wp_vret d_120_118 rfl ?_
        exact k h sh.rfl
      · exact absurd c_61 (by omega)
    · exact absurd c_7 (by omega)
  | succ m ih =>
    intro j h e0 e1 hs hc hT k
    have hs0 := hs
    have hc0 := hc
    obtain ⟨kw, rw0, rw1, rw4, ⟨kn, rn0, kc, lc⟩, kr, ⟨kb, rb0, rb1, kB, lB, kA, lA⟩, rows⟩ := hs
    obtain ⟨hc4, hc5, hc7, hch⟩ := hc
    obtain ⟨rB, rA, kBL, lBL, kAL, lAL⟩ := rows L hL
    refine wp_iload_n d_120_2 (by rfl) ?_
    refine wp_aload_n d_120_3 (by rfl) ?_
    refine wp_getI (4) d_120_4 fl_2_106 rfl rfl (by first | assumption | (simp only [kd_setI, kd_cpI]; assumption)) (fun x_4 e_4 r_4 => ?_)
    refine wp_icmp_ge (tgt := 54) d_120_7 (by decide) (by omega) (by omega) (fun c_7 => ?_) (fun c_7 => ?_)
    · exact absurd c_7 (by omega)
    · refine wp_aload_n d_120_10 (by rfl) ?_
      refine wp_getR (1) d_120_11 fl_2_16 rfl rfl (by first | assumption | (simp only [kd_setI, kd_cpI]; assumption)) (by first | assumption | (simp only [hr_setI, hr_cpI]; assumption)) ?_
      refine wp_iload_n d_120_14 (by rfl) ?_
      refine wp_aald d_120_15 (by first | omega | (simp only [kd_setI, kd_cpI]; omega)) (by first | omega | (simp only [kd_setI, kd_cpI]; omega)) (by first | (simp only [*]; rfl) | (simp only [kd_setI, kd_cpI, *]; rfl)) (by omega) (by omega) (by first | assumption | (simp only [hr_setI, hr_cpI]; assumption)) ?_
      refine wp_iload_n d_120_16 (by rfl) ?_
      refine wp_iload_n d_120_17 (by rfl) ?_
      refine wp_aload_n d_120_18 (by rfl) ?_
      refine wp_getI (2) d_120_19 fl_2_19 rfl rfl (by first | assumption | (simp only [kd_setI, kd_cpI]; assumption)) (fun x_19 e_19 r_19 => ?_)
      refine wp_icmp_ne (tgt := 32) d_120_22 (by decide) (by omega) (by omega) (fun c_22 => ?_) (fun c_22 => ?_)
      · refine wp_aload_n d_120_32 (by rfl) ?_
        refine wp_getR (0) d_120_33 fl_2_11 rfl rfl (by first | assumption | (simp only [kd_setI, kd_cpI]; assumption)) (by first | assumption | (simp only [hr_setI, hr_cpI]; assumption)) ?_
        refine wp_iload_n d_120_36 (by rfl) ?_
        refine wp_aald d_120_37 (by first | omega | (simp only [kd_setI, kd_cpI]; omega)) (by first | omega | (simp only [kd_setI, kd_cpI]; omega)) (by first | (simp only [*]; rfl) | (simp only [kd_setI, kd_cpI, *]; rfl)) (by omega) (by omega) (by first | assumption | (simp only [hr_setI, hr_cpI]; assumption)) ?_
        refine wp_iload_n d_120_38 (by rfl) ?_
        refine wp_iald d_120_39 (Or.inl (by first | assumption | (simp only [kd_setI, kd_cpI]; assumption))) (by omega) (by omega) (fun x_39 e_39 r_39 => ?_)
        refine wp_aload_n d_120_40 (by rfl) ?_
        refine wp_getR (0) d_120_41 fl_2_109 rfl rfl (by first | assumption | (simp only [kd_setI, kd_cpI]; assumption)) (by first | assumption | (simp only [hr_setI, hr_cpI]; assumption)) ?_
        refine wp_iload_n d_120_44 (by rfl) ?_
        have hcj := hch j
        refine wp_iald d_120_45 (Or.inl (by first | assumption | (simp only [kd_setI, kd_cpI]; assumption))) (by omega) (by omega) (fun x_45 e_45 r_45 => ?_)
        have hTj := hT j e1 (by omega)
        refine wp_isub d_120_46 ?_
        refine wp_iast d_120_47 (by first | assumption | (simp only [kd_setI, kd_cpI]; assumption)) (by omega) (by omega) (by omega) ?_
        refine wp_iinc d_120_48 (by rfl) (by decide) ?_
        refine wp_goto (tgt := 2) d_120_51 (by decide) ?_
        refine ih (j + 1) _ (by omega) (by omega) (hs0.kept (sh_setI (P := (· = w + 40 + L)) rfl)) (hc0.kept (sh_setI (P := (· = w + 40 + L)) rfl) (by omega) (by omega)) (fun k h0 h1 => ?_) (fun h' e => k h' ((sh_setI (P := (· = w + 40 + L)) rfl).trans e))
        rw [hi_setI, up2_ne _ _ (by omega)]
        exact hT k h0 h1
      · refine wp_aload_n d_120_25 (by rfl) ?_
        refine wp_getI (3) d_120_26 fl_2_23 rfl rfl (by first | assumption | (simp only [kd_setI, kd_cpI]; assumption)) (fun x_26 e_26 r_26 => ?_)
        refine wp_goto (tgt := 47) d_120_29 (by decide) ?_
        refine wp_iast d_120_47 (by first | assumption | (simp only [kd_setI, kd_cpI]; assumption)) (by omega) (by omega) (by omega) ?_
        refine wp_iinc d_120_48 (by rfl) (by decide) ?_
        refine wp_goto (tgt := 2) d_120_51 (by decide) ?_
        refine ih (j + 1) _ (by omega) (by omega) (hs0.kept (sh_setI (P := (· = w + 40 + L)) rfl)) (hc0.kept (sh_setI (P := (· = w + 40 + L)) rfl) (by omega) (by omega)) (fun k h0 h1 => ?_) (fun h' e => k h' ((sh_setI (P := (· = w + 40 + L)) rfl).trans e))
        rw [hi_setI, up2_ne _ _ (by omega)]
        exact hT k h0 h1
set_option maxRecDepth 100000 in
set_option maxHeartbeats 4000000 in
theorem s_alight {w L : Nat} {n : Int} {h : Hp} (hL : L < 7) (hn : 0 ≤ n ∧ n ≤ 16) (hs : Cs h w) (hc : Cn h w n) (hT : ∀ k, 0 ≤ k → k < 16 → hi h (w + 32 + L) k = -1000000000) : wp 120 0 (entL [vR (some (w + 30)), vR (some (w + 1)), vI L] (mL 120)) [] h (fun v h' => v = none ∧ sh (· = w + 40 + L) h h') noX := by
  refine wp_iconst d_120_0 ?_
  refine wp_istore_n d_120_1 (by decide) ?_
  refine wp_to [some (vR (some (w + 30))), some (vR (some (w + 1))), some (vI L), some (vI 0)] ⟨rfl, rfl, rfl, rfl, trivial⟩ ?_
  exact l_alight hL hn n.toNat 0 h (by omega) (by omega) hs hc hT (fun h' e => ⟨rfl, e⟩)
set_option maxRecDepth 100000 in
set_option maxHeartbeats 4000000 in
theorem s_latestAt {w L : Nat} {s : Int} {h : Hp} (hL : L < 7) (hss : 0 ≤ s ∧ s < 16) (hs : Cs h w) (ht : s ≠ hi h (w + 30) 2) (hT : hi h (w + 32 + L) s = -1000000000) : wp 122 0 (entL [vR (some (w + 30)), vI s, vI L] (mL 122)) [] h (fun v h' => v = some (vI (-1000000000)) ∧ h' = h) noX := by
  obtain ⟨kw, rw0, rw1, rw4, ⟨kn, rn0, kc, lc⟩, kr, ⟨kb, rb0, rb1, kB, lB, kA, lA⟩, rows⟩ := hs
  obtain ⟨rB, rA, kBL, lBL, kAL, lAL⟩ := rows L hL
  refine wp_iload_n d_122_0 (by rfl) ?_
  refine wp_aload_n d_122_1 (by rfl) ?_
  refine wp_getI (2) d_122_2 fl_2_19 rfl rfl (by first | assumption | (simp only [kd_setI, kd_cpI]; assumption)) (fun x_2 e_2 r_2 => ?_)
  refine wp_icmp_ne (tgt := 15) d_122_5 (by decide) (by omega) (by omega) (fun c_5 => ?_) (fun c_5 => ?_)
  · refine wp_aload_n d_122_15 (by rfl) ?_
    refine wp_getR (0) d_122_16 fl_2_11 rfl rfl (by first | assumption | (simp only [kd_setI, kd_cpI]; assumption)) (by first | assumption | (simp only [hr_setI, hr_cpI]; assumption)) ?_
    refine wp_iload_n d_122_19 (by rfl) ?_
    refine wp_aald d_122_20 (by first | omega | (simp only [kd_setI, kd_cpI]; omega)) (by first | omega | (simp only [kd_setI, kd_cpI]; omega)) (by first | (simp only [*]; rfl) | (simp only [kd_setI, kd_cpI, *]; rfl)) (by omega) (by omega) (by first | assumption | (simp only [hr_setI, hr_cpI]; assumption)) ?_
    refine wp_iload_n d_122_21 (by rfl) ?_
    refine wp_iald d_122_22 (Or.inl (by first | assumption | (simp only [kd_setI, kd_cpI]; assumption))) (by omega) (by omega) (fun x_22 e_22 r_22 => ?_)
    refine wp_iret d_122_23 rfl ?_
    exact ⟨congrArg (fun z => some (vI z)) (by omega), rfl⟩
  · exact absurd c_5 (by omega)
set_option maxRecDepth 100000 in
set_option maxHeartbeats 4000000 in
theorem s_latestBegin {w L : Nat} {s n : Int} {h : Hp} (hL : L < 7) (hss : 0 ≤ s ∧ s < 16) (hs : Cs h w) (hc : Cn h w n) (ht : s ≠ hi h (w + 30) 2) (hT : hi h (w + 32 + L) s = -1000000000) : wp 125 0 (entL [vR (some (w + 30)), vR (some (w + 1)), vI s, vI L] (mL 125)) [] h (fun v h' => v = some (vI (-1000000000)) ∧ h' = h) noX := by
  have hs0 := hs
  obtain ⟨kw, rw0, rw1, rw4, ⟨kn, rn0, kc, lc⟩, kr, ⟨kb, rb0, rb1, kB, lB, kA, lA⟩, rows⟩ := hs
  have hc5 := hc.2.1
  refine wp_aload_n d_125_0 (by rfl) ?_
  refine wp_iload_n d_125_1 (by rfl) ?_
  refine wp_iload_n d_125_2 (by rfl) ?_
  refine wp_callV d_125_3 c_125_53 rfl (by rfl) (by rfl) ⟨2, rfl, rfl, by decide⟩ (by first | assumption | (simp only [kd_setI, kd_cpI]; assumption)) (by exact Nat.le_of_ble_eq_true rfl) (by exact Nat.le_of_ble_eq_true rfl) (s_latestAt hL hss hs0 ht hT) (fun v_3 h_3 q_3 => ?_) (fun _ _ q => q.elim)
  obtain ⟨rfl, rfl⟩ := q_3
  refine wp_istore d_125_6 (by decide) ?_
  refine wp_iconst d_125_8 ?_
  refine wp_istore d_125_9 (by decide) ?_
  refine wp_iload d_125_11 (by rfl) ?_
  refine wp_aload_n d_125_13 (by rfl) ?_
  refine wp_getI (5) d_125_14 fl_2_56 rfl rfl (by first | assumption | (simp only [kd_setI, kd_cpI]; assumption)) (fun x_14 e_14 r_14 => ?_)
  refine wp_icmp_ge (tgt := 69) d_125_17 (by decide) (by omega) (by omega) (fun c_17 => ?_) (fun c_17 => ?_)
  · refine wp_iload d_125_69 (by rfl) ?_
    refine wp_iret d_125_71 rfl ?_
    exact ⟨rfl, rfl⟩
  · exact absurd c_17 (by omega)
set_option maxRecDepth 100000 in
set_option maxHeartbeats 4000000 in
theorem s_ride0 {w a b : Nat} {h : Hp} (hs : Cs h w) (h0 : hi h (w + 6) 3 = 0) : wp 123 0 (entL [vR (some (w + 30)), vR (some (w + 6)), vR (some a), vR (some b)] (mL 123)) [] h (fun v h' => v = some (vI 0) ∧ h' = h) noX := by
  obtain ⟨kw, rw0, rw1, rw4, ⟨kn, rn0, kc, lc⟩, kr, ⟨kb, rb0, rb1, kB, lB, kA, lA⟩, rows⟩ := hs
  refine wp_iconst d_123_0 ?_
  refine wp_istore d_123_1 (by decide) ?_
  refine wp_iconst d_123_3 ?_
  refine wp_istore d_123_4 (by decide) ?_
  refine wp_iload d_123_6 (by rfl) ?_
  refine wp_aload_n d_123_8 (by rfl) ?_
  refine wp_getI (3) d_123_9 fl_2_77 rfl rfl (by first | assumption | (simp only [kd_setI, kd_cpI]; assumption)) (fun x_9 e_9 r_9 => ?_)
  refine wp_icmp_ge (tgt := 56) d_123_12 (by decide) (by omega) (by omega) (fun c_12 => ?_) (fun c_12 => ?_)
  · refine wp_iload d_123_56 (by rfl) ?_
    refine wp_zret d_123_58 rfl (by omega) ?_
    exact ⟨rfl, rfl⟩
  · exact absurd c_12 (by omega)
theorem cp_nat : okw (.native arraycopyName) := okk_w (k := 862) (by decide +kernel)
theorem cp_sta : okw (.static arraycopyName) := okk_w (k := 861) (by decide +kernel)
theorem cp_ini : okw (.initialized "java/lang/System") := okk_w (k := 79) (by decide +kernel)
theorem cp_WhistleStopOnward_46 : okw (.methodLink "WhistleStop$Onward" 46 arraycopyName) := okk_w (k := 860) (by decide +kernel)
theorem cp_javautilArrays_150 : okw (.methodLink "java/util/Arrays" 150 arraycopyName) := okk_w (k := 941) (by decide +kernel)
theorem cp_WhistleStopOffers_31 : okw (.methodLink "WhistleStop$Offers" 31 arraycopyName) := okk_w (k := 942) (by decide +kernel)
theorem cp_WhistleStopBackward_43 : okw (.methodLink "WhistleStop$Backward" 43 arraycopyName) := okk_w (k := 996) (by decide +kernel)
theorem cp_WhistleStopModel_167 : okw (.methodLink "WhistleStopModel" 167 arraycopyName) := okk_w (k := 1394) (by decide +kernel)
set_option maxRecDepth 100000 in
set_option maxHeartbeats 4000000 in
theorem l_seek {w : Nat} {n t d : Int} (hn : 0 ≤ n ∧ n ≤ 16) {Q : Option AV → Hp → Prop} : ∀ (m K : Nat) (b : Int) (h : Hp), K + m = 6 → (b = 0 ∨ b = 1) → Cs h w → Cn h w n → hi h (w + 6) 3 = 0 → (∀ k, 0 ≤ k → k < 16 → hi h (w + 32 + K) k = -1000000000) → (∀ h', sh (fun a => w + 32 ≤ a ∧ a ≤ w + 46) h h' → (∀ k, 0 ≤ k → k < 16 → hi h' (w + 32 + 6) k = -1000000000) → Q none h') → wp 119 34 [some (vR (some (w + 30))), some (vR (some (w + 1))), some (vR (some (w + 6))), some (vI t), some (vI d), some (vI 6), some (vI b), some (vI ((K : Int) + 1))] [] h Q noX := by
  intro m
  induction m with
  | zero =>
    intro K b h e0 eb hs hc h6 hT k
    refine wp_iload d_119_34 (by rfl) ?_
    refine wp_iload d_119_36 (by rfl) ?_
    refine wp_bipush d_119_38 (by decide) ?_
    refine wp_callS d_119_40 c_119_37 rfl (by rfl) (by rfl) (by exact Nat.le_of_ble_eq_true rfl) (by exact Nat.le_of_ble_eq_true rfl) (s_min (by omega) (by omega)) (fun v_40 h_40 q_40 => ?_) (fun _ _ q => q.elim)
    obtain ⟨rfl, q_40⟩ := q_40
    replace q_40 := q_40.symm
    subst q_40
    refine wp_icmp_gt (tgt := 133) d_119_43 (by decide) (by omega) (by omega) (fun c_43 => ?_) (fun c_43 => ?_)
    · refine wp_vret d_119_133 rfl ?_
      obtain rfl : K = 6 := by omega
      exact k _ sh.rfl hT
    · exact absurd c_43 (by omega)
  | succ m ih =>
    intro K b h e0 eb hs hc h6 hT k
    have hs0 := hs
    have hc0 := hc
    obtain ⟨kw, rw0, rw1, rw4, ⟨kn, rn0, kc, lc⟩, kr, ⟨kb, rb0, rb1, kB, lB, kA, lA⟩, rows⟩ := hs

    have e1 : (K : Int) + 1 - 1 = (K : Int) := by omega
    have i0 : hr h (w + 31) ((K : Int) + 1 - 1) = some (w + 32 + K) := by rw [e1]; exact (rows K (by omega)).1
    have i1 : hr h (w + 31) ((K : Int) + 1) = some (w + 32 + (K + 1)) := (rows (K + 1) (by omega)).1
    have i2 : hr h (w + 39) ((K : Int) + 1 - 1) = some (w + 40 + K) := by rw [e1]; exact (rows K (by omega)).2.1
    have i3 : hr h (w + 39) ((K : Int) + 1) = some (w + 40 + (K + 1)) := (rows (K + 1) (by omega)).2.1
    obtain ⟨-, -, k0, l0, k2, l2⟩ := rows K (by omega)
    obtain ⟨-, -, k1, l1, k3, l3⟩ := rows (K + 1) (by omega)
    have hK : K + 1 < 7 := by omega
    refine wp_iload d_119_34 (by rfl) ?_
    refine wp_iload d_119_36 (by rfl) ?_
    refine wp_bipush d_119_38 (by decide) ?_
    refine wp_callS d_119_40 c_119_37 rfl (by rfl) (by rfl) (by exact Nat.le_of_ble_eq_true rfl) (by exact Nat.le_of_ble_eq_true rfl) (s_min (by omega) (by omega)) (fun v_40 h_40 q_40 => ?_) (fun _ _ q => q.elim)
    obtain ⟨rfl, q_40⟩ := q_40
    replace q_40 := q_40.symm
    subst q_40
    refine wp_icmp_gt (tgt := 133) d_119_43 (by decide) (by first | omega | (simp only [ln_setI, ln_cpI]; omega) | decide) (by first | omega | (simp only [ln_setI, ln_cpI]; omega) | decide) (fun c_43 => ?_) (fun c_43 => ?_)
    · exact absurd c_43 (by omega)
    · refine wp_aload_n d_119_46 (by rfl) ?_
      refine wp_getR (0) d_119_47 fl_2_11 rfl rfl (by first | assumption | (simp only [kd_setI, kd_cpI]; assumption)) (by first | assumption | (simp only [hr_setI, hr_cpI]; assumption)) ?_
      refine wp_iload d_119_50 (by rfl) ?_
      refine wp_iconst d_119_52 ?_
      refine wp_isub d_119_53 ?_
      refine wp_aald d_119_54 (by first | omega | (simp only [kd_setI, kd_cpI]; omega)) (by first | omega | (simp only [kd_setI, kd_cpI]; omega)) (by first | (simp only [*]; rfl) | (simp only [kd_setI, kd_cpI, *]; rfl)) (by first | omega | (simp only [ln_setI, ln_cpI]; omega) | decide) (by first | omega | (simp only [ln_setI, ln_cpI]; omega) | decide) (by first | assumption | (simp only [hr_setI, hr_cpI]; assumption)) ?_
      refine wp_iconst d_119_55 ?_
      refine wp_aload_n d_119_56 (by rfl) ?_
      refine wp_getR (0) d_119_57 fl_2_11 rfl rfl (by first | assumption | (simp only [kd_setI, kd_cpI]; assumption)) (by first | assumption | (simp only [hr_setI, hr_cpI]; assumption)) ?_
      refine wp_iload d_119_60 (by rfl) ?_
      refine wp_aald d_119_62 (by first | omega | (simp only [kd_setI, kd_cpI]; omega)) (by first | omega | (simp only [kd_setI, kd_cpI]; omega)) (by first | (simp only [*]; rfl) | (simp only [kd_setI, kd_cpI, *]; rfl)) (by first | omega | (simp only [ln_setI, ln_cpI]; omega) | decide) (by first | omega | (simp only [ln_setI, ln_cpI]; omega) | decide) (by first | assumption | (simp only [hr_setI, hr_cpI]; assumption)) ?_
      refine wp_iconst d_119_63 ?_
      refine wp_bipush d_119_64 (by decide) ?_
      refine wp_copy d_119_66 cp_WhistleStopBackward_43 cp_nat cp_sta cp_ini (by first | assumption | (simp only [kd_setI, kd_cpI]; assumption)) (by first | assumption | (simp only [kd_setI, kd_cpI]; assumption)) (by first | omega | (simp only [ln_setI, ln_cpI]; omega) | decide) (by first | omega | (simp only [ln_setI, ln_cpI]; omega) | decide) (by first | omega | (simp only [ln_setI, ln_cpI]; omega) | decide) (by first | omega | (simp only [ln_setI, ln_cpI]; omega) | decide) (by first | omega | (simp only [ln_setI, ln_cpI]; omega) | decide) (by decide) (by decide) ?_
      refine wp_aload_n d_119_69 (by rfl) ?_
      refine wp_getR (1) d_119_70 fl_2_16 rfl rfl (by first | assumption | (simp only [kd_setI, kd_cpI]; assumption)) (by first | assumption | (simp only [hr_setI, hr_cpI]; assumption)) ?_
      refine wp_iload d_119_73 (by rfl) ?_
      refine wp_iconst d_119_75 ?_
      refine wp_isub d_119_76 ?_
      refine wp_aald d_119_77 (by first | omega | (simp only [kd_setI, kd_cpI]; omega)) (by first | omega | (simp only [kd_setI, kd_cpI]; omega)) (by first | (simp only [*]; rfl) | (simp only [kd_setI, kd_cpI, *]; rfl)) (by first | omega | (simp only [ln_setI, ln_cpI]; omega) | decide) (by first | omega | (simp only [ln_setI, ln_cpI]; omega) | decide) (by first | assumption | (simp only [hr_setI, hr_cpI]; assumption)) ?_
      refine wp_iconst d_119_78 ?_
      refine wp_aload_n d_119_79 (by rfl) ?_
      refine wp_getR (1) d_119_80 fl_2_16 rfl rfl (by first | assumption | (simp only [kd_setI, kd_cpI]; assumption)) (by first | assumption | (simp only [hr_setI, hr_cpI]; assumption)) ?_
      refine wp_iload d_119_83 (by rfl) ?_
      refine wp_aald d_119_85 (by first | omega | (simp only [kd_setI, kd_cpI]; omega)) (by first | omega | (simp only [kd_setI, kd_cpI]; omega)) (by first | (simp only [*]; rfl) | (simp only [kd_setI, kd_cpI, *]; rfl)) (by first | omega | (simp only [ln_setI, ln_cpI]; omega) | decide) (by first | omega | (simp only [ln_setI, ln_cpI]; omega) | decide) (by first | assumption | (simp only [hr_setI, hr_cpI]; assumption)) ?_
      refine wp_iconst d_119_86 ?_
      refine wp_bipush d_119_87 (by decide) ?_
      refine wp_copy d_119_89 cp_WhistleStopBackward_43 cp_nat cp_sta cp_ini (by first | assumption | (simp only [kd_setI, kd_cpI]; assumption)) (by first | assumption | (simp only [kd_setI, kd_cpI]; assumption)) (by first | omega | (simp only [ln_setI, ln_cpI]; omega) | decide) (by first | omega | (simp only [ln_setI, ln_cpI]; omega) | decide) (by first | omega | (simp only [ln_setI, ln_cpI]; omega) | decide) (by first | omega | (simp only [ln_setI, ln_cpI]; omega) | decide) (by first | omega | (simp only [ln_setI, ln_cpI]; omega) | decide) (by decide) (by decide) ?_
      have E1 : sh (fun a => w + 32 ≤ a ∧ a ≤ w + 46) h (cpI (cpI h (w + 32 + K) 0 (w + 32 + (K + 1)) 0 16) (w + 40 + K) 0 (w + 40 + (K + 1)) 0 16) := (sh_cpI (P := fun a => w + 32 ≤ a ∧ a ≤ w + 46) ⟨by omega, by omega⟩).trans (sh_cpI (P := fun a => w + 32 ≤ a ∧ a ≤ w + 46) ⟨by omega, by omega⟩)
      have T1 : ∀ k, 0 ≤ k → k < 16 → hi (cpI (cpI h (w + 32 + K) 0 (w + 32 + (K + 1)) 0 16) (w + 40 + K) 0 (w + 40 + (K + 1)) 0 16) (w + 32 + (K + 1)) k = -1000000000 := fun k h0 h1 => by
        rw [hi_cpI]
        show (if _ then _ else _) = _
        rw [if_neg (fun z => absurd z.1 (by omega)), hi_cpI]
        show (if _ then _ else _) = _
        rw [if_pos ⟨rfl, by omega, by omega⟩, show (0 : Int) + (k - 0) = k by omega]
        exact hT k h0 h1
      have S6 : hi (cpI (cpI h (w + 32 + K) 0 (w + 32 + (K + 1)) 0 16) (w + 40 + K) 0 (w + 40 + (K + 1)) 0 16) (w + 6) 3 = 0 := (E1.2.2.2.2.2.2.2.2 _ _ (by omega)).trans h6
      have hs1 := hs0.kept E1
      have hc1 := hc0.kept E1 (by omega) (by omega)
      have r1 := (congrFun (congrFun E1.2.2.1 (w + 31)) ((K : Int) + 1)).trans i1
      have r2 := (congrFun (congrFun E1.2.2.1 (w + 39)) ((K : Int) + 1 - 1)).trans i2
      have q0 := (congrFun (congrFun E1.2.2.1 (w + 30)) 0).trans rb0
      have q1 := (congrFun (congrFun E1.2.2.1 (w + 30)) 1).trans rb1
      have q2 := (congrFun E1.1 (w + 30)).trans kb
      have q3 := (congrFun E1.1 (w + 31)).trans kB
      have q4 := (congrFun E1.1 (w + 39)).trans kA
      have q5 := (congrFun E1.2.1 (w + 31)).trans lB
      have q6 := (congrFun E1.2.1 (w + 39)).trans lA
      generalize (cpI (cpI h (w + 32 + K) 0 (w + 32 + (K + 1)) 0 16) (w + 40 + K) 0 (w + 40 + (K + 1)) 0 16) = g at *
      refine wp_iload d_119_92 (by rfl) ?_
      refine wp_if_eq (tgt := 127) d_119_94 (by decide) (by first | omega | (simp only [ln_setI, ln_cpI]; omega) | decide) (fun c_94 => ?_) (fun c_94 => ?_)
      · refine wp_iinc d_119_127 (by rfl) (by decide) ?_
        refine wp_goto (tgt := 34) d_119_130 (by decide) ?_
        refine wp_to [some (vR (some (w + 30))), some (vR (some (w + 1))), some (vR (some (w + 6))), some (vI t), some (vI d), some (vI 6), some (vI b), some (vI (((K + 1 : Nat) : Int) + 1))] ⟨rfl, rfl, rfl, rfl, rfl, rfl, rfl, rfl, trivial⟩ ?_
        exact ih (K + 1) b g (by omega) eb hs1 hc1 S6 T1 (fun h' e e2 => k h' (E1.trans e) e2)
      · refine wp_aload_n d_119_97 (by rfl) ?_
        refine wp_aload_n d_119_98 (by rfl) ?_
        refine wp_aload_n d_119_99 (by rfl) ?_
        refine wp_getR (0) d_119_100 fl_2_11 rfl rfl (by first | assumption | (simp only [kd_setI, kd_cpI]; assumption)) (by first | assumption | (simp only [hr_setI, hr_cpI]; assumption)) ?_
        refine wp_iload d_119_103 (by rfl) ?_
        refine wp_aald d_119_105 (by first | omega | (simp only [kd_setI, kd_cpI]; omega)) (by first | omega | (simp only [kd_setI, kd_cpI]; omega)) (by first | (simp only [*]; rfl) | (simp only [kd_setI, kd_cpI, *]; rfl)) (by first | omega | (simp only [ln_setI, ln_cpI]; omega) | decide) (by first | omega | (simp only [ln_setI, ln_cpI]; omega) | decide) (by first | assumption | (simp only [hr_setI, hr_cpI]; assumption)) ?_
        refine wp_aload_n d_119_106 (by rfl) ?_
        refine wp_getR (1) d_119_107 fl_2_16 rfl rfl (by first | assumption | (simp only [kd_setI, kd_cpI]; assumption)) (by first | assumption | (simp only [hr_setI, hr_cpI]; assumption)) ?_
        refine wp_iload d_119_110 (by rfl) ?_
        refine wp_iconst d_119_112 ?_
        refine wp_isub d_119_113 ?_
        refine wp_aald d_119_114 (by first | omega | (simp only [kd_setI, kd_cpI]; omega)) (by first | omega | (simp only [kd_setI, kd_cpI]; omega)) (by first | (simp only [*]; rfl) | (simp only [kd_setI, kd_cpI, *]; rfl)) (by first | omega | (simp only [ln_setI, ln_cpI]; omega) | decide) (by first | omega | (simp only [ln_setI, ln_cpI]; omega) | decide) (by first | assumption | (simp only [hr_setI, hr_cpI]; assumption)) ?_
        refine wp_callV d_119_115 c_119_49 rfl (by rfl) (by rfl) ⟨2, rfl, rfl, by decide⟩ (by first | assumption | (simp only [kd_setI, kd_cpI]; assumption)) (by exact Nat.le_of_ble_eq_true rfl) (by exact Nat.le_of_ble_eq_true rfl) (s_ride0 hs1 S6) (fun v_115 h_115 q_115 => ?_) (fun _ _ q => q.elim)
        obtain ⟨rfl, q_115⟩ := q_115
        replace q_115 := q_115.symm
        subst q_115
        refine wp_istore d_119_118 (by decide) ?_
        refine wp_aload_n d_119_120 (by rfl) ?_
        refine wp_aload_n d_119_121 (by rfl) ?_
        refine wp_iload d_119_122 (by rfl) ?_
        refine wp_callV d_119_124 c_119_33 rfl (by rfl) (by rfl) ⟨2, rfl, rfl, by decide⟩ (by first | assumption | (simp only [kd_setI, kd_cpI]; assumption)) (by exact Nat.le_of_ble_eq_true rfl) (by exact Nat.le_of_ble_eq_true rfl) (s_alight (L := K + 1) hK hn hs1 hc1 T1) (fun v_124 h_124 q_124 => ?_) (fun _ _ q => q.elim)
        obtain ⟨rfl, e_124⟩ := q_124
        refine wp_iinc d_119_127 (by rfl) (by decide) ?_
        refine wp_goto (tgt := 34) d_119_130 (by decide) ?_
        have E2 : sh (fun a => w + 32 ≤ a ∧ a ≤ w + 46) g h_124 := e_124.mono (fun x hx => ⟨by omega, by omega⟩)
        refine wp_to [some (vR (some (w + 30))), some (vR (some (w + 1))), some (vR (some (w + 6))), some (vI t), some (vI d), some (vI 6), some (vI 0), some (vI (((K + 1 : Nat) : Int) + 1))] ⟨rfl, rfl, rfl, rfl, rfl, rfl, rfl, rfl, trivial⟩ ?_
        exact ih (K + 1) 0 h_124 (by omega) (Or.inl rfl) (hs1.kept E2) (hc1.kept E2 (by omega) (by omega)) ((e_124.2.2.2.2.2.2.2.2 _ _ (by omega)).trans S6) (fun k h0 h1 => (e_124.2.2.2.2.2.2.2.2 _ _ (by omega)).trans (T1 k h0 h1)) (fun h' e e2 => k h' ((E1.trans E2).trans e) e2)
set_option maxRecDepth 100000 in
set_option maxHeartbeats 4000000 in
theorem s_seek {w : Nat} {n t d : Int} {h : Hp} (hn : 0 ≤ n ∧ n ≤ 16) (ht : inR t) (hd : inR d) (hs : Cs h w) (hc : Cn h w n) (h6 : hi h (w + 6) 3 = 0) : wp 119 0 (entL [vR (some (w + 30)), vR (some (w + 1)), vR (some (w + 6)), vI t, vI d, vI 6] (mL 119)) [] h (fun v h' => v = none ∧ sh (fun a => w + 30 ≤ a ∧ a ≤ w + 46) h h' ∧ hi h' (w + 30) 2 = t ∧ ∀ k, 0 ≤ k → k < 16 → hi h' (w + 32 + 6) k = -1000000000) noX := by
  have hs0 := hs
  obtain ⟨kw, rw0, rw1, rw4, ⟨kn, rn0, kc, lc⟩, kr, ⟨kb, rb0, rb1, kB, lB, kA, lA⟩, rows⟩ := hs
  have i0 : hr h (w + 31) 0 = some (w + 32 + 0) := (rows 0 (by decide)).1
  obtain ⟨-, -, k0, l0, -, -⟩ := rows 0 (by decide)
  refine wp_aload_n d_119_0 (by rfl) ?_
  refine wp_iload_n d_119_1 (by rfl) ?_
  refine wp_putI (2) d_119_2 fl_2_19 rfl rfl (Or.inl (by rfl)) (by first | assumption | (simp only [kd_setI, kd_cpI]; assumption)) (by first | omega | (simp only [ln_setI, ln_cpI]; omega) | decide) (fun q => nomatch q) ?_
  refine wp_aload_n d_119_5 (by rfl) ?_
  refine wp_iload d_119_6 (by rfl) ?_
  refine wp_putI (3) d_119_8 fl_2_23 rfl rfl (Or.inl (by rfl)) (by first | assumption | (simp only [kd_setI, kd_cpI]; assumption)) (by first | omega | (simp only [ln_setI, ln_cpI]; omega) | decide) (fun q => nomatch q) ?_
  refine wp_aload_n d_119_11 (by rfl) ?_
  refine wp_getR (0) d_119_12 fl_2_11 rfl rfl (by first | assumption | (simp only [kd_setI, kd_cpI]; assumption)) (by first | assumption | (simp only [hr_setI, hr_cpI]; assumption)) ?_
  refine wp_iconst d_119_15 ?_
  refine wp_aald d_119_16 (by first | omega | (simp only [kd_setI, kd_cpI]; omega)) (by first | omega | (simp only [kd_setI, kd_cpI]; omega)) (by first | (simp only [*]; rfl) | (simp only [kd_setI, kd_cpI, *]; rfl)) (by first | omega | (simp only [ln_setI, ln_cpI]; omega) | decide) (by first | omega | (simp only [ln_setI, ln_cpI]; omega) | decide) (by first | assumption | (simp only [hr_setI, hr_cpI]; assumption)) ?_
  refine wp_ldc (-1000000000) d_119_17 ck_2_26 (by decide) ?_
  refine wp_callS d_119_19 c_119_27 rfl (by rfl) (by rfl) (by exact Nat.le_of_ble_eq_true rfl) (by exact Nat.le_of_ble_eq_true rfl) (s_fill (N := 16) (by omega) (by omega) k0 l0) (fun v_19 h_19 q_19 => ?_) (fun _ _ q => q.elim)
  obtain ⟨rfl, e_19, z_19⟩ := q_19
  have E1 : sh ((fun a => w + 30 ≤ a ∧ a ≤ w + 46)) h h_19 := ((sh_setI (P := (fun a => w + 30 ≤ a ∧ a ≤ w + 46)) ⟨by omega, by omega⟩).trans (sh_setI (P := (fun a => w + 30 ≤ a ∧ a ≤ w + 46)) ⟨by omega, by omega⟩)).trans (e_19.mono (fun x hx => ⟨by omega, by omega⟩))
  have hs1 := hs0.kept E1
  have hc1 := hc.kept E1 (by omega) (by omega)
  have S6 := (E1.2.2.2.2.2.2.2.2 (w + 6) 3 (by omega)).trans h6
  have Z2 : hi h_19 (w + 30) 2 = t := (e_19.2.2.2.2.2.2.2.2 (w + 30) 2 (by omega)).trans (by rw [hi_setI, up2_ne _ _ (by omega), hi_setI, up2_same])
  have kb1 := (congrFun E1.1 (w + 30)).trans kb
  refine wp_aload_n d_119_22 (by rfl) ?_
  refine wp_aload_n d_119_23 (by rfl) ?_
  refine wp_iconst d_119_24 ?_
  refine wp_callV d_119_25 c_119_33 rfl (by rfl) (by rfl) ⟨2, rfl, rfl, by decide⟩ (by first | assumption | (simp only [kd_setI, kd_cpI]; assumption)) (by exact Nat.le_of_ble_eq_true rfl) (by exact Nat.le_of_ble_eq_true rfl) (s_alight (L := 0) (by decide) hn hs1 hc1 z_19) (fun v_25 h_25 q_25 => ?_) (fun _ _ q => q.elim)
  obtain ⟨rfl, e_25⟩ := q_25
  refine wp_iconst d_119_28 ?_
  refine wp_istore d_119_29 (by decide) ?_
  refine wp_iconst d_119_31 ?_
  refine wp_istore d_119_32 (by decide) ?_
  have E2 : sh (fun a => w + 30 ≤ a ∧ a ≤ w + 46) h_19 h_25 := e_25.mono (fun x hx => ⟨by omega, by omega⟩)
  refine wp_to [some (vR (some (w + 30))), some (vR (some (w + 1))), some (vR (some (w + 6))), some (vI t), some (vI d), some (vI 6), some (vI 1), some (vI (((0 : Nat) : Int) + 1))] ⟨rfl, rfl, rfl, rfl, rfl, rfl, rfl, rfl, trivial⟩ ?_
  refine l_seek hn 6 0 1 h_25 rfl (Or.inr rfl) (hs1.kept E2) (hc1.kept E2 (by omega) (by omega)) ((e_25.2.2.2.2.2.2.2.2 _ _ (by omega)).trans S6) (fun k h0 h1 => (e_25.2.2.2.2.2.2.2.2 _ _ (by omega)).trans (z_19 k h0 h1)) (fun h' e e2 => ⟨rfl, (E1.trans E2).trans (e.mono (fun x hx => ⟨by omega, by omega⟩)), ?_, e2⟩)
  exact (e.2.2.2.2.2.2.2.2 _ _ (by omega)).trans ((e_25.2.2.2.2.2.2.2.2 _ _ (by omega)).trans Z2)
set_option maxRecDepth 100000 in
set_option maxHeartbeats 4000000 in
theorem s_needArg1 {x : Int} {h : Hp} (hx : x = 1) : wp 14 0 (entL [vI x] (mL 14)) [] h (fun v h' => v = none ∧ h' = h) noX := by
  refine wp_iload_n d_14_0 (by rfl) ?_
  refine wp_if_ne (tgt := 15) d_14_1 (by decide) (by omega) (fun c_1 => ?_) (fun c_1 => ?_)
  · refine wp_vret d_14_15 rfl ?_
    exact ⟨rfl, rfl⟩
  · exact absurd c_1 (by omega)
set_option maxRecDepth 100000 in
set_option maxHeartbeats 4000000 in
theorem s_needState1 {x : Int} {h : Hp} (hx : x = 1) : wp 15 0 (entL [vI x] (mL 15)) [] h (fun v h' => v = none ∧ h' = h) noX := by
  refine wp_iload_n d_15_0 (by rfl) ?_
  refine wp_if_ne (tgt := 15) d_15_1 (by decide) (by omega) (fun c_1 => ?_) (fun c_1 => ?_)
  · refine wp_vret d_15_15 rfl ?_
    exact ⟨rfl, rfl⟩
  · exact absurd c_1 (by omega)
set_option maxRecDepth 100000 in
set_option maxHeartbeats 4000000 in
theorem s_needIndex1 {x y : Int} {h : Hp} (hx : 0 ≤ x ∧ x < y) (hy : inR y) : wp 9 0 (entL [vI x, vI y] (mL 9)) [] h (fun v h' => v = none ∧ h' = h) noX := by
  refine wp_iload_n d_9_0 (by rfl) ?_
  refine wp_if_lt (tgt := 9) d_9_1 (by decide) (by omega) (fun c_1 => ?_) (fun c_1 => ?_)
  · exact absurd hx (by omega)
  · refine wp_iload_n d_9_4 (by rfl) ?_
    refine wp_iload_n d_9_5 (by rfl) ?_
    refine wp_icmp_lt (tgt := 20) d_9_6 (by decide) (by omega) (by omega) (fun c_6 => ?_) (fun c_6 => ?_)
    · refine wp_vret d_9_20 rfl ?_
      exact ⟨rfl, rfl⟩
    · exact absurd hx (by omega)
set_option maxRecDepth 100000 in
set_option maxHeartbeats 4000000 in
theorem s_needStop1 {w : Nat} {x n : Int} {h : Hp} (hs : Cs h w) (hc : Cn h w n) (hn : 0 ≤ n ∧ n ≤ 16) (hx : 0 ≤ x ∧ x < n) : wp 17 0 (entL [vR (some w), vI x] (mL 17)) [] h (fun v h' => v = none ∧ h' = h) noX := by
  obtain ⟨kw, rw0, rw1, rw4, ⟨kn, rn0, kc, lc⟩, kr, ⟨kb, rb0, rb1, kB, lB, kA, lA⟩, rows⟩ := hs
  have hc4 := hc.1
  refine wp_iload_n d_17_0 (by rfl) ?_
  refine wp_aload_n d_17_1 (by rfl) ?_
  refine wp_getR (0) d_17_2 fl_0_12 rfl rfl (by first | assumption | (simp only [kd_setI, kd_cpI]; assumption)) (by first | assumption | (simp only [hr_setI, hr_cpI]; assumption)) ?_
  refine wp_getI (4) d_17_5 fl_0_66 rfl rfl (by first | assumption | (simp only [kd_setI, kd_cpI]; assumption)) (fun x_5 e_5 r_5 => ?_)
  refine wp_callS d_17_8 c_17_107 rfl (by rfl) (by rfl) (by exact Nat.le_of_ble_eq_true rfl) (by exact Nat.le_of_ble_eq_true rfl) (s_needIndex1 (by omega) (by omega)) (fun v_8 h_8 q_8 => ?_) (fun _ _ q => q.elim)
  obtain ⟨rfl, rfl⟩ := q_8
  refine wp_vret d_17_11 rfl ?_
  exact ⟨rfl, rfl⟩
set_option maxRecDepth 100000 in
set_option maxHeartbeats 4000000 in
theorem s_needTime1 {x : Int} {h : Hp} (hx : 0 ≤ x ∧ x ≤ 500000) : wp 29 0 (entL [vI x] (mL 29)) [] h (fun v h' => v = none ∧ h' = h) noX := by
  refine wp_iload_n d_29_0 (by rfl) ?_
  refine wp_iconst d_29_1 ?_
  refine wp_ldcw (500000) d_29_2 ck_0_294 (by decide) ?_
  refine wp_callS d_29_5 c_29_58 rfl (by rfl) (by rfl) (by exact Nat.le_of_ble_eq_true rfl) (by exact Nat.le_of_ble_eq_true rfl) (s_isWithin (by omega) (by omega) (by omega)) (fun v_5 h_5 q_5 => ?_) (fun _ _ q => q.elim)
  obtain ⟨rfl, rfl⟩ := q_5
  refine wp_callS d_29_8 c_29_62 rfl (by rfl) (by rfl) (by exact Nat.le_of_ble_eq_true rfl) (by exact Nat.le_of_ble_eq_true rfl) (s_needArg1 (if_pos hx)) (fun v_8 h_8 q_8 => ?_) (fun _ _ q => q.elim)
  obtain ⟨rfl, rfl⟩ := q_8
  refine wp_vret d_29_11 rfl ?_
  exact ⟨rfl, rfl⟩
set_option maxRecDepth 100000 in
set_option maxHeartbeats 4000000 in
theorem s_addStop {w : Nat} {c n : Int} {h : Hp} (hs : Cs h w) (hc : Cn h w n) (hn : 0 ≤ n ∧ n < 16) (hx : 0 ≤ c ∧ c ≤ 30) : wp 13 0 (entL [vR (some w), vI c] (mL 13)) [] h (fun v h' => v = some (vI n) ∧ sh (fun a => a = w + 1 ∨ a = w + 2) h h' ∧ Cn h' w (n + 1)) noX := by
  obtain ⟨kw, rw0, rw1, rw4, ⟨kn, rn0, kc, lc⟩, kr, ⟨kb, rb0, rb1, kB, lB, kA, lA⟩, rows⟩ := hs
  obtain ⟨hc4, hc5, hc7, hch⟩ := hc
  refine wp_iload_n d_13_0 (by rfl) ?_
  refine wp_iconst d_13_1 ?_
  refine wp_bipush d_13_2 (by decide) ?_
  refine wp_callS d_13_4 c_13_58 rfl (by rfl) (by rfl) (by exact Nat.le_of_ble_eq_true rfl) (by exact Nat.le_of_ble_eq_true rfl) (s_isWithin (by omega) (by omega) (by omega)) (fun v_4 h_4 q_4 => ?_) (fun _ _ q => q.elim)
  obtain ⟨rfl, q_4⟩ := q_4
  replace q_4 := q_4.symm
  subst q_4
  refine wp_callS d_13_7 c_13_62 rfl (by rfl) (by rfl) (by exact Nat.le_of_ble_eq_true rfl) (by exact Nat.le_of_ble_eq_true rfl) (s_needArg1 (if_pos hx)) (fun v_7 h_7 q_7 => ?_) (fun _ _ q => q.elim)
  obtain ⟨rfl, q_7⟩ := q_7
  replace q_7 := q_7.symm
  subst q_7
  refine wp_aload_n d_13_10 (by rfl) ?_
  refine wp_getR (0) d_13_11 fl_0_12 rfl rfl (by first | assumption | (simp only [kd_setI, kd_cpI]; assumption)) (by first | assumption | (simp only [hr_setI, hr_cpI]; assumption)) ?_
  refine wp_getI (4) d_13_14 fl_0_66 rfl rfl (by first | assumption | (simp only [kd_setI, kd_cpI]; assumption)) (fun x_14 e_14 r_14 => ?_)
  refine wp_bipush d_13_17 (by decide) ?_
  refine wp_icmp_ge (tgt := 26) d_13_19 (by decide) (by first | omega | (simp only [ln_setI, ln_cpI]; omega) | decide) (by first | omega | (simp only [ln_setI, ln_cpI]; omega) | decide) (fun c_19 => ?_) (fun c_19 => ?_)
  · exact absurd c_19 (by omega)
  · refine wp_iconst d_13_22 ?_
    refine wp_goto (tgt := 27) d_13_23 (by decide) ?_
    refine wp_callS d_13_27 c_13_70 rfl (by rfl) (by rfl) (by exact Nat.le_of_ble_eq_true rfl) (by exact Nat.le_of_ble_eq_true rfl) (s_needState1 rfl) (fun v_27 h_27 q_27 => ?_) (fun _ _ q => q.elim)
    obtain ⟨rfl, q_27⟩ := q_27
    replace q_27 := q_27.symm
    subst q_27
    refine wp_aload_n d_13_30 (by rfl) ?_
    refine wp_getR (0) d_13_31 fl_0_12 rfl rfl (by first | assumption | (simp only [kd_setI, kd_cpI]; assumption)) (by first | assumption | (simp only [hr_setI, hr_cpI]; assumption)) ?_
    refine wp_getR (0) d_13_34 fl_0_73 rfl rfl (by first | assumption | (simp only [kd_setI, kd_cpI]; assumption)) (by first | assumption | (simp only [hr_setI, hr_cpI]; assumption)) ?_
    refine wp_aload_n d_13_37 (by rfl) ?_
    refine wp_getR (0) d_13_38 fl_0_12 rfl rfl (by first | assumption | (simp only [kd_setI, kd_cpI]; assumption)) (by first | assumption | (simp only [hr_setI, hr_cpI]; assumption)) ?_
    refine wp_getI (4) d_13_41 fl_0_66 rfl rfl (by first | assumption | (simp only [kd_setI, kd_cpI]; assumption)) (fun x_41 e_41 r_41 => ?_)
    refine wp_iload_n d_13_44 (by rfl) ?_
    refine wp_iast d_13_45 (by first | assumption | (simp only [kd_setI, kd_cpI]; assumption)) (by first | omega | (simp only [ln_setI, ln_cpI]; omega) | decide) (by first | omega | (simp only [ln_setI, ln_cpI]; omega) | decide) (by first | omega | (simp only [ln_setI, ln_cpI]; omega) | decide) ?_
    refine wp_aload_n d_13_46 (by rfl) ?_
    refine wp_getR (0) d_13_47 fl_0_12 rfl rfl (by first | assumption | (simp only [kd_setI, kd_cpI]; assumption)) (by first | assumption | (simp only [hr_setI, hr_cpI]; assumption)) ?_
    refine wp_dup d_13_50 (by rfl) ?_
    refine wp_getI (4) d_13_51 fl_0_66 rfl rfl (by first | assumption | (simp only [kd_setI, kd_cpI]; assumption)) (fun x_51 e_51 r_51 => ?_)
    rw [hi_setI, up2_ne _ _ (by omega)] at e_51
    refine wp_iconst d_13_54 ?_
    refine wp_iadd d_13_55 ?_
    refine wp_putI (4) d_13_56 fl_0_66 rfl rfl (Or.inl (by rfl)) (by first | assumption | (simp only [kd_setI, kd_cpI]; assumption)) (by first | omega | (simp only [ln_setI, ln_cpI]; omega) | decide) (fun q => nomatch q) ?_
    refine wp_aload_n d_13_59 (by rfl) ?_
    refine wp_getR (0) d_13_60 fl_0_12 rfl rfl (by first | assumption | (simp only [kd_setI, kd_cpI]; assumption)) (by first | assumption | (simp only [hr_setI, hr_cpI]; assumption)) ?_
    refine wp_getI (4) d_13_63 fl_0_66 rfl rfl (by first | assumption | (simp only [kd_setI, kd_cpI]; assumption)) (fun x_63 e_63 r_63 => ?_)
    rw [hi_setI, up2_same] at e_63
    refine wp_iconst d_13_66 ?_
    refine wp_isub d_13_67 ?_
    refine wp_iret d_13_68 rfl ?_
    refine ⟨congrArg (fun z => some (vI z)) (by omega), (sh_setI (P := fun a => a = w + 1 ∨ a = w + 2) (Or.inr rfl)).trans (sh_setI (P := fun a => a = w + 1 ∨ a = w + 2) (Or.inl rfl)), ?_, ?_, ?_, fun k => ?_⟩
    · rw [hi_setI, up2_same]
      omega
    · rw [hi_setI, up2_ne _ _ (by omega), hi_setI, up2_ne _ _ (by omega)]
      exact hc5
    · rw [hi_setI, up2_ne _ _ (by omega), hi_setI, up2_ne _ _ (by omega)]
      exact hc7
    · rw [hi_setI, up2_ne _ _ (by omega), hi_setI]
      unfold up2
      have := hch k
      by_cases q : w + 2 = w + 2 ∧ k = x_41
      · rw [if_pos q]
        omega
      · rw [if_neg q]
        omega
set_option maxRecDepth 100000 in
set_option maxHeartbeats 4000000 in
theorem l_latest {w : Nat} {n f t a : Int} (hn : 0 ≤ n ∧ n ≤ 16) (hf : 0 ≤ f ∧ f < 16) (ht : 0 ≤ t ∧ t < 16) (hft : f ≠ t) {Q : Option AV → Hp → Prop} : ∀ (m : Nat) (d : Int) (h : Hp), d < m → d ≤ 500000 → -1 ≤ d → Cs h w → Cn h w n → (∀ h', sh (fun a => a = w + 6 ∨ (w + 30 ≤ a ∧ a ≤ w + 46)) h h' → Q (some (vI (-1))) h') → wp 37 17 [some (vR (some w)), some (vI f), some (vI t), some (vI a), some (vI d), none, none] [] h Q noX := by
  intro m
  induction m with
  | zero =>
    intro d h e0 e1 e2 hs hc k
    refine wp_iload d_37_17 (by rfl) ?_
    refine wp_if_lt (tgt := 140) d_37_19 (by decide) (by first | omega | (simp only [ln_setI, ln_cpI]; omega) | decide) (fun c_19 => ?_) (fun c_19 => ?_)
    · refine wp_iconst d_37_140 ?_
      refine wp_iret d_37_141 rfl ?_
      exact k h sh.rfl
    · exact absurd c_19 (by omega)
  | succ m ih =>
    intro d h e0 e1 e2 hs hc k
    have hs0 := hs
    obtain ⟨kw, rw0, rw1, rw4, ⟨kn, rn0, kc, lc⟩, kr, ⟨kb, rb0, rb1, kB, lB, kA, lA⟩, rows⟩ := hs
    refine wp_iload d_37_17 (by rfl) ?_
    refine wp_if_lt (tgt := 140) d_37_19 (by decide) (by first | omega | (simp only [ln_setI, ln_cpI]; omega) | decide) (fun c_19 => ?_) (fun c_19 => ?_)
    · refine wp_iconst d_37_140 ?_
      refine wp_iret d_37_141 rfl ?_
      exact k h sh.rfl
    · refine wp_aload_n d_37_22 (by rfl) ?_
      refine wp_getR (1) d_37_23 fl_0_19 rfl rfl (by first | assumption | (simp only [kd_setI, kd_cpI]; assumption)) (by first | assumption | (simp only [hr_setI, hr_cpI]; assumption)) ?_
      refine wp_aload_n d_37_26 (by rfl) ?_
      refine wp_getR (0) d_37_27 fl_0_12 rfl rfl (by first | assumption | (simp only [kd_setI, kd_cpI]; assumption)) (by first | assumption | (simp only [hr_setI, hr_cpI]; assumption)) ?_
      refine wp_iload d_37_30 (by rfl) ?_
      refine wp_sipush d_37_32 (by decide) ?_
      refine wp_isub d_37_35 ?_
      refine wp_iload d_37_36 (by rfl) ?_
      refine wp_callV d_37_38 c_37_183 rfl (by rfl) (by rfl) ⟨11, rfl, rfl, by decide⟩ (by first | assumption | (simp only [kd_setI, kd_cpI]; assumption)) (by exact Nat.le_of_ble_eq_true rfl) (by exact Nat.le_of_ble_eq_true rfl) (s_coll hs0 hc (by omega) (by omega)) (fun v_38 h_38 q_38 => ?_) (fun _ _ q => q.elim)
      obtain ⟨rfl, e_38, z_38⟩ := q_38
      have E1 : sh (fun a => a = w + 6 ∨ (w + 30 ≤ a ∧ a ≤ w + 46)) h h_38 := e_38.mono (fun x hx => Or.inl hx)
      have hs1 := hs0.kept E1
      have hc1 := hc.kept E1 (by omega) (by omega)
      have kw1 := (congrFun E1.1 w).trans kw
      have r11 := (congrFun (congrFun E1.2.2.1 w) 0).trans rw0
      have r12 := (congrFun (congrFun E1.2.2.1 w) 1).trans rw1
      have r14 := (congrFun (congrFun E1.2.2.1 w) 4).trans rw4
      have kb1 := (congrFun E1.1 (w + 30)).trans kb
      refine wp_aload_n d_37_41 (by rfl) ?_
      refine wp_getR (4) d_37_42 fl_0_40 rfl rfl (by first | assumption | (simp only [kd_setI, kd_cpI]; assumption)) (by first | assumption | (simp only [hr_setI, hr_cpI]; assumption)) ?_
      refine wp_aload_n d_37_45 (by rfl) ?_
      refine wp_getR (0) d_37_46 fl_0_12 rfl rfl (by first | assumption | (simp only [kd_setI, kd_cpI]; assumption)) (by first | assumption | (simp only [hr_setI, hr_cpI]; assumption)) ?_
      refine wp_aload_n d_37_49 (by rfl) ?_
      refine wp_getR (1) d_37_50 fl_0_19 rfl rfl (by first | assumption | (simp only [kd_setI, kd_cpI]; assumption)) (by first | assumption | (simp only [hr_setI, hr_cpI]; assumption)) ?_
      refine wp_iload_n d_37_53 (by rfl) ?_
      refine wp_iload d_37_54 (by rfl) ?_
      refine wp_bipush d_37_56 (by decide) ?_
      refine wp_callV d_37_58 c_37_198 rfl (by rfl) (by rfl) ⟨2, rfl, rfl, by decide⟩ (by first | assumption | (simp only [kd_setI, kd_cpI]; assumption)) (by exact Nat.le_of_ble_eq_true rfl) (by exact Nat.le_of_ble_eq_true rfl) (s_seek hn (by omega) (by omega) hs1 hc1 z_38) (fun v_58 h_58 q_58 => ?_) (fun _ _ q => q.elim)
      obtain ⟨rfl, e_58, t_58, z_58⟩ := q_58
      have E2 : sh (fun a => a = w + 6 ∨ (w + 30 ≤ a ∧ a ≤ w + 46)) h_38 h_58 := e_58.mono (fun x hx => Or.inr hx)
      have hs2 := hs1.kept E2
      have hc2 := hc1.kept E2 (by omega) (by omega)
      have kw2 := (congrFun E2.1 w).trans kw1
      have r21 := (congrFun (congrFun E2.2.2.1 w) 0).trans r11
      have r22 := (congrFun (congrFun E2.2.2.1 w) 1).trans r12
      have r24 := (congrFun (congrFun E2.2.2.1 w) 4).trans r14
      have kb2 := (congrFun E2.1 (w + 30)).trans kb1
      have ne2 : f ≠ hi h_58 (w + 30) 2 := by rw [t_58]; exact hft
      refine wp_aload_n d_37_61 (by rfl) ?_
      refine wp_getR (4) d_37_62 fl_0_40 rfl rfl (by first | assumption | (simp only [kd_setI, kd_cpI]; assumption)) (by first | assumption | (simp only [hr_setI, hr_cpI]; assumption)) ?_
      refine wp_aload_n d_37_65 (by rfl) ?_
      refine wp_getR (0) d_37_66 fl_0_12 rfl rfl (by first | assumption | (simp only [kd_setI, kd_cpI]; assumption)) (by first | assumption | (simp only [hr_setI, hr_cpI]; assumption)) ?_
      refine wp_iload_n d_37_69 (by rfl) ?_
      refine wp_bipush d_37_70 (by decide) ?_
      refine wp_callV d_37_72 c_37_199 rfl (by rfl) (by rfl) ⟨2, rfl, rfl, by decide⟩ (by first | assumption | (simp only [kd_setI, kd_cpI]; assumption)) (by exact Nat.le_of_ble_eq_true rfl) (by exact Nat.le_of_ble_eq_true rfl) (s_latestBegin (L := 6) (by decide) hf hs2 hc2 ne2 (z_58 f hf.1 hf.2)) (fun v_72 h_72 q_72 => ?_) (fun _ _ q => q.elim)
      obtain ⟨rfl, q_72⟩ := q_72
      replace q_72 := q_72.symm
      subst q_72
      refine wp_istore d_37_75 (by decide) ?_
      refine wp_iload d_37_77 (by rfl) ?_
      refine wp_iload d_37_79 (by rfl) ?_
      refine wp_sipush d_37_81 (by decide) ?_
      refine wp_isub d_37_84 ?_
      refine wp_icmp_lt (tgt := 100) d_37_85 (by decide) (by first | omega | (simp only [ln_setI, ln_cpI]; omega) | decide) (by first | omega | (simp only [ln_setI, ln_cpI]; omega) | decide) (fun c_85 => ?_) (fun c_85 => ?_)
      · refine wp_iload d_37_100 (by rfl) ?_
        refine wp_iload d_37_102 (by rfl) ?_
        refine wp_sipush d_37_104 (by decide) ?_
        refine wp_isub d_37_107 ?_
        refine wp_iconst d_37_108 ?_
        refine wp_isub d_37_109 ?_
        refine wp_callS d_37_110 c_37_203 rfl (by rfl) (by rfl) (by exact Nat.le_of_ble_eq_true rfl) (by exact Nat.le_of_ble_eq_true rfl) (s_max (by omega) (by omega)) (fun v_110 h_110 q_110 => ?_) (fun _ _ q => q.elim)
        obtain ⟨rfl, q_110⟩ := q_110
        replace q_110 := q_110.symm
        subst q_110
        refine wp_istore d_37_113 (by decide) ?_
        refine wp_iload d_37_115 (by rfl) ?_
        refine wp_if_ge (tgt := 122) d_37_117 (by decide) (by first | omega | (simp only [ln_setI, ln_cpI]; omega) | decide) (fun c_117 => ?_) (fun c_117 => ?_)
        · refine wp_iload d_37_122 (by rfl) ?_
          refine wp_iconst d_37_124 ?_
          refine wp_isub d_37_125 ?_
          refine wp_iload d_37_126 (by rfl) ?_
          refine wp_sipush d_37_128 (by decide) ?_
          refine wp_iadd d_37_131 ?_
          refine wp_callS d_37_132 c_37_187 rfl (by rfl) (by rfl) (by exact Nat.le_of_ble_eq_true rfl) (by exact Nat.le_of_ble_eq_true rfl) (s_min (by omega) (by omega)) (fun v_132 h_132 q_132 => ?_) (fun _ _ q => q.elim)
          obtain ⟨rfl, q_132⟩ := q_132
          replace q_132 := q_132.symm
          subst q_132
          refine wp_istore d_37_135 (by decide) ?_
          refine wp_goto (tgt := 17) d_37_137 (by decide) ?_
          refine wp_to [some (vR (some w)), some (vI f), some (vI t), some (vI a), some (vI (min (d - 1) (max (-1000000000) (d - 5760 - 1) + 2880))), none, none] ⟨rfl, rfl, rfl, rfl, rfl, trivial⟩ ?_
          exact ih _ h_58 (by omega) (by omega) (by omega) hs2 hc2 (fun h' e => k h' ((E1.trans E2).trans e))
        · refine wp_iconst d_37_120 ?_
          refine wp_iret d_37_121 rfl ?_
          exact k _ (E1.trans E2)
      · exact absurd c_85 (by omega)
set_option maxRecDepth 100000 in
set_option maxHeartbeats 4000000 in
theorem s_latest {w : Nat} {n f t a : Int} {h : Hp} (hn : 0 ≤ n ∧ n ≤ 16) (hf : 0 ≤ f ∧ f < n) (ht : 0 ≤ t ∧ t < n) (hft : f ≠ t) (ha : 0 ≤ a ∧ a ≤ 500000) (hs : Cs h w) (hc : Cn h w n) : wp 37 0 (entL [vR (some w), vI f, vI t, vI a] (mL 37)) [] h (fun v h' => v = some (vI (-1)) ∧ sh (fun a => a = w + 6 ∨ (w + 30 ≤ a ∧ a ≤ w + 46)) h h') noX := by
  have hs0 := hs
  obtain ⟨kw, rw0, rw1, rw4, ⟨kn, rn0, kc, lc⟩, kr, ⟨kb, rb0, rb1, kB, lB, kA, lA⟩, rows⟩ := hs
  refine wp_aload_n d_37_0 (by rfl) ?_
  refine wp_iload_n d_37_1 (by rfl) ?_
  refine wp_callV d_37_2 c_37_77 rfl (by rfl) (by rfl) ⟨0, rfl, rfl, by decide⟩ (by first | assumption | (simp only [kd_setI, kd_cpI]; assumption)) (by exact Nat.le_of_ble_eq_true rfl) (by exact Nat.le_of_ble_eq_true rfl) (s_needStop1 hs0 hc hn (by omega)) (fun v_2 h_2 q_2 => ?_) (fun _ _ q => q.elim)
  obtain ⟨rfl, q_2⟩ := q_2
  replace q_2 := q_2.symm
  subst q_2
  refine wp_aload_n d_37_5 (by rfl) ?_
  refine wp_iload_n d_37_6 (by rfl) ?_
  refine wp_callV d_37_7 c_37_77 rfl (by rfl) (by rfl) ⟨0, rfl, rfl, by decide⟩ (by first | assumption | (simp only [kd_setI, kd_cpI]; assumption)) (by exact Nat.le_of_ble_eq_true rfl) (by exact Nat.le_of_ble_eq_true rfl) (s_needStop1 hs0 hc hn (by omega)) (fun v_7 h_7 q_7 => ?_) (fun _ _ q => q.elim)
  obtain ⟨rfl, q_7⟩ := q_7
  replace q_7 := q_7.symm
  subst q_7
  refine wp_iload_n d_37_10 (by rfl) ?_
  refine wp_callS d_37_11 c_37_154 rfl (by rfl) (by rfl) (by exact Nat.le_of_ble_eq_true rfl) (by exact Nat.le_of_ble_eq_true rfl) (s_needTime1 ha) (fun v_11 h_11 q_11 => ?_) (fun _ _ q => q.elim)
  obtain ⟨rfl, q_11⟩ := q_11
  replace q_11 := q_11.symm
  subst q_11
  refine wp_iload_n d_37_14 (by rfl) ?_
  refine wp_istore d_37_15 (by decide) ?_
  refine wp_to [some (vR (some w)), some (vI f), some (vI t), some (vI a), some (vI a), none, none] ⟨rfl, rfl, rfl, rfl, rfl, trivial⟩ ?_
  exact l_latest hn (by omega) (by omega) hft 500001 a h (by omega) (by omega) (by omega) hs0 hc (fun h' e => ⟨rfl, e⟩)
