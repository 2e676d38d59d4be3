/-! ===== an offer ===== -/
/-- what offer leaves, behind makeRoom: T, P the rows, n of them, one at F in place of those from F to N -/
def ofF (h : Hp) (a T P : Nat) (n F N t p : Int) : Hp := setI (setI (setI (cpI (cpI h T N T (F + 1) (n - N)) P N P (F + 1) (n - N)) a 2 (n + (F + 1 - N))) T F t) P F p
theorem ofF_T {h : Hp} {a T P : Nat} {n F N t p : Int} (h1 : T ≠ P) (h2 : T ≠ a) : hi (ofF h a T P n F N t p) T = upF (fun j => if F + 1 ≤ j ∧ j < F + 1 + (n - N) then hi h T (N + (j - (F + 1))) else hi h T j) F t := by
  unfold ofF
  rw [hi_setI_ne h1, hi_upF, hi_setI_ne h2, hi_cpI_ne h1]
  congr 1
  funext j
  rw [hi_cpI]
  by_cases c : F + 1 ≤ j ∧ j < F + 1 + (n - N)
  · rw [if_pos c]; exact if_pos ⟨rfl, c⟩
  · rw [if_neg c]; exact if_neg (fun z => c z.2)
theorem ofF_P {h : Hp} {a T P : Nat} {n F N t p : Int} (h1 : T ≠ P) (h2 : P ≠ a) : hi (ofF h a T P n F N t p) P = upF (fun j => if F + 1 ≤ j ∧ j < F + 1 + (n - N) then hi h P (N + (j - (F + 1))) else hi h P j) F p := by
  unfold ofF
  rw [hi_upF, hi_setI_ne (fun z => h1 z.symm), hi_setI_ne h2]
  congr 1
  funext j
  rw [hi_cpI]
  by_cases c : F + 1 ≤ j ∧ j < F + 1 + (n - N)
  · rw [if_pos c]
    refine (if_pos ⟨rfl, c⟩).trans ?_
    rw [hi_cpI_ne (fun z => h1 z.symm)]
  · rw [if_neg c]
    refine (if_neg (fun z => c z.2)).trans ?_
    rw [hi_cpI_ne (fun z => h1 z.symm)]
theorem ofF_a {h : Hp} {a T P : Nat} {n F N t p : Int} (h2 : a ≠ T) (h3 : a ≠ P) : hi (ofF h a T P n F N t p) a = upF (hi h a) 2 (n + (F + 1 - N)) := by
  unfold ofF
  rw [hi_setI_ne h3, hi_setI_ne h2, hi_upF, hi_cpI_ne h3, hi_cpI_ne h2]
theorem ofF_o {h : Hp} {a b T P : Nat} {n F N t p : Int} (h1 : b ≠ a) (h2 : b ≠ T) (h3 : b ≠ P) : hi (ofF h a T P n F N t p) b = hi h b := by
  unfold ofF
  rw [hi_setI_ne h3, hi_setI_ne h2, hi_setI_ne h1, hi_cpI_ne h3, hi_cpI_ne h2]
theorem ofF_put {f : Int → Int} {n F N v : Int} : OfP f (upF (fun j => if F + 1 ≤ j ∧ j < F + 1 + (n - N) then f (N + (j - (F + 1))) else f j) F v) n F N v := by
  refine ⟨fun j j0 j1 => ?_, upF_same _ _ _, fun j j0 j1 => ?_⟩
  · rw [upF_ne _ (by omega)]
    exact if_neg (by omega)
  · rw [upF_ne _ (by omega)]
    refine (if_pos (by omega)).trans ?_
    rw [show N + (F + 1 + j - (F + 1)) = N + j by omega]
set_option maxRecDepth 100000 in
set_option maxHeartbeats 4000000 in
theorem l_off2 {a : Nat} {t p : Int} {h : Hp} (S : OfS h a) (ht : inR t) (hp : inR p) {F : Int} (hF : 0 ≤ F) {Q : Option AV → Hp → Prop} (kq : ∀ N, F ≤ N → N ≤ hi h a 2 → (∀ i, F ≤ i → i < N → p ≤ hi h (pAr h a) i) → (N = hi h a 2 ∨ hi h (pAr h a) N < p) → wp 75 66 [some (vR (some a)), some (vI t), some (vI p), some (vI (F)), some (vI (N))] [] h Q noX) : ∀ (m : Nat) (N : Int), N + m = hi h a 2 → F ≤ N → (∀ i, F ≤ i → i < N → p ≤ hi h (pAr h a) i) → wp 75 40 [some (vR (some a)), some (vI t), some (vI p), some (vI (F)), some (vI (N))] [] h Q noX := by
  have S9 := S
  obtain ⟨q1, q2, q3, ⟨q4, q5, q6, q7, q8⟩, ⟨q9, q10⟩, q11, ⟨q12, q13, q14⟩⟩ := S
  have ne1 := S9.ne.1
  have ne2 := S9.ne.2
  intro m
  induction m with
  | zero =>
    intro N e0 e1 e2
    refine wp_iload d_75_40 (by rfl) ?_
    refine wp_aload_n d_75_42 (by rfl) ?_
    refine wp_getI (2) d_75_43 fl_8_18 rfl rfl (by assumption) (fun x_43 e_43 r_43 => ?_)
    subst e_43
    refine wp_icmp_ge (tgt := 66) d_75_46 (by decide) (by omega) (by omega) (fun c_46 => ?_) (fun c_46 => ?_)
    rotate_left
    · exact absurd c_46 (by omega)
    refine wp_to [some (vR (some a)), some (vI t), some (vI p), some (vI (F)), some (vI (N))] ⟨rfl, rfl, rfl, rfl, rfl, trivial⟩ ?_
    exact kq N e1 (by omega) e2 (Or.inl (by omega))
  | succ m ih =>
    intro N e0 e1 e2
    refine wp_iload d_75_40 (by rfl) ?_
    refine wp_aload_n d_75_42 (by rfl) ?_
    refine wp_getI (2) d_75_43 fl_8_18 rfl rfl (by assumption) (fun x_43 e_43 r_43 => ?_)
    subst e_43
    refine wp_icmp_ge (tgt := 66) d_75_46 (by decide) (by omega) (by omega) (fun c_46 => ?_) (fun c_46 => ?_)
    · exact absurd c_46 (by omega)
    refine wp_aload_n d_75_49 (by rfl) ?_
    refine wp_getR (1) d_75_50 fl_8_15 rfl rfl (by assumption) (by assumption) ?_
    refine wp_iload d_75_53 (by rfl) ?_
    refine wp_iald d_75_55 (Or.inl (by assumption)) (by omega) (by omega) (fun x_55 e_55 r_55 => ?_)
    subst e_55
    refine wp_iload_n d_75_56 (by rfl) ?_
    refine wp_icmp_lt (tgt := 66) d_75_57 (by decide) (by omega) (by omega) (fun c_57 => ?_) (fun c_57 => ?_)
    · refine wp_to [some (vR (some a)), some (vI t), some (vI p), some (vI (F)), some (vI (N))] ⟨rfl, rfl, rfl, rfl, rfl, trivial⟩ ?_
      exact kq N e1 (by omega) e2 (Or.inr (by omega))
    · refine wp_iinc d_75_60 (by rfl) (by decide) ?_
      refine wp_goto (tgt := 40) d_75_63 (by decide) ?_
      refine wp_to [some (vR (some a)), some (vI t), some (vI p), some (vI (F)), some (vI (N + 1))] ⟨rfl, rfl, rfl, rfl, rfl, trivial⟩ ?_
      refine ih (N + 1) (by omega) (by omega) (fun i i0 i1 => ?_)
      by_cases z : i = N
      · subst z; omega
      · exact e2 i i0 (by omega)
set_option maxRecDepth 100000 in
set_option maxHeartbeats 4000000 in
theorem l_off1 {a : Nat} {t p : Int} {h : Hp} (S : OfS h a) (ht : inR t) (hp : inR p) {Q : Option AV → Hp → Prop} (kq : ∀ F, 0 ≤ F → F ≤ hi h a 2 → (∀ i, 0 ≤ i → i < F → hi h (tAr h a) i < t) → (F = hi h a 2 ∨ t ≤ hi h (tAr h a) F) → wp 75 37 [some (vR (some a)), some (vI t), some (vI p), some (vI (F)), none] [] h Q noX) : ∀ (m : Nat) (F : Int), F + m = hi h a 2 → 0 ≤ F → (∀ i, 0 ≤ i → i < F → hi h (tAr h a) i < t) → wp 75 13 [some (vR (some a)), some (vI t), some (vI p), some (vI (F)), none] [] h Q noX := by
  have S9 := S
  obtain ⟨q1, q2, q3, ⟨q4, q5, q6, q7, q8⟩, ⟨q9, q10⟩, q11, ⟨q12, q13, q14⟩⟩ := S
  have ne1 := S9.ne.1
  have ne2 := S9.ne.2
  intro m
  induction m with
  | zero =>
    intro F e0 e1 e2
    refine wp_iload_n d_75_13 (by rfl) ?_
    refine wp_aload_n d_75_14 (by rfl) ?_
    refine wp_getI (2) d_75_15 fl_8_18 rfl rfl (by assumption) (fun x_15 e_15 r_15 => ?_)
    subst e_15
    refine wp_icmp_ge (tgt := 37) d_75_18 (by decide) (by omega) (by omega) (fun c_18 => ?_) (fun c_18 => ?_)
    rotate_left
    · exact absurd c_18 (by omega)
    refine wp_to [some (vR (some a)), some (vI t), some (vI p), some (vI (F)), none] ⟨rfl, rfl, rfl, rfl, trivial⟩ ?_
    exact kq F e1 (by omega) e2 (Or.inl (by omega))
  | succ m ih =>
    intro F e0 e1 e2
    refine wp_iload_n d_75_13 (by rfl) ?_
    refine wp_aload_n d_75_14 (by rfl) ?_
    refine wp_getI (2) d_75_15 fl_8_18 rfl rfl (by assumption) (fun x_15 e_15 r_15 => ?_)
    subst e_15
    refine wp_icmp_ge (tgt := 37) d_75_18 (by decide) (by omega) (by omega) (fun c_18 => ?_) (fun c_18 => ?_)
    · exact absurd c_18 (by omega)
    refine wp_aload_n d_75_21 (by rfl) ?_
    refine wp_getR (0) d_75_22 fl_8_11 rfl rfl (by assumption) (by assumption) ?_
    refine wp_iload_n d_75_25 (by rfl) ?_
    refine wp_iald d_75_26 (Or.inl (by assumption)) (by omega) (by omega) (fun x_26 e_26 r_26 => ?_)
    subst e_26
    refine wp_iload_n d_75_27 (by rfl) ?_
    refine wp_icmp_ge (tgt := 37) d_75_28 (by decide) (by omega) (by omega) (fun c_28 => ?_) (fun c_28 => ?_)
    · refine wp_to [some (vR (some a)), some (vI t), some (vI p), some (vI (F)), none] ⟨rfl, rfl, rfl, rfl, trivial⟩ ?_
      exact kq F e1 (by omega) e2 (Or.inr (by omega))
    · refine wp_iinc d_75_31 (by rfl) (by decide) ?_
      refine wp_goto (tgt := 13) d_75_34 (by decide) ?_
      refine wp_to [some (vR (some a)), some (vI t), some (vI p), some (vI (F + 1)), none] ⟨rfl, rfl, rfl, rfl, trivial⟩ ?_
      refine ih (F + 1) (by omega) (by omega) (fun i i0 i1 => ?_)
      by_cases z : i = F
      · subst z; omega
      · exact e2 i i0 (by omega)
set_option maxRecDepth 100000 in
set_option maxHeartbeats 4000000 in
theorem l_off3 {a : Nat} {t p F N : Int} {h : Hp} (S : OfS h a) (ht : inR t) (hp : inR p) (hF : 0 ≤ F ∧ F ≤ N ∧ N ≤ hi h a 2 ∧ hi h a 2 + 1 ≤ ln h (tAr h a)) : wp 75 76 [some (vR (some a)), some (vI t), some (vI p), some (vI (F)), some (vI (N))] [] h (fun v h' => v = some (vI 1) ∧ h' = ofF h a (tAr h a) (pAr h a) (hi h a 2) F N t p) noX := by
  have S9 := S
  obtain ⟨q1, q2, q3, ⟨q4, q5, q6, q7, q8⟩, ⟨q9, q10⟩, q11, ⟨q12, q13, q14⟩⟩ := S
  have ne1 := S9.ne.1
  have ne2 := S9.ne.2
  refine wp_aload_n d_75_76 (by rfl) ?_
  refine wp_getR (0) d_75_77 fl_8_11 rfl rfl (by first | assumption | (simp only [kd_setI, kd_cpI]; assumption)) (by first | assumption | (simp only [hr_setI, hr_cpI]; assumption)) ?_
  refine wp_iload d_75_80 (by rfl) ?_
  refine wp_aload_n d_75_82 (by rfl) ?_
  refine wp_getR (0) d_75_83 fl_8_11 rfl rfl (by first | assumption | (simp only [kd_setI, kd_cpI]; assumption)) (by first | assumption | (simp only [hr_setI, hr_cpI]; assumption)) ?_
  refine wp_iload_n d_75_86 (by rfl) ?_
  refine wp_iconst d_75_87 ?_
  refine wp_iadd d_75_88 ?_
  refine wp_aload_n d_75_89 (by rfl) ?_
  refine wp_getI (2) d_75_90 fl_8_18 rfl rfl (by first | assumption | (simp only [kd_setI, kd_cpI]; assumption)) (fun x_90 e_90 r_90 => ?_)
  (repeat first | rw [hi_cpI_ne ne1] at e_90 | rw [hi_cpI_ne ne2] at e_90)
  subst e_90
  refine wp_iload d_75_93 (by rfl) ?_
  refine wp_isub d_75_95 ?_
  refine wp_copy d_75_96 cp_WhistleStopOffers_31 cp_nat cp_sta cp_ini (by first | assumption | (simp only [kd_setI, kd_cpI]; assumption)) (by first | assumption | (simp only [kd_setI, kd_cpI]; assumption)) (by first | omega | (simp only [ln_setI, ln_cpI]; omega)) (by first | omega | (simp only [ln_setI, ln_cpI]; omega)) (by first | omega | (simp only [ln_setI, ln_cpI]; omega)) (by first | omega | (simp only [ln_setI, ln_cpI]; omega)) (by first | omega | (simp only [ln_setI, ln_cpI]; omega)) (by decide) (by decide) ?_
  refine wp_aload_n d_75_99 (by rfl) ?_
  refine wp_getR (1) d_75_100 fl_8_15 rfl rfl (by first | assumption | (simp only [kd_setI, kd_cpI]; assumption)) (by first | assumption | (simp only [hr_setI, hr_cpI]; assumption)) ?_
  refine wp_iload d_75_103 (by rfl) ?_
  refine wp_aload_n d_75_105 (by rfl) ?_
  refine wp_getR (1) d_75_106 fl_8_15 rfl rfl (by first | assumption | (simp only [kd_setI, kd_cpI]; assumption)) (by first | assumption | (simp only [hr_setI, hr_cpI]; assumption)) ?_
  refine wp_iload_n d_75_109 (by rfl) ?_
  refine wp_iconst d_75_110 ?_
  refine wp_iadd d_75_111 ?_
  refine wp_aload_n d_75_112 (by rfl) ?_
  refine wp_getI (2) d_75_113 fl_8_18 rfl rfl (by first | assumption | (simp only [kd_setI, kd_cpI]; assumption)) (fun x_113 e_113 r_113 => ?_)
  (repeat first | rw [hi_cpI_ne ne1] at e_113 | rw [hi_cpI_ne ne2] at e_113)
  subst e_113
  refine wp_iload d_75_116 (by rfl) ?_
  refine wp_isub d_75_118 ?_
  refine wp_copy d_75_119 cp_WhistleStopOffers_31 cp_nat cp_sta cp_ini (by first | assumption | (simp only [kd_setI, kd_cpI]; assumption)) (by first | assumption | (simp only [kd_setI, kd_cpI]; assumption)) (by first | omega | (simp only [ln_setI, ln_cpI]; omega)) (by first | omega | (simp only [ln_setI, ln_cpI]; omega)) (by first | omega | (simp only [ln_setI, ln_cpI]; omega)) (by first | omega | (simp only [ln_setI, ln_cpI]; omega)) (by first | omega | (simp only [ln_setI, ln_cpI]; omega)) (by decide) (by decide) ?_
  refine wp_aload_n d_75_122 (by rfl) ?_
  refine wp_dup d_75_123 (by rfl) ?_
  refine wp_getI (2) d_75_124 fl_8_18 rfl rfl (by first | assumption | (simp only [kd_setI, kd_cpI]; assumption)) (fun x_124 e_124 r_124 => ?_)
  (repeat first | rw [hi_cpI_ne ne1] at e_124 | rw [hi_cpI_ne ne2] at e_124)
  subst e_124
  refine wp_iload_n d_75_127 (by rfl) ?_
  refine wp_iconst d_75_128 ?_
  refine wp_iadd d_75_129 ?_
  refine wp_iload d_75_130 (by rfl) ?_
  refine wp_isub d_75_132 ?_
  refine wp_iadd d_75_133 ?_
  refine wp_putI (2) d_75_134 fl_8_18 rfl rfl (Or.inl (by rfl)) (by first | assumption | (simp only [kd_setI, kd_cpI]; assumption)) (by first | omega | (simp only [ln_setI, ln_cpI]; omega)) (fun q => nomatch q) ?_
  refine wp_aload_n d_75_137 (by rfl) ?_
  refine wp_getR (0) d_75_138 fl_8_11 rfl rfl (by first | assumption | (simp only [kd_setI, kd_cpI]; assumption)) (by first | assumption | (simp only [hr_setI, hr_cpI]; assumption)) ?_
  refine wp_iload_n d_75_141 (by rfl) ?_
  refine wp_iload_n d_75_142 (by rfl) ?_
  refine wp_iast d_75_143 (by first | assumption | (simp only [kd_setI, kd_cpI]; assumption)) (by first | omega | (simp only [ln_setI, ln_cpI]; omega)) (by first | omega | (simp only [ln_setI, ln_cpI]; omega)) (by first | omega | (simp only [ln_setI, ln_cpI]; omega)) ?_
  refine wp_aload_n d_75_144 (by rfl) ?_
  refine wp_getR (1) d_75_145 fl_8_15 rfl rfl (by first | assumption | (simp only [kd_setI, kd_cpI]; assumption)) (by first | assumption | (simp only [hr_setI, hr_cpI]; assumption)) ?_
  refine wp_iload_n d_75_148 (by rfl) ?_
  refine wp_iload_n d_75_149 (by rfl) ?_
  refine wp_iast d_75_150 (by first | assumption | (simp only [kd_setI, kd_cpI]; assumption)) (by first | omega | (simp only [ln_setI, ln_cpI]; omega)) (by first | omega | (simp only [ln_setI, ln_cpI]; omega)) (by first | omega | (simp only [ln_setI, ln_cpI]; omega)) ?_
  refine wp_iconst d_75_151 ?_
  refine wp_zret d_75_152 rfl (by omega) ?_
  exact ⟨rfl, rfl⟩
/-- what offer at t for p makes of the offers at a -/
def Offd (h h' : Hp) (a : Nat) (lo up t p z : Int) : Prop := (z = 0 ∨ z = 1) ∧ OFr h h' a ∧ OfS h' a ∧ OfC h' a lo up ∧ (∀ x, oV h' a x = if t ≤ x then min (oV h a x) p else oV h a x) ∧ (z = 0 → ∀ x, oV h' a x = oV h a x)
theorem Offd.no {h : Hp} {a : Nat} {lo up t p : Int} (S : OfS h a) (C : OfC h a lo up) (hv : oV h a t ≤ p) : Offd h h a lo up t p 0 := by
  refine ⟨Or.inl rfl, OFr.rfl, S, C, fun x => ?_, fun _ x => rfl⟩
  by_cases hx : t ≤ x
  · have := C.mono S hx
    rw [if_pos hx]; omega
  · rw [if_neg hx]
theorem Offd.yes {h h1 : Hp} {a : Nat} {lo up t p F N : Int} (S : OfS h a) (C : OfC h a lo up) (ht : lo ≤ t ∧ t ≤ up) (hp : 0 ≤ p ∧ p < 1000000000) (hv : p < oV h a t) (hF : 0 ≤ F ∧ F ≤ hi h a 2) (h1_ : ∀ i, 0 ≤ i → i < F → hi h (tAr h a) i < t) (h2 : F = hi h a 2 ∨ t ≤ hi h (tAr h a) F) (hN : F ≤ N ∧ N ≤ hi h a 2) (h3 : ∀ i, F ≤ i → i < N → p ≤ hi h (pAr h a) i) (h4 : N = hi h a 2 ∨ hi h (pAr h a) N < p) (M : Mk h h1 a (hi h a 2 + 1)) : Offd h (ofF h1 a (tAr h1 a) (pAr h1 a) (hi h1 a 2) F N t p) a lo up t p 1 := by
  obtain ⟨S1, m1, m2, m3, m4, m5⟩ := M
  have S9 := S
  have n1 := S1.ne
  obtain ⟨q1, q2, q3, ⟨q4, q5, q6, q7, q8⟩, ⟨q9, q10⟩, q11, ⟨q12, q13, q14⟩⟩ := S
  have S1' := S1
  obtain ⟨a1, a2, a3, ⟨a4, a5, a6, a7, a8⟩, ⟨a9, a10⟩, a11, ⟨a12, a13, a14⟩⟩ := S1
  generalize hg : ofF h1 a (tAr h1 a) (pAr h1 a) (hi h1 a 2) F N t p = h'
  have ekd : kd h' = kd h1 := by rw [← hg]; rfl
  have eln : ln h' = ln h1 := by rw [← hg]; rfl
  have ehr : hr h' = hr h1 := by rw [← hg]; rfl
  have enx : nx h' = nx h1 := by rw [← hg]; rfl
  have eus : us h' = us h1 := by rw [← hg]; rfl
  have ecn : cn h' = cn h1 := by rw [← hg]; rfl
  have ecs : cs h' = cs h1 := by rw [← hg]; rfl
  have eT : tAr h' a = tAr h1 a := by unfold tAr; rw [ehr]
  have eP : pAr h' a = pAr h1 a := by unfold pAr; rw [ehr]
  have hsz : hi h1 a 2 = hi h a 2 := congrFun m2 2
  have iT := ofF_T (n := hi h1 a 2) (F := F) (N := N) (t := t) (p := p) (h := h1) a11 (fun z => n1.1 z.symm)
  have iP := ofF_P (n := hi h1 a 2) (F := F) (N := N) (t := t) (p := p) (h := h1) a11 (fun z => n1.2 z.symm)
  have ia := ofF_a (n := hi h1 a 2) (F := F) (N := N) (t := t) (p := p) (h := h1) n1.1 n1.2
  rw [hg] at iT iP ia
  have sz' : hi h' a 2 = hi h a 2 + (F + 1 - N) := by rw [ia, upF_same, hsz]
  -- the rows as they were, below the size
  have cT : ∀ j, 0 ≤ j → j < hi h a 2 → hi h1 (tAr h1 a) j = hi h (tAr h a) j := fun j j0 j1 => (m3 j j0 (by omega)).1
  have cP : ∀ j, 0 ≤ j → j < hi h a 2 → hi h1 (pAr h1 a) j = hi h (pAr h a) j := fun j j0 j1 => (m3 j j0 (by omega)).2
  have PT : OfP (hi h (tAr h a)) (hi h' (tAr h' a)) (hi h a 2) F N t := by
    have := ofF_put (f := hi h1 (tAr h1 a)) (n := hi h1 a 2) (F := F) (N := N) (v := t)
    rw [← iT, hsz] at this
    rw [eT]
    obtain ⟨b1, b2, b3⟩ := this
    exact ⟨fun j j0 j1 => (b1 j j0 j1).trans (cT j j0 (by omega)), b2, fun j j0 j1 => (b3 j j0 j1).trans (cT _ (by omega) (by omega))⟩
  have PP : OfP (hi h (pAr h a)) (hi h' (pAr h' a)) (hi h a 2) F N p := by
    have := ofF_put (f := hi h1 (pAr h1 a)) (n := hi h1 a 2) (F := F) (N := N) (v := p)
    rw [← iP, hsz] at this
    rw [eP]
    obtain ⟨b1, b2, b3⟩ := this
    exact ⟨fun j j0 j1 => (b1 j j0 j1).trans (cP j j0 (by omega)), b2, fun j j0 j1 => (b3 j j0 j1).trans (cP _ (by omega) (by omega))⟩
  have hM := offer_math C.2 hF h1_ h2 hN h3 h4 hv PT PP hp.2 (fun i i0 i1 => (C.1 i i0 i1).2.2)
  refine ⟨Or.inr rfl, ⟨⟨?_, fun b hb => ?_, fun b k hb hz => ?_, fun b k hb hz => ?_, ecn.trans m4.2.2.2.2.1, ecs.trans m4.2.2.2.2.2⟩, ?_⟩, ?_, ⟨fun i i0 i1 => ?_, ?_⟩, fun x => ?_, fun z => by omega⟩
  · rw [enx]; exact m4.1
  · rw [ekd, eln]; exact m4.2.1 b hb
  · have o1 : b ≠ a := fun z => hz (Or.inl z)
    have o2 : b ≠ tAr h1 a := fun z => by
      rcases m5 with ⟨y, -⟩ | ⟨y, -⟩
      · exact hz (Or.inr (Or.inl (z.trans y)))
      · omega
    have o3 : b ≠ pAr h1 a := fun z => by
      rcases m5 with ⟨-, y, -⟩ | ⟨-, y, -⟩
      · exact hz (Or.inr (Or.inr (z.trans y)))
      · omega
    rw [← hg, ofF_o o1 o2 o3]
    exact m4.2.2.1 b k hb (fun z => z)
  · rw [ehr]; exact m4.2.2.2.1 b k hb hz
  · unfold Gr
    rw [eT, eP, enx, eus, eln]
    exact m5
  · unfold OfS
    rw [eT, eP, ekd, eln, ehr, enx, sz']
    exact ⟨a1, a2, a3, ⟨a4, a5, a6, a7, a8⟩, ⟨by omega, by omega⟩, a11, a12, a13, a14⟩
  · rw [sz'] at i1
    rcases Int.lt_trichotomy i F with z | z | z
    · rw [PT.1 i i0 z, PP.1 i i0 z]
      exact C.1 i i0 (by omega)
    · rw [z, PT.2.1, PP.2.1]
      exact ⟨ht, hp⟩
    · have x1 := PT.2.2 (i - (F + 1)) (by omega) (by omega)
      have x2 := PP.2.2 (i - (F + 1)) (by omega) (by omega)
      rw [show F + 1 + (i - (F + 1)) = i by omega] at x1 x2
      rw [x1, x2]
      exact C.1 _ (by omega) (by omega)
  · rw [sz']; exact hM.1
  · unfold oV
    rw [sz']
    exact hM.2 x
set_option maxRecDepth 100000 in
set_option maxHeartbeats 4000000 in
theorem s_offer {a : Nat} {lo up t p : Int} {h : Hp} (S : OfS h a) (C : OfC h a lo up) (ht : lo ≤ t ∧ t ≤ up) (hlu : 0 ≤ lo ∧ up ≤ 1000000 ∧ up - lo ≤ 2880) (hp : 0 ≤ p ∧ p < 1000000000) (rm : ln h (tAr h a) < hi h a 2 + 1 → nx h + 2 ≤ cn h ∧ (us h : Int) + 4 * (hi h a 2 + 1) ≤ cs h) : wp 75 0 (entL [vR (some a), vI t, vI p] (mL 75)) [] h (fun v h' => ∃ z, v = some (vI z) ∧ Offd h h' a lo up t p z) noX := by
  have S9 := S
  obtain ⟨q1, q2, q3, ⟨q4, q5, q6, q7, q8⟩, ⟨q9, q10⟩, q11, ⟨q12, q13, q14⟩⟩ := S
  have ne1 := S9.ne.1
  have ne2 := S9.ne.2
  have few := C.few (by omega)
  have vl := C.val (x := t) S9
  refine wp_aload_n d_75_0 (by rfl) ?_
  refine wp_iload_n d_75_1 (by rfl) ?_
  refine wp_callV d_75_2 c_75_23 rfl (by rfl) (by rfl) ⟨8, rfl, rfl, by decide⟩ (by assumption) (by exact Nat.le_of_ble_eq_true rfl) (by exact Nat.le_of_ble_eq_true rfl) (s_priceAt S9 (by omega)) (fun v_2 h_2 q_2 => ?_) (fun _ _ q => q.elim)
  obtain ⟨rfl, z_2⟩ := q_2
  replace z_2 := z_2.symm
  subst z_2
  refine wp_iload_n d_75_5 (by rfl) ?_
  refine wp_icmp_gt (tgt := 11) d_75_6 (by decide) (by omega) (by omega) (fun c_6 => ?_) (fun c_6 => ?_)
  · refine wp_iconst d_75_11 ?_
    refine wp_istore_n d_75_12 (by decide) ?_
    refine wp_to [some (vR (some a)), some (vI t), some (vI p), some (vI (0)), none] ⟨rfl, rfl, rfl, rfl, trivial⟩ ?_
    refine l_off1 S9 (by omega) (by omega) (fun F F0 F1 F2 F3 => ?_) (hi h a 2).toNat 0 (by omega) (by omega) (fun i i0 i1 => by omega)
    refine wp_iload_n d_75_37 (by rfl) ?_
    refine wp_istore d_75_38 (by decide) ?_
    refine wp_to [some (vR (some a)), some (vI t), some (vI p), some (vI (F)), some (vI (F))] ⟨rfl, rfl, rfl, rfl, rfl, trivial⟩ ?_
    refine l_off2 S9 (by omega) (by omega) F0 (fun N N0 N1 N2 N3 => ?_) (hi h a 2 - F).toNat F (by omega) (by omega) (fun i i0 i1 => by omega)
    refine wp_aload_n d_75_66 (by rfl) ?_
    refine wp_aload_n d_75_67 (by rfl) ?_
    refine wp_getI (2) d_75_68 fl_8_18 rfl rfl (by assumption) (fun x_68 e_68 r_68 => ?_)
    subst e_68
    refine wp_iconst d_75_71 ?_
    refine wp_iadd d_75_72 ?_
    refine wp_callV d_75_73 c_75_27 rfl (by rfl) (by rfl) ⟨8, rfl, rfl, by decide⟩ (by assumption) (by exact Nat.le_of_ble_eq_true rfl) (by exact Nat.le_of_ble_eq_true rfl) (s_makeRoom S9 ⟨by omega, by omega⟩ rm) (fun v_73 h_73 q_73 => ?_) (fun _ _ q => q.elim)
    obtain ⟨rfl, M⟩ := q_73
    have hz9 : hi h_73 a 2 = hi h a 2 := congrFun M.2.2.1 2
    have hm9 := M.2.1
    refine wp_to [some (vR (some a)), some (vI t), some (vI p), some (vI (F)), some (vI (N))] ⟨rfl, rfl, rfl, rfl, rfl, trivial⟩ ?_
    refine wp_mono (fun v h' q => ?_) (fun _ _ q => q) (l_off3 M.1 (by omega) (by omega) ⟨F0, N0, by omega, by omega⟩)
    obtain ⟨rfl, rfl⟩ := q
    exact ⟨_, rfl, Offd.yes S9 C ht hp (by omega) ⟨F0, F1⟩ F2 F3 ⟨N0, N1⟩ N2 N3 M⟩
  · refine wp_iconst d_75_9 ?_
    refine wp_zret d_75_10 rfl (by omega) ?_
    exact ⟨_, rfl, Offd.no S9 C (by omega)⟩
def cpF (h : Hp) (a T P b U V : Nat) (n : Int) : Hp := setI (cpI (cpI h U 0 T 0 n) V 0 P 0 n) a 2 n
set_option maxRecDepth 100000 in
set_option maxHeartbeats 4000000 in
theorem l_copy3 {a b : Nat} {h : Hp} (S : OfS h a) (B : OfS h b) (hab : a ≠ b) (hl : hi h b 2 ≤ ln h (tAr h a)) (d1 : pAr h b ≠ tAr h a) (d2 : b ≠ tAr h a ∧ b ≠ pAr h a) : wp 78 8 [some (vR (some a)), some (vR (some b))] [] h (fun v h' => v = none ∧ h' = cpF h a (tAr h a) (pAr h a) b (tAr h b) (pAr h b) (hi h b 2)) noX := by
  have S9 := S
  obtain ⟨q1, q2, q3, ⟨q4, q5, q6, q7, q8⟩, ⟨q9, q10⟩, q11, ⟨q12, q13, q14⟩⟩ := S
  have ne1 := S9.ne.1
  have ne2 := S9.ne.2
  obtain ⟨B1, B2, B3, ⟨B4, B5, B6, B7, B8⟩, ⟨B9, B10⟩, B11, B12⟩ := B
  refine wp_aload_n d_78_8 (by rfl) ?_
  refine wp_getR (0) d_78_9 fl_8_11 rfl rfl (by first | assumption | (simp only [kd_setI, kd_cpI]; assumption)) (by first | assumption | (simp only [hr_setI, hr_cpI]; assumption)) ?_
  refine wp_iconst d_78_12 ?_
  refine wp_aload_n d_78_13 (by rfl) ?_
  refine wp_getR (0) d_78_14 fl_8_11 rfl rfl (by first | assumption | (simp only [kd_setI, kd_cpI]; assumption)) (by first | assumption | (simp only [hr_setI, hr_cpI]; assumption)) ?_
  refine wp_iconst d_78_17 ?_
  refine wp_aload_n d_78_18 (by rfl) ?_
  refine wp_getI (2) d_78_19 fl_8_18 rfl rfl (by first | assumption | (simp only [kd_setI, kd_cpI]; assumption)) (fun x_19 e_19 r_19 => ?_)
  (repeat first | rw [hi_cpI_ne d2.1] at e_19 | rw [hi_cpI_ne d2.2] at e_19)
  subst e_19
  refine wp_copy d_78_22 cp_WhistleStopOffers_31 cp_nat cp_sta cp_ini (by first | assumption | (simp only [kd_setI, kd_cpI]; assumption)) (by first | assumption | (simp only [kd_setI, kd_cpI]; assumption)) (by first | omega | (simp only [ln_setI, ln_cpI]; omega)) (by first | omega | (simp only [ln_setI, ln_cpI]; omega)) (by first | omega | (simp only [ln_setI, ln_cpI]; omega)) (by first | omega | (simp only [ln_setI, ln_cpI]; omega)) (by first | omega | (simp only [ln_setI, ln_cpI]; omega)) (by decide) (by decide) ?_
  refine wp_aload_n d_78_25 (by rfl) ?_
  refine wp_getR (1) d_78_26 fl_8_15 rfl rfl (by first | assumption | (simp only [kd_setI, kd_cpI]; assumption)) (by first | assumption | (simp only [hr_setI, hr_cpI]; assumption)) ?_
  refine wp_iconst d_78_29 ?_
  refine wp_aload_n d_78_30 (by rfl) ?_
  refine wp_getR (1) d_78_31 fl_8_15 rfl rfl (by first | assumption | (simp only [kd_setI, kd_cpI]; assumption)) (by first | assumption | (simp only [hr_setI, hr_cpI]; assumption)) ?_
  refine wp_iconst d_78_34 ?_
  refine wp_aload_n d_78_35 (by rfl) ?_
  refine wp_getI (2) d_78_36 fl_8_18 rfl rfl (by first | assumption | (simp only [kd_setI, kd_cpI]; assumption)) (fun x_36 e_36 r_36 => ?_)
  (repeat first | rw [hi_cpI_ne d2.1] at e_36 | rw [hi_cpI_ne d2.2] at e_36)
  subst e_36
  refine wp_copy d_78_39 cp_WhistleStopOffers_31 cp_nat cp_sta cp_ini (by first | assumption | (simp only [kd_setI, kd_cpI]; assumption)) (by first | assumption | (simp only [kd_setI, kd_cpI]; assumption)) (by first | omega | (simp only [ln_setI, ln_cpI]; omega)) (by first | omega | (simp only [ln_setI, ln_cpI]; omega)) (by first | omega | (simp only [ln_setI, ln_cpI]; omega)) (by first | omega | (simp only [ln_setI, ln_cpI]; omega)) (by first | omega | (simp only [ln_setI, ln_cpI]; omega)) (by decide) (by decide) ?_
  refine wp_aload_n d_78_42 (by rfl) ?_
  refine wp_aload_n d_78_43 (by rfl) ?_
  refine wp_getI (2) d_78_44 fl_8_18 rfl rfl (by first | assumption | (simp only [kd_setI, kd_cpI]; assumption)) (fun x_44 e_44 r_44 => ?_)
  (repeat first | rw [hi_cpI_ne d2.1] at e_44 | rw [hi_cpI_ne d2.2] at e_44)
  subst e_44
  refine wp_putI (2) d_78_47 fl_8_18 rfl rfl (Or.inl (by rfl)) (by first | assumption | (simp only [kd_setI, kd_cpI]; assumption)) (by first | omega | (simp only [ln_setI, ln_cpI]; omega)) (fun q => nomatch q) ?_
  refine wp_vret d_78_50 rfl ?_
  exact ⟨rfl, rfl⟩
/-- the offers at a become those at b -/
def Cpd (h h' : Hp) (a b : Nat) (lo up : Int) : Prop := OFr h h' a ∧ OfS h' a ∧ OfC h' a lo up ∧ ∀ x, oV h' a x = oV h b x
theorem Cpd.of {h h1 : Hp} {a b : Nat} {lo up : Int} (S : OfS h a) (B : OfS h b) (C : OfC h b lo up) (hab : a ≠ b) (d1 : tAr h b ≠ tAr h a ∧ pAr h b ≠ tAr h a ∧ tAr h b ≠ pAr h a ∧ pAr h b ≠ pAr h a) (d2 : b ≠ tAr h a ∧ b ≠ pAr h a) (d3 : a ≠ tAr h b ∧ a ≠ pAr h b) (M : Mk h h1 a (hi h b 2)) (B1 : OfS h1 b) (hb1 : tAr h1 b = tAr h b ∧ pAr h1 b = pAr h b ∧ hi h1 b = hi h b ∧ hi h1 (tAr h b) = hi h (tAr h b) ∧ hi h1 (pAr h b) = hi h (pAr h b)) (d4 : tAr h1 b ≠ tAr h1 a ∧ pAr h1 b ≠ tAr h1 a ∧ tAr h1 b ≠ pAr h1 a ∧ pAr h1 b ≠ pAr h1 a) : Cpd h (cpF h1 a (tAr h1 a) (pAr h1 a) b (tAr h1 b) (pAr h1 b) (hi h1 b 2)) a b lo up := by
  obtain ⟨S1, m1, m2, m3, m4, m5⟩ := M
  have n1 := S1.ne
  obtain ⟨hb2, hb3, hb4, hb5, hb6⟩ := hb1
  obtain ⟨q1, q2, q3, ⟨q4, q5, q6, q7, q8⟩, ⟨q9, q10⟩, q11, ⟨q12, q13, q14⟩⟩ := S
  obtain ⟨a1, a2, a3, ⟨a4, a5, a6, a7, a8⟩, ⟨a9, a10⟩, a11, ⟨a12, a13, a14⟩⟩ := S1
  have hB := B.2.2.2.2.1
  generalize hg : cpF h1 a (tAr h1 a) (pAr h1 a) b (tAr h1 b) (pAr h1 b) (hi h1 b 2) = h'
  have ekd : kd h' = kd h1 := by rw [← hg]; rfl
  have eln : ln h' = ln h1 := by rw [← hg]; rfl
  have ehr : hr h' = hr h1 := by rw [← hg]; rfl
  have enx : nx h' = nx h1 := by rw [← hg]; rfl
  have eus : us h' = us h1 := by rw [← hg]; rfl
  have ecn : cn h' = cn h1 := by rw [← hg]; rfl
  have ecs : cs h' = cs h1 := by rw [← hg]; rfl
  have eT : tAr h' a = tAr h1 a := by unfold tAr; rw [ehr]
  have eP : pAr h' a = pAr h1 a := by unfold pAr; rw [ehr]
  have eb : hi h1 b 2 = hi h b 2 := congrFun hb4 2
  have ia : hi h' a = upF (hi h1 a) 2 (hi h b 2) := by
    rw [← hg]
    unfold cpF
    rw [hi_upF, hi_cpI_ne n1.2, hi_cpI_ne n1.1, eb]
  have sz' : hi h' a 2 = hi h b 2 := by rw [ia, upF_same]
  have iT : ∀ j, 0 ≤ j → j < hi h b 2 → hi h' (tAr h' a) j = hi h (tAr h b) j := fun j j0 j1 => by
    rw [eT, ← hg]
    unfold cpF
    rw [hi_setI_ne (fun z => n1.1 z.symm), hi_cpI_ne a11, hi_cpI, eb]
    refine (if_pos ⟨rfl, j0, by omega⟩).trans ?_
    rw [hb2, hb5, show (0 : Int) + (j - 0) = j by omega]
  have iP : ∀ j, 0 ≤ j → j < hi h b 2 → hi h' (pAr h' a) j = hi h (pAr h b) j := fun j j0 j1 => by
    rw [eP, ← hg]
    unfold cpF
    rw [hi_setI_ne (fun z => n1.2 z.symm), hi_cpI, eb]
    refine (if_pos ⟨rfl, j0, by omega⟩).trans ?_
    rw [hi_cpI_ne d4.2.1, hb3, hb6, show (0 : Int) + (j - 0) = j by omega]
  refine ⟨⟨⟨by rw [enx]; exact m4.1, fun x hx => by rw [ekd, eln]; exact m4.2.1 x hx, fun x k hx hz => ?_, fun x k hx hz => by rw [ehr]; exact m4.2.2.2.1 x k hx hz, ecn.trans m4.2.2.2.2.1, ecs.trans m4.2.2.2.2.2⟩, ?_⟩, ?_, ⟨fun i i0 i1 => ?_, fun i j i0 ij jn => ?_⟩, fun x => ?_⟩
  · have o1 : x ≠ a := fun z => hz (Or.inl z)
    have o2 : x ≠ tAr h1 a := fun z => by
      rcases m5 with ⟨y, -⟩ | ⟨y, -⟩
      · exact hz (Or.inr (Or.inl (z.trans y)))
      · omega
    have o3 : x ≠ pAr h1 a := fun z => by
      rcases m5 with ⟨-, y, -⟩ | ⟨-, y, -⟩
      · exact hz (Or.inr (Or.inr (z.trans y)))
      · omega
    rw [← hg]
    unfold cpF
    rw [hi_setI_ne o1, hi_cpI_ne o3, hi_cpI_ne o2]
    exact m4.2.2.1 x k hx (fun z => z)
  · unfold Gr
    rw [eT, eP, enx, eus, eln]
    exact m5
  · unfold OfS
    rw [eT, eP, ekd, eln, ehr, enx, sz']
    exact ⟨a1, a2, a3, ⟨a4, a5, a6, a7, a8⟩, ⟨by omega, by omega⟩, a11, a12, a13, a14⟩
  · rw [sz'] at i1
    rw [iT i i0 i1, iP i i0 i1]
    exact C.1 i i0 i1
  · rw [sz'] at jn
    rw [iT i i0 (by omega), iP i i0 (by omega), iT j (by omega) jn, iP j (by omega) jn]
    exact C.2 i j i0 ij jn
  · unfold oV
    rw [sz']
    exact pA_congr (fun i i0 i1 => ⟨iT i i0 (by omega), iP i i0 (by omega)⟩) x
set_option maxRecDepth 100000 in
set_option maxHeartbeats 4000000 in
theorem s_copy {a b : Nat} {lo up : Int} {h : Hp} (S : OfS h a) (B : OfS h b) (C : OfC h b lo up) (hlu : lo ≤ up ∧ up - lo ≤ 2880) (hab : a ≠ b) (d1 : tAr h b ≠ tAr h a ∧ pAr h b ≠ tAr h a ∧ tAr h b ≠ pAr h a ∧ pAr h b ≠ pAr h a) (d2 : b ≠ tAr h a ∧ b ≠ pAr h a) (d3 : a ≠ tAr h b ∧ a ≠ pAr h b) (rm : ln h (tAr h a) < hi h b 2 → nx h + 2 ≤ cn h ∧ (us h : Int) + 4 * hi h b 2 ≤ cs h) : wp 78 0 (entL [vR (some a), vR (some b)] (mL 78)) [] h (fun v h' => v = none ∧ Cpd h h' a b lo up) noX := by
  have S9 := S
  have B9 := B
  have few := C.few hlu.1
  obtain ⟨q1, q2, q3, ⟨q4, q5, q6, q7, q8⟩, ⟨q9, q10⟩, q11, ⟨q12, q13, q14⟩⟩ := S
  obtain ⟨p1, p2, p3, ⟨p4, p5, p6, p7, p8⟩, ⟨p9, p10⟩, p11, ⟨p12, p13, p14⟩⟩ := B
  refine wp_aload_n d_78_0 (by rfl) ?_
  refine wp_aload_n d_78_1 (by rfl) ?_
  refine wp_getI (2) d_78_2 fl_8_18 rfl rfl (by assumption) (fun x_2 e_2 r_2 => ?_)
  subst e_2
  refine wp_callV d_78_5 c_78_27 rfl (by rfl) (by rfl) ⟨8, rfl, rfl, by decide⟩ (by assumption) (by exact Nat.le_of_ble_eq_true rfl) (by exact Nat.le_of_ble_eq_true rfl) (s_makeRoom S9 ⟨by omega, by omega⟩ rm) (fun v_5 h_5 q_5 => ?_) (fun _ _ q => q.elim)
  obtain ⟨rfl, M⟩ := q_5
  have m4 := M.2.2.2.2.1
  have m5 := M.2.2.2.2.2
  have rb : ∀ k, hr h_5 b k = hr h b k := fun k => m4.2.2.2.1 b k p12 (fun z => hab z.symm)
  have eT : tAr h_5 b = tAr h b := by unfold tAr; rw [rb]
  have eP : pAr h_5 b = pAr h b := by unfold pAr; rw [rb]
  have ib : hi h_5 b = hi h b := funext fun k => m4.2.2.1 b k p12 (fun z => z)
  have iT : hi h_5 (tAr h b) = hi h (tAr h b) := funext fun k => m4.2.2.1 _ k p13 (fun z => z)
  have iP : hi h_5 (pAr h b) = hi h (pAr h b) := funext fun k => m4.2.2.1 _ k p14 (fun z => z)
  have B1 : OfS h_5 b := by
    unfold OfS
    rw [eT, eP, ib, rb, rb, (m4.2.1 b p12).1, (m4.2.1 _ p13).1, (m4.2.1 _ p14).1, (m4.2.1 _ p13).2, (m4.2.1 _ p14).2]
    have := m4.1
    exact ⟨p1, p2, p3, ⟨p4, p5, p6, p7, p8⟩, ⟨p9, p10⟩, p11, by omega, by omega, by omega⟩
  have d4 : tAr h_5 b ≠ tAr h_5 a ∧ pAr h_5 b ≠ tAr h_5 a ∧ tAr h_5 b ≠ pAr h_5 a ∧ pAr h_5 b ≠ pAr h_5 a := by
    rw [eT, eP]
    rcases m5 with ⟨y1, y2, -⟩ | ⟨y1, y2, -⟩
    · rw [y1, y2]; exact d1
    · rw [y1, y2]; exact ⟨by omega, by omega, by omega, by omega⟩
  have d5 : b ≠ tAr h_5 a ∧ b ≠ pAr h_5 a := by
    rcases m5 with ⟨y1, y2, -⟩ | ⟨y1, y2, -⟩
    · rw [y1, y2]; exact d2
    · rw [y1, y2]; exact ⟨by omega, by omega⟩
  have eb : hi h_5 b 2 = hi h b 2 := congrFun ib 2
  refine wp_to [some (vR (some a)), some (vR (some b))] ⟨rfl, rfl, trivial⟩ ?_
  refine wp_mono (fun v h' q => ?_) (fun _ _ q => q) (l_copy3 M.1 B1 hab (by rw [eb]; exact M.2.1) d4.2.1 d5)
  obtain ⟨rfl, rfl⟩ := q
  exact ⟨rfl, Cpd.of S9 B9 C hab d1 d2 d3 M B1 ⟨eT, eP, ib, iT, iP⟩ d4⟩
