/-! ===== seek back ===== -/
section BKC
variable {n : Int} {c : Int → Int} {W : Int → Int → Int → Prop} {R : Rn → Prop} {d D : Int}
theorem BEx.congr {k : Nat} {b b' : Int → Int} (q : BEx n c W R d D k b) (e : ∀ s, 0 ≤ s → s < n → b' s = b s) : BEx n c W R d D k b' := fun s s0 s1 t ht => by rw [e s s0 s1]; exact q s s0 s1 t ht
theorem AliR.congr (N : Net n c W R) {b b' a a' : Int → Int} (q : AliR n c W d D b a) (eb : ∀ s, 0 ≤ s → s < n → b' s = b s) (ea : ∀ s, 0 ≤ s → s < n → a' s = a s) : AliR n c W d D b' a' := fun s s0 s1 => by
  obtain ⟨q1, q2, q3⟩ := q s s0 s1
  have el : ∀ s', 0 ≤ s' → s' < n → lat d D b' s' = lat d D b s' := fun s' z0 z1 => by unfold lat; rw [eb s' z0 z1]
  rw [ea s s0 s1, eb s s0 s1]
  refine ⟨q1, fun s' m hw => ?_, q3.imp id ?_⟩
  · rw [el s' (N.2.1 _ _ _ hw).2.1.1 (N.2.1 _ _ _ hw).2.1.2]; exact q2 s' m hw
  · rintro ⟨s', m, hw, e⟩
    exact ⟨s', m, hw, by rw [el s' (N.2.1 _ _ _ hw).2.1.1 (N.2.1 _ _ _ hw).2.1.2]; exact e⟩
theorem BRide.congr {a b b2 b' : Int → Int} (q : BRide n R a b b') (e : ∀ s, 0 ≤ s → s < n → b s = b2 s) : BRide n R a b2 b' := ⟨fun s s0 s1 => by rw [← e s s0 s1]; exact q.1 s s0 s1, q.2⟩
theorem BRide.bb (N : Net n c W R) {a b b' : Int → Int} (q : BRide n R a b b') (h : Bb n b) : Bb n b' := fun s s0 s1 => by
  obtain ⟨q1, q2⟩ := q.1 s s0 s1
  have := h s s0 s1
  rcases q2 with e | ⟨r, i, j, hR, i0, i1, i2, -, e, -⟩
  · omega
  · have := (N.2.2.2 r hR).2.1 i i0 (by omega)
    omega
end BKC
/-- the rows of the search back; all that it changes -/
def PBR (w : Nat) : Nat → Prop := fun a => (w + 32 ≤ a ∧ a ≤ w + 38) ∨ (w + 40 ≤ a ∧ a ≤ w + 46)
def PBK (w : Nat) : Nat → Prop := fun a => a = w + 30 ∨ (w + 32 ≤ a ∧ a ≤ w + 38) ∨ (w + 40 ≤ a ∧ a ≤ w + 46)
theorem PBRoff {w X : Nat} : Off w X (PBR w) nP := ⟨fun a z => by unfold PBR at z; omega, fun a z => z.elim⟩
theorem PBKoff {w X : Nat} : Off w X (PBK w) nP := ⟨fun a z => by unfold PBK at z; omega, fun a z => z.elim⟩
/-- behind K rounds -/
def SbI (hc h : Hp) (w : Nat) (K : Nat) (b : Int) : Prop := ch (PBR w) nP hc h ∧
  (∀ k : Nat, k ≤ K → BEx (hi hc (w + 1) 4) (hi hc (w + 2)) (Wy hc w) (Rc hc w) (tgB hc w) (dlB hc w) k (hi h (w + 32 + k)) ∧ AliR (hi hc (w + 1) 4) (hi hc (w + 2)) (Wy hc w) (tgB hc w) (dlB hc w) (hi h (w + 32 + k)) (hi h (w + 40 + k)) ∧ Bb (hi hc (w + 1) 4) (hi h (w + 32 + k))) ∧
  (b = 1 ∨ (b = 0 ∧ ∀ m, K ≤ m → BEx (hi hc (w + 1) 4) (hi hc (w + 2)) (Wy hc w) (Rc hc w) (tgB hc w) (dlB hc w) m (hi h (w + 32 + K))))
set_option maxRecDepth 100000 in
set_option maxHeartbeats 4000000 in
theorem l_seekB {w X R : Nat} {hc : Hp} (hS0 : Sk hc w) (hT0 : TT hc w X) (hR0 : RunsOk hc w) (hd : 0 ≤ tgB hc w ∧ tgB hc w < hi hc (w + 1) 4) (hD : 0 ≤ dlB hc w ∧ dlB hc w ≤ 1000000) (hR : R ≤ 6) {Q : Option AV → Hp → Prop} : ∀ (m K : Nat) (b : Int) (h : Hp), K + m = R → SbI hc h w K b → (∀ h' b', SbI hc h' w R b' → Q none h') → wp 40 34 [some (vR (some (w + 30))), some (vR (some (w + 1))), some (vR (some (w + 6))), none, none, some (vI (R : Int)), some (vI b), some (vI ((K : Int) + 1))] [] h Q noX := by
  intro m
  have N := hT0.net
  have hn := hT0.1
  have hX := hT0.2.2.2.2.2.2
  have NR : Net (hi hc (w + 1) 4) (hi hc (w + 2)) (Wy hc w) (Rc hc w) := ⟨N.1, N.2.1, N.2.2.1, fun r z => N.2.2.2 r (hR0.sub z)⟩
  induction m with
  | zero =>
    intro K b h e0 I kq
    obtain rfl : K = R := by omega
    have gb : b = 0 ∨ b = 1 := by rcases I.2.2 with z | z <;> omega
    refine wp_iload d_40_34 (by rfl) ?_
    refine wp_iload d_40_36 (by rfl) ?_
    refine wp_bipush d_40_38 (by decide) ?_
    refine wp_callS d_40_40 c_40_37 rfl (by rfl) (by rfl) (by exact Nat.le_of_ble_eq_true rfl) (by exact Nat.le_of_ble_eq_true rfl) (s_min (by omega) (by omega)) (fun v_40 h_40 q_40 => ?_) (fun _ _ q => q.elim)
    obtain ⟨rfl, z_40⟩ := q_40
    replace z_40 := z_40.symm
    subst z_40
    refine wp_icmp_gt (tgt := 133) d_40_43 (by decide) (by omega) (by omega) (fun c_43 => ?_) (fun c_43 => ?_)
    rotate_left
    · exact absurd c_43 (by omega)
    refine wp_vret d_40_133 rfl ?_
    exact kq h b I
  | succ m ih =>
    intro K b h e0 I kq
    obtain ⟨E, I1, I4⟩ := I
    have gb : b = 0 ∨ b = 1 := by rcases I4 with z | z <;> omega
    have hS := hS0.ch E hT0
    have hS9 := hS
    obtain ⟨IB, IA, Ibb⟩ := I1 K (Nat.le_refl K)
    obtain ⟨⟨k1, k2, k3, k4, k5, k6, k7⟩, ⟨n1, ⟨n2, n3, n4, n5⟩, ⟨n6, n7⟩, ⟨n8, n9⟩, ⟨n10, n11⟩, n12, n13⟩, ⟨m1, ⟨m2, m3, m4⟩, ⟨m5, m6⟩, ⟨m7, m8⟩, m9, m10⟩, ⟨o1, ⟨o2, o3, o4⟩, ⟨o5, o6, o7⟩, ⟨o8, o9, o10⟩, o11, o12⟩, ⟨b1, ⟨b2, b3⟩, ⟨b4, b5, b6⟩, b7, b8, b9⟩, ⟨j1, ⟨j2, j3, j4, j5, j6, j7, j8⟩, ⟨j9, j10⟩, j11⟩⟩ := hS
    have c1 : (K : Int) + 1 - 1 = (K : Int) := by omega
    obtain ⟨r1, r2, r3⟩ := b6 K (by omega)
    obtain ⟨r4, r5, r6⟩ := b9 K (by omega)
    obtain ⟨r7, r8, r9⟩ := b6 (K + 1) (by omega)
    obtain ⟨r10, r11, r12⟩ := b9 (K + 1) (by omega)
    have r1' : hr h (w + 31) ((K : Int) + 1 - 1) = some (w + 32 + K) := by rw [c1]; exact r1
    have r4' : hr h (w + 39) ((K : Int) + 1 - 1) = some (w + 40 + K) := by rw [c1]; exact r4
    have r7' : hr h (w + 31) ((K : Int) + 1) = some (w + 32 + (K + 1)) := r7
    have r10' : hr h (w + 39) ((K : Int) + 1) = some (w + 40 + (K + 1)) := r10
    refine wp_iload d_40_34 (by rfl) ?_
    refine wp_iload d_40_36 (by rfl) ?_
    refine wp_bipush d_40_38 (by decide) ?_
    refine wp_callS d_40_40 c_40_37 rfl (by rfl) (by rfl) (by exact Nat.le_of_ble_eq_true rfl) (by exact Nat.le_of_ble_eq_true rfl) (s_min (by omega) (by omega)) (fun v_40 h_40 q_40 => ?_) (fun _ _ q => q.elim)
    obtain ⟨rfl, z_40⟩ := q_40
    replace z_40 := z_40.symm
    subst z_40
    refine wp_icmp_gt (tgt := 133) d_40_43 (by decide) (by first | omega | (simp only [ln_cpI]; omega)) (by first | omega | (simp only [ln_cpI]; omega)) (fun c_43 => ?_) (fun c_43 => ?_)
    · refine wp_vret d_40_133 rfl ?_
      exact absurd c_43 (by omega)
    · refine wp_aload_n d_40_46 (by rfl) ?_
      refine wp_getR (0) d_40_47 fl_1_11 rfl rfl (by first | assumption | (simp only [kd_cpI]; assumption)) (by first | assumption | (simp only [hr_cpI]; assumption)) ?_
      refine wp_iload d_40_50 (by rfl) ?_
      refine wp_iconst d_40_52 ?_
      refine wp_isub d_40_53 ?_
      refine wp_aald d_40_54 (by first | omega | (simp only [kd_setI, kd_cpI]; omega)) (by first | omega | (simp only [kd_setI, kd_cpI]; omega)) (by apply isRf_of; assumption; rfl) (by first | omega | (simp only [ln_cpI]; omega)) (by first | omega | (simp only [ln_cpI]; omega)) (by first | assumption | (simp only [hr_cpI]; assumption)) ?_
      refine wp_iconst d_40_55 ?_
      refine wp_aload_n d_40_56 (by rfl) ?_
      refine wp_getR (0) d_40_57 fl_1_11 rfl rfl (by first | assumption | (simp only [kd_cpI]; assumption)) (by first | assumption | (simp only [hr_cpI]; assumption)) ?_
      refine wp_iload d_40_60 (by rfl) ?_
      refine wp_aald d_40_62 (by first | omega | (simp only [kd_setI, kd_cpI]; omega)) (by first | omega | (simp only [kd_setI, kd_cpI]; omega)) (by apply isRf_of; assumption; rfl) (by first | omega | (simp only [ln_cpI]; omega)) (by first | omega | (simp only [ln_cpI]; omega)) (by first | assumption | (simp only [hr_cpI]; assumption)) ?_
      refine wp_iconst d_40_63 ?_
      refine wp_bipush d_40_64 (by decide) ?_
      refine wp_copy d_40_66 cp_WhistleStopBackward_43 cp_nat cp_sta cp_ini (by first | assumption | (simp only [kd_cpI]; assumption)) (by first | assumption | (simp only [kd_cpI]; assumption)) (by first | omega | (simp only [ln_cpI]; omega)) (by first | omega | (simp only [ln_cpI]; omega)) (by first | omega | (simp only [ln_cpI]; omega)) (by first | omega | (simp only [ln_cpI]; omega)) (by first | omega | (simp only [ln_cpI]; omega)) (by decide) (by decide) ?_
      refine wp_aload_n d_40_69 (by rfl) ?_
      refine wp_getR (1) d_40_70 fl_1_16 rfl rfl (by first | assumption | (simp only [kd_cpI]; assumption)) (by first | assumption | (simp only [hr_cpI]; assumption)) ?_
      refine wp_iload d_40_73 (by rfl) ?_
      refine wp_iconst d_40_75 ?_
      refine wp_isub d_40_76 ?_
      refine wp_aald d_40_77 (by first | omega | (simp only [kd_setI, kd_cpI]; omega)) (by first | omega | (simp only [kd_setI, kd_cpI]; omega)) (by apply isRf_of; assumption; rfl) (by first | omega | (simp only [ln_cpI]; omega)) (by first | omega | (simp only [ln_cpI]; omega)) (by first | assumption | (simp only [hr_cpI]; assumption)) ?_
      refine wp_iconst d_40_78 ?_
      refine wp_aload_n d_40_79 (by rfl) ?_
      refine wp_getR (1) d_40_80 fl_1_16 rfl rfl (by first | assumption | (simp only [kd_cpI]; assumption)) (by first | assumption | (simp only [hr_cpI]; assumption)) ?_
      refine wp_iload d_40_83 (by rfl) ?_
      refine wp_aald d_40_85 (by first | omega | (simp only [kd_setI, kd_cpI]; omega)) (by first | omega | (simp only [kd_setI, kd_cpI]; omega)) (by apply isRf_of; assumption; rfl) (by first | omega | (simp only [ln_cpI]; omega)) (by first | omega | (simp only [ln_cpI]; omega)) (by first | assumption | (simp only [hr_cpI]; assumption)) ?_
      refine wp_iconst d_40_86 ?_
      refine wp_bipush d_40_87 (by decide) ?_
      refine wp_copy d_40_89 cp_WhistleStopBackward_43 cp_nat cp_sta cp_ini (by first | assumption | (simp only [kd_cpI]; assumption)) (by first | assumption | (simp only [kd_cpI]; assumption)) (by first | omega | (simp only [ln_cpI]; omega)) (by first | omega | (simp only [ln_cpI]; omega)) (by first | omega | (simp only [ln_cpI]; omega)) (by first | omega | (simp only [ln_cpI]; omega)) (by first | omega | (simp only [ln_cpI]; omega)) (by decide) (by decide) ?_
      have E1 : ch (PBR w) nP h (cpI (cpI h (w + 32 + K) 0 (w + 32 + (K + 1)) 0 16) (w + 40 + K) 0 (w + 40 + (K + 1)) 0 16) := (ch_cpI (P := PBR w) (by unfold PBR; omega)).trans (ch_cpI (P := PBR w) (by unfold PBR; omega))
      have u32 : ∀ q : Nat, q ≤ 6 → q ≠ K + 1 → hi (cpI (cpI h (w + 32 + K) 0 (w + 32 + (K + 1)) 0 16) (w + 40 + K) 0 (w + 40 + (K + 1)) 0 16) (w + 32 + q) = hi h (w + 32 + q) := fun q z1 z2 => funext fun x => by
        rw [hi_cpI]
        show (if _ then _ else _) = _
        rw [if_neg (fun y => absurd y.1 (by omega)), hi_cpI]
        show (if _ then _ else _) = _
        rw [if_neg (fun y => absurd y.1 (by omega))]
      have u40 : ∀ q : Nat, q ≤ 6 → q ≠ K + 1 → hi (cpI (cpI h (w + 32 + K) 0 (w + 32 + (K + 1)) 0 16) (w + 40 + K) 0 (w + 40 + (K + 1)) 0 16) (w + 40 + q) = hi h (w + 40 + q) := fun q z1 z2 => funext fun x => by
        rw [hi_cpI]
        show (if _ then _ else _) = _
        rw [if_neg (fun y => absurd y.1 (by omega)), hi_cpI]
        show (if _ then _ else _) = _
        rw [if_neg (fun y => absurd y.1 (by omega))]
      have v32 : ∀ s, 0 ≤ s → s < 16 → hi (cpI (cpI h (w + 32 + K) 0 (w + 32 + (K + 1)) 0 16) (w + 40 + K) 0 (w + 40 + (K + 1)) 0 16) (w + 32 + (K + 1)) s = hi h (w + 32 + K) s := fun s z1 z2 => by
        rw [hi_cpI]
        show (if _ then _ else _) = _
        rw [if_neg (fun y => absurd y.1 (by omega)), hi_cpI]
        show (if _ then _ else _) = _
        rw [if_pos ⟨rfl, by omega, by omega⟩, show (0 : Int) + (s - 0) = s by omega]
      have v40 : ∀ s, 0 ≤ s → s < 16 → hi (cpI (cpI h (w + 32 + K) 0 (w + 32 + (K + 1)) 0 16) (w + 40 + K) 0 (w + 40 + (K + 1)) 0 16) (w + 40 + (K + 1)) s = hi h (w + 40 + K) s := fun s z1 z2 => by
        rw [hi_cpI]
        show (if _ then _ else _) = _
        rw [if_pos ⟨rfl, by omega, by omega⟩, hi_cpI, show (0 : Int) + (s - 0) = s by omega]
        show (if _ then _ else _) = _
        rw [if_neg (fun y => absurd y.1 (by omega))]
      have hS1 := hS9.ch E1 (hT0.kept E.fm PBRoff)
      have E2 := E.trans E1
      have r4b : hr (cpI (cpI h (w + 32 + K) 0 (w + 32 + (K + 1)) 0 16) (w + 40 + K) 0 (w + 40 + (K + 1)) 0 16) (w + 39) ((K : Int) + 1 - 1) = some (w + 40 + K) := r4'
      have r7b : hr (cpI (cpI h (w + 32 + K) 0 (w + 32 + (K + 1)) 0 16) (w + 40 + K) 0 (w + 40 + (K + 1)) 0 16) (w + 31) ((K : Int) + 1) = some (w + 32 + (K + 1)) := r7'
      have kob : kd (cpI (cpI h (w + 32 + K) 0 (w + 32 + (K + 1)) 0 16) (w + 40 + K) 0 (w + 40 + (K + 1)) 0 16) (w + 30) = 2 := b1
      have k21b : kd (cpI (cpI h (w + 32 + K) 0 (w + 32 + (K + 1)) 0 16) (w + 40 + K) 0 (w + 40 + (K + 1)) 0 16) (w + 39) = 103 := b7
      have l21b : ln (cpI (cpI h (w + 32 + K) 0 (w + 32 + (K + 1)) 0 16) (w + 40 + K) 0 (w + 40 + (K + 1)) 0 16) (w + 39) = 7 := b8
      have k22b : kd (cpI (cpI h (w + 32 + K) 0 (w + 32 + (K + 1)) 0 16) (w + 40 + K) 0 (w + 40 + (K + 1)) 0 16) (w + 31) = 103 := b4
      have l22b : ln (cpI (cpI h (w + 32 + K) 0 (w + 32 + (K + 1)) 0 16) (w + 40 + K) 0 (w + 40 + (K + 1)) 0 16) (w + 31) = 7 := b5
      have o2b : hr (cpI (cpI h (w + 32 + K) 0 (w + 32 + (K + 1)) 0 16) (w + 40 + K) 0 (w + 40 + (K + 1)) 0 16) (w + 30) 0 = some (w + 31) := b2
      have o3b : hr (cpI (cpI h (w + 32 + K) 0 (w + 32 + (K + 1)) 0 16) (w + 40 + K) 0 (w + 40 + (K + 1)) 0 16) (w + 30) 1 = some (w + 39) := b3
      generalize (cpI (cpI h (w + 32 + K) 0 (w + 32 + (K + 1)) 0 16) (w + 40 + K) 0 (w + 40 + (K + 1)) 0 16) = g at *
      refine wp_iload d_40_92 (by rfl) ?_
      refine wp_if_eq (tgt := 127) d_40_94 (by decide) (by first | omega | (simp only [ln_cpI]; omega)) (fun c_94 => ?_) (fun c_94 => ?_)
      · refine wp_iinc d_40_127 (by rfl) (by decide) ?_
        refine wp_goto (tgt := 34) d_40_130 (by decide) ?_
        first
          | (have gb1 : b' = 0 ∨ b' = 1 := by rcases J2 with z | z <;> omega
             refine wp_to [some (vR (some (w + 30))), some (vR (some (w + 1))), some (vR (some (w + 6))), none, none, some (vI (R : Int)), some (vI b'), some (vI (((K + 1 : Nat) : Int) + 1))] ⟨rfl, rfl, rfl, rfl, rfl, rfl, trivial⟩ ?_
             refine ih (K + 1) b' _ (by omega) ⟨gE4, fun k hk => ?_, ?_⟩ kq
             · by_cases hkk : k = K + 1
               · subst hkk
                 rw [f4 (K + 1) (by omega)]
                 exact ⟨IB', J3, bb'⟩
               · have zz : hi h_124 (w + 32 + k) = hi h (w + 32 + k) := funext fun x => (congrFun (f4 k (by omega)) x).trans ((E3.2.2.2.2.2.2.2.1 _ _ (by omega)).trans (congrFun (u32 k (by omega) hkk) x))
                 have zy : hi h_124 (w + 40 + k) = hi h (w + 40 + k) := funext fun x => (E4.2.2.2.2.2.2.2.1 _ _ (by unfold PA; omega)).trans ((E3.2.2.2.2.2.2.2.1 _ _ (by omega)).trans (congrFun (u40 k (by omega) hkk) x))
                 rw [zz, zy]
                 exact I1 k (by omega)
             · rcases J2 with ⟨z1, z2⟩ | z1
               · refine Or.inr ⟨z1, fun m hm => ?_⟩
                 rw [f4 (K + 1) (by omega)]
                 have ez : ∀ s, 0 ≤ s → s < hi hc (w + 1) 4 → hi h_115 (w + 32 + (K + 1)) s = hi h (w + 32 + K) s := fun s s0 s1 => (z2 s s0 s1).trans (v32 s s0 (by omega))
                 exact ((IB.skip NR IAx J1' ez m (by omega)).1).congr ez
               · exact Or.inl z1)
          | (refine wp_to [some (vR (some (w + 30))), some (vR (some (w + 1))), some (vR (some (w + 6))), none, none, some (vI (R : Int)), some (vI b), some (vI (((K + 1 : Nat) : Int) + 1))] ⟨rfl, rfl, rfl, rfl, rfl, rfl, trivial⟩ ?_
             have I4' : ∀ m, K ≤ m → BEx (hi hc (w + 1) 4) (hi hc (w + 2)) (Wy hc w) (Rc hc w) (tgB hc w) (dlB hc w) m (hi h (w + 32 + K)) := by
               rcases I4 with z | z
               · omega
               · exact z.2
             have e32 : ∀ s, 0 ≤ s → s < hi hc (w + 1) 4 → hi g (w + 32 + (K + 1)) s = hi h (w + 32 + K) s := fun s s0 s1 => v32 s s0 (by omega)
             have e40 : ∀ s, 0 ≤ s → s < hi hc (w + 1) 4 → hi g (w + 40 + (K + 1)) s = hi h (w + 40 + K) s := fun s s0 s1 => v40 s s0 (by omega)
             refine ih (K + 1) b _ (by omega) ⟨E2, fun k hk => ?_, Or.inr ⟨by omega, fun m hm => (I4' m (by omega)).congr e32⟩⟩ kq
             by_cases hkk : k = K + 1
             · subst hkk
               exact ⟨(I4' _ (by omega)).congr e32, IA.congr NR e32 e40, fun s s0 s1 => by rw [e32 s s0 s1]; exact Ibb s s0 s1⟩
             · rw [u32 k (by omega) hkk, u40 k (by omega) hkk]
               exact I1 k (by omega))
      · refine wp_aload_n d_40_97 (by rfl) ?_
        refine wp_aload_n d_40_98 (by rfl) ?_
        refine wp_aload_n d_40_99 (by rfl) ?_
        refine wp_getR (0) d_40_100 fl_1_11 rfl rfl (by first | assumption | (simp only [kd_cpI]; assumption)) (by first | assumption | (simp only [hr_cpI]; assumption)) ?_
        refine wp_iload d_40_103 (by rfl) ?_
        refine wp_aald d_40_105 (by first | omega | (simp only [kd_setI, kd_cpI]; omega)) (by first | omega | (simp only [kd_setI, kd_cpI]; omega)) (by apply isRf_of; assumption; rfl) (by first | omega | (simp only [ln_cpI]; omega)) (by first | omega | (simp only [ln_cpI]; omega)) (by first | assumption | (simp only [hr_cpI]; assumption)) ?_
        refine wp_aload_n d_40_106 (by rfl) ?_
        refine wp_getR (1) d_40_107 fl_1_16 rfl rfl (by first | assumption | (simp only [kd_cpI]; assumption)) (by first | assumption | (simp only [hr_cpI]; assumption)) ?_
        refine wp_iload d_40_110 (by rfl) ?_
        refine wp_iconst d_40_112 ?_
        refine wp_isub d_40_113 ?_
        refine wp_aald d_40_114 (by first | omega | (simp only [kd_setI, kd_cpI]; omega)) (by first | omega | (simp only [kd_setI, kd_cpI]; omega)) (by apply isRf_of; assumption; rfl) (by first | omega | (simp only [ln_cpI]; omega)) (by first | omega | (simp only [ln_cpI]; omega)) (by first | assumption | (simp only [hr_cpI]; assumption)) ?_
        refine wp_callV d_40_115 c_40_49 rfl (by rfl) (by rfl) ⟨1, rfl, rfl, by decide⟩ (by first | assumption | (simp only [kd_cpI]; assumption)) (by exact Nat.le_of_ble_eq_true rfl) (by exact Nat.le_of_ble_eq_true rfl) (s_rideB (K := K) hS1 (hT0.kept E2.fm PBRoff) (Rc.kept hT0 hR0 E2.fm PBRoff (fun a z y => by unfold PBR at z; omega) (fun a z => z.elim)).2 (by omega)) (fun v_115 h_115 q_115 => ?_) (fun _ _ q => q.elim)
        obtain ⟨b', rfl, E3, J1, J2⟩ := q_115
        have gE : ch (PBR w) nP hc h_115 := E2.trans (E3.mono (fun x z => by unfold PBR; omega) (fun x z => z))
        have hS2 := hS0.ch gE hT0
        have hT2 := hT0.kept gE.fm PBRoff
        have rcK := (Rc.kept hT0 hR0 E2.fm PBRoff (fun a z y => by unfold PBR at z; omega) (fun a z => z.elim)).1
        have nK : hi g (w + 1) 4 = hi hc (w + 1) 4 := E2.2.2.2.2.2.2.2.1 _ _ (by unfold PBR; omega)
        rw [rcK, nK, u40 K (by omega) (by omega)] at J1
        rw [nK] at J2
        have J1' := J1.congr (b2 := hi h (w + 32 + K)) (fun s z0 z1 => v32 s z0 (by omega))
        have IAx := AEx.of NR hd IB IA
        have IB' := IB.round NR IAx J1'
        have bb' := J1'.bb NR Ibb
        have nK2 : hi h_115 (w + 1) 4 = hi hc (w + 1) 4 := gE.2.2.2.2.2.2.2.1 _ _ (by unfold PBR; omega)
        have cK2 : hi h_115 (w + 2) = hi hc (w + 2) := funext fun x => gE.2.2.2.2.2.2.2.1 _ _ (by unfold PBR; omega)
        have tK2 : tgB h_115 w = tgB hc w := gE.2.2.2.2.2.2.2.1 _ _ (by unfold PBR; omega)
        have dK2 : dlB h_115 w = dlB hc w := gE.2.2.2.2.2.2.2.1 _ _ (by unfold PBR; omega)
        have wK2 := Wy.kept hT0 gE.fm PBRoff
        have kob2 : kd h_115 (w + 30) = 2 := hS2.2.2.2.2.1.1
        refine wp_istore d_40_118 (by decide) ?_
        refine wp_aload_n d_40_120 (by rfl) ?_
        refine wp_aload_n d_40_121 (by rfl) ?_
        refine wp_iload d_40_122 (by rfl) ?_
        refine wp_callV d_40_124 c_40_33 rfl (by rfl) (by rfl) ⟨1, rfl, rfl, by decide⟩ (by first | assumption | (simp only [kd_cpI]; assumption)) (by exact Nat.le_of_ble_eq_true rfl) (by exact Nat.le_of_ble_eq_true rfl) (s_alightB (K := K + 1) hS2 hT2 (by omega) (by rw [tK2]; omega) (by rw [dK2]; omega) (by rw [nK2]; exact bb')) (fun v_124 h_124 q_124 => ?_) (fun _ _ q => q.elim)
        obtain ⟨rfl, E4, J3⟩ := q_124
        have E4p : ch (PBR w) nP h_115 h_124 := E4.mono (fun x z => by unfold PA at z; unfold PBR; omega) (fun x z => z)
        have gE4 := gE.trans E4p
        rw [nK2, cK2, wK2, tK2, dK2] at J3
        have f4 : ∀ q : Nat, q ≤ 6 → hi h_124 (w + 32 + q) = hi h_115 (w + 32 + q) := fun q z => funext fun x => E4.2.2.2.2.2.2.2.1 _ _ (by unfold PA; omega)
        refine wp_iinc d_40_127 (by rfl) (by decide) ?_
        refine wp_goto (tgt := 34) d_40_130 (by decide) ?_
        first
          | (have gb1 : b' = 0 ∨ b' = 1 := by rcases J2 with z | z <;> omega
             refine wp_to [some (vR (some (w + 30))), some (vR (some (w + 1))), some (vR (some (w + 6))), none, none, some (vI (R : Int)), some (vI b'), some (vI (((K + 1 : Nat) : Int) + 1))] ⟨rfl, rfl, rfl, rfl, rfl, rfl, trivial⟩ ?_
             refine ih (K + 1) b' _ (by omega) ⟨gE4, fun k hk => ?_, ?_⟩ kq
             · by_cases hkk : k = K + 1
               · subst hkk
                 rw [f4 (K + 1) (by omega)]
                 exact ⟨IB', J3, bb'⟩
               · have zz : hi h_124 (w + 32 + k) = hi h (w + 32 + k) := funext fun x => (congrFun (f4 k (by omega)) x).trans ((E3.2.2.2.2.2.2.2.1 _ _ (by omega)).trans (congrFun (u32 k (by omega) hkk) x))
                 have zy : hi h_124 (w + 40 + k) = hi h (w + 40 + k) := funext fun x => (E4.2.2.2.2.2.2.2.1 _ _ (by unfold PA; omega)).trans ((E3.2.2.2.2.2.2.2.1 _ _ (by omega)).trans (congrFun (u40 k (by omega) hkk) x))
                 rw [zz, zy]
                 exact I1 k (by omega)
             · rcases J2 with ⟨z1, z2⟩ | z1
               · refine Or.inr ⟨z1, fun m hm => ?_⟩
                 rw [f4 (K + 1) (by omega)]
                 have ez : ∀ s, 0 ≤ s → s < hi hc (w + 1) 4 → hi h_115 (w + 32 + (K + 1)) s = hi h (w + 32 + K) s := fun s s0 s1 => (z2 s s0 s1).trans (v32 s s0 (by omega))
                 exact ((IB.skip NR IAx J1' ez m (by omega)).1).congr ez
               · exact Or.inl z1)
          | (refine wp_to [some (vR (some (w + 30))), some (vR (some (w + 1))), some (vR (some (w + 6))), none, none, some (vI (R : Int)), some (vI b), some (vI (((K + 1 : Nat) : Int) + 1))] ⟨rfl, rfl, rfl, rfl, rfl, rfl, trivial⟩ ?_
             have I4' : ∀ m, K ≤ m → BEx (hi hc (w + 1) 4) (hi hc (w + 2)) (Wy hc w) (Rc hc w) (tgB hc w) (dlB hc w) m (hi h (w + 32 + K)) := by
               rcases I4 with z | z
               · omega
               · exact z.2
             have e32 : ∀ s, 0 ≤ s → s < hi hc (w + 1) 4 → hi g (w + 32 + (K + 1)) s = hi h (w + 32 + K) s := fun s s0 s1 => v32 s s0 (by omega)
             have e40 : ∀ s, 0 ≤ s → s < hi hc (w + 1) 4 → hi g (w + 40 + (K + 1)) s = hi h (w + 40 + K) s := fun s s0 s1 => v40 s s0 (by omega)
             refine ih (K + 1) b _ (by omega) ⟨E2, fun k hk => ?_, Or.inr ⟨by omega, fun m hm => (I4' m (by omega)).congr e32⟩⟩ kq
             by_cases hkk : k = K + 1
             · subst hkk
               exact ⟨(I4' _ (by omega)).congr e32, IA.congr NR e32 e40, fun s s0 s1 => by rw [e32 s s0 s1]; exact Ibb s s0 s1⟩
             · rw [u32 k (by omega) hkk, u40 k (by omega) hkk]
               exact I1 k (by omega))
/-- what is known behind a search back -/
def BkW (h0 h : Hp) (w : Nat) (d D : Int) (R : Nat) : Prop := (tgB h w = d ∧ dlB h w = D) ∧ ∀ k : Nat, k ≤ R → BEx (hi h0 (w + 1) 4) (hi h0 (w + 2)) (Wy h0 w) (Rc h0 w) d D k (hi h (w + 32 + k)) ∧ AEx (hi h0 (w + 1) 4) (hi h0 (w + 2)) (Wy h0 w) (Rc h0 w) d D k (hi h (w + 40 + k)) ∧ Bb (hi h0 (w + 1) 4) (hi h (w + 32 + k))
set_option maxRecDepth 100000 in
set_option maxHeartbeats 4000000 in
theorem s_seekB {w X R : Nat} {d D : Int} {h0 : Hp} (hS0 : Sk h0 w) (hT0 : TT h0 w X) (hR0 : RunsOk h0 w) (hd : 0 ≤ d ∧ d < hi h0 (w + 1) 4) (hD : 0 ≤ D ∧ D ≤ 1000000) (hR : R ≤ 6) : wp 40 0 (entL [vR (some (w + 30)), vR (some (w + 1)), vR (some (w + 6)), vI d, vI D, vI (R : Int)] (mL 40)) [] h0 (fun v h' => v = none ∧ ch (PBK w) nP h0 h' ∧ BkW h0 h' w d D R) noX := by
  have hS := hS0
  obtain ⟨⟨k1, k2, k3, k4, k5, k6, k7⟩, ⟨n1, ⟨n2, n3, n4, n5⟩, ⟨n6, n7⟩, ⟨n8, n9⟩, ⟨n10, n11⟩, n12, n13⟩, ⟨m1, ⟨m2, m3, m4⟩, ⟨m5, m6⟩, ⟨m7, m8⟩, m9, m10⟩, ⟨o1, ⟨o2, o3, o4⟩, ⟨o5, o6, o7⟩, ⟨o8, o9, o10⟩, o11, o12⟩, ⟨b1, ⟨b2, b3⟩, ⟨b4, b5, b6⟩, b7, b8, b9⟩, ⟨j1, ⟨j2, j3, j4, j5, j6, j7, j8⟩, ⟨j9, j10⟩, j11⟩⟩ := hS
  obtain ⟨r1, r2, r3⟩ := b6 0 (by decide)
  rw [Nat.add_zero] at r1 r2 r3
  have r1' : hr h0 (w + 31) 0 = some (w + 32) := r1
  have hX := hT0.2.2.2.2.2.2
  have hn := hT0.1
  have M1 : ch (PBK w) nP h0 (setI (setI h0 (w + 30) 2 d) (w + 30) 3 D) := (ch_setI (by unfold PBK; omega)).trans (ch_setI (by unfold PBK; omega))
  refine wp_aload_n d_40_0 (by rfl) ?_
  refine wp_iload_n d_40_1 (by rfl) ?_
  refine wp_putI (2) d_40_2 fl_1_19 rfl rfl (Or.inl (by rfl)) (by first | assumption | (simp only [kd_setI]; assumption) | exact hS2.2.2.2.2.1.1) (by first | omega | (simp only [ln_setI]; omega)) (fun q => nomatch q) ?_
  refine wp_aload_n d_40_5 (by rfl) ?_
  refine wp_iload d_40_6 (by rfl) ?_
  refine wp_putI (3) d_40_8 fl_1_23 rfl rfl (Or.inl (by rfl)) (by first | assumption | (simp only [kd_setI]; assumption) | exact hS2.2.2.2.2.1.1) (by first | omega | (simp only [ln_setI]; omega)) (fun q => nomatch q) ?_
  refine wp_aload_n d_40_11 (by rfl) ?_
  refine wp_getR (0) d_40_12 fl_1_11 rfl rfl (by first | assumption | (simp only [kd_setI]; assumption) | exact hS2.2.2.2.2.1.1) (by first | assumption | (simp only [hr_setI]; assumption)) ?_
  refine wp_iconst d_40_15 ?_
  refine wp_aald d_40_16 (by first | omega | (simp only [kd_setI, kd_cpI]; omega)) (by first | omega | (simp only [kd_setI, kd_cpI]; omega)) (by apply isRf_of; assumption; rfl) (by first | omega | (simp only [ln_setI]; omega)) (by first | omega | (simp only [ln_setI]; omega)) (by first | assumption | (simp only [hr_setI]; assumption)) ?_
  refine wp_ldc (-1000000000) d_40_17 ck_1_26 (by decide) ?_
  refine wp_callS d_40_19 c_40_27 rfl (by rfl) (by rfl) (by exact Nat.le_of_ble_eq_true rfl) (by exact Nat.le_of_ble_eq_true rfl) (s_fill (N := 16) (by decide) (by decide) (by simp only [kd_setI]; assumption) (by simp only [ln_setI]; assumption)) (fun v_19 h_19 q_19 => ?_) (fun _ _ q => q.elim)
  obtain ⟨rfl, E2, V2⟩ := q_19
  have M2 : ch (PBK w) nP h0 h_19 := M1.trans (E2.mono (fun x z => by unfold PBK; omega) (fun x z => z))
  have hS2 : Sk h_19 w := hS0.ch M2 hT0
  have hT2 := hT0.kept M2.fm PBKoff
  have n2' : hi h_19 (w + 1) 4 = hi h0 (w + 1) 4 := M2.2.2.2.2.2.2.2.1 _ _ (by unfold PBK; omega)
  have t2' : tgB h_19 w = d := (E2.2.2.2.2.2.2.2.1 _ _ (by omega)).trans (by rw [hi_upF, upF_ne _ (by decide), hi_upF, upF_same])
  have d2' : dlB h_19 w = D := (E2.2.2.2.2.2.2.2.1 _ _ (by omega)).trans (by rw [hi_upF, upF_same])
  have bb2 : Bb (hi h_19 (w + 1) 4) (hi h_19 (w + 32 + 0)) := fun s s0 s1 => by
    have := V2 s s0 (by omega)
    show _ ≤ hi h_19 (w + 32) s ∧ hi h_19 (w + 32) s ≤ _
    omega
  refine wp_aload_n d_40_22 (by rfl) ?_
  refine wp_aload_n d_40_23 (by rfl) ?_
  refine wp_iconst d_40_24 ?_
  refine wp_callV d_40_25 c_40_33 rfl (by rfl) (by rfl) ⟨1, rfl, rfl, by decide⟩ (by first | assumption | (simp only [kd_setI]; assumption) | exact hS2.2.2.2.2.1.1) (by exact Nat.le_of_ble_eq_true rfl) (by exact Nat.le_of_ble_eq_true rfl) (s_alightB (K := 0) hS2 hT2 (by decide) (by rw [t2']; omega) (by rw [d2']; omega) bb2) (fun v_25 h_25 q_25 => ?_) (fun _ _ q => q.elim)
  obtain ⟨rfl, E3, J3⟩ := q_25
  have E3p : ch (PBR w) nP h_19 h_25 := E3.mono (fun x z => by unfold PA at z; unfold PBR; omega) (fun x z => z)
  have M3 : ch (PBK w) nP h0 h_25 := M2.trans (E3p.mono (fun x z => by unfold PBR at z; unfold PBK; omega) (fun x z => z))
  have hS3 : Sk h_25 w := hS0.ch M3 hT0
  have hT3 := hT0.kept M3.fm PBKoff
  have R3 := Rc.kept hT0 hR0 M3.fm PBKoff (fun a z y => by unfold PBK at z; omega) (fun a z => z.elim)
  have n3' : hi h_25 (w + 1) 4 = hi h0 (w + 1) 4 := M3.2.2.2.2.2.2.2.1 _ _ (by unfold PBK; omega)
  have c3' : hi h_25 (w + 2) = hi h0 (w + 2) := funext fun x => M3.2.2.2.2.2.2.2.1 _ _ (by unfold PBK; omega)
  have c2' : hi h_19 (w + 2) = hi h0 (w + 2) := funext fun x => M2.2.2.2.2.2.2.2.1 _ _ (by unfold PBK; omega)
  have t3' : tgB h_25 w = d := (E3.2.2.2.2.2.2.2.1 _ _ (by unfold PA; omega)).trans t2'
  have d3' : dlB h_25 w = D := (E3.2.2.2.2.2.2.2.1 _ _ (by unfold PA; omega)).trans d2'
  have w3' : Wy h_25 w = Wy h0 w := Wy.kept hT0 M3.fm PBKoff
  have w2' : Wy h_19 w = Wy h0 w := Wy.kept hT0 M2.fm PBKoff
  have f3' : hi h_25 (w + 32 + 0) = hi h_19 (w + 32 + 0) := funext fun x => E3.2.2.2.2.2.2.2.1 _ _ (by unfold PA; omega)
  rw [n2', c2', w2', t2', d2'] at J3
  rw [n2'] at bb2
  refine wp_iconst d_40_28 ?_
  refine wp_istore d_40_29 (by decide) ?_
  refine wp_iconst d_40_31 ?_
  refine wp_istore d_40_32 (by decide) ?_
  refine wp_to [some (vR (some (w + 30))), some (vR (some (w + 1))), some (vR (some (w + 6))), none, none, some (vI (R : Int)), some (vI 1), some (vI (((0 : Nat) : Int) + 1))] ⟨rfl, rfl, rfl, rfl, rfl, rfl, trivial⟩ ?_
  refine l_seekB hS3 hT3 R3.2 (by rw [t3', n3']; exact hd) (by rw [d3']; exact hD) hR R 0 1 _ (by omega) ⟨ch.rfl, fun k hk => ?_, Or.inl rfl⟩ (fun h' b' I => ?_)
  · obtain rfl : k = 0 := by omega
    rw [n3', c3', w3', t3', d3', R3.1, f3']
    exact ⟨BEx.zero (fun s s0 s1 => V2 s s0 (by omega)), J3, bb2⟩
  · obtain ⟨E5, I1, -⟩ := I
    have N0 := hT0.net
    have NR : Net (hi h0 (w + 1) 4) (hi h0 (w + 2)) (Wy h0 w) (Rc h0 w) := ⟨N0.1, N0.2.1, N0.2.2.1, fun r z => N0.2.2.2 r (hR0.sub z)⟩
    rw [n3', c3', w3', t3', d3', R3.1] at I1
    refine ⟨rfl, M3.trans (E5.mono (fun x z => by unfold PBR at z; unfold PBK; omega) (fun x z => z)), ⟨(E5.2.2.2.2.2.2.2.1 _ _ (by unfold PBR; omega)).trans t3', (E5.2.2.2.2.2.2.2.1 _ _ (by unfold PBR; omega)).trans d3'⟩, fun k hk => ?_⟩
    obtain ⟨x1, x2, x3⟩ := I1 k hk
    exact ⟨x1, AEx.of NR hd x1 x2, x3⟩
