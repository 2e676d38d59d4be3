/-! ===== seek onwards ===== -/
theorem cp_nat : okw (.native arraycopyName) := okk_w (k := 229) (by decide +kernel)
theorem cp_sta : okw (.static arraycopyName) := okk_w (k := 228) (by decide +kernel)
theorem cp_ini : okw (.initialized "java/lang/System") := okk_w (k := 52) (by decide +kernel)
theorem cp_WhistleStopOnward_46 : okw (.methodLink "WhistleStop$Onward" 46 arraycopyName) := okk_w (k := 227) (by decide +kernel)
theorem cp_javautilArrays_150 : okw (.methodLink "java/util/Arrays" 150 arraycopyName) := okk_w (k := 300) (by decide +kernel)
theorem cp_WhistleStopOffers_31 : okw (.methodLink "WhistleStop$Offers" 31 arraycopyName) := okk_w (k := 301) (by decide +kernel)
theorem cp_WhistleStopBackward_43 : okw (.methodLink "WhistleStop$Backward" 43 arraycopyName) := okk_w (k := 355) (by decide +kernel)
theorem JR.ge {n : Int} {c : Int → Int} {W : Int → Int → Int → Prop} {R : Rn → Prop} {o T L : Int} (N : Net n c W R) (ho : 0 ≤ o ∧ o < n) {k : Nat} {s t p : Int} (h : JR c W R o T L k s t p) : T ≤ t := by
  obtain ⟨s', t', ha, hb⟩ := h
  have a1 := JA.ge N ho _ _ _ _ ha
  have a2 := N.1 s' (JA.range N ho _ _ _ _ ha).1 (JA.range N ho _ _ _ _ ha).2
  rcases hb with ⟨-, hb⟩ | ⟨m, hw, hb, -⟩
  · split at hb <;> omega
  · have := (N.2.1 _ _ _ hw).2.2.1
    omega
theorem Exact.bd {n : Int} {c : Int → Int} {W : Int → Int → Int → Prop} {R : Rn → Prop} {o T L : Int} (N : Net n c W R) (ho : 0 ≤ o ∧ o < n) (hT : 0 ≤ T) (hTL : T ≤ L) (hL : L ≤ 1000000) {k : Nat} {f y e : Int → Int} (E : Exact n c W R o T L k f y e) : Bd n f ∧ Bd n y ∧ Bd n e := by
  obtain ⟨s1, c1, s2, c2, s3, c3, i1, i2⟩ := E
  have F : Bd n f := fun s h0 h1 => by
    have := (i1 s h0 h1).1
    rcases s1 s h0 h1 with h | ⟨j, p, -, h⟩
    · omega
    · have := (JA.ge N ho _ _ _ _ h).1
      omega
  refine ⟨F, fun s h0 h1 => ?_, fun s h0 h1 => ?_⟩
  · have a1 := F s h0 h1
    have a2 := i1 s h0 h1
    have a3 := N.1 s h0 h1
    rcases s2 s h0 h1 with h | ⟨j, p, -, h⟩
    · omega
    · have := JR.ge N ho h
      omega
  · rcases s3 s h0 h1 with h | ⟨j, p, -, h⟩
    · omega
    · have := (JE.ge N ho h).1
      have := JE.le hTL h
      omega
theorem RideR.bd {n : Int} {c : Int → Int} {W : Int → Int → Int → Prop} {R : Rn → Prop} {L : Int} {y f f' : Int → Int} (N : Net n c W R) (hf : Bd n f) (h : RideR n R L y f f') : Bd n f' := fun s h0 h1 => by
  have a1 := hf s h0 h1
  obtain ⟨a2, a3⟩ := h.1 s h0 h1
  rcases a3 with e | ⟨r, i, j, hR, g0, g1, g2, -, -, g5, -⟩
  · omega
  · have := ((N.2.2.2 r hR).2.1 j (by omega) g2).2.1
    omega
theorem Exact.congr {n : Int} {c : Int → Int} {W : Int → Int → Int → Prop} {R : Rn → Prop} {o T L : Int} (N : Net n c W R) (ho : 0 ≤ o ∧ o < n) {k : Nat} {f y e f' y' e' : Int → Int} (E : Exact n c W R o T L k f y e) (hf : ∀ s, 0 ≤ s → s < n → f' s = f s) (hy : ∀ s, 0 ≤ s → s < n → y' s = y s) (he : ∀ s, 0 ≤ s → s < n → e' s = e s) : Exact n c W R o T L k f' y' e' := by
  obtain ⟨s1, c1, s2, c2, s3, c3, i1, i2⟩ := E
  refine ⟨fun s h0 h1 => by rw [hf s h0 h1]; exact s1 s h0 h1, fun j s t p hj h => ?_, fun s h0 h1 => by rw [hy s h0 h1]; exact s2 s h0 h1, fun j s t p hj h => ?_, fun s h0 h1 => by rw [he s h0 h1]; exact s3 s h0 h1, fun j s t p hj h => ?_, fun s h0 h1 => by rw [hf s h0 h1, hy s h0 h1]; exact i1 s h0 h1, fun s s' m hw hl => ?_⟩
  · have hr := JA.range N ho _ _ _ _ h
    rw [hf s hr.1 hr.2]; exact c1 j s t p hj h
  · have hr := JR.range N ho h
    rw [hy s hr.1 hr.2]; exact c2 j s t p hj h
  · have hr := JE.range N ho h
    rw [he s hr.1 hr.2]; exact c3 j s t p hj h
  · have b := N.2.1 _ _ _ hw
    rw [hf s b.1.1 b.1.2] at hl ⊢
    rw [hy s' b.2.1.1 b.2.1.2]
    exact i2 _ _ _ hw hl
theorem Closed.congr {n : Int} {c : Int → Int} {W : Int → Int → Int → Prop} {R : Rn → Prop} {L : Int} (N : Net n c W R) {f y f' y' : Int → Int} (h : Closed R L f y) (hf : ∀ s, 0 ≤ s → s < n → f' s = f s) (hy : ∀ s, 0 ≤ s → s < n → y' s = y s) : Closed R L f' y' := by
  intro r i j hR h0 h1 h2 h3 h4
  have b1 := ((N.2.2.2 r hR).2.1 i h0 (by omega)).1
  have b2 := ((N.2.2.2 r hR).2.1 j (by omega) h2).1
  rw [hy _ b1.1 b1.2] at h3
  rw [hf _ b2.1 b2.2]
  exact h r i j hR h0 h1 h2 h3 h4
/-- the rows of the search onwards -/
def PS (w : Nat) : Nat → Prop := fun a => w + 14 ≤ a ∧ a ≤ w + 29
theorem PSoff {w X : Nat} : Off w X (PS w) nP := ⟨fun a z => by unfold PS at z; omega, fun a z => z.elim⟩
/-- behind K rounds -/
def SkI (hc h : Hp) (w : Nat) (o T : Int) (K : Nat) (b : Int) : Prop := ch (PS w) nP hc h ∧
  (∀ k : Nat, k ≤ K → ∃ f y, Exact (hi hc (w + 1) 4) (hi hc (w + 2)) (Wy hc w) (Rc hc w) o T (hi hc (w + 12) 3) k f y (hi h (w + 14 + k))) ∧
  Exact (hi hc (w + 1) 4) (hi hc (w + 2)) (Wy hc w) (Rc hc w) o T (hi hc (w + 12) 3) K (hi h (w + 29)) (hi h (w + 22 + K)) (hi h (w + 14 + K)) ∧
  ((∀ s, 0 ≤ s → s < hi hc (w + 1) 4 → hi h (w + 14 + K) s ≤ hi h (w + 29) s) ∧ ∀ s' s m, Wy hc w s' s m → hi h (w + 29) s' + m ≤ hi hc (w + 12) 3 → hi h (w + 14 + K) s ≤ hi h (w + 29) s' + m) ∧
  (b = 1 ∨ (b = 0 ∧ Closed (Rc hc w) (hi hc (w + 12) 3) (hi h (w + 29)) (hi h (w + 22 + K))))
set_option maxRecDepth 100000 in
set_option maxHeartbeats 4000000 in
theorem l_seek {w X : Nat} {o T : Int} {hc : Hp} (hS0 : Sk hc w) (hT0 : TT hc w X) (hR0 : RunsOk hc w) (ho : 0 ≤ o ∧ o < hi hc (w + 1) 4) (hT : 0 ≤ T ∧ T ≤ hi hc (w + 12) 3) (hL : hi hc (w + 12) 3 ≤ 999999) {Q : Option AV → Hp → Prop} : ∀ (m K : Nat) (b : Int) (h : Hp), K + m = 6 → SkI hc h w o T K b → (∀ h' b', SkI hc h' w o T 6 b' → Q none h') → wp 80 39 [some (vR (some (w + 12))), some (vR (some (w + 1))), some (vR (some (w + 6))), none, none, none, some (vI b), some (vI ((K : Int) + 1))] [] h Q noX := by
  intro m
  have N := hT0.net
  have hn := hT0.1
  have hX := hT0.2.2.2.2.2.2
  have NR : Net (hi hc (w + 1) 4) (hi hc (w + 2)) (Wy hc w) (Rc hc w) := ⟨N.1, N.2.1, N.2.2.1, fun r z => N.2.2.2 r (hR0.sub z)⟩
  induction m with
  | zero =>
    intro K b h e0 I kq
    obtain rfl : K = 6 := by omega
    have gb : b = 0 ∨ b = 1 := by rcases I.2.2.2.2 with z | z <;> omega
    refine wp_iload d_80_39 (by rfl) ?_
    refine wp_bipush d_80_41 (by decide) ?_
    refine wp_icmp_gt (tgt := 133) d_80_43 (by decide) (by omega) (by omega) (fun c_43 => ?_) (fun c_43 => ?_)
    rotate_left
    · exact absurd c_43 (by omega)
    refine wp_vret d_80_133 rfl ?_
    exact kq h b I
  | succ m ih =>
    intro K b h e0 I kq
    obtain ⟨E, I1, I2, I3, I4⟩ := I
    have gb : b = 0 ∨ b = 1 := by rcases I4 with z | z <;> omega
    have hS := hS0.ch E hT0
    have hS9 := hS
    obtain ⟨⟨k1, k2, k3, k4, k5, k6, k7⟩, ⟨n1, ⟨n2, n3, n4, n5⟩, ⟨n6, n7⟩, ⟨n8, n9⟩, ⟨n10, n11⟩, n12, n13⟩, ⟨m1, ⟨m2, m3, m4⟩, ⟨m5, m6⟩, ⟨m7, m8⟩, m9, m10⟩, ⟨o1, ⟨o2, o3, o4⟩, ⟨o5, o6, o7⟩, ⟨o8, o9, o10⟩, o11, o12⟩, ⟨b1, ⟨b2, b3⟩, ⟨b4, b5, b6⟩, b7, b8, b9⟩, ⟨j1, ⟨j2, j3, j4, j5, j6, j7, j8⟩, ⟨j9, j10⟩, j11⟩⟩ := hS
    have c1 : (K : Int) + 1 - 1 = (K : Int) := by omega
    obtain ⟨r1, r2, r3⟩ := o7 K (by omega)
    obtain ⟨r4, r5, r6⟩ := o10 K (by omega)
    obtain ⟨r7, r8, r9⟩ := o7 (K + 1) (by omega)
    obtain ⟨r10, r11, r12⟩ := o10 (K + 1) (by omega)
    have r1' : hr h (w + 13) ((K : Int) + 1 - 1) = some (w + 14 + K) := by rw [c1]; exact r1
    have r4' : hr h (w + 21) ((K : Int) + 1 - 1) = some (w + 22 + K) := by rw [c1]; exact r4
    have r7' : hr h (w + 13) ((K : Int) + 1) = some (w + 14 + (K + 1)) := r7
    have r10' : hr h (w + 21) ((K : Int) + 1) = some (w + 22 + (K + 1)) := r10
    refine wp_iload d_80_39 (by rfl) ?_
    refine wp_bipush d_80_41 (by decide) ?_
    refine wp_icmp_gt (tgt := 133) d_80_43 (by decide) (by first | omega | (simp only [ln_cpI]; omega)) (by first | omega | (simp only [ln_cpI]; omega)) (fun c_43 => ?_) (fun c_43 => ?_)
    · refine wp_vret d_80_133 rfl ?_
      exact absurd c_43 (by omega)
    · refine wp_aload_n d_80_46 (by rfl) ?_
      refine wp_getR (0) d_80_47 fl_9_11 rfl rfl (by first | assumption | (simp only [kd_cpI]; assumption)) (by first | assumption | (simp only [hr_cpI]; assumption)) ?_
      refine wp_iload d_80_50 (by rfl) ?_
      refine wp_iconst d_80_52 ?_
      refine wp_isub d_80_53 ?_
      refine wp_aald d_80_54 (by first | omega | (simp only [kd_setI, kd_cpI]; omega)) (by first | omega | (simp only [kd_setI, kd_cpI]; omega)) (by apply isRf_of; assumption; rfl) (by first | omega | (simp only [ln_cpI]; omega)) (by first | omega | (simp only [ln_cpI]; omega)) (by first | assumption | (simp only [hr_cpI]; assumption)) ?_
      refine wp_iconst d_80_55 ?_
      refine wp_aload_n d_80_56 (by rfl) ?_
      refine wp_getR (0) d_80_57 fl_9_11 rfl rfl (by first | assumption | (simp only [kd_cpI]; assumption)) (by first | assumption | (simp only [hr_cpI]; assumption)) ?_
      refine wp_iload d_80_60 (by rfl) ?_
      refine wp_aald d_80_62 (by first | omega | (simp only [kd_setI, kd_cpI]; omega)) (by first | omega | (simp only [kd_setI, kd_cpI]; omega)) (by apply isRf_of; assumption; rfl) (by first | omega | (simp only [ln_cpI]; omega)) (by first | omega | (simp only [ln_cpI]; omega)) (by first | assumption | (simp only [hr_cpI]; assumption)) ?_
      refine wp_iconst d_80_63 ?_
      refine wp_bipush d_80_64 (by decide) ?_
      refine wp_copy d_80_66 cp_WhistleStopOnward_46 cp_nat cp_sta cp_ini (by first | assumption | (simp only [kd_cpI]; assumption)) (by first | assumption | (simp only [kd_cpI]; assumption)) (by first | omega | (simp only [ln_cpI]; omega)) (by first | omega | (simp only [ln_cpI]; omega)) (by first | omega | (simp only [ln_cpI]; omega)) (by first | omega | (simp only [ln_cpI]; omega)) (by first | omega | (simp only [ln_cpI]; omega)) (by decide) (by decide) ?_
      refine wp_aload_n d_80_69 (by rfl) ?_
      refine wp_getR (1) d_80_70 fl_9_16 rfl rfl (by first | assumption | (simp only [kd_cpI]; assumption)) (by first | assumption | (simp only [hr_cpI]; assumption)) ?_
      refine wp_iload d_80_73 (by rfl) ?_
      refine wp_iconst d_80_75 ?_
      refine wp_isub d_80_76 ?_
      refine wp_aald d_80_77 (by first | omega | (simp only [kd_setI, kd_cpI]; omega)) (by first | omega | (simp only [kd_setI, kd_cpI]; omega)) (by apply isRf_of; assumption; rfl) (by first | omega | (simp only [ln_cpI]; omega)) (by first | omega | (simp only [ln_cpI]; omega)) (by first | assumption | (simp only [hr_cpI]; assumption)) ?_
      refine wp_iconst d_80_78 ?_
      refine wp_aload_n d_80_79 (by rfl) ?_
      refine wp_getR (1) d_80_80 fl_9_16 rfl rfl (by first | assumption | (simp only [kd_cpI]; assumption)) (by first | assumption | (simp only [hr_cpI]; assumption)) ?_
      refine wp_iload d_80_83 (by rfl) ?_
      refine wp_aald d_80_85 (by first | omega | (simp only [kd_setI, kd_cpI]; omega)) (by first | omega | (simp only [kd_setI, kd_cpI]; omega)) (by apply isRf_of; assumption; rfl) (by first | omega | (simp only [ln_cpI]; omega)) (by first | omega | (simp only [ln_cpI]; omega)) (by first | assumption | (simp only [hr_cpI]; assumption)) ?_
      refine wp_iconst d_80_86 ?_
      refine wp_bipush d_80_87 (by decide) ?_
      refine wp_copy d_80_89 cp_WhistleStopOnward_46 cp_nat cp_sta cp_ini (by first | assumption | (simp only [kd_cpI]; assumption)) (by first | assumption | (simp only [kd_cpI]; assumption)) (by first | omega | (simp only [ln_cpI]; omega)) (by first | omega | (simp only [ln_cpI]; omega)) (by first | omega | (simp only [ln_cpI]; omega)) (by first | omega | (simp only [ln_cpI]; omega)) (by first | omega | (simp only [ln_cpI]; omega)) (by decide) (by decide) ?_
      have E1 : ch (PS w) nP h (cpI (cpI h (w + 14 + K) 0 (w + 14 + (K + 1)) 0 16) (w + 22 + K) 0 (w + 22 + (K + 1)) 0 16) := (ch_cpI (P := PS w) (by unfold PS; omega)).trans (ch_cpI (P := PS w) (by unfold PS; omega))
      have u14 : ∀ q : Nat, q ≤ 6 → q ≠ K + 1 → hi (cpI (cpI h (w + 14 + K) 0 (w + 14 + (K + 1)) 0 16) (w + 22 + K) 0 (w + 22 + (K + 1)) 0 16) (w + 14 + q) = hi h (w + 14 + q) := fun q z1 z2 => funext fun x => by
        rw [hi_cpI]
        show (if _ then _ else _) = _
        rw [if_neg (fun y => absurd y.1 (by omega)), hi_cpI]
        show (if _ then _ else _) = _
        rw [if_neg (fun y => absurd y.1 (by omega))]
      have u22 : hi (cpI (cpI h (w + 14 + K) 0 (w + 14 + (K + 1)) 0 16) (w + 22 + K) 0 (w + 22 + (K + 1)) 0 16) (w + 22 + K) = hi h (w + 22 + K) := funext fun x => by
        rw [hi_cpI]
        show (if _ then _ else _) = _
        rw [if_neg (fun y => absurd y.1 (by omega)), hi_cpI]
        show (if _ then _ else _) = _
        rw [if_neg (fun y => absurd y.1 (by omega))]
      have u29 : hi (cpI (cpI h (w + 14 + K) 0 (w + 14 + (K + 1)) 0 16) (w + 22 + K) 0 (w + 22 + (K + 1)) 0 16) (w + 29) = hi h (w + 29) := funext fun x => by
        rw [hi_cpI]
        show (if _ then _ else _) = _
        rw [if_neg (fun y => absurd y.1 (by omega)), hi_cpI]
        show (if _ then _ else _) = _
        rw [if_neg (fun y => absurd y.1 (by omega))]
      have v14 : ∀ s, 0 ≤ s → s < 16 → hi (cpI (cpI h (w + 14 + K) 0 (w + 14 + (K + 1)) 0 16) (w + 22 + K) 0 (w + 22 + (K + 1)) 0 16) (w + 14 + (K + 1)) s = hi h (w + 14 + K) s := fun s z1 z2 => by
        rw [hi_cpI]
        show (if _ then _ else _) = _
        rw [if_neg (fun y => absurd y.1 (by omega)), hi_cpI]
        show (if _ then _ else _) = _
        rw [if_pos ⟨rfl, by omega, by omega⟩, show (0 : Int) + (s - 0) = s by omega]
      have v22 : ∀ s, 0 ≤ s → s < 16 → hi (cpI (cpI h (w + 14 + K) 0 (w + 14 + (K + 1)) 0 16) (w + 22 + K) 0 (w + 22 + (K + 1)) 0 16) (w + 22 + (K + 1)) s = hi h (w + 22 + K) s := fun s z1 z2 => by
        rw [hi_cpI]
        show (if _ then _ else _) = _
        rw [if_pos ⟨rfl, by omega, by omega⟩, hi_cpI, show (0 : Int) + (s - 0) = s by omega]
        show (if _ then _ else _) = _
        rw [if_neg (fun y => absurd y.1 (by omega))]
      have hS1 := hS9.ch E1 (hT0.kept E.fm PSoff)
      have E2 := E.trans E1
      have r4b : hr (cpI (cpI h (w + 14 + K) 0 (w + 14 + (K + 1)) 0 16) (w + 22 + K) 0 (w + 22 + (K + 1)) 0 16) (w + 21) ((K : Int) + 1 - 1) = some (w + 22 + K) := r4'
      have kob : kd (cpI (cpI h (w + 14 + K) 0 (w + 14 + (K + 1)) 0 16) (w + 22 + K) 0 (w + 22 + (K + 1)) 0 16) (w + 12) = 10 := o1
      have k21b : kd (cpI (cpI h (w + 14 + K) 0 (w + 14 + (K + 1)) 0 16) (w + 22 + K) 0 (w + 22 + (K + 1)) 0 16) (w + 21) = 103 := o8
      have l21b : ln (cpI (cpI h (w + 14 + K) 0 (w + 14 + (K + 1)) 0 16) (w + 22 + K) 0 (w + 22 + (K + 1)) 0 16) (w + 21) = 7 := o9
      have o3b : hr (cpI (cpI h (w + 14 + K) 0 (w + 14 + (K + 1)) 0 16) (w + 22 + K) 0 (w + 22 + (K + 1)) 0 16) (w + 12) 1 = some (w + 21) := o3
      generalize (cpI (cpI h (w + 14 + K) 0 (w + 14 + (K + 1)) 0 16) (w + 22 + K) 0 (w + 22 + (K + 1)) 0 16) = g at *
      refine wp_iload d_80_92 (by rfl) ?_
      refine wp_if_eq (tgt := 127) d_80_94 (by decide) (by first | omega | (simp only [ln_cpI]; omega)) (fun c_94 => ?_) (fun c_94 => ?_)
      · refine wp_iinc d_80_127 (by rfl) (by decide) ?_
        refine wp_goto (tgt := 39) d_80_130 (by decide) ?_
        first
          | (have gb1 : b1 = 0 ∨ b1 = 1 := by rcases J2 with z | z <;> omega
             refine wp_to [some (vR (some (w + 12))), some (vR (some (w + 1))), some (vR (some (w + 6))), none, none, none, some (vI b1), some (vI (((K + 1 : Nat) : Int) + 1))] ⟨rfl, rfl, rfl, rfl, rfl, trivial⟩ ?_
             refine ih (K + 1) b1 _ (by omega) ⟨gE5, fun k hk => ?_, ?_, ⟨fun s z0 z1 => ?_, fun s' s m hw hl => ?_⟩, ?_⟩ kq
             · by_cases hkk : k = K + 1
               · subst hkk
                 exact ⟨_, _, X9.1⟩
               · obtain ⟨f, y, z⟩ := I1 k (by omega)
                 have zz : hi h_124 (w + 14 + k) = hi h (w + 14 + k) := funext fun x => (E5.2.2.2.2.2.2.2.1 _ _ (by unfold PW; omega)).trans ((E4.2.2.2.2.2.2.2.1 _ _ (by unfold PW; omega)).trans ((E3.2.2.2.2.2.2.2.1 _ _ (by omega)).trans (congrFun (u14 k (by omega) hkk) x)))
                 exact ⟨f, y, by rw [zz]; exact z⟩
             · rw [f5]; exact X9.1
             · rw [f5]
               have := (J4.1 s z0 z1).1
               rw [(J3 s z0 (by omega)).1, if_pos z1] at this
               omega
             · rw [f5] at hl ⊢
               exact J4.2 _ _ _ hw hl
             · rcases J2 with ⟨z1, z2⟩ | z1
               · exact Or.inr ⟨z1, by rw [f5]; exact X9.2 z2⟩
               · exact Or.inl z1)
          | (refine wp_to [some (vR (some (w + 12))), some (vR (some (w + 1))), some (vR (some (w + 6))), none, none, none, some (vI b), some (vI (((K + 1 : Nat) : Int) + 1))] ⟨rfl, rfl, rfl, rfl, rfl, trivial⟩ ?_
             have I4' : Closed (Rc hc w) (hi hc (w + 12) 3) (hi h (w + 29)) (hi h (w + 22 + K)) := by
               rcases I4 with z | z
               · omega
               · exact z.2
             refine ih (K + 1) b _ (by omega) ⟨E2, fun k hk => ?_, ?_, ⟨fun s z0 z1 => ?_, fun s' s m hw hl => ?_⟩, Or.inr ⟨by omega, ?_⟩⟩ kq
             · by_cases hkk : k = K + 1
               · subst hkk
                 exact ⟨_, _, (I2.skip NR ho I4' I3.1 I3.2).congr NR ho (fun _ _ _ => rfl) (fun _ _ _ => rfl) (fun s z0 z1 => v14 s z0 (by omega))⟩
               · obtain ⟨f, y, z⟩ := I1 k (by omega)
                 exact ⟨f, y, by rw [u14 k (by omega) hkk]; exact z⟩
             · exact (I2.skip NR ho I4' I3.1 I3.2).congr NR ho (fun s _ _ => congrFun u29 s) (fun s z0 z1 => v22 s z0 (by omega)) (fun s z0 z1 => v14 s z0 (by omega))
             · rw [v14 s z0 (by omega), u29]; exact I3.1 s z0 z1
             · have b9 := N.2.1 _ _ _ hw
               rw [u29] at hl ⊢
               rw [v14 s b9.2.1.1 (by omega)]
               exact I3.2 _ _ _ hw hl
             · exact I4'.congr NR (fun s _ _ => congrFun u29 s) (fun s z0 z1 => v22 s z0 (by omega)))
      · refine wp_aload_n d_80_97 (by rfl) ?_
        refine wp_aload_n d_80_98 (by rfl) ?_
        refine wp_aload_n d_80_99 (by rfl) ?_
        refine wp_getR (1) d_80_100 fl_9_16 rfl rfl (by first | assumption | (simp only [kd_cpI]; assumption)) (by first | assumption | (simp only [hr_cpI]; assumption)) ?_
        refine wp_iload d_80_103 (by rfl) ?_
        refine wp_iconst d_80_105 ?_
        refine wp_isub d_80_106 ?_
        refine wp_aald d_80_107 (by first | omega | (simp only [kd_setI, kd_cpI]; omega)) (by first | omega | (simp only [kd_setI, kd_cpI]; omega)) (by apply isRf_of; assumption; rfl) (by first | omega | (simp only [ln_cpI]; omega)) (by first | omega | (simp only [ln_cpI]; omega)) (by first | assumption | (simp only [hr_cpI]; assumption)) ?_
        refine wp_callV d_80_108 c_80_52 rfl (by rfl) (by rfl) ⟨9, rfl, rfl, by decide⟩ (by first | assumption | (simp only [kd_cpI]; assumption)) (by exact Nat.le_of_ble_eq_true rfl) (by exact Nat.le_of_ble_eq_true rfl) (s_ride hS1 (hT0.kept E2.fm PSoff) (Rc.kept hT0 hR0 E2.fm PSoff (fun a z y => by unfold PS at z; omega) (fun a z => z.elim)).2 (by omega) (by rw [E2.2.2.2.2.2.2.2.1 _ _ (by unfold PS; omega)]; omega)) (fun v_108 h_108 q_108 => ?_) (fun _ _ q => q.elim)
        obtain ⟨b1, rfl, E3, J1, J2⟩ := q_108
        have gE : ch (PS w) nP hc h_108 := E2.trans (E3.mono (fun x z => by unfold PS; omega) (fun x z => z))
        have hS2 := hS0.ch gE hT0
        have hT2 := hT0.kept gE.fm PSoff
        have rcK := (Rc.kept hT0 hR0 E2.fm PSoff (fun a z y => by unfold PS at z; omega) (fun a z => z.elim)).1
        have nK : hi g (w + 1) 4 = hi hc (w + 1) 4 := E2.2.2.2.2.2.2.2.1 _ _ (by unfold PS; omega)
        have lK : hi g (w + 12) 3 = hi hc (w + 12) 3 := E2.2.2.2.2.2.2.2.1 _ _ (by unfold PS; omega)
        rw [rcK, nK, lK, u22, u29] at J1
        rw [nK, u29] at J2
        have bE := I2.bd NR ho hT.1 hT.2 (by omega)
        have bF : Bd (hi hc (w + 1) 4) (hi h_108 (w + 29)) := J1.bd NR bE.1
        have nK2 : hi h_108 (w + 1) 4 = hi hc (w + 1) 4 := gE.2.2.2.2.2.2.2.1 _ _ (by unfold PS; omega)
        have cK2 : hi h_108 (w + 2) = hi hc (w + 2) := funext fun x => gE.2.2.2.2.2.2.2.1 _ _ (by unfold PS; omega)
        have w14 : ∀ s, 0 ≤ s → s < 16 → hi h_108 (w + 14 + (K + 1)) s = hi h (w + 14 + K) s := fun s z1 z2 => (E3.2.2.2.2.2.2.2.1 _ _ (by omega)).trans (v14 s z1 z2)
        have w22 : ∀ s, 0 ≤ s → s < 16 → hi h_108 (w + 22 + (K + 1)) s = hi h (w + 22 + K) s := fun s z1 z2 => (E3.2.2.2.2.2.2.2.1 _ _ (by omega)).trans (v22 s z1 z2)
        have kob2 : kd h_108 (w + 12) = 10 := hS2.2.2.2.1.1
        refine wp_istore d_80_111 (by decide) ?_
        refine wp_aload_n d_80_113 (by rfl) ?_
        refine wp_aload_n d_80_114 (by rfl) ?_
        refine wp_iload d_80_115 (by rfl) ?_
        refine wp_callV d_80_117 c_80_56 rfl (by rfl) (by rfl) ⟨9, rfl, rfl, by decide⟩ (by first | assumption | (simp only [kd_cpI]; assumption)) (by exact Nat.le_of_ble_eq_true rfl) (by exact Nat.le_of_ble_eq_true rfl) (s_alight (K := K + 1) hS2 hT2 (by omega) (by rw [nK2]; exact bF)) (fun v_117 h_117 q_117 => ?_) (fun _ _ q => q.elim)
        obtain ⟨rfl, E4, J3⟩ := q_117
        have E4p : ch (PS w) nP h_108 h_117 := E4.mono (fun x z => by unfold PW at z; unfold PS; omega) (fun x z => z)
        have gE4 := gE.trans E4p
        have hS3 := hS0.ch gE4 hT0
        have hT3 := hT0.kept gE4.fm PSoff
        have f4 : hi h_117 (w + 29) = hi h_108 (w + 29) := funext fun x => E4.2.2.2.2.2.2.2.1 _ _ (by unfold PW; omega)
        have nK3 : hi h_117 (w + 1) 4 = hi hc (w + 1) 4 := gE4.2.2.2.2.2.2.2.1 _ _ (by unfold PS; omega)
        have lK3 : hi h_117 (w + 12) 3 = hi hc (w + 12) 3 := gE4.2.2.2.2.2.2.2.1 _ _ (by unfold PS; omega)
        have wyK3 := Wy.kept hT0 gE4.fm PSoff
        have kob3 : kd h_117 (w + 12) = 10 := hS3.2.2.2.1.1
        rw [nK2, cK2] at J3
        refine wp_aload_n d_80_120 (by rfl) ?_
        refine wp_aload_n d_80_121 (by rfl) ?_
        refine wp_iload d_80_122 (by rfl) ?_
        refine wp_callV d_80_124 c_80_42 rfl (by rfl) (by rfl) ⟨9, rfl, rfl, by decide⟩ (by first | assumption | (simp only [kd_cpI]; assumption)) (by exact Nat.le_of_ble_eq_true rfl) (by exact Nat.le_of_ble_eq_true rfl) (s_walk (K := K + 1) hS3 hT3 (by omega) (by rw [nK3, f4]; exact bF)) (fun v_124 h_124 q_124 => ?_) (fun _ _ q => q.elim)
        obtain ⟨rfl, E5, J4, J5⟩ := q_124
        have E5p : ch (PS w) nP h_117 h_124 := E5.mono (fun x z => by unfold PW at z; unfold PS; omega) (fun x z => z)
        have gE5 := gE4.trans E5p
        rw [nK3, lK3, wyK3, f4] at J4 J5
        have f5 : hi h_124 (w + 29) = hi h_108 (w + 29) := (funext fun x => E5.2.2.2.2.2.2.2.1 _ _ (by unfold PW; omega)).trans f4
        have X9 := I2.round NR ho (by omega) hT.2 J1 (fun s z0 z1 => by rw [(J3 s z0 (by omega)).2, if_pos z1, w22 s z0 (by omega)]) (fun s z0 z1 => by rw [(J3 s z0 (by omega)).1, if_pos z1, w14 s z0 (by omega)]) J5 J4
        refine wp_iinc d_80_127 (by rfl) (by decide) ?_
        refine wp_goto (tgt := 39) d_80_130 (by decide) ?_
        first
          | (have gb1 : b1 = 0 ∨ b1 = 1 := by rcases J2 with z | z <;> omega
             refine wp_to [some (vR (some (w + 12))), some (vR (some (w + 1))), some (vR (some (w + 6))), none, none, none, some (vI b1), some (vI (((K + 1 : Nat) : Int) + 1))] ⟨rfl, rfl, rfl, rfl, rfl, trivial⟩ ?_
             refine ih (K + 1) b1 _ (by omega) ⟨gE5, fun k hk => ?_, ?_, ⟨fun s z0 z1 => ?_, fun s' s m hw hl => ?_⟩, ?_⟩ kq
             · by_cases hkk : k = K + 1
               · subst hkk
                 exact ⟨_, _, X9.1⟩
               · obtain ⟨f, y, z⟩ := I1 k (by omega)
                 have zz : hi h_124 (w + 14 + k) = hi h (w + 14 + k) := funext fun x => (E5.2.2.2.2.2.2.2.1 _ _ (by unfold PW; omega)).trans ((E4.2.2.2.2.2.2.2.1 _ _ (by unfold PW; omega)).trans ((E3.2.2.2.2.2.2.2.1 _ _ (by omega)).trans (congrFun (u14 k (by omega) hkk) x)))
                 exact ⟨f, y, by rw [zz]; exact z⟩
             · rw [f5]; exact X9.1
             · rw [f5]
               have := (J4.1 s z0 z1).1
               rw [(J3 s z0 (by omega)).1, if_pos z1] at this
               omega
             · rw [f5] at hl ⊢
               exact J4.2 _ _ _ hw hl
             · rcases J2 with ⟨z1, z2⟩ | z1
               · exact Or.inr ⟨z1, by rw [f5]; exact X9.2 z2⟩
               · exact Or.inl z1)
          | (refine wp_to [some (vR (some (w + 12))), some (vR (some (w + 1))), some (vR (some (w + 6))), none, none, none, some (vI b), some (vI (((K + 1 : Nat) : Int) + 1))] ⟨rfl, rfl, rfl, rfl, rfl, trivial⟩ ?_
             have I4' : Closed (Rc hc w) (hi hc (w + 12) 3) (hi h (w + 29)) (hi h (w + 22 + K)) := by
               rcases I4 with z | z
               · omega
               · exact z.2
             refine ih (K + 1) b _ (by omega) ⟨E2, fun k hk => ?_, ?_, ⟨fun s z0 z1 => ?_, fun s' s m hw hl => ?_⟩, Or.inr ⟨by omega, ?_⟩⟩ kq
             · by_cases hkk : k = K + 1
               · subst hkk
                 exact ⟨_, _, (I2.skip NR ho I4' I3.1 I3.2).congr NR ho (fun _ _ _ => rfl) (fun _ _ _ => rfl) (fun s z0 z1 => v14 s z0 (by omega))⟩
               · obtain ⟨f, y, z⟩ := I1 k (by omega)
                 exact ⟨f, y, by rw [u14 k (by omega) hkk]; exact z⟩
             · exact (I2.skip NR ho I4' I3.1 I3.2).congr NR ho (fun s _ _ => congrFun u29 s) (fun s z0 z1 => v22 s z0 (by omega)) (fun s z0 z1 => v14 s z0 (by omega))
             · rw [v14 s z0 (by omega), u29]; exact I3.1 s z0 z1
             · have b9 := N.2.1 _ _ _ hw
               rw [u29] at hl ⊢
               rw [v14 s b9.2.1.1 (by omega)]
               exact I3.2 _ _ _ hw hl
             · exact I4'.congr NR (fun s _ _ => congrFun u29 s) (fun s z0 z1 => v22 s z0 (by omega)))
