/-! ===== the trace, whole ===== -/
theorem TT.cheap {h : Hp} {w X : Nat} (hT : TT h w X) : ∀ r, Ra h w r → rp r ≤ 500 := by
  rintro r ⟨t, a, d, z0, z1, z2, z3, rfl⟩
  obtain ⟨a', c, g1, g2, g3, gT, -⟩ := hT.2.2.2.2.2.1 t z0 z1
  cases z2.symm.trans g1
  exact gT.2.2.2.2.2.2.2.2
section TRJ
variable {h0 h h' : Hp} {w X : Nat} {o d T D : Int} {K left n : Nat}
theorem TrI.fare (hT : TT h0 w X) (kn : Kn h0 w o d T D K) (q : TrI h0 h w o d T D K left n) : 0 ≤ hi h (w + 146) 13 ∧ hi h (w + 146) 13 ≤ 1000000 := by
  have NA := hT.net
  have hK := kn.2.2.2.2.1
  obtain ⟨-, -, -, -, -, -, -, q⟩ := q
  rcases q with ⟨-, -, z, -⟩ | ⟨-, -, -, q1, -⟩ | ⟨-, -, -, s', t', m, q1, -⟩
  · omega
  · have g := (JA.ge NA kn.2.1 _ _ _ _ q1).2
    have := JA.cheap hT.cheap _ _ _ _ q1
    omega
  · have g := (JA.ge NA kn.2.1 _ _ _ _ q1).2
    have := JA.cheap hT.cheap _ _ _ _ q1
    omega
theorem TrI.top (hK : K ≤ 6) (q : TrI h0 h w o d T D K left n) (hn : n = 13) : left = 0 ∧ spJ h w n = d := by
  obtain ⟨-, -, hl, -, -, -, -, q⟩ := q
  rcases q with ⟨z, -⟩ | ⟨-, -, z, -⟩ | ⟨-, -, z, s', t', m, -, -, -, q⟩
  · omega
  · omega
  · have y : left = 0 := by omega
    subst y
    exact ⟨rfl, q.elim (fun y => y.1) (fun y => False.elim y)⟩
theorem TrI.start (kn : Kn h0 w o d T D K) (hs : OS (hi h0 (w + 2)) (Wy h0 w) (Rc h0 w) d D K o T) (f1 : hi h0 (w + 146) 1 = o) (f2 : hi h0 (w + 146) 2 = d) (f3 : hi h0 (w + 146) 3 = T) (f4 : hi h0 (w + 146) 4 = 0) (f5 : hi h0 (w + 146) 12 = -1) (f6 : hi h0 (w + 146) 13 = 0) : TrI h0 h0 w o d T D K K 0 :=
  ⟨ch.rfl, f4, Nat.le_refl _, fun k z0 z1 => by omega, by show (0 : Int) = _; omega, by omega, ⟨f1, f2, f3⟩, Or.inl ⟨rfl, rfl, f6, hs⟩⟩
/-- what is found -/
theorem TrI.fin (hT : TT h0 w X) (kn : Kn h0 w o d T D K) (q : TrI h0 h w o d T D K 0 n) (hd : spJ h w n = d) : JE (hi h0 (w + 2)) (Wy h0 w) (Ra h0 w) o T (T + 2880) K d D (hi h (w + 146) 13) ∧ tmJ h w n = D := by
  obtain ⟨g1, g2, -⟩ := q.time hT kn
  have tl := kn.2.2.2.1
  have key : JE (hi h0 (w + 2)) (Wy h0 w) (Ra h0 w) o T (T + 2880) K d (tmJ h w n) (hi h (w + 146) 13) := by
    obtain ⟨-, -, hl, -, -, -, ⟨e1, e2, e3⟩, q⟩ := q
    rcases q with ⟨rfl, z1, z2, -⟩ | ⟨-, -, -, q1, -⟩ | ⟨-, -, -, s', t', m, q1, q2, q3, -⟩
    · subst z1
      have y1 : tmJ h w ((0 : Nat) : Int) = T := by unfold tmJ; rw [if_pos (by omega)]; exact e3
      have y2 : spJ h w ((0 : Nat) : Int) = o := by unfold spJ; rw [if_pos (by omega)]; exact e1
      rw [y1]
      exact Or.inl ⟨hd.symm.trans y2, rfl, z2⟩
    · rw [hd] at q1
      exact Or.inl q1
    · rw [hd] at q2
      exact Or.inr ⟨s', t', m, q1, q2, q3, by omega⟩
  have := kn.2.2.2.2.2.1 _ _ key
  have e : tmJ h w n = D := by omega
  rw [e] at key
  exact ⟨key, e⟩
end TRJ
set_option maxRecDepth 100000 in
set_option maxHeartbeats 4000000 in
theorem l_traceE {w n K : Nat} {d : Int} {h : Hp} (hS : Sk h w) (hz : szJ h w = n) (hn : n ≤ 13) (hd : hi h (w + 146) 2 = d) (hdr : 0 ≤ d ∧ d < 16) (hsp : spJ h w n = d) {Q : Option AV → Hp → Prop} (k : Q none (setI h (w + 146) 0 1)) : wp 60 71 [some (vR (some (w + 146))), some (vR (some (w + 1))), some (vR (some (w + 6))), some (vR (some (w + 30))), some (vI (K : Int)), some (vI (((0 : Nat) : Int))), some (vI ((n : Int)))] [] h Q noX := by
  have hS9 := hS
  obtain ⟨⟨k1, k2, k3, k4, k5, k6, k7⟩, ⟨n1, ⟨n2, n3, n4, n5⟩, ⟨n6, n7⟩, ⟨n8, n9⟩, ⟨n10, n11⟩, n12, n13⟩, ⟨m1, ⟨m2, m3, m4⟩, ⟨m5, m6⟩, ⟨m7, m8⟩, m9, m10⟩, ⟨o1, ⟨o2, o3, o4⟩, ⟨o5, o6, o7⟩, ⟨o8, o9, o10⟩, o11, o12⟩, ⟨b1, ⟨b2, b3⟩, ⟨b4, b5, b6⟩, b7, b8, b9⟩, ⟨j1, ⟨j2, j3, j4, j5, j6, j7, j8⟩, ⟨j9, j10⟩, j11⟩⟩ := hS
  have sz0 : szJ h w = hi h (w + 146) 4 := rfl
  have e1 : spJ h w (szJ h w) = d := by rw [hz]; exact hsp
  refine wp_aload_n d_60_71 (by rfl) ?_
  refine wp_iload d_60_72 (by rfl) ?_
  refine wp_if_ne (tgt := 92) d_60_74 (by decide) (by omega) (fun c_74 => ?_) (fun c_74 => ?_)
  · exact absurd c_74 (by omega)
  refine wp_aload_n d_60_77 (by rfl) ?_
  refine wp_callV d_60_78 c_60_59 rfl (by rfl) (by rfl) ⟨6, rfl, rfl, by decide⟩ (by assumption) (by exact Nat.le_of_ble_eq_true rfl) (by exact Nat.le_of_ble_eq_true rfl) (s_stopNow hS9 ⟨by omega, by omega⟩) (fun v_78 h_78 q_78 => ?_) (fun _ _ q => q.elim)
  obtain ⟨rfl, z_78⟩ := q_78
  replace z_78 := z_78.symm
  subst z_78
  refine wp_aload_n d_60_81 (by rfl) ?_
  refine wp_getI (2) d_60_82 fl_6_44 rfl rfl (by assumption) (fun x_82 e_82 r_82 => ?_)
  subst e_82
  refine wp_icmp_ne (tgt := 92) d_60_85 (by decide) (by omega) (by omega) (fun c_85 => ?_) (fun c_85 => ?_)
  · exact absurd c_85 (by omega)
  refine wp_iconst d_60_88 ?_
  refine wp_goto (tgt := 93) d_60_89 (by decide) ?_
  refine wp_putI (0) d_60_93 fl_6_36 rfl rfl (Or.inl (by rfl)) (by assumption) (by omega) (fun _ => by omega) ?_
  refine wp_vret d_60_96 rfl ?_
  exact k
set_option maxRecDepth 100000 in
set_option maxHeartbeats 4000000 in
theorem l_traceW {w X : Nat} {o d T D : Int} {K : Nat} {h0 : Hp} (hS0 : Sk h0 w) (hT0 : TT h0 w X) (kn : Kn h0 w o d T D K) {left n : Nat} {h : Hp} (I : TrI h0 h w o d T D K left n) (hn : n < 13) (hr : ∀ m, left = m + 1 → ∀ r, Rc h w r → NoR h w m r) (hne : ¬ (left = 0 ∧ spJ h w n = d)) {Q : Option AV → Hp → Prop} (kN : ∀ h', TrI h0 h' w o d T D K left (n + 1) → wp 60 7 [some (vR (some (w + 146))), some (vR (some (w + 1))), some (vR (some (w + 6))), some (vR (some (w + 30))), some (vI (K : Int)), some (vI ((left : Int))), some (vI (((n + 1 : Nat) : Int)))] [] h' Q noX) : wp 60 53 [some (vR (some (w + 146))), some (vR (some (w + 1))), some (vR (some (w + 6))), some (vR (some (w + 30))), some (vI (K : Int)), some (vI ((left : Int))), some (vI ((n : Int)))] [] h Q noX := by
  have E := I.1
  have hX := hT0.2.2.2.2.2.2
  have hS := SkG hS0 (by omega) E
  have hS9 := hS
  have hTh := hT0.kept E.fm PJoff
  have tI := I.time hT0 kn
  have fI := I.fare hT0 kn
  have szn := I.2.1
  have sz0 : szJ h w = hi h (w + 146) 4 := rfl
  have tl := kn.2.2.2.1
  have hK := kn.2.2.2.2.1
  have hl := I.2.2.1
  have hn16 := hT0.1
  have en : hi h (w + 1) 4 = hi h0 (w + 1) 4 := E.2.2.2.2.2.2.2.1 _ _ (by unfold PJ; omega)
  have hsp : 0 ≤ spJ h w (szJ h w) ∧ spJ h w (szJ h w) < hi h (w + 1) 4 := by rw [szn, en]; exact tI.2.2
  have htm : 0 ≤ tmJ h w (szJ h w) ∧ tmJ h w (szJ h w) ≤ 1000000 := by rw [szn]; exact ⟨by omega, by omega⟩
  have db : dlB h w = D := (E.2.2.2.2.2.2.2.1 _ _ (by unfold PJ; omega)).trans kn.2.2.2.2.2.2.2.1.2
  have e32 : hi h (w + 32 + left) = hi h0 (w + 32 + left) := funext fun x => E.2.2.2.2.2.2.2.1 _ _ (by unfold PJ; omega)
  have hbb : Bb (hi h (w + 1) 4) (hi h (w + 32 + left)) := by rw [en, e32]; exact (kn.2.2.2.2.2.2.2.2 left hl).2.2
  obtain ⟨⟨k1, k2, k3, k4, k5, k6, k7⟩, ⟨n1, ⟨n2, n3, n4, n5⟩, ⟨n6, n7⟩, ⟨n8, n9⟩, ⟨n10, n11⟩, n12, n13⟩, ⟨m1, ⟨m2, m3, m4⟩, ⟨m5, m6⟩, ⟨m7, m8⟩, m9, m10⟩, ⟨o1, ⟨o2, o3, o4⟩, ⟨o5, o6, o7⟩, ⟨o8, o9, o10⟩, o11, o12⟩, ⟨b1, ⟨b2, b3⟩, ⟨b4, b5, b6⟩, b7, b8, b9⟩, ⟨j1, ⟨j2, j3, j4, j5, j6, j7, j8⟩, ⟨j9, j10⟩, j11⟩⟩ := hS
  refine wp_aload_n d_60_53 (by rfl) ?_
  refine wp_aload_n d_60_54 (by rfl) ?_
  refine wp_aload_n d_60_55 (by rfl) ?_
  refine wp_iload d_60_56 (by rfl) ?_
  refine wp_callV d_60_58 c_60_67 rfl (by rfl) (by rfl) ⟨6, rfl, rfl, by decide⟩ (by assumption) (by exact Nat.le_of_ble_eq_true rfl) (by exact Nat.le_of_ble_eq_true rfl) (s_takeWalk hS9 hTh ⟨by omega, by omega⟩ hsp htm (by omega) ⟨by omega, by omega⟩ hbb) (fun v_58 h_58 q_58 => ?_) (fun _ _ q => q.elim)
  obtain ⟨z_58, rfl, u_58⟩ := q_58
  have zz_58 : z_58 = 0 ∨ z_58 = 1 := by rcases u_58 with ⟨y, -⟩ | ⟨y, -⟩ <;> omega
  refine wp_if_ne (tgt := 65) d_60_61 (by decide) (by omega) (fun c_61 => ?_) (fun c_61 => ?_)
  · refine wp_iinc d_60_65 (by rfl) (by decide) ?_
    refine wp_goto (tgt := 7) d_60_68 (by decide) ?_
    rcases u_58 with ⟨-, y⟩ | ⟨y, -⟩
    · refine wp_to [some (vR (some (w + 146))), some (vR (some (w + 1))), some (vR (some (w + 6))), some (vR (some (w + 30))), some (vI (K : Int)), some (vI ((left : Int))), some (vI (((n + 1 : Nat) : Int)))] ⟨rfl, rfl, rfl, rfl, rfl, rfl, rfl, trivial⟩ ?_
      exact kN _ (I.walk hT0 kn y)
    · exact absurd y (by omega)
  · refine wp_vret d_60_64 rfl ?_
    exfalso
    rcases u_58 with ⟨y, -⟩ | ⟨y, -, hw⟩
    · omega
    · exact hne (I.must hT0 kn hr hw)
set_option maxRecDepth 100000 in
set_option maxHeartbeats 4000000 in
theorem l_traceR {w X : Nat} {o d T D : Int} {K : Nat} {h0 : Hp} (hS0 : Sk h0 w) (hT0 : TT h0 w X) (kn : Kn h0 w o d T D K) {m n : Nat} {h : Hp} (I : TrI h0 h w o d T D K (m + 1) n) (hn : n < 13) {Q : Option AV → Hp → Prop} (kR : ∀ h', TrI h0 h' w o d T D K m (n + 1) → wp 60 7 [some (vR (some (w + 146))), some (vR (some (w + 1))), some (vR (some (w + 6))), some (vR (some (w + 30))), some (vI (K : Int)), some (vI ((m : Int))), some (vI (((n + 1 : Nat) : Int)))] [] h' Q noX) (kW : ∀ h', TrI h0 h' w o d T D K (m + 1) (n + 1) → wp 60 7 [some (vR (some (w + 146))), some (vR (some (w + 1))), some (vR (some (w + 6))), some (vR (some (w + 30))), some (vI (K : Int)), some (vI (((m + 1 : Nat) : Int))), some (vI (((n + 1 : Nat) : Int)))] [] h' Q noX) : wp 60 30 [some (vR (some (w + 146))), some (vR (some (w + 1))), some (vR (some (w + 6))), some (vR (some (w + 30))), some (vI (K : Int)), some (vI ((m : Int) + 1)), some (vI ((n : Int)))] [] h Q noX := by
  have E := I.1
  have hX := hT0.2.2.2.2.2.2
  have hS := SkG hS0 (by omega) E
  have hS9 := hS
  have hTh := hT0.kept E.fm PJoff
  have tI := I.time hT0 kn
  have fI := I.fare hT0 kn
  have szn := I.2.1
  have sz0 : szJ h w = hi h (w + 146) 4 := rfl
  have tl := kn.2.2.2.1
  have hK := kn.2.2.2.2.1
  have hl := I.2.2.1
  have hn16 := hT0.1
  have en : hi h (w + 1) 4 = hi h0 (w + 1) 4 := E.2.2.2.2.2.2.2.1 _ _ (by unfold PJ; omega)
  have hsp : 0 ≤ spJ h w (szJ h w) ∧ spJ h w (szJ h w) < hi h (w + 1) 4 := by rw [szn, en]; exact tI.2.2
  have htm : 0 ≤ tmJ h w (szJ h w) ∧ tmJ h w (szJ h w) ≤ 1000000 := by rw [szn]; exact ⟨by omega, by omega⟩
  have hRh := (Rc.kept hT0 kn.1 E.fm PJoff (fun a z y => by unfold PJ at z; omega) (fun a z y => by unfold PJR at z; omega)).2
  obtain ⟨⟨k1, k2, k3, k4, k5, k6, k7⟩, ⟨n1, ⟨n2, n3, n4, n5⟩, ⟨n6, n7⟩, ⟨n8, n9⟩, ⟨n10, n11⟩, n12, n13⟩, ⟨m1, ⟨m2, m3, m4⟩, ⟨m5, m6⟩, ⟨m7, m8⟩, m9, m10⟩, ⟨o1, ⟨o2, o3, o4⟩, ⟨o5, o6, o7⟩, ⟨o8, o9, o10⟩, o11, o12⟩, ⟨b1, ⟨b2, b3⟩, ⟨b4, b5, b6⟩, b7, b8, b9⟩, ⟨j1, ⟨j2, j3, j4, j5, j6, j7, j8⟩, ⟨j9, j10⟩, j11⟩⟩ := hS
  refine wp_iload d_60_30 (by rfl) ?_
  refine wp_if_le (tgt := 53) d_60_32 (by decide) (by omega) (fun c_32 => ?_) (fun c_32 => ?_)
  · exact absurd c_32 (by omega)
  refine wp_aload_n d_60_35 (by rfl) ?_
  refine wp_aload_n d_60_36 (by rfl) ?_
  refine wp_aload_n d_60_37 (by rfl) ?_
  refine wp_aload_n d_60_38 (by rfl) ?_
  refine wp_iload d_60_39 (by rfl) ?_
  refine wp_callV d_60_41 c_60_63 rfl (by rfl) (by rfl) ⟨6, rfl, rfl, by decide⟩ (by assumption) (by exact Nat.le_of_ble_eq_true rfl) (by exact Nat.le_of_ble_eq_true rfl) (s_takeRide hS9 hTh hRh ⟨by omega, by omega⟩ hsp htm I.2.2.2.2.2.1 fI (by omega)) (fun v_41 h_41 q_41 => ?_) (fun _ _ q => q.elim)
  obtain ⟨z_41, rfl, u_41⟩ := q_41
  have zz_41 : z_41 = 0 ∨ z_41 = 1 := by rcases u_41 with ⟨y, -⟩ | ⟨y, -⟩ <;> omega
  refine wp_if_eq (tgt := 53) d_60_44 (by decide) (by omega) (fun c_44 => ?_) (fun c_44 => ?_)
  · rcases u_41 with ⟨y, -⟩ | ⟨-, y, hr⟩
    · exfalso; omega
    · replace y := y.symm
      subst y
      refine wp_to [some (vR (some (w + 146))), some (vR (some (w + 1))), some (vR (some (w + 6))), some (vR (some (w + 30))), some (vI (K : Int)), some (vI (((m + 1 : Nat) : Int))), some (vI ((n : Int)))] ⟨rfl, rfl, rfl, rfl, rfl, rfl, rfl, trivial⟩ ?_
      exact l_traceW hS0 hT0 kn I hn (fun m' z => by obtain rfl : m' = m := by omega
                                                     exact hr) (fun z => by omega) kW
  · refine wp_iinc d_60_47 (by rfl) (by decide) ?_
    refine wp_goto (tgt := 65) d_60_50 (by decide) ?_
    refine wp_iinc d_60_65 (by rfl) (by decide) ?_
    refine wp_goto (tgt := 7) d_60_68 (by decide) ?_
    rcases u_41 with ⟨-, y⟩ | ⟨y, -⟩
    · refine wp_to [some (vR (some (w + 146))), some (vR (some (w + 1))), some (vR (some (w + 6))), some (vR (some (w + 30))), some (vI (K : Int)), some (vI ((m : Int))), some (vI (((n + 1 : Nat) : Int)))] ⟨rfl, rfl, rfl, rfl, rfl, congrArg (fun z => some (vI z)) (by omega : (m : Int) + 1 + -1 = m), rfl, trivial⟩ ?_
      exact kR _ (I.ride hT0 kn y)
    · exact absurd y (by omega)
set_option maxRecDepth 100000 in
set_option maxHeartbeats 4000000 in
theorem l_traceA {w X : Nat} {o d T D : Int} {K : Nat} {h0 : Hp} (hS0 : Sk h0 w) (hT0 : TT h0 w X) (kn : Kn h0 w o d T D K) {left n : Nat} {h : Hp} (I : TrI h0 h w o d T D K left n) (hn : n < 13) (hne : ¬ (left = 0 ∧ spJ h w n = d)) {Q : Option AV → Hp → Prop} (kA : ∀ left h', TrI h0 h' w o d T D K left (n + 1) → wp 60 7 [some (vR (some (w + 146))), some (vR (some (w + 1))), some (vR (some (w + 6))), some (vR (some (w + 30))), some (vI (K : Int)), some (vI ((left : Int))), some (vI (((n + 1 : Nat) : Int)))] [] h' Q noX) : wp 60 30 [some (vR (some (w + 146))), some (vR (some (w + 1))), some (vR (some (w + 6))), some (vR (some (w + 30))), some (vI (K : Int)), some (vI ((left : Int))), some (vI ((n : Int)))] [] h Q noX := by
  cases left with
  | zero =>
    refine wp_iload d_60_30 (by rfl) ?_
    refine wp_if_le (tgt := 53) d_60_32 (by decide) (by omega) (fun c_32 => ?_) (fun c_32 => ?_)
    rotate_left
    · exact absurd c_32 (by omega)
    exact l_traceW hS0 hT0 kn I hn (fun m z => by omega) hne (kA 0)
  | succ m =>
    refine wp_to [some (vR (some (w + 146))), some (vR (some (w + 1))), some (vR (some (w + 6))), some (vR (some (w + 30))), some (vI (K : Int)), some (vI ((m : Int) + 1)), some (vI ((n : Int)))] ⟨rfl, rfl, rfl, rfl, rfl, rfl, rfl, trivial⟩ ?_
    exact l_traceR hS0 hT0 kn I hn (kA m) (kA (m + 1))
set_option maxRecDepth 100000 in
set_option maxHeartbeats 4000000 in
theorem l_trace {w X : Nat} {o d T D : Int} {K : Nat} {h0 : Hp} (hS0 : Sk h0 w) (hT0 : TT h0 w X) (kn : Kn h0 w o d T D K) {Q : Option AV → Hp → Prop} (kq : ∀ h n, TrI h0 h w o d T D K 0 n → spJ h w n = d → n ≤ 13 → Q none (setI h (w + 146) 0 1)) : ∀ (mm n left : Nat) (h : Hp), n + mm = 13 → TrI h0 h w o d T D K left n → wp 60 7 [some (vR (some (w + 146))), some (vR (some (w + 1))), some (vR (some (w + 6))), some (vR (some (w + 30))), some (vI (K : Int)), some (vI ((left : Int))), some (vI ((n : Int)))] [] h Q noX := by
  intro mm
  induction mm with
  | zero =>
    intro n left h e0 I
    have E := I.1
    have hX := hT0.2.2.2.2.2.2
    have hS := SkG hS0 (by omega) E
    have hS9 := hS
    have hTh := hT0.kept E.fm PJoff
    have tI := I.time hT0 kn
    have fI := I.fare hT0 kn
    have szn := I.2.1
    have sz0 : szJ h w = hi h (w + 146) 4 := rfl
    have tl := kn.2.2.2.1
    have hK := kn.2.2.2.2.1
    have hl := I.2.2.1
    have hn16 := hT0.1
    have en : hi h (w + 1) 4 = hi h0 (w + 1) 4 := E.2.2.2.2.2.2.2.1 _ _ (by unfold PJ; omega)
    have hsp : 0 ≤ spJ h w (szJ h w) ∧ spJ h w (szJ h w) < hi h (w + 1) 4 := by rw [szn, en]; exact tI.2.2
    have htm : 0 ≤ tmJ h w (szJ h w) ∧ tmJ h w (szJ h w) ≤ 1000000 := by rw [szn]; exact ⟨by omega, by omega⟩
    have hdr := kn.2.2.1
    have gE := fun (y1 : left = 0) (y2 : spJ h w n = d) => l_traceE (K := K) (Q := Q) hS9 szn (by omega) I.2.2.2.2.2.2.1.2.1 ⟨by omega, by omega⟩ y2 (kq h n (by rw [← y1]; exact I) y2 (by omega))
    refine wp_iload d_60_7 (by rfl) ?_
    refine wp_bipush d_60_9 (by decide) ?_
    refine wp_icmp_ge (tgt := 71) d_60_11 (by decide) (by omega) (by omega) (fun c_11 => ?_) (fun c_11 => ?_)
    rotate_left
    · exact absurd c_11 (by omega)
    obtain ⟨y1, y2⟩ := I.top hK (by omega)
    refine wp_to [some (vR (some (w + 146))), some (vR (some (w + 1))), some (vR (some (w + 6))), some (vR (some (w + 30))), some (vI (K : Int)), some (vI (((0 : Nat) : Int))), some (vI ((n : Int)))] ⟨rfl, rfl, rfl, rfl, rfl, congrArg (fun z => some (vI z)) (by omega : (left : Int) = ((0 : Nat) : Int)), rfl, trivial⟩ ?_
    exact gE y1 y2
  | succ mm ih =>
    intro n left h e0 I
    have E := I.1
    have hX := hT0.2.2.2.2.2.2
    have hS := SkG hS0 (by omega) E
    have hS9 := hS
    have hTh := hT0.kept E.fm PJoff
    have tI := I.time hT0 kn
    have fI := I.fare hT0 kn
    have szn := I.2.1
    have sz0 : szJ h w = hi h (w + 146) 4 := rfl
    have tl := kn.2.2.2.1
    have hK := kn.2.2.2.2.1
    have hl := I.2.2.1
    have hn16 := hT0.1
    have en : hi h (w + 1) 4 = hi h0 (w + 1) 4 := E.2.2.2.2.2.2.2.1 _ _ (by unfold PJ; omega)
    have hsp : 0 ≤ spJ h w (szJ h w) ∧ spJ h w (szJ h w) < hi h (w + 1) 4 := by rw [szn, en]; exact tI.2.2
    have htm : 0 ≤ tmJ h w (szJ h w) ∧ tmJ h w (szJ h w) ≤ 1000000 := by rw [szn]; exact ⟨by omega, by omega⟩
    have hdr := kn.2.2.1
    have gE := fun (y1 : left = 0) (y2 : spJ h w n = d) => l_traceE (K := K) (Q := Q) hS9 szn (by omega) I.2.2.2.2.2.2.1.2.1 ⟨by omega, by omega⟩ y2 (kq h n (by rw [← y1]; exact I) y2 (by omega))
    have f2 : hi h (w + 146) 2 = d := I.2.2.2.2.2.2.1.2.1
    have e5 : spJ h w (szJ h w) = spJ h w n := by rw [szn]
    obtain ⟨⟨k1, k2, k3, k4, k5, k6, k7⟩, ⟨n1, ⟨n2, n3, n4, n5⟩, ⟨n6, n7⟩, ⟨n8, n9⟩, ⟨n10, n11⟩, n12, n13⟩, ⟨m1, ⟨m2, m3, m4⟩, ⟨m5, m6⟩, ⟨m7, m8⟩, m9, m10⟩, ⟨o1, ⟨o2, o3, o4⟩, ⟨o5, o6, o7⟩, ⟨o8, o9, o10⟩, o11, o12⟩, ⟨b1, ⟨b2, b3⟩, ⟨b4, b5, b6⟩, b7, b8, b9⟩, ⟨j1, ⟨j2, j3, j4, j5, j6, j7, j8⟩, ⟨j9, j10⟩, j11⟩⟩ := hS
    refine wp_iload d_60_7 (by rfl) ?_
    refine wp_bipush d_60_9 (by decide) ?_
    refine wp_icmp_ge (tgt := 71) d_60_11 (by decide) (by omega) (by omega) (fun c_11 => ?_) (fun c_11 => ?_)
    · exact absurd c_11 (by omega)
    refine wp_iload d_60_14 (by rfl) ?_
    refine wp_if_gt (tgt := 30) d_60_16 (by decide) (by omega) (fun c_16 => ?_) (fun c_16 => ?_)
    · refine wp_to [some (vR (some (w + 146))), some (vR (some (w + 1))), some (vR (some (w + 6))), some (vR (some (w + 30))), some (vI (K : Int)), some (vI ((left : Int))), some (vI ((n : Int)))] ⟨rfl, rfl, rfl, rfl, rfl, rfl, rfl, trivial⟩ ?_
      exact l_traceA hS0 hT0 kn I (by omega) (fun z => by omega) (fun left h' z => ih (n + 1) left h' (by omega) z)
    · refine wp_aload_n d_60_19 (by rfl) ?_
      refine wp_callV d_60_20 c_60_59 rfl (by rfl) (by rfl) ⟨6, rfl, rfl, by decide⟩ (by assumption) (by exact Nat.le_of_ble_eq_true rfl) (by exact Nat.le_of_ble_eq_true rfl) (s_stopNow hS9 ⟨by omega, by omega⟩) (fun v_20 h_20 q_20 => ?_) (fun _ _ q => q.elim)
      obtain ⟨rfl, z_20⟩ := q_20
      replace z_20 := z_20.symm
      subst z_20
      refine wp_aload_n d_60_23 (by rfl) ?_
      refine wp_getI (2) d_60_24 fl_6_44 rfl rfl (by assumption) (fun x_24 e_24 r_24 => ?_)
      subst e_24
      refine wp_icmp_eq (tgt := 71) d_60_27 (by decide) (by omega) (by omega) (fun c_27 => ?_) (fun c_27 => ?_)
      · refine wp_to [some (vR (some (w + 146))), some (vR (some (w + 1))), some (vR (some (w + 6))), some (vR (some (w + 30))), some (vI (K : Int)), some (vI (((0 : Nat) : Int))), some (vI ((n : Int)))] ⟨rfl, rfl, rfl, rfl, rfl, congrArg (fun z => some (vI z)) (by omega : (left : Int) = ((0 : Nat) : Int)), rfl, trivial⟩ ?_
        exact gE (by omega) (by omega)
      · refine wp_to [some (vR (some (w + 146))), some (vR (some (w + 1))), some (vR (some (w + 6))), some (vR (some (w + 30))), some (vI (K : Int)), some (vI ((left : Int))), some (vI ((n : Int)))] ⟨rfl, rfl, rfl, rfl, rfl, rfl, rfl, trivial⟩ ?_
        exact l_traceA hS0 hT0 kn I (by omega) (fun z => by omega) (fun left h' z => ih (n + 1) left h' (by omega) z)
set_option maxRecDepth 100000 in
set_option maxHeartbeats 4000000 in
theorem s_trace {w X : Nat} {o d T D : Int} {K : Nat} {h0 : Hp} (hS0 : Sk h0 w) (hT0 : TT h0 w X) (kn : Kn h0 w o d T D K) (I : TrI h0 h0 w o d T D K K 0) : wp 60 0 (entL [vR (some (w + 146)), vR (some (w + 1)), vR (some (w + 6)), vR (some (w + 30)), vI (K : Int)] (mL 60)) [] h0 (fun v h' => v = none ∧ ∃ h n, TrI h0 h w o d T D K 0 n ∧ spJ h w n = d ∧ n ≤ 13 ∧ h' = setI h (w + 146) 0 1) noX := by
  refine wp_iload d_60_0 (by rfl) ?_
  refine wp_istore d_60_2 (by decide) ?_
  refine wp_iconst d_60_4 ?_
  refine wp_istore d_60_5 (by decide) ?_
  refine wp_to [some (vR (some (w + 146))), some (vR (some (w + 1))), some (vR (some (w + 6))), some (vR (some (w + 30))), some (vI (K : Int)), some (vI ((K : Int))), some (vI (((0 : Nat) : Int)))] ⟨rfl, rfl, rfl, rfl, rfl, rfl, rfl, trivial⟩ ?_
  exact l_trace hS0 hT0 kn (fun h n z1 z2 z3 => ⟨rfl, h, n, z1, z2, z3, rfl⟩) 13 0 K h0 rfl I
