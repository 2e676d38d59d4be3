/-! ===== on foot, and off a ride ===== -/
section WKC
variable {n : Int} {c : Int → Int} {W : Int → Int → Int → Prop} {C : Int → Int → Int → Int → Prop} {L d : Int} {g g1 g2 : Int → Int → Int} {z z' s t P k : Int}
theorem WkE.congr (hn : ∀ q s' m, q < k → C q s s' m → 0 ≤ s' ∧ s' < n) (hg : ∀ s, 0 ≤ s → s < n → ∀ x, g2 s x = g1 s x) (q : WkE n C L d g g1 z z' s t P k) : WkE n C L d g g2 z z' s t P k := by
  obtain ⟨q1, q3, q4, q5⟩ := q
  refine ⟨q1, fun s' s0 s1 x => by rw [hg s' s0 s1 x]; exact q3 s' s0 s1 x, fun s' s0 s1 x x' hx => by rw [hg s' s0 s1 x, hg s' s0 s1 x']; exact q4 s' s0 s1 x x' hx, fun a s' m h0 h1 h2 => ?_⟩
  have b := hn a s' m h0 h1
  rw [hg s' b.1 b.2]
  exact q5 a s' m h0 h1 h2
theorem AlE.congr {R : Rn → Prop} (N : Net n c W R) (hs : 0 ≤ s ∧ s < n) (hg : ∀ s, 0 ≤ s → s < n → ∀ x, g2 s x = g1 s x) (q : AlE n c W L d g g1 z z' s t P) : AlE n c W L d g g2 z z' s t P := by
  obtain ⟨q1, q3, q4, q5⟩ := q
  exact ⟨q1, fun s' s0 s1 x => by rw [hg s' s0 s1 x]; exact q3 s' s0 s1 x, fun s' s0 s1 x x' hx => by rw [hg s' s0 s1 x, hg s' s0 s1 x']; exact q4 s' s0 s1 x x' hx, q5.mono N hs (fun s s0 s1 x => by rw [hg s s0 s1 x]; exact Int.le_refl _) (Int.le_refl _) (Int.le_refl _)⟩
end WKC
theorem FaT.self {h0 h : Hp} {w X g A B : Nat} {lo up : Int} (T : FaT h0 h w X g A B lo up) : FaT h h w X g A B lo up := ⟨T.1, T.2.1, fm.rfl, fun _ _ _ => rfl, ⟨rfl, rfl⟩, T.2.2.2.2.2⟩
set_option maxRecDepth 100000 in
set_option maxHeartbeats 4000000 in
theorem l_fwalk {w X g A B : Nat} {lo up d : Int} {hb : Hp} (hS0 : Sk hb w) (hT0 : TT hb w X) (hd : hi hb (w + 47) 2 = d) (hu : hi hb (w + 47) 3 = up) (hlu : 0 ≤ lo ∧ up ≤ 1000000 ∧ up - lo ≤ 2880) {s t P : Int} (ht : lo ≤ t ∧ t ≤ up) (hs : 0 ≤ s ∧ s < hi hb (w + 1) 4) (hP : 0 ≤ P ∧ P < 1000000000) {gs : Int → Int → Int} {zs : Int} {Q : Option AV → Hp → Prop} (kq : ∀ h b, FaT hb h w X g A B lo up → (b = 0 ∨ b = 1) → WkE (hi hb (w + 1) 4) (WyI hb w) up d gs (gF h w g) zs (hi h (w + 47) 4) s t P (hi hb (w + 1) 5) → (b = 0 → ∀ s', 0 ≤ s' → s' < 16 → ∀ x, gF h w g s' x = gs s' x) → Q (some (vI b)) h) : ∀ (m : Nat) (k b : Int) (h : Hp), k + m = hi hb (w + 1) 5 → 0 ≤ k → FaT hb h w X g A B lo up → (b = 0 ∨ b = 1) → WkE (hi hb (w + 1) 4) (WyI hb w) up d gs (gF h w g) zs (hi h (w + 47) 4) s t P k → (b = 0 → ∀ s', 0 ≤ s' → s' < 16 → ∀ x, gF h w g s' x = gs s' x) → wp 52 6 [some (vR (some (w + 47))), some (vR (some (w + 1))), some (vI s), some (vI t), some (vI P), some (vI (b)), some (vI (k)), none, none, none] [] h Q noX := by
  intro m
  have hN := hT0.net
  have hnn : ∀ q s' m, q < hi hb (w + 1) 5 → WyI hb w q s s' m → 0 ≤ s' ∧ s' < hi hb (w + 1) 4 := fun q s' m h0 h1 => (hN.2.1 _ _ _ (Wy_iff.mpr ⟨q, h0, h1⟩)).2.1
  induction m with
  | zero =>
    intro k b h e0 e1 T gb I J
    have E := T.2.2.1
    have hX := hT0.2.2.2.2.2.2
    have hn16 := hT0.1
    have hn5 := hT0.2.1
    have hS := hS0.kept E (PFaoff.pr hX.2) (by omega)
    have hS9 := hS
    have hTh := hT0.kept E PFaoff
    have en : hi h (w + 1) = hi hb (w + 1) := PFaoff.i E hX.1 (by omega) hX.2
    have e2 : hi h (w + 2) = hi hb (w + 2) := PFaoff.i E hX.1 (by omega) hX.2
    have en4 : hi h (w + 1) 4 = hi hb (w + 1) 4 := congrFun en 4
    have en5 : hi h (w + 1) 5 = hi hb (w + 1) 5 := congrFun en 5
    have t2 : hi h (w + 47) 2 = d := T.2.2.2.2.1.1.trans hd
    have t3 : hi h (w + 47) 3 = up := T.2.2.2.2.1.2.trans hu
    have t4 := T.2.2.2.2.2
    obtain ⟨f1, f2, f3, f4⟩ := T.1.1
    obtain ⟨⟨k1, k2, k3, k4, k5, k6, k7⟩, ⟨n1, ⟨n2, n3, n4, n5⟩, ⟨n6, n7⟩, ⟨n8, n9⟩, ⟨n10, n11⟩, n12, n13⟩, ⟨m1, ⟨m2, m3, m4⟩, ⟨m5, m6⟩, ⟨m7, m8⟩, m9, m10⟩, ⟨o1, ⟨o2, o3, o4⟩, ⟨o5, o6, o7⟩, ⟨o8, o9, o10⟩, o11, o12⟩, ⟨b1, ⟨b2, b3⟩, ⟨b4, b5, b6⟩, b7, b8, b9⟩, ⟨j1, ⟨j2, j3, j4, j5, j6, j7, j8⟩, ⟨j9, j10⟩, j11⟩⟩ := hS
    refine wp_iload d_52_6 (by rfl) ?_
    refine wp_aload_n d_52_8 (by rfl) ?_
    refine wp_getI (5) d_52_9 fl_4_98 rfl rfl (by assumption) (fun x_9 e_9 r_9 => ?_)
    subst e_9
    refine wp_icmp_ge (tgt := 119) d_52_12 (by decide) (by omega) (by omega) (fun c_12 => ?_) (fun c_12 => ?_)
    rotate_left
    · exact absurd c_12 (by omega)
    refine wp_iload d_52_119 (by rfl) ?_
    refine wp_zret d_52_121 rfl (by omega) ?_
    exact kq h b T gb (by rw [show hi hb (w + 1) 5 = k by omega]; exact I) J
  | succ m ih =>
    intro k b h e0 e1 T gb I J
    have E := T.2.2.1
    have hX := hT0.2.2.2.2.2.2
    have hn16 := hT0.1
    have hn5 := hT0.2.1
    have hS := hS0.kept E (PFaoff.pr hX.2) (by omega)
    have hS9 := hS
    have hTh := hT0.kept E PFaoff
    have en : hi h (w + 1) = hi hb (w + 1) := PFaoff.i E hX.1 (by omega) hX.2
    have e2 : hi h (w + 2) = hi hb (w + 2) := PFaoff.i E hX.1 (by omega) hX.2
    have en4 : hi h (w + 1) 4 = hi hb (w + 1) 4 := congrFun en 4
    have en5 : hi h (w + 1) 5 = hi hb (w + 1) 5 := congrFun en 5
    have t2 : hi h (w + 47) 2 = d := T.2.2.2.2.1.1.trans hd
    have t3 : hi h (w + 47) 3 = up := T.2.2.2.2.1.2.trans hu
    have t4 := T.2.2.2.2.2
    obtain ⟨f1, f2, f3, f4⟩ := T.1.1
    obtain ⟨⟨k1, k2, k3, k4, k5, k6, k7⟩, ⟨n1, ⟨n2, n3, n4, n5⟩, ⟨n6, n7⟩, ⟨n8, n9⟩, ⟨n10, n11⟩, n12, n13⟩, ⟨m1, ⟨m2, m3, m4⟩, ⟨m5, m6⟩, ⟨m7, m8⟩, m9, m10⟩, ⟨o1, ⟨o2, o3, o4⟩, ⟨o5, o6, o7⟩, ⟨o8, o9, o10⟩, o11, o12⟩, ⟨b1, ⟨b2, b3⟩, ⟨b4, b5, b6⟩, b7, b8, b9⟩, ⟨j1, ⟨j2, j3, j4, j5, j6, j7, j8⟩, ⟨j9, j10⟩, j11⟩⟩ := hS
    have eW : WyI h w k = WyI hb w k := WyI.kept hT0 E PFaoff e1 (by omega)
    obtain ⟨a, g1, g2, g3, g4, g5, g6, g7⟩ := hTh.2.2.2.2.1 k e1 (by omega)
    have cW : ∀ s' m', WyI hb w k s s' m' → ((s = hi h a 0 ∧ s' = hi h a 1) ∨ (s = hi h a 1 ∧ s' = hi h a 0)) ∧ m' = hi h a 2 := by
      rw [← eW]
      rintro s' m' ⟨-, a', y1, y2, y3⟩
      cases y1.symm.trans g1
      exact ⟨y2, y3⟩
    have cM : ∀ z, ((s = hi h a 0 ∧ z = hi h a 1) ∨ (s = hi h a 1 ∧ z = hi h a 0)) → WyI hb w k s z (hi h a 2) := fun z y => by
      rw [← eW]
      exact ⟨e1, a, g1, y, rfl⟩
    have kE : ∀ (b : Int) (h : Hp), FaT hb h w X g A B lo up → (b = 0 ∨ b = 1) → WkE (hi hb (w + 1) 4) (WyI hb w) up d gs (gF h w g) zs (hi h (w + 47) 4) s t P (k + 1) → (b = 0 → ∀ s', 0 ≤ s' → s' < 16 → ∀ x, gF h w g s' x = gs s' x) → wp 52 113 [some (vR (some (w + 47))), some (vR (some (w + 1))), some (vI s), some (vI t), some (vI P), some (vI (b)), some (vI (k)), none, none, none] [] h Q noX := by
      intro b h T gb I J
      refine wp_iinc d_52_113 (by rfl) (by decide) ?_
      refine wp_goto (tgt := 6) d_52_116 (by decide) ?_
      refine wp_to [some (vR (some (w + 47))), some (vR (some (w + 1))), some (vI s), some (vI t), some (vI P), some (vI (b)), some (vI (k + 1)), none, none, none] ⟨rfl, rfl, rfl, rfl, rfl, rfl, rfl, trivial⟩ ?_
      exact ih (k + 1) b h (by omega) (by omega) T gb I J
    refine wp_iload d_52_6 (by rfl) ?_
    refine wp_aload_n d_52_8 (by rfl) ?_
    refine wp_getI (5) d_52_9 fl_4_98 rfl rfl (by assumption) (fun x_9 e_9 r_9 => ?_)
    subst e_9
    refine wp_icmp_ge (tgt := 119) d_52_12 (by decide) (by omega) (by omega) (fun c_12 => ?_) (fun c_12 => ?_)
    · exact absurd c_12 (by omega)
    refine wp_aload_n d_52_15 (by rfl) ?_
    refine wp_getR (1) d_52_16 fl_4_101 rfl rfl (by assumption) (by assumption) ?_
    refine wp_iload d_52_19 (by rfl) ?_
    refine wp_aald d_52_21 (by first | omega | (simp only [kd_setI, kd_cpI]; omega)) (by first | omega | (simp only [kd_setI, kd_cpI]; omega)) (by apply isRf_of; assumption; rfl) (by omega) (by omega) (by assumption) ?_
    refine wp_astore d_52_22 (by decide) ?_
    refine wp_aload d_52_24 (by rfl) ?_
    refine wp_iload_n d_52_26 (by rfl) ?_
    refine wp_callV d_52_27 c_52_105 rfl (by rfl) (by rfl) ⟨5, rfl, rfl, by decide⟩ (by assumption) (by exact Nat.le_of_ble_eq_true rfl) (by exact Nat.le_of_ble_eq_true rfl) (s_across g4 (by omega)) (fun v_27 h_27 q_27 => ?_) (fun _ _ q => q.elim)
    obtain ⟨z_27, rfl, y_27, u_27⟩ := q_27
    replace y_27 := y_27.symm
    subst y_27
    refine wp_istore d_52_30 (by decide) ?_
    refine wp_iload_n d_52_32 (by rfl) ?_
    refine wp_aload d_52_33 (by rfl) ?_
    refine wp_getI (2) d_52_35 fl_4_110 rfl rfl (by assumption) (fun x_35 e_35 r_35 => ?_)
    subst e_35
    refine wp_iadd d_52_38 ?_
    refine wp_istore d_52_39 (by decide) ?_
    refine wp_iload d_52_41 (by rfl) ?_
    refine wp_iconst d_52_43 ?_
    refine wp_icmp_eq (tgt := 113) d_52_44 (by decide) (by omega) (by omega) (fun c_44 => ?_) (fun c_44 => ?_)
    · first
        | (refine wp_to [some (vR (some (w + 47))), some (vR (some (w + 1))), some (vI s), some (vI t), some (vI P), some (vI (1)), some (vI (k)), none, none, none] ⟨rfl, rfl, rfl, rfl, rfl, rfl, rfl, trivial⟩ (kE 1 _ T1 (Or.inr rfl) ?_ (fun y => by omega))
           rw [u47]
           exact WkE.step (fun q s' m h0 h1 => hnn q s' m (by omega) h1) I (cM z_27 (by omega)) (by omega) (by omega) (by omega) (fun s' m' y => by have := cW s' m' y; omega) (fun s' s0 s1 hne x => uo s' s0 (by omega) hne x) us_)
        | (refine wp_to [some (vR (some (w + 47))), some (vR (some (w + 1))), some (vI s), some (vI t), some (vI P), some (vI (0)), some (vI (k)), none, none, none] ⟨rfl, rfl, rfl, rfl, rfl, rfl, rfl, trivial⟩ (kE 0 _ T1 (Or.inl rfl) ?_ (fun y s' s0 s1 x => ?_))
           · rw [u47]
             exact WkE.step (fun q s' m h0 h1 => hnn q s' m (by omega) h1) I (cM z_27 (by omega)) (by omega) (by omega) (by omega) (fun s' m' y => by have := cW s' m' y; omega) (fun s' s0 s1 hne x => uo s' s0 (by omega) hne x) us_
           · by_cases hz : s' = z_27
             · rw [hz, uz (by omega) x, ← hz]; exact J (by omega) s' s0 s1 x
             · rw [uo s' s0 s1 hz x]; exact J (by omega) s' s0 s1 x)
        | (obtain ⟨T1, u4, ug⟩ := T.least (v := min (hi h (w + 47) 4) P) (by omega)
           refine wp_to [some (vR (some (w + 47))), some (vR (some (w + 1))), some (vI s), some (vI t), some (vI P), some (vI (b)), some (vI (k)), none, none, none] ⟨rfl, rfl, rfl, rfl, rfl, rfl, rfl, trivial⟩ (kE b _ T1 gb ?_ (fun y s' s0 s1 x => by rw [ug s' s0 s1 x]; exact J y s' s0 s1 x))
           rw [u4]
           have hc := cM z_27 (by omega)
           rw [show z_27 = d by omega] at hc
           exact WkE.congr (fun q s' m h0 h1 => hnn q s' m (by omega) h1) (fun s' s0 s1 x => ug s' s0 (by omega) x) (WkE.goal I hc (by omega) (fun s' m' y => by have := cW s' m' y; omega)))
        | (refine wp_to [some (vR (some (w + 47))), some (vR (some (w + 1))), some (vI s), some (vI t), some (vI P), some (vI (b)), some (vI (k)), none, none, none] ⟨rfl, rfl, rfl, rfl, rfl, rfl, rfl, trivial⟩ (kE b _ T gb ?_ J)
           exact WkE.skip I (fun s' m' y => by have := cW s' m' y; omega))
    · refine wp_iload d_52_47 (by rfl) ?_
      refine wp_aload_n d_52_49 (by rfl) ?_
      refine wp_getI (3) d_52_50 fl_4_25 rfl rfl (by assumption) (fun x_50 e_50 r_50 => ?_)
      subst e_50
      refine wp_icmp_le (tgt := 59) d_52_53 (by decide) (by omega) (by omega) (fun c_53 => ?_) (fun c_53 => ?_)
      · refine wp_iload d_52_59 (by rfl) ?_
        refine wp_aload_n d_52_61 (by rfl) ?_
        refine wp_getI (2) d_52_62 fl_4_21 rfl rfl (by assumption) (fun x_62 e_62 r_62 => ?_)
        subst e_62
        refine wp_icmp_ne (tgt := 84) d_52_65 (by decide) (by omega) (by omega) (fun c_65 => ?_) (fun c_65 => ?_)
        · obtain ⟨r1_, r2_, r3_, r4_⟩ := T.1.aftr (s := z_27) (by omega)
          have r5_ : kd h (aft w g z_27.toNat) = 9 := (T.1.2.2.2.1 _ r4_).1.1
          refine wp_aload_n d_52_84 (by rfl) ?_
          refine wp_getR (1) d_52_85 fl_4_17 rfl rfl (by assumption) (by assumption) ?_
          refine wp_iload d_52_88 (by rfl) ?_
          refine wp_aald d_52_90 (by first | omega | (simp only [kd_setI, kd_cpI]; omega)) (by first | omega | (simp only [kd_setI, kd_cpI]; omega)) (by apply isRf_of; assumption; rfl) (by omega) (by omega) (by assumption) ?_
          refine wp_iload d_52_91 (by rfl) ?_
          refine wp_iload d_52_93 (by rfl) ?_
          refine wp_callV d_52_95 c_52_35 rfl (by rfl) (by rfl) ⟨8, rfl, rfl, by decide⟩ (by assumption) (by exact Nat.le_of_ble_eq_true rfl) (by exact Nat.le_of_ble_eq_true rfl) (s_offer (T.1.2.2.2.1 _ r4_).1 (T.2.1 z_27.toNat (by omega)) ⟨by omega, by omega⟩ hlu hP (fun y => T.1.room r4_ (by have := (T.2.1 z_27.toNat (by omega)).few (by omega); exact (by unfold aft at this; omega)) y)) (fun v_95 h_95 q_95 => ?_) (fun _ _ q => q.elim)
          obtain ⟨z_95, rfl, O_95⟩ := q_95
          have zz_95 := O_95.1
          obtain ⟨T1, u47, uo, us_, uz⟩ := T.offer (s := z_27) (by omega) O_95
          refine wp_if_ne (tgt := 106) d_52_98 (by decide) (by omega) (fun c_98 => ?_) (fun c_98 => ?_)
          · refine wp_iconst d_52_106 ?_
            refine wp_goto (tgt := 111) d_52_107 (by decide) ?_
            refine wp_istore d_52_111 (by decide) ?_
            first
              | (refine wp_to [some (vR (some (w + 47))), some (vR (some (w + 1))), some (vI s), some (vI t), some (vI P), some (vI (1)), some (vI (k)), none, none, none] ⟨rfl, rfl, rfl, rfl, rfl, rfl, rfl, trivial⟩ (kE 1 _ T1 (Or.inr rfl) ?_ (fun y => by omega))
                 rw [u47]
                 exact WkE.step (fun q s' m h0 h1 => hnn q s' m (by omega) h1) I (cM z_27 (by omega)) (by omega) (by omega) (by omega) (fun s' m' y => by have := cW s' m' y; omega) (fun s' s0 s1 hne x => uo s' s0 (by omega) hne x) us_)
              | (refine wp_to [some (vR (some (w + 47))), some (vR (some (w + 1))), some (vI s), some (vI t), some (vI P), some (vI (0)), some (vI (k)), none, none, none] ⟨rfl, rfl, rfl, rfl, rfl, rfl, rfl, trivial⟩ (kE 0 _ T1 (Or.inl rfl) ?_ (fun y s' s0 s1 x => ?_))
                 · rw [u47]
                   exact WkE.step (fun q s' m h0 h1 => hnn q s' m (by omega) h1) I (cM z_27 (by omega)) (by omega) (by omega) (by omega) (fun s' m' y => by have := cW s' m' y; omega) (fun s' s0 s1 hne x => uo s' s0 (by omega) hne x) us_
                 · by_cases hz : s' = z_27
                   · rw [hz, uz (by omega) x, ← hz]; exact J (by omega) s' s0 s1 x
                   · rw [uo s' s0 s1 hz x]; exact J (by omega) s' s0 s1 x)
              | (obtain ⟨T1, u4, ug⟩ := T.least (v := min (hi h (w + 47) 4) P) (by omega)
                 refine wp_to [some (vR (some (w + 47))), some (vR (some (w + 1))), some (vI s), some (vI t), some (vI P), some (vI (b)), some (vI (k)), none, none, none] ⟨rfl, rfl, rfl, rfl, rfl, rfl, rfl, trivial⟩ (kE b _ T1 gb ?_ (fun y s' s0 s1 x => by rw [ug s' s0 s1 x]; exact J y s' s0 s1 x))
                 rw [u4]
                 have hc := cM z_27 (by omega)
                 rw [show z_27 = d by omega] at hc
                 exact WkE.congr (fun q s' m h0 h1 => hnn q s' m (by omega) h1) (fun s' s0 s1 x => ug s' s0 (by omega) x) (WkE.goal I hc (by omega) (fun s' m' y => by have := cW s' m' y; omega)))
              | (refine wp_to [some (vR (some (w + 47))), some (vR (some (w + 1))), some (vI s), some (vI t), some (vI P), some (vI (b)), some (vI (k)), none, none, none] ⟨rfl, rfl, rfl, rfl, rfl, rfl, rfl, trivial⟩ (kE b _ T gb ?_ J)
                 exact WkE.skip I (fun s' m' y => by have := cW s' m' y; omega))
          · refine wp_iload d_52_101 (by rfl) ?_
            refine wp_if_eq (tgt := 110) d_52_103 (by decide) (by omega) (fun c_103 => ?_) (fun c_103 => ?_)
            · refine wp_iconst d_52_110 ?_
              refine wp_istore d_52_111 (by decide) ?_
              first
                | (refine wp_to [some (vR (some (w + 47))), some (vR (some (w + 1))), some (vI s), some (vI t), some (vI P), some (vI (1)), some (vI (k)), none, none, none] ⟨rfl, rfl, rfl, rfl, rfl, rfl, rfl, trivial⟩ (kE 1 _ T1 (Or.inr rfl) ?_ (fun y => by omega))
                   rw [u47]
                   exact WkE.step (fun q s' m h0 h1 => hnn q s' m (by omega) h1) I (cM z_27 (by omega)) (by omega) (by omega) (by omega) (fun s' m' y => by have := cW s' m' y; omega) (fun s' s0 s1 hne x => uo s' s0 (by omega) hne x) us_)
                | (refine wp_to [some (vR (some (w + 47))), some (vR (some (w + 1))), some (vI s), some (vI t), some (vI P), some (vI (0)), some (vI (k)), none, none, none] ⟨rfl, rfl, rfl, rfl, rfl, rfl, rfl, trivial⟩ (kE 0 _ T1 (Or.inl rfl) ?_ (fun y s' s0 s1 x => ?_))
                   · rw [u47]
                     exact WkE.step (fun q s' m h0 h1 => hnn q s' m (by omega) h1) I (cM z_27 (by omega)) (by omega) (by omega) (by omega) (fun s' m' y => by have := cW s' m' y; omega) (fun s' s0 s1 hne x => uo s' s0 (by omega) hne x) us_
                   · by_cases hz : s' = z_27
                     · rw [hz, uz (by omega) x, ← hz]; exact J (by omega) s' s0 s1 x
                     · rw [uo s' s0 s1 hz x]; exact J (by omega) s' s0 s1 x)
                | (obtain ⟨T1, u4, ug⟩ := T.least (v := min (hi h (w + 47) 4) P) (by omega)
                   refine wp_to [some (vR (some (w + 47))), some (vR (some (w + 1))), some (vI s), some (vI t), some (vI P), some (vI (b)), some (vI (k)), none, none, none] ⟨rfl, rfl, rfl, rfl, rfl, rfl, rfl, trivial⟩ (kE b _ T1 gb ?_ (fun y s' s0 s1 x => by rw [ug s' s0 s1 x]; exact J y s' s0 s1 x))
                   rw [u4]
                   have hc := cM z_27 (by omega)
                   rw [show z_27 = d by omega] at hc
                   exact WkE.congr (fun q s' m h0 h1 => hnn q s' m (by omega) h1) (fun s' s0 s1 x => ug s' s0 (by omega) x) (WkE.goal I hc (by omega) (fun s' m' y => by have := cW s' m' y; omega)))
                | (refine wp_to [some (vR (some (w + 47))), some (vR (some (w + 1))), some (vI s), some (vI t), some (vI P), some (vI (b)), some (vI (k)), none, none, none] ⟨rfl, rfl, rfl, rfl, rfl, rfl, rfl, trivial⟩ (kE b _ T gb ?_ J)
                   exact WkE.skip I (fun s' m' y => by have := cW s' m' y; omega))
            · refine wp_iconst d_52_106 ?_
              refine wp_goto (tgt := 111) d_52_107 (by decide) ?_
              refine wp_istore d_52_111 (by decide) ?_
              first
                | (refine wp_to [some (vR (some (w + 47))), some (vR (some (w + 1))), some (vI s), some (vI t), some (vI P), some (vI (1)), some (vI (k)), none, none, none] ⟨rfl, rfl, rfl, rfl, rfl, rfl, rfl, trivial⟩ (kE 1 _ T1 (Or.inr rfl) ?_ (fun y => by omega))
                   rw [u47]
                   exact WkE.step (fun q s' m h0 h1 => hnn q s' m (by omega) h1) I (cM z_27 (by omega)) (by omega) (by omega) (by omega) (fun s' m' y => by have := cW s' m' y; omega) (fun s' s0 s1 hne x => uo s' s0 (by omega) hne x) us_)
                | (refine wp_to [some (vR (some (w + 47))), some (vR (some (w + 1))), some (vI s), some (vI t), some (vI P), some (vI (0)), some (vI (k)), none, none, none] ⟨rfl, rfl, rfl, rfl, rfl, rfl, rfl, trivial⟩ (kE 0 _ T1 (Or.inl rfl) ?_ (fun y s' s0 s1 x => ?_))
                   · rw [u47]
                     exact WkE.step (fun q s' m h0 h1 => hnn q s' m (by omega) h1) I (cM z_27 (by omega)) (by omega) (by omega) (by omega) (fun s' m' y => by have := cW s' m' y; omega) (fun s' s0 s1 hne x => uo s' s0 (by omega) hne x) us_
                   · by_cases hz : s' = z_27
                     · rw [hz, uz (by omega) x, ← hz]; exact J (by omega) s' s0 s1 x
                     · rw [uo s' s0 s1 hz x]; exact J (by omega) s' s0 s1 x)
                | (obtain ⟨T1, u4, ug⟩ := T.least (v := min (hi h (w + 47) 4) P) (by omega)
                   refine wp_to [some (vR (some (w + 47))), some (vR (some (w + 1))), some (vI s), some (vI t), some (vI P), some (vI (b)), some (vI (k)), none, none, none] ⟨rfl, rfl, rfl, rfl, rfl, rfl, rfl, trivial⟩ (kE b _ T1 gb ?_ (fun y s' s0 s1 x => by rw [ug s' s0 s1 x]; exact J y s' s0 s1 x))
                   rw [u4]
                   have hc := cM z_27 (by omega)
                   rw [show z_27 = d by omega] at hc
                   exact WkE.congr (fun q s' m h0 h1 => hnn q s' m (by omega) h1) (fun s' s0 s1 x => ug s' s0 (by omega) x) (WkE.goal I hc (by omega) (fun s' m' y => by have := cW s' m' y; omega)))
                | (refine wp_to [some (vR (some (w + 47))), some (vR (some (w + 1))), some (vI s), some (vI t), some (vI P), some (vI (b)), some (vI (k)), none, none, none] ⟨rfl, rfl, rfl, rfl, rfl, rfl, rfl, trivial⟩ (kE b _ T gb ?_ J)
                   exact WkE.skip I (fun s' m' y => by have := cW s' m' y; omega))
        · refine wp_aload_n d_52_68 (by rfl) ?_
          refine wp_aload_n d_52_69 (by rfl) ?_
          refine wp_getI (4) d_52_70 fl_4_29 rfl rfl (by assumption) (fun x_70 e_70 r_70 => ?_)
          subst e_70
          refine wp_iload d_52_73 (by rfl) ?_
          refine wp_callS d_52_75 c_52_87 rfl (by rfl) (by rfl) (by exact Nat.le_of_ble_eq_true rfl) (by exact Nat.le_of_ble_eq_true rfl) (s_min (by omega) (by omega)) (fun v_75 h_75 q_75 => ?_) (fun _ _ q => q.elim)
          obtain ⟨rfl, z_75⟩ := q_75
          replace z_75 := z_75.symm
          subst z_75
          refine wp_putI (4) d_52_78 fl_4_29 rfl rfl (Or.inl (by rfl)) (by assumption) (by omega) (fun q => nomatch q) ?_
          refine wp_goto (tgt := 113) d_52_81 (by decide) ?_
          first
            | (refine wp_to [some (vR (some (w + 47))), some (vR (some (w + 1))), some (vI s), some (vI t), some (vI P), some (vI (1)), some (vI (k)), none, none, none] ⟨rfl, rfl, rfl, rfl, rfl, rfl, rfl, trivial⟩ (kE 1 _ T1 (Or.inr rfl) ?_ (fun y => by omega))
               rw [u47]
               exact WkE.step (fun q s' m h0 h1 => hnn q s' m (by omega) h1) I (cM z_27 (by omega)) (by omega) (by omega) (by omega) (fun s' m' y => by have := cW s' m' y; omega) (fun s' s0 s1 hne x => uo s' s0 (by omega) hne x) us_)
            | (refine wp_to [some (vR (some (w + 47))), some (vR (some (w + 1))), some (vI s), some (vI t), some (vI P), some (vI (0)), some (vI (k)), none, none, none] ⟨rfl, rfl, rfl, rfl, rfl, rfl, rfl, trivial⟩ (kE 0 _ T1 (Or.inl rfl) ?_ (fun y s' s0 s1 x => ?_))
               · rw [u47]
                 exact WkE.step (fun q s' m h0 h1 => hnn q s' m (by omega) h1) I (cM z_27 (by omega)) (by omega) (by omega) (by omega) (fun s' m' y => by have := cW s' m' y; omega) (fun s' s0 s1 hne x => uo s' s0 (by omega) hne x) us_
               · by_cases hz : s' = z_27
                 · rw [hz, uz (by omega) x, ← hz]; exact J (by omega) s' s0 s1 x
                 · rw [uo s' s0 s1 hz x]; exact J (by omega) s' s0 s1 x)
            | (obtain ⟨T1, u4, ug⟩ := T.least (v := min (hi h (w + 47) 4) P) (by omega)
               refine wp_to [some (vR (some (w + 47))), some (vR (some (w + 1))), some (vI s), some (vI t), some (vI P), some (vI (b)), some (vI (k)), none, none, none] ⟨rfl, rfl, rfl, rfl, rfl, rfl, rfl, trivial⟩ (kE b _ T1 gb ?_ (fun y s' s0 s1 x => by rw [ug s' s0 s1 x]; exact J y s' s0 s1 x))
               rw [u4]
               have hc := cM z_27 (by omega)
               rw [show z_27 = d by omega] at hc
               exact WkE.congr (fun q s' m h0 h1 => hnn q s' m (by omega) h1) (fun s' s0 s1 x => ug s' s0 (by omega) x) (WkE.goal I hc (by omega) (fun s' m' y => by have := cW s' m' y; omega)))
            | (refine wp_to [some (vR (some (w + 47))), some (vR (some (w + 1))), some (vI s), some (vI t), some (vI P), some (vI (b)), some (vI (k)), none, none, none] ⟨rfl, rfl, rfl, rfl, rfl, rfl, rfl, trivial⟩ (kE b _ T gb ?_ J)
               exact WkE.skip I (fun s' m' y => by have := cW s' m' y; omega))
      · refine wp_goto (tgt := 113) d_52_56 (by decide) ?_
        first
          | (refine wp_to [some (vR (some (w + 47))), some (vR (some (w + 1))), some (vI s), some (vI t), some (vI P), some (vI (1)), some (vI (k)), none, none, none] ⟨rfl, rfl, rfl, rfl, rfl, rfl, rfl, trivial⟩ (kE 1 _ T1 (Or.inr rfl) ?_ (fun y => by omega))
             rw [u47]
             exact WkE.step (fun q s' m h0 h1 => hnn q s' m (by omega) h1) I (cM z_27 (by omega)) (by omega) (by omega) (by omega) (fun s' m' y => by have := cW s' m' y; omega) (fun s' s0 s1 hne x => uo s' s0 (by omega) hne x) us_)
          | (refine wp_to [some (vR (some (w + 47))), some (vR (some (w + 1))), some (vI s), some (vI t), some (vI P), some (vI (0)), some (vI (k)), none, none, none] ⟨rfl, rfl, rfl, rfl, rfl, rfl, rfl, trivial⟩ (kE 0 _ T1 (Or.inl rfl) ?_ (fun y s' s0 s1 x => ?_))
             · rw [u47]
               exact WkE.step (fun q s' m h0 h1 => hnn q s' m (by omega) h1) I (cM z_27 (by omega)) (by omega) (by omega) (by omega) (fun s' m' y => by have := cW s' m' y; omega) (fun s' s0 s1 hne x => uo s' s0 (by omega) hne x) us_
             · by_cases hz : s' = z_27
               · rw [hz, uz (by omega) x, ← hz]; exact J (by omega) s' s0 s1 x
               · rw [uo s' s0 s1 hz x]; exact J (by omega) s' s0 s1 x)
          | (obtain ⟨T1, u4, ug⟩ := T.least (v := min (hi h (w + 47) 4) P) (by omega)
             refine wp_to [some (vR (some (w + 47))), some (vR (some (w + 1))), some (vI s), some (vI t), some (vI P), some (vI (b)), some (vI (k)), none, none, none] ⟨rfl, rfl, rfl, rfl, rfl, rfl, rfl, trivial⟩ (kE b _ T1 gb ?_ (fun y s' s0 s1 x => by rw [ug s' s0 s1 x]; exact J y s' s0 s1 x))
             rw [u4]
             have hc := cM z_27 (by omega)
             rw [show z_27 = d by omega] at hc
             exact WkE.congr (fun q s' m h0 h1 => hnn q s' m (by omega) h1) (fun s' s0 s1 x => ug s' s0 (by omega) x) (WkE.goal I hc (by omega) (fun s' m' y => by have := cW s' m' y; omega)))
          | (refine wp_to [some (vR (some (w + 47))), some (vR (some (w + 1))), some (vI s), some (vI t), some (vI P), some (vI (b)), some (vI (k)), none, none, none] ⟨rfl, rfl, rfl, rfl, rfl, rfl, rfl, trivial⟩ (kE b _ T gb ?_ J)
             exact WkE.skip I (fun s' m' y => by have := cW s' m' y; omega))
set_option maxRecDepth 100000 in
set_option maxHeartbeats 4000000 in
theorem s_fwalk {w X g A B : Nat} {lo up d : Int} {hb : Hp} (hS0 : Sk hb w) (hT0 : TT hb w X) (hd : hi hb (w + 47) 2 = d) (hu : hi hb (w + 47) 3 = up) (hlu : 0 ≤ lo ∧ up ≤ 1000000 ∧ up - lo ≤ 2880) {s t P : Int} (ht : lo ≤ t ∧ t ≤ up) (hs : 0 ≤ s ∧ s < hi hb (w + 1) 4) (hP : 0 ≤ P ∧ P < 1000000000) {h : Hp} (T : FaT hb h w X g A B lo up) : wp 52 0 (entL [vR (some (w + 47)), vR (some (w + 1)), vI s, vI t, vI P] (mL 52)) [] h (fun v h' => ∃ b, v = some (vI b) ∧ (b = 0 ∨ b = 1) ∧ FaT hb h' w X g A B lo up ∧ WkE (hi hb (w + 1) 4) (WyI hb w) up d (gF h w g) (gF h' w g) (hi h (w + 47) 4) (hi h' (w + 47) 4) s t P (hi hb (w + 1) 5) ∧ (b = 0 → ∀ s', 0 ≤ s' → s' < 16 → ∀ x, gF h' w g s' x = gF h w g s' x)) noX := by
  refine wp_iconst d_52_0 ?_
  refine wp_istore d_52_1 (by decide) ?_
  refine wp_iconst d_52_3 ?_
  refine wp_istore d_52_4 (by decide) ?_
  have hn5 := hT0.2.1
  have hn16 := hT0.1
  refine wp_to [some (vR (some (w + 47))), some (vR (some (w + 1))), some (vI s), some (vI t), some (vI P), some (vI (0)), some (vI (0)), none, none, none] ⟨rfl, rfl, rfl, rfl, rfl, rfl, rfl, trivial⟩ ?_
  exact l_fwalk hS0 hT0 hd hu hlu ht hs hP (gs := gF h w g) (zs := hi h (w + 47) 4) (fun h' b z1 z2 z3 z4 => ⟨b, rfl, z2, z1, z3, z4⟩) (hi hb (w + 1) 5).toNat 0 0 h (by omega) (by omega) T (Or.inl rfl) (WkE.start (fun q s s' m z => z.1) (fun s' s0 s1 x x' hx => T.mono ⟨s0, by omega⟩ hx)) (fun _ _ _ _ _ => rfl)
set_option maxRecDepth 100000 in
set_option maxHeartbeats 4000000 in
theorem s_falight {w X g A B : Nat} {lo up d : Int} {hb : Hp} (hS0 : Sk hb w) (hT0 : TT hb w X) (hd : hi hb (w + 47) 2 = d) (hu : hi hb (w + 47) 3 = up) (hlu : 0 ≤ lo ∧ up ≤ 1000000 ∧ up - lo ≤ 2880) {s t P : Int} (ht : lo ≤ t ∧ t ≤ up) (hs : 0 ≤ s ∧ s < hi hb (w + 1) 4) (hP : 0 ≤ P ∧ P < 1000000000) {h : Hp} (T : FaT hb h w X g A B lo up) : wp 55 0 (entL [vR (some (w + 47)), vR (some (w + 1)), vI s, vI t, vI P] (mL 55)) [] h (fun v h' => ∃ b, v = some (vI b) ∧ (b = 0 ∨ b = 1) ∧ FaT hb h' w X g A B lo up ∧ AlE (hi hb (w + 1) 4) (hi hb (w + 2)) (Wy hb w) up d (gF h w g) (gF h' w g) (hi h (w + 47) 4) (hi h' (w + 47) 4) s t P ∧ (b = 0 → ∀ s', 0 ≤ s' → s' < 16 → ∀ x, gF h' w g s' x = gF h w g s' x)) noX := by
  have E := T.2.2.1
  have hX := hT0.2.2.2.2.2.2
  have hn16 := hT0.1
  have hn5 := hT0.2.1
  have hS := hS0.kept E (PFaoff.pr hX.2) (by omega)
  have hS9 := hS
  have hTh := hT0.kept E PFaoff
  have en : hi h (w + 1) = hi hb (w + 1) := PFaoff.i E hX.1 (by omega) hX.2
  have e2 : hi h (w + 2) = hi hb (w + 2) := PFaoff.i E hX.1 (by omega) hX.2
  have en4 : hi h (w + 1) 4 = hi hb (w + 1) 4 := congrFun en 4
  have en5 : hi h (w + 1) 5 = hi hb (w + 1) 5 := congrFun en 5
  have t2 : hi h (w + 47) 2 = d := T.2.2.2.2.1.1.trans hd
  have t3 : hi h (w + 47) 3 = up := T.2.2.2.2.1.2.trans hu
  have t4 := T.2.2.2.2.2
  obtain ⟨f1, f2, f3, f4⟩ := T.1.1
  obtain ⟨⟨k1, k2, k3, k4, k5, k6, k7⟩, ⟨n1, ⟨n2, n3, n4, n5⟩, ⟨n6, n7⟩, ⟨n8, n9⟩, ⟨n10, n11⟩, n12, n13⟩, ⟨m1, ⟨m2, m3, m4⟩, ⟨m5, m6⟩, ⟨m7, m8⟩, m9, m10⟩, ⟨o1, ⟨o2, o3, o4⟩, ⟨o5, o6, o7⟩, ⟨o8, o9, o10⟩, o11, o12⟩, ⟨b1, ⟨b2, b3⟩, ⟨b4, b5, b6⟩, b7, b8, b9⟩, ⟨j1, ⟨j2, j3, j4, j5, j6, j7, j8⟩, ⟨j9, j10⟩, j11⟩⟩ := hS
  have hc2 := hT0.2.2.2.1 s
  have hN := hT0.net
  obtain ⟨r1_, r2_, r3_, r4_⟩ := T.1.aftr (s := s) (by omega)
  have r5_ : kd h (aft w g s.toNat) = 9 := (T.1.2.2.2.1 _ r4_).1.1
  have hWi : ∀ s s' m, Wy hb w s s' m ↔ ∃ q, q < hi hb (w + 1) 5 ∧ WyI hb w q s s' m := fun s s' m => Wy_iff
  refine wp_iload_n d_55_0 (by rfl) ?_
  refine wp_aload_n d_55_1 (by rfl) ?_
  refine wp_getI (2) d_55_2 fl_4_21 rfl rfl (by assumption) (fun x_2 e_2 r_2 => ?_)
  subst e_2
  refine wp_icmp_ne (tgt := 23) d_55_5 (by decide) (by omega) (by omega) (fun c_5 => ?_) (fun c_5 => ?_)
  · refine wp_iconst d_55_23 ?_
    refine wp_istore d_55_24 (by decide) ?_
    refine wp_iload_n d_55_26 (by rfl) ?_
    refine wp_aload_n d_55_27 (by rfl) ?_
    refine wp_getR (0) d_55_28 fl_4_93 rfl rfl (by assumption) (by assumption) ?_
    refine wp_iload_n d_55_31 (by rfl) ?_
    refine wp_iald d_55_32 (Or.inl (by assumption)) (by omega) (by omega) (fun x_32 e_32 r_32 => ?_)
    rw [e2] at e_32
    subst e_32
    refine wp_iadd d_55_33 ?_
    refine wp_aload_n d_55_34 (by rfl) ?_
    refine wp_getI (3) d_55_35 fl_4_25 rfl rfl (by assumption) (fun x_35 e_35 r_35 => ?_)
    subst e_35
    refine wp_icmp_gt (tgt := 62) d_55_38 (by decide) (by omega) (by omega) (fun c_38 => ?_) (fun c_38 => ?_)
    · refine wp_aload_n d_55_62 (by rfl) ?_
      refine wp_aload_n d_55_63 (by rfl) ?_
      refine wp_iload_n d_55_64 (by rfl) ?_
      refine wp_iload_n d_55_65 (by rfl) ?_
      refine wp_iload d_55_66 (by rfl) ?_
      refine wp_callV d_55_68 c_55_39 rfl (by rfl) (by rfl) ⟨4, rfl, rfl, by decide⟩ (by assumption) (by exact Nat.le_of_ble_eq_true rfl) (by exact Nat.le_of_ble_eq_true rfl) (s_fwalk hS0 hT0 hd hu hlu ht hs hP (by first | exact T1 | exact T)) (fun v_68 h_68 q_68 => ?_) (fun _ _ q => q.elim)
      obtain ⟨z_68, rfl, y1_, T2, I2, J2⟩ := q_68
      refine wp_if_ne (tgt := 79) d_55_71 (by decide) (by omega) (fun c_71 => ?_) (fun c_71 => ?_)
      · refine wp_iconst d_55_79 ?_
        refine wp_goto (tgt := 84) d_55_80 (by decide) ?_
        refine wp_zret d_55_84 rfl (by omega) ?_
        first
          | (obtain ⟨T1, u4, ug⟩ := T.least (v := min (hi h (w + 47) 4) P) (by omega)
             refine ⟨0, rfl, Or.inl rfl, T1, ?_, fun _ s' s0 s1 x => ug s' s0 s1 x⟩
             rw [u4]
             exact AlE.congr hN hs (fun s' s0 s1 x => ug s' s0 (by omega) x) (AlE.goal (fun s' s0 s1 x x' hx => T.mono ⟨s0, by omega⟩ hx) (by omega)))
          | (refine ⟨1, rfl, Or.inr rfl, T2, ?_, fun y => by omega⟩
             rw [u47] at I2
             exact AlE.of hWi (by omega) hs (Or.inr ⟨by omega, fun s' s0 s1 hne x => uo s' s0 (by omega) hne x, us_⟩) I2)
          | (refine ⟨0, rfl, Or.inl rfl, T2, ?_, fun y s' s0 s1 x => ?_⟩
             · rw [u47] at I2
               exact AlE.of hWi (by omega) hs (Or.inr ⟨by omega, fun s' s0 s1 hne x => uo s' s0 (by omega) hne x, us_⟩) I2
             · rw [J2 (by omega) s' s0 s1 x]
               by_cases hz : s' = s
               · rw [hz]; exact uz (by omega) x
               · exact uo s' s0 s1 hz x)
          | (refine ⟨1, rfl, Or.inr rfl, T2, ?_, fun y => by omega⟩
             exact AlE.of hWi (by omega) hs (Or.inl ⟨by omega, fun s' s0 s1 x => rfl⟩) I2)
          | (refine ⟨0, rfl, Or.inl rfl, T2, ?_, fun y s' s0 s1 x => J2 (by omega) s' s0 s1 x⟩
             exact AlE.of hWi (by omega) hs (Or.inl ⟨by omega, fun s' s0 s1 x => rfl⟩) I2)
      · refine wp_iload d_55_74 (by rfl) ?_
        refine wp_if_eq (tgt := 83) d_55_76 (by decide) (by omega) (fun c_76 => ?_) (fun c_76 => ?_)
        · refine wp_iconst d_55_83 ?_
          refine wp_zret d_55_84 rfl (by omega) ?_
          first
            | (obtain ⟨T1, u4, ug⟩ := T.least (v := min (hi h (w + 47) 4) P) (by omega)
               refine ⟨0, rfl, Or.inl rfl, T1, ?_, fun _ s' s0 s1 x => ug s' s0 s1 x⟩
               rw [u4]
               exact AlE.congr hN hs (fun s' s0 s1 x => ug s' s0 (by omega) x) (AlE.goal (fun s' s0 s1 x x' hx => T.mono ⟨s0, by omega⟩ hx) (by omega)))
            | (refine ⟨1, rfl, Or.inr rfl, T2, ?_, fun y => by omega⟩
               rw [u47] at I2
               exact AlE.of hWi (by omega) hs (Or.inr ⟨by omega, fun s' s0 s1 hne x => uo s' s0 (by omega) hne x, us_⟩) I2)
            | (refine ⟨0, rfl, Or.inl rfl, T2, ?_, fun y s' s0 s1 x => ?_⟩
               · rw [u47] at I2
                 exact AlE.of hWi (by omega) hs (Or.inr ⟨by omega, fun s' s0 s1 hne x => uo s' s0 (by omega) hne x, us_⟩) I2
               · rw [J2 (by omega) s' s0 s1 x]
                 by_cases hz : s' = s
                 · rw [hz]; exact uz (by omega) x
                 · exact uo s' s0 s1 hz x)
            | (refine ⟨1, rfl, Or.inr rfl, T2, ?_, fun y => by omega⟩
               exact AlE.of hWi (by omega) hs (Or.inl ⟨by omega, fun s' s0 s1 x => rfl⟩) I2)
            | (refine ⟨0, rfl, Or.inl rfl, T2, ?_, fun y s' s0 s1 x => J2 (by omega) s' s0 s1 x⟩
               exact AlE.of hWi (by omega) hs (Or.inl ⟨by omega, fun s' s0 s1 x => rfl⟩) I2)
        · refine wp_iconst d_55_79 ?_
          refine wp_goto (tgt := 84) d_55_80 (by decide) ?_
          refine wp_zret d_55_84 rfl (by omega) ?_
          first
            | (obtain ⟨T1, u4, ug⟩ := T.least (v := min (hi h (w + 47) 4) P) (by omega)
               refine ⟨0, rfl, Or.inl rfl, T1, ?_, fun _ s' s0 s1 x => ug s' s0 s1 x⟩
               rw [u4]
               exact AlE.congr hN hs (fun s' s0 s1 x => ug s' s0 (by omega) x) (AlE.goal (fun s' s0 s1 x x' hx => T.mono ⟨s0, by omega⟩ hx) (by omega)))
            | (refine ⟨1, rfl, Or.inr rfl, T2, ?_, fun y => by omega⟩
               rw [u47] at I2
               exact AlE.of hWi (by omega) hs (Or.inr ⟨by omega, fun s' s0 s1 hne x => uo s' s0 (by omega) hne x, us_⟩) I2)
            | (refine ⟨0, rfl, Or.inl rfl, T2, ?_, fun y s' s0 s1 x => ?_⟩
               · rw [u47] at I2
                 exact AlE.of hWi (by omega) hs (Or.inr ⟨by omega, fun s' s0 s1 hne x => uo s' s0 (by omega) hne x, us_⟩) I2
               · rw [J2 (by omega) s' s0 s1 x]
                 by_cases hz : s' = s
                 · rw [hz]; exact uz (by omega) x
                 · exact uo s' s0 s1 hz x)
            | (refine ⟨1, rfl, Or.inr rfl, T2, ?_, fun y => by omega⟩
               exact AlE.of hWi (by omega) hs (Or.inl ⟨by omega, fun s' s0 s1 x => rfl⟩) I2)
            | (refine ⟨0, rfl, Or.inl rfl, T2, ?_, fun y s' s0 s1 x => J2 (by omega) s' s0 s1 x⟩
               exact AlE.of hWi (by omega) hs (Or.inl ⟨by omega, fun s' s0 s1 x => rfl⟩) I2)
    · refine wp_aload_n d_55_41 (by rfl) ?_
      refine wp_getR (1) d_55_42 fl_4_17 rfl rfl (by assumption) (by assumption) ?_
      refine wp_iload_n d_55_45 (by rfl) ?_
      refine wp_aald d_55_46 (by first | omega | (simp only [kd_setI, kd_cpI]; omega)) (by first | omega | (simp only [kd_setI, kd_cpI]; omega)) (by apply isRf_of; assumption; rfl) (by omega) (by omega) (by assumption) ?_
      refine wp_iload_n d_55_47 (by rfl) ?_
      refine wp_aload_n d_55_48 (by rfl) ?_
      refine wp_getR (0) d_55_49 fl_4_93 rfl rfl (by assumption) (by assumption) ?_
      refine wp_iload_n d_55_52 (by rfl) ?_
      refine wp_iald d_55_53 (Or.inl (by assumption)) (by omega) (by omega) (fun x_53 e_53 r_53 => ?_)
      rw [e2] at e_53
      subst e_53
      refine wp_iadd d_55_54 ?_
      refine wp_iload d_55_55 (by rfl) ?_
      refine wp_callV d_55_57 c_55_35 rfl (by rfl) (by rfl) ⟨8, rfl, rfl, by decide⟩ (by assumption) (by exact Nat.le_of_ble_eq_true rfl) (by exact Nat.le_of_ble_eq_true rfl) (s_offer (T.1.2.2.2.1 _ r4_).1 (T.2.1 s.toNat (by omega)) ⟨by omega, by omega⟩ hlu hP (fun y => T.1.room r4_ (by have := (T.2.1 s.toNat (by omega)).few (by omega); exact (by unfold aft at this; omega)) y)) (fun v_57 h_57 q_57 => ?_) (fun _ _ q => q.elim)
      obtain ⟨z_57, rfl, O_57⟩ := q_57
      have zz_57 := O_57.1
      obtain ⟨T1, u47, uo, us_, uz⟩ := T.offer (s := s) (by omega) O_57
      have r6_ := T1.1.1.2.1
      refine wp_istore d_55_60 (by decide) ?_
      refine wp_aload_n d_55_62 (by rfl) ?_
      refine wp_aload_n d_55_63 (by rfl) ?_
      refine wp_iload_n d_55_64 (by rfl) ?_
      refine wp_iload_n d_55_65 (by rfl) ?_
      refine wp_iload d_55_66 (by rfl) ?_
      refine wp_callV d_55_68 c_55_39 rfl (by rfl) (by rfl) ⟨4, rfl, rfl, by decide⟩ (by assumption) (by exact Nat.le_of_ble_eq_true rfl) (by exact Nat.le_of_ble_eq_true rfl) (s_fwalk hS0 hT0 hd hu hlu ht hs hP (by first | exact T1 | exact T)) (fun v_68 h_68 q_68 => ?_) (fun _ _ q => q.elim)
      obtain ⟨z_68, rfl, y1_, T2, I2, J2⟩ := q_68
      refine wp_if_ne (tgt := 79) d_55_71 (by decide) (by omega) (fun c_71 => ?_) (fun c_71 => ?_)
      · refine wp_iconst d_55_79 ?_
        refine wp_goto (tgt := 84) d_55_80 (by decide) ?_
        refine wp_zret d_55_84 rfl (by omega) ?_
        first
          | (obtain ⟨T1, u4, ug⟩ := T.least (v := min (hi h (w + 47) 4) P) (by omega)
             refine ⟨0, rfl, Or.inl rfl, T1, ?_, fun _ s' s0 s1 x => ug s' s0 s1 x⟩
             rw [u4]
             exact AlE.congr hN hs (fun s' s0 s1 x => ug s' s0 (by omega) x) (AlE.goal (fun s' s0 s1 x x' hx => T.mono ⟨s0, by omega⟩ hx) (by omega)))
          | (refine ⟨1, rfl, Or.inr rfl, T2, ?_, fun y => by omega⟩
             rw [u47] at I2
             exact AlE.of hWi (by omega) hs (Or.inr ⟨by omega, fun s' s0 s1 hne x => uo s' s0 (by omega) hne x, us_⟩) I2)
          | (refine ⟨0, rfl, Or.inl rfl, T2, ?_, fun y s' s0 s1 x => ?_⟩
             · rw [u47] at I2
               exact AlE.of hWi (by omega) hs (Or.inr ⟨by omega, fun s' s0 s1 hne x => uo s' s0 (by omega) hne x, us_⟩) I2
             · rw [J2 (by omega) s' s0 s1 x]
               by_cases hz : s' = s
               · rw [hz]; exact uz (by omega) x
               · exact uo s' s0 s1 hz x)
          | (refine ⟨1, rfl, Or.inr rfl, T2, ?_, fun y => by omega⟩
             exact AlE.of hWi (by omega) hs (Or.inl ⟨by omega, fun s' s0 s1 x => rfl⟩) I2)
          | (refine ⟨0, rfl, Or.inl rfl, T2, ?_, fun y s' s0 s1 x => J2 (by omega) s' s0 s1 x⟩
             exact AlE.of hWi (by omega) hs (Or.inl ⟨by omega, fun s' s0 s1 x => rfl⟩) I2)
      · refine wp_iload d_55_74 (by rfl) ?_
        refine wp_if_eq (tgt := 83) d_55_76 (by decide) (by omega) (fun c_76 => ?_) (fun c_76 => ?_)
        · refine wp_iconst d_55_83 ?_
          refine wp_zret d_55_84 rfl (by omega) ?_
          first
            | (obtain ⟨T1, u4, ug⟩ := T.least (v := min (hi h (w + 47) 4) P) (by omega)
               refine ⟨0, rfl, Or.inl rfl, T1, ?_, fun _ s' s0 s1 x => ug s' s0 s1 x⟩
               rw [u4]
               exact AlE.congr hN hs (fun s' s0 s1 x => ug s' s0 (by omega) x) (AlE.goal (fun s' s0 s1 x x' hx => T.mono ⟨s0, by omega⟩ hx) (by omega)))
            | (refine ⟨1, rfl, Or.inr rfl, T2, ?_, fun y => by omega⟩
               rw [u47] at I2
               exact AlE.of hWi (by omega) hs (Or.inr ⟨by omega, fun s' s0 s1 hne x => uo s' s0 (by omega) hne x, us_⟩) I2)
            | (refine ⟨0, rfl, Or.inl rfl, T2, ?_, fun y s' s0 s1 x => ?_⟩
               · rw [u47] at I2
                 exact AlE.of hWi (by omega) hs (Or.inr ⟨by omega, fun s' s0 s1 hne x => uo s' s0 (by omega) hne x, us_⟩) I2
               · rw [J2 (by omega) s' s0 s1 x]
                 by_cases hz : s' = s
                 · rw [hz]; exact uz (by omega) x
                 · exact uo s' s0 s1 hz x)
            | (refine ⟨1, rfl, Or.inr rfl, T2, ?_, fun y => by omega⟩
               exact AlE.of hWi (by omega) hs (Or.inl ⟨by omega, fun s' s0 s1 x => rfl⟩) I2)
            | (refine ⟨0, rfl, Or.inl rfl, T2, ?_, fun y s' s0 s1 x => J2 (by omega) s' s0 s1 x⟩
               exact AlE.of hWi (by omega) hs (Or.inl ⟨by omega, fun s' s0 s1 x => rfl⟩) I2)
        · refine wp_iconst d_55_79 ?_
          refine wp_goto (tgt := 84) d_55_80 (by decide) ?_
          refine wp_zret d_55_84 rfl (by omega) ?_
          first
            | (obtain ⟨T1, u4, ug⟩ := T.least (v := min (hi h (w + 47) 4) P) (by omega)
               refine ⟨0, rfl, Or.inl rfl, T1, ?_, fun _ s' s0 s1 x => ug s' s0 s1 x⟩
               rw [u4]
               exact AlE.congr hN hs (fun s' s0 s1 x => ug s' s0 (by omega) x) (AlE.goal (fun s' s0 s1 x x' hx => T.mono ⟨s0, by omega⟩ hx) (by omega)))
            | (refine ⟨1, rfl, Or.inr rfl, T2, ?_, fun y => by omega⟩
               rw [u47] at I2
               exact AlE.of hWi (by omega) hs (Or.inr ⟨by omega, fun s' s0 s1 hne x => uo s' s0 (by omega) hne x, us_⟩) I2)
            | (refine ⟨0, rfl, Or.inl rfl, T2, ?_, fun y s' s0 s1 x => ?_⟩
               · rw [u47] at I2
                 exact AlE.of hWi (by omega) hs (Or.inr ⟨by omega, fun s' s0 s1 hne x => uo s' s0 (by omega) hne x, us_⟩) I2
               · rw [J2 (by omega) s' s0 s1 x]
                 by_cases hz : s' = s
                 · rw [hz]; exact uz (by omega) x
                 · exact uo s' s0 s1 hz x)
            | (refine ⟨1, rfl, Or.inr rfl, T2, ?_, fun y => by omega⟩
               exact AlE.of hWi (by omega) hs (Or.inl ⟨by omega, fun s' s0 s1 x => rfl⟩) I2)
            | (refine ⟨0, rfl, Or.inl rfl, T2, ?_, fun y s' s0 s1 x => J2 (by omega) s' s0 s1 x⟩
               exact AlE.of hWi (by omega) hs (Or.inl ⟨by omega, fun s' s0 s1 x => rfl⟩) I2)
  · refine wp_aload_n d_55_8 (by rfl) ?_
    refine wp_aload_n d_55_9 (by rfl) ?_
    refine wp_getI (4) d_55_10 fl_4_29 rfl rfl (by assumption) (fun x_10 e_10 r_10 => ?_)
    subst e_10
    refine wp_iload d_55_13 (by rfl) ?_
    refine wp_callS d_55_15 c_55_87 rfl (by rfl) (by rfl) (by exact Nat.le_of_ble_eq_true rfl) (by exact Nat.le_of_ble_eq_true rfl) (s_min (by omega) (by omega)) (fun v_15 h_15 q_15 => ?_) (fun _ _ q => q.elim)
    obtain ⟨rfl, z_15⟩ := q_15
    replace z_15 := z_15.symm
    subst z_15
    refine wp_putI (4) d_55_18 fl_4_29 rfl rfl (Or.inl (by rfl)) (by assumption) (by omega) (fun q => nomatch q) ?_
    refine wp_iconst d_55_21 ?_
    refine wp_zret d_55_22 rfl (by omega) ?_
    first
      | (obtain ⟨T1, u4, ug⟩ := T.least (v := min (hi h (w + 47) 4) P) (by omega)
         refine ⟨0, rfl, Or.inl rfl, T1, ?_, fun _ s' s0 s1 x => ug s' s0 s1 x⟩
         rw [u4]
         exact AlE.congr hN hs (fun s' s0 s1 x => ug s' s0 (by omega) x) (AlE.goal (fun s' s0 s1 x x' hx => T.mono ⟨s0, by omega⟩ hx) (by omega)))
      | (refine ⟨1, rfl, Or.inr rfl, T2, ?_, fun y => by omega⟩
         rw [u47] at I2
         exact AlE.of hWi (by omega) hs (Or.inr ⟨by omega, fun s' s0 s1 hne x => uo s' s0 (by omega) hne x, us_⟩) I2)
      | (refine ⟨0, rfl, Or.inl rfl, T2, ?_, fun y s' s0 s1 x => ?_⟩
         · rw [u47] at I2
           exact AlE.of hWi (by omega) hs (Or.inr ⟨by omega, fun s' s0 s1 hne x => uo s' s0 (by omega) hne x, us_⟩) I2
         · rw [J2 (by omega) s' s0 s1 x]
           by_cases hz : s' = s
           · rw [hz]; exact uz (by omega) x
           · exact uo s' s0 s1 hz x)
      | (refine ⟨1, rfl, Or.inr rfl, T2, ?_, fun y => by omega⟩
         exact AlE.of hWi (by omega) hs (Or.inl ⟨by omega, fun s' s0 s1 x => rfl⟩) I2)
      | (refine ⟨0, rfl, Or.inl rfl, T2, ?_, fun y s' s0 s1 x => J2 (by omega) s' s0 s1 x⟩
         exact AlE.of hWi (by omega) hs (Or.inl ⟨by omega, fun s' s0 s1 x => rfl⟩) I2)
