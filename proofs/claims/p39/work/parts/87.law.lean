/-! ===== a step whole; the law ===== -/
theorem sm_cw_bd {h : Hp} {w : Nat} {o T : Int} : ∀ n : Nat, 0 ≤ sm (cw h w o T) n ∧ sm (cw h w o T) n ≤ n
  | 0 => ⟨Int.le_refl _, Int.le_refl _⟩
  | n + 1 => by
    have q := sm_cw_bd (h := h) (w := w) (o := o) (T := T) n
    have c : cw h w o T n = 0 ∨ cw h w o T n = 1 := by
      unfold cw
      split
      · exact Or.inr rfl
      · exact Or.inl rfl
    show 0 ≤ sm (cw h w o T) n + cw h w o T n ∧ sm (cw h w o T) n + cw h w o T n ≤ ((n + 1 : Nat) : Int)
    omega
set_option maxRecDepth 100000 in
set_option maxHeartbeats 4000000 in
theorem l_lwZ1 {G sa X A B : Nat} {tm st D : Int} {h : Hp} {Q : Option AV → Hp → Prop} (hst : 0 ≤ st ∧ st < 5) (q : DrS h G sa X D) (F : ∃ g, FaS h (G + 1) X g A B) (h4 : 3 ≤ hi h (G + 1 + 1) 4) (hc : 1 ≤ hi h (G + 1 + 1) 6) (ht : 1 ≤ hi h (G + 1 + 1) 7) (hD : D ≤ 400000) (kk : ∀ h', DrS h' G sa X (D + 5) → (∃ g, FaS h' (G + 1) X g A B) → hi h' (G + 1 + 1) = hi h (G + 1 + 1) → wp 108 80 [some (vR (some sa)), some (vI tm), some (vR (some G)), some (vR (some (G + 1))), some (vI st), none, none, none, none, none, none, none, none, none, none, none, none, none, none, none, none, none, none] [] h' Q noX) : wp 108 48 [some (vR (some sa)), some (vI tm), some (vR (some G)), some (vR (some (G + 1))), some (vI st), none, none, none, none, none, none, none, none, none, none, none, none, none, none, none, none, none, none] [] h Q noX := by
  have hX0 := q.1.2.2.2.2.2.2
  have hXY := q.2.2.1.1.2.1.2
  have kT := q.1.1.1
  refine wp_iload d_108_48 (by rfl) ?_
  refine wp_if_le (tgt := 80) d_108_50 (by decide) (by omega) (fun c_50 => ?_) (fun c_50 => ?_)
  · refine wp_to [some (vR (some sa)), some (vI tm), some (vR (some G)), some (vR (some (G + 1))), some (vI st), none, none, none, none, none, none, none, none, none, none, none, none, none, none, none, none, none, none] ⟨rfl, rfl, rfl, rfl, rfl, trivial⟩ ?_
    first
      | exact kk h_62 (D_62.up (by omega)) F_62 (N_62.trans N_55)
      | exact kk h_72 (D_72.up (by omega)) F_72 (N_72.trans N_55)
      | exact kk h (q.up (by omega)) F rfl
  · refine wp_aload_n d_108_53 (by rfl) ?_
    refine wp_iconst d_108_54 ?_
    refine wp_callV d_108_55 c_108_22 rfl (by rfl) (by rfl) ⟨12, rfl, rfl, by decide⟩ (by assumption) (by exact Nat.le_of_ble_eq_true rfl) (by exact Nat.le_of_ble_eq_true rfl) (s_drawS q (by omega) (by omega)) (fun v_55 h_55 q_55 => ?_) (fun _ _ q => q.elim)
    obtain ⟨z_55, rfl, y_55, D_55, C_55, K_55, M_55⟩ := q_55
    have N_55 := K_55 (G + 1 + 1) (by omega)
    have n6_55 := congrFun N_55 6
    have n7_55 := congrFun N_55 7
    have kT_55 := D_55.1.1.1
    have F_55 : ∃ g, FaS h_55 (G + 1) X g A B := by
      obtain ⟨g, f⟩ := F
      exact ⟨g, f.ch C_55 (fun a z y => by have y : (G + 1 + 47 ≤ a ∧ a ≤ G + 1 + 145) ∨ X ≤ a := y; have z : a = G := z; omega) (fun a z y => z.elim)⟩
    refine wp_if_ne (tgt := 71) d_108_58 (by decide) (by omega) (fun c_58 => ?_) (fun c_58 => ?_)
    · refine wp_aload_n d_108_71 (by rfl) ?_
      refine wp_callV d_108_72 c_108_30 rfl (by rfl) (by rfl) ⟨12, rfl, rfl, by decide⟩ (by assumption) (by exact Nat.le_of_ble_eq_true rfl) (by exact Nat.le_of_ble_eq_true rfl) (s_tDisturb D_55 (by omega) (by omega)) (fun v_72 h_72 q_72 => ?_) (fun _ _ q => q.elim)
      obtain ⟨rfl, D_72, C_72⟩ := q_72
      have N_72 : hi h_72 (G + 1 + 1) = hi h_55 (G + 1 + 1) := funext fun k => C_72.2.2.2.2.2.2.2.1 _ k (fun z => z.elim (fun y => by omega) (fun y => by have := y.1; omega))
      have F_72 : ∃ g, FaS h_72 (G + 1) X g A B := by
        obtain ⟨g, f⟩ := F_55
        exact ⟨g, f.ch C_72 (fun a z y => z.elim (fun z => by have y : (G + 1 + 47 ≤ a ∧ a ≤ G + 1 + 145) ∨ X ≤ a := y; omega) (fun z => by have y : (G + 1 + 47 ≤ a ∧ a ≤ G + 1 + 145) ∨ X ≤ a := y; have := z.1; have := z.2; omega)) (fun a z y => z.elim)⟩
      refine wp_if_ne (tgt := 80) d_108_75 (by decide) (by omega) (fun c_75 => ?_) (fun c_75 => ?_)
      rotate_left
      · exact absurd c_75 (by omega)
      refine wp_to [some (vR (some sa)), some (vI tm), some (vR (some G)), some (vR (some (G + 1))), some (vI st), none, none, none, none, none, none, none, none, none, none, none, none, none, none, none, none, none, none] ⟨rfl, rfl, rfl, rfl, rfl, trivial⟩ ?_
      first
        | exact kk h_62 (D_62.up (by omega)) F_62 (N_62.trans N_55)
        | exact kk h_72 (D_72.up (by omega)) F_72 (N_72.trans N_55)
        | exact kk h (q.up (by omega)) F rfl
    · refine wp_aload_n d_108_61 (by rfl) ?_
      refine wp_callV d_108_62 c_108_26 rfl (by rfl) (by rfl) ⟨12, rfl, rfl, by decide⟩ (by assumption) (by exact Nat.le_of_ble_eq_true rfl) (by exact Nat.le_of_ble_eq_true rfl) (s_tExcept D_55 (by omega) (by omega)) (fun v_62 h_62 q_62 => ?_) (fun _ _ q => q.elim)
      obtain ⟨rfl, D_62, C_62⟩ := q_62
      have N_62 : hi h_62 (G + 1 + 1) = hi h_55 (G + 1 + 1) := funext fun k => C_62.2.2.2.2.2.2.2.1 _ k (fun z => z.elim (fun y => by omega) (fun y => by have := y.1; omega))
      have F_62 : ∃ g, FaS h_62 (G + 1) X g A B := by
        obtain ⟨g, f⟩ := F_55
        exact ⟨g, f.ch C_62 (fun a z y => z.elim (fun z => by have y : (G + 1 + 47 ≤ a ∧ a ≤ G + 1 + 145) ∨ X ≤ a := y; omega) (fun z => by have y : (G + 1 + 47 ≤ a ∧ a ≤ G + 1 + 145) ∨ X ≤ a := y; have := z.1; have := z.2; omega)) (fun a z y => z.elim)⟩
      refine wp_if_eq (tgt := 78) d_108_65 (by decide) (by omega) (fun c_65 => ?_) (fun c_65 => ?_)
      · exact absurd c_65 (by omega)
      refine wp_goto (tgt := 80) d_108_68 (by decide) ?_
      refine wp_to [some (vR (some sa)), some (vI tm), some (vR (some G)), some (vR (some (G + 1))), some (vI st), none, none, none, none, none, none, none, none, none, none, none, none, none, none, none, none, none, none] ⟨rfl, rfl, rfl, rfl, rfl, trivial⟩ ?_
      first
        | exact kk h_62 (D_62.up (by omega)) F_62 (N_62.trans N_55)
        | exact kk h_72 (D_72.up (by omega)) F_72 (N_72.trans N_55)
        | exact kk h (q.up (by omega)) F rfl
set_option maxRecDepth 100000 in
set_option maxHeartbeats 4000000 in
theorem l_lwInit392 {G sa : Nat} {tm st o d T lg V e6 : Int} {h : Hp} {Q : Option AV → Hp → Prop} (kk : wp 108 398 [some (vR (some sa)), some (vI tm), some (vR (some G)), some (vR (some (G + 1))), some (vI st), some (vI o), some (vI d), some (vI T), some (vI lg), some (vL V), none, none, some (vI (an e6)), none, none, none, some (vI 0), some (vI 0), none, none, none, none, none] [] h Q noX) : wp 108 392 [some (vR (some sa)), some (vI tm), some (vR (some G)), some (vR (some (G + 1))), some (vI st), some (vI o), some (vI d), some (vI T), some (vI lg), some (vL V), none, none, some (vI (an e6)), none, none, none, none, none, none, none, none, none, none] [] h Q noX := by
  refine wp_iconst d_108_392 ?_
  refine wp_istore d_108_393 (by decide) ?_
  refine wp_iconst d_108_395 ?_
  refine wp_istore d_108_396 (by decide) ?_
  refine wp_to [some (vR (some sa)), some (vI tm), some (vR (some G)), some (vR (some (G + 1))), some (vI st), some (vI o), some (vI d), some (vI T), some (vI lg), some (vL V), none, none, some (vI (an e6)), none, none, none, some (vI 0), some (vI 0), none, none, none, none, none] ⟨rfl, rfl, rfl, rfl, rfl, rfl, rfl, rfl, rfl, rfl, rfl, rfl, rfl, trivial⟩ ?_
  exact kk
set_option maxRecDepth 100000 in
set_option maxHeartbeats 4000000 in
theorem l_lwInit563 {G sa : Nat} {tm st o d T lg V e6 : Int} {h : Hp} {Q : Option AV → Hp → Prop} (kk : wp 108 573 [some (vR (some sa)), some (vI tm), some (vR (some G)), some (vR (some (G + 1))), some (vI st), some (vI o), some (vI d), some (vI T), some (vI lg), some (vL V), none, none, some (vI e6), none, none, none, none, none, none, some (vI T), some (vI 0), some (vI 0), none] [] h Q noX) : wp 108 563 [some (vR (some sa)), some (vI tm), some (vR (some G)), some (vR (some (G + 1))), some (vI st), some (vI o), some (vI d), some (vI T), some (vI lg), some (vL V), none, none, some (vI e6), none, none, none, none, none, none, none, none, none, none] [] h Q noX := by
  refine wp_iload d_108_563 (by rfl) ?_
  refine wp_istore d_108_565 (by decide) ?_
  refine wp_iconst d_108_567 ?_
  refine wp_istore d_108_568 (by decide) ?_
  refine wp_iconst d_108_570 ?_
  refine wp_istore d_108_571 (by decide) ?_
  refine wp_to [some (vR (some sa)), some (vI tm), some (vR (some G)), some (vR (some (G + 1))), some (vI st), some (vI o), some (vI d), some (vI T), some (vI lg), some (vL V), none, none, some (vI e6), none, none, none, none, none, none, some (vI T), some (vI 0), some (vI 0), none] ⟨rfl, rfl, rfl, rfl, rfl, rfl, rfl, rfl, rfl, rfl, rfl, rfl, rfl, rfl, trivial⟩ ?_
  exact kk
set_option maxRecDepth 100000 in
set_option maxHeartbeats 4000000 in
theorem l_lwBody1 {h1 : Hp} {G sa X A B : Nat} {tm st o d T lg V D e6 : Int} {Q : Option AV → Hp → Prop} (hT1 : TT h1 (G + 1) X) (ho : 0 ≤ o ∧ o < hi h1 (G + 1 + 1) 4) (hd : 0 ≤ d ∧ d < hi h1 (G + 1 + 1) 4) (hT : 0 ≤ T ∧ T < 7000) (hD : D ≤ 500000) (E6 : Ea h1 (G + 1) o T 2880 6 d e6) (hlg : (lg = -1 ∧ e6 = 1000000000) ∨ (0 ≤ lg ∧ lg ≤ 13 ∧ e6 < 1000000000)) (L1 : LI h1 h1 G sa X D A B) (kk : ∀ h' z, LI h1 h' G sa X (D + 1) A B → (0 ≤ z ∧ z < 300) → wp 108 295 [some (vR (some sa)), some (vI tm), some (vR (some G)), some (vR (some (G + 1))), some (vI st), some (vI o), some (vI d), some (vI T), some (vI lg), some (vL V), none, none, some (vI (an e6)), some (vI (T + 1 + z)), none, none, none, none, none, none, none, none, none] [] h' Q noX) : wp 108 133 [some (vR (some sa)), some (vI tm), some (vR (some G)), some (vR (some (G + 1))), some (vI st), some (vI o), some (vI d), some (vI T), some (vI lg), some (vL V), none, some (vI (-1)), some (vI ((0 : Nat) : Int)), none, none, none, none, none, none, none, none, none, none] [] h1 Q noX := by
  refine l_lwRides hT1 ho hd hT hD (e6 := e6) 7 0 h1 (-1) rfl L1 ⟨by omega, by omega⟩ (Or.inl ⟨rfl, rfl⟩) (fun hA eA LA EA => ?_)
  obtain rfl : e6 = eA := JL.uniq (by omega) (by omega) E6 EA
  refine l_lwB1 hT1 ho hd hT hD LA E6 hlg (fun hB LB => ?_)
  refine l_lwB2 hT1 ho hd hT hD LB E6 (fun hC LC => ?_)
  exact l_lwB3 hT1 ho hd hT hD LC (fun hD9 z9 LD hz9 => kk hD9 z9 LD hz9)
set_option maxRecDepth 100000 in
set_option maxHeartbeats 4000000 in
theorem l_lwBody2 {h1 : Hp} {G sa X A B : Nat} {tm st o d T lg V D e6 : Int} {Q : Option AV → Hp → Prop} (hT1 : TT h1 (G + 1) X) (ho : 0 ≤ o ∧ o < hi h1 (G + 1 + 1) 4) (hd : 0 ≤ d ∧ d < hi h1 (G + 1 + 1) 4) (hT : 0 ≤ T ∧ T < 7000) (hD : D ≤ 500000) {lt : Int} {h : Hp} (E6 : Ea h1 (G + 1) o T 2880 6 d e6) (hlt : T < lt ∧ lt ≤ T + 300) (L1 : LI h1 h G sa X D A B) (kk : ∀ h', LI h1 h' G sa X D A B → wp 108 473 [some (vR (some sa)), some (vI tm), some (vR (some G)), some (vR (some (G + 1))), some (vI st), some (vI o), some (vI d), some (vI T), some (vI lg), some (vL V), none, none, some (vI (an e6)), none, none, none, none, none, none, none, none, none, none] [] h' Q noX) : wp 108 295 [some (vR (some sa)), some (vI tm), some (vR (some G)), some (vR (some (G + 1))), some (vI st), some (vI o), some (vI d), some (vI T), some (vI lg), some (vL V), none, none, some (vI (an e6)), some (vI lt), none, none, none, none, none, none, none, none, none] [] h Q noX := by
  refine l_lwC1 hT1 ho hd hT hD (lt := lt) L1 E6 hlt (fun hE LE => ?_)
  refine l_lwC2 hT1 ho hd hT hD (lt := lt) LE E6 hlt (fun hF LF => ?_)
  have n16 := hT1.1
  refine l_lwInit392 ?_
  refine l_lwSum hT1 ho hd hT hD (hi h1 (G + 1 + 1) 4).toNat 0 hF (by omega) LF ⟨Int.le_refl _, Int.le_refl _⟩ (fun hG LG => ?_)
  have sb := sm_cw_bd (h := h1) (w := G + 1) (o := o) (T := T) (hi h1 (G + 1 + 1) 4).toNat
  exact l_lwReach hT1 ho hd hT hD LG ⟨by omega, by omega⟩ (fun hH LH => kk hH LH)
set_option maxRecDepth 100000 in
set_option maxHeartbeats 4000000 in
theorem l_lwBody3 {h1 : Hp} {G sa X A B : Nat} {tm st o d T lg V D e6 : Int} {Q : Option AV → Hp → Prop} (hT1 : TT h1 (G + 1) X) (ho : 0 ≤ o ∧ o < hi h1 (G + 1 + 1) 4) (hd : 0 ≤ d ∧ d < hi h1 (G + 1 + 1) 4) (hT : 0 ≤ T ∧ T < 7000) (hD : D ≤ 500000) {h : Hp} (E6 : Ea h1 (G + 1) o T 2880 6 d e6) (hK : (lg = -1 ∧ e6 = 1000000000 ∧ hi h1 (G + 1 + 146) 0 = 0) ∨ (∃ K n : Nat, lg = (n : Int) ∧ K ≤ 6 ∧ Ea h1 (G + 1) o T 2880 K d e6 ∧ (∀ j : Nat, j < K → ∀ e', Ea h1 (G + 1) o T 2880 j d e' → e6 < e') ∧ Kp h1 (G + 1) o d T e6 K n)) (hst : 0 ≤ st ∧ st < 5) (hV : V = dgV h1 (G + 1)) (L1 : LI h1 h G sa X D A B) (kk : ∀ h', DrS h' G sa X D → (∃ g, FaS h' (G + 1) X g A B) → hi h' (G + 1 + 1) = hi h1 (G + 1 + 1) → wp 108 42 [some (vR (some sa)), some (vI tm), some (vR (some G)), some (vR (some (G + 1))), some (vI (st + 1)), none, none, none, none, none, none, none, none, none, none, none, none, none, none, none, none, none, none] [] h' Q noX) : wp 108 473 [some (vR (some sa)), some (vI tm), some (vR (some G)), some (vR (some (G + 1))), some (vI st), some (vI o), some (vI d), some (vI T), some (vI lg), some (vL V), none, none, some (vI (an e6)), none, none, none, none, none, none, none, none, none, none] [] h Q noX := by
  have w6 := an_c hT1 ho (by decide) (by omega) E6
  have tail : ∀ h', LI h1 h' G sa X D A B → wp 108 765 [some (vR (some sa)), some (vI tm), some (vR (some G)), some (vR (some (G + 1))), some (vI st), some (vI o), some (vI d), some (vI T), some (vI lg), some (vL V), none, none, none, none, none, none, none, none, none, none, none, none, none] [] h' Q noX := fun h' L' => l_lwH hT1 ho hd hT (e6 := e6) hD (hK.elim (fun z => Or.inl z.2.2) (fun z => z.elim fun K z => z.elim fun n z => Or.inr ⟨K, n, z.2.2.2.2⟩)) hst hV L' (fun h9 y1 y2 y3 => kk h9 y1 y2 y3)
  refine l_lwSkip hT1 ho hd hT hD (sa := sa) (A := A) (B := B) w6 (fun _ => tail h L1) (fun hl => ?_)
  rcases hK with ⟨-, z, -⟩ | ⟨K, n, rfl, K6, KE, Km, kp⟩
  · omega
  · refine l_lwE hT1 ho hd hT hD E6 kp K6 hl L1 ⟨by omega, by omega⟩ (fun hI L9 => ?_)
    refine l_lwInit563 ?_
    have kpI := L9.kp hT1 kp
    have t0 : tmJ hI (G + 1) ((0 : Nat) : Int) = T := by
      unfold tmJ
      rw [if_pos (by decide : ((0 : Nat) : Int) = 0)]
      exact kpI.2.2.2.2.2.2.1.2.2
    have key := l_legs (tm := tm) (st := st) (sa := sa) (V := V) (Q := Q) L9.sk L9.tt kpI n 0 (by omega) (wp_to [some (vR (some sa)), some (vI tm), some (vR (some G)), some (vR (some (G + 1))), some (vI st), some (vI o), some (vI d), some (vI T), some (vI (n : Int)), some (vL V), none, none, some (vI e6), none, none, none, none, none, none, some (vI e6), some (vI (K : Int)), none, none] ⟨rfl, rfl, rfl, rfl, rfl, rfl, rfl, rfl, rfl, rfl, rfl, rfl, rfl, trivial⟩ (l_lwG hT1 ho hd hT hD (lg := (n : Int)) E6 kp K6 hl Km KE L9 ⟨by omega, by omega⟩ (fun h' L' => tail h' L')))
    rw [t0] at key
    exact key
set_option maxRecDepth 100000 in
set_option maxHeartbeats 4000000 in
theorem l_lwStep {G sa X A B : Nat} {tm st D : Int} {h : Hp} {Q : Option AV → Hp → Prop} (hst : 0 ≤ st ∧ st < 5) (q : DrS h G sa X D) (F : ∃ g, FaS h (G + 1) X g A B) (h4 : 3 ≤ hi h (G + 1 + 1) 4) (hc : 1 ≤ hi h (G + 1 + 1) 6) (ht : 1 ≤ hi h (G + 1 + 1) 7) (hD : D ≤ 400000) (kk : ∀ h', DrS h' G sa X (D + 4) → (∃ g, FaS h' (G + 1) X g A B) → hi h' (G + 1 + 1) = hi h (G + 1 + 1) → wp 108 42 [some (vR (some sa)), some (vI tm), some (vR (some G)), some (vR (some (G + 1))), some (vI (st + 1)), none, none, none, none, none, none, none, none, none, none, none, none, none, none, none, none, none, none] [] h' Q noX) : wp 108 80 [some (vR (some sa)), some (vI tm), some (vR (some G)), some (vR (some (G + 1))), some (vI st), none, none, none, none, none, none, none, none, none, none, none, none, none, none, none, none, none, none] [] h Q noX := by
  have hX0 := q.1.2.2.2.2.2.2
  have hXY := q.2.2.1.1.2.1.2
  have kT := q.1.1.1
  have r3 := q.2.2.1.2.1.1
  have c4 := q.2.2.2.1.1
  refine wp_aload_n d_108_80 (by rfl) ?_
  refine wp_aload_n d_108_81 (by rfl) ?_
  refine wp_getI (3) d_108_82 fl_13_33 rfl rfl (by first | assumption | (simp only [kd_setI, kd_setR]; assumption)) (fun x_82 e_82 r_82 => ?_)
  subst e_82
  refine wp_callV d_108_85 c_108_22 rfl (by rfl) (by rfl) ⟨12, rfl, rfl, by decide⟩ (by first | assumption | (simp only [kd_setI, kd_setR]; assumption)) (by exact Nat.le_of_ble_eq_true rfl) (by exact Nat.le_of_ble_eq_true rfl) (s_drawS q (by omega) (by omega)) (fun v_85 h_85 q_85 => ?_) (fun _ _ q => q.elim)
  obtain ⟨z_85, rfl, y_85, D_85, C_85, K_85, M_85⟩ := q_85
  have N_85 := K_85 (G + 1 + 1) (by omega)
  have n4_85 := congrFun N_85 4
  have kT_85 := D_85.1.1.1
  have r3_85 := D_85.2.2.1.2.1.1
  have F_85 : ∃ g, FaS h_85 (G + 1) X g A B := by
    obtain ⟨g, f⟩ := F
    exact ⟨g, f.ch C_85 (fun a z y => by have y : (G + 1 + 47 ≤ a ∧ a ≤ G + 1 + 145) ∨ X ≤ a := y; have z : a = G := z; omega) (fun a z y => z.elim)⟩
  refine wp_istore d_108_88 (by decide) ?_
  refine wp_to [some (vR (some sa)), some (vI tm), some (vR (some G)), some (vR (some (G + 1))), some (vI st), some (vI z_85), none, none, none, none, none, none, none, none, none, none, none, none, none, none, none, none, none] ⟨rfl, rfl, rfl, rfl, rfl, rfl, trivial⟩ ?_
  refine wp_aload_n d_108_90 (by rfl) ?_
  refine wp_aload_n d_108_91 (by rfl) ?_
  refine wp_getI (3) d_108_92 fl_13_33 rfl rfl (by first | assumption | (simp only [kd_setI, kd_setR]; assumption)) (fun x_92 e_92 r_92 => ?_)
  subst e_92
  refine wp_callV d_108_95 c_108_22 rfl (by rfl) (by rfl) ⟨12, rfl, rfl, by decide⟩ (by first | assumption | (simp only [kd_setI, kd_setR]; assumption)) (by exact Nat.le_of_ble_eq_true rfl) (by exact Nat.le_of_ble_eq_true rfl) (s_drawS D_85 (by omega) (by omega)) (fun v_95 h_95 q_95 => ?_) (fun _ _ q => q.elim)
  obtain ⟨z_95, rfl, y_95, D_95, C_95, K_95, M_95⟩ := q_95
  have N_95 := K_95 (G + 1 + 1) (by omega)
  have n4_95 := congrFun N_95 4
  have kT_95 := D_95.1.1.1
  have r3_95 := D_95.2.2.1.2.1.1
  have F_95 : ∃ g, FaS h_95 (G + 1) X g A B := by
    obtain ⟨g, f⟩ := F_85
    exact ⟨g, f.ch C_95 (fun a z y => by have y : (G + 1 + 47 ≤ a ∧ a ≤ G + 1 + 145) ∨ X ≤ a := y; have z : a = G := z; omega) (fun a z y => z.elim)⟩
  refine wp_istore d_108_98 (by decide) ?_
  refine wp_to [some (vR (some sa)), some (vI tm), some (vR (some G)), some (vR (some (G + 1))), some (vI st), some (vI z_85), some (vI z_95), none, none, none, none, none, none, none, none, none, none, none, none, none, none, none, none] ⟨rfl, rfl, rfl, rfl, rfl, rfl, rfl, trivial⟩ ?_
  refine wp_aload_n d_108_100 (by rfl) ?_
  refine wp_sipush d_108_101 (by decide) ?_
  refine wp_callV d_108_104 c_108_22 rfl (by rfl) (by rfl) ⟨12, rfl, rfl, by decide⟩ (by first | assumption | (simp only [kd_setI, kd_setR]; assumption)) (by exact Nat.le_of_ble_eq_true rfl) (by exact Nat.le_of_ble_eq_true rfl) (s_drawS D_95 (by omega) (by omega)) (fun v_104 h_104 q_104 => ?_) (fun _ _ q => q.elim)
  obtain ⟨z_104, rfl, y_104, D_104, C_104, K_104, M_104⟩ := q_104
  have N_104 := K_104 (G + 1 + 1) (by omega)
  have n4_104 := congrFun N_104 4
  have kT_104 := D_104.1.1.1
  have r3_104 := D_104.2.2.1.2.1.1
  have F_104 : ∃ g, FaS h_104 (G + 1) X g A B := by
    obtain ⟨g, f⟩ := F_95
    exact ⟨g, f.ch C_104 (fun a z y => by have y : (G + 1 + 47 ≤ a ∧ a ≤ G + 1 + 145) ∨ X ≤ a := y; have z : a = G := z; omega) (fun a z y => z.elim)⟩
  have kS_104 : kd h_104 (G + 1) = 1 := D_104.2.1.1.1
  refine wp_istore d_108_107 (by decide) ?_
  refine wp_to [some (vR (some sa)), some (vI tm), some (vR (some G)), some (vR (some (G + 1))), some (vI st), some (vI z_85), some (vI z_95), some (vI z_104), none, none, none, none, none, none, none, none, none, none, none, none, none, none, none] ⟨rfl, rfl, rfl, rfl, rfl, rfl, rfl, rfl, trivial⟩ ?_
  refine wp_aload_n d_108_109 (by rfl) ?_
  refine wp_iload d_108_110 (by rfl) ?_
  refine wp_iload d_108_112 (by rfl) ?_
  refine wp_iload d_108_114 (by rfl) ?_
  refine wp_callV d_108_116 c_108_37 rfl (by rfl) (by rfl) ⟨0, rfl, rfl, by decide⟩ (by first | assumption | (simp only [kd_setI, kd_setR]; assumption)) (by exact Nat.le_of_ble_eq_true rfl) (by exact Nat.le_of_ble_eq_true rfl) (s_find (X := X) D_104.2.1 D_104.2.2.1.1.1 (by omega) (by omega) (by omega)) (fun v_116 h_116 q_116 => ?_) (fun _ _ q => q.elim)
  obtain ⟨c_116, e6, u_116, v9⟩ := q_116
  obtain ⟨lg, rfl, hlg, hK⟩ : ∃ lg : Int, v_116 = some (vI lg) ∧ ((lg = -1 ∧ e6 = 1000000000) ∨ (0 ≤ lg ∧ lg ≤ 13 ∧ e6 < 1000000000)) ∧ ((lg = -1 ∧ e6 = 1000000000 ∧ hi h_116 (G + 1 + 146) 0 = 0) ∨ (∃ K n : Nat, lg = (n : Int) ∧ K ≤ 6 ∧ Ea h_116 (G + 1) z_85 z_104 2880 K z_95 e6 ∧ (∀ j : Nat, j < K → ∀ e', Ea h_116 (G + 1) z_85 z_104 2880 j z_95 e' → e6 < e') ∧ Kp h_116 (G + 1) z_85 z_95 z_104 e6 K n)) := by
    have ek : ∀ (j : Nat) e', Ea h_116 (G + 1) z_85 z_104 2880 j z_95 e' ↔ Ea h_104 (G + 1) z_85 z_104 2880 j z_95 e' := fun j e' => Ea.kept D_104.2.2.1.1.1 c_116.fm PFoff
    rcases v9 with ⟨z1, z2, z3⟩ | ⟨z1, K, n, z2, z3, z4, z5, z6⟩
    · exact ⟨-1, z1, Or.inl ⟨rfl, z2⟩, Or.inl ⟨rfl, z2, z3⟩⟩
    · exact ⟨(n : Int), z2, Or.inr ⟨by omega, by have := z6.2.2.1; omega, z1⟩, Or.inr ⟨K, n, rfl, z3, (ek _ _).mpr z4, fun j hj e' y => z5 j hj e' ((ek _ _).mp y), z6⟩⟩
  have pf1 : ∀ a, PF (G + 1) a → (G + 7 ≤ a ∧ a ≤ G + 47) ∨ (G + 147 ≤ a ∧ a ≤ G + 154) := fun a z => by unfold PF at z; omega
  have pf2 : ∀ a, PFR (G + 1) a → a = G + 8 ∨ a = G + 148 := fun a z => by unfold PFR at z; omega
  have N_116 : hi h_116 (G + 1 + 1) = hi h_104 (G + 1 + 1) := funext fun k => c_116.2.2.2.2.2.2.2.1 _ k (fun z => by have := pf1 _ z; omega)
  have n4_116 := congrFun N_116 4
  have D_116 := D_104.call c_116.fm (fun a z => Or.inl (by have := pf1 a z; omega)) (fun a z => (pf2 a z).elim Or.inl (fun y => Or.inr (Or.inl y)))
  have F_116 : ∃ g, FaS h_116 (G + 1) X g A B := by
    obtain ⟨g, f⟩ := F_104
    exact ⟨g, f.ch c_116 (fun a z y => by have y : (G + 1 + 47 ≤ a ∧ a ≤ G + 1 + 145) ∨ X ≤ a := y; have := pf1 a z; omega) (fun a z y => by have y : (G + 1 + 47 ≤ a ∧ a ≤ G + 1 + 145) ∨ X ≤ a := y; have := pf2 a z; omega)⟩
  have L_116 : LI h_116 h_116 G sa X (D + 3) A B := ⟨D_116.up (by omega), F_116, fm.rfl⟩
  have hT1 := L_116.tt
  have E6 : Ea h_116 (G + 1) z_85 z_104 2880 6 z_95 e6 := (Ea.kept D_104.2.2.1.1.1 c_116.fm PFoff).mpr u_116
  have ho1 : 0 ≤ z_85 ∧ z_85 < hi h_116 (G + 1 + 1) 4 := ⟨by omega, by omega⟩
  have hd1 : 0 ≤ z_95 ∧ z_95 < hi h_116 (G + 1 + 1) 4 := ⟨by omega, by omega⟩
  have hT2 : 0 ≤ z_104 ∧ z_104 < 7000 := y_104
  have hK1 : hi h_116 (G + 1 + 146) 0 = 0 ∨ ∃ K n : Nat, Kp h_116 (G + 1) z_85 z_95 z_104 e6 K n := by
    rcases hK with ⟨-, -, z⟩ | ⟨K, n, -, -, -, -, z⟩
    · exact Or.inl z
    · exact Or.inr ⟨K, n, z⟩
  have kS_116 : kd h_116 (G + 1) = 1 := L_116.sk.1.1
  refine wp_istore d_108_119 (by decide) ?_
  refine wp_to [some (vR (some sa)), some (vI tm), some (vR (some G)), some (vR (some (G + 1))), some (vI st), some (vI z_85), some (vI z_95), some (vI z_104), some (vI lg), none, none, none, none, none, none, none, none, none, none, none, none, none, none] ⟨rfl, rfl, rfl, rfl, rfl, rfl, rfl, rfl, rfl, trivial⟩ ?_
  refine wp_aload_n d_108_121 (by rfl) ?_
  refine wp_callV d_108_122 c_108_43 rfl (by rfl) (by rfl) ⟨0, rfl, rfl, by decide⟩ (by first | assumption | (simp only [kd_setI, kd_setR]; assumption)) (by exact Nat.le_of_ble_eq_true rfl) (by exact Nat.le_of_ble_eq_true rfl) (s_digest L_116.sk hT1 (hK1.elim Or.inl (fun z => z.elim fun K z => z.elim fun n z => Or.inr ⟨z_85, z_95, z_104, e6, K, n, z⟩))) (fun v_122 h_122 q_122 => ?_) (fun _ _ q => q.elim)
  obtain ⟨rfl, z_122⟩ := q_122
  replace z_122 := z_122.symm
  subst z_122
  refine wp_lstore d_108_125 (by decide) ?_
  refine wp_to [some (vR (some sa)), some (vI tm), some (vR (some G)), some (vR (some (G + 1))), some (vI st), some (vI z_85), some (vI z_95), some (vI z_104), some (vI lg), some (vL (dgV h_116 (G + 1))), none, none, none, none, none, none, none, none, none, none, none, none, none] ⟨rfl, rfl, rfl, rfl, rfl, rfl, rfl, rfl, rfl, rfl, trivial⟩ ?_
  refine wp_iconst d_108_127 ?_
  refine wp_istore d_108_128 (by decide) ?_
  refine wp_to [some (vR (some sa)), some (vI tm), some (vR (some G)), some (vR (some (G + 1))), some (vI st), some (vI z_85), some (vI z_95), some (vI z_104), some (vI lg), some (vL (dgV h_116 (G + 1))), none, some (vI (-1)), none, none, none, none, none, none, none, none, none, none, none] ⟨rfl, rfl, rfl, rfl, rfl, rfl, rfl, rfl, rfl, rfl, rfl, trivial⟩ ?_
  refine wp_iconst d_108_130 ?_
  refine wp_istore d_108_131 (by decide) ?_
  refine wp_to [some (vR (some sa)), some (vI tm), some (vR (some G)), some (vR (some (G + 1))), some (vI st), some (vI z_85), some (vI z_95), some (vI z_104), some (vI lg), some (vL (dgV h_116 (G + 1))), none, some (vI (-1)), some (vI ((0 : Nat) : Int)), none, none, none, none, none, none, none, none, none, none] ⟨rfl, rfl, rfl, rfl, rfl, rfl, rfl, rfl, rfl, rfl, rfl, rfl, trivial⟩ ?_
  have N4 : hi h_116 (G + 1 + 1) = hi h (G + 1 + 1) := by rw [N_116, N_104, N_95, N_85]
  clear N_116 N_104 N_95 N_85 K_85 K_95 K_104 M_85 M_95 M_104 C_85 C_95 C_104 c_116 u_116 F_85 F_95 F_104 D_85 D_95 D_104
  refine l_lwBody1 hT1 ho1 hd1 hT2 (D := D + 3) (by omega) E6 hlg L_116 (fun hX z9 LX hz9 => ?_)
  refine l_lwBody2 hT1 ho1 hd1 hT2 (D := D + 4) (by omega) (lt := z_104 + 1 + z9) E6 ⟨by omega, by omega⟩ (LX.up (by omega)) (fun hY LY => ?_)
  exact l_lwBody3 hT1 ho1 hd1 hT2 (D := D + 4) (by omega) E6 hK hst rfl LY (fun h9 y1 y2 y3 => kk h9 y1 y2 (y3.trans N4))
set_option maxRecDepth 100000 in
set_option maxHeartbeats 4000000 in
theorem l_lwSteps {G sa X A B : Nat} {tm : Int} {Q : Option AV → Hp → Prop} : ∀ (n : Nat) (h : Hp) (st D : Int), 0 ≤ st → st + n = 5 → DrS h G sa X D → (∃ g, FaS h (G + 1) X g A B) → 3 ≤ hi h (G + 1 + 1) 4 → 1 ≤ hi h (G + 1 + 1) 6 → 1 ≤ hi h (G + 1 + 1) 7 → D + 9 * n ≤ 300000 → (∀ h', DrS h' G sa X (D + 9 * n) → (∃ g, FaS h' (G + 1) X g A B) → wp 108 783 [some (vR (some sa)), some (vI tm), some (vR (some G)), some (vR (some (G + 1))), some (vI 5), none, none, none, none, none, none, none, none, none, none, none, none, none, none, none, none, none, none] [] h' Q noX) → wp 108 42 [some (vR (some sa)), some (vI tm), some (vR (some G)), some (vR (some (G + 1))), some (vI st), none, none, none, none, none, none, none, none, none, none, none, none, none, none, none, none, none, none] [] h Q noX := by
  intro n
  induction n with
  | zero =>
    intro h st D h0 hn q F h4 hc ht hD kk
    refine wp_iload d_108_42 (by rfl) ?_
    refine wp_iconst d_108_44 ?_
    refine wp_icmp_ge (tgt := 783) d_108_45 (by decide) (by omega) (by omega) (fun c_45 => ?_) (fun c_45 => ?_)
    rotate_left
    · exact absurd c_45 (by omega)
    have e5 : st = 5 := by omega
    subst e5
    refine wp_to [some (vR (some sa)), some (vI tm), some (vR (some G)), some (vR (some (G + 1))), some (vI 5), none, none, none, none, none, none, none, none, none, none, none, none, none, none, none, none, none, none] ⟨rfl, rfl, rfl, rfl, rfl, trivial⟩ ?_
    exact kk h (q.up (by omega)) F
  | succ n ih =>
    intro h st D h0 hn q F h4 hc ht hD kk
    refine wp_iload d_108_42 (by rfl) ?_
    refine wp_iconst d_108_44 ?_
    refine wp_icmp_ge (tgt := 783) d_108_45 (by decide) (by omega) (by omega) (fun c_45 => ?_) (fun c_45 => ?_)
    · exact absurd c_45 (by omega)
    refine wp_to [some (vR (some sa)), some (vI tm), some (vR (some G)), some (vR (some (G + 1))), some (vI st), none, none, none, none, none, none, none, none, none, none, none, none, none, none, none, none, none, none] ⟨rfl, rfl, rfl, rfl, rfl, trivial⟩ ?_
    refine l_lwZ1 ⟨h0, by omega⟩ q F h4 hc ht (by omega) (fun hA qA FA nA => ?_)
    have a4 := congrFun nA 4
    have a6 := congrFun nA 6
    have a7 := congrFun nA 7
    refine l_lwStep ⟨h0, by omega⟩ qA FA (by omega) (by omega) (by omega) (by omega) (fun hB qB FB nB => ?_)
    have b4 := congrFun nB 4
    have b6 := congrFun nB 6
    have b7 := congrFun nB 7
    exact ih hB (st + 1) (D + 9) (by omega) (by omega) (qB.up (by omega)) FB (by omega) (by omega) (by omega) (by omega) (fun h' y1 y2 => kk h' (y1.up (by omega)) y2)
set_option maxRecDepth 100000 in
set_option maxHeartbeats 4000000 in
theorem l_lwNext {G sa : Nat} {tm : Int} {h : Hp} {Q : Option AV → Hp → Prop} (kk : wp 108 2 [some (vR (some sa)), some (vI (tm + 1)), some (vR (some G)), some (vR (some (G + 1))), some (vI 5), none, none, none, none, none, none, none, none, none, none, none, none, none, none, none, none, none, none] [] h Q noX) : wp 108 783 [some (vR (some sa)), some (vI tm), some (vR (some G)), some (vR (some (G + 1))), some (vI 5), none, none, none, none, none, none, none, none, none, none, none, none, none, none, none, none, none, none] [] h Q noX := by
  refine wp_iinc d_108_783 (by rfl) (by decide) ?_
  refine wp_goto (tgt := 2) d_108_786 (by decide) ?_
  refine wp_to [some (vR (some sa)), some (vI (tm + 1)), some (vR (some G)), some (vR (some (G + 1))), some (vI 5), none, none, none, none, none, none, none, none, none, none, none, none, none, none, none, none, none, none] ⟨rfl, rfl, rfl, rfl, rfl, trivial⟩ ?_
  exact kk
set_option maxRecDepth 100000 in
set_option maxHeartbeats 4000000 in
theorem l_lwTables {sa : Nat} : ∀ (r : Nat) (h : Hp) (tm : Int), 0 ≤ tm → tm + r = 3 → kd h sa = 200 → (0 ≤ ln h sa ∧ ln h sa ≤ 1000) → sa < nx h → nx h + r * 21000 ≤ cn h → us h + r * 750000 ≤ cs h → wp 108 2 [some (vR (some sa)), some (vI tm), none, none, none, none, none, none, none, none, none, none, none, none, none, none, none, none, none, none, none, none, none] [] h (fun v _ => v = some (vI 1)) noX := by
  intro r
  induction r with
  | zero =>
    intro h tm h0 hr hk hl hs r1 r2
    refine wp_iload_n d_108_2 (by rfl) ?_
    refine wp_iconst d_108_3 ?_
    refine wp_icmp_ge (tgt := 789) d_108_4 (by decide) (by omega) (by omega) (fun c_4 => ?_) (fun c_4 => ?_)
    rotate_left
    · exact absurd c_4 (by omega)
    refine wp_iconst d_108_789 ?_
    refine wp_zret d_108_790 rfl (by omega) ?_
    rfl
  | succ r ih =>
    intro h tm h0 hr hk hl hs r1 r2
    refine wp_iload_n d_108_2 (by rfl) ?_
    refine wp_iconst d_108_3 ?_
    refine wp_icmp_ge (tgt := 789) d_108_4 (by decide) (by omega) (by omega) (fun c_4 => ?_) (fun c_4 => ?_)
    · exact absurd c_4 (by omega)
    refine wp_new (ci := 12) d_108_7 cl_13_9 ci12 ⟨_, rfl⟩ (by decide) (by omega) (by omega) ?_
    refine wp_dup d_108_10 (by rfl) ?_
    refine wp_aload_n d_108_11 (by rfl) ?_
    refine wp_bipush d_108_12 (by decide) ?_
    refine wp_iload_n d_108_14 (by rfl) ?_
    refine wp_imul d_108_15 ?_
    refine wp_bipush d_108_16 (by decide) ?_
    refine wp_iadd d_108_18 ?_
    refine wp_callI d_108_19 c_108_11 rfl rfl (by rfl) (by rfl) (by exact Nat.le_of_ble_eq_true rfl) (by exact Nat.le_of_ble_eq_true rfl) (s_TbInit (D := 37 * tm + 9) hk hl hs ⟨by omega, by omega⟩ (by omega) (by omega)) (fun v_19 h_19 q_19 => ?_) (fun _ _ q => q.elim)
    obtain ⟨rfl, tb1, tb2, tb3, tb4, tb5, ⟨⟨t4, t5, t6, t7⟩, tz⟩, tb7, tb8, ⟨u2, u3, u5, u7, u9⟩, tb10⟩ := q_19
    have m0 := tb4.1.2.1
    have hc_ := tb1.2.2.2.2.1
    have hd_ := tb1.2.2.2.2.2
    have kT_ := tb4.1.1
    have g0 : GT h_19 (nx h + 1) (nx h + 200) (nx h_19) := GT.none t4 t5 t6 t7 tz ⟨by omega, by omega, Nat.le_refl _⟩
    have q0 : DrS h_19 (nx h) sa (nx h_19) (37 * tm + 9) := by
      refine ⟨tb4, tb5, ⟨g0, ⟨by rw [t4]; exact u3, by rw [t5]; exact u5, by rw [t6]; exact u7, by rw [t7]; exact u9⟩, fun c d c0 c1 => by omega, fun t x0 x1 => by omega, fun t d x0 x1 d0 d1 => ?_⟩, ⟨by omega, by omega, by omega, by omega⟩, by omega, by omega⟩
      rw [if_neg (by omega)]
      exact tb10 t.toNat d (by omega)
    refine wp_astore_n d_108_22 (by decide) ?_
    refine wp_aload_n d_108_23 (by rfl) ?_
    refine wp_getR (0) d_108_24 fl_13_14 rfl rfl (by first | assumption | (rw [kd_mkO, up1_same])) (by assumption) ?_
    refine wp_astore_n d_108_27 (by decide) ?_
    refine wp_aload_n d_108_28 (by rfl) ?_
    refine wp_bipush d_108_29 (by decide) ?_
    refine wp_callV d_108_31 c_108_18 rfl (by rfl) (by rfl) ⟨12, rfl, rfl, by decide⟩ (by first | assumption | (rw [kd_mkO, up1_same])) (by exact Nat.le_of_ble_eq_true rfl) (by exact Nat.le_of_ble_eq_true rfl) (s_make q0 (by omega) t4 t5 t6 t7 (by omega) (by omega)) (fun v_31 h_31 q_31 => ?_) (fun _ _ q => q.elim)
    obtain ⟨rfl, y1, y2, y3, y4, y5, y6, y7⟩ := q_31
    have f0 := tb7 (r * 21000 + 45) (r * 750000 + 3544) (by omega) (by omega)
    have hc9 := y2.2.2.2.2.1
    have hd9 := y2.2.2.2.2.2
    have f1 := f0.1.grow (A' := r * 21000) (B' := r * 750000) (X' := nx h_31) f0.2 y2 (fun a z y => by have z : a = nx h ∨ (nx h + 2 ≤ a ∧ a ≤ nx h + 6) ∨ nx h + 155 ≤ a := z; omega) (fun a z y => by have z : (nx h + 4 ≤ a ∧ a ≤ nx h + 6) ∨ a = nx h + 156 := z; omega) (by have := y2.1; omega) (Nat.le_refl _) (by omega) (by omega)
    refine wp_if_ne (tgt := 39) d_108_34 (by decide) (by omega) (fun c_34 => ?_) (fun c_34 => ?_)
    rotate_left
    · exact absurd c_34 (by omega)
    refine wp_iconst d_108_39 ?_
    refine wp_istore d_108_40 (by decide) ?_
    refine wp_to [some (vR (some sa)), some (vI tm), some (vR (some (nx h))), some (vR (some (nx h + 1))), some (vI 0), none, none, none, none, none, none, none, none, none, none, none, none, none, none, none, none, none, none] ⟨rfl, rfl, rfl, rfl, rfl, trivial⟩ ?_
    refine l_lwSteps 5 h_31 0 (37 * tm + 9 + 300) (by omega) (by omega) y1 ⟨0, f1.1⟩ y5.1 y6 (by omega) (by omega) (fun h' z1 z2 => ?_)
    obtain ⟨g, fg⟩ := z2
    have fl := fg.left
    obtain ⟨s1, s2, s3, s4⟩ := z1.1.2.2.2
    exact l_lwNext (wp_to [some (vR (some sa)), some (vI (tm + 1)), none, none, none, none, none, none, none, none, none, none, none, none, none, none, none, none, none, none, none, none, none] ⟨rfl, rfl, trivial⟩ (ih h' (tm + 1) (by omega) (by omega) s1 s2 (by omega) (by omega) (by omega)))
set_option maxRecDepth 100000 in
set_option maxHeartbeats 4000000 in
theorem s_law {s w : Nat} {L : Int} {h : Hp} (hk : kd h s = 200) (hl : ln h s = L) (hL : 0 ≤ L ∧ L ≤ 1000) (hn : nx h = w) (hs : s < w) (r1 : w + 63000 ≤ cn h) (r2 : us h + 2250000 ≤ cs h) : wp 108 0 (entL [vR (some s)] (mL 108)) [] h (fun v _ => v = some (vI 1)) noX := by
  refine wp_iconst d_108_0 ?_
  refine wp_istore_n d_108_1 (by decide) ?_
  refine wp_to [some (vR (some s)), some (vI 0), none, none, none, none, none, none, none, none, none, none, none, none, none, none, none, none, none, none, none, none, none] ⟨rfl, rfl, trivial⟩ ?_
  exact l_lwTables 3 h 0 (by omega) (by omega) hk (by rw [hl]; exact hL) (by omega) (by omega) (by omega)
