/-! ===== a step of the law: prices, legs ===== -/
theorem LI.kp {h h1 : Hp} {G sa X A B : Nat} {D : Int} (q : LI h1 h G sa X D A B) (hT1 : TT h1 (G + 1) X) {o d T e : Int} {K n : Nat} (kp : Kp h1 (G + 1) o d T e K n) : Kp h (G + 1) o d T e K n := Kp.kept hT1 q.2.2 offL (fun a z y => by unfold PL at z; have := hT1.2.2.2.2.2.2.2; omega) (fun a z y => by unfold RLw at z; have := hT1.2.2.2.2.2.2.2; omega) kp
theorem LI.j {h h1 : Hp} {G sa X A B : Nat} {D : Int} (q : LI h1 h G sa X D A B) (hT1 : TT h1 (G + 1) X) : hi h (G + 1 + 146) = hi h1 (G + 1 + 146) := by
  have := hT1.2.2.2.2.2.2
  exact funext fun k => q.2.2.2.2.1 _ k (by omega) (fun z => by unfold PL at z; omega)
theorem LI.ch {h h1 : Hp} {G sa X A B : Nat} {D : Int} (q : LI h1 h G sa X D A B) (hT1 : TT h1 (G + 1) X) {o d T L z : Int} (c : Ch h (G + 1) o T L d z) : Ch h1 (G + 1) o T L d z := by
  have je := q.je hT1
  unfold Ch at c ⊢
  rw [je.1, je.2.1, je.2.2] at c
  exact c
theorem an_v {z : Int} (h : z < 1000000000) : an z = z := by unfold an; rw [if_pos h]
theorem an_n : an 1000000000 = -1 := rfl
set_option maxRecDepth 100000 in
set_option maxHeartbeats 4000000 in
theorem l_lwE {h1 : Hp} {G sa X A B : Nat} {tm st o d T lg V D e6 : Int} {Q : Option AV → Hp → Prop} (hT1 : TT h1 (G + 1) X) (ho : 0 ≤ o ∧ o < hi h1 (G + 1 + 1) 4) (hd : 0 ≤ d ∧ d < hi h1 (G + 1 + 1) 4) (hT : 0 ≤ T ∧ T < 7000) (hD : D ≤ 500000) (E6 : Ea h1 (G + 1) o T 2880 6 d e6) {K n : Nat} (kp1 : Kp h1 (G + 1) o d T e6 K n) (K6 : K ≤ 6) (he : e6 < 1000000000) {h : Hp} (q : LI h1 h G sa X D A B) (w6 : T ≤ e6 ∧ e6 ≤ T + 2880) (kk : ∀ h', LI h1 h' G sa X D A B → wp 108 563 [some (vR (some sa)), some (vI tm), some (vR (some G)), some (vR (some (G + 1))), some (vI st), some (vI o), some (vI d), some (vI T), some (vI lg), some (vL V), none, none, some (vI e6), none, none, none, none, none, none, none, none, none, none] [] h' Q noX) : wp 108 478 [some (vR (some sa)), some (vI tm), some (vR (some G)), some (vR (some (G + 1))), some (vI st), some (vI o), some (vI d), some (vI T), some (vI lg), some (vL V), none, none, some (vI e6), none, none, none, none, none, none, none, none, none, none] [] h Q noX := by
  have hS := q.sk
  have hTT := q.tt
  have n4 := congrFun (q.n hT1) 4
  have kS : kd h (G + 1) = 1 := hS.1.1
  have kT : kd h G = 13 := q.1.1.1.1
  obtain ⟨kp_1, -, -, -, -, -, -, -, -, kp_p, kp_j, kp_t⟩ := kp1
  have P1 : ∃ j t, j ≤ 6 ∧ JE (hi h1 (G + 1 + 2)) (Wy h1 (G + 1)) (Ra h1 (G + 1)) o T e6 j d t (hi h1 (G + 1 + 146) 13) := by
    obtain ⟨t1, y1, y2⟩ := JE.earlier (L := e6) hT1.net ho (Int.le_refl T) kp_j (Int.le_refl _)
    exact ⟨K, t1, K6, y2⟩
  have m1 : min e6 (T + 2880) = e6 := by omega
  have m2 : min (T + 4000) (T + 2880) = T + 2880 := by omega
  refine wp_aload_n d_108_478 (by rfl) ?_
  refine wp_iload d_108_479 (by rfl) ?_
  refine wp_iload d_108_481 (by rfl) ?_
  refine wp_iload d_108_483 (by rfl) ?_
  refine wp_iload d_108_485 (by rfl) ?_
  refine wp_callV d_108_487 c_108_63 rfl (by rfl) (by rfl) ⟨0, rfl, rfl, by decide⟩ (by assumption) (by exact Nat.le_of_ble_eq_true rfl) (by exact Nat.le_of_ble_eq_true rfl) (s_cheapest (X := X) hS hTT q.2.1 (by omega) (by omega) (by omega) ⟨by omega, by omega⟩) (fun v_487 h_487 q_487 => ?_) (fun _ _ q => q.elim)
  obtain ⟨c_487, F_487, p_487, rfl, u_487⟩ := q_487
  have L_487 := q.cheap c_487 F_487
  have v_487 := q.ch hT1 u_487
  have S_487 := L_487.sk
  have T_487 := L_487.tt
  have n_487 := congrFun (L_487.n hT1) 4
  have kS_487 : kd h_487 (G + 1) = 1 := S_487.1.1
  have kT_487 : kd h_487 G = 13 := L_487.1.1.1.1
  rw [m1] at v_487
  have f_487 : 0 ≤ p_487 ∧ p_487 ≤ hi h1 (G + 1 + 146) 13 := by
    obtain ⟨j, t, y1, y2⟩ := P1
    exact ⟨v_487.1, v_487.2.2.2 j t _ y1 y2⟩
  have a_487 : an p_487 = p_487 := an_v (by omega)
  refine wp_istore d_108_490 (by decide) ?_
  refine wp_aload_n d_108_492 (by rfl) ?_
  refine wp_iload d_108_493 (by rfl) ?_
  refine wp_iload d_108_495 (by rfl) ?_
  refine wp_iload d_108_497 (by rfl) ?_
  refine wp_iload d_108_499 (by rfl) ?_
  refine wp_sipush d_108_501 (by decide) ?_
  refine wp_iadd d_108_504 ?_
  refine wp_callV d_108_505 c_108_63 rfl (by rfl) (by rfl) ⟨0, rfl, rfl, by decide⟩ (by assumption) (by exact Nat.le_of_ble_eq_true rfl) (by exact Nat.le_of_ble_eq_true rfl) (s_cheapest (X := X) S_487 T_487 F_487 (by omega) (by omega) (by omega) ⟨by omega, by omega⟩) (fun v_505 h_505 q_505 => ?_) (fun _ _ q => q.elim)
  obtain ⟨c_505, F_505, p_505, rfl, u_505⟩ := q_505
  have L_505 := L_487.cheap c_505 F_505
  have v_505 := L_487.ch hT1 u_505
  have S_505 := L_505.sk
  have T_505 := L_505.tt
  have n_505 := congrFun (L_505.n hT1) 4
  have kS_505 : kd h_505 (G + 1) = 1 := S_505.1.1
  have kT_505 : kd h_505 G = 13 := L_505.1.1.1.1
  rw [m2] at v_505
  have f_505 : 0 ≤ p_505 ∧ p_505 ≤ p_487 := by
    refine ⟨v_505.1, ?_⟩
    rcases v_487.2.2.1 with z | ⟨j, t, y1, y2⟩
    · omega
    · have := JE.le (by omega) y2
      obtain ⟨t1, x1, x2⟩ := JE.earlier (L := T + 2880) hT1.net ho (Int.le_refl T) y2 (by omega)
      exact v_505.2.2.2 j t1 _ y1 x2
  have a_505 : an p_505 = p_505 := an_v (by omega)
  have k1_505 : hi h_505 (G + 1 + 146) 0 = 1 := by rw [L_505.j hT1]; exact kp_1
  have k13_505 : hi h_505 (G + 1 + 146) 13 = hi h1 (G + 1 + 146) 13 := by rw [L_505.j hT1]
  clear P1
  refine wp_istore d_108_508 (by decide) ?_
  refine wp_iload d_108_510 (by rfl) ?_
  refine wp_if_lt (tgt := 561) d_108_512 (by decide) (by omega) (fun c_512 => ?_) (fun c_512 => ?_)
  · exact absurd c_512 (by omega)
  refine wp_iload d_108_515 (by rfl) ?_
  refine wp_if_lt (tgt := 561) d_108_517 (by decide) (by omega) (fun c_517 => ?_) (fun c_517 => ?_)
  · exact absurd c_517 (by omega)
  refine wp_iload d_108_520 (by rfl) ?_
  refine wp_iload d_108_522 (by rfl) ?_
  refine wp_icmp_gt (tgt := 561) d_108_524 (by decide) (by omega) (by omega) (fun c_524 => ?_) (fun c_524 => ?_)
  · exact absurd c_524 (by omega)
  refine wp_iload d_108_527 (by rfl) ?_
  refine wp_aload_n d_108_529 (by rfl) ?_
  refine wp_callV d_108_530 c_108_66 rfl (by rfl) (by rfl) ⟨0, rfl, rfl, by decide⟩ (by assumption) (by exact Nat.le_of_ble_eq_true rfl) (by exact Nat.le_of_ble_eq_true rfl) (s_price S_505 k1_505) (fun v_530 h_530 q_530 => ?_) (fun _ _ q => q.elim)
  obtain ⟨rfl, z_530⟩ := q_530
  replace z_530 := z_530.symm
  subst z_530
  refine wp_icmp_gt (tgt := 561) d_108_533 (by decide) (by omega) (by omega) (fun c_533 => ?_) (fun c_533 => ?_)
  · exact absurd c_533 (by omega)
  refine wp_iload d_108_536 (by rfl) ?_
  refine wp_iload d_108_538 (by rfl) ?_
  refine wp_icmp_le (tgt := 563) d_108_540 (by decide) (by omega) (by omega) (fun c_540 => ?_) (fun c_540 => ?_)
  · refine wp_to [some (vR (some sa)), some (vI tm), some (vR (some G)), some (vR (some (G + 1))), some (vI st), some (vI o), some (vI d), some (vI T), some (vI lg), some (vL V), none, none, some (vI e6), none, none, none, none, none, none, none, none, none, none] ⟨rfl, rfl, rfl, rfl, rfl, rfl, rfl, rfl, rfl, rfl, rfl, trivial⟩ ?_
    first
      | exact kk h_554 L_554
      | exact kk h_505 L_505
  · refine wp_aload_n d_108_543 (by rfl) ?_
    refine wp_iload d_108_544 (by rfl) ?_
    refine wp_iload d_108_546 (by rfl) ?_
    refine wp_iload d_108_548 (by rfl) ?_
    refine wp_iload d_108_550 (by rfl) ?_
    refine wp_iconst d_108_552 ?_
    refine wp_isub d_108_553 ?_
    refine wp_callV d_108_554 c_108_63 rfl (by rfl) (by rfl) ⟨0, rfl, rfl, by decide⟩ (by assumption) (by exact Nat.le_of_ble_eq_true rfl) (by exact Nat.le_of_ble_eq_true rfl) (s_cheapest (X := X) S_505 T_505 F_505 (by omega) (by omega) (by omega) ⟨by omega, by omega⟩) (fun v_554 h_554 q_554 => ?_) (fun _ _ q => q.elim)
    obtain ⟨c_554, F_554, p_554, rfl, u_554⟩ := q_554
    have L_554 := L_505.cheap c_554 F_554
    have v_554 := L_505.ch hT1 u_554
    have S_554 := L_554.sk
    have T_554 := L_554.tt
    have n_554 := congrFun (L_554.n hT1) 4
    have kS_554 : kd h_554 (G + 1) = 1 := S_554.1.1
    have kT_554 : kd h_554 G = 13 := L_554.1.1.1.1
    have m3 : min (e6 - 1) (T + 2880) = e6 - 1 := by omega
    rw [m3] at v_554
    have a_554 : an p_554 = -1 := by
      rcases v_554.2.2.1 with z | ⟨j, t, y1, y2⟩
      · rw [z]; exact an_n
      · have := JE.le (by omega) y2
        obtain ⟨t1, x1, x2⟩ := JE.earlier (L := T + 2880) hT1.net ho (Int.le_refl T) y2 (by omega)
        have := E6.2 j t1 _ y1 x2
        omega
    refine wp_iconst d_108_557 ?_
    refine wp_icmp_eq (tgt := 563) d_108_558 (by decide) (by omega) (by omega) (fun c_558 => ?_) (fun c_558 => ?_)
    rotate_left
    · exact absurd c_558 (by omega)
    refine wp_to [some (vR (some sa)), some (vI tm), some (vR (some G)), some (vR (some (G + 1))), some (vI st), some (vI o), some (vI d), some (vI T), some (vI lg), some (vL V), none, none, some (vI e6), none, none, none, none, none, none, none, none, none, none] ⟨rfl, rfl, rfl, rfl, rfl, rfl, rfl, rfl, rfl, rfl, rfl, trivial⟩ ?_
    first
      | exact kk h_554 L_554
      | exact kk h_505 L_505
