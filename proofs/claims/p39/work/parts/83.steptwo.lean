/-! the stops that are reached within 700 minutes -/
noncomputable def cw (h : Hp) (w : Nat) (o T s : Int) : Int := @ite Int (∃ j t p, j ≤ 6 ∧ JE (hi h (w + 2)) (Wy h w) (Ra h w) o T (T + 700) j s t p) (Classical.propDecidable _) 1 0
theorem cw_e {h : Hp} {w X : Nat} {o T s e : Int} (hT1 : TT h w X) (ho : 0 ≤ o ∧ o < hi h (w + 1) 4) (hT : 0 ≤ T ∧ T < 7000) (q : Ea h w o T 2880 6 s e) : (cw h w o T s = 1 ∧ e ≤ T + 700) ∨ (cw h w o T s = 0 ∧ ¬ e ≤ T + 700) := by
  unfold cw
  by_cases c : ∃ j t p, j ≤ 6 ∧ JE (hi h (w + 2)) (Wy h w) (Ra h w) o T (T + 700) j s t p
  · rw [if_pos c]
    refine Or.inl ⟨rfl, ?_⟩
    obtain ⟨j, t, p, j6, je⟩ := c
    have := JE.le (by omega) je
    obtain ⟨t1, y1, y2⟩ := JE.earlier (L := T + 2880) hT1.net ho (Int.le_refl T) je (by omega)
    have := q.2 j t1 p j6 y2
    omega
  · rw [if_neg c]
    refine Or.inr ⟨rfl, fun z => c ?_⟩
    rcases q.1 with y | ⟨j, p, j6, je⟩
    · omega
    · obtain ⟨t1, y1, y2⟩ := JE.earlier (L := T + 700) hT1.net ho (Int.le_refl T) je z
      exact ⟨j, t1, p, j6, y2⟩
theorem cw_r {h : Hp} {w X : Nat} {o T s e : Int} (hT1 : TT h w X) (hT : 0 ≤ T ∧ T < 7000) (q : Ea h w o T 700 6 s e) : wi e = cw h w o T s := by
  unfold cw wi
  by_cases c : ∃ j t p, j ≤ 6 ∧ JE (hi h (w + 2)) (Wy h w) (Ra h w) o T (T + 700) j s t p
  · rw [if_pos c]
    obtain ⟨j, t, p, j6, je⟩ := c
    have := JE.le (by omega) je
    have := q.2 j t p j6 je
    rw [if_pos (by omega)]
  · rw [if_neg c]
    rcases q.1 with y | ⟨j, p, j6, je⟩
    · rw [if_neg (by omega)]
    · exact absurd ⟨j, e, p, j6, je⟩ c
set_option maxRecDepth 100000 in
set_option maxHeartbeats 4000000 in
theorem l_lwSum {h1 : Hp} {G sa X A B : Nat} {tm st o d T lg V D e6 : Int} {Q : Option AV → Hp → Prop} (hT1 : TT h1 (G + 1) X) (ho : 0 ≤ o ∧ o < hi h1 (G + 1 + 1) 4) (hd : 0 ≤ d ∧ d < hi h1 (G + 1 + 1) 4) (hT : 0 ≤ T ∧ T < 7000) (hD : D ≤ 500000) : ∀ (n p : Nat) (h : Hp), (p : Int) + n = hi h1 (G + 1 + 1) 4 → LI h1 h G sa X D A B → (0 ≤ sm (cw h1 (G + 1) o T) p ∧ sm (cw h1 (G + 1) o T) p ≤ p) → (∀ h', LI h1 h' G sa X D A B → wp 108 455 [some (vR (some sa)), some (vI tm), some (vR (some G)), some (vR (some (G + 1))), some (vI st), some (vI o), some (vI d), some (vI T), some (vI lg), some (vL V), none, none, some (vI (an e6)), none, none, none, some (vI (sm (cw h1 (G + 1) o T) (hi h1 (G + 1 + 1) 4).toNat)), none, none, none, none, none, none] [] h' Q noX) → wp 108 398 [some (vR (some sa)), some (vI tm), some (vR (some G)), some (vR (some (G + 1))), some (vI st), some (vI o), some (vI d), some (vI T), some (vI lg), some (vL V), none, none, some (vI (an e6)), none, none, none, some (vI (sm (cw h1 (G + 1) o T) p)), some (vI ((p : Int))), none, none, none, none, none] [] h Q noX := by
  intro n
  induction n with
  | zero =>
    intro p h hp q hs kk
    have hS := q.sk
    have hTT := q.tt
    have n4 := congrFun (q.n hT1) 4
    have kS : kd h (G + 1) = 1 := hS.1.1
    have kT : kd h G = 13 := q.1.1.1.1
    have rn3 := q.1.2.2.1.2.1.1
    have n16 := hT1.1
    refine wp_iload d_108_398 (by rfl) ?_
    refine wp_aload_n d_108_400 (by rfl) ?_
    refine wp_getI (3) d_108_401 fl_13_33 rfl rfl (by assumption) (fun x_401 e_401 r_401 => ?_)
    subst e_401
    refine wp_icmp_ge (tgt := 455) d_108_404 (by decide) (by omega) (by omega) (fun c_404 => ?_) (fun c_404 => ?_)
    rotate_left
    · exact absurd c_404 (by omega)
    have ep : (hi h1 (G + 1 + 1) 4).toNat = p := by omega
    rw [ep] at kk
    refine wp_to [some (vR (some sa)), some (vI tm), some (vR (some G)), some (vR (some (G + 1))), some (vI st), some (vI o), some (vI d), some (vI T), some (vI lg), some (vL V), none, none, some (vI (an e6)), none, none, none, some (vI (sm (cw h1 (G + 1) o T) p)), none, none, none, none, none, none] ⟨rfl, rfl, rfl, rfl, rfl, rfl, rfl, rfl, rfl, rfl, rfl, rfl, trivial⟩ (kk h q)
  | succ n ih =>
    intro p h hp q hs kk
    have hS := q.sk
    have hTT := q.tt
    have n4 := congrFun (q.n hT1) 4
    have kS : kd h (G + 1) = 1 := hS.1.1
    have kT : kd h G = 13 := q.1.1.1.1
    have rn3 := q.1.2.2.1.2.1.1
    have n16 := hT1.1
    refine wp_iload d_108_398 (by rfl) ?_
    refine wp_aload_n d_108_400 (by rfl) ?_
    refine wp_getI (3) d_108_401 fl_13_33 rfl rfl (by assumption) (fun x_401 e_401 r_401 => ?_)
    subst e_401
    refine wp_icmp_ge (tgt := 455) d_108_404 (by decide) (by omega) (by omega) (fun c_404 => ?_) (fun c_404 => ?_)
    · exact absurd c_404 (by omega)
    refine wp_iload d_108_407 (by rfl) ?_
    refine wp_aload_n d_108_409 (by rfl) ?_
    refine wp_iload d_108_410 (by rfl) ?_
    refine wp_iload d_108_412 (by rfl) ?_
    refine wp_iload d_108_414 (by rfl) ?_
    refine wp_callV d_108_416 c_108_51 rfl (by rfl) (by rfl) ⟨0, rfl, rfl, by decide⟩ (by assumption) (by exact Nat.le_of_ble_eq_true rfl) (by exact Nat.le_of_ble_eq_true rfl) (s_earliest (X := X) hS hTT (by omega) (by omega) (by omega)) (fun v_416 h_416 q_416 => ?_) (fun _ _ q => q.elim)
    obtain ⟨c_416, e_416, rfl, u_416⟩ := q_416
    have L_416 := q.call c_416 (fun a z => po_in z) (fun a z => pq_in z)
    have v_416 := q.ea hT1 u_416
    have S_416 := L_416.sk
    have T_416 := L_416.tt
    have n_416 := congrFun (L_416.n hT1) 4
    have kS_416 : kd h_416 (G + 1) = 1 := S_416.1.1
    have kT_416 : kd h_416 G = 13 := L_416.1.1.1.1
    have w_416 := an_c hT1 ho (by decide) (by omega) v_416
    have b_416 := cw_e hT1 ho hT v_416
    refine wp_if_lt (tgt := 445) d_108_419 (by decide) (by omega) (fun c_419 => ?_) (fun c_419 => ?_)
    · refine wp_iconst d_108_445 ?_
      refine wp_iadd d_108_446 ?_
      refine wp_istore d_108_447 (by decide) ?_
      refine wp_iinc d_108_449 (by rfl) (by decide) ?_
      refine wp_goto (tgt := 398) d_108_452 (by decide) ?_
      have sp : sm (cw h1 (G + 1) o T) (p + 1) = sm (cw h1 (G + 1) o T) p + cw h1 (G + 1) o T p := rfl
      first
        | exact wp_to [some (vR (some sa)), some (vI tm), some (vR (some G)), some (vR (some (G + 1))), some (vI st), some (vI o), some (vI d), some (vI T), some (vI lg), some (vL V), none, none, some (vI (an e6)), none, none, none, some (vI (sm (cw h1 (G + 1) o T) (p + 1))), some (vI (((p + 1 : Nat) : Int))), none, none, none, none, none] ⟨rfl, rfl, rfl, rfl, rfl, rfl, rfl, rfl, rfl, rfl, rfl, congrArg (fun z => some (vI z)) (by omega), rfl, trivial⟩ (ih (p + 1) h_429 (by omega) L_429 ⟨by omega, by omega⟩ kk)
        | exact wp_to [some (vR (some sa)), some (vI tm), some (vR (some G)), some (vR (some (G + 1))), some (vI st), some (vI o), some (vI d), some (vI T), some (vI lg), some (vL V), none, none, some (vI (an e6)), none, none, none, some (vI (sm (cw h1 (G + 1) o T) (p + 1))), some (vI (((p + 1 : Nat) : Int))), none, none, none, none, none] ⟨rfl, rfl, rfl, rfl, rfl, rfl, rfl, rfl, rfl, rfl, rfl, congrArg (fun z => some (vI z)) (by omega), rfl, trivial⟩ (ih (p + 1) h_416 (by omega) L_416 ⟨by omega, by omega⟩ kk)
    · refine wp_aload_n d_108_422 (by rfl) ?_
      refine wp_iload d_108_423 (by rfl) ?_
      refine wp_iload d_108_425 (by rfl) ?_
      refine wp_iload d_108_427 (by rfl) ?_
      refine wp_callV d_108_429 c_108_51 rfl (by rfl) (by rfl) ⟨0, rfl, rfl, by decide⟩ (by assumption) (by exact Nat.le_of_ble_eq_true rfl) (by exact Nat.le_of_ble_eq_true rfl) (s_earliest (X := X) S_416 T_416 (by omega) (by omega) (by omega)) (fun v_429 h_429 q_429 => ?_) (fun _ _ q => q.elim)
      obtain ⟨c_429, e_429, rfl, u_429⟩ := q_429
      have L_429 := L_416.call c_429 (fun a z => po_in z) (fun a z => pq_in z)
      have v_429 := L_416.ea hT1 u_429
      have S_429 := L_429.sk
      have T_429 := L_429.tt
      have n_429 := congrFun (L_429.n hT1) 4
      have kS_429 : kd h_429 (G + 1) = 1 := S_429.1.1
      have kT_429 : kd h_429 G = 13 := L_429.1.1.1.1
      have w_429 := an_c hT1 ho (by decide) (by omega) v_429
      have b_429 := cw_e hT1 ho hT v_429
      have eu_429 : e_416 = e_429 := JL.uniq (by omega) (by omega) v_416 v_429
      refine wp_iload d_108_432 (by rfl) ?_
      refine wp_sipush d_108_434 (by decide) ?_
      refine wp_iadd d_108_437 ?_
      refine wp_icmp_gt (tgt := 445) d_108_438 (by decide) (by omega) (by omega) (fun c_438 => ?_) (fun c_438 => ?_)
      · refine wp_iconst d_108_445 ?_
        refine wp_iadd d_108_446 ?_
        refine wp_istore d_108_447 (by decide) ?_
        refine wp_iinc d_108_449 (by rfl) (by decide) ?_
        refine wp_goto (tgt := 398) d_108_452 (by decide) ?_
        have sp : sm (cw h1 (G + 1) o T) (p + 1) = sm (cw h1 (G + 1) o T) p + cw h1 (G + 1) o T p := rfl
        first
          | exact wp_to [some (vR (some sa)), some (vI tm), some (vR (some G)), some (vR (some (G + 1))), some (vI st), some (vI o), some (vI d), some (vI T), some (vI lg), some (vL V), none, none, some (vI (an e6)), none, none, none, some (vI (sm (cw h1 (G + 1) o T) (p + 1))), some (vI (((p + 1 : Nat) : Int))), none, none, none, none, none] ⟨rfl, rfl, rfl, rfl, rfl, rfl, rfl, rfl, rfl, rfl, rfl, congrArg (fun z => some (vI z)) (by omega), rfl, trivial⟩ (ih (p + 1) h_429 (by omega) L_429 ⟨by omega, by omega⟩ kk)
          | exact wp_to [some (vR (some sa)), some (vI tm), some (vR (some G)), some (vR (some (G + 1))), some (vI st), some (vI o), some (vI d), some (vI T), some (vI lg), some (vL V), none, none, some (vI (an e6)), none, none, none, some (vI (sm (cw h1 (G + 1) o T) (p + 1))), some (vI (((p + 1 : Nat) : Int))), none, none, none, none, none] ⟨rfl, rfl, rfl, rfl, rfl, rfl, rfl, rfl, rfl, rfl, rfl, congrArg (fun z => some (vI z)) (by omega), rfl, trivial⟩ (ih (p + 1) h_416 (by omega) L_416 ⟨by omega, by omega⟩ kk)
      · refine wp_iconst d_108_441 ?_
        refine wp_goto (tgt := 446) d_108_442 (by decide) ?_
        refine wp_iadd d_108_446 ?_
        refine wp_istore d_108_447 (by decide) ?_
        refine wp_iinc d_108_449 (by rfl) (by decide) ?_
        refine wp_goto (tgt := 398) d_108_452 (by decide) ?_
        have sp : sm (cw h1 (G + 1) o T) (p + 1) = sm (cw h1 (G + 1) o T) p + cw h1 (G + 1) o T p := rfl
        first
          | exact wp_to [some (vR (some sa)), some (vI tm), some (vR (some G)), some (vR (some (G + 1))), some (vI st), some (vI o), some (vI d), some (vI T), some (vI lg), some (vL V), none, none, some (vI (an e6)), none, none, none, some (vI (sm (cw h1 (G + 1) o T) (p + 1))), some (vI (((p + 1 : Nat) : Int))), none, none, none, none, none] ⟨rfl, rfl, rfl, rfl, rfl, rfl, rfl, rfl, rfl, rfl, rfl, congrArg (fun z => some (vI z)) (by omega), rfl, trivial⟩ (ih (p + 1) h_429 (by omega) L_429 ⟨by omega, by omega⟩ kk)
          | exact wp_to [some (vR (some sa)), some (vI tm), some (vR (some G)), some (vR (some (G + 1))), some (vI st), some (vI o), some (vI d), some (vI T), some (vI lg), some (vL V), none, none, some (vI (an e6)), none, none, none, some (vI (sm (cw h1 (G + 1) o T) (p + 1))), some (vI (((p + 1 : Nat) : Int))), none, none, none, none, none] ⟨rfl, rfl, rfl, rfl, rfl, rfl, rfl, rfl, rfl, rfl, rfl, congrArg (fun z => some (vI z)) (by omega), rfl, trivial⟩ (ih (p + 1) h_416 (by omega) L_416 ⟨by omega, by omega⟩ kk)
set_option maxRecDepth 100000 in
set_option maxHeartbeats 4000000 in
theorem l_lwReach {h1 : Hp} {G sa X A B : Nat} {tm st o d T lg V D e6 : Int} {Q : Option AV → Hp → Prop} (hT1 : TT h1 (G + 1) X) (ho : 0 ≤ o ∧ o < hi h1 (G + 1 + 1) 4) (hd : 0 ≤ d ∧ d < hi h1 (G + 1 + 1) 4) (hT : 0 ≤ T ∧ T < 7000) (hD : D ≤ 500000) {h : Hp} (q : LI h1 h G sa X D A B) (hs : 0 ≤ sm (cw h1 (G + 1) o T) (hi h1 (G + 1 + 1) 4).toNat ∧ sm (cw h1 (G + 1) o T) (hi h1 (G + 1 + 1) 4).toNat ≤ 16) (kk : ∀ h', LI h1 h' G sa X D A B → wp 108 473 [some (vR (some sa)), some (vI tm), some (vR (some G)), some (vR (some (G + 1))), some (vI st), some (vI o), some (vI d), some (vI T), some (vI lg), some (vL V), none, none, some (vI (an e6)), none, none, none, none, none, none, none, none, none, none] [] h' Q noX) : wp 108 455 [some (vR (some sa)), some (vI tm), some (vR (some G)), some (vR (some (G + 1))), some (vI st), some (vI o), some (vI d), some (vI T), some (vI lg), some (vL V), none, none, some (vI (an e6)), none, none, none, some (vI (sm (cw h1 (G + 1) o T) (hi h1 (G + 1 + 1) 4).toNat)), none, none, none, none, none, none] [] h Q noX := by
  have hS := q.sk
  have hTT := q.tt
  have n4 := congrFun (q.n hT1) 4
  have kS : kd h (G + 1) = 1 := hS.1.1
  have kT : kd h G = 13 := q.1.1.1.1
  have n16 := hT1.1
  refine wp_aload_n d_108_455 (by rfl) ?_
  refine wp_iload d_108_456 (by rfl) ?_
  refine wp_iload d_108_458 (by rfl) ?_
  refine wp_sipush d_108_460 (by decide) ?_
  refine wp_callV d_108_463 c_108_60 rfl (by rfl) (by rfl) ⟨0, rfl, rfl, by decide⟩ (by assumption) (by exact Nat.le_of_ble_eq_true rfl) (by exact Nat.le_of_ble_eq_true rfl) (s_reached (X := X) hS hTT (by omega) (by omega) (by omega)) (fun v_463 h_463 q_463 => ?_) (fun _ _ q => q.elim)
  obtain ⟨c_463, e_463, rfl, u_463⟩ := q_463
  have L_463 := q.call c_463 (fun a z => po_in z) (fun a z => pq_in z)
  have sq : sm (fun s => wi (e_463 s)) (hi h (G + 1 + 1) 4).toNat = sm (cw h1 (G + 1) o T) (hi h1 (G + 1 + 1) 4).toNat := by
    rw [n4]
    exact sm_congr (fun s hs => cw_r hT1 hT (q.ea hT1 (u_463 s (by omega) (by omega))))
  refine wp_iload d_108_466 (by rfl) ?_
  refine wp_icmp_eq (tgt := 473) d_108_468 (by decide) (by omega) (by omega) (fun c_468 => ?_) (fun c_468 => ?_)
  rotate_left
  · exact absurd c_468 (by omega)
  refine wp_to [some (vR (some sa)), some (vI tm), some (vR (some G)), some (vR (some (G + 1))), some (vI st), some (vI o), some (vI d), some (vI T), some (vI lg), some (vL V), none, none, some (vI (an e6)), none, none, none, none, none, none, none, none, none, none] ⟨rfl, rfl, rfl, rfl, rfl, rfl, rfl, rfl, rfl, rfl, rfl, trivial⟩ ?_
  exact kk h_463 L_463
set_option maxRecDepth 100000 in
set_option maxHeartbeats 4000000 in
theorem l_lwSkip {h1 : Hp} {G sa X A B : Nat} {tm st o d T lg V D e6 : Int} {Q : Option AV → Hp → Prop} (hT1 : TT h1 (G + 1) X) (ho : 0 ≤ o ∧ o < hi h1 (G + 1 + 1) 4) (hd : 0 ≤ d ∧ d < hi h1 (G + 1 + 1) 4) (hT : 0 ≤ T ∧ T < 7000) (hD : D ≤ 500000) {h : Hp} (w6 : (T ≤ e6 ∧ e6 ≤ T + 2880 ∧ an e6 = e6) ∨ (e6 = 1000000000 ∧ an e6 = -1)) (k1 : e6 = 1000000000 → wp 108 765 [some (vR (some sa)), some (vI tm), some (vR (some G)), some (vR (some (G + 1))), some (vI st), some (vI o), some (vI d), some (vI T), some (vI lg), some (vL V), none, none, none, none, none, none, none, none, none, none, none, none, none] [] h Q noX) (k2 : e6 < 1000000000 → wp 108 478 [some (vR (some sa)), some (vI tm), some (vR (some G)), some (vR (some (G + 1))), some (vI st), some (vI o), some (vI d), some (vI T), some (vI lg), some (vL V), none, none, some (vI e6), none, none, none, none, none, none, none, none, none, none] [] h Q noX) : wp 108 473 [some (vR (some sa)), some (vI tm), some (vR (some G)), some (vR (some (G + 1))), some (vI st), some (vI o), some (vI d), some (vI T), some (vI lg), some (vL V), none, none, some (vI (an e6)), none, none, none, none, none, none, none, none, none, none] [] h Q noX := by
  refine wp_iload d_108_473 (by rfl) ?_
  refine wp_if_lt (tgt := 765) d_108_475 (by decide) (by omega) (fun c_475 => ?_) (fun c_475 => ?_)
  · exact wp_to [some (vR (some sa)), some (vI tm), some (vR (some G)), some (vR (some (G + 1))), some (vI st), some (vI o), some (vI d), some (vI T), some (vI lg), some (vL V), none, none, none, none, none, none, none, none, none, none, none, none, none] ⟨rfl, rfl, rfl, rfl, rfl, rfl, rfl, rfl, rfl, rfl, trivial⟩ (k1 (by omega))
  · have ee : an e6 = e6 := by omega
    rw [ee]
    exact wp_to [some (vR (some sa)), some (vI tm), some (vR (some G)), some (vR (some (G + 1))), some (vI st), some (vI o), some (vI d), some (vI T), some (vI lg), some (vL V), none, none, some (vI e6), none, none, none, none, none, none, none, none, none, none] ⟨rfl, rfl, rfl, rfl, rfl, rfl, rfl, rfl, rfl, rfl, rfl, trivial⟩ (k2 (by omega))
