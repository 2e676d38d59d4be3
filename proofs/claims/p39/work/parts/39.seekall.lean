/-! ===== seek onwards, whole ===== -/
/-- what seek onwards changes -/
def PO (w : Nat) : Nat → Prop := fun a => a = w + 6 ∨ a = w + 8 ∨ a = w + 9 ∨ (w + 12 ≤ a ∧ a ≤ w + 29)
theorem POoff {w X : Nat} : Off w X (PO w) (PQ w) := ⟨fun a z => by unfold PO at z; omega, fun a z => by unfold PQ at z; omega⟩
/-- what is known behind a search onwards from o at T by L -/
def OnW (h0 h : Hp) (w : Nat) (o T L : Int) : Prop := RunsOk h w ∧ (∀ t d a, 0 ≤ t → t < hi h0 (w + 1) 7 → Cd h0 w T L t d a → Rc h w (rnB h0 a (baseOf h0 a d))) ∧
  ∀ k : Nat, k ≤ 6 → ∃ f y, Exact (hi h0 (w + 1) 4) (hi h0 (w + 2)) (Wy h0 w) (Rc h w) o T L k f y (hi h (w + 14 + k))
set_option maxRecDepth 100000 in
set_option maxHeartbeats 4000000 in
theorem s_seek {w X : Nat} {o T V : Int} {h0 : Hp} (hS0 : Sk h0 w) (hT0 : TT h0 w X) (ho : 0 ≤ o ∧ o < hi h0 (w + 1) 4) (hT : 0 ≤ T ∧ T ≤ 500000) (hV : 0 ≤ V ∧ V ≤ 2880) : wp 80 0 (entL [vR (some (w + 12)), vR (some (w + 1)), vR (some (w + 6)), vI o, vI T, vI V] (mL 80)) [] h0 (fun v h' => v = none ∧ ch (PO w) (PQ w) h0 h' ∧ OnW h0 h' w o T (T + V)) noX := by
  have hS := hS0
  obtain ⟨⟨k1, k2, k3, k4, k5, k6, k7⟩, ⟨n1, ⟨n2, n3, n4, n5⟩, ⟨n6, n7⟩, ⟨n8, n9⟩, ⟨n10, n11⟩, n12, n13⟩, ⟨m1, ⟨m2, m3, m4⟩, ⟨m5, m6⟩, ⟨m7, m8⟩, m9, m10⟩, ⟨o1, ⟨o2, o3, o4⟩, ⟨o5, o6, o7⟩, ⟨o8, o9, o10⟩, o11, o12⟩, ⟨b1, ⟨b2, b3⟩, ⟨b4, b5, b6⟩, b7, b8, b9⟩, ⟨j1, ⟨j2, j3, j4, j5, j6, j7, j8⟩, ⟨j9, j10⟩, j11⟩⟩ := hS
  have hX := hT0.2.2.2.2.2.2
  have hn := hT0.1
  have M1 : ch (PO w) (PQ w) h0 (setI h0 (w + 12) 3 (T + V)) := ch_setI (by unfold PO; omega)
  have hS1 : Sk (setI h0 (w + 12) 3 (T + V)) w := hS0.kept M1.fm ((POoff (X := X)).pr hX.2) (by omega)
  have hT1 : TT (setI h0 (w + 12) 3 (T + V)) w X := hT0.kept M1.fm POoff
  refine wp_aload_n d_80_0 (by rfl) ?_
  refine wp_iload d_80_1 (by rfl) ?_
  refine wp_iload d_80_3 (by rfl) ?_
  refine wp_iadd d_80_5 ?_
  refine wp_putI (3) d_80_6 fl_9_28 rfl rfl (Or.inl (by rfl)) (by first | assumption | exact hS2.2.2.2.1.1 | exact hS3.2.2.2.1.1) (by omega) (fun q => nomatch q) ?_
  refine wp_aload_n d_80_9 (by rfl) ?_
  refine wp_aload_n d_80_10 (by rfl) ?_
  refine wp_iload d_80_11 (by rfl) ?_
  refine wp_aload_n d_80_13 (by rfl) ?_
  refine wp_getI (3) d_80_14 fl_9_28 rfl rfl (by first | assumption | exact hS2.2.2.2.1.1 | exact hS3.2.2.2.1.1) (fun x_14 e_14 r_14 => ?_)
  obtain rfl : x_14 = T + V := by rw [e_14, hi_upF, upF_same]
  refine wp_callV d_80_17 c_80_32 rfl (by rfl) (by rfl) ⟨10, rfl, rfl, by decide⟩ (by first | assumption | exact hS2.2.2.2.1.1 | exact hS3.2.2.2.1.1) (by exact Nat.le_of_ble_eq_true rfl) (by exact Nat.le_of_ble_eq_true rfl) (s_collect (X := X) hS1 hT1 ⟨by omega, by omega⟩ (by omega) (by omega)) (fun v_17 h_17 q_17 => ?_) (fun _ _ q => q.elim)
  obtain ⟨rfl, E2, R2, C2⟩ := q_17
  have M2 : ch (PO w) (PQ w) h0 h_17 := M1.trans (E2.mono (fun x z => by unfold PC at z; unfold PO; omega) (fun x z => z))
  have hS2 : Sk h_17 w := hS0.kept M2.fm ((POoff (X := X)).pr hX.2) (by omega)
  have hT2 := hT0.kept M2.fm POoff
  have l2 : hi h_17 (w + 12) 3 = T + V := (E2.2.2.2.2.2.2.2.1 _ _ (by unfold PC; omega)).trans (by rw [hi_upF, upF_same])
  have nx2 : nx h_17 = nx h0 := M2.2.2.2.1
  refine wp_aload_n d_80_20 (by rfl) ?_
  refine wp_iload_n d_80_21 (by rfl) ?_
  refine wp_iload d_80_22 (by rfl) ?_
  refine wp_callV d_80_24 c_80_38 rfl (by rfl) (by rfl) ⟨9, rfl, rfl, by decide⟩ (by first | assumption | exact hS2.2.2.2.1.1 | exact hS3.2.2.2.1.1) (by exact Nat.le_of_ble_eq_true rfl) (by exact Nat.le_of_ble_eq_true rfl) (s_begin hS2 (by omega) ⟨ho.1, by omega⟩ ⟨by omega, by omega⟩) (fun v_24 h_24 q_24 => ?_) (fun _ _ q => q.elim)
  obtain ⟨rfl, E3, V3⟩ := q_24
  have E3p : ch (PS w) nP h_17 h_24 := E3.mono (fun x z => by unfold PS; omega) (fun x z => z)
  have M3 : ch (PO w) (PQ w) h0 h_24 := M2.trans (E3p.mono (fun x z => by unfold PS at z; unfold PO; omega) (fun x z => z.elim))
  have hS3 : Sk h_24 w := hS0.kept M3.fm ((POoff (X := X)).pr hX.2) (by omega)
  have hT3 := hT0.kept M3.fm POoff
  have n3 : hi h_24 (w + 1) 4 = hi h0 (w + 1) 4 := M3.2.2.2.2.2.2.2.1 _ _ (by unfold PO; omega)
  have bF : Bd (hi h_24 (w + 1) 4) (hi h_24 (w + 29)) := fun s z0 z1 => by
    rw [n3] at z1
    rw [(V3 s z0 (by omega)).1]
    split <;> omega
  refine wp_aload_n d_80_27 (by rfl) ?_
  refine wp_aload_n d_80_28 (by rfl) ?_
  refine wp_iconst d_80_29 ?_
  refine wp_callV d_80_30 c_80_42 rfl (by rfl) (by rfl) ⟨9, rfl, rfl, by decide⟩ (by first | assumption | exact hS2.2.2.2.1.1 | exact hS3.2.2.2.1.1) (by exact Nat.le_of_ble_eq_true rfl) (by exact Nat.le_of_ble_eq_true rfl) (s_walk (K := 0) hS3 hT3 (by decide) bF) (fun v_30 h_30 q_30 => ?_) (fun _ _ q => q.elim)
  obtain ⟨rfl, E4, J4, J5⟩ := q_30
  have E4p : ch (PS w) nP h_24 h_30 := E4.mono (fun x z => by unfold PW at z; unfold PS; omega) (fun x z => z)
  have M4 : ch (PO w) (PQ w) h0 h_30 := M3.trans (E4p.mono (fun x z => by unfold PS at z; unfold PO; omega) (fun x z => z.elim))
  have hS4 : Sk h_30 w := hS0.kept M4.fm ((POoff (X := X)).pr hX.2) (by omega)
  have hT4 := hT0.kept M4.fm POoff
  have E34 := E3p.trans E4p
  have R4 := Rc.kept hT2 R2 E34.fm PSoff (fun a z y => by unfold PS at z; omega) (fun a z => z.elim)
  have n4 : hi h_30 (w + 1) 4 = hi h0 (w + 1) 4 := M4.2.2.2.2.2.2.2.1 _ _ (by unfold PO; omega)
  have c4 : hi h_30 (w + 2) = hi h0 (w + 2) := funext fun x => M4.2.2.2.2.2.2.2.1 _ _ (by unfold PO; omega)
  have l4 : hi h_30 (w + 12) 3 = T + V := (E34.2.2.2.2.2.2.2.1 _ _ (by unfold PS; omega)).trans l2
  have l3 : hi h_24 (w + 12) 3 = T + V := (E3p.2.2.2.2.2.2.2.1 _ _ (by unfold PS; omega)).trans l2
  have w4 : Wy h_30 w = Wy h0 w := Wy.kept hT0 M4.fm POoff
  have w3 : Wy h_24 w = Wy h0 w := Wy.kept hT0 M3.fm POoff
  have f4 : hi h_30 (w + 29) = hi h_24 (w + 29) := funext fun x => E4.2.2.2.2.2.2.2.1 _ _ (by unfold PW; omega)
  rw [n3, w3, l3] at J4 J5
  have N0 := hT0.net
  have N4 : Net (hi h0 (w + 1) 4) (hi h0 (w + 2)) (Wy h0 w) (Rc h_30 w) := ⟨N0.1, N0.2.1, N0.2.2.1, fun r z => by
    have z9 := R4.2.sub z
    rw [Ra.kept hT0 M4.fm POoff] at z9
    exact N0.2.2.2 r z9⟩
  have X0 := Exact.start N4 ho (by omega) (by omega) (fun s z0 z1 => (V3 s z0 (by omega)).1) (fun s z0 z1 => (V3 s z0 (by omega)).2.2.trans (V3 s z0 (by omega)).1.symm) (fun s z0 z1 => (V3 s z0 (by omega)).2.1.trans (V3 s z0 (by omega)).1.symm) (by omega) J5 J4
  refine wp_iconst d_80_33 ?_
  refine wp_istore d_80_34 (by decide) ?_
  refine wp_iconst d_80_36 ?_
  refine wp_istore d_80_37 (by decide) ?_
  refine wp_to [some (vR (some (w + 12))), some (vR (some (w + 1))), some (vR (some (w + 6))), none, none, none, some (vI 1), some (vI (((0 : Nat) : Int) + 1))] ⟨rfl, rfl, rfl, rfl, rfl, trivial⟩ ?_
  refine l_seek (o := o) (T := T) hS4 hT4 R4.2 (by rw [n4]; exact ho) (by rw [l4]; omega) (by rw [l4]; omega) 6 0 1 _ rfl ⟨ch.rfl, fun k hk => ?_, ?_, ⟨fun s z0 z1 => ?_, fun s' s m hw hl => ?_⟩, Or.inl rfl⟩ (fun h' b' I => ?_)
  · obtain rfl : k = 0 := by omega
    rw [n4, c4, w4, l4]
    exact ⟨_, _, X0⟩
  · rw [n4, c4, w4, l4, f4]
    exact X0
  · rw [n4] at z1
    rw [f4]
    have := (J4.1 s z0 z1).1
    have := (V3 s z0 (by omega)).1
    have := (V3 s z0 (by omega)).2.1
    have e9 : hi h_24 (w + 14 + 0) s = hi h_24 (w + 14) s := rfl
    omega
  · rw [w4] at hw
    rw [f4, l4] at hl
    rw [f4]
    exact J4.2 _ _ _ hw hl
  · obtain ⟨E5, I1, -⟩ := I
    have R5 := Rc.kept hT4 R4.2 E5.fm PSoff (fun a z y => by unfold PS at z; omega) (fun a z => z.elim)
    have M5 : ch (PO w) (PQ w) h0 h' := M4.trans (E5.mono (fun x z => by unfold PS at z; unfold PO; omega) (fun x z => z.elim))
    rw [n4, c4, w4, l4] at I1
    refine ⟨rfl, M5, R5.2, fun t d a z0 z1 z2 => ?_, fun k hk => ?_⟩
    · rw [R5.1, R4.1]
      obtain ⟨a', c, g1, g2, -⟩ := hT0.2.2.2.2.2.1 t z0 z1
      have z2' := z2
      obtain ⟨y1, y2, y3, y4, y5⟩ := z2'
      cases y1.symm.trans g1
      have k9 := hasRn.kept hT0 M1.fm POoff (d := d) z0 z1 y1
      have q := C2 t d a z0 (by rw [hi_setI_ne (by omega)]; exact z1) ⟨y1, k9.1.mpr y2, by rw [hi_setI_ne (by omega)]; exact y3, by rw [k9.2.2, hi_setI_ne (by omega)]; exact y4, by rw [k9.2.2, hi_setI_ne (by omega), hi_setI_ne (by omega)]; exact y5⟩
      rw [k9.2.1, k9.2.2] at q
      exact q
    · rw [R5.1]; exact I1 k hk
