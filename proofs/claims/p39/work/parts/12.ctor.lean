/-! ===== the constructors: what a new object is ===== -/
/-- the cell a is as it was -/
def eqA (h h' : Hp) (a : Nat) : Prop := kd h' a = kd h a ∧ ln h' a = ln h a ∧ (∀ k, hi h' a k = hi h a k) ∧ (∀ k, hr h' a k = hr h a k) ∧ (∀ k, hl h' a k = hl h a k)
theorem eqA.trans {h h1 h2 : Hp} {a : Nat} (k1 : eqA h h1 a) (k2 : eqA h1 h2 a) : eqA h h2 a :=
  ⟨k2.1.trans k1.1, k2.2.1.trans k1.2.1, fun k => (k2.2.2.1 k).trans (k1.2.2.1 k), fun k => (k2.2.2.2.1 k).trans (k1.2.2.2.1 k), fun k => (k2.2.2.2.2 k).trans (k1.2.2.2.2 k)⟩
theorem eqA.rfl {h : Hp} {a : Nat} : eqA h h a := ⟨Eq.refl _, Eq.refl _, fun _ => Eq.refl _, fun _ => Eq.refl _, fun _ => Eq.refl _⟩
/-- an int array of zeros -/
def zA (h : Hp) (a : Nat) (n : Int) : Prop := kd h a = 100 ∧ ln h a = n ∧ ∀ k, hi h a k = 0
theorem zA.kept {h h' : Hp} {a : Nat} {n : Int} (k : zA h a n) (e : eqA h h' a) : zA h' a n := ⟨e.1.trans k.1, e.2.1.trans k.2.1, fun j => (e.2.2.1 j).trans (k.2.2 j)⟩
/-- an array of references, all null -/
def nA (h : Hp) (a K : Nat) (n : Int) : Prop := kd h a = K ∧ ln h a = n ∧ ∀ k, hr h a k = none
theorem nA.kept {h h' : Hp} {a K : Nat} {n : Int} (k : nA h a K n) (e : eqA h h' a) : nA h' a K n := ⟨e.1.trans k.1, e.2.1.trans k.2.1, fun j => (e.2.2.2.1 j).trans (k.2.2 j)⟩
/-- rows of zeros: the outer at a, the rows behind it -/
def mA (h : Hp) (a : Nat) (n k : Int) : Prop := kd h a = 103 ∧ ln h a = n ∧ (∀ j : Int, 0 ≤ j → j < n → hr h a j = some (a + 1 + j.toNat)) ∧ ∀ j : Nat, (j : Int) < n → zA h (a + 1 + j) k
theorem mA.kept {h h' : Hp} {a : Nat} {n k : Int} (q : mA h a n k) (e : ∀ b, a ≤ b → (b : Int) ≤ a + n → eqA h h' b) (hn : 0 ≤ n) : mA h' a n k :=
  ⟨(e a (Nat.le_refl _) (by omega)).1.trans q.1, (e a (Nat.le_refl _) (by omega)).2.1.trans q.2.1, fun j h0 h1 => ((e a (Nat.le_refl _) (by omega)).2.2.2.1 j).trans (q.2.2.1 j h0 h1), fun j hj => (q.2.2.2 j hj).kept (e _ (by omega) (by omega))⟩
theorem mA_of (h : Hp) (n k : Int) : mA (mkM h n k) (nx h) n k := by
  refine ⟨by rw [kd_mkM, if_pos rfl], by rw [ln_mkM, if_pos rfl], fun j h0 h1 => ?_, fun j hj => ⟨?_, ?_, fun q => ?_⟩⟩
  · rw [hr_mkM, if_pos rfl]
    show (if 0 ≤ j ∧ j < n then _ else _) = _
    rw [if_pos ⟨h0, h1⟩]
  · rw [kd_mkM, if_neg (by omega), if_pos (by omega)]
  · rw [ln_mkM, if_neg (by omega), if_pos (by omega)]
  · rw [hi_mkM, if_pos (by omega)]
theorem eqA_mkM {h : Hp} {n k : Int} {a : Nat} (ha : a < nx h) : eqA h (mkM h n k) a := by
  refine ⟨?_, ?_, fun q => ?_, fun q => ?_, fun q => ?_⟩
  · rw [kd_mkM, if_neg (by omega), if_neg (by omega)]
  · rw [ln_mkM, if_neg (by omega), if_neg (by omega)]
  · rw [hi_mkM, if_neg (by omega)]
  · rw [hr_mkM, if_neg (by omega), if_neg (by omega)]
  · rw [hl_mkM, if_neg (by omega)]
theorem eqA_mkO {h : Hp} {K : Nat} {n : Int} {a : Nat} (ha : a < nx h) : eqA h (mkO h K n) a := by
  have hne : ¬ a = nx h := by omega
  exact ⟨by rw [kd_mkO, up1_ne _ _ hne], by rw [ln_mkO, up1_ne _ _ hne], fun q => by rw [hi_mkO, up1_ne _ _ hne], fun q => by rw [hr_mkO, up1_ne _ _ hne], fun q => by rw [hl_mkO, up1_ne _ _ hne]⟩
theorem eqA_setR {h : Hp} {a b : Nat} {k : Int} {v : Option Nat} (hb : b ≠ a) : eqA h (setR h a k v) b := ⟨rfl, rfl, fun _ => rfl, fun _ => by rw [hr_setR, up2_ne _ _ (fun q => hb q.1)], fun _ => rfl⟩
theorem eqA_setI {h : Hp} {a b : Nat} {k v : Int} (hb : b ≠ a) : eqA h (setI h a k v) b := ⟨rfl, rfl, fun _ => by rw [hi_setI, up2_ne _ _ (fun q => hb q.1)], fun _ => rfl, fun _ => rfl⟩
theorem zA_mkO {h : Hp} {n : Int} : zA (mkO h 100 n) (nx h) n := ⟨by rw [kd_mkO, up1_same], by rw [ln_mkO, up1_same], fun k => by rw [hi_mkO, up1_same]⟩
theorem nA_mkO {h : Hp} {K : Nat} {n : Int} : nA (mkO h K n) (nx h) K n := ⟨by rw [kd_mkO, up1_same], by rw [ln_mkO, up1_same], fun k => by rw [hr_mkO, up1_same]⟩
theorem zA_setR {h : Hp} {a b : Nat} {n k : Int} {v : Option Nat} (q : zA h a n) : zA (setR h b k v) a n := q
theorem mA_setR {h : Hp} {a b : Nat} {n k j : Int} {v : Option Nat} (q : mA h a n k) (hb : a ≠ b) : mA (setR h b j v) a n k := ⟨q.1, q.2.1, fun i h0 h1 => by rw [hr_setR, up2_ne _ _ (fun z => hb z.1)]; exact q.2.2.1 i h0 h1, q.2.2.2⟩

/-- Offers at a: times, prices behind it -/
def OffN (h : Hp) (a : Nat) : Prop := kd h a = 9 ∧ hr h a 0 = some (a + 1) ∧ hr h a 1 = some (a + 2) ∧ hi h a 2 = 0 ∧ zA h (a + 1) 16 ∧ zA h (a + 2) 16
theorem OffN.kept {h h' : Hp} {a : Nat} (q : OffN h a) (e : ∀ b, a ≤ b → b ≤ a + 2 → eqA h h' b) : OffN h' a :=
  have e0 := e a (Nat.le_refl _) (by omega)
  ⟨e0.1.trans q.1, (e0.2.2.2.1 _).trans q.2.1, (e0.2.2.2.1 _).trans q.2.2.1, (e0.2.2.1 _).trans q.2.2.2.1, q.2.2.2.2.1.kept (e _ (by omega) (by omega)), q.2.2.2.2.2.kept (e _ (by omega) (by omega))⟩
set_option maxRecDepth 100000 in
set_option maxHeartbeats 4000000 in
theorem s_Offers {a : Nat} {h : Hp} (hk : kd h a = 9) (hz : ∀ k, hi h a k = 0) (hn : nx h = a + 1) (r1 : nx h + 2 ≤ cn h) (r2 : us h + 32 ≤ cs h) : wp 79 0 (entL [vR (some a)] (mL 79)) [] h (fun v h' => v = none ∧ OffN h' a ∧ nx h' = a + 3 ∧ us h' = us h + 32 ∧ cn h' = cn h ∧ cs h' = cs h ∧ ∀ b, b < a → eqA h h' b) noX := by
  refine wp_aload_n d_79_0 (by rfl) ?_
  refine wp_objInit d_79_1 oi_8 co_code ⟨Nat.le_of_ble_eq_true rfl, Nat.le_of_ble_eq_true rfl⟩ ?_
  refine wp_aload_n d_79_4 (by rfl) ?_
  refine wp_bipush d_79_5 (by decide) ?_
  refine wp_newa (K := 100) d_79_7 rfl (by decide) ca_100 rfl (by omega) (by omega) (by decide) (by first | omega | (simp [kd_setI, ln_setI, hi_setI, hr_setI, hl_setI, nx_setI, us_setI, cn_setI, cs_setI, kd_setR, ln_setR, hi_setR, hr_setR, hl_setR, nx_setR, us_setR, cn_setR, cs_setR, kd_setL, ln_setL, hi_setL, hr_setL, hl_setL, nx_setL, us_setL, cn_setL, cs_setL, kd_mkO, ln_mkO, hi_mkO, hr_mkO, hl_mkO, nx_mkO, us_mkO, cn_mkO, cs_mkO]; omega)) (by first | omega | (simp [kd_setI, ln_setI, hi_setI, hr_setI, hl_setI, nx_setI, us_setI, cn_setI, cs_setI, kd_setR, ln_setR, hi_setR, hr_setR, hl_setR, nx_setR, us_setR, cn_setR, cs_setR, kd_setL, ln_setL, hi_setL, hr_setL, hl_setL, nx_setL, us_setL, cn_setL, cs_setL, kd_mkO, ln_mkO, hi_mkO, hr_mkO, hl_mkO, nx_mkO, us_mkO, cn_mkO, cs_mkO]; omega)) ?_
  refine wp_putR (0) d_79_9 fl_8_11 rfl rfl (Or.inl (by rfl)) (by simp [kd_setI, ln_setI, hi_setI, hr_setI, hl_setI, nx_setI, us_setI, cn_setI, cs_setI, kd_setR, ln_setR, hi_setR, hr_setR, hl_setR, nx_setR, us_setR, cn_setR, cs_setR, kd_setL, ln_setL, hi_setL, hr_setL, hl_setL, nx_setL, us_setL, cn_setL, cs_setL, kd_mkO, ln_mkO, hi_mkO, hr_mkO, hl_mkO, nx_mkO, us_mkO, cn_mkO, cs_mkO, up1, up2, hn, hk, Nat.add_assoc]) ?_
  refine wp_aload_n d_79_12 (by rfl) ?_
  refine wp_bipush d_79_13 (by decide) ?_
  refine wp_newa (K := 100) d_79_15 rfl (by decide) ca_100 rfl (by omega) (by omega) (by decide) (by first | omega | (simp [kd_setI, ln_setI, hi_setI, hr_setI, hl_setI, nx_setI, us_setI, cn_setI, cs_setI, kd_setR, ln_setR, hi_setR, hr_setR, hl_setR, nx_setR, us_setR, cn_setR, cs_setR, kd_setL, ln_setL, hi_setL, hr_setL, hl_setL, nx_setL, us_setL, cn_setL, cs_setL, kd_mkO, ln_mkO, hi_mkO, hr_mkO, hl_mkO, nx_mkO, us_mkO, cn_mkO, cs_mkO]; omega)) (by first | omega | (simp [kd_setI, ln_setI, hi_setI, hr_setI, hl_setI, nx_setI, us_setI, cn_setI, cs_setI, kd_setR, ln_setR, hi_setR, hr_setR, hl_setR, nx_setR, us_setR, cn_setR, cs_setR, kd_setL, ln_setL, hi_setL, hr_setL, hl_setL, nx_setL, us_setL, cn_setL, cs_setL, kd_mkO, ln_mkO, hi_mkO, hr_mkO, hl_mkO, nx_mkO, us_mkO, cn_mkO, cs_mkO]; omega)) ?_
  refine wp_putR (1) d_79_17 fl_8_15 rfl rfl (Or.inl (by rfl)) (by simp [kd_setI, ln_setI, hi_setI, hr_setI, hl_setI, nx_setI, us_setI, cn_setI, cs_setI, kd_setR, ln_setR, hi_setR, hr_setR, hl_setR, nx_setR, us_setR, cn_setR, cs_setR, kd_setL, ln_setL, hi_setL, hr_setL, hl_setL, nx_setL, us_setL, cn_setL, cs_setL, kd_mkO, ln_mkO, hi_mkO, hr_mkO, hl_mkO, nx_mkO, us_mkO, cn_mkO, cs_mkO, up1, up2, hn, hk, Nat.add_assoc]) ?_
  refine wp_vret d_79_20 rfl ?_
  have hb0 : ∀ b : Nat, b < a → b ≠ a := fun b hb => by omega
  refine ⟨rfl, ?_, by simp [kd_setI, ln_setI, hi_setI, hr_setI, hl_setI, nx_setI, us_setI, cn_setI, cs_setI, kd_setR, ln_setR, hi_setR, hr_setR, hl_setR, nx_setR, us_setR, cn_setR, cs_setR, kd_setL, ln_setL, hi_setL, hr_setL, hl_setL, nx_setL, us_setL, cn_setL, cs_setL, kd_mkO, ln_mkO, hi_mkO, hr_mkO, hl_mkO, nx_mkO, us_mkO, cn_mkO, cs_mkO, hn, Nat.add_assoc], by simp [kd_setI, ln_setI, hi_setI, hr_setI, hl_setI, nx_setI, us_setI, cn_setI, cs_setI, kd_setR, ln_setR, hi_setR, hr_setR, hl_setR, nx_setR, us_setR, cn_setR, cs_setR, kd_setL, ln_setL, hi_setL, hr_setL, hl_setL, nx_setL, us_setL, cn_setL, cs_setL, kd_mkO, ln_mkO, hi_mkO, hr_mkO, hl_mkO, nx_mkO, us_mkO, cn_mkO, cs_mkO, Nat.add_assoc], rfl, rfl, fun b hb => ?_⟩
  · simp [OffN, zA, nA, kd_setI, ln_setI, hi_setI, hr_setI, hl_setI, nx_setI, us_setI, cn_setI, cs_setI, kd_setR, ln_setR, hi_setR, hr_setR, hl_setR, nx_setR, us_setR, cn_setR, cs_setR, kd_setL, ln_setL, hi_setL, hr_setL, hl_setL, nx_setL, us_setL, cn_setL, cs_setL, kd_mkO, ln_mkO, hi_mkO, hr_mkO, hl_mkO, nx_mkO, us_mkO, cn_mkO, cs_mkO, up1, up2, hn, hk, hz, Nat.add_assoc]
  · have h1 : b ≠ a := by omega
    unfold eqA
    simp [kd_setI, ln_setI, hi_setI, hr_setI, hl_setI, nx_setI, us_setI, cn_setI, cs_setI, kd_setR, ln_setR, hi_setR, hr_setR, hl_setR, nx_setR, us_setR, cn_setR, cs_setR, kd_setL, ln_setL, hi_setL, hr_setL, hl_setL, nx_setL, us_setL, cn_setL, cs_setL, kd_mkO, ln_mkO, hi_mkO, hr_mkO, hl_mkO, nx_mkO, us_mkO, cn_mkO, cs_mkO, up1, up2, hn, h1, Nat.add_assoc, show ∀ k, b ≠ a + k from fun k => by omega]
/-- Network at a -/
def NetN (h : Hp) (a : Nat) : Prop := kd h a = 8 ∧ hr h a 0 = some (a + 1) ∧ hr h a 1 = some (a + 2) ∧ hr h a 2 = some (a + 3) ∧ hr h a 3 = some (a + 4) ∧ (hi h a 4 = 0 ∧ hi h a 5 = 0 ∧ hi h a 6 = 0 ∧ hi h a 7 = 0) ∧ zA h (a + 1) 16 ∧ nA h (a + 2) 104 20 ∧ nA h (a + 3) 105 6 ∧ nA h (a + 4) 106 24
set_option maxRecDepth 100000 in
set_option maxHeartbeats 4000000 in
theorem s_Network {a : Nat} {h : Hp} (hk : kd h a = 8) (hz : ∀ k, hi h a k = 0) (hn : nx h = a + 1) (r1 : nx h + 4 ≤ cn h) (r2 : us h + 66 ≤ cs h) : wp 74 0 (entL [vR (some a)] (mL 74)) [] h (fun v h' => v = none ∧ NetN h' a ∧ nx h' = a + 5 ∧ us h' = us h + 66 ∧ cn h' = cn h ∧ cs h' = cs h ∧ ∀ b, b < a → eqA h h' b) noX := by
  refine wp_aload_n d_74_0 (by rfl) ?_
  refine wp_objInit d_74_1 oi_7 co_code ⟨Nat.le_of_ble_eq_true rfl, Nat.le_of_ble_eq_true rfl⟩ ?_
  refine wp_aload_n d_74_4 (by rfl) ?_
  refine wp_bipush d_74_5 (by decide) ?_
  refine wp_newa (K := 100) d_74_7 rfl (by decide) ca_100 rfl (by omega) (by omega) (by decide) (by first | omega | (simp [kd_setI, ln_setI, hi_setI, hr_setI, hl_setI, nx_setI, us_setI, cn_setI, cs_setI, kd_setR, ln_setR, hi_setR, hr_setR, hl_setR, nx_setR, us_setR, cn_setR, cs_setR, kd_setL, ln_setL, hi_setL, hr_setL, hl_setL, nx_setL, us_setL, cn_setL, cs_setL, kd_mkO, ln_mkO, hi_mkO, hr_mkO, hl_mkO, nx_mkO, us_mkO, cn_mkO, cs_mkO]; omega)) (by first | omega | (simp [kd_setI, ln_setI, hi_setI, hr_setI, hl_setI, nx_setI, us_setI, cn_setI, cs_setI, kd_setR, ln_setR, hi_setR, hr_setR, hl_setR, nx_setR, us_setR, cn_setR, cs_setR, kd_setL, ln_setL, hi_setL, hr_setL, hl_setL, nx_setL, us_setL, cn_setL, cs_setL, kd_mkO, ln_mkO, hi_mkO, hr_mkO, hl_mkO, nx_mkO, us_mkO, cn_mkO, cs_mkO]; omega)) ?_
  refine wp_putR (0) d_74_9 fl_7_9 rfl rfl (Or.inr ⟨by rfl, by rfl, by rfl⟩) (by simp [kd_setI, ln_setI, hi_setI, hr_setI, hl_setI, nx_setI, us_setI, cn_setI, cs_setI, kd_setR, ln_setR, hi_setR, hr_setR, hl_setR, nx_setR, us_setR, cn_setR, cs_setR, kd_setL, ln_setL, hi_setL, hr_setL, hl_setL, nx_setL, us_setL, cn_setL, cs_setL, kd_mkO, ln_mkO, hi_mkO, hr_mkO, hl_mkO, nx_mkO, us_mkO, cn_mkO, cs_mkO, up1, up2, hn, hk, Nat.add_assoc]) ?_
  refine wp_aload_n d_74_12 (by rfl) ?_
  refine wp_bipush d_74_13 (by decide) ?_
  refine wp_anew (K := 104) d_74_15 cl_7_15 rfl (by decide) ca_104 (by omega) (by omega) (by first | omega | (simp [kd_setI, ln_setI, hi_setI, hr_setI, hl_setI, nx_setI, us_setI, cn_setI, cs_setI, kd_setR, ln_setR, hi_setR, hr_setR, hl_setR, nx_setR, us_setR, cn_setR, cs_setR, kd_setL, ln_setL, hi_setL, hr_setL, hl_setL, nx_setL, us_setL, cn_setL, cs_setL, kd_mkO, ln_mkO, hi_mkO, hr_mkO, hl_mkO, nx_mkO, us_mkO, cn_mkO, cs_mkO]; omega)) (by first | omega | (simp [kd_setI, ln_setI, hi_setI, hr_setI, hl_setI, nx_setI, us_setI, cn_setI, cs_setI, kd_setR, ln_setR, hi_setR, hr_setR, hl_setR, nx_setR, us_setR, cn_setR, cs_setR, kd_setL, ln_setL, hi_setL, hr_setL, hl_setL, nx_setL, us_setL, cn_setL, cs_setL, kd_mkO, ln_mkO, hi_mkO, hr_mkO, hl_mkO, nx_mkO, us_mkO, cn_mkO, cs_mkO]; omega)) ?_
  refine wp_putR (1) d_74_18 fl_7_17 rfl rfl (Or.inr ⟨by rfl, by rfl, by rfl⟩) (by simp [kd_setI, ln_setI, hi_setI, hr_setI, hl_setI, nx_setI, us_setI, cn_setI, cs_setI, kd_setR, ln_setR, hi_setR, hr_setR, hl_setR, nx_setR, us_setR, cn_setR, cs_setR, kd_setL, ln_setL, hi_setL, hr_setL, hl_setL, nx_setL, us_setL, cn_setL, cs_setL, kd_mkO, ln_mkO, hi_mkO, hr_mkO, hl_mkO, nx_mkO, us_mkO, cn_mkO, cs_mkO, up1, up2, hn, hk, Nat.add_assoc]) ?_
  refine wp_aload_n d_74_21 (by rfl) ?_
  refine wp_bipush d_74_22 (by decide) ?_
  refine wp_anew (K := 105) d_74_24 cl_7_21 rfl (by decide) ca_105 (by omega) (by omega) (by first | omega | (simp [kd_setI, ln_setI, hi_setI, hr_setI, hl_setI, nx_setI, us_setI, cn_setI, cs_setI, kd_setR, ln_setR, hi_setR, hr_setR, hl_setR, nx_setR, us_setR, cn_setR, cs_setR, kd_setL, ln_setL, hi_setL, hr_setL, hl_setL, nx_setL, us_setL, cn_setL, cs_setL, kd_mkO, ln_mkO, hi_mkO, hr_mkO, hl_mkO, nx_mkO, us_mkO, cn_mkO, cs_mkO]; omega)) (by first | omega | (simp [kd_setI, ln_setI, hi_setI, hr_setI, hl_setI, nx_setI, us_setI, cn_setI, cs_setI, kd_setR, ln_setR, hi_setR, hr_setR, hl_setR, nx_setR, us_setR, cn_setR, cs_setR, kd_setL, ln_setL, hi_setL, hr_setL, hl_setL, nx_setL, us_setL, cn_setL, cs_setL, kd_mkO, ln_mkO, hi_mkO, hr_mkO, hl_mkO, nx_mkO, us_mkO, cn_mkO, cs_mkO]; omega)) ?_
  refine wp_putR (2) d_74_27 fl_7_23 rfl rfl (Or.inr ⟨by rfl, by rfl, by rfl⟩) (by simp [kd_setI, ln_setI, hi_setI, hr_setI, hl_setI, nx_setI, us_setI, cn_setI, cs_setI, kd_setR, ln_setR, hi_setR, hr_setR, hl_setR, nx_setR, us_setR, cn_setR, cs_setR, kd_setL, ln_setL, hi_setL, hr_setL, hl_setL, nx_setL, us_setL, cn_setL, cs_setL, kd_mkO, ln_mkO, hi_mkO, hr_mkO, hl_mkO, nx_mkO, us_mkO, cn_mkO, cs_mkO, up1, up2, hn, hk, Nat.add_assoc]) ?_
  refine wp_aload_n d_74_30 (by rfl) ?_
  refine wp_bipush d_74_31 (by decide) ?_
  refine wp_anew (K := 106) d_74_33 cl_7_27 rfl (by decide) ca_106 (by omega) (by omega) (by first | omega | (simp [kd_setI, ln_setI, hi_setI, hr_setI, hl_setI, nx_setI, us_setI, cn_setI, cs_setI, kd_setR, ln_setR, hi_setR, hr_setR, hl_setR, nx_setR, us_setR, cn_setR, cs_setR, kd_setL, ln_setL, hi_setL, hr_setL, hl_setL, nx_setL, us_setL, cn_setL, cs_setL, kd_mkO, ln_mkO, hi_mkO, hr_mkO, hl_mkO, nx_mkO, us_mkO, cn_mkO, cs_mkO]; omega)) (by first | omega | (simp [kd_setI, ln_setI, hi_setI, hr_setI, hl_setI, nx_setI, us_setI, cn_setI, cs_setI, kd_setR, ln_setR, hi_setR, hr_setR, hl_setR, nx_setR, us_setR, cn_setR, cs_setR, kd_setL, ln_setL, hi_setL, hr_setL, hl_setL, nx_setL, us_setL, cn_setL, cs_setL, kd_mkO, ln_mkO, hi_mkO, hr_mkO, hl_mkO, nx_mkO, us_mkO, cn_mkO, cs_mkO]; omega)) ?_
  refine wp_putR (3) d_74_36 fl_7_29 rfl rfl (Or.inr ⟨by rfl, by rfl, by rfl⟩) (by simp [kd_setI, ln_setI, hi_setI, hr_setI, hl_setI, nx_setI, us_setI, cn_setI, cs_setI, kd_setR, ln_setR, hi_setR, hr_setR, hl_setR, nx_setR, us_setR, cn_setR, cs_setR, kd_setL, ln_setL, hi_setL, hr_setL, hl_setL, nx_setL, us_setL, cn_setL, cs_setL, kd_mkO, ln_mkO, hi_mkO, hr_mkO, hl_mkO, nx_mkO, us_mkO, cn_mkO, cs_mkO, up1, up2, hn, hk, Nat.add_assoc]) ?_
  refine wp_vret d_74_39 rfl ?_
  have hb0 : ∀ b : Nat, b < a → b ≠ a := fun b hb => by omega
  refine ⟨rfl, ?_, by simp [kd_setI, ln_setI, hi_setI, hr_setI, hl_setI, nx_setI, us_setI, cn_setI, cs_setI, kd_setR, ln_setR, hi_setR, hr_setR, hl_setR, nx_setR, us_setR, cn_setR, cs_setR, kd_setL, ln_setL, hi_setL, hr_setL, hl_setL, nx_setL, us_setL, cn_setL, cs_setL, kd_mkO, ln_mkO, hi_mkO, hr_mkO, hl_mkO, nx_mkO, us_mkO, cn_mkO, cs_mkO, hn, Nat.add_assoc], by simp [kd_setI, ln_setI, hi_setI, hr_setI, hl_setI, nx_setI, us_setI, cn_setI, cs_setI, kd_setR, ln_setR, hi_setR, hr_setR, hl_setR, nx_setR, us_setR, cn_setR, cs_setR, kd_setL, ln_setL, hi_setL, hr_setL, hl_setL, nx_setL, us_setL, cn_setL, cs_setL, kd_mkO, ln_mkO, hi_mkO, hr_mkO, hl_mkO, nx_mkO, us_mkO, cn_mkO, cs_mkO, Nat.add_assoc], rfl, rfl, fun b hb => ?_⟩
  · simp [NetN, zA, nA, kd_setI, ln_setI, hi_setI, hr_setI, hl_setI, nx_setI, us_setI, cn_setI, cs_setI, kd_setR, ln_setR, hi_setR, hr_setR, hl_setR, nx_setR, us_setR, cn_setR, cs_setR, kd_setL, ln_setL, hi_setL, hr_setL, hl_setL, nx_setL, us_setL, cn_setL, cs_setL, kd_mkO, ln_mkO, hi_mkO, hr_mkO, hl_mkO, nx_mkO, us_mkO, cn_mkO, cs_mkO, up1, up2, hn, hk, hz, Nat.add_assoc]
  · have h1 : b ≠ a := by omega
    unfold eqA
    simp [kd_setI, ln_setI, hi_setI, hr_setI, hl_setI, nx_setI, us_setI, cn_setI, cs_setI, kd_setR, ln_setR, hi_setR, hr_setR, hl_setR, nx_setR, us_setR, cn_setR, cs_setR, kd_setL, ln_setL, hi_setL, hr_setL, hl_setL, nx_setL, us_setL, cn_setL, cs_setL, kd_mkO, ln_mkO, hi_mkO, hr_mkO, hl_mkO, nx_mkO, us_mkO, cn_mkO, cs_mkO, up1, up2, hn, h1, Nat.add_assoc, show ∀ k, b ≠ a + k from fun k => by omega]
/-- Runs at a -/
def RunN (h : Hp) (a : Nat) : Prop := kd h a = 11 ∧ hr h a 0 = some (a + 1) ∧ hr h a 1 = some (a + 2) ∧ hr h a 2 = some (a + 3) ∧ hi h a 3 = 0 ∧ nA h (a + 1) 106 192 ∧ zA h (a + 2) 192 ∧ zA h (a + 3) 192
set_option maxRecDepth 100000 in
set_option maxHeartbeats 4000000 in
theorem s_Runs {a : Nat} {h : Hp} (hk : kd h a = 11) (hz : ∀ k, hi h a k = 0) (hn : nx h = a + 1) (r1 : nx h + 3 ≤ cn h) (r2 : us h + 576 ≤ cs h) : wp 93 0 (entL [vR (some a)] (mL 93)) [] h (fun v h' => v = none ∧ RunN h' a ∧ nx h' = a + 4 ∧ us h' = us h + 576 ∧ cn h' = cn h ∧ cs h' = cs h ∧ ∀ b, b < a → eqA h h' b) noX := by
  refine wp_aload_n d_93_0 (by rfl) ?_
  refine wp_objInit d_93_1 oi_10 co_code ⟨Nat.le_of_ble_eq_true rfl, Nat.le_of_ble_eq_true rfl⟩ ?_
  refine wp_aload_n d_93_4 (by rfl) ?_
  refine wp_sipush d_93_5 (by decide) ?_
  refine wp_anew (K := 106) d_93_8 cl_10_9 rfl (by decide) ca_106 (by omega) (by omega) (by first | omega | (simp [kd_setI, ln_setI, hi_setI, hr_setI, hl_setI, nx_setI, us_setI, cn_setI, cs_setI, kd_setR, ln_setR, hi_setR, hr_setR, hl_setR, nx_setR, us_setR, cn_setR, cs_setR, kd_setL, ln_setL, hi_setL, hr_setL, hl_setL, nx_setL, us_setL, cn_setL, cs_setL, kd_mkO, ln_mkO, hi_mkO, hr_mkO, hl_mkO, nx_mkO, us_mkO, cn_mkO, cs_mkO]; omega)) (by first | omega | (simp [kd_setI, ln_setI, hi_setI, hr_setI, hl_setI, nx_setI, us_setI, cn_setI, cs_setI, kd_setR, ln_setR, hi_setR, hr_setR, hl_setR, nx_setR, us_setR, cn_setR, cs_setR, kd_setL, ln_setL, hi_setL, hr_setL, hl_setL, nx_setL, us_setL, cn_setL, cs_setL, kd_mkO, ln_mkO, hi_mkO, hr_mkO, hl_mkO, nx_mkO, us_mkO, cn_mkO, cs_mkO]; omega)) ?_
  refine wp_putR (0) d_93_11 fl_10_11 rfl rfl (Or.inr ⟨by rfl, by rfl, by rfl⟩) (by simp [kd_setI, ln_setI, hi_setI, hr_setI, hl_setI, nx_setI, us_setI, cn_setI, cs_setI, kd_setR, ln_setR, hi_setR, hr_setR, hl_setR, nx_setR, us_setR, cn_setR, cs_setR, kd_setL, ln_setL, hi_setL, hr_setL, hl_setL, nx_setL, us_setL, cn_setL, cs_setL, kd_mkO, ln_mkO, hi_mkO, hr_mkO, hl_mkO, nx_mkO, us_mkO, cn_mkO, cs_mkO, up1, up2, hn, hk, Nat.add_assoc]) ?_
  refine wp_aload_n d_93_14 (by rfl) ?_
  refine wp_sipush d_93_15 (by decide) ?_
  refine wp_newa (K := 100) d_93_18 rfl (by decide) ca_100 rfl (by omega) (by omega) (by decide) (by first | omega | (simp [kd_setI, ln_setI, hi_setI, hr_setI, hl_setI, nx_setI, us_setI, cn_setI, cs_setI, kd_setR, ln_setR, hi_setR, hr_setR, hl_setR, nx_setR, us_setR, cn_setR, cs_setR, kd_setL, ln_setL, hi_setL, hr_setL, hl_setL, nx_setL, us_setL, cn_setL, cs_setL, kd_mkO, ln_mkO, hi_mkO, hr_mkO, hl_mkO, nx_mkO, us_mkO, cn_mkO, cs_mkO]; omega)) (by first | omega | (simp [kd_setI, ln_setI, hi_setI, hr_setI, hl_setI, nx_setI, us_setI, cn_setI, cs_setI, kd_setR, ln_setR, hi_setR, hr_setR, hl_setR, nx_setR, us_setR, cn_setR, cs_setR, kd_setL, ln_setL, hi_setL, hr_setL, hl_setL, nx_setL, us_setL, cn_setL, cs_setL, kd_mkO, ln_mkO, hi_mkO, hr_mkO, hl_mkO, nx_mkO, us_mkO, cn_mkO, cs_mkO]; omega)) ?_
  refine wp_putR (1) d_93_20 fl_10_17 rfl rfl (Or.inr ⟨by rfl, by rfl, by rfl⟩) (by simp [kd_setI, ln_setI, hi_setI, hr_setI, hl_setI, nx_setI, us_setI, cn_setI, cs_setI, kd_setR, ln_setR, hi_setR, hr_setR, hl_setR, nx_setR, us_setR, cn_setR, cs_setR, kd_setL, ln_setL, hi_setL, hr_setL, hl_setL, nx_setL, us_setL, cn_setL, cs_setL, kd_mkO, ln_mkO, hi_mkO, hr_mkO, hl_mkO, nx_mkO, us_mkO, cn_mkO, cs_mkO, up1, up2, hn, hk, Nat.add_assoc]) ?_
  refine wp_aload_n d_93_23 (by rfl) ?_
  refine wp_sipush d_93_24 (by decide) ?_
  refine wp_newa (K := 100) d_93_27 rfl (by decide) ca_100 rfl (by omega) (by omega) (by decide) (by first | omega | (simp [kd_setI, ln_setI, hi_setI, hr_setI, hl_setI, nx_setI, us_setI, cn_setI, cs_setI, kd_setR, ln_setR, hi_setR, hr_setR, hl_setR, nx_setR, us_setR, cn_setR, cs_setR, kd_setL, ln_setL, hi_setL, hr_setL, hl_setL, nx_setL, us_setL, cn_setL, cs_setL, kd_mkO, ln_mkO, hi_mkO, hr_mkO, hl_mkO, nx_mkO, us_mkO, cn_mkO, cs_mkO]; omega)) (by first | omega | (simp [kd_setI, ln_setI, hi_setI, hr_setI, hl_setI, nx_setI, us_setI, cn_setI, cs_setI, kd_setR, ln_setR, hi_setR, hr_setR, hl_setR, nx_setR, us_setR, cn_setR, cs_setR, kd_setL, ln_setL, hi_setL, hr_setL, hl_setL, nx_setL, us_setL, cn_setL, cs_setL, kd_mkO, ln_mkO, hi_mkO, hr_mkO, hl_mkO, nx_mkO, us_mkO, cn_mkO, cs_mkO]; omega)) ?_
  refine wp_putR (2) d_93_29 fl_10_21 rfl rfl (Or.inr ⟨by rfl, by rfl, by rfl⟩) (by simp [kd_setI, ln_setI, hi_setI, hr_setI, hl_setI, nx_setI, us_setI, cn_setI, cs_setI, kd_setR, ln_setR, hi_setR, hr_setR, hl_setR, nx_setR, us_setR, cn_setR, cs_setR, kd_setL, ln_setL, hi_setL, hr_setL, hl_setL, nx_setL, us_setL, cn_setL, cs_setL, kd_mkO, ln_mkO, hi_mkO, hr_mkO, hl_mkO, nx_mkO, us_mkO, cn_mkO, cs_mkO, up1, up2, hn, hk, Nat.add_assoc]) ?_
  refine wp_vret d_93_32 rfl ?_
  have hb0 : ∀ b : Nat, b < a → b ≠ a := fun b hb => by omega
  refine ⟨rfl, ?_, by simp [kd_setI, ln_setI, hi_setI, hr_setI, hl_setI, nx_setI, us_setI, cn_setI, cs_setI, kd_setR, ln_setR, hi_setR, hr_setR, hl_setR, nx_setR, us_setR, cn_setR, cs_setR, kd_setL, ln_setL, hi_setL, hr_setL, hl_setL, nx_setL, us_setL, cn_setL, cs_setL, kd_mkO, ln_mkO, hi_mkO, hr_mkO, hl_mkO, nx_mkO, us_mkO, cn_mkO, cs_mkO, hn, Nat.add_assoc], by simp [kd_setI, ln_setI, hi_setI, hr_setI, hl_setI, nx_setI, us_setI, cn_setI, cs_setI, kd_setR, ln_setR, hi_setR, hr_setR, hl_setR, nx_setR, us_setR, cn_setR, cs_setR, kd_setL, ln_setL, hi_setL, hr_setL, hl_setL, nx_setL, us_setL, cn_setL, cs_setL, kd_mkO, ln_mkO, hi_mkO, hr_mkO, hl_mkO, nx_mkO, us_mkO, cn_mkO, cs_mkO, Nat.add_assoc], rfl, rfl, fun b hb => ?_⟩
  · simp [RunN, zA, nA, kd_setI, ln_setI, hi_setI, hr_setI, hl_setI, nx_setI, us_setI, cn_setI, cs_setI, kd_setR, ln_setR, hi_setR, hr_setR, hl_setR, nx_setR, us_setR, cn_setR, cs_setR, kd_setL, ln_setL, hi_setL, hr_setL, hl_setL, nx_setL, us_setL, cn_setL, cs_setL, kd_mkO, ln_mkO, hi_mkO, hr_mkO, hl_mkO, nx_mkO, us_mkO, cn_mkO, cs_mkO, up1, up2, hn, hk, hz, Nat.add_assoc]
  · have h1 : b ≠ a := by omega
    unfold eqA
    simp [kd_setI, ln_setI, hi_setI, hr_setI, hl_setI, nx_setI, us_setI, cn_setI, cs_setI, kd_setR, ln_setR, hi_setR, hr_setR, hl_setR, nx_setR, us_setR, cn_setR, cs_setR, kd_setL, ln_setL, hi_setL, hr_setL, hl_setL, nx_setL, us_setL, cn_setL, cs_setL, kd_mkO, ln_mkO, hi_mkO, hr_mkO, hl_mkO, nx_mkO, us_mkO, cn_mkO, cs_mkO, up1, up2, hn, h1, Nat.add_assoc, show ∀ k, b ≠ a + k from fun k => by omega]
/-- Board at a -/
def BoaN (h : Hp) (a : Nat) : Prop := kd h a = 3 ∧ hr h a 0 = some (a + 1) ∧ hi h a 1 = 0 ∧ kd h (a + 1) = 101 ∧ ln h (a + 1) = 1344
set_option maxRecDepth 100000 in
set_option maxHeartbeats 4000000 in
theorem s_Board {a : Nat} {h : Hp} (hk : kd h a = 3) (hz : ∀ k, hi h a k = 0) (hn : nx h = a + 1) (r1 : nx h + 1 ≤ cn h) (r2 : us h + 1344 ≤ cs h) : wp 48 0 (entL [vR (some a)] (mL 48)) [] h (fun v h' => v = none ∧ BoaN h' a ∧ nx h' = a + 2 ∧ us h' = us h + 1344 ∧ cn h' = cn h ∧ cs h' = cs h ∧ ∀ b, b < a → eqA h h' b) noX := by
  refine wp_aload_n d_48_0 (by rfl) ?_
  refine wp_objInit d_48_1 oi_2 co_code ⟨Nat.le_of_ble_eq_true rfl, Nat.le_of_ble_eq_true rfl⟩ ?_
  refine wp_aload_n d_48_4 (by rfl) ?_
  refine wp_sipush d_48_5 (by decide) ?_
  refine wp_newa (K := 101) d_48_8 rfl (by decide) ca_101 rfl (by omega) (by omega) (by decide) (by first | omega | (simp [kd_setI, ln_setI, hi_setI, hr_setI, hl_setI, nx_setI, us_setI, cn_setI, cs_setI, kd_setR, ln_setR, hi_setR, hr_setR, hl_setR, nx_setR, us_setR, cn_setR, cs_setR, kd_setL, ln_setL, hi_setL, hr_setL, hl_setL, nx_setL, us_setL, cn_setL, cs_setL, kd_mkO, ln_mkO, hi_mkO, hr_mkO, hl_mkO, nx_mkO, us_mkO, cn_mkO, cs_mkO]; omega)) (by first | omega | (simp [kd_setI, ln_setI, hi_setI, hr_setI, hl_setI, nx_setI, us_setI, cn_setI, cs_setI, kd_setR, ln_setR, hi_setR, hr_setR, hl_setR, nx_setR, us_setR, cn_setR, cs_setR, kd_setL, ln_setL, hi_setL, hr_setL, hl_setL, nx_setL, us_setL, cn_setL, cs_setL, kd_mkO, ln_mkO, hi_mkO, hr_mkO, hl_mkO, nx_mkO, us_mkO, cn_mkO, cs_mkO]; omega)) ?_
  refine wp_putR (0) d_48_10 fl_2_9 rfl rfl (Or.inr ⟨by rfl, by rfl, by rfl⟩) (by simp [kd_setI, ln_setI, hi_setI, hr_setI, hl_setI, nx_setI, us_setI, cn_setI, cs_setI, kd_setR, ln_setR, hi_setR, hr_setR, hl_setR, nx_setR, us_setR, cn_setR, cs_setR, kd_setL, ln_setL, hi_setL, hr_setL, hl_setL, nx_setL, us_setL, cn_setL, cs_setL, kd_mkO, ln_mkO, hi_mkO, hr_mkO, hl_mkO, nx_mkO, us_mkO, cn_mkO, cs_mkO, up1, up2, hn, hk, Nat.add_assoc]) ?_
  refine wp_vret d_48_13 rfl ?_
  have hb0 : ∀ b : Nat, b < a → b ≠ a := fun b hb => by omega
  refine ⟨rfl, ?_, by simp [kd_setI, ln_setI, hi_setI, hr_setI, hl_setI, nx_setI, us_setI, cn_setI, cs_setI, kd_setR, ln_setR, hi_setR, hr_setR, hl_setR, nx_setR, us_setR, cn_setR, cs_setR, kd_setL, ln_setL, hi_setL, hr_setL, hl_setL, nx_setL, us_setL, cn_setL, cs_setL, kd_mkO, ln_mkO, hi_mkO, hr_mkO, hl_mkO, nx_mkO, us_mkO, cn_mkO, cs_mkO, hn, Nat.add_assoc], by simp [kd_setI, ln_setI, hi_setI, hr_setI, hl_setI, nx_setI, us_setI, cn_setI, cs_setI, kd_setR, ln_setR, hi_setR, hr_setR, hl_setR, nx_setR, us_setR, cn_setR, cs_setR, kd_setL, ln_setL, hi_setL, hr_setL, hl_setL, nx_setL, us_setL, cn_setL, cs_setL, kd_mkO, ln_mkO, hi_mkO, hr_mkO, hl_mkO, nx_mkO, us_mkO, cn_mkO, cs_mkO, Nat.add_assoc], rfl, rfl, fun b hb => ?_⟩
  · simp [BoaN, zA, nA, kd_setI, ln_setI, hi_setI, hr_setI, hl_setI, nx_setI, us_setI, cn_setI, cs_setI, kd_setR, ln_setR, hi_setR, hr_setR, hl_setR, nx_setR, us_setR, cn_setR, cs_setR, kd_setL, ln_setL, hi_setL, hr_setL, hl_setL, nx_setL, us_setL, cn_setL, cs_setL, kd_mkO, ln_mkO, hi_mkO, hr_mkO, hl_mkO, nx_mkO, us_mkO, cn_mkO, cs_mkO, up1, up2, hn, hk, hz, Nat.add_assoc]
  · have h1 : b ≠ a := by omega
    unfold eqA
    simp [kd_setI, ln_setI, hi_setI, hr_setI, hl_setI, nx_setI, us_setI, cn_setI, cs_setI, kd_setR, ln_setR, hi_setR, hr_setR, hl_setR, nx_setR, us_setR, cn_setR, cs_setR, kd_setL, ln_setL, hi_setL, hr_setL, hl_setL, nx_setL, us_setL, cn_setL, cs_setL, kd_mkO, ln_mkO, hi_mkO, hr_mkO, hl_mkO, nx_mkO, us_mkO, cn_mkO, cs_mkO, up1, up2, hn, h1, Nat.add_assoc, show ∀ k, b ≠ a + k from fun k => by omega]
/-- Journey at a -/
def JouN (h : Hp) (a : Nat) : Prop := kd h a = 7 ∧ hr h a 5 = some (a + 1) ∧ hr h a 6 = some (a + 2) ∧ hr h a 7 = some (a + 3) ∧ hr h a 8 = some (a + 4) ∧ hr h a 9 = some (a + 5) ∧ hr h a 10 = some (a + 6) ∧ hr h a 11 = some (a + 7) ∧ (hi h a 0 = 0 ∧ hi h a 1 = 0 ∧ hi h a 2 = 0 ∧ hi h a 3 = 0 ∧ hi h a 4 = 0 ∧ hi h a 12 = 0 ∧ hi h a 13 = 0) ∧ nA h (a + 1) 106 13 ∧ zA h (a + 2) 13 ∧ zA h (a + 3) 13 ∧ zA h (a + 4) 13 ∧ zA h (a + 5) 13 ∧ zA h (a + 6) 13 ∧ zA h (a + 7) 13
set_option maxRecDepth 100000 in
set_option maxHeartbeats 4000000 in
theorem s_Journey {a : Nat} {h : Hp} (hk : kd h a = 7) (hz : ∀ k, hi h a k = 0) (hn : nx h = a + 1) (r1 : nx h + 7 ≤ cn h) (r2 : us h + 91 ≤ cs h) : wp 73 0 (entL [vR (some a)] (mL 73)) [] h (fun v h' => v = none ∧ JouN h' a ∧ nx h' = a + 8 ∧ us h' = us h + 91 ∧ cn h' = cn h ∧ cs h' = cs h ∧ ∀ b, b < a → eqA h h' b) noX := by
  refine wp_aload_n d_73_0 (by rfl) ?_
  refine wp_objInit d_73_1 oi_6 co_code ⟨Nat.le_of_ble_eq_true rfl, Nat.le_of_ble_eq_true rfl⟩ ?_
  refine wp_aload_n d_73_4 (by rfl) ?_
  refine wp_bipush d_73_5 (by decide) ?_
  refine wp_anew (K := 106) d_73_7 cl_6_9 rfl (by decide) ca_106 (by omega) (by omega) (by first | omega | (simp [kd_setI, ln_setI, hi_setI, hr_setI, hl_setI, nx_setI, us_setI, cn_setI, cs_setI, kd_setR, ln_setR, hi_setR, hr_setR, hl_setR, nx_setR, us_setR, cn_setR, cs_setR, kd_setL, ln_setL, hi_setL, hr_setL, hl_setL, nx_setL, us_setL, cn_setL, cs_setL, kd_mkO, ln_mkO, hi_mkO, hr_mkO, hl_mkO, nx_mkO, us_mkO, cn_mkO, cs_mkO]; omega)) (by first | omega | (simp [kd_setI, ln_setI, hi_setI, hr_setI, hl_setI, nx_setI, us_setI, cn_setI, cs_setI, kd_setR, ln_setR, hi_setR, hr_setR, hl_setR, nx_setR, us_setR, cn_setR, cs_setR, kd_setL, ln_setL, hi_setL, hr_setL, hl_setL, nx_setL, us_setL, cn_setL, cs_setL, kd_mkO, ln_mkO, hi_mkO, hr_mkO, hl_mkO, nx_mkO, us_mkO, cn_mkO, cs_mkO]; omega)) ?_
  refine wp_putR (5) d_73_10 fl_6_11 rfl rfl (Or.inr ⟨by rfl, by rfl, by rfl⟩) (by simp [kd_setI, ln_setI, hi_setI, hr_setI, hl_setI, nx_setI, us_setI, cn_setI, cs_setI, kd_setR, ln_setR, hi_setR, hr_setR, hl_setR, nx_setR, us_setR, cn_setR, cs_setR, kd_setL, ln_setL, hi_setL, hr_setL, hl_setL, nx_setL, us_setL, cn_setL, cs_setL, kd_mkO, ln_mkO, hi_mkO, hr_mkO, hl_mkO, nx_mkO, us_mkO, cn_mkO, cs_mkO, up1, up2, hn, hk, Nat.add_assoc]) ?_
  refine wp_aload_n d_73_13 (by rfl) ?_
  refine wp_bipush d_73_14 (by decide) ?_
  refine wp_newa (K := 100) d_73_16 rfl (by decide) ca_100 rfl (by omega) (by omega) (by decide) (by first | omega | (simp [kd_setI, ln_setI, hi_setI, hr_setI, hl_setI, nx_setI, us_setI, cn_setI, cs_setI, kd_setR, ln_setR, hi_setR, hr_setR, hl_setR, nx_setR, us_setR, cn_setR, cs_setR, kd_setL, ln_setL, hi_setL, hr_setL, hl_setL, nx_setL, us_setL, cn_setL, cs_setL, kd_mkO, ln_mkO, hi_mkO, hr_mkO, hl_mkO, nx_mkO, us_mkO, cn_mkO, cs_mkO]; omega)) (by first | omega | (simp [kd_setI, ln_setI, hi_setI, hr_setI, hl_setI, nx_setI, us_setI, cn_setI, cs_setI, kd_setR, ln_setR, hi_setR, hr_setR, hl_setR, nx_setR, us_setR, cn_setR, cs_setR, kd_setL, ln_setL, hi_setL, hr_setL, hl_setL, nx_setL, us_setL, cn_setL, cs_setL, kd_mkO, ln_mkO, hi_mkO, hr_mkO, hl_mkO, nx_mkO, us_mkO, cn_mkO, cs_mkO]; omega)) ?_
  refine wp_putR (6) d_73_18 fl_6_17 rfl rfl (Or.inr ⟨by rfl, by rfl, by rfl⟩) (by simp [kd_setI, ln_setI, hi_setI, hr_setI, hl_setI, nx_setI, us_setI, cn_setI, cs_setI, kd_setR, ln_setR, hi_setR, hr_setR, hl_setR, nx_setR, us_setR, cn_setR, cs_setR, kd_setL, ln_setL, hi_setL, hr_setL, hl_setL, nx_setL, us_setL, cn_setL, cs_setL, kd_mkO, ln_mkO, hi_mkO, hr_mkO, hl_mkO, nx_mkO, us_mkO, cn_mkO, cs_mkO, up1, up2, hn, hk, Nat.add_assoc]) ?_
  refine wp_aload_n d_73_21 (by rfl) ?_
  refine wp_bipush d_73_22 (by decide) ?_
  refine wp_newa (K := 100) d_73_24 rfl (by decide) ca_100 rfl (by omega) (by omega) (by decide) (by first | omega | (simp [kd_setI, ln_setI, hi_setI, hr_setI, hl_setI, nx_setI, us_setI, cn_setI, cs_setI, kd_setR, ln_setR, hi_setR, hr_setR, hl_setR, nx_setR, us_setR, cn_setR, cs_setR, kd_setL, ln_setL, hi_setL, hr_setL, hl_setL, nx_setL, us_setL, cn_setL, cs_setL, kd_mkO, ln_mkO, hi_mkO, hr_mkO, hl_mkO, nx_mkO, us_mkO, cn_mkO, cs_mkO]; omega)) (by first | omega | (simp [kd_setI, ln_setI, hi_setI, hr_setI, hl_setI, nx_setI, us_setI, cn_setI, cs_setI, kd_setR, ln_setR, hi_setR, hr_setR, hl_setR, nx_setR, us_setR, cn_setR, cs_setR, kd_setL, ln_setL, hi_setL, hr_setL, hl_setL, nx_setL, us_setL, cn_setL, cs_setL, kd_mkO, ln_mkO, hi_mkO, hr_mkO, hl_mkO, nx_mkO, us_mkO, cn_mkO, cs_mkO]; omega)) ?_
  refine wp_putR (7) d_73_26 fl_6_21 rfl rfl (Or.inr ⟨by rfl, by rfl, by rfl⟩) (by simp [kd_setI, ln_setI, hi_setI, hr_setI, hl_setI, nx_setI, us_setI, cn_setI, cs_setI, kd_setR, ln_setR, hi_setR, hr_setR, hl_setR, nx_setR, us_setR, cn_setR, cs_setR, kd_setL, ln_setL, hi_setL, hr_setL, hl_setL, nx_setL, us_setL, cn_setL, cs_setL, kd_mkO, ln_mkO, hi_mkO, hr_mkO, hl_mkO, nx_mkO, us_mkO, cn_mkO, cs_mkO, up1, up2, hn, hk, Nat.add_assoc]) ?_
  refine wp_aload_n d_73_29 (by rfl) ?_
  refine wp_bipush d_73_30 (by decide) ?_
  refine wp_newa (K := 100) d_73_32 rfl (by decide) ca_100 rfl (by omega) (by omega) (by decide) (by first | omega | (simp [kd_setI, ln_setI, hi_setI, hr_setI, hl_setI, nx_setI, us_setI, cn_setI, cs_setI, kd_setR, ln_setR, hi_setR, hr_setR, hl_setR, nx_setR, us_setR, cn_setR, cs_setR, kd_setL, ln_setL, hi_setL, hr_setL, hl_setL, nx_setL, us_setL, cn_setL, cs_setL, kd_mkO, ln_mkO, hi_mkO, hr_mkO, hl_mkO, nx_mkO, us_mkO, cn_mkO, cs_mkO]; omega)) (by first | omega | (simp [kd_setI, ln_setI, hi_setI, hr_setI, hl_setI, nx_setI, us_setI, cn_setI, cs_setI, kd_setR, ln_setR, hi_setR, hr_setR, hl_setR, nx_setR, us_setR, cn_setR, cs_setR, kd_setL, ln_setL, hi_setL, hr_setL, hl_setL, nx_setL, us_setL, cn_setL, cs_setL, kd_mkO, ln_mkO, hi_mkO, hr_mkO, hl_mkO, nx_mkO, us_mkO, cn_mkO, cs_mkO]; omega)) ?_
  refine wp_putR (8) d_73_34 fl_6_24 rfl rfl (Or.inr ⟨by rfl, by rfl, by rfl⟩) (by simp [kd_setI, ln_setI, hi_setI, hr_setI, hl_setI, nx_setI, us_setI, cn_setI, cs_setI, kd_setR, ln_setR, hi_setR, hr_setR, hl_setR, nx_setR, us_setR, cn_setR, cs_setR, kd_setL, ln_setL, hi_setL, hr_setL, hl_setL, nx_setL, us_setL, cn_setL, cs_setL, kd_mkO, ln_mkO, hi_mkO, hr_mkO, hl_mkO, nx_mkO, us_mkO, cn_mkO, cs_mkO, up1, up2, hn, hk, Nat.add_assoc]) ?_
  refine wp_aload_n d_73_37 (by rfl) ?_
  refine wp_bipush d_73_38 (by decide) ?_
  refine wp_newa (K := 100) d_73_40 rfl (by decide) ca_100 rfl (by omega) (by omega) (by decide) (by first | omega | (simp [kd_setI, ln_setI, hi_setI, hr_setI, hl_setI, nx_setI, us_setI, cn_setI, cs_setI, kd_setR, ln_setR, hi_setR, hr_setR, hl_setR, nx_setR, us_setR, cn_setR, cs_setR, kd_setL, ln_setL, hi_setL, hr_setL, hl_setL, nx_setL, us_setL, cn_setL, cs_setL, kd_mkO, ln_mkO, hi_mkO, hr_mkO, hl_mkO, nx_mkO, us_mkO, cn_mkO, cs_mkO]; omega)) (by first | omega | (simp [kd_setI, ln_setI, hi_setI, hr_setI, hl_setI, nx_setI, us_setI, cn_setI, cs_setI, kd_setR, ln_setR, hi_setR, hr_setR, hl_setR, nx_setR, us_setR, cn_setR, cs_setR, kd_setL, ln_setL, hi_setL, hr_setL, hl_setL, nx_setL, us_setL, cn_setL, cs_setL, kd_mkO, ln_mkO, hi_mkO, hr_mkO, hl_mkO, nx_mkO, us_mkO, cn_mkO, cs_mkO]; omega)) ?_
  refine wp_putR (9) d_73_42 fl_6_27 rfl rfl (Or.inr ⟨by rfl, by rfl, by rfl⟩) (by simp [kd_setI, ln_setI, hi_setI, hr_setI, hl_setI, nx_setI, us_setI, cn_setI, cs_setI, kd_setR, ln_setR, hi_setR, hr_setR, hl_setR, nx_setR, us_setR, cn_setR, cs_setR, kd_setL, ln_setL, hi_setL, hr_setL, hl_setL, nx_setL, us_setL, cn_setL, cs_setL, kd_mkO, ln_mkO, hi_mkO, hr_mkO, hl_mkO, nx_mkO, us_mkO, cn_mkO, cs_mkO, up1, up2, hn, hk, Nat.add_assoc]) ?_
  refine wp_aload_n d_73_45 (by rfl) ?_
  refine wp_bipush d_73_46 (by decide) ?_
  refine wp_newa (K := 100) d_73_48 rfl (by decide) ca_100 rfl (by omega) (by omega) (by decide) (by first | omega | (simp [kd_setI, ln_setI, hi_setI, hr_setI, hl_setI, nx_setI, us_setI, cn_setI, cs_setI, kd_setR, ln_setR, hi_setR, hr_setR, hl_setR, nx_setR, us_setR, cn_setR, cs_setR, kd_setL, ln_setL, hi_setL, hr_setL, hl_setL, nx_setL, us_setL, cn_setL, cs_setL, kd_mkO, ln_mkO, hi_mkO, hr_mkO, hl_mkO, nx_mkO, us_mkO, cn_mkO, cs_mkO]; omega)) (by first | omega | (simp [kd_setI, ln_setI, hi_setI, hr_setI, hl_setI, nx_setI, us_setI, cn_setI, cs_setI, kd_setR, ln_setR, hi_setR, hr_setR, hl_setR, nx_setR, us_setR, cn_setR, cs_setR, kd_setL, ln_setL, hi_setL, hr_setL, hl_setL, nx_setL, us_setL, cn_setL, cs_setL, kd_mkO, ln_mkO, hi_mkO, hr_mkO, hl_mkO, nx_mkO, us_mkO, cn_mkO, cs_mkO]; omega)) ?_
  refine wp_putR (10) d_73_50 fl_6_30 rfl rfl (Or.inr ⟨by rfl, by rfl, by rfl⟩) (by simp [kd_setI, ln_setI, hi_setI, hr_setI, hl_setI, nx_setI, us_setI, cn_setI, cs_setI, kd_setR, ln_setR, hi_setR, hr_setR, hl_setR, nx_setR, us_setR, cn_setR, cs_setR, kd_setL, ln_setL, hi_setL, hr_setL, hl_setL, nx_setL, us_setL, cn_setL, cs_setL, kd_mkO, ln_mkO, hi_mkO, hr_mkO, hl_mkO, nx_mkO, us_mkO, cn_mkO, cs_mkO, up1, up2, hn, hk, Nat.add_assoc]) ?_
  refine wp_aload_n d_73_53 (by rfl) ?_
  refine wp_bipush d_73_54 (by decide) ?_
  refine wp_newa (K := 100) d_73_56 rfl (by decide) ca_100 rfl (by omega) (by omega) (by decide) (by first | omega | (simp [kd_setI, ln_setI, hi_setI, hr_setI, hl_setI, nx_setI, us_setI, cn_setI, cs_setI, kd_setR, ln_setR, hi_setR, hr_setR, hl_setR, nx_setR, us_setR, cn_setR, cs_setR, kd_setL, ln_setL, hi_setL, hr_setL, hl_setL, nx_setL, us_setL, cn_setL, cs_setL, kd_mkO, ln_mkO, hi_mkO, hr_mkO, hl_mkO, nx_mkO, us_mkO, cn_mkO, cs_mkO]; omega)) (by first | omega | (simp [kd_setI, ln_setI, hi_setI, hr_setI, hl_setI, nx_setI, us_setI, cn_setI, cs_setI, kd_setR, ln_setR, hi_setR, hr_setR, hl_setR, nx_setR, us_setR, cn_setR, cs_setR, kd_setL, ln_setL, hi_setL, hr_setL, hl_setL, nx_setL, us_setL, cn_setL, cs_setL, kd_mkO, ln_mkO, hi_mkO, hr_mkO, hl_mkO, nx_mkO, us_mkO, cn_mkO, cs_mkO]; omega)) ?_
  refine wp_putR (11) d_73_58 fl_6_33 rfl rfl (Or.inr ⟨by rfl, by rfl, by rfl⟩) (by simp [kd_setI, ln_setI, hi_setI, hr_setI, hl_setI, nx_setI, us_setI, cn_setI, cs_setI, kd_setR, ln_setR, hi_setR, hr_setR, hl_setR, nx_setR, us_setR, cn_setR, cs_setR, kd_setL, ln_setL, hi_setL, hr_setL, hl_setL, nx_setL, us_setL, cn_setL, cs_setL, kd_mkO, ln_mkO, hi_mkO, hr_mkO, hl_mkO, nx_mkO, us_mkO, cn_mkO, cs_mkO, up1, up2, hn, hk, Nat.add_assoc]) ?_
  refine wp_vret d_73_61 rfl ?_
  have hb0 : ∀ b : Nat, b < a → b ≠ a := fun b hb => by omega
  refine ⟨rfl, ?_, by simp [kd_setI, ln_setI, hi_setI, hr_setI, hl_setI, nx_setI, us_setI, cn_setI, cs_setI, kd_setR, ln_setR, hi_setR, hr_setR, hl_setR, nx_setR, us_setR, cn_setR, cs_setR, kd_setL, ln_setL, hi_setL, hr_setL, hl_setL, nx_setL, us_setL, cn_setL, cs_setL, kd_mkO, ln_mkO, hi_mkO, hr_mkO, hl_mkO, nx_mkO, us_mkO, cn_mkO, cs_mkO, hn, Nat.add_assoc], by simp [kd_setI, ln_setI, hi_setI, hr_setI, hl_setI, nx_setI, us_setI, cn_setI, cs_setI, kd_setR, ln_setR, hi_setR, hr_setR, hl_setR, nx_setR, us_setR, cn_setR, cs_setR, kd_setL, ln_setL, hi_setL, hr_setL, hl_setL, nx_setL, us_setL, cn_setL, cs_setL, kd_mkO, ln_mkO, hi_mkO, hr_mkO, hl_mkO, nx_mkO, us_mkO, cn_mkO, cs_mkO, Nat.add_assoc], rfl, rfl, fun b hb => ?_⟩
  · simp [JouN, zA, nA, kd_setI, ln_setI, hi_setI, hr_setI, hl_setI, nx_setI, us_setI, cn_setI, cs_setI, kd_setR, ln_setR, hi_setR, hr_setR, hl_setR, nx_setR, us_setR, cn_setR, cs_setR, kd_setL, ln_setL, hi_setL, hr_setL, hl_setL, nx_setL, us_setL, cn_setL, cs_setL, kd_mkO, ln_mkO, hi_mkO, hr_mkO, hl_mkO, nx_mkO, us_mkO, cn_mkO, cs_mkO, up1, up2, hn, hk, hz, Nat.add_assoc]
  · have h1 : b ≠ a := by omega
    unfold eqA
    simp [kd_setI, ln_setI, hi_setI, hr_setI, hl_setI, nx_setI, us_setI, cn_setI, cs_setI, kd_setR, ln_setR, hi_setR, hr_setR, hl_setR, nx_setR, us_setR, cn_setR, cs_setR, kd_setL, ln_setL, hi_setL, hr_setL, hl_setL, nx_setL, us_setL, cn_setL, cs_setL, kd_mkO, ln_mkO, hi_mkO, hr_mkO, hl_mkO, nx_mkO, us_mkO, cn_mkO, cs_mkO, up1, up2, hn, h1, Nat.add_assoc, show ∀ k, b ≠ a + k from fun k => by omega]
/-- Onward at a -/
def OnwN (h : Hp) (a : Nat) : Prop := kd h a = 10 ∧ hr h a 0 = some (a + 1) ∧ hr h a 1 = some (a + 9) ∧ hr h a 2 = some (a + 17) ∧ mA h (a + 1) 7 16 ∧ mA h (a + 9) 7 16 ∧ zA h (a + 17) 16 ∧ hi h a 3 = 0
/-- Backward at a -/
def BacN (h : Hp) (a : Nat) : Prop := kd h a = 2 ∧ hr h a 0 = some (a + 1) ∧ hr h a 1 = some (a + 9) ∧ hi h a 2 = 0 ∧ hi h a 3 = 0 ∧ mA h (a + 1) 7 16 ∧ mA h (a + 9) 7 16
set_option maxRecDepth 100000 in
set_option maxHeartbeats 4000000 in
theorem s_Onward {a : Nat} {h : Hp} (hk : kd h a = 10) (hz : ∀ k, hi h a k = 0) (hn : nx h = a + 1) (r1 : nx h + 17 ≤ cn h) (r2 : us h + 254 ≤ cs h) : wp 90 0 (entL [vR (some a)] (mL 90)) [] h (fun v h' => v = none ∧ OnwN h' a ∧ nx h' = a + 18 ∧ us h' = us h + 254 ∧ cn h' = cn h ∧ cs h' = cs h ∧ ∀ b, b < a → eqA h h' b) noX := by
  refine wp_aload_n d_90_0 (by rfl) ?_
  refine wp_objInit d_90_1 oi_9 co_code ⟨Nat.le_of_ble_eq_true rfl, Nat.le_of_ble_eq_true rfl⟩ ?_
  refine wp_aload_n d_90_4 (by rfl) ?_
  refine wp_bipush d_90_5 (by decide) ?_
  refine wp_bipush d_90_7 (by decide) ?_
  refine wp_mna d_90_9 cl_9_9 ca_103 ca_100 (by decide) (by decide) (by decide) (by decide) (by first | (simp; omega) | omega) (by first | (simp; omega) | omega) ?_
  refine wp_putR (0) d_90_13 fl_9_11 rfl rfl (Or.inr ⟨by rfl, by rfl, by rfl⟩) (by first | exact hk | (rw [kd_mkM, if_neg (by omega), if_neg (by omega)]; assumption) | (rw [kd_mkO, up1_ne _ _ (by omega)]; assumption)) ?_
  have hne : ¬ a = nx h := by omega
  have k1 : kd (mkM h 7 16) a = 10 := by rw [kd_mkM, if_neg hne, if_neg (by omega)]; exact hk
  have n1 : nx (setR (mkM h 7 16) a 0 (some (nx h))) = a + 9 := by rw [nx_setR, nx_mkM, hn]; rfl
  have u1 : us (setR (mkM h 7 16) a 0 (some (nx h))) = us h + 119 := by rw [us_setR, us_mkM]; rfl
  have c1 : cn (setR (mkM h 7 16) a 0 (some (nx h))) = cn h := rfl
  have d1 : cs (setR (mkM h 7 16) a 0 (some (nx h))) = cs h := rfl
  have k1' : kd (setR (mkM h 7 16) a 0 (some (nx h))) a = 10 := k1
  have m1 : mA (setR (mkM h 7 16) a 0 (some (nx h))) (a + 1) 7 16 := mA_setR (by have := mA_of h 7 16; rw [hn] at this; exact this) (by omega)
  have v1 : hr (setR (mkM h 7 16) a 0 (some (nx h))) a 0 = some (a + 1) := by rw [hr_setR, up2_same, hn]
  have f1 : ∀ b, b < a → eqA h (setR (mkM h 7 16) a 0 (some (nx h))) b := fun b hb => (eqA_mkM (by omega)).trans (eqA_setR (by omega))
  have z1 : ∀ k, hi (setR (mkM h 7 16) a 0 (some (nx h))) a k = 0 := fun k => by rw [hi_setR, hi_mkM, if_neg (by omega)]; exact hz k
  generalize setR (mkM h 7 16) a 0 (some (nx h)) = h1 at *
  refine wp_aload_n d_90_16 (by rfl) ?_
  refine wp_bipush d_90_17 (by decide) ?_
  refine wp_bipush d_90_19 (by decide) ?_
  refine wp_mna d_90_21 cl_9_9 ca_103 ca_100 (by decide) (by decide) (by decide) (by decide) (by first | (simp; omega) | omega) (by first | (simp; omega) | omega) ?_
  refine wp_putR (1) d_90_25 fl_9_16 rfl rfl (Or.inr ⟨by rfl, by rfl, by rfl⟩) (by first | exact hk | (rw [kd_mkM, if_neg (by omega), if_neg (by omega)]; assumption) | (rw [kd_mkO, up1_ne _ _ (by omega)]; assumption)) ?_
  have k2 : kd (mkM h1 7 16) a = 10 := by rw [kd_mkM, if_neg (by omega), if_neg (by omega)]; exact k1'
  have n2 : nx (setR (mkM h1 7 16) a 1 (some (nx h1))) = a + 17 := by rw [nx_setR, nx_mkM, n1]; rfl
  have u2 : us (setR (mkM h1 7 16) a 1 (some (nx h1))) = us h + 238 := by rw [us_setR, us_mkM, u1]; rfl
  have c2 : cn (setR (mkM h1 7 16) a 1 (some (nx h1))) = cn h := c1
  have d2 : cs (setR (mkM h1 7 16) a 1 (some (nx h1))) = cs h := d1
  have k2' : kd (setR (mkM h1 7 16) a 1 (some (nx h1))) a = 10 := k2
  have m2 : mA (setR (mkM h1 7 16) a 1 (some (nx h1))) (a + 9) 7 16 := mA_setR (by have := mA_of h1 7 16; rw [n1] at this; exact this) (by omega)
  have m1' : mA (setR (mkM h1 7 16) a 1 (some (nx h1))) (a + 1) 7 16 := mA_setR (m1.kept (fun b h0 h1 => eqA_mkM (by omega)) (by omega)) (by omega)
  have v1' : hr (setR (mkM h1 7 16) a 1 (some (nx h1))) a 0 = some (a + 1) := by rw [hr_setR, up2_ne _ _ (fun q => absurd q.2 (by decide)), hr_mkM, if_neg (by omega), if_neg (by omega)]; exact v1
  have v2 : hr (setR (mkM h1 7 16) a 1 (some (nx h1))) a 1 = some (a + 9) := by rw [hr_setR, up2_same, n1]
  have f2 : ∀ b, b < a → eqA h (setR (mkM h1 7 16) a 1 (some (nx h1))) b := fun b hb => (f1 b hb).trans ((eqA_mkM (by omega)).trans (eqA_setR (by omega)))
  have z2 : ∀ k, hi (setR (mkM h1 7 16) a 1 (some (nx h1))) a k = 0 := fun k => by rw [hi_setR, hi_mkM, if_neg (by omega)]; exact z1 k
  generalize setR (mkM h1 7 16) a 1 (some (nx h1)) = h2 at *
  refine wp_aload_n d_90_28 (by rfl) ?_
  refine wp_bipush d_90_29 (by decide) ?_
  refine wp_newa (K := 100) d_90_31 rfl (by decide) ca_100 rfl (by omega) (by omega) (by decide) (by first | (simp; omega) | omega) (by first | (simp; omega) | omega) ?_
  refine wp_putR (2) d_90_33 fl_9_19 rfl rfl (Or.inr ⟨by rfl, by rfl, by rfl⟩) (by first | exact hk | (rw [kd_mkM, if_neg (by omega), if_neg (by omega)]; assumption) | (rw [kd_mkO, up1_ne _ _ (by omega)]; assumption)) ?_
  have k3 : kd (mkO h2 100 16) a = 10 := by rw [kd_mkO, up1_ne _ _ (by omega)]; exact k2'
  have e3 : ∀ b, b < a + 17 → eqA h2 (mkO h2 100 16) b := fun b hb => eqA_mkO (by omega)
  have q3 : OnwN (setR (mkO h2 100 16) a 2 (some (nx h2))) a := by
    refine ⟨k3, ?_, ?_, ?_, mA_setR (m1'.kept (fun b h0 h1 => e3 b (by omega)) (by omega)) (by omega), mA_setR (m2.kept (fun b h0 h1 => e3 b (by omega)) (by omega)) (by omega), ?_, ?_⟩
    · rw [hr_setR, up2_ne _ _ (fun q => absurd q.2 (by decide))]
      exact ((e3 a (by omega)).2.2.2.1 0).trans v1'
    · rw [hr_setR, up2_ne _ _ (fun q => absurd q.2 (by decide))]
      exact ((e3 a (by omega)).2.2.2.1 1).trans v2
    · rw [hr_setR, up2_same, n2]
    · have := zA_mkO (h := h2) (n := 16)
      rw [n2] at this
      exact this
    · exact ((e3 a (by omega)).2.2.1 3).trans (z2 3)
  refine wp_vret d_90_36 rfl ?_
  refine ⟨rfl, q3, by rw [nx_setR, nx_mkO, n2], by rw [us_setR, us_mkO, u2]; rfl, c2, d2, fun b hb => (f2 b hb).trans ((e3 b (by omega)).trans (eqA_setR (by omega)))⟩
set_option maxRecDepth 100000 in
set_option maxHeartbeats 4000000 in
theorem s_Backward {a : Nat} {h : Hp} (hk : kd h a = 2) (hz : ∀ k, hi h a k = 0) (hn : nx h = a + 1) (r1 : nx h + 16 ≤ cn h) (r2 : us h + 238 ≤ cs h) : wp 47 0 (entL [vR (some a)] (mL 47)) [] h (fun v h' => v = none ∧ BacN h' a ∧ nx h' = a + 17 ∧ us h' = us h + 238 ∧ cn h' = cn h ∧ cs h' = cs h ∧ ∀ b, b < a → eqA h h' b) noX := by
  refine wp_aload_n d_47_0 (by rfl) ?_
  refine wp_objInit d_47_1 oi_1 co_code ⟨Nat.le_of_ble_eq_true rfl, Nat.le_of_ble_eq_true rfl⟩ ?_
  refine wp_aload_n d_47_4 (by rfl) ?_
  refine wp_bipush d_47_5 (by decide) ?_
  refine wp_bipush d_47_7 (by decide) ?_
  refine wp_mna d_47_9 cl_1_9 ca_103 ca_100 (by decide) (by decide) (by decide) (by decide) (by first | (simp; omega) | omega) (by first | (simp; omega) | omega) ?_
  refine wp_putR (0) d_47_13 fl_1_11 rfl rfl (Or.inr ⟨by rfl, by rfl, by rfl⟩) (by first | exact hk | (rw [kd_mkM, if_neg (by omega), if_neg (by omega)]; assumption) | (rw [kd_mkO, up1_ne _ _ (by omega)]; assumption)) ?_
  have hne : ¬ a = nx h := by omega
  have k1 : kd (mkM h 7 16) a = 2 := by rw [kd_mkM, if_neg hne, if_neg (by omega)]; exact hk
  have n1 : nx (setR (mkM h 7 16) a 0 (some (nx h))) = a + 9 := by rw [nx_setR, nx_mkM, hn]; rfl
  have u1 : us (setR (mkM h 7 16) a 0 (some (nx h))) = us h + 119 := by rw [us_setR, us_mkM]; rfl
  have c1 : cn (setR (mkM h 7 16) a 0 (some (nx h))) = cn h := rfl
  have d1 : cs (setR (mkM h 7 16) a 0 (some (nx h))) = cs h := rfl
  have k1' : kd (setR (mkM h 7 16) a 0 (some (nx h))) a = 2 := k1
  have m1 : mA (setR (mkM h 7 16) a 0 (some (nx h))) (a + 1) 7 16 := mA_setR (by have := mA_of h 7 16; rw [hn] at this; exact this) (by omega)
  have v1 : hr (setR (mkM h 7 16) a 0 (some (nx h))) a 0 = some (a + 1) := by rw [hr_setR, up2_same, hn]
  have f1 : ∀ b, b < a → eqA h (setR (mkM h 7 16) a 0 (some (nx h))) b := fun b hb => (eqA_mkM (by omega)).trans (eqA_setR (by omega))
  have z1 : ∀ k, hi (setR (mkM h 7 16) a 0 (some (nx h))) a k = 0 := fun k => by rw [hi_setR, hi_mkM, if_neg (by omega)]; exact hz k
  generalize setR (mkM h 7 16) a 0 (some (nx h)) = h1 at *
  refine wp_aload_n d_47_16 (by rfl) ?_
  refine wp_bipush d_47_17 (by decide) ?_
  refine wp_bipush d_47_19 (by decide) ?_
  refine wp_mna d_47_21 cl_1_9 ca_103 ca_100 (by decide) (by decide) (by decide) (by decide) (by first | (simp; omega) | omega) (by first | (simp; omega) | omega) ?_
  refine wp_putR (1) d_47_25 fl_1_16 rfl rfl (Or.inr ⟨by rfl, by rfl, by rfl⟩) (by first | exact hk | (rw [kd_mkM, if_neg (by omega), if_neg (by omega)]; assumption) | (rw [kd_mkO, up1_ne _ _ (by omega)]; assumption)) ?_
  have k2 : kd (mkM h1 7 16) a = 2 := by rw [kd_mkM, if_neg (by omega), if_neg (by omega)]; exact k1'
  have n2 : nx (setR (mkM h1 7 16) a 1 (some (nx h1))) = a + 17 := by rw [nx_setR, nx_mkM, n1]; rfl
  have u2 : us (setR (mkM h1 7 16) a 1 (some (nx h1))) = us h + 238 := by rw [us_setR, us_mkM, u1]; rfl
  have c2 : cn (setR (mkM h1 7 16) a 1 (some (nx h1))) = cn h := c1
  have d2 : cs (setR (mkM h1 7 16) a 1 (some (nx h1))) = cs h := d1
  have k2' : kd (setR (mkM h1 7 16) a 1 (some (nx h1))) a = 2 := k2
  have m2 : mA (setR (mkM h1 7 16) a 1 (some (nx h1))) (a + 9) 7 16 := mA_setR (by have := mA_of h1 7 16; rw [n1] at this; exact this) (by omega)
  have m1' : mA (setR (mkM h1 7 16) a 1 (some (nx h1))) (a + 1) 7 16 := mA_setR (m1.kept (fun b h0 h1 => eqA_mkM (by omega)) (by omega)) (by omega)
  have v1' : hr (setR (mkM h1 7 16) a 1 (some (nx h1))) a 0 = some (a + 1) := by rw [hr_setR, up2_ne _ _ (fun q => absurd q.2 (by decide)), hr_mkM, if_neg (by omega), if_neg (by omega)]; exact v1
  have v2 : hr (setR (mkM h1 7 16) a 1 (some (nx h1))) a 1 = some (a + 9) := by rw [hr_setR, up2_same, n1]
  have f2 : ∀ b, b < a → eqA h (setR (mkM h1 7 16) a 1 (some (nx h1))) b := fun b hb => (f1 b hb).trans ((eqA_mkM (by omega)).trans (eqA_setR (by omega)))
  have z2 : ∀ k, hi (setR (mkM h1 7 16) a 1 (some (nx h1))) a k = 0 := fun k => by rw [hi_setR, hi_mkM, if_neg (by omega)]; exact z1 k
  refine wp_vret d_47_28 rfl ?_
  exact ⟨rfl, ⟨k2', v1', v2, z2 2, z2 3, m1', m2⟩, n2, u2, c2, d2, f2⟩
/-- Fares at f, its Offers of the stops below i made -/
def FarI (h : Hp) (f i : Nat) : Prop := kd h f = 5 ∧ hr h f 0 = some (f + 1) ∧ hr h f 1 = some (f + 2) ∧ (hi h f 2 = 0 ∧ hi h f 3 = 0 ∧ hi h f 4 = 0) ∧ (kd h (f + 1) = 107 ∧ ln h (f + 1) = 16) ∧ (kd h (f + 2) = 107 ∧ ln h (f + 2) = 16) ∧ ∀ s : Nat, s < i → hr h (f + 1) s = some (f + 3 + 6 * s) ∧ OffN h (f + 3 + 6 * s) ∧ hr h (f + 2) s = some (f + 6 + 6 * s) ∧ OffN h (f + 6 + 6 * s)
theorem FarI.kept {h h' : Hp} {f i : Nat} (q : FarI h f i) (e : ∀ b, f ≤ b → b < f + 3 + 6 * i → eqA h h' b) : FarI h' f i := by
  have e0 := e f (Nat.le_refl _) (by omega)
  have e1 := e (f + 1) (by omega) (by omega)
  have e2 := e (f + 2) (by omega) (by omega)
  obtain ⟨q1, q2, q3, ⟨q4, q5, q6⟩, ⟨q7, q8⟩, ⟨q9, q10⟩, q11⟩ := q
  refine ⟨e0.1.trans q1, (e0.2.2.2.1 _).trans q2, (e0.2.2.2.1 _).trans q3, ⟨(e0.2.2.1 _).trans q4, (e0.2.2.1 _).trans q5, (e0.2.2.1 _).trans q6⟩, ⟨e1.1.trans q7, e1.2.1.trans q8⟩, ⟨e2.1.trans q9, e2.2.1.trans q10⟩, fun s hs => ?_⟩
  obtain ⟨a1, a2, a3, a4⟩ := q11 s hs
  exact ⟨(e1.2.2.2.1 _).trans a1, a2.kept (fun b h0 h1 => e b (by omega) (by omega)), (e2.2.2.2.1 _).trans a3, a4.kept (fun b h0 h1 => e b (by omega) (by omega))⟩
set_option maxRecDepth 100000 in
set_option maxHeartbeats 4000000 in
theorem l_Fares {f : Nat} {Q : Option AV → Hp → Prop} : ∀ (n i : Nat) (h : Hp), i + n = 16 → FarI h f i → nx h = f + 3 + 6 * i → nx h + 6 * n ≤ cn h → us h + 70 * n ≤ cs h → (∀ h', FarI h' f 16 → nx h' = f + 99 → us h' = us h + 70 * n → cn h' = cn h → cs h' = cs h → (∀ b, b < f → eqA h h' b) → Q none h') → wp 56 24 [some (vR (some f)), some (vI (i : Int))] [] h Q noX := by
  intro n
  induction n with
  | zero =>
    intro i h hin hf hn r1 r2 hq
    have h16 : i = 16 := by omega
    subst h16
    refine wp_iload_n d_56_24 (by rfl) ?_
    refine wp_bipush d_56_25 (by decide) ?_
    refine wp_icmp_ge (tgt := 62) d_56_27 (by decide) (by omega) (by omega) (fun c_27 => ?_) (fun c_27 => ?_)
    · refine wp_vret d_56_62 rfl ?_
      exact hq h hf (by omega) (by omega) rfl rfl (fun _ _ => eqA.rfl)
    · exact absurd c_27 (by omega)
  | succ n ih =>
    intro i h hin hf hn r1 r2 hq
    obtain ⟨q1, q2, q3, q4, ⟨q7, q8⟩, ⟨q9, q10⟩, q11⟩ := hf
    refine wp_iload_n d_56_24 (by rfl) ?_
    refine wp_bipush d_56_25 (by decide) ?_
    refine wp_icmp_ge (tgt := 62) d_56_27 (by decide) (by omega) (by omega) (fun c_27 => ?_) (fun c_27 => ?_)
    · exact absurd c_27 (by omega)
    · refine wp_aload_n d_56_30 (by rfl) ?_
      refine wp_getR (0) d_56_31 fl_4_11 rfl rfl (by first | assumption | (rw [kd_mkO, up1_ne _ _ (by omega)]; assumption) | exact F1.1.trans q1) (by first | assumption | exact (F1.2.2.2.1 _).trans q3) ?_
      refine wp_iload_n d_56_34 (by rfl) ?_
      refine wp_new (ci := 8) d_56_35 cl_4_9 ci8 ⟨_, rfl⟩ (by decide) (by omega) (by omega) ?_
      refine wp_dup d_56_38 (by rfl) ?_
      refine wp_callIn d_56_39 c_56_20 rfl rfl (by rfl) (by rfl) (by exact Nat.le_of_ble_eq_true rfl) (by exact Nat.le_of_ble_eq_true rfl) (s_Offers (by rw [kd_mkO, up1_same]) (fun k => by rw [hi_mkO, up1_same]) rfl (by simp only [nx_mkO, cn_mkO]; omega) (by simp only [us_mkO, cs_mkO]; simp; omega)) (fun v_39 h_39 q_39 => ?_) (fun _ _ q => q.elim)
      obtain ⟨rfl, o1, n1, u1, c1, d1, g1⟩ := q_39
      have g1' : ∀ b, b < nx h → eqA h h_39 b := fun b hb => (eqA_mkO hb).trans (g1 b hb)
      have k1 : kd h_39 (f + 1) = 107 := (g1' (f + 1) (by omega)).1.trans q7
      have k1l : ln h_39 (f + 1) = 16 := (g1' (f + 1) (by omega)).2.1.trans q8
      have u1' : us h_39 = us h + 35 := by rw [u1, us_mkO]; rfl
      have c1' : cn h_39 = cn h := c1
      have d1' : cs h_39 = cs h := d1
      have ok1 : kd h_39 (nx h) = 8 + 1 := o1.1
      clear u1 c1 d1 g1
      refine wp_aastO (cb := 8) d_56_42 (by omega) (by omega) ok1 (by decide) (by rw [k1]; rfl) (by omega) (by omega) ?_
      have A1 : ∀ b, b < nx h → b ≠ f + 1 → eqA h (setR h_39 (f + 1) i (some (nx h))) b := fun b hb hb2 => (g1' b hb).trans (eqA_setR hb2)
      have B1 : ∀ s : Nat, s ≠ i → hr (setR h_39 (f + 1) i (some (nx h))) (f + 1) s = hr h (f + 1) s := fun s hs => by rw [hr_setR, up2_ne _ _ (fun q => hs (by omega))]; exact (g1' _ (by omega)).2.2.2.1 _
      have C1 : hr (setR h_39 (f + 1) i (some (nx h))) (f + 1) i = some (f + 3 + 6 * i) := by rw [hr_setR, up2_same, hn]
      have O1 : OffN (setR h_39 (f + 1) i (some (nx h))) (f + 3 + 6 * i) := by rw [← hn]; exact o1.kept (fun b h0 h1 => eqA_setR (by omega))
      have K1 : kd (setR h_39 (f + 1) i (some (nx h))) (f + 1) = 107 ∧ ln (setR h_39 (f + 1) i (some (nx h))) (f + 1) = 16 := ⟨k1, k1l⟩
      have N1 : nx (setR h_39 (f + 1) i (some (nx h))) = f + 6 + 6 * i := by rw [nx_setR, n1]; omega
      have U1 : us (setR h_39 (f + 1) i (some (nx h))) = us h + 35 := u1'
      have CC1 : cn (setR h_39 (f + 1) i (some (nx h))) = cn h := c1'
      have D1 : cs (setR h_39 (f + 1) i (some (nx h))) = cs h := d1'
      have H1 : ∀ k, hi (setR h_39 (f + 1) i (some (nx h))) (f + 1) k = hi h (f + 1) k := fun k => (g1' (f + 1) (by omega)).2.2.1 k
      have E1 : ∀ b, b < f → eqA h (setR h_39 (f + 1) i (some (nx h))) b := fun b hb => A1 b (by omega) (by omega)
      generalize setR h_39 (f + 1) i (some (nx h)) = j1 at *
      have F1 := A1 f (by omega) (by omega)
      have F2 := A1 (f + 2) (by omega) (by omega)
      refine wp_aload_n d_56_43 (by rfl) ?_
      refine wp_getR (1) d_56_44 fl_4_17 rfl rfl (by first | assumption | (rw [kd_mkO, up1_ne _ _ (by omega)]; assumption) | exact F1.1.trans q1) (by first | assumption | exact (F1.2.2.2.1 _).trans q3) ?_
      refine wp_iload_n d_56_47 (by rfl) ?_
      refine wp_new (ci := 8) d_56_48 cl_4_9 ci8 ⟨_, rfl⟩ (by decide) (by omega) (by omega) ?_
      refine wp_dup d_56_51 (by rfl) ?_
      refine wp_callIn d_56_52 c_56_20 rfl rfl (by rfl) (by rfl) (by exact Nat.le_of_ble_eq_true rfl) (by exact Nat.le_of_ble_eq_true rfl) (s_Offers (by rw [kd_mkO, up1_same]) (fun k => by rw [hi_mkO, up1_same]) rfl (by simp only [nx_mkO, cn_mkO]; omega) (by simp only [us_mkO, cs_mkO]; simp; omega)) (fun v_52 h_52 q_52 => ?_) (fun _ _ q => q.elim)
      obtain ⟨rfl, o2, n2, u2, c2, d2, g2⟩ := q_52
      have g2' : ∀ b, b < nx j1 → eqA j1 h_52 b := fun b hb => (eqA_mkO hb).trans (g2 b hb)
      have ok2 : kd h_52 (nx j1) = 8 + 1 := o2.1
      have k2 : kd h_52 (f + 2) = 107 := (g2' _ (by omega)).1.trans (F2.1.trans q9)
      have k2l : ln h_52 (f + 2) = 16 := (g2' _ (by omega)).2.1.trans (F2.2.1.trans q10)
      refine wp_aastO (cb := 8) d_56_55 (by omega) (by omega) ok2 (by decide) (by rw [k2]; rfl) (by omega) (by omega) ?_
      refine wp_iinc d_56_56 (by rfl) (by decide) ?_
      refine wp_goto (tgt := 24) d_56_59 (by decide) ?_
      refine wp_to [some (vR (some f)), some (vI ((i + 1 : Nat) : Int))] ⟨rfl, rfl, trivial⟩ ?_
      refine ih (i + 1) _ (by omega) ?_ ?_ ?_ ?_ (fun h' z1 z2 z3 z4 z5 z6 => hq h' z1 z2 ?_ (z4.trans (c2.trans CC1)) (z5.trans (d2.trans D1)) (fun b hb => ((E1 b hb).trans ((g2' b (by omega)).trans (eqA_setR (by omega)))).trans (z6 b hb)))
      · have A2 : ∀ b, b < nx j1 → b ≠ f + 2 → eqA j1 (setR h_52 (f + 2) i (some (nx j1))) b := fun b hb hb2 => (g2' b hb).trans (eqA_setR hb2)
        have E0 := F1.trans (A2 f (by omega) (by omega))
        have EB := A2 (f + 1) (by omega) (by omega)
        refine ⟨E0.1.trans q1, (E0.2.2.2.1 _).trans q2, (E0.2.2.2.1 _).trans q3, ⟨(E0.2.2.1 _).trans q4.1, (E0.2.2.1 _).trans q4.2.1, (E0.2.2.1 _).trans q4.2.2⟩, ⟨EB.1.trans K1.1, EB.2.1.trans K1.2⟩, ⟨k2, k2l⟩, fun s hs => ?_⟩
        by_cases hsi : s = i
        · subst hsi
          refine ⟨(EB.2.2.2.1 _).trans C1, O1.kept (fun b h0 h1 => A2 b (by omega) (by omega)), ?_, ?_⟩
          · rw [hr_setR, up2_same, N1]
          · rw [← N1]
            exact o2.kept (fun b h0 h1 => eqA_setR (by omega))
        · obtain ⟨a1, a2, a3, a4⟩ := q11 s (by omega)
          refine ⟨(EB.2.2.2.1 _).trans ((B1 s hsi).trans a1), a2.kept (fun b h0 h1 => (A1 b (by omega) (by omega)).trans (A2 b (by omega) (by omega))), ?_, a4.kept (fun b h0 h1 => (A1 b (by omega) (by omega)).trans (A2 b (by omega) (by omega)))⟩
          rw [hr_setR, up2_ne _ _ (fun q => hsi (by omega))]
          exact ((g2' _ (by omega)).2.2.2.1 _).trans ((F2.2.2.2.1 _).trans a3)
      · rw [nx_setR, n2]; omega
      · rw [nx_setR, cn_setR, n2, c2]
        show _ ≤ cn j1
        omega
      · rw [us_setR, cs_setR, u2, d2]
        simp only [us_mkO]
        show _ ≤ cs j1
        simp
        omega
      · rw [z3, us_setR, u2]
        simp only [us_mkO]
        simp
        omega
set_option maxRecDepth 100000 in
set_option maxHeartbeats 4000000 in
theorem s_Fares {a : Nat} {h : Hp} (hk : kd h a = 5) (hz : ∀ k, hi h a k = 0) (hn : nx h = a + 1) (r1 : nx h + 98 ≤ cn h) (r2 : us h + 1152 ≤ cs h) : wp 56 0 (entL [vR (some a)] (mL 56)) [] h (fun v h' => v = none ∧ FarI h' a 16 ∧ nx h' = a + 99 ∧ us h' = us h + 1152 ∧ cn h' = cn h ∧ cs h' = cs h ∧ ∀ b, b < a → eqA h h' b) noX := by
  refine wp_aload_n d_56_0 (by rfl) ?_
  refine wp_objInit d_56_1 oi_4 co_code ⟨Nat.le_of_ble_eq_true rfl, Nat.le_of_ble_eq_true rfl⟩ ?_
  refine wp_aload_n d_56_4 (by rfl) ?_
  refine wp_bipush d_56_5 (by decide) ?_
  refine wp_anew (K := 107) d_56_7 cl_4_9 rfl (by decide) ca_107 (by omega) (by omega) (by first | omega | (simp [kd_setI, ln_setI, hi_setI, hr_setI, hl_setI, nx_setI, us_setI, cn_setI, cs_setI, kd_setR, ln_setR, hi_setR, hr_setR, hl_setR, nx_setR, us_setR, cn_setR, cs_setR, kd_setL, ln_setL, hi_setL, hr_setL, hl_setL, nx_setL, us_setL, cn_setL, cs_setL, kd_mkO, ln_mkO, hi_mkO, hr_mkO, hl_mkO, nx_mkO, us_mkO, cn_mkO, cs_mkO]; omega)) (by first | omega | (simp [kd_setI, ln_setI, hi_setI, hr_setI, hl_setI, nx_setI, us_setI, cn_setI, cs_setI, kd_setR, ln_setR, hi_setR, hr_setR, hl_setR, nx_setR, us_setR, cn_setR, cs_setR, kd_setL, ln_setL, hi_setL, hr_setL, hl_setL, nx_setL, us_setL, cn_setL, cs_setL, kd_mkO, ln_mkO, hi_mkO, hr_mkO, hl_mkO, nx_mkO, us_mkO, cn_mkO, cs_mkO]; omega)) ?_
  refine wp_putR (0) d_56_10 fl_4_11 rfl rfl (Or.inl (by rfl)) (by simp [kd_setI, ln_setI, hi_setI, hr_setI, hl_setI, nx_setI, us_setI, cn_setI, cs_setI, kd_setR, ln_setR, hi_setR, hr_setR, hl_setR, nx_setR, us_setR, cn_setR, cs_setR, kd_setL, ln_setL, hi_setL, hr_setL, hl_setL, nx_setL, us_setL, cn_setL, cs_setL, kd_mkO, ln_mkO, hi_mkO, hr_mkO, hl_mkO, nx_mkO, us_mkO, cn_mkO, cs_mkO, up1, up2, hn, hk, Nat.add_assoc]) ?_
  refine wp_aload_n d_56_13 (by rfl) ?_
  refine wp_bipush d_56_14 (by decide) ?_
  refine wp_anew (K := 107) d_56_16 cl_4_9 rfl (by decide) ca_107 (by omega) (by omega) (by first | omega | (simp [kd_setI, ln_setI, hi_setI, hr_setI, hl_setI, nx_setI, us_setI, cn_setI, cs_setI, kd_setR, ln_setR, hi_setR, hr_setR, hl_setR, nx_setR, us_setR, cn_setR, cs_setR, kd_setL, ln_setL, hi_setL, hr_setL, hl_setL, nx_setL, us_setL, cn_setL, cs_setL, kd_mkO, ln_mkO, hi_mkO, hr_mkO, hl_mkO, nx_mkO, us_mkO, cn_mkO, cs_mkO]; omega)) (by first | omega | (simp [kd_setI, ln_setI, hi_setI, hr_setI, hl_setI, nx_setI, us_setI, cn_setI, cs_setI, kd_setR, ln_setR, hi_setR, hr_setR, hl_setR, nx_setR, us_setR, cn_setR, cs_setR, kd_setL, ln_setL, hi_setL, hr_setL, hl_setL, nx_setL, us_setL, cn_setL, cs_setL, kd_mkO, ln_mkO, hi_mkO, hr_mkO, hl_mkO, nx_mkO, us_mkO, cn_mkO, cs_mkO]; omega)) ?_
  refine wp_putR (1) d_56_19 fl_4_17 rfl rfl (Or.inl (by rfl)) (by simp [kd_setI, ln_setI, hi_setI, hr_setI, hl_setI, nx_setI, us_setI, cn_setI, cs_setI, kd_setR, ln_setR, hi_setR, hr_setR, hl_setR, nx_setR, us_setR, cn_setR, cs_setR, kd_setL, ln_setL, hi_setL, hr_setL, hl_setL, nx_setL, us_setL, cn_setL, cs_setL, kd_mkO, ln_mkO, hi_mkO, hr_mkO, hl_mkO, nx_mkO, us_mkO, cn_mkO, cs_mkO, up1, up2, hn, hk, Nat.add_assoc]) ?_
  refine wp_iconst d_56_22 ?_
  refine wp_istore_n d_56_23 (by decide) ?_
  refine wp_to [some (vR (some a)), some (vI ((0 : Nat) : Int))] ⟨rfl, rfl, trivial⟩ ?_
  refine l_Fares 16 0 _ rfl ?_ (by simp [nx_setR, nx_mkO, hn]) (by simp [nx_setR, nx_mkO, cn_setR, cn_mkO]; omega) (by simp [us_setR, us_mkO, cs_setR, cs_mkO]; omega) (fun h' z1 z2 z3 z4 z5 z6 => ⟨rfl, z1, z2, ?_, z4, z5, fun b hb => eqA.trans ?_ (z6 b hb)⟩)
  · refine ⟨?_, ?_, ?_, ⟨?_, ?_, ?_⟩, ⟨?_, ?_⟩, ⟨?_, ?_⟩, fun s hs => absurd hs (by omega)⟩ <;> simp [kd_setI, ln_setI, hi_setI, hr_setI, hl_setI, nx_setI, us_setI, cn_setI, cs_setI, kd_setR, ln_setR, hi_setR, hr_setR, hl_setR, nx_setR, us_setR, cn_setR, cs_setR, kd_setL, ln_setL, hi_setL, hr_setL, hl_setL, nx_setL, us_setL, cn_setL, cs_setL, kd_mkO, ln_mkO, hi_mkO, hr_mkO, hl_mkO, nx_mkO, us_mkO, cn_mkO, cs_mkO, up1, up2, hn, hk, hz, Nat.add_assoc]
  · rw [z3]; simp [us_setR, us_mkO, Nat.add_assoc]
  · exact ((eqA_mkO (by omega)).trans (eqA_setR (by omega))).trans ((eqA_mkO (by simp [nx_setR, nx_mkO]; omega)).trans (eqA_setR (by omega)))
theorem NetN.kept {h h' : Hp} {a : Nat} (q : NetN h a) (e : ∀ b, a ≤ b → b < a + 5 → eqA h h' b) : NetN h' a := by
  have e0 := e a (by omega) (by omega)
  obtain ⟨q1, q2, q3, q4, q5, ⟨q6, q7, q8, q9⟩, q10, q11, q12, q13⟩ := q
  exact ⟨e0.1.trans q1, (e0.2.2.2.1 _).trans q2, (e0.2.2.2.1 _).trans q3, (e0.2.2.2.1 _).trans q4, (e0.2.2.2.1 _).trans q5, ⟨(e0.2.2.1 _).trans q6, (e0.2.2.1 _).trans q7, (e0.2.2.1 _).trans q8, (e0.2.2.1 _).trans q9⟩, q10.kept (e _ (by omega) (by omega)), q11.kept (e _ (by omega) (by omega)), q12.kept (e _ (by omega) (by omega)), q13.kept (e _ (by omega) (by omega))⟩
theorem RunN.kept {h h' : Hp} {a : Nat} (q : RunN h a) (e : ∀ b, a ≤ b → b < a + 4 → eqA h h' b) : RunN h' a := by
  have e0 := e a (by omega) (by omega)
  obtain ⟨q1, q2, q3, q4, q5, q6, q7, q8⟩ := q
  exact ⟨e0.1.trans q1, (e0.2.2.2.1 _).trans q2, (e0.2.2.2.1 _).trans q3, (e0.2.2.2.1 _).trans q4, (e0.2.2.1 _).trans q5, q6.kept (e _ (by omega) (by omega)), q7.kept (e _ (by omega) (by omega)), q8.kept (e _ (by omega) (by omega))⟩
theorem BoaN.kept {h h' : Hp} {a : Nat} (q : BoaN h a) (e : ∀ b, a ≤ b → b < a + 2 → eqA h h' b) : BoaN h' a := by
  have e0 := e a (by omega) (by omega)
  have e1 := e (a + 1) (by omega) (by omega)
  obtain ⟨q1, q2, q3, q4, q5⟩ := q
  exact ⟨e0.1.trans q1, (e0.2.2.2.1 _).trans q2, (e0.2.2.1 _).trans q3, e1.1.trans q4, e1.2.1.trans q5⟩
theorem OnwN.kept {h h' : Hp} {a : Nat} (q : OnwN h a) (e : ∀ b, a ≤ b → b < a + 18 → eqA h h' b) : OnwN h' a := by
  have e0 := e a (by omega) (by omega)
  obtain ⟨q1, q2, q3, q4, q5, q6, q7, q8⟩ := q
  exact ⟨e0.1.trans q1, (e0.2.2.2.1 _).trans q2, (e0.2.2.2.1 _).trans q3, (e0.2.2.2.1 _).trans q4, q5.kept (fun b h0 h1 => e b (by omega) (by omega)) (by omega), q6.kept (fun b h0 h1 => e b (by omega) (by omega)) (by omega), q7.kept (e _ (by omega) (by omega)), (e0.2.2.1 _).trans q8⟩
theorem BacN.kept {h h' : Hp} {a : Nat} (q : BacN h a) (e : ∀ b, a ≤ b → b < a + 17 → eqA h h' b) : BacN h' a := by
  have e0 := e a (by omega) (by omega)
  obtain ⟨q1, q2, q3, q4, q5, q6, q7⟩ := q
  exact ⟨e0.1.trans q1, (e0.2.2.2.1 _).trans q2, (e0.2.2.2.1 _).trans q3, (e0.2.2.1 _).trans q4, (e0.2.2.1 _).trans q5, q6.kept (fun b h0 h1 => e b (by omega) (by omega)) (by omega), q7.kept (fun b h0 h1 => e b (by omega) (by omega)) (by omega)⟩
theorem JouN.kept {h h' : Hp} {a : Nat} (q : JouN h a) (e : ∀ b, a ≤ b → b < a + 8 → eqA h h' b) : JouN h' a := by
  have e0 := e a (by omega) (by omega)
  obtain ⟨q1, q2, q3, q4, q5, q6, q7, q8, ⟨i1, i2, i3, i4, i5, i6, i7⟩, q9, q10, q11, q12, q13, q14, q15⟩ := q
  exact ⟨e0.1.trans q1, (e0.2.2.2.1 _).trans q2, (e0.2.2.2.1 _).trans q3, (e0.2.2.2.1 _).trans q4, (e0.2.2.2.1 _).trans q5, (e0.2.2.2.1 _).trans q6, (e0.2.2.2.1 _).trans q7, (e0.2.2.2.1 _).trans q8, ⟨(e0.2.2.1 _).trans i1, (e0.2.2.1 _).trans i2, (e0.2.2.1 _).trans i3, (e0.2.2.1 _).trans i4, (e0.2.2.1 _).trans i5, (e0.2.2.1 _).trans i6, (e0.2.2.1 _).trans i7⟩, q9.kept (e _ (by omega) (by omega)), q10.kept (e _ (by omega) (by omega)), q11.kept (e _ (by omega) (by omega)), q12.kept (e _ (by omega) (by omega)), q13.kept (e _ (by omega) (by omega)), q14.kept (e _ (by omega) (by omega)), q15.kept (e _ (by omega) (by omega))⟩
/-- a new WhistleStop at w: its seven parts behind it -/
def WsN (h : Hp) (w : Nat) : Prop := kd h w = 1 ∧ (hr h w 0 = some (w + 1) ∧ hr h w 1 = some (w + 6) ∧ hr h w 2 = some (w + 10) ∧ hr h w 3 = some (w + 12) ∧ hr h w 4 = some (w + 30) ∧ hr h w 5 = some (w + 47) ∧ hr h w 6 = some (w + 146)) ∧ NetN h (w + 1) ∧ RunN h (w + 6) ∧ BoaN h (w + 10) ∧ OnwN h (w + 12) ∧ BacN h (w + 30) ∧ FarI h (w + 47) 16 ∧ JouN h (w + 146)
set_option maxRecDepth 100000 in
set_option maxHeartbeats 8000000 in
theorem s_WhistleStop {w : Nat} {h : Hp} (hk : kd h w = 1) (hn : nx h = w + 1) (r1 : nx h + 153 ≤ cn h) (r2 : us h + 3762 ≤ cs h) : wp 30 0 (entL [vR (some w)] (mL 30)) [] h (fun v h' => v = none ∧ WsN h' w ∧ nx h' = w + 154 ∧ us h' = us h + 3762 ∧ cn h' = cn h ∧ cs h' = cs h ∧ ∀ b, b < w → eqA h h' b) noX := by
  have R0 : us h = us h + 0 := rfl
  have C0 : cn h = cn h := rfl
  have D0 : cs h = cs h := rfl
  have F0 : ∀ b, b < w → eqA h h b := fun b hb => eqA.rfl
  have K0 : kd h w = 1 := hk
  have N0 : nx h = w + 1 := hn
  refine wp_aload_n d_30_0 (by rfl) ?_
  refine wp_objInit d_30_1 oi_0 co_code ⟨Nat.le_of_ble_eq_true rfl, Nat.le_of_ble_eq_true rfl⟩ ?_
  refine wp_aload_n d_30_4 (by rfl) ?_
  refine wp_new (ci := 7) d_30_5 cl_0_9 ci7 ⟨_, rfl⟩ (by decide) (by omega) (by omega) ?_
  refine wp_dup d_30_8 (by rfl) ?_
  rw [N0]
  refine wp_callIn d_30_9 c_30_11 rfl rfl (by rfl) (by rfl) (by exact Nat.le_of_ble_eq_true rfl) (by exact Nat.le_of_ble_eq_true rfl) (s_Network (a := w + 1) (by rw [kd_mkO, ← N0, up1_same]) (fun j => by rw [hi_mkO, ← N0, up1_same]) (by rw [nx_mkO, N0]) (by simp only [nx_mkO, cn_mkO]; omega) (by simp only [us_mkO, cs_mkO]; simp; omega)) (fun v_9 h_9 q_9 => ?_) (fun _ _ q => q.elim)
  obtain ⟨rfl, o, n, u, c, d, f⟩ := q_9
  have fr : ∀ b, b < w + 1 → eqA h h_9 b := fun b hb => (eqA_mkO (by omega)).trans (f b hb)
  have u2 : us h_9 = us h + 74 := by rw [u, us_mkO]; first | rfl | (simp; omega)
  have c2 : cn h_9 = cn h := c.trans C0
  have d2 : cs h_9 = cs h := d.trans D0
  have kw : kd h_9 w = 0 + 1 := (fr w (by omega)).1.trans K0
  clear u c d f
  refine wp_putR (0) d_30_12 fl_0_12 rfl rfl (Or.inr ⟨by rfl, by rfl, by rfl⟩) (by assumption) ?_
  have fr2 : ∀ b, b ≠ w → b < w + 1 → eqA h (setR h_9 w 0 (some (w + 1))) b := fun b hb hb2 => (fr b hb2).trans (eqA_setR hb)
  have K1 : kd (setR h_9 w 0 (some (w + 1))) w = 1 := kw
  have N1 : nx (setR h_9 w 0 (some (w + 1))) = w + 6 := by rw [nx_setR, n]
  have R1 : us (setR h_9 w 0 (some (w + 1))) = us h + 74 := u2
  have C1 : cn (setR h_9 w 0 (some (w + 1))) = cn h := c2
  have D1 : cs (setR h_9 w 0 (some (w + 1))) = cs h := d2
  have F1 : ∀ b, b < w → eqA h (setR h_9 w 0 (some (w + 1))) b := fun b hb => (F0 b hb).trans (fr2 b (by omega) (by omega))
  have V1_0 : hr (setR h_9 w 0 (some (w + 1))) w 0 = some (w + 1) := by rw [hr_setR, up2_same]
  have P1_0 : NetN (setR h_9 w 0 (some (w + 1))) (w + 1) := o.kept (fun b h0 h1 => eqA_setR (by omega))
  clear fr fr2 o kw u2 c2 d2 n
  generalize setR h_9 w 0 (some (w + 1)) = g1 at *
  refine wp_aload_n d_30_15 (by rfl) ?_
  refine wp_new (ci := 10) d_30_16 cl_0_16 ci10 ⟨_, rfl⟩ (by decide) (by omega) (by omega) ?_
  refine wp_dup d_30_19 (by rfl) ?_
  rw [N1]
  refine wp_callIn d_30_20 c_30_18 rfl rfl (by rfl) (by rfl) (by exact Nat.le_of_ble_eq_true rfl) (by exact Nat.le_of_ble_eq_true rfl) (s_Runs (a := w + 6) (by rw [kd_mkO, ← N1, up1_same]) (fun j => by rw [hi_mkO, ← N1, up1_same]) (by rw [nx_mkO, N1]) (by simp only [nx_mkO, cn_mkO]; omega) (by simp only [us_mkO, cs_mkO]; simp; omega)) (fun v_20 h_20 q_20 => ?_) (fun _ _ q => q.elim)
  obtain ⟨rfl, o, n, u, c, d, f⟩ := q_20
  have fr : ∀ b, b < w + 6 → eqA g1 h_20 b := fun b hb => (eqA_mkO (by omega)).trans (f b hb)
  have u2 : us h_20 = us h + 654 := by rw [u, us_mkO]; first | rfl | (simp; omega)
  have c2 : cn h_20 = cn h := c.trans C1
  have d2 : cs h_20 = cs h := d.trans D1
  have kw : kd h_20 w = 0 + 1 := (fr w (by omega)).1.trans K1
  clear u c d f
  refine wp_putR (1) d_30_23 fl_0_19 rfl rfl (Or.inr ⟨by rfl, by rfl, by rfl⟩) (by assumption) ?_
  have fr2 : ∀ b, b ≠ w → b < w + 6 → eqA g1 (setR h_20 w 1 (some (w + 6))) b := fun b hb hb2 => (fr b hb2).trans (eqA_setR hb)
  have K2 : kd (setR h_20 w 1 (some (w + 6))) w = 1 := kw
  have N2 : nx (setR h_20 w 1 (some (w + 6))) = w + 10 := by rw [nx_setR, n]
  have R2 : us (setR h_20 w 1 (some (w + 6))) = us h + 654 := u2
  have C2 : cn (setR h_20 w 1 (some (w + 6))) = cn h := c2
  have D2 : cs (setR h_20 w 1 (some (w + 6))) = cs h := d2
  have F2 : ∀ b, b < w → eqA h (setR h_20 w 1 (some (w + 6))) b := fun b hb => (F1 b hb).trans (fr2 b (by omega) (by omega))
  have V2_0 : hr (setR h_20 w 1 (some (w + 6))) w 0 = some (w + 1) := by rw [hr_setR, up2_ne _ _ (fun q => absurd q.2 (by decide))]; exact ((fr w (by omega)).2.2.2.1 _).trans V1_0
  have V2_1 : hr (setR h_20 w 1 (some (w + 6))) w 1 = some (w + 6) := by rw [hr_setR, up2_same]
  have P2_0 : NetN (setR h_20 w 1 (some (w + 6))) (w + 1) := P1_0.kept (fun b h0 h1 => fr2 b (by omega) (by omega))
  have P2_1 : RunN (setR h_20 w 1 (some (w + 6))) (w + 6) := o.kept (fun b h0 h1 => eqA_setR (by omega))
  clear fr fr2 o kw u2 c2 d2 n
  generalize setR h_20 w 1 (some (w + 6)) = g2 at *
  refine wp_aload_n d_30_26 (by rfl) ?_
  refine wp_new (ci := 2) d_30_27 cl_0_23 ci2 ⟨_, rfl⟩ (by decide) (by omega) (by omega) ?_
  refine wp_dup d_30_30 (by rfl) ?_
  rw [N2]
  refine wp_callIn d_30_31 c_30_25 rfl rfl (by rfl) (by rfl) (by exact Nat.le_of_ble_eq_true rfl) (by exact Nat.le_of_ble_eq_true rfl) (s_Board (a := w + 10) (by rw [kd_mkO, ← N2, up1_same]) (fun j => by rw [hi_mkO, ← N2, up1_same]) (by rw [nx_mkO, N2]) (by simp only [nx_mkO, cn_mkO]; omega) (by simp only [us_mkO, cs_mkO]; simp; omega)) (fun v_31 h_31 q_31 => ?_) (fun _ _ q => q.elim)
  obtain ⟨rfl, o, n, u, c, d, f⟩ := q_31
  have fr : ∀ b, b < w + 10 → eqA g2 h_31 b := fun b hb => (eqA_mkO (by omega)).trans (f b hb)
  have u2 : us h_31 = us h + 2000 := by rw [u, us_mkO]; first | rfl | (simp; omega)
  have c2 : cn h_31 = cn h := c.trans C2
  have d2 : cs h_31 = cs h := d.trans D2
  have kw : kd h_31 w = 0 + 1 := (fr w (by omega)).1.trans K2
  clear u c d f
  refine wp_putR (2) d_30_34 fl_0_26 rfl rfl (Or.inr ⟨by rfl, by rfl, by rfl⟩) (by assumption) ?_
  have fr2 : ∀ b, b ≠ w → b < w + 10 → eqA g2 (setR h_31 w 2 (some (w + 10))) b := fun b hb hb2 => (fr b hb2).trans (eqA_setR hb)
  have K3 : kd (setR h_31 w 2 (some (w + 10))) w = 1 := kw
  have N3 : nx (setR h_31 w 2 (some (w + 10))) = w + 12 := by rw [nx_setR, n]
  have R3 : us (setR h_31 w 2 (some (w + 10))) = us h + 2000 := u2
  have C3 : cn (setR h_31 w 2 (some (w + 10))) = cn h := c2
  have D3 : cs (setR h_31 w 2 (some (w + 10))) = cs h := d2
  have F3 : ∀ b, b < w → eqA h (setR h_31 w 2 (some (w + 10))) b := fun b hb => (F2 b hb).trans (fr2 b (by omega) (by omega))
  have V3_0 : hr (setR h_31 w 2 (some (w + 10))) w 0 = some (w + 1) := by rw [hr_setR, up2_ne _ _ (fun q => absurd q.2 (by decide))]; exact ((fr w (by omega)).2.2.2.1 _).trans V2_0
  have V3_1 : hr (setR h_31 w 2 (some (w + 10))) w 1 = some (w + 6) := by rw [hr_setR, up2_ne _ _ (fun q => absurd q.2 (by decide))]; exact ((fr w (by omega)).2.2.2.1 _).trans V2_1
  have V3_2 : hr (setR h_31 w 2 (some (w + 10))) w 2 = some (w + 10) := by rw [hr_setR, up2_same]
  have P3_0 : NetN (setR h_31 w 2 (some (w + 10))) (w + 1) := P2_0.kept (fun b h0 h1 => fr2 b (by omega) (by omega))
  have P3_1 : RunN (setR h_31 w 2 (some (w + 10))) (w + 6) := P2_1.kept (fun b h0 h1 => fr2 b (by omega) (by omega))
  have P3_2 : BoaN (setR h_31 w 2 (some (w + 10))) (w + 10) := o.kept (fun b h0 h1 => eqA_setR (by omega))
  clear fr fr2 o kw u2 c2 d2 n
  generalize setR h_31 w 2 (some (w + 10)) = g3 at *
  refine wp_aload_n d_30_37 (by rfl) ?_
  refine wp_new (ci := 9) d_30_38 cl_0_30 ci9 ⟨_, rfl⟩ (by decide) (by omega) (by omega) ?_
  refine wp_dup d_30_41 (by rfl) ?_
  rw [N3]
  refine wp_callIn d_30_42 c_30_32 rfl rfl (by rfl) (by rfl) (by exact Nat.le_of_ble_eq_true rfl) (by exact Nat.le_of_ble_eq_true rfl) (s_Onward (a := w + 12) (by rw [kd_mkO, ← N3, up1_same]) (fun j => by rw [hi_mkO, ← N3, up1_same]) (by rw [nx_mkO, N3]) (by simp only [nx_mkO, cn_mkO]; omega) (by simp only [us_mkO, cs_mkO]; simp; omega)) (fun v_42 h_42 q_42 => ?_) (fun _ _ q => q.elim)
  obtain ⟨rfl, o, n, u, c, d, f⟩ := q_42
  have fr : ∀ b, b < w + 12 → eqA g3 h_42 b := fun b hb => (eqA_mkO (by omega)).trans (f b hb)
  have u2 : us h_42 = us h + 2258 := by rw [u, us_mkO]; first | rfl | (simp; omega)
  have c2 : cn h_42 = cn h := c.trans C3
  have d2 : cs h_42 = cs h := d.trans D3
  have kw : kd h_42 w = 0 + 1 := (fr w (by omega)).1.trans K3
  clear u c d f
  refine wp_putR (3) d_30_45 fl_0_33 rfl rfl (Or.inr ⟨by rfl, by rfl, by rfl⟩) (by assumption) ?_
  have fr2 : ∀ b, b ≠ w → b < w + 12 → eqA g3 (setR h_42 w 3 (some (w + 12))) b := fun b hb hb2 => (fr b hb2).trans (eqA_setR hb)
  have K4 : kd (setR h_42 w 3 (some (w + 12))) w = 1 := kw
  have N4 : nx (setR h_42 w 3 (some (w + 12))) = w + 30 := by rw [nx_setR, n]
  have R4 : us (setR h_42 w 3 (some (w + 12))) = us h + 2258 := u2
  have C4 : cn (setR h_42 w 3 (some (w + 12))) = cn h := c2
  have D4 : cs (setR h_42 w 3 (some (w + 12))) = cs h := d2
  have F4 : ∀ b, b < w → eqA h (setR h_42 w 3 (some (w + 12))) b := fun b hb => (F3 b hb).trans (fr2 b (by omega) (by omega))
  have V4_0 : hr (setR h_42 w 3 (some (w + 12))) w 0 = some (w + 1) := by rw [hr_setR, up2_ne _ _ (fun q => absurd q.2 (by decide))]; exact ((fr w (by omega)).2.2.2.1 _).trans V3_0
  have V4_1 : hr (setR h_42 w 3 (some (w + 12))) w 1 = some (w + 6) := by rw [hr_setR, up2_ne _ _ (fun q => absurd q.2 (by decide))]; exact ((fr w (by omega)).2.2.2.1 _).trans V3_1
  have V4_2 : hr (setR h_42 w 3 (some (w + 12))) w 2 = some (w + 10) := by rw [hr_setR, up2_ne _ _ (fun q => absurd q.2 (by decide))]; exact ((fr w (by omega)).2.2.2.1 _).trans V3_2
  have V4_3 : hr (setR h_42 w 3 (some (w + 12))) w 3 = some (w + 12) := by rw [hr_setR, up2_same]
  have P4_0 : NetN (setR h_42 w 3 (some (w + 12))) (w + 1) := P3_0.kept (fun b h0 h1 => fr2 b (by omega) (by omega))
  have P4_1 : RunN (setR h_42 w 3 (some (w + 12))) (w + 6) := P3_1.kept (fun b h0 h1 => fr2 b (by omega) (by omega))
  have P4_2 : BoaN (setR h_42 w 3 (some (w + 12))) (w + 10) := P3_2.kept (fun b h0 h1 => fr2 b (by omega) (by omega))
  have P4_3 : OnwN (setR h_42 w 3 (some (w + 12))) (w + 12) := o.kept (fun b h0 h1 => eqA_setR (by omega))
  clear fr fr2 o kw u2 c2 d2 n
  generalize setR h_42 w 3 (some (w + 12)) = g4 at *
  refine wp_aload_n d_30_48 (by rfl) ?_
  refine wp_new (ci := 1) d_30_49 cl_0_37 ci1 ⟨_, rfl⟩ (by decide) (by omega) (by omega) ?_
  refine wp_dup d_30_52 (by rfl) ?_
  rw [N4]
  refine wp_callIn d_30_53 c_30_39 rfl rfl (by rfl) (by rfl) (by exact Nat.le_of_ble_eq_true rfl) (by exact Nat.le_of_ble_eq_true rfl) (s_Backward (a := w + 30) (by rw [kd_mkO, ← N4, up1_same]) (fun j => by rw [hi_mkO, ← N4, up1_same]) (by rw [nx_mkO, N4]) (by simp only [nx_mkO, cn_mkO]; omega) (by simp only [us_mkO, cs_mkO]; simp; omega)) (fun v_53 h_53 q_53 => ?_) (fun _ _ q => q.elim)
  obtain ⟨rfl, o, n, u, c, d, f⟩ := q_53
  have fr : ∀ b, b < w + 30 → eqA g4 h_53 b := fun b hb => (eqA_mkO (by omega)).trans (f b hb)
  have u2 : us h_53 = us h + 2500 := by rw [u, us_mkO]; first | rfl | (simp; omega)
  have c2 : cn h_53 = cn h := c.trans C4
  have d2 : cs h_53 = cs h := d.trans D4
  have kw : kd h_53 w = 0 + 1 := (fr w (by omega)).1.trans K4
  clear u c d f
  refine wp_putR (4) d_30_56 fl_0_40 rfl rfl (Or.inr ⟨by rfl, by rfl, by rfl⟩) (by assumption) ?_
  have fr2 : ∀ b, b ≠ w → b < w + 30 → eqA g4 (setR h_53 w 4 (some (w + 30))) b := fun b hb hb2 => (fr b hb2).trans (eqA_setR hb)
  have K5 : kd (setR h_53 w 4 (some (w + 30))) w = 1 := kw
  have N5 : nx (setR h_53 w 4 (some (w + 30))) = w + 47 := by rw [nx_setR, n]
  have R5 : us (setR h_53 w 4 (some (w + 30))) = us h + 2500 := u2
  have C5 : cn (setR h_53 w 4 (some (w + 30))) = cn h := c2
  have D5 : cs (setR h_53 w 4 (some (w + 30))) = cs h := d2
  have F5 : ∀ b, b < w → eqA h (setR h_53 w 4 (some (w + 30))) b := fun b hb => (F4 b hb).trans (fr2 b (by omega) (by omega))
  have V5_0 : hr (setR h_53 w 4 (some (w + 30))) w 0 = some (w + 1) := by rw [hr_setR, up2_ne _ _ (fun q => absurd q.2 (by decide))]; exact ((fr w (by omega)).2.2.2.1 _).trans V4_0
  have V5_1 : hr (setR h_53 w 4 (some (w + 30))) w 1 = some (w + 6) := by rw [hr_setR, up2_ne _ _ (fun q => absurd q.2 (by decide))]; exact ((fr w (by omega)).2.2.2.1 _).trans V4_1
  have V5_2 : hr (setR h_53 w 4 (some (w + 30))) w 2 = some (w + 10) := by rw [hr_setR, up2_ne _ _ (fun q => absurd q.2 (by decide))]; exact ((fr w (by omega)).2.2.2.1 _).trans V4_2
  have V5_3 : hr (setR h_53 w 4 (some (w + 30))) w 3 = some (w + 12) := by rw [hr_setR, up2_ne _ _ (fun q => absurd q.2 (by decide))]; exact ((fr w (by omega)).2.2.2.1 _).trans V4_3
  have V5_4 : hr (setR h_53 w 4 (some (w + 30))) w 4 = some (w + 30) := by rw [hr_setR, up2_same]
  have P5_0 : NetN (setR h_53 w 4 (some (w + 30))) (w + 1) := P4_0.kept (fun b h0 h1 => fr2 b (by omega) (by omega))
  have P5_1 : RunN (setR h_53 w 4 (some (w + 30))) (w + 6) := P4_1.kept (fun b h0 h1 => fr2 b (by omega) (by omega))
  have P5_2 : BoaN (setR h_53 w 4 (some (w + 30))) (w + 10) := P4_2.kept (fun b h0 h1 => fr2 b (by omega) (by omega))
  have P5_3 : OnwN (setR h_53 w 4 (some (w + 30))) (w + 12) := P4_3.kept (fun b h0 h1 => fr2 b (by omega) (by omega))
  have P5_4 : BacN (setR h_53 w 4 (some (w + 30))) (w + 30) := o.kept (fun b h0 h1 => eqA_setR (by omega))
  clear fr fr2 o kw u2 c2 d2 n
  generalize setR h_53 w 4 (some (w + 30)) = g5 at *
  refine wp_aload_n d_30_59 (by rfl) ?_
  refine wp_new (ci := 4) d_30_60 cl_0_44 ci4 ⟨_, rfl⟩ (by decide) (by omega) (by omega) ?_
  refine wp_dup d_30_63 (by rfl) ?_
  rw [N5]
  refine wp_callI d_30_64 c_30_46 rfl rfl (by rfl) (by rfl) (by exact Nat.le_of_ble_eq_true rfl) (by exact Nat.le_of_ble_eq_true rfl) (s_Fares (a := w + 47) (by rw [kd_mkO, ← N5, up1_same]) (fun j => by rw [hi_mkO, ← N5, up1_same]) (by rw [nx_mkO, N5]) (by simp only [nx_mkO, cn_mkO]; omega) (by simp only [us_mkO, cs_mkO]; simp; omega)) (fun v_64 h_64 q_64 => ?_) (fun _ _ q => q.elim)
  obtain ⟨rfl, o, n, u, c, d, f⟩ := q_64
  have fr : ∀ b, b < w + 47 → eqA g5 h_64 b := fun b hb => (eqA_mkO (by omega)).trans (f b hb)
  have u2 : us h_64 = us h + 3657 := by rw [u, us_mkO]; first | rfl | (simp; omega)
  have c2 : cn h_64 = cn h := c.trans C5
  have d2 : cs h_64 = cs h := d.trans D5
  have kw : kd h_64 w = 0 + 1 := (fr w (by omega)).1.trans K5
  clear u c d f
  refine wp_putR (5) d_30_67 fl_0_47 rfl rfl (Or.inr ⟨by rfl, by rfl, by rfl⟩) (by assumption) ?_
  have fr2 : ∀ b, b ≠ w → b < w + 47 → eqA g5 (setR h_64 w 5 (some (w + 47))) b := fun b hb hb2 => (fr b hb2).trans (eqA_setR hb)
  have K6 : kd (setR h_64 w 5 (some (w + 47))) w = 1 := kw
  have N6 : nx (setR h_64 w 5 (some (w + 47))) = w + 146 := by rw [nx_setR, n]
  have R6 : us (setR h_64 w 5 (some (w + 47))) = us h + 3657 := u2
  have C6 : cn (setR h_64 w 5 (some (w + 47))) = cn h := c2
  have D6 : cs (setR h_64 w 5 (some (w + 47))) = cs h := d2
  have F6 : ∀ b, b < w → eqA h (setR h_64 w 5 (some (w + 47))) b := fun b hb => (F5 b hb).trans (fr2 b (by omega) (by omega))
  have V6_0 : hr (setR h_64 w 5 (some (w + 47))) w 0 = some (w + 1) := by rw [hr_setR, up2_ne _ _ (fun q => absurd q.2 (by decide))]; exact ((fr w (by omega)).2.2.2.1 _).trans V5_0
  have V6_1 : hr (setR h_64 w 5 (some (w + 47))) w 1 = some (w + 6) := by rw [hr_setR, up2_ne _ _ (fun q => absurd q.2 (by decide))]; exact ((fr w (by omega)).2.2.2.1 _).trans V5_1
  have V6_2 : hr (setR h_64 w 5 (some (w + 47))) w 2 = some (w + 10) := by rw [hr_setR, up2_ne _ _ (fun q => absurd q.2 (by decide))]; exact ((fr w (by omega)).2.2.2.1 _).trans V5_2
  have V6_3 : hr (setR h_64 w 5 (some (w + 47))) w 3 = some (w + 12) := by rw [hr_setR, up2_ne _ _ (fun q => absurd q.2 (by decide))]; exact ((fr w (by omega)).2.2.2.1 _).trans V5_3
  have V6_4 : hr (setR h_64 w 5 (some (w + 47))) w 4 = some (w + 30) := by rw [hr_setR, up2_ne _ _ (fun q => absurd q.2 (by decide))]; exact ((fr w (by omega)).2.2.2.1 _).trans V5_4
  have V6_5 : hr (setR h_64 w 5 (some (w + 47))) w 5 = some (w + 47) := by rw [hr_setR, up2_same]
  have P6_0 : NetN (setR h_64 w 5 (some (w + 47))) (w + 1) := P5_0.kept (fun b h0 h1 => fr2 b (by omega) (by omega))
  have P6_1 : RunN (setR h_64 w 5 (some (w + 47))) (w + 6) := P5_1.kept (fun b h0 h1 => fr2 b (by omega) (by omega))
  have P6_2 : BoaN (setR h_64 w 5 (some (w + 47))) (w + 10) := P5_2.kept (fun b h0 h1 => fr2 b (by omega) (by omega))
  have P6_3 : OnwN (setR h_64 w 5 (some (w + 47))) (w + 12) := P5_3.kept (fun b h0 h1 => fr2 b (by omega) (by omega))
  have P6_4 : BacN (setR h_64 w 5 (some (w + 47))) (w + 30) := P5_4.kept (fun b h0 h1 => fr2 b (by omega) (by omega))
  have P6_5 : FarI (setR h_64 w 5 (some (w + 47))) (w + 47) 16 := o.kept (fun b h0 h1 => eqA_setR (by omega))
  clear fr fr2 o kw u2 c2 d2 n
  generalize setR h_64 w 5 (some (w + 47)) = g6 at *
  refine wp_aload_n d_30_70 (by rfl) ?_
  refine wp_new (ci := 6) d_30_71 cl_0_51 ci6 ⟨_, rfl⟩ (by decide) (by omega) (by omega) ?_
  refine wp_dup d_30_74 (by rfl) ?_
  rw [N6]
  refine wp_callIn d_30_75 c_30_53 rfl rfl (by rfl) (by rfl) (by exact Nat.le_of_ble_eq_true rfl) (by exact Nat.le_of_ble_eq_true rfl) (s_Journey (a := w + 146) (by rw [kd_mkO, ← N6, up1_same]) (fun j => by rw [hi_mkO, ← N6, up1_same]) (by rw [nx_mkO, N6]) (by simp only [nx_mkO, cn_mkO]; omega) (by simp only [us_mkO, cs_mkO]; simp; omega)) (fun v_75 h_75 q_75 => ?_) (fun _ _ q => q.elim)
  obtain ⟨rfl, o, n, u, c, d, f⟩ := q_75
  have fr : ∀ b, b < w + 146 → eqA g6 h_75 b := fun b hb => (eqA_mkO (by omega)).trans (f b hb)
  have u2 : us h_75 = us h + 3762 := by rw [u, us_mkO]; first | rfl | (simp; omega)
  have c2 : cn h_75 = cn h := c.trans C6
  have d2 : cs h_75 = cs h := d.trans D6
  have kw : kd h_75 w = 0 + 1 := (fr w (by omega)).1.trans K6
  clear u c d f
  refine wp_putR (6) d_30_78 fl_0_54 rfl rfl (Or.inr ⟨by rfl, by rfl, by rfl⟩) (by assumption) ?_
  have fr2 : ∀ b, b ≠ w → b < w + 146 → eqA g6 (setR h_75 w 6 (some (w + 146))) b := fun b hb hb2 => (fr b hb2).trans (eqA_setR hb)
  have K7 : kd (setR h_75 w 6 (some (w + 146))) w = 1 := kw
  have N7 : nx (setR h_75 w 6 (some (w + 146))) = w + 154 := by rw [nx_setR, n]
  have R7 : us (setR h_75 w 6 (some (w + 146))) = us h + 3762 := u2
  have C7 : cn (setR h_75 w 6 (some (w + 146))) = cn h := c2
  have D7 : cs (setR h_75 w 6 (some (w + 146))) = cs h := d2
  have F7 : ∀ b, b < w → eqA h (setR h_75 w 6 (some (w + 146))) b := fun b hb => (F6 b hb).trans (fr2 b (by omega) (by omega))
  have V7_0 : hr (setR h_75 w 6 (some (w + 146))) w 0 = some (w + 1) := by rw [hr_setR, up2_ne _ _ (fun q => absurd q.2 (by decide))]; exact ((fr w (by omega)).2.2.2.1 _).trans V6_0
  have V7_1 : hr (setR h_75 w 6 (some (w + 146))) w 1 = some (w + 6) := by rw [hr_setR, up2_ne _ _ (fun q => absurd q.2 (by decide))]; exact ((fr w (by omega)).2.2.2.1 _).trans V6_1
  have V7_2 : hr (setR h_75 w 6 (some (w + 146))) w 2 = some (w + 10) := by rw [hr_setR, up2_ne _ _ (fun q => absurd q.2 (by decide))]; exact ((fr w (by omega)).2.2.2.1 _).trans V6_2
  have V7_3 : hr (setR h_75 w 6 (some (w + 146))) w 3 = some (w + 12) := by rw [hr_setR, up2_ne _ _ (fun q => absurd q.2 (by decide))]; exact ((fr w (by omega)).2.2.2.1 _).trans V6_3
  have V7_4 : hr (setR h_75 w 6 (some (w + 146))) w 4 = some (w + 30) := by rw [hr_setR, up2_ne _ _ (fun q => absurd q.2 (by decide))]; exact ((fr w (by omega)).2.2.2.1 _).trans V6_4
  have V7_5 : hr (setR h_75 w 6 (some (w + 146))) w 5 = some (w + 47) := by rw [hr_setR, up2_ne _ _ (fun q => absurd q.2 (by decide))]; exact ((fr w (by omega)).2.2.2.1 _).trans V6_5
  have V7_6 : hr (setR h_75 w 6 (some (w + 146))) w 6 = some (w + 146) := by rw [hr_setR, up2_same]
  have P7_0 : NetN (setR h_75 w 6 (some (w + 146))) (w + 1) := P6_0.kept (fun b h0 h1 => fr2 b (by omega) (by omega))
  have P7_1 : RunN (setR h_75 w 6 (some (w + 146))) (w + 6) := P6_1.kept (fun b h0 h1 => fr2 b (by omega) (by omega))
  have P7_2 : BoaN (setR h_75 w 6 (some (w + 146))) (w + 10) := P6_2.kept (fun b h0 h1 => fr2 b (by omega) (by omega))
  have P7_3 : OnwN (setR h_75 w 6 (some (w + 146))) (w + 12) := P6_3.kept (fun b h0 h1 => fr2 b (by omega) (by omega))
  have P7_4 : BacN (setR h_75 w 6 (some (w + 146))) (w + 30) := P6_4.kept (fun b h0 h1 => fr2 b (by omega) (by omega))
  have P7_5 : FarI (setR h_75 w 6 (some (w + 146))) (w + 47) 16 := P6_5.kept (fun b h0 h1 => fr2 b (by omega) (by omega))
  have P7_6 : JouN (setR h_75 w 6 (some (w + 146))) (w + 146) := o.kept (fun b h0 h1 => eqA_setR (by omega))
  clear fr fr2 o kw u2 c2 d2 n
  generalize setR h_75 w 6 (some (w + 146)) = g7 at *
  refine wp_vret d_30_81 rfl ?_
  exact ⟨rfl, ⟨K7, ⟨V7_0, V7_1, V7_2, V7_3, V7_4, V7_5, V7_6⟩, P7_0, P7_1, P7_2, P7_3, P7_4, P7_5, P7_6⟩, N7, R7, C7, D7, F7⟩
