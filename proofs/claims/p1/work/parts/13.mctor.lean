/-! ===== the reference's constructor ===== -/
/-- the object m's fields that hold rows: field, distance, places, places of an inner row (0: one row) -/
def arr1 (h : Hp) (m N : Nat) (q : Int × Nat × Int × Int) : Prop := hr h m q.1 = some (m + q.2.1) ∧ 0 < q.2.1 ∧ ((q.2.2.2 = 0 ∧ m + q.2.1 < N ∧ zA h (m + q.2.1) q.2.2.1) ∨ (q.2.2.2 ≠ 0 ∧ 0 ≤ q.2.2.1 ∧ m + q.2.1 + q.2.2.1.toNat < N ∧ mA h (m + q.2.1) q.2.2.1 q.2.2.2))
theorem arr1.kept {h h' : Hp} {m N N' : Nat} {q : Int × Nat × Int × Int} (k : arr1 h m N q) (hN : N ≤ N') (hr1 : hr h' m q.1 = hr h m q.1) (e : ∀ b, m < b → b < N → eqA h h' b) : arr1 h' m N' q := by
  obtain ⟨k1, k0, k2⟩ := k
  refine ⟨hr1.trans k1, k0, ?_⟩
  rcases k2 with ⟨a, b, c⟩ | ⟨a0, a, b, c⟩
  · exact Or.inl ⟨a, by omega, c.kept (e _ (by omega) b)⟩
  · exact Or.inr ⟨a0, a, by omega, c.kept (fun x h0 h1 => e x (by omega) (by omega)) a⟩
def MdS (h0 h : Hp) (m off u : Nat) (L : List (Int × Nat × Int × Int)) : Prop := kd h m = 2 ∧ nx h = m + off ∧ us h = us h0 + u ∧ cn h = cn h0 ∧ cs h = cs h0 ∧ (∀ q ∈ L, arr1 h m (m + off) q) ∧ (∀ b, b < m → eqA h0 h b)
theorem MdS.new {h0 h : Hp} {m off u : Nat} {L : List (Int × Nat × Int × Int)} {n k : Int} (S : MdS h0 h m off u L) (ho : 0 < off) (hf : ∀ q ∈ L, q.1 ≠ k) : MdS h0 (setR (mkO h 100 n) m k (some (nx h))) m (off + 1) (u + n.toNat) ((k, off, n, 0) :: L) ∧ ∀ j, hi (setR (mkO h 100 n) m k (some (nx h))) m j = hi h m j := by
  obtain ⟨s1, s2, s3, s4, s5, s6, s7⟩ := S
  have hne : ¬ m = nx h := by omega
  have e : ∀ b, b < nx h → b ≠ m → eqA h (setR (mkO h 100 n) m k (some (nx h))) b := fun b hb hm => (eqA_mkO hb).trans (eqA_setR hm)
  refine ⟨⟨by rw [kd_setR, kd_mkO, up1_ne _ _ hne]; exact s1, by rw [nx_setR, nx_mkO, s2]; omega, by rw [us_setR, us_mkO, s3]; omega, s4, s5, fun q hq => ?_, fun b hb => (s7 b hb).trans (e b (by omega) (by omega))⟩, fun j => by rw [hi_setR, hi_mkO, up1_ne _ _ hne]⟩
  rcases List.mem_cons.mp hq with rfl | hq
  · refine ⟨by rw [hr_setR, up2_same, s2], ho, Or.inl ⟨rfl, by dsimp only; omega, ?_⟩⟩
    have := zA_mkO (h := h) (n := n)
    rw [s2] at this
    exact this
  · refine (s6 q hq).kept (by omega) ?_ (fun b h1 h2 => e b (by omega) (by omega))
    rw [hr_setR, up2_ne _ _ (fun z => hf q hq z.2), hr_mkO, up1_ne _ _ hne]
theorem MdS.mna {h0 h : Hp} {m off u : Nat} {L : List (Int × Nat × Int × Int)} {n c k : Int} (S : MdS h0 h m off u L) (ho : 0 < off) (hn : 0 ≤ n) (hc : c ≠ 0) (hf : ∀ q ∈ L, q.1 ≠ k) : MdS h0 (setR (mkM h n c) m k (some (nx h))) m (off + 1 + n.toNat) (u + n.toNat + n.toNat * c.toNat) ((k, off, n, c) :: L) ∧ ∀ j, hi (setR (mkM h n c) m k (some (nx h))) m j = hi h m j := by
  obtain ⟨s1, s2, s3, s4, s5, s6, s7⟩ := S
  have hne : ¬ m = nx h := by omega
  have e : ∀ b, b < nx h → b ≠ m → eqA h (setR (mkM h n c) m k (some (nx h))) b := fun b hb hm => (eqA_mkM hb).trans (eqA_setR hm)
  refine ⟨⟨by rw [kd_setR, kd_mkM, if_neg hne, if_neg (by omega)]; exact s1, by rw [nx_setR, nx_mkM, s2]; omega, by rw [us_setR, us_mkM, s3]; omega, s4, s5, fun q hq => ?_, fun b hb => (s7 b hb).trans (e b (by omega) (by omega))⟩, fun j => by rw [hi_setR, hi_mkM, if_neg (by omega)]⟩
  rcases List.mem_cons.mp hq with rfl | hq
  · refine ⟨by rw [hr_setR, up2_same, s2], ho, Or.inr ⟨hc, hn, by dsimp only; omega, ?_⟩⟩
    have := mA_of h n c
    rw [s2] at this
    exact mA_setR this (by dsimp only; omega)
  · refine (s6 q hq).kept (by omega) ?_ (fun b h1 h2 => e b (by omega) (by omega))
    rw [hr_setR, up2_ne _ _ (fun z => hf q hq z.2), hr_mkM, if_neg hne, if_neg (by omega)]
theorem MdS.int {h0 h : Hp} {m off u : Nat} {L : List (Int × Nat × Int × Int)} {k v : Int} (S : MdS h0 h m off u L) : MdS h0 (setI h m k v) m off u L := by
  obtain ⟨s1, s2, s3, s4, s5, s6, s7⟩ := S
  exact ⟨s1, s2, s3, s4, s5, fun q hq => (s6 q hq).kept (Nat.le_refl _) rfl (fun b h1 h2 => eqA_setI (by omega)), fun b hb => (s7 b hb).trans (eqA_setI (by omega))⟩

def mdL : List (Int × Nat × Int × Int) := [(34, 125, 14, 0), (33, 124, 14, 0), (32, 123, 14, 0), (31, 122, 14, 0), (30, 121, 14, 0), (29, 120, 14, 0), (28, 119, 14, 0), (27, 118, 14, 0), (19, 93, 24, 366), (18, 68, 24, 8), (17, 43, 24, 8), (16, 18, 24, 8), (15, 17, 24, 0), (14, 16, 24, 0), (13, 15, 24, 0), (11, 8, 6, 366), (10, 7, 6, 0), (9, 6, 6, 0), (8, 5, 6, 0), (6, 4, 20, 0), (5, 3, 20, 0), (4, 2, 20, 0), (2, 1, 16, 0)]
set_option maxRecDepth 100000 in
set_option maxHeartbeats 8000000 in
theorem s_Model {m : Nat} {h : Hp} (hk : kd h m = 2) (hn : nx h = m + 1) (r1 : nx h + 125 ≤ cn h) (r2 : us h + 11936 ≤ cs h) : wp 49 0 (entL [vR (some m)] (mL 49)) [] h (fun v h' => v = none ∧ MdS h h' m 126 11936 mdL ∧ ∀ j, hi h' m j = if j = 23 then -1 else if j = 20 then -1 else hi h m j) noX := by
  have S0 : MdS h h m 1 0 [] := ⟨hk, hn, rfl, rfl, rfl, (fun q hq => nomatch hq), fun b hb => eqA.rfl⟩
  have I0 : ∀ j, hi h m j = hi h m j := fun j => rfl
  have r3 : m + 126 ≤ cn h := by omega
  clear hk hn r1
  have goalh : True := trivial
  refine wp_aload_n d_49_0 (by rfl) ?_
  refine wp_objInit d_49_1 oi_1 co_code ⟨Nat.le_of_ble_eq_true rfl, Nat.le_of_ble_eq_true rfl⟩ ?_
  refine wp_aload_n d_49_4 (by rfl) ?_
  refine wp_bipush d_49_5 (by decide) ?_
  refine wp_newa (K := 100) d_49_7 rfl (by decide) ca_100 rfl (by first | omega | decide) (by first | omega | decide) (by decide) (by have := S0.2.1; have := S0.2.2.2.1; omega) (by have := S0.2.2.1; have := S0.2.2.2.2.1; first | omega | (simp; omega)) ?_
  refine wp_putR (2) d_49_9 fl_1_9 rfl rfl (Or.inr ⟨by rfl, by rfl, by rfl⟩) (by have := S0.1; have := S0.2.1; first | assumption | (rw [kd_mkO, up1_ne _ _ (by omega)]; assumption) | (rw [kd_mkM, if_neg (by omega), if_neg (by omega)]; assumption)) ?_
  have S1 : MdS h (setR (mkO h 100 16) m 2 (some (nx h))) m 2 16 [(2, 1, 16, 0)] := (S0.new (n := 16) (k := 2) (by decide) (by decide)).1
  have J := (S0.new (n := 16) (k := 2) (by decide) (by decide)).2
  have I1 := fun j => (J j).trans (I0 j)
  clear J
  generalize setR (mkO h 100 16) m 2 (some (nx h)) = g1 at *
  clear S0 I0
  refine wp_aload_n d_49_12 (by rfl) ?_
  refine wp_bipush d_49_13 (by decide) ?_
  refine wp_newa (K := 100) d_49_15 rfl (by decide) ca_100 rfl (by first | omega | decide) (by first | omega | decide) (by decide) (by have := S1.2.1; have := S1.2.2.2.1; omega) (by have := S1.2.2.1; have := S1.2.2.2.2.1; first | omega | (simp; omega)) ?_
  refine wp_putR (4) d_49_17 fl_1_13 rfl rfl (Or.inr ⟨by rfl, by rfl, by rfl⟩) (by have := S1.1; have := S1.2.1; first | assumption | (rw [kd_mkO, up1_ne _ _ (by omega)]; assumption) | (rw [kd_mkM, if_neg (by omega), if_neg (by omega)]; assumption)) ?_
  have S2 : MdS h (setR (mkO g1 100 20) m 4 (some (nx g1))) m 3 36 [(4, 2, 20, 0), (2, 1, 16, 0)] := (S1.new (n := 20) (k := 4) (by decide) (by decide)).1
  have J := (S1.new (n := 20) (k := 4) (by decide) (by decide)).2
  have I2 := fun j => (J j).trans (I1 j)
  clear J
  generalize setR (mkO g1 100 20) m 4 (some (nx g1)) = g2 at *
  clear S1 I1
  refine wp_aload_n d_49_20 (by rfl) ?_
  refine wp_bipush d_49_21 (by decide) ?_
  refine wp_newa (K := 100) d_49_23 rfl (by decide) ca_100 rfl (by first | omega | decide) (by first | omega | decide) (by decide) (by have := S2.2.1; have := S2.2.2.2.1; omega) (by have := S2.2.2.1; have := S2.2.2.2.2.1; first | omega | (simp; omega)) ?_
  refine wp_putR (5) d_49_25 fl_1_16 rfl rfl (Or.inr ⟨by rfl, by rfl, by rfl⟩) (by have := S2.1; have := S2.2.1; first | assumption | (rw [kd_mkO, up1_ne _ _ (by omega)]; assumption) | (rw [kd_mkM, if_neg (by omega), if_neg (by omega)]; assumption)) ?_
  have S3 : MdS h (setR (mkO g2 100 20) m 5 (some (nx g2))) m 4 56 [(5, 3, 20, 0), (4, 2, 20, 0), (2, 1, 16, 0)] := (S2.new (n := 20) (k := 5) (by decide) (by decide)).1
  have J := (S2.new (n := 20) (k := 5) (by decide) (by decide)).2
  have I3 := fun j => (J j).trans (I2 j)
  clear J
  generalize setR (mkO g2 100 20) m 5 (some (nx g2)) = g3 at *
  clear S2 I2
  refine wp_aload_n d_49_28 (by rfl) ?_
  refine wp_bipush d_49_29 (by decide) ?_
  refine wp_newa (K := 100) d_49_31 rfl (by decide) ca_100 rfl (by first | omega | decide) (by first | omega | decide) (by decide) (by have := S3.2.1; have := S3.2.2.2.1; omega) (by have := S3.2.2.1; have := S3.2.2.2.2.1; first | omega | (simp; omega)) ?_
  refine wp_putR (6) d_49_33 fl_1_19 rfl rfl (Or.inr ⟨by rfl, by rfl, by rfl⟩) (by have := S3.1; have := S3.2.1; first | assumption | (rw [kd_mkO, up1_ne _ _ (by omega)]; assumption) | (rw [kd_mkM, if_neg (by omega), if_neg (by omega)]; assumption)) ?_
  have S4 : MdS h (setR (mkO g3 100 20) m 6 (some (nx g3))) m 5 76 [(6, 4, 20, 0), (5, 3, 20, 0), (4, 2, 20, 0), (2, 1, 16, 0)] := (S3.new (n := 20) (k := 6) (by decide) (by decide)).1
  have J := (S3.new (n := 20) (k := 6) (by decide) (by decide)).2
  have I4 := fun j => (J j).trans (I3 j)
  clear J
  generalize setR (mkO g3 100 20) m 6 (some (nx g3)) = g4 at *
  clear S3 I3
  refine wp_aload_n d_49_36 (by rfl) ?_
  refine wp_bipush d_49_37 (by decide) ?_
  refine wp_newa (K := 100) d_49_39 rfl (by decide) ca_100 rfl (by first | omega | decide) (by first | omega | decide) (by decide) (by have := S4.2.1; have := S4.2.2.2.1; omega) (by have := S4.2.2.1; have := S4.2.2.2.2.1; first | omega | (simp; omega)) ?_
  refine wp_putR (8) d_49_41 fl_1_22 rfl rfl (Or.inr ⟨by rfl, by rfl, by rfl⟩) (by have := S4.1; have := S4.2.1; first | assumption | (rw [kd_mkO, up1_ne _ _ (by omega)]; assumption) | (rw [kd_mkM, if_neg (by omega), if_neg (by omega)]; assumption)) ?_
  have S5 : MdS h (setR (mkO g4 100 6) m 8 (some (nx g4))) m 6 82 [(8, 5, 6, 0), (6, 4, 20, 0), (5, 3, 20, 0), (4, 2, 20, 0), (2, 1, 16, 0)] := (S4.new (n := 6) (k := 8) (by decide) (by decide)).1
  have J := (S4.new (n := 6) (k := 8) (by decide) (by decide)).2
  have I5 := fun j => (J j).trans (I4 j)
  clear J
  generalize setR (mkO g4 100 6) m 8 (some (nx g4)) = g5 at *
  clear S4 I4
  refine wp_aload_n d_49_44 (by rfl) ?_
  refine wp_bipush d_49_45 (by decide) ?_
  refine wp_newa (K := 100) d_49_47 rfl (by decide) ca_100 rfl (by first | omega | decide) (by first | omega | decide) (by decide) (by have := S5.2.1; have := S5.2.2.2.1; omega) (by have := S5.2.2.1; have := S5.2.2.2.2.1; first | omega | (simp; omega)) ?_
  refine wp_putR (9) d_49_49 fl_1_25 rfl rfl (Or.inr ⟨by rfl, by rfl, by rfl⟩) (by have := S5.1; have := S5.2.1; first | assumption | (rw [kd_mkO, up1_ne _ _ (by omega)]; assumption) | (rw [kd_mkM, if_neg (by omega), if_neg (by omega)]; assumption)) ?_
  have S6 : MdS h (setR (mkO g5 100 6) m 9 (some (nx g5))) m 7 88 [(9, 6, 6, 0), (8, 5, 6, 0), (6, 4, 20, 0), (5, 3, 20, 0), (4, 2, 20, 0), (2, 1, 16, 0)] := (S5.new (n := 6) (k := 9) (by decide) (by decide)).1
  have J := (S5.new (n := 6) (k := 9) (by decide) (by decide)).2
  have I6 := fun j => (J j).trans (I5 j)
  clear J
  generalize setR (mkO g5 100 6) m 9 (some (nx g5)) = g6 at *
  clear S5 I5
  refine wp_aload_n d_49_52 (by rfl) ?_
  refine wp_bipush d_49_53 (by decide) ?_
  refine wp_newa (K := 100) d_49_55 rfl (by decide) ca_100 rfl (by first | omega | decide) (by first | omega | decide) (by decide) (by have := S6.2.1; have := S6.2.2.2.1; omega) (by have := S6.2.2.1; have := S6.2.2.2.2.1; first | omega | (simp; omega)) ?_
  refine wp_putR (10) d_49_57 fl_1_28 rfl rfl (Or.inr ⟨by rfl, by rfl, by rfl⟩) (by have := S6.1; have := S6.2.1; first | assumption | (rw [kd_mkO, up1_ne _ _ (by omega)]; assumption) | (rw [kd_mkM, if_neg (by omega), if_neg (by omega)]; assumption)) ?_
  have S7 : MdS h (setR (mkO g6 100 6) m 10 (some (nx g6))) m 8 94 [(10, 7, 6, 0), (9, 6, 6, 0), (8, 5, 6, 0), (6, 4, 20, 0), (5, 3, 20, 0), (4, 2, 20, 0), (2, 1, 16, 0)] := (S6.new (n := 6) (k := 10) (by decide) (by decide)).1
  have J := (S6.new (n := 6) (k := 10) (by decide) (by decide)).2
  have I7 := fun j => (J j).trans (I6 j)
  clear J
  generalize setR (mkO g6 100 6) m 10 (some (nx g6)) = g7 at *
  clear S6 I6
  refine wp_aload_n d_49_60 (by rfl) ?_
  refine wp_bipush d_49_61 (by decide) ?_
  refine wp_sipush d_49_63 (by decide) ?_
  refine wp_mna d_49_66 cl_1_31 ca_103 ca_100 (by decide) (by decide) (by decide) (by decide) (by have := S7.2.1; have := S7.2.2.2.1; omega) (by have := S7.2.2.1; have := S7.2.2.2.2.1; first | omega | (simp; omega)) ?_
  refine wp_putR (11) d_49_70 fl_1_33 rfl rfl (Or.inr ⟨by rfl, by rfl, by rfl⟩) (by have := S7.1; have := S7.2.1; first | assumption | (rw [kd_mkO, up1_ne _ _ (by omega)]; assumption) | (rw [kd_mkM, if_neg (by omega), if_neg (by omega)]; assumption)) ?_
  have S8 : MdS h (setR (mkM g7 6 366) m 11 (some (nx g7))) m 15 2296 [(11, 8, 6, 366), (10, 7, 6, 0), (9, 6, 6, 0), (8, 5, 6, 0), (6, 4, 20, 0), (5, 3, 20, 0), (4, 2, 20, 0), (2, 1, 16, 0)] := (S7.mna (n := 6) (c := 366) (k := 11) (by decide) (by decide) (by decide) (by decide)).1
  have J := (S7.mna (n := 6) (c := 366) (k := 11) (by decide) (by decide) (by decide) (by decide)).2
  have I8 := fun j => (J j).trans (I7 j)
  clear J
  generalize setR (mkM g7 6 366) m 11 (some (nx g7)) = g8 at *
  clear S7 I7
  refine wp_aload_n d_49_73 (by rfl) ?_
  refine wp_bipush d_49_74 (by decide) ?_
  refine wp_newa (K := 100) d_49_76 rfl (by decide) ca_100 rfl (by first | omega | decide) (by first | omega | decide) (by decide) (by have := S8.2.1; have := S8.2.2.2.1; omega) (by have := S8.2.2.1; have := S8.2.2.2.2.1; first | omega | (simp; omega)) ?_
  refine wp_putR (13) d_49_78 fl_1_36 rfl rfl (Or.inr ⟨by rfl, by rfl, by rfl⟩) (by have := S8.1; have := S8.2.1; first | assumption | (rw [kd_mkO, up1_ne _ _ (by omega)]; assumption) | (rw [kd_mkM, if_neg (by omega), if_neg (by omega)]; assumption)) ?_
  have S9 : MdS h (setR (mkO g8 100 24) m 13 (some (nx g8))) m 16 2320 [(13, 15, 24, 0), (11, 8, 6, 366), (10, 7, 6, 0), (9, 6, 6, 0), (8, 5, 6, 0), (6, 4, 20, 0), (5, 3, 20, 0), (4, 2, 20, 0), (2, 1, 16, 0)] := (S8.new (n := 24) (k := 13) (by decide) (by decide)).1
  have J := (S8.new (n := 24) (k := 13) (by decide) (by decide)).2
  have I9 := fun j => (J j).trans (I8 j)
  clear J
  generalize setR (mkO g8 100 24) m 13 (some (nx g8)) = g9 at *
  clear S8 I8
  refine wp_aload_n d_49_81 (by rfl) ?_
  refine wp_bipush d_49_82 (by decide) ?_
  refine wp_newa (K := 100) d_49_84 rfl (by decide) ca_100 rfl (by first | omega | decide) (by first | omega | decide) (by decide) (by have := S9.2.1; have := S9.2.2.2.1; omega) (by have := S9.2.2.1; have := S9.2.2.2.2.1; first | omega | (simp; omega)) ?_
  refine wp_putR (14) d_49_86 fl_1_39 rfl rfl (Or.inr ⟨by rfl, by rfl, by rfl⟩) (by have := S9.1; have := S9.2.1; first | assumption | (rw [kd_mkO, up1_ne _ _ (by omega)]; assumption) | (rw [kd_mkM, if_neg (by omega), if_neg (by omega)]; assumption)) ?_
  have S10 : MdS h (setR (mkO g9 100 24) m 14 (some (nx g9))) m 17 2344 [(14, 16, 24, 0), (13, 15, 24, 0), (11, 8, 6, 366), (10, 7, 6, 0), (9, 6, 6, 0), (8, 5, 6, 0), (6, 4, 20, 0), (5, 3, 20, 0), (4, 2, 20, 0), (2, 1, 16, 0)] := (S9.new (n := 24) (k := 14) (by decide) (by decide)).1
  have J := (S9.new (n := 24) (k := 14) (by decide) (by decide)).2
  have I10 := fun j => (J j).trans (I9 j)
  clear J
  generalize setR (mkO g9 100 24) m 14 (some (nx g9)) = g10 at *
  clear S9 I9
  refine wp_aload_n d_49_89 (by rfl) ?_
  refine wp_bipush d_49_90 (by decide) ?_
  refine wp_newa (K := 100) d_49_92 rfl (by decide) ca_100 rfl (by first | omega | decide) (by first | omega | decide) (by decide) (by have := S10.2.1; have := S10.2.2.2.1; omega) (by have := S10.2.2.1; have := S10.2.2.2.2.1; first | omega | (simp; omega)) ?_
  refine wp_putR (15) d_49_94 fl_1_42 rfl rfl (Or.inr ⟨by rfl, by rfl, by rfl⟩) (by have := S10.1; have := S10.2.1; first | assumption | (rw [kd_mkO, up1_ne _ _ (by omega)]; assumption) | (rw [kd_mkM, if_neg (by omega), if_neg (by omega)]; assumption)) ?_
  have S11 : MdS h (setR (mkO g10 100 24) m 15 (some (nx g10))) m 18 2368 [(15, 17, 24, 0), (14, 16, 24, 0), (13, 15, 24, 0), (11, 8, 6, 366), (10, 7, 6, 0), (9, 6, 6, 0), (8, 5, 6, 0), (6, 4, 20, 0), (5, 3, 20, 0), (4, 2, 20, 0), (2, 1, 16, 0)] := (S10.new (n := 24) (k := 15) (by decide) (by decide)).1
  have J := (S10.new (n := 24) (k := 15) (by decide) (by decide)).2
  have I11 := fun j => (J j).trans (I10 j)
  clear J
  generalize setR (mkO g10 100 24) m 15 (some (nx g10)) = g11 at *
  clear S10 I10
  refine wp_aload_n d_49_97 (by rfl) ?_
  refine wp_bipush d_49_98 (by decide) ?_
  refine wp_bipush d_49_100 (by decide) ?_
  refine wp_mna d_49_102 cl_1_31 ca_103 ca_100 (by decide) (by decide) (by decide) (by decide) (by have := S11.2.1; have := S11.2.2.2.1; omega) (by have := S11.2.2.1; have := S11.2.2.2.2.1; first | omega | (simp; omega)) ?_
  refine wp_putR (16) d_49_106 fl_1_45 rfl rfl (Or.inr ⟨by rfl, by rfl, by rfl⟩) (by have := S11.1; have := S11.2.1; first | assumption | (rw [kd_mkO, up1_ne _ _ (by omega)]; assumption) | (rw [kd_mkM, if_neg (by omega), if_neg (by omega)]; assumption)) ?_
  have S12 : MdS h (setR (mkM g11 24 8) m 16 (some (nx g11))) m 43 2584 [(16, 18, 24, 8), (15, 17, 24, 0), (14, 16, 24, 0), (13, 15, 24, 0), (11, 8, 6, 366), (10, 7, 6, 0), (9, 6, 6, 0), (8, 5, 6, 0), (6, 4, 20, 0), (5, 3, 20, 0), (4, 2, 20, 0), (2, 1, 16, 0)] := (S11.mna (n := 24) (c := 8) (k := 16) (by decide) (by decide) (by decide) (by decide)).1
  have J := (S11.mna (n := 24) (c := 8) (k := 16) (by decide) (by decide) (by decide) (by decide)).2
  have I12 := fun j => (J j).trans (I11 j)
  clear J
  generalize setR (mkM g11 24 8) m 16 (some (nx g11)) = g12 at *
  clear S11 I11
  refine wp_aload_n d_49_109 (by rfl) ?_
  refine wp_bipush d_49_110 (by decide) ?_
  refine wp_bipush d_49_112 (by decide) ?_
  refine wp_mna d_49_114 cl_1_31 ca_103 ca_100 (by decide) (by decide) (by decide) (by decide) (by have := S12.2.1; have := S12.2.2.2.1; omega) (by have := S12.2.2.1; have := S12.2.2.2.2.1; first | omega | (simp; omega)) ?_
  refine wp_putR (17) d_49_118 fl_1_48 rfl rfl (Or.inr ⟨by rfl, by rfl, by rfl⟩) (by have := S12.1; have := S12.2.1; first | assumption | (rw [kd_mkO, up1_ne _ _ (by omega)]; assumption) | (rw [kd_mkM, if_neg (by omega), if_neg (by omega)]; assumption)) ?_
  have S13 : MdS h (setR (mkM g12 24 8) m 17 (some (nx g12))) m 68 2800 [(17, 43, 24, 8), (16, 18, 24, 8), (15, 17, 24, 0), (14, 16, 24, 0), (13, 15, 24, 0), (11, 8, 6, 366), (10, 7, 6, 0), (9, 6, 6, 0), (8, 5, 6, 0), (6, 4, 20, 0), (5, 3, 20, 0), (4, 2, 20, 0), (2, 1, 16, 0)] := (S12.mna (n := 24) (c := 8) (k := 17) (by decide) (by decide) (by decide) (by decide)).1
  have J := (S12.mna (n := 24) (c := 8) (k := 17) (by decide) (by decide) (by decide) (by decide)).2
  have I13 := fun j => (J j).trans (I12 j)
  clear J
  generalize setR (mkM g12 24 8) m 17 (some (nx g12)) = g13 at *
  clear S12 I12
  refine wp_aload_n d_49_121 (by rfl) ?_
  refine wp_bipush d_49_122 (by decide) ?_
  refine wp_bipush d_49_124 (by decide) ?_
  refine wp_mna d_49_126 cl_1_31 ca_103 ca_100 (by decide) (by decide) (by decide) (by decide) (by have := S13.2.1; have := S13.2.2.2.1; omega) (by have := S13.2.2.1; have := S13.2.2.2.2.1; first | omega | (simp; omega)) ?_
  refine wp_putR (18) d_49_130 fl_1_51 rfl rfl (Or.inr ⟨by rfl, by rfl, by rfl⟩) (by have := S13.1; have := S13.2.1; first | assumption | (rw [kd_mkO, up1_ne _ _ (by omega)]; assumption) | (rw [kd_mkM, if_neg (by omega), if_neg (by omega)]; assumption)) ?_
  have S14 : MdS h (setR (mkM g13 24 8) m 18 (some (nx g13))) m 93 3016 [(18, 68, 24, 8), (17, 43, 24, 8), (16, 18, 24, 8), (15, 17, 24, 0), (14, 16, 24, 0), (13, 15, 24, 0), (11, 8, 6, 366), (10, 7, 6, 0), (9, 6, 6, 0), (8, 5, 6, 0), (6, 4, 20, 0), (5, 3, 20, 0), (4, 2, 20, 0), (2, 1, 16, 0)] := (S13.mna (n := 24) (c := 8) (k := 18) (by decide) (by decide) (by decide) (by decide)).1
  have J := (S13.mna (n := 24) (c := 8) (k := 18) (by decide) (by decide) (by decide) (by decide)).2
  have I14 := fun j => (J j).trans (I13 j)
  clear J
  generalize setR (mkM g13 24 8) m 18 (some (nx g13)) = g14 at *
  clear S13 I13
  refine wp_aload_n d_49_133 (by rfl) ?_
  refine wp_bipush d_49_134 (by decide) ?_
  refine wp_sipush d_49_136 (by decide) ?_
  refine wp_mna d_49_139 cl_1_31 ca_103 ca_100 (by decide) (by decide) (by decide) (by decide) (by have := S14.2.1; have := S14.2.2.2.1; omega) (by have := S14.2.2.1; have := S14.2.2.2.2.1; first | omega | (simp; omega)) ?_
  refine wp_putR (19) d_49_143 fl_1_54 rfl rfl (Or.inr ⟨by rfl, by rfl, by rfl⟩) (by have := S14.1; have := S14.2.1; first | assumption | (rw [kd_mkO, up1_ne _ _ (by omega)]; assumption) | (rw [kd_mkM, if_neg (by omega), if_neg (by omega)]; assumption)) ?_
  have S15 : MdS h (setR (mkM g14 24 366) m 19 (some (nx g14))) m 118 11824 [(19, 93, 24, 366), (18, 68, 24, 8), (17, 43, 24, 8), (16, 18, 24, 8), (15, 17, 24, 0), (14, 16, 24, 0), (13, 15, 24, 0), (11, 8, 6, 366), (10, 7, 6, 0), (9, 6, 6, 0), (8, 5, 6, 0), (6, 4, 20, 0), (5, 3, 20, 0), (4, 2, 20, 0), (2, 1, 16, 0)] := (S14.mna (n := 24) (c := 366) (k := 19) (by decide) (by decide) (by decide) (by decide)).1
  have J := (S14.mna (n := 24) (c := 366) (k := 19) (by decide) (by decide) (by decide) (by decide)).2
  have I15 := fun j => (J j).trans (I14 j)
  clear J
  generalize setR (mkM g14 24 366) m 19 (some (nx g14)) = g15 at *
  clear S14 I14
  refine wp_aload_n d_49_146 (by rfl) ?_
  refine wp_iconst d_49_147 ?_
  refine wp_putI (20) d_49_148 fl_1_57 rfl rfl (Or.inl (by rfl)) (by have := S15.1; have := S15.2.1; first | assumption | (rw [kd_mkO, up1_ne _ _ (by omega)]; assumption) | (rw [kd_mkM, if_neg (by omega), if_neg (by omega)]; assumption)) (by first | omega | decide) (fun q => nomatch q) ?_
  have S16 := S15.int (k := 20) (v := -1)
  have Z16 : ∀ j, hi (setI g15 m 20 (-1)) m j = up2 (hi g15) m 20 (-1) m j := fun j => rfl
  have I16 : ∀ j, hi (setI g15 m 20 (-1)) m j = if j = 20 then -1 else hi h m j := fun j => by rw [Z16, ← I15 j]; unfold up2; by_cases hj : j = 20 <;> simp [hj]
  clear Z16
  generalize setI g15 m 20 (-1) = g16 at *
  clear S15 I15
  refine wp_aload_n d_49_151 (by rfl) ?_
  refine wp_iconst d_49_152 ?_
  refine wp_putI (23) d_49_153 fl_1_61 rfl rfl (Or.inl (by rfl)) (by have := S16.1; have := S16.2.1; first | assumption | (rw [kd_mkO, up1_ne _ _ (by omega)]; assumption) | (rw [kd_mkM, if_neg (by omega), if_neg (by omega)]; assumption)) (by first | omega | decide) (fun q => nomatch q) ?_
  have S17 := S16.int (k := 23) (v := -1)
  have Z17 : ∀ j, hi (setI g16 m 23 (-1)) m j = up2 (hi g16) m 23 (-1) m j := fun j => rfl
  have I17 : ∀ j, hi (setI g16 m 23 (-1)) m j = if j = 23 then -1 else if j = 20 then -1 else hi h m j := fun j => by rw [Z17, ← I16 j]; unfold up2; by_cases hj : j = 23 <;> simp [hj]
  clear Z17
  generalize setI g16 m 23 (-1) = g17 at *
  clear S16 I16
  refine wp_aload_n d_49_156 (by rfl) ?_
  refine wp_bipush d_49_157 (by decide) ?_
  refine wp_newa (K := 100) d_49_159 rfl (by decide) ca_100 rfl (by first | omega | decide) (by first | omega | decide) (by decide) (by have := S17.2.1; have := S17.2.2.2.1; omega) (by have := S17.2.2.1; have := S17.2.2.2.2.1; first | omega | (simp; omega)) ?_
  refine wp_putR (27) d_49_161 fl_1_64 rfl rfl (Or.inr ⟨by rfl, by rfl, by rfl⟩) (by have := S17.1; have := S17.2.1; first | assumption | (rw [kd_mkO, up1_ne _ _ (by omega)]; assumption) | (rw [kd_mkM, if_neg (by omega), if_neg (by omega)]; assumption)) ?_
  have S18 : MdS h (setR (mkO g17 100 14) m 27 (some (nx g17))) m 119 11838 [(27, 118, 14, 0), (19, 93, 24, 366), (18, 68, 24, 8), (17, 43, 24, 8), (16, 18, 24, 8), (15, 17, 24, 0), (14, 16, 24, 0), (13, 15, 24, 0), (11, 8, 6, 366), (10, 7, 6, 0), (9, 6, 6, 0), (8, 5, 6, 0), (6, 4, 20, 0), (5, 3, 20, 0), (4, 2, 20, 0), (2, 1, 16, 0)] := (S17.new (n := 14) (k := 27) (by decide) (by decide)).1
  have J := (S17.new (n := 14) (k := 27) (by decide) (by decide)).2
  have I18 := fun j => (J j).trans (I17 j)
  clear J
  generalize setR (mkO g17 100 14) m 27 (some (nx g17)) = g18 at *
  clear S17 I17
  refine wp_aload_n d_49_164 (by rfl) ?_
  refine wp_bipush d_49_165 (by decide) ?_
  refine wp_newa (K := 100) d_49_167 rfl (by decide) ca_100 rfl (by first | omega | decide) (by first | omega | decide) (by decide) (by have := S18.2.1; have := S18.2.2.2.1; omega) (by have := S18.2.2.1; have := S18.2.2.2.2.1; first | omega | (simp; omega)) ?_
  refine wp_putR (28) d_49_169 fl_1_67 rfl rfl (Or.inr ⟨by rfl, by rfl, by rfl⟩) (by have := S18.1; have := S18.2.1; first | assumption | (rw [kd_mkO, up1_ne _ _ (by omega)]; assumption) | (rw [kd_mkM, if_neg (by omega), if_neg (by omega)]; assumption)) ?_
  have S19 : MdS h (setR (mkO g18 100 14) m 28 (some (nx g18))) m 120 11852 [(28, 119, 14, 0), (27, 118, 14, 0), (19, 93, 24, 366), (18, 68, 24, 8), (17, 43, 24, 8), (16, 18, 24, 8), (15, 17, 24, 0), (14, 16, 24, 0), (13, 15, 24, 0), (11, 8, 6, 366), (10, 7, 6, 0), (9, 6, 6, 0), (8, 5, 6, 0), (6, 4, 20, 0), (5, 3, 20, 0), (4, 2, 20, 0), (2, 1, 16, 0)] := (S18.new (n := 14) (k := 28) (by decide) (by decide)).1
  have J := (S18.new (n := 14) (k := 28) (by decide) (by decide)).2
  have I19 := fun j => (J j).trans (I18 j)
  clear J
  generalize setR (mkO g18 100 14) m 28 (some (nx g18)) = g19 at *
  clear S18 I18
  refine wp_aload_n d_49_172 (by rfl) ?_
  refine wp_bipush d_49_173 (by decide) ?_
  refine wp_newa (K := 100) d_49_175 rfl (by decide) ca_100 rfl (by first | omega | decide) (by first | omega | decide) (by decide) (by have := S19.2.1; have := S19.2.2.2.1; omega) (by have := S19.2.2.1; have := S19.2.2.2.2.1; first | omega | (simp; omega)) ?_
  refine wp_putR (29) d_49_177 fl_1_70 rfl rfl (Or.inr ⟨by rfl, by rfl, by rfl⟩) (by have := S19.1; have := S19.2.1; first | assumption | (rw [kd_mkO, up1_ne _ _ (by omega)]; assumption) | (rw [kd_mkM, if_neg (by omega), if_neg (by omega)]; assumption)) ?_
  have S20 : MdS h (setR (mkO g19 100 14) m 29 (some (nx g19))) m 121 11866 [(29, 120, 14, 0), (28, 119, 14, 0), (27, 118, 14, 0), (19, 93, 24, 366), (18, 68, 24, 8), (17, 43, 24, 8), (16, 18, 24, 8), (15, 17, 24, 0), (14, 16, 24, 0), (13, 15, 24, 0), (11, 8, 6, 366), (10, 7, 6, 0), (9, 6, 6, 0), (8, 5, 6, 0), (6, 4, 20, 0), (5, 3, 20, 0), (4, 2, 20, 0), (2, 1, 16, 0)] := (S19.new (n := 14) (k := 29) (by decide) (by decide)).1
  have J := (S19.new (n := 14) (k := 29) (by decide) (by decide)).2
  have I20 := fun j => (J j).trans (I19 j)
  clear J
  generalize setR (mkO g19 100 14) m 29 (some (nx g19)) = g20 at *
  clear S19 I19
  refine wp_aload_n d_49_180 (by rfl) ?_
  refine wp_bipush d_49_181 (by decide) ?_
  refine wp_newa (K := 100) d_49_183 rfl (by decide) ca_100 rfl (by first | omega | decide) (by first | omega | decide) (by decide) (by have := S20.2.1; have := S20.2.2.2.1; omega) (by have := S20.2.2.1; have := S20.2.2.2.2.1; first | omega | (simp; omega)) ?_
  refine wp_putR (30) d_49_185 fl_1_73 rfl rfl (Or.inr ⟨by rfl, by rfl, by rfl⟩) (by have := S20.1; have := S20.2.1; first | assumption | (rw [kd_mkO, up1_ne _ _ (by omega)]; assumption) | (rw [kd_mkM, if_neg (by omega), if_neg (by omega)]; assumption)) ?_
  have S21 : MdS h (setR (mkO g20 100 14) m 30 (some (nx g20))) m 122 11880 [(30, 121, 14, 0), (29, 120, 14, 0), (28, 119, 14, 0), (27, 118, 14, 0), (19, 93, 24, 366), (18, 68, 24, 8), (17, 43, 24, 8), (16, 18, 24, 8), (15, 17, 24, 0), (14, 16, 24, 0), (13, 15, 24, 0), (11, 8, 6, 366), (10, 7, 6, 0), (9, 6, 6, 0), (8, 5, 6, 0), (6, 4, 20, 0), (5, 3, 20, 0), (4, 2, 20, 0), (2, 1, 16, 0)] := (S20.new (n := 14) (k := 30) (by decide) (by decide)).1
  have J := (S20.new (n := 14) (k := 30) (by decide) (by decide)).2
  have I21 := fun j => (J j).trans (I20 j)
  clear J
  generalize setR (mkO g20 100 14) m 30 (some (nx g20)) = g21 at *
  clear S20 I20
  refine wp_aload_n d_49_188 (by rfl) ?_
  refine wp_bipush d_49_189 (by decide) ?_
  refine wp_newa (K := 100) d_49_191 rfl (by decide) ca_100 rfl (by first | omega | decide) (by first | omega | decide) (by decide) (by have := S21.2.1; have := S21.2.2.2.1; omega) (by have := S21.2.2.1; have := S21.2.2.2.2.1; first | omega | (simp; omega)) ?_
  refine wp_putR (31) d_49_193 fl_1_76 rfl rfl (Or.inr ⟨by rfl, by rfl, by rfl⟩) (by have := S21.1; have := S21.2.1; first | assumption | (rw [kd_mkO, up1_ne _ _ (by omega)]; assumption) | (rw [kd_mkM, if_neg (by omega), if_neg (by omega)]; assumption)) ?_
  have S22 : MdS h (setR (mkO g21 100 14) m 31 (some (nx g21))) m 123 11894 [(31, 122, 14, 0), (30, 121, 14, 0), (29, 120, 14, 0), (28, 119, 14, 0), (27, 118, 14, 0), (19, 93, 24, 366), (18, 68, 24, 8), (17, 43, 24, 8), (16, 18, 24, 8), (15, 17, 24, 0), (14, 16, 24, 0), (13, 15, 24, 0), (11, 8, 6, 366), (10, 7, 6, 0), (9, 6, 6, 0), (8, 5, 6, 0), (6, 4, 20, 0), (5, 3, 20, 0), (4, 2, 20, 0), (2, 1, 16, 0)] := (S21.new (n := 14) (k := 31) (by decide) (by decide)).1
  have J := (S21.new (n := 14) (k := 31) (by decide) (by decide)).2
  have I22 := fun j => (J j).trans (I21 j)
  clear J
  generalize setR (mkO g21 100 14) m 31 (some (nx g21)) = g22 at *
  clear S21 I21
  refine wp_aload_n d_49_196 (by rfl) ?_
  refine wp_bipush d_49_197 (by decide) ?_
  refine wp_newa (K := 100) d_49_199 rfl (by decide) ca_100 rfl (by first | omega | decide) (by first | omega | decide) (by decide) (by have := S22.2.1; have := S22.2.2.2.1; omega) (by have := S22.2.2.1; have := S22.2.2.2.2.1; first | omega | (simp; omega)) ?_
  refine wp_putR (32) d_49_201 fl_1_79 rfl rfl (Or.inr ⟨by rfl, by rfl, by rfl⟩) (by have := S22.1; have := S22.2.1; first | assumption | (rw [kd_mkO, up1_ne _ _ (by omega)]; assumption) | (rw [kd_mkM, if_neg (by omega), if_neg (by omega)]; assumption)) ?_
  have S23 : MdS h (setR (mkO g22 100 14) m 32 (some (nx g22))) m 124 11908 [(32, 123, 14, 0), (31, 122, 14, 0), (30, 121, 14, 0), (29, 120, 14, 0), (28, 119, 14, 0), (27, 118, 14, 0), (19, 93, 24, 366), (18, 68, 24, 8), (17, 43, 24, 8), (16, 18, 24, 8), (15, 17, 24, 0), (14, 16, 24, 0), (13, 15, 24, 0), (11, 8, 6, 366), (10, 7, 6, 0), (9, 6, 6, 0), (8, 5, 6, 0), (6, 4, 20, 0), (5, 3, 20, 0), (4, 2, 20, 0), (2, 1, 16, 0)] := (S22.new (n := 14) (k := 32) (by decide) (by decide)).1
  have J := (S22.new (n := 14) (k := 32) (by decide) (by decide)).2
  have I23 := fun j => (J j).trans (I22 j)
  clear J
  generalize setR (mkO g22 100 14) m 32 (some (nx g22)) = g23 at *
  clear S22 I22
  refine wp_aload_n d_49_204 (by rfl) ?_
  refine wp_bipush d_49_205 (by decide) ?_
  refine wp_newa (K := 100) d_49_207 rfl (by decide) ca_100 rfl (by first | omega | decide) (by first | omega | decide) (by decide) (by have := S23.2.1; have := S23.2.2.2.1; omega) (by have := S23.2.2.1; have := S23.2.2.2.2.1; first | omega | (simp; omega)) ?_
  refine wp_putR (33) d_49_209 fl_1_82 rfl rfl (Or.inr ⟨by rfl, by rfl, by rfl⟩) (by have := S23.1; have := S23.2.1; first | assumption | (rw [kd_mkO, up1_ne _ _ (by omega)]; assumption) | (rw [kd_mkM, if_neg (by omega), if_neg (by omega)]; assumption)) ?_
  have S24 : MdS h (setR (mkO g23 100 14) m 33 (some (nx g23))) m 125 11922 [(33, 124, 14, 0), (32, 123, 14, 0), (31, 122, 14, 0), (30, 121, 14, 0), (29, 120, 14, 0), (28, 119, 14, 0), (27, 118, 14, 0), (19, 93, 24, 366), (18, 68, 24, 8), (17, 43, 24, 8), (16, 18, 24, 8), (15, 17, 24, 0), (14, 16, 24, 0), (13, 15, 24, 0), (11, 8, 6, 366), (10, 7, 6, 0), (9, 6, 6, 0), (8, 5, 6, 0), (6, 4, 20, 0), (5, 3, 20, 0), (4, 2, 20, 0), (2, 1, 16, 0)] := (S23.new (n := 14) (k := 33) (by decide) (by decide)).1
  have J := (S23.new (n := 14) (k := 33) (by decide) (by decide)).2
  have I24 := fun j => (J j).trans (I23 j)
  clear J
  generalize setR (mkO g23 100 14) m 33 (some (nx g23)) = g24 at *
  clear S23 I23
  refine wp_aload_n d_49_212 (by rfl) ?_
  refine wp_bipush d_49_213 (by decide) ?_
  refine wp_newa (K := 100) d_49_215 rfl (by decide) ca_100 rfl (by first | omega | decide) (by first | omega | decide) (by decide) (by have := S24.2.1; have := S24.2.2.2.1; omega) (by have := S24.2.2.1; have := S24.2.2.2.2.1; first | omega | (simp; omega)) ?_
  refine wp_putR (34) d_49_217 fl_1_85 rfl rfl (Or.inr ⟨by rfl, by rfl, by rfl⟩) (by have := S24.1; have := S24.2.1; first | assumption | (rw [kd_mkO, up1_ne _ _ (by omega)]; assumption) | (rw [kd_mkM, if_neg (by omega), if_neg (by omega)]; assumption)) ?_
  have S25 : MdS h (setR (mkO g24 100 14) m 34 (some (nx g24))) m 126 11936 [(34, 125, 14, 0), (33, 124, 14, 0), (32, 123, 14, 0), (31, 122, 14, 0), (30, 121, 14, 0), (29, 120, 14, 0), (28, 119, 14, 0), (27, 118, 14, 0), (19, 93, 24, 366), (18, 68, 24, 8), (17, 43, 24, 8), (16, 18, 24, 8), (15, 17, 24, 0), (14, 16, 24, 0), (13, 15, 24, 0), (11, 8, 6, 366), (10, 7, 6, 0), (9, 6, 6, 0), (8, 5, 6, 0), (6, 4, 20, 0), (5, 3, 20, 0), (4, 2, 20, 0), (2, 1, 16, 0)] := (S24.new (n := 14) (k := 34) (by decide) (by decide)).1
  have J := (S24.new (n := 14) (k := 34) (by decide) (by decide)).2
  have I25 := fun j => (J j).trans (I24 j)
  clear J
  generalize setR (mkO g24 100 14) m 34 (some (nx g24)) = g25 at *
  clear S24 I24
  refine wp_vret d_49_220 rfl ?_
  exact ⟨rfl, S25, I25⟩
