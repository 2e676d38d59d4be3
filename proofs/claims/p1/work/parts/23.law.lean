/-! ===== the law, from its entry ===== -/
set_option maxRecDepth 100000 in
set_option maxHeartbeats 4000000 in
theorem l_loop {g : Hp} {s w : Nat} {L : Int} (G : LG g s w L) (hL : 0 ≤ L ∧ L ≤ 5) : wp 212 23 [some (vR (some s)), some (vR (some w)), some (vR (some (w + 154))), some (vR (some (w + 280))), some (vI 0), none, none, none, none] [] g QL noX := by
  by_cases h5 : L = 5
  · have g0 := G.1
    have g00 := G.2.1
    refine wp_iload d_212_23 (by rfl) ?_
    refine wp_aload_n d_212_25 (by rfl) ?_
    refine wp_alen d_212_26 (by omega) ?_
    refine wp_iconst d_212_27 ?_
    refine wp_isub d_212_28 ?_
    refine wp_icmp_gt (tgt := 2544) d_212_29 (by decide) (by omega) (by omega) (fun c_29 => ?_) (fun c_29 => ?_)
    · exact absurd c_29 (by omega)
    refine wp_aload_n d_212_32 (by rfl) ?_
    refine wp_iload d_212_33 (by rfl) ?_
    refine wp_iald d_212_35 (Or.inr G.1) (by omega) (by omega) (fun x_35 e_35 r_35 => ?_)
    refine wp_bipush d_212_36 (by decide) ?_
    refine wp_iand d_212_38 ?_
    have hv := vand63 x_35
    have hcs : vand x_35 63 = 0 ∨ vand x_35 63 = 1 ∨ vand x_35 63 = 2 ∨ vand x_35 63 = 3 ∨ vand x_35 63 = 4 ∨ vand x_35 63 = 5 ∨ vand x_35 63 = 6 ∨ vand x_35 63 = 7 ∨ vand x_35 63 = 8 ∨ vand x_35 63 = 9 ∨ vand x_35 63 = 10 ∨ vand x_35 63 = 11 ∨ vand x_35 63 = 12 ∨ vand x_35 63 = 13 ∨ vand x_35 63 = 14 ∨ vand x_35 63 = 15 ∨ vand x_35 63 = 16 ∨ vand x_35 63 = 17 ∨ vand x_35 63 = 18 ∨ vand x_35 63 = 19 ∨ vand x_35 63 = 20 ∨ vand x_35 63 = 21 ∨ vand x_35 63 = 22 ∨ vand x_35 63 = 23 ∨ vand x_35 63 = 24 ∨ vand x_35 63 = 25 ∨ vand x_35 63 = 26 ∨ vand x_35 63 = 27 ∨ vand x_35 63 = 28 ∨ vand x_35 63 = 29 ∨ vand x_35 63 = 30 ∨ vand x_35 63 = 31 ∨ vand x_35 63 = 32 ∨ vand x_35 63 = 33 ∨ vand x_35 63 = 34 ∨ vand x_35 63 = 35 ∨ 35 < vand x_35 63 := by omega
    rcases hcs with z | z | z | z | z | z | z | z | z | z | z | z | z | z | z | z | z | z | z | z | z | z | z | z | z | z | z | z | z | z | z | z | z | z | z | z | z
    · rw [z]
      refine wp_table (off := 157) (tgt := 196) d_212_39 (by decide) (by decide) (by decide) (by rfl) (by decide) ?_
      by_cases hx : 0 ≤ hi g s (0 + 1) ∧ hi g s (0 + 1) ≤ 30
      · exact lc_0a G h5 hx
      · exact lc_0b G h5 hx
    · rw [z]
      refine wp_table (off := 213) (tgt := 252) d_212_39 (by decide) (by decide) (by decide) (by rfl) (by decide) ?_
      exact lc_1 G h5
    · rw [z]
      refine wp_table (off := 281) (tgt := 320) d_212_39 (by decide) (by decide) (by decide) (by rfl) (by decide) ?_
      exact lc_2 G h5
    · rw [z]
      refine wp_table (off := 361) (tgt := 400) d_212_39 (by decide) (by decide) (by decide) (by rfl) (by decide) ?_
      by_cases ha : 0 ≤ hi g s (0 + 1) ∧ hi g s (0 + 1) ≤ 127
      · by_cases hb : 0 ≤ hi g s (0 + 2) ∧ hi g s (0 + 2) ≤ 365
        · by_cases hc : 0 ≤ hi g s (0 + 3) ∧ hi g s (0 + 3) ≤ 365
          · by_cases hd : hi g s (0 + 2) ≤ hi g s (0 + 3)
            · exact lc_3e G h5 ha hb hc hd
            · exact lc_3d G h5 ha hb hc hd
          · exact lc_3c G h5 ha hb hc
        · exact lc_3b G h5 ha hb
      · exact lc_3a G h5 ha
    · rw [z]
      refine wp_table (off := 441) (tgt := 480) d_212_39 (by decide) (by decide) (by decide) (by rfl) (by decide) ?_
      exact lc_4 G h5
    · rw [z]
      refine wp_table (off := 544) (tgt := 583) d_212_39 (by decide) (by decide) (by decide) (by rfl) (by decide) ?_
      exact lc_5 G h5
    · rw [z]
      refine wp_table (off := 619) (tgt := 658) d_212_39 (by decide) (by decide) (by decide) (by rfl) (by decide) ?_
      exact lc_6 G h5
    · rw [z]
      refine wp_table (off := 711) (tgt := 750) d_212_39 (by decide) (by decide) (by decide) (by rfl) (by decide) ?_
      exact lc_7 G h5
    · rw [z]
      refine wp_table (off := 803) (tgt := 842) d_212_39 (by decide) (by decide) (by decide) (by rfl) (by decide) ?_
      exact lc_8 G h5
    · rw [z]
      refine wp_table (off := 816) (tgt := 855) d_212_39 (by decide) (by decide) (by decide) (by rfl) (by decide) ?_
      exact lc_9 G h5
    · rw [z]
      refine wp_table (off := 829) (tgt := 868) d_212_39 (by decide) (by decide) (by decide) (by rfl) (by decide) ?_
      exact lc_10 G h5
    · rw [z]
      refine wp_table (off := 885) (tgt := 924) d_212_39 (by decide) (by decide) (by decide) (by rfl) (by decide) ?_
      exact lc_11 G h5
    · rw [z]
      refine wp_table (off := 953) (tgt := 992) d_212_39 (by decide) (by decide) (by decide) (by rfl) (by decide) ?_
      exact lc_12 G h5
    · rw [z]
      refine wp_table (off := 1033) (tgt := 1072) d_212_39 (by decide) (by decide) (by decide) (by rfl) (by decide) ?_
      exact lc_13 G h5
    · rw [z]
      refine wp_table (off := 1108) (tgt := 1147) d_212_39 (by decide) (by decide) (by decide) (by rfl) (by decide) ?_
      exact lc_14 G h5
    · rw [z]
      refine wp_table (off := 1176) (tgt := 1215) d_212_39 (by decide) (by decide) (by decide) (by rfl) (by decide) ?_
      exact lc_15 G h5
    · rw [z]
      refine wp_table (off := 1244) (tgt := 1283) d_212_39 (by decide) (by decide) (by decide) (by rfl) (by decide) ?_
      exact lc_16 G h5
    · rw [z]
      refine wp_table (off := 1324) (tgt := 1363) d_212_39 (by decide) (by decide) (by decide) (by rfl) (by decide) ?_
      exact lc_17 G h5
    · rw [z]
      refine wp_table (off := 1404) (tgt := 1443) d_212_39 (by decide) (by decide) (by decide) (by rfl) (by decide) ?_
      exact lc_18 G h5
    · rw [z]
      refine wp_table (off := 1484) (tgt := 1523) d_212_39 (by decide) (by decide) (by decide) (by rfl) (by decide) ?_
      exact lc_19 G h5
    · rw [z]
      refine wp_table (off := 1576) (tgt := 1615) d_212_39 (by decide) (by decide) (by decide) (by rfl) (by decide) ?_
      exact lc_20 G h5
    · rw [z]
      refine wp_table (off := 1656) (tgt := 1695) d_212_39 (by decide) (by decide) (by decide) (by rfl) (by decide) ?_
      exact lc_21 G h5
    · rw [z]
      refine wp_table (off := 1748) (tgt := 1787) d_212_39 (by decide) (by decide) (by decide) (by rfl) (by decide) ?_
      exact lc_22 G h5
    · rw [z]
      refine wp_table (off := 1828) (tgt := 1867) d_212_39 (by decide) (by decide) (by decide) (by rfl) (by decide) ?_
      exact lc_23 G h5
    · rw [z]
      refine wp_table (off := 1908) (tgt := 1947) d_212_39 (by decide) (by decide) (by decide) (by rfl) (by decide) ?_
      exact lc_24 G h5
    · rw [z]
      refine wp_table (off := 1988) (tgt := 2027) d_212_39 (by decide) (by decide) (by decide) (by rfl) (by decide) ?_
      exact lc_25 G h5
    · rw [z]
      refine wp_table (off := 2001) (tgt := 2040) d_212_39 (by decide) (by decide) (by decide) (by rfl) (by decide) ?_
      exact lc_26 G h5
    · rw [z]
      refine wp_table (off := 2057) (tgt := 2096) d_212_39 (by decide) (by decide) (by decide) (by rfl) (by decide) ?_
      exact lc_27 G h5
    · rw [z]
      refine wp_table (off := 2113) (tgt := 2152) d_212_39 (by decide) (by decide) (by decide) (by rfl) (by decide) ?_
      exact lc_28 G h5
    · rw [z]
      refine wp_table (off := 2169) (tgt := 2208) d_212_39 (by decide) (by decide) (by decide) (by rfl) (by decide) ?_
      exact lc_29 G h5
    · rw [z]
      refine wp_table (off := 2225) (tgt := 2264) d_212_39 (by decide) (by decide) (by decide) (by rfl) (by decide) ?_
      exact lc_30 G h5
    · rw [z]
      refine wp_table (off := 2269) (tgt := 2308) d_212_39 (by decide) (by decide) (by decide) (by rfl) (by decide) ?_
      exact lc_31 G h5
    · rw [z]
      refine wp_table (off := 2313) (tgt := 2352) d_212_39 (by decide) (by decide) (by decide) (by rfl) (by decide) ?_
      exact lc_32 G h5
    · rw [z]
      refine wp_table (off := 2364) (tgt := 2403) d_212_39 (by decide) (by decide) (by decide) (by rfl) (by decide) ?_
      exact lc_33 G h5
    · rw [z]
      refine wp_table (off := 2444) (tgt := 2483) d_212_39 (by decide) (by decide) (by decide) (by rfl) (by decide) ?_
      exact lc_34 G h5
    · rw [z]
      refine wp_table (off := 2485) (tgt := 2524) d_212_39 (by decide) (by decide) (by decide) (by rfl) (by decide) ?_
      exact lc_35 G h5
    · refine wp_tableOut (tgt := 2538) d_212_39 ⟨by omega, by omega⟩ (Or.inr z) (by decide) ?_
      refine wp_to [some (vR (some s)), none, none, none, some (vI 0), none, none, none, none] ⟨rfl, rfl, trivial⟩ ?_
      exact l_next G.1 G.2.1 hL
  · have g0 := G.1
    refine wp_to [some (vR (some s)), none, none, none, some (vI 0), none, none, none, none] ⟨rfl, rfl, trivial⟩ ?_
    exact l_end G.1 G.2.1 hL (by decide) (by omega)
set_option maxRecDepth 100000 in
set_option maxHeartbeats 4000000 in
theorem s_law {s w : Nat} {L : Int} {h : Hp} (ks : kd h s = 200) (ls : ln h s = L) (hL : 0 ≤ L ∧ L ≤ 5) (hw : nx h = w) (hsw : s < w) (r1 : nx h + 400 ≤ cn h) (r2 : us h + 20000 ≤ cs h) : wp 212 0 (entL [vR (some s)] (mL 212)) [] h QL noX := by
  refine wp_new (ci := 0) d_212_0 cl_13_8 ci0 ⟨_, rfl⟩ (by decide) (by omega) (by omega) ?_
  rw [hw]
  refine wp_dup d_212_3 (by rfl) ?_
  refine wp_callI d_212_4 c_212_116 rfl rfl (by rfl) (by rfl) (by exact Nat.le_of_ble_eq_true rfl) (by exact Nat.le_of_ble_eq_true rfl) (s_WhistleStop (w := w) (by rw [kd_mkO, ← hw, up1_same]) (by rw [nx_mkO, hw]) (by rw [nx_mkO, cn_mkO]; omega) (by simp only [us_mkO, cs_mkO]; simp; omega)) (fun v_4 h_4 q_4 => ?_) (fun _ _ q => q.elim)
  obtain ⟨rfl, W1, n1, u1, c1, d1, f1⟩ := q_4
  have u2 : us h_4 = us h + 3769 := by rw [u1, us_mkO]; simp
  have c2 : cn h_4 = cn h := c1.trans (cn_mkO _ _ _)
  have d2 : cs h_4 = cs h := d1.trans (cs_mkO _ _ _)
  have e1 : eqA h h_4 s := (eqA_mkO (by omega)).trans (f1 s hsw)
  refine wp_astore_n d_212_7 (by decide) ?_
  refine wp_new (ci := 1) d_212_8 cl_13_117 ci1 ⟨_, rfl⟩ (by decide) (by omega) (by omega) ?_
  rw [n1]
  refine wp_dup d_212_11 (by rfl) ?_
  refine wp_callI d_212_12 c_212_119 rfl rfl (by rfl) (by rfl) (by exact Nat.le_of_ble_eq_true rfl) (by exact Nat.le_of_ble_eq_true rfl) (s_Model (m := w + 154) (by rw [kd_mkO, ← n1, up1_same]) (by rw [nx_mkO, n1]) (by rw [nx_mkO, cn_mkO]; omega) (by simp only [us_mkO, cs_mkO]; simp; omega)) (fun v_12 h_12 q_12 => ?_) (fun _ _ q => q.elim)
  obtain ⟨rfl, ⟨s1, s2, s3, s4, s5, s6, s7⟩, z1⟩ := q_12
  have s2' : nx h_12 = w + 280 := by rw [s2]
  have us2 : us h_12 ≤ us h + 16000 := by rw [s3, us_mkO]; simp; omega
  have cn2 : cn h_12 = cn h := by rw [s4, cn_mkO]; exact c2
  have cs2 : cs h_12 = cs h := by rw [s5, cs_mkO]; exact d2
  have e2 : ∀ b, b < w + 154 → eqA h_4 h_12 b := fun b hb => (eqA_mkO (by omega)).trans (s7 b (by omega))
  refine wp_astore_n d_212_15 (by decide) ?_
  refine wp_iconst d_212_16 ?_
  refine wp_newa (K := 101) d_212_17 rfl (by decide) ca_101 rfl (by omega) (by omega) (by decide) (by omega) (by omega) ?_
  rw [s2]
  refine wp_astore_n d_212_19 (by decide) ?_
  refine wp_iconst d_212_20 ?_
  refine wp_istore d_212_21 (by decide) ?_
  refine wp_to [some (vR (some s)), some (vR (some w)), some (vR (some (w + 154))), some (vR (some (w + 280))), some (vI 0), none, none, none, none] ⟨rfl, rfl, rfl, rfl, rfl, trivial⟩ ?_
  have eG : ∀ b, b < w + 280 → eqA h_12 (mkO h_12 101 1) b := fun b hb => eqA_mkO (by omega)
  have hz0 : ∀ j, hi (mkO h_4 2 39) (w + 154) j = 0 := fun j => by rw [hi_mkO, ← n1, up1_same]
  have ar : ∀ (k : Int) (o : Nat) (n : Int), ((k, o, n, 0) : Int × Nat × Int × Int) ∈ mdL → hr h_12 (w + 154) k = some (w + 154 + o) ∧ kd h_12 (w + 154 + o) = 100 ∧ ln h_12 (w + 154 + o) = n := by
    intro k o n hm
    obtain ⟨a1, -, ⟨-, -, a2⟩ | ⟨a2, -⟩⟩ := s6 _ hm
    · exact ⟨a1, a2.1, a2.2.1⟩
    · exact absurd rfl a2
  have mf : MF h_12 (w + 154) := ⟨s1, ⟨by rw [z1, if_neg (by decide), if_neg (by decide)]; exact hz0 1, by rw [z1, if_neg (by decide), if_neg (by decide)]; exact hz0 7, by rw [z1, if_neg (by decide), if_neg (by decide)]; exact hz0 12, by rw [z1, if_pos rfl]⟩, ar 2 1 16 (by decide), ar 8 5 6 (by decide), ar 9 6 6 (by decide), ar 10 7 6 (by decide)⟩
  refine l_loop (L := L) ⟨?_, ?_, hsw, ?_, ?_, ⟨?_, ?_⟩, ?_, ?_, ?_⟩ hL
  · exact (eG s (by omega)).1.trans ((e2 s (by omega)).1.trans (e1.1.trans ks))
  · exact (eG s (by omega)).2.1.trans ((e2 s (by omega)).2.1.trans (e1.2.1.trans ls))
  · exact (Fr.of W1).kept (fun b h1 h2 => (e2 b (by omega)).trans (eG b (by omega)))
  · exact mf.kept (fun b h1 h2 => eG b (by omega))
  · rw [kd_mkO, ← s2', up1_same]
  · rw [ln_mkO, ← s2', up1_same]
  · rw [nx_mkO, s2']
  · rw [nx_mkO, s2', cn_mkO]; omega
  · rw [us_mkO, cs_mkO]; simp; omega
