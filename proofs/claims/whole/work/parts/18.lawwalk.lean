/-! ===== the law over two addStop's and many latest's ===== -/
/-- the same heap but for whole numbers at P, and long numbers -/
def sk (P : Nat → Prop) (h h' : Hp) : Prop := kd h' = kd h ∧ ln h' = ln h ∧ hr h' = hr h ∧ nx h' = nx h ∧ us h' = us h ∧ cn h' = cn h ∧ cs h' = cs h ∧ ∀ a k, ¬ P a → hi h' a k = hi h a k
theorem sh.sk {P : Nat → Prop} {h h' : Hp} (e : sh P h h') : sk P h h' := by
  obtain ⟨e1, e2, e3, e4, e5, e6, e7, e8, e9⟩ := e
  exact ⟨e1, e2, e3, e5, e6, e7, e8, e9⟩
theorem sk.setL {P : Nat → Prop} {h h' : Hp} {a : Nat} {k v : Int} (e : sk P h h') : sk P h (setL h' a k v) := e
theorem Cs.keptK {P : Nat → Prop} {h h' : Hp} {w : Nat} (q : Cs h w) (e : sk P h h') : Cs h' w := by
  obtain ⟨e1, e2, e3, -⟩ := e
  unfold Cs
  rw [e1, e2, e3]
  exact q
theorem Cn.keptK {P : Nat → Prop} {h h' : Hp} {w : Nat} {n : Int} (q : Cn h w n) (e : sk P h h') (n1 : ¬ P (w + 1)) (n2 : ¬ P (w + 2)) : Cn h' w n := by
  have e9 := e.2.2.2.2.2.2.2
  unfold Cn
  rw [e9 _ _ n1, e9 _ _ n1, e9 _ _ n1]
  exact ⟨q.1, q.2.1, q.2.2.1, fun k => by rw [e9 _ _ n2]; exact q.2.2.2 k⟩
theorem Ms.keptK {P : Nat → Prop} {h h' : Hp} {m : Nat} {n : Int} (q : Ms h m n) (e : sk P h h') (n1 : ¬ P m) : Ms h' m n := by
  have e9 := e.2.2.2.2.2.2.2
  unfold Ms
  rw [e9 _ _ n1, e9 _ _ n1, e9 _ _ n1, e.1, e.2.1, e.2.2.1]
  exact q
theorem Cs.keptA {h h' : Hp} {w : Nat} (q : Cs h w) (e : ∀ b, w ≤ b → b < w + 47 → eqA h h' b) : Cs h' w := by
  have a0 := e w (by omega) (by omega)
  have a1 := e (w + 1) (by omega) (by omega)
  have a2 := e (w + 2) (by omega) (by omega)
  have a6 := e (w + 6) (by omega) (by omega)
  have a30 := e (w + 30) (by omega) (by omega)
  have a31 := e (w + 31) (by omega) (by omega)
  have a39 := e (w + 39) (by omega) (by omega)
  obtain ⟨k1, k2, k3, k4, ⟨k5, k6, k7, k8⟩, k9, ⟨l1, l2, l3, l4, l5, l6, l7⟩, rows⟩ := q
  refine ⟨a0.1.trans k1, (a0.2.2.2.1 _).trans k2, (a0.2.2.2.1 _).trans k3, (a0.2.2.2.1 _).trans k4, ⟨a1.1.trans k5, (a1.2.2.2.1 _).trans k6, a2.1.trans k7, a2.2.1.trans k8⟩, a6.1.trans k9, ⟨a30.1.trans l1, (a30.2.2.2.1 _).trans l2, (a30.2.2.2.1 _).trans l3, a31.1.trans l4, a31.2.1.trans l5, a39.1.trans l6, a39.2.1.trans l7⟩, fun j hj => ?_⟩
  obtain ⟨r1, r2, r3, r4, r5, r6⟩ := rows j hj
  have b1 := e (w + 32 + j) (by omega) (by omega)
  have b2 := e (w + 40 + j) (by omega) (by omega)
  exact ⟨(a31.2.2.2.1 _).trans r1, (a39.2.2.2.1 _).trans r2, b1.1.trans r3, b1.2.1.trans r4, b2.1.trans r5, b2.2.1.trans r6⟩
theorem Cn.keptA {h h' : Hp} {w : Nat} {n : Int} (q : Cn h w n) (e1 : eqA h h' (w + 1)) (e2 : eqA h h' (w + 2)) : Cn h' w n :=
  ⟨(e1.2.2.1 _).trans q.1, (e1.2.2.1 _).trans q.2.1, (e1.2.2.1 _).trans q.2.2.1, fun k => by rw [e2.2.2.1 k]; exact q.2.2.2 k⟩
/-- the script: two addStop(0), then latest(0, 1, 500000) -/
def Sc (h : Hp) (s : Nat) (K : Int) : Prop := kd h s = 200 ∧ ln h s = 5 * K ∧ (∀ q : Int, 0 ≤ q → q < 2 → hi h s (5 * q) = 0 ∧ hi h s (5 * q + 1) = 0) ∧ ∀ q : Int, 2 ≤ q → q < K → hi h s (5 * q) = 22 ∧ hi h s (5 * q + 1) = 0 ∧ hi h s (5 * q + 2) = 1 ∧ hi h s (5 * q + 3) = 500000
theorem Sc.kept {h h' : Hp} {s : Nat} {K : Int} (q : Sc h s K) (k1 : kd h' s = kd h s) (k2 : ln h' s = ln h s) (k3 : ∀ k, hi h' s k = hi h s k) : Sc h' s K :=
  ⟨k1.trans q.1, k2.trans q.2.1, fun j h0 h1 => ⟨(k3 _).trans (q.2.2.1 j h0 h1).1, (k3 _).trans (q.2.2.1 j h0 h1).2⟩, fun j h0 h1 => ⟨(k3 _).trans (q.2.2.2 j h0 h1).1, (k3 _).trans (q.2.2.2 j h0 h1).2.1, (k3 _).trans (q.2.2.2 j h0 h1).2.2.1, (k3 _).trans (q.2.2.2 j h0 h1).2.2.2⟩⟩
/-- how things stand between two calls: n stops told -/
def LawI (h : Hp) (w s : Nat) (n K : Int) : Prop := Cs h w ∧ Cn h w n ∧ Ms h (w + 154) n ∧ (kd h (w + 280) = 101 ∧ ln h (w + 280) = 1) ∧ w + 281 ≤ nx h ∧ s < w ∧ Sc h s K
theorem v22 : vand 22 63 = 22 := by decide +kernel
theorem v00 : vand 0 63 = 0 := by decide +kernel
set_option maxRecDepth 100000 in
set_option maxHeartbeats 4000000 in
theorem s_lawAdd {w o : Nat} {c n : Int} {h : Hp} (hs : Cs h w) (hc : Cn h w n) (hn : 0 ≤ n ∧ n < 16) (hx : 0 ≤ c ∧ c ≤ 30) (k1 : kd h o = 101) (l1 : ln h o = 1) : wp 181 0 (entL [vR (some w), vI c, vR (some o)] (mL 181)) [] h (fun v h' => v = some (vI 0) ∧ sk (fun a => a = w + 1 ∨ a = w + 2) h h' ∧ Cn h' w (n + 1) ∧ hl h' o 0 = n) noX := by
  refine wp_aload_n d_181_0 (by rfl) ?_
  refine wp_iconst d_181_1 ?_
  refine wp_aload_n d_181_2 (by rfl) ?_
  refine wp_iload_n d_181_3 (by rfl) ?_
  refine wp_callV d_181_4 c_181_7 rfl (by rfl) (by rfl) ⟨0, rfl, rfl, by decide⟩ (by first | exact hs.1 | (rw [q_4.1.1]; exact k1)) (by exact Nat.le_of_ble_eq_true rfl) (by exact Nat.le_of_ble_eq_true rfl) (s_addStop hs hc hn hx) (fun v_4 h_4 q_4 => ?_) (fun _ _ q => q.elim)
  obtain ⟨rfl, q_4⟩ := q_4
  refine wp_i2l d_181_7 (by first | omega | (rw [q_4.1.2.1, l1]; decide)) ?_
  refine wp_last d_181_8 (by first | exact hs.1 | (rw [q_4.1.1]; exact k1)) (by first | omega | (rw [q_4.1.2.1, l1]; decide)) (by first | omega | (rw [q_4.1.2.1, l1]; decide)) ?_
  refine wp_goto (tgt := 18) d_181_9 (by decide) ?_
  refine wp_iconst d_181_18 ?_
  refine wp_iret d_181_19 rfl ?_
  exact ⟨rfl, (q_4.1.sk (P := fun a => a = w + 1 ∨ a = w + 2)).setL, q_4.2, by rw [hl_setL, up2_same]⟩
set_option maxRecDepth 100000 in
set_option maxHeartbeats 4000000 in
theorem s_lawLat {w o : Nat} {f t a n : Int} {h : Hp} (hn : 0 ≤ n ∧ n ≤ 16) (hf : 0 ≤ f ∧ f < n) (ht : 0 ≤ t ∧ t < n) (hft : f ≠ t) (ha : 0 ≤ a ∧ a ≤ 500000) (hs : Cs h w) (hc : Cn h w n) (k1 : kd h o = 101) (l1 : ln h o = 1) : wp 201 0 (entL [vR (some w), vI f, vI t, vI a, vR (some o)] (mL 201)) [] h (fun v h' => v = some (vI 0) ∧ sk (fun a => a = w + 6 ∨ (w + 30 ≤ a ∧ a ≤ w + 46)) h h' ∧ hl h' o 0 = -1) noX := by
  refine wp_aload d_201_0 (by rfl) ?_
  refine wp_iconst d_201_2 ?_
  refine wp_aload_n d_201_3 (by rfl) ?_
  refine wp_iload_n d_201_4 (by rfl) ?_
  refine wp_iload_n d_201_5 (by rfl) ?_
  refine wp_iload_n d_201_6 (by rfl) ?_
  refine wp_callV d_201_7 c_201_81 rfl (by rfl) (by rfl) ⟨0, rfl, rfl, by decide⟩ (by first | exact hs.1 | (rw [q_7.1]; exact k1)) (by exact Nat.le_of_ble_eq_true rfl) (by exact Nat.le_of_ble_eq_true rfl) (s_latest hn hf ht hft ha hs hc) (fun v_7 h_7 q_7 => ?_) (fun _ _ q => q.elim)
  obtain ⟨rfl, q_7⟩ := q_7
  refine wp_i2l d_201_10 (by first | omega | (rw [q_7.2.1, l1]; decide)) ?_
  refine wp_last d_201_11 (by first | exact hs.1 | (rw [q_7.1]; exact k1)) (by first | omega | (rw [q_7.2.1, l1]; decide)) (by first | omega | (rw [q_7.2.1, l1]; decide)) ?_
  refine wp_goto (tgt := 23) d_201_12 (by decide) ?_
  refine wp_iconst d_201_23 ?_
  refine wp_iret d_201_24 rfl ?_
  exact ⟨rfl, (q_7.sk (P := fun a => a = w + 6 ∨ (w + 30 ≤ a ∧ a ≤ w + 46))).setL, by rw [hl_setL, up2_same]⟩
/-! ===== from the loop head on: the call at place q is latest ===== -/
set_option maxRecDepth 100000 in
set_option maxHeartbeats 4000000 in
theorem l_lawLat {s w : Nat} {K : Int} (hK : K ≤ 512) {Q : Option AV → Hp → Prop} {q : Int} {h : Hp} (hq0 : 2 ≤ q) (hq1 : q < K) (hI : LawI h w s 2 K) (r1 : nx h + 2776 ≤ cn h) (r2 : us h + 41293 ≤ cs h) (kk : ∀ h', LawI h' w s 2 K → nx h' = nx h + 2776 → us h' = us h + 41293 → cn h' = cn h → cs h' = cs h → wp 212 23 [some (vR (some s)), some (vR (some w)), some (vR (some (w + 154))), some (vR (some (w + 280))), some (vI (5 * (q + 1))), none, none, none, none] [] h' Q noX) : wp 212 23 [some (vR (some s)), some (vR (some w)), some (vR (some (w + 154))), some (vR (some (w + 280))), some (vI (5 * q)), none, none, none, none] [] h Q noX := by
  obtain ⟨hs, hc, hm, ⟨ko, lo⟩, hnx, hsw, sc⟩ := hI
  have ks := sc.1
  have ls := sc.2.1
  obtain ⟨x0, x1, x2, x3⟩ := sc.2.2.2 q hq0 hq1
  refine wp_iload d_212_23 (by rfl) ?_
  refine wp_aload_n d_212_25 (by rfl) ?_
  refine wp_alen d_212_26 (by omega) ?_
  refine wp_iconst d_212_27 ?_
  refine wp_isub d_212_28 ?_
  refine wp_icmp_gt (tgt := 2544) d_212_29 (by decide) (by first | omega | decide) (by first | omega | decide) (fun c_29 => ?_) (fun c_29 => ?_)
  · exact absurd c_29 (by omega)
  · refine wp_aload_n d_212_32 (by rfl) ?_
    refine wp_iload d_212_33 (by rfl) ?_
    refine wp_iald d_212_35 (Or.inr (by assumption)) (by first | omega | decide) (by first | omega | decide) (fun x_35 e_35 r_35 => ?_)
    refine wp_bipush d_212_36 (by decide) ?_
    refine wp_iand d_212_38 ?_
    rw [show x_35 = 22 from e_35.trans x0, v22]
    refine wp_table (off := 1748) (tgt := 1787) d_212_39 (by decide) (by decide) (by decide) (by rfl) (by decide) ?_
    refine wp_aload_n d_212_1787 (by rfl) ?_
    refine wp_aload_n d_212_1788 (by rfl) ?_
    refine wp_iload d_212_1789 (by rfl) ?_
    refine wp_iconst d_212_1791 ?_
    refine wp_iadd d_212_1792 ?_
    refine wp_iald d_212_1793 (Or.inr (by assumption)) (by first | omega | decide) (by first | omega | decide) (fun x_1793 e_1793 r_1793 => ?_)
    refine wp_aload_n d_212_1794 (by rfl) ?_
    refine wp_iload d_212_1795 (by rfl) ?_
    refine wp_iconst d_212_1797 ?_
    refine wp_iadd d_212_1798 ?_
    refine wp_iald d_212_1799 (Or.inr (by assumption)) (by first | omega | decide) (by first | omega | decide) (fun x_1799 e_1799 r_1799 => ?_)
    refine wp_aload_n d_212_1800 (by rfl) ?_
    refine wp_iload d_212_1801 (by rfl) ?_
    refine wp_iconst d_212_1803 ?_
    refine wp_iadd d_212_1804 ?_
    refine wp_iald d_212_1805 (Or.inr (by assumption)) (by first | omega | decide) (by first | omega | decide) (fun x_1805 e_1805 r_1805 => ?_)
    refine wp_aload_n d_212_1806 (by rfl) ?_
    refine wp_callSW d_212_1807 cw_212_198 (by rfl) (by rfl) (by exact Nat.le_of_ble_eq_true rfl) (by exact Nat.le_of_ble_eq_true rfl) (s_lawLat (f := x_1793) (t := x_1799) (a := x_1805) (n := 2) (by omega) (by omega) (by omega) (by omega) (by omega) hs hc ko lo) (fun v_1807 h_1807 q_1807 => ?_)
    obtain ⟨rfl, E1, z1⟩ := q_1807
    have hs1 : Cs h_1807 w := hs.keptK E1
    have hc1 : Cn h_1807 w 2 := hc.keptK E1 (by omega) (by omega)
    have hm1 : Ms h_1807 (w + 154) 2 := hm.keptK E1 (by omega)
    have sc1 : Sc h_1807 s K := sc.kept (by rw [E1.1]) (by rw [E1.2.1]) (fun k => E1.2.2.2.2.2.2.2 _ _ (by omega))
    have n1 : nx h_1807 = nx h := E1.2.2.2.1
    have u1 : us h_1807 = us h := E1.2.2.2.2.1
    have c1 : cn h_1807 = cn h := E1.2.2.2.2.2.1
    have d1 : cs h_1807 = cs h := E1.2.2.2.2.2.2.1
    have ko1 : kd h_1807 (w + 280) = 101 := by rw [E1.1]; exact ko
    have lo1 : ln h_1807 (w + 280) = 1 := by rw [E1.2.1]; exact lo
    have km1 := hm1.1
    have ks1 := sc1.1
    have ls1 := sc1.2.1
    obtain ⟨y0, y1, y2, y3⟩ := sc1.2.2.2 q hq0 hq1
    refine wp_istore d_212_1810 (by decide) ?_
    refine wp_aload_n d_212_1812 (by rfl) ?_
    refine wp_aload_n d_212_1813 (by rfl) ?_
    refine wp_iload d_212_1814 (by rfl) ?_
    refine wp_iconst d_212_1816 ?_
    refine wp_iadd d_212_1817 ?_
    refine wp_iald d_212_1818 (Or.inr (by assumption)) (by first | omega | decide) (by first | omega | decide) (fun x_1818 e_1818 r_1818 => ?_)
    refine wp_aload_n d_212_1819 (by rfl) ?_
    refine wp_iload d_212_1820 (by rfl) ?_
    refine wp_iconst d_212_1822 ?_
    refine wp_iadd d_212_1823 ?_
    refine wp_iald d_212_1824 (Or.inr (by assumption)) (by first | omega | decide) (by first | omega | decide) (fun x_1824 e_1824 r_1824 => ?_)
    refine wp_aload_n d_212_1825 (by rfl) ?_
    refine wp_iload d_212_1826 (by rfl) ?_
    refine wp_iconst d_212_1828 ?_
    refine wp_iadd d_212_1829 ?_
    refine wp_iald d_212_1830 (Or.inr (by assumption)) (by first | omega | decide) (by first | omega | decide) (fun x_1830 e_1830 r_1830 => ?_)
    refine wp_callV d_212_1831 c_212_200 rfl (by rfl) (by rfl) ⟨1, rfl, rfl, by decide⟩ (by first | assumption | (left; assumption)) (by exact Nat.le_of_ble_eq_true rfl) (by exact Nat.le_of_ble_eq_true rfl) (s_mlatest (T := 347) (f := x_1818) (t := x_1824) (a := x_1830) (n := 2) (by omega) (by omega) (by omega) (by omega) (by omega) (by omega) hm1 (by omega) (by omega) (by omega)) (fun v_1831 h_1831 q_1831 => ?_) (fun _ _ q => q.elim)
    obtain ⟨rfl, G⟩ := q_1831
    obtain ⟨g1, g2, g3, g4, g5⟩ := G
    rw [nx_setI] at g1 g5
    rw [us_setI] at g2
    rw [cn_setI] at g3
    rw [cs_setI] at g4
    have F : ∀ b, b < nx h_1807 → b ≠ w + 154 → eqA h_1807 h_1831 b := fun b hb hm => (eqA_setI hm).trans (g5 b hb)
    have em := g5 (w + 154) (by omega)
    have km2 : kd h_1831 (w + 154) = 2 := em.1.trans hm1.1
    have th : hi h_1831 (w + 154) 0 = 0 := (em.2.2.1 0).trans (by rw [hi_setI, up2_same])
    have eo := F (w + 280) (by omega) (by omega)
    have ko2 : kd h_1831 (w + 280) = 101 := eo.1.trans ko1
    have lo2 : ln h_1831 (w + 280) = 1 := eo.2.1.trans lo1
    have z2 : hl h_1831 (w + 280) 0 = -1 := (eo.2.2.2.2 0).trans z1
    have es := F s (by omega) (by omega)
    have INV : LawI h_1831 w s 2 K := ⟨hs1.keptA (fun b h0 h1 => F b (by omega) (by omega)), hc1.keptA (F _ (by omega) (by omega)) (F _ (by omega) (by omega)), by
      obtain ⟨q1, q2, q3, q4, q5, q6, q7⟩ := hm1
      have e1 := F (w + 154 + 1) (by omega) (by omega)
      exact ⟨km2, (em.2.2.2.1 _).trans q2, e1.1.trans q3, e1.2.1.trans q4, (em.2.2.1 _).trans ((by rw [hi_setI, up2_ne _ _ (by omega)] : hi (setI h_1807 (w + 154) 0 0) (w + 154) 1 = hi h_1807 (w + 154) 1).trans q5), (em.2.2.1 _).trans ((by rw [hi_setI, up2_ne _ _ (by omega)] : hi (setI h_1807 (w + 154) 0 0) (w + 154) 3 = hi h_1807 (w + 154) 3).trans q6), (em.2.2.1 _).trans ((by rw [hi_setI, up2_ne _ _ (by omega)] : hi (setI h_1807 (w + 154) 0 0) (w + 154) 12 = hi h_1807 (w + 154) 12).trans q7)⟩, ⟨ko2, lo2⟩, by omega, hsw, sc1.kept es.1 es.2.1 es.2.2.1⟩
    refine wp_istore d_212_1834 (by decide) ?_
    refine wp_aload_n d_212_1836 (by rfl) ?_
    refine wp_callV d_212_1837 c_212_126 rfl (by rfl) (by rfl) ⟨1, rfl, rfl, by decide⟩ (by first | assumption | (left; assumption)) (by exact Nat.le_of_ble_eq_true rfl) (by exact Nat.le_of_ble_eq_true rfl) (s_thrown km2) (fun v_1837 h_1837 q_1837 => ?_) (fun _ _ q => q.elim)
    obtain ⟨rfl, q_1837⟩ := q_1837
    replace q_1837 := q_1837.symm
    subst q_1837
    rw [th]
    refine wp_iload d_212_1840 (by rfl) ?_
    refine wp_icmp_eq (tgt := 1847) d_212_1842 (by decide) (by first | omega | decide) (by first | omega | decide) (fun c_1842 => ?_) (fun c_1842 => ?_)
    · refine wp_iload d_212_1847 (by rfl) ?_
      refine wp_if_ne (tgt := 1864) d_212_1849 (by decide) (by first | omega | decide) (fun c_1849 => ?_) (fun c_1849 => ?_)
      · refine wp_goto (tgt := 2538) d_212_1864 (by decide) ?_
        refine wp_iinc d_212_2538 (by rfl) (by decide) ?_
        refine wp_goto (tgt := 23) d_212_2541 (by decide) ?_
        refine wp_to [some (vR (some s)), some (vR (some w)), some (vR (some (w + 154))), some (vR (some (w + 280))), some (vI (5 * (q + 1))), none, none, none, none] ⟨rfl, rfl, rfl, rfl, congrArg (fun z => some (vI z)) (by omega), trivial⟩ ?_
        exact kk h_1831 INV (by omega) (by omega) (by omega) (by omega)
      · refine wp_aload_n d_212_1852 (by rfl) ?_
        refine wp_iconst d_212_1853 ?_
        refine wp_lald d_212_1854 (by first | assumption | (left; assumption)) (by first | omega | decide) (by first | omega | decide) ?_
        rw [z2]
        refine wp_iload d_212_1855 (by rfl) ?_
        refine wp_i2l d_212_1857 (by first | omega | decide) ?_
        refine wp_lcmp d_212_1858 (by first | omega | decide) (by first | omega | decide) ?_
        refine wp_if_eq (tgt := 1864) d_212_1859 (by decide) (by first | omega | decide) (fun c_1859 => ?_) (fun c_1859 => ?_)
        · refine wp_goto (tgt := 2538) d_212_1864 (by decide) ?_
          refine wp_iinc d_212_2538 (by rfl) (by decide) ?_
          refine wp_goto (tgt := 23) d_212_2541 (by decide) ?_
          refine wp_to [some (vR (some s)), some (vR (some w)), some (vR (some (w + 154))), some (vR (some (w + 280))), some (vI (5 * (q + 1))), none, none, none, none] ⟨rfl, rfl, rfl, rfl, congrArg (fun z => some (vI z)) (by omega), trivial⟩ ?_
          exact kk h_1831 INV (by omega) (by omega) (by omega) (by omega)
        · exact absurd c_1859 (by decide)
    · exact absurd c_1842 (by first | (intro z; exact z rfl) | decide | omega)
set_option maxRecDepth 100000 in
set_option maxHeartbeats 4000000 in
theorem l_lawAdd {s w : Nat} {K : Int} (hK : 2 ≤ K ∧ K ≤ 512) {Q : Option AV → Hp → Prop} {q : Int} {h : Hp} (hq0 : 0 ≤ q) (hq1 : q < 2) (hI : LawI h w s q K) (kk : ∀ h', LawI h' w s (q + 1) K → nx h' = nx h → us h' = us h → cn h' = cn h → cs h' = cs h → wp 212 23 [some (vR (some s)), some (vR (some w)), some (vR (some (w + 154))), some (vR (some (w + 280))), some (vI (5 * (q + 1))), none, none, none, none] [] h' Q noX) : wp 212 23 [some (vR (some s)), some (vR (some w)), some (vR (some (w + 154))), some (vR (some (w + 280))), some (vI (5 * q)), none, none, none, none] [] h Q noX := by
  obtain ⟨hs, hc, hm, ⟨ko, lo⟩, hnx, hsw, sc⟩ := hI
  have ks := sc.1
  have ls := sc.2.1
  obtain ⟨x0, x1⟩ := sc.2.2.1 q hq0 hq1
  refine wp_iload d_212_23 (by rfl) ?_
  refine wp_aload_n d_212_25 (by rfl) ?_
  refine wp_alen d_212_26 (by omega) ?_
  refine wp_iconst d_212_27 ?_
  refine wp_isub d_212_28 ?_
  refine wp_icmp_gt (tgt := 2544) d_212_29 (by decide) (by first | omega | decide) (by first | omega | decide) (fun c_29 => ?_) (fun c_29 => ?_)
  · exact absurd c_29 (by omega)
  · refine wp_aload_n d_212_32 (by rfl) ?_
    refine wp_iload d_212_33 (by rfl) ?_
    refine wp_iald d_212_35 (Or.inr (by assumption)) (by first | omega | decide) (by first | omega | decide) (fun x_35 e_35 r_35 => ?_)
    refine wp_bipush d_212_36 (by decide) ?_
    refine wp_iand d_212_38 ?_
    rw [show x_35 = 0 from e_35.trans x0, v00]
    refine wp_table (off := 157) (tgt := 196) d_212_39 (by decide) (by decide) (by decide) (by rfl) (by decide) ?_
    refine wp_aload_n d_212_196 (by rfl) ?_
    refine wp_aload_n d_212_197 (by rfl) ?_
    refine wp_iload d_212_198 (by rfl) ?_
    refine wp_iconst d_212_200 ?_
    refine wp_iadd d_212_201 ?_
    refine wp_iald d_212_202 (Or.inr (by assumption)) (by first | omega | decide) (by first | omega | decide) (fun x_202 e_202 r_202 => ?_)
    refine wp_aload_n d_212_203 (by rfl) ?_
    refine wp_callSW d_212_204 cw_212_120 (by rfl) (by rfl) (by exact Nat.le_of_ble_eq_true rfl) (by exact Nat.le_of_ble_eq_true rfl) (s_lawAdd (c := x_202) (n := q) hs hc (by omega) (by omega) ko lo) (fun v_204 h_204 q_204 => ?_)
    obtain ⟨rfl, E1, hc1, z1⟩ := q_204
    have hs1 : Cs h_204 w := hs.keptK E1
    have hm1 : Ms h_204 (w + 154) q := hm.keptK E1 (by omega)
    have sc1 : Sc h_204 s K := sc.kept (by rw [E1.1]) (by rw [E1.2.1]) (fun k => E1.2.2.2.2.2.2.2 _ _ (by omega))
    have n1 : nx h_204 = nx h := E1.2.2.2.1
    have u1 : us h_204 = us h := E1.2.2.2.2.1
    have c1 : cn h_204 = cn h := E1.2.2.2.2.2.1
    have d1 : cs h_204 = cs h := E1.2.2.2.2.2.2.1
    have ko1 : kd h_204 (w + 280) = 101 := by rw [E1.1]; exact ko
    have lo1 : ln h_204 (w + 280) = 1 := by rw [E1.2.1]; exact lo
    have km1 := hm1.1
    have ks1 := sc1.1
    have ls1 := sc1.2.1
    obtain ⟨y0, y1⟩ := sc1.2.2.1 q hq0 hq1
    refine wp_istore d_212_207 (by decide) ?_
    refine wp_aload_n d_212_209 (by rfl) ?_
    refine wp_aload_n d_212_210 (by rfl) ?_
    refine wp_iload d_212_211 (by rfl) ?_
    refine wp_iconst d_212_213 ?_
    refine wp_iadd d_212_214 ?_
    refine wp_iald d_212_215 (Or.inr (by assumption)) (by first | omega | decide) (by first | omega | decide) (fun x_215 e_215 r_215 => ?_)
    refine wp_callV d_212_216 c_212_125 rfl (by rfl) (by rfl) ⟨1, rfl, rfl, by decide⟩ (by first | assumption | (left; assumption)) (by exact Nat.le_of_ble_eq_true rfl) (by exact Nat.le_of_ble_eq_true rfl) (s_maddStop (c := x_215) (n := q) hm1 (by omega) (by omega)) (fun v_216 h_216 q_216 => ?_) (fun _ _ q => q.elim)
    obtain ⟨rfl, G, hm2, th⟩ := q_216
    have F : ∀ b, b ≠ w + 154 → b ≠ w + 155 → eqA h_204 h_216 b := fun b h0 h1 => G.eqA (by omega)
    obtain ⟨g1, g2, g3, g4, g5, g6, g7, g8, g9⟩ := G
    have km2 : kd h_216 (w + 154) = 2 := hm2.1
    have eo := F (w + 280) (by omega) (by omega)
    have ko2 : kd h_216 (w + 280) = 101 := eo.1.trans ko1
    have lo2 : ln h_216 (w + 280) = 1 := eo.2.1.trans lo1
    have z2 : hl h_216 (w + 280) 0 = q := (eo.2.2.2.2 0).trans z1
    have es := F s (by omega) (by omega)
    have INV : LawI h_216 w s (q + 1) K := ⟨hs1.keptA (fun b h0 h1 => F b (by omega) (by omega)), hc1.keptA (F _ (by omega) (by omega)) (F _ (by omega) (by omega)), hm2, ⟨ko2, lo2⟩, by omega, hsw, sc1.kept es.1 es.2.1 es.2.2.1⟩
    refine wp_istore d_212_219 (by decide) ?_
    refine wp_aload_n d_212_221 (by rfl) ?_
    refine wp_callV d_212_222 c_212_126 rfl (by rfl) (by rfl) ⟨1, rfl, rfl, by decide⟩ (by first | assumption | (left; assumption)) (by exact Nat.le_of_ble_eq_true rfl) (by exact Nat.le_of_ble_eq_true rfl) (s_thrown km2) (fun v_222 h_222 q_222 => ?_) (fun _ _ q => q.elim)
    obtain ⟨rfl, q_222⟩ := q_222
    replace q_222 := q_222.symm
    subst q_222
    rw [th]
    refine wp_iload d_212_225 (by rfl) ?_
    refine wp_icmp_eq (tgt := 232) d_212_227 (by decide) (by first | omega | decide) (by first | omega | decide) (fun c_227 => ?_) (fun c_227 => ?_)
    · refine wp_iload d_212_232 (by rfl) ?_
      refine wp_if_ne (tgt := 249) d_212_234 (by decide) (by first | omega | decide) (fun c_234 => ?_) (fun c_234 => ?_)
      · refine wp_goto (tgt := 2538) d_212_249 (by decide) ?_
        refine wp_iinc d_212_2538 (by rfl) (by decide) ?_
        refine wp_goto (tgt := 23) d_212_2541 (by decide) ?_
        refine wp_to [some (vR (some s)), some (vR (some w)), some (vR (some (w + 154))), some (vR (some (w + 280))), some (vI (5 * (q + 1))), none, none, none, none] ⟨rfl, rfl, rfl, rfl, congrArg (fun z => some (vI z)) (by omega), trivial⟩ ?_
        exact kk h_216 INV (by omega) (by omega) (by omega) (by omega)
      · refine wp_aload_n d_212_237 (by rfl) ?_
        refine wp_iconst d_212_238 ?_
        refine wp_lald d_212_239 (by first | assumption | (left; assumption)) (by first | omega | decide) (by first | omega | decide) ?_
        rw [z2]
        refine wp_iload d_212_240 (by rfl) ?_
        refine wp_i2l d_212_242 (by first | omega | decide) ?_
        refine wp_lcmp d_212_243 (by first | omega | decide) (by first | omega | decide) ?_
        rw [if_neg (by omega), if_pos rfl]
        refine wp_if_eq (tgt := 249) d_212_244 (by decide) (by first | omega | decide) (fun c_244 => ?_) (fun c_244 => ?_)
        · refine wp_goto (tgt := 2538) d_212_249 (by decide) ?_
          refine wp_iinc d_212_2538 (by rfl) (by decide) ?_
          refine wp_goto (tgt := 23) d_212_2541 (by decide) ?_
          refine wp_to [some (vR (some s)), some (vR (some w)), some (vR (some (w + 154))), some (vR (some (w + 280))), some (vI (5 * (q + 1))), none, none, none, none] ⟨rfl, rfl, rfl, rfl, congrArg (fun z => some (vI z)) (by omega), trivial⟩ ?_
          exact kk h_216 INV (by omega) (by omega) (by omega) (by omega)
        · exact absurd c_244 (by decide)
    · exact absurd c_227 (by first | (intro z; exact z rfl) | decide | omega)
set_option maxRecDepth 100000 in
set_option maxHeartbeats 4000000 in
theorem l_lawAll {s w : Nat} {K : Int} (hK : 2 ≤ K ∧ K ≤ 512) {Q : Option AV → Hp → Prop} : ∀ (r : Nat) (q : Int) (h : Hp), q + r = K → 2 ≤ q → LawI h w s 2 K → nx h + 2776 * r ≤ cn h → us h + 41293 * r ≤ cs h → (∀ h', nx h' = nx h + 2776 * r → us h' = us h + 41293 * r → Q (some (vI 1)) h') → wp 212 23 [some (vR (some s)), some (vR (some w)), some (vR (some (w + 154))), some (vR (some (w + 280))), some (vI (5 * q)), none, none, none, none] [] h Q noX := by
  intro r
  induction r with
  | zero =>
    intro q h e0 e1 hI r1 r2 k
    have ls := hI.2.2.2.2.2.2.2.1
    refine wp_iload d_212_23 (by rfl) ?_
    refine wp_aload_n d_212_25 (by rfl) ?_
    refine wp_alen d_212_26 (by have := hI.2.2.2.2.2.2.1; omega) ?_
    refine wp_iconst d_212_27 ?_
    refine wp_isub d_212_28 ?_
    refine wp_icmp_gt (tgt := 2544) d_212_29 (by decide) (by first | omega | decide) (by first | omega | decide) (fun c_29 => ?_) (fun c_29 => ?_)
    · refine wp_iconst d_212_2544 ?_
      refine wp_zret d_212_2545 rfl (by omega) ?_
      exact k h rfl rfl
    · exact absurd c_29 (by omega)
  | succ r ih =>
    intro q h e0 e1 hI r1 r2 k
    refine l_lawLat (by omega) e1 (by omega) hI (by omega) (by omega) (fun h' I1 a1 a2 a3 a4 => ?_)
    exact ih (q + 1) h' (by omega) (by omega) I1 (by omega) (by omega) (fun h2 b1 b2 => k h2 (by omega) (by omega))
theorem Cs_of {h : Hp} {w : Nat} (q : WsN h w) : Cs h w ∧ Cn h w 0 := by
  obtain ⟨k1, ⟨k2, k3, k4, k5, k6, k7, k8⟩, N, Ru, B, O, Ba, F, J⟩ := q
  obtain ⟨n1, n2, n3, n4, n5, ⟨n6, n7, n8, n9⟩, n10, n11, n12, n13⟩ := N
  obtain ⟨b1, b2, b3, b4, b5, ⟨m1, m2, m3, m4⟩, ⟨p1, p2, p3, p4⟩⟩ := Ba
  refine ⟨⟨k1, k2, k3, k6, ⟨n1, n2, n10.1, n10.2.1⟩, Ru.1, ⟨b1, b2, b3, m1, m2, p1, p2⟩, fun j hj => ?_⟩, n6, n7, n9, fun k => ?_⟩
  · have e1 := m3 j (by omega) (by omega)
    have e2 := p3 j (by omega) (by omega)
    have f1 := m4 j (by omega)
    have f2 := p4 j (by omega)
    refine ⟨e1.trans (congrArg some (by omega)), e2.trans (congrArg some (by omega)), ?_, ?_, ?_, ?_⟩
    · rw [show w + 32 + j = w + 30 + 1 + 1 + j by omega]
      exact f1.1
    · rw [show w + 32 + j = w + 30 + 1 + 1 + j by omega]
      exact f1.2.1
    · rw [show w + 40 + j = w + 30 + 9 + 1 + j by omega]
      exact f2.1
    · rw [show w + 40 + j = w + 30 + 9 + 1 + j by omega]
      exact f2.2.1
  · have e := n10.2.2 k
    rw [show w + 2 = w + 1 + 1 by omega, e]
    decide
theorem Ms_of {h0 h : Hp} {m : Nat} (q : MdS h0 h m 126 11936 mdL) (i : ∀ j, hi h m j = if j = 23 then -1 else if j = 20 then -1 else 0) : Ms h m 0 := by
  obtain ⟨q1, q2, q3, q4, q5, q6, q7⟩ := q
  obtain ⟨a1, a2, a3⟩ := q6 (2, 1, 16, 0) (by decide)
  rcases a3 with ⟨b1, b2, b3⟩ | ⟨b1, b2, b4, b3⟩
  · exact ⟨q1, a1, b3.1, b3.2.1, (i 1).trans (by decide), (i 3).trans (by decide), (i 12).trans (by decide)⟩
  · exact absurd rfl b1
set_option maxRecDepth 100000 in
set_option maxHeartbeats 4000000 in
theorem s_law {s w : Nat} {r : Nat} {K : Int} {h : Hp} (hK : (r : Int) + 2 = K ∧ K ≤ 512) (hw : nx h = w) (hsw : s < w) (sc : Sc h s K) (r1 : nx h + 281 + 2776 * r ≤ cn h) (r2 : us h + 15745 + 41293 * r ≤ cs h) : wp 212 0 (entL [vR (some s)] (mL 212)) [] h (fun v h' => v = some (vI 1) ∧ nx h' = nx h + 281 + 2776 * r ∧ us h' = us h + 15745 + 41293 * r) noX := by
  refine wp_new (ci := 0) d_212_0 cl_13_8 ci0 ⟨_, rfl⟩ (by decide) (by omega) (by omega) ?_
  rw [hw]
  refine wp_dup d_212_3 (by rfl) ?_
  refine wp_callI d_212_4 c_212_116 rfl rfl (by rfl) (by rfl) (by exact Nat.le_of_ble_eq_true rfl) (by exact Nat.le_of_ble_eq_true rfl) (s_WhistleStop (w := w) (by rw [kd_mkO, ← hw, up1_same]) (by rw [nx_mkO, hw]) (by rw [nx_mkO, cn_mkO]; omega) (by simp only [us_mkO, cs_mkO]; simp; omega)) (fun v_4 h_4 q_4 => ?_) (fun _ _ q => q.elim)
  obtain ⟨rfl, W1, n1, u1, c1, d1, f1⟩ := q_4
  have u2 : us h_4 = us h + 3769 := by rw [u1, us_mkO]; simp
  have c2 : cn h_4 = cn h := c1
  have d2 : cs h_4 = cs h := d1
  have es : eqA h h_4 s := (eqA_mkO (by omega)).trans (f1 s hsw)
  refine wp_astore_n d_212_7 (by decide) ?_
  refine wp_new (ci := 1) d_212_8 cl_13_117 ci1 ⟨_, rfl⟩ (by decide) (by omega) (by omega) ?_
  rw [n1]
  refine wp_dup d_212_11 (by rfl) ?_
  refine wp_callI d_212_12 c_212_119 rfl rfl (by rfl) (by rfl) (by exact Nat.le_of_ble_eq_true rfl) (by exact Nat.le_of_ble_eq_true rfl) (s_Model (m := w + 154) (by rw [kd_mkO, ← n1, up1_same]) (by rw [nx_mkO, n1]) (by rw [nx_mkO, cn_mkO]; omega) (by simp only [us_mkO, cs_mkO]; simp; omega)) (fun v_12 h_12 q_12 => ?_) (fun _ _ q => q.elim)
  obtain ⟨rfl, M1, I1⟩ := q_12
  have M0 := M1
  obtain ⟨m1, m2, m3, m4, m5, m6, m7⟩ := M1
  have u3 : us h_12 = us h + 15744 := by rw [m3, us_mkO, u2]; simp
  have c3 : cn h_12 = cn h := m4.trans c2
  have d3 : cs h_12 = cs h := m5.trans d2
  have n3 : nx h_12 = w + 280 := by omega
  have F3 : ∀ b, b < w + 154 → eqA h_4 h_12 b := fun b hb => (eqA_mkO (by omega)).trans (m7 b hb)
  have mi : Ms h_12 (w + 154) 0 := Ms_of M0 (fun j => by rw [I1 j, hi_mkO, ← n1, up1_same])
  refine wp_astore_n d_212_15 (by decide) ?_
  refine wp_iconst d_212_16 ?_
  refine wp_newa (K := 101) d_212_17 rfl (by decide) ca_101 rfl (by first | omega | decide) (by first | omega | decide) (by decide) (by omega) (by simp; omega) ?_
  refine wp_astore_n d_212_19 (by decide) ?_
  refine wp_iconst d_212_20 ?_
  refine wp_istore d_212_21 (by decide) ?_
  refine wp_to [some (vR (some s)), some (vR (some w)), some (vR (some (w + 154))), some (vR (some (w + 280))), some (vI (5 * 0)), none, none, none, none] ⟨rfl, rfl, rfl, congrArg (fun z => some (vR (some z))) n3, rfl, trivial⟩ ?_
  have F4 : ∀ b, b < w + 280 → eqA h_12 (mkO h_12 101 1) b := fun b hb => eqA_mkO (by omega)
  have cs4 := Cs_of W1
  have F5 : ∀ b, b < w + 154 → eqA h_4 (mkO h_12 101 1) b := fun b hb => (F3 b hb).trans (F4 b (by omega))
  have es4 := es.trans (F5 s (by omega))
  have I0 : LawI (mkO h_12 101 1) w s 0 K := ⟨cs4.1.keptA (fun b h0 h1 => F5 b (by omega)), cs4.2.keptA (F5 _ (by omega)) (F5 _ (by omega)), mi.kept (F4 _ (by omega)) (F4 _ (by omega)), ⟨by rw [kd_mkO, ← n3, up1_same], by rw [ln_mkO, ← n3, up1_same]⟩, by rw [nx_mkO, n3]; omega, hsw, sc.kept es4.1 es4.2.1 es4.2.2.1⟩
  have N4 : nx (mkO h_12 101 1) = nx h + 281 := by rw [nx_mkO, n3]; omega
  have U4 : us (mkO h_12 101 1) = us h + 15745 := by rw [us_mkO, u3]; rfl
  have C4 : cn (mkO h_12 101 1) = cn h := c3
  have D4 : cs (mkO h_12 101 1) = cs h := d3
  generalize mkO h_12 101 1 = g at *
  refine l_lawAdd (by omega) (q := 0) (by omega) (by omega) I0 (fun g1 J1 a1 a2 a3 a4 => ?_)
  refine l_lawAdd (by omega) (q := 0 + 1) (by omega) (by omega) J1 (fun g2 J2 b1 b2 b3 b4 => ?_)
  exact l_lawAll (by omega) r (0 + 1 + 1) g2 (by omega) (by omega) J2 (by omega) (by omega) (fun h' e1 e2 => ⟨rfl, by omega, by omega⟩)
