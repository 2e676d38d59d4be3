/-! ===== the least price: rounds ===== -/
/-- the rows change places -/
theorem FaS.turn {h : Hp} {w X g A B : Nat} (F : FaS h w X g A B) : FaS (setR (setR h (w + 47) 0 (some (w + 49 - g))) (w + 47) 1 (some (w + 48 + g))) w X (1 - g) A B ∧ (∀ j, j < 32 → OfE h (setR (setR h (w + 47) 0 (some (w + 49 - g))) (w + 47) 1 (some (w + 48 + g))) (ofK w j)) ∧ fm (PFa w X) (PFa w X) h (setR (setR h (w + 47) 0 (some (w + 49 - g))) (w + 47) 1 (some (w + 48 + g))) := by
  have F0 := F
  obtain ⟨⟨f1, f2, f3, f4⟩, ⟨⟨f5, f6⟩, f7, f8⟩, f9, f10, f11, f12, f14, f15⟩ := F
  generalize hg : setR (setR h (w + 47) 0 (some (w + 49 - g))) (w + 47) 1 (some (w + 48 + g)) = h'
  have ekd : kd h' = kd h := by rw [← hg]; rfl
  have eln : ln h' = ln h := by rw [← hg]; rfl
  have ehi : hi h' = hi h := by rw [← hg]; rfl
  have enx : nx h' = nx h := by rw [← hg]; rfl
  have eus : us h' = us h := by rw [← hg]; rfl
  have ecn : cn h' = cn h := by rw [← hg]; rfl
  have ecs : cs h' = cs h := by rw [← hg]; rfl
  have ehr : ∀ b k, b ≠ w + 47 → hr h' b k = hr h b k := fun b k hb => by
    rw [← hg, hr_setR, up2_ne _ _ (fun z => hb z.1), hr_setR, up2_ne _ _ (fun z => hb z.1)]
  have r0 : hr h' (w + 47) 0 = some (w + 49 - g) := by
    rw [← hg, hr_setR, up2_ne _ _ (fun z => by omega), hr_setR, up2_same]
  have r1 : hr h' (w + 47) 1 = some (w + 48 + g) := by rw [← hg, hr_setR, up2_same]
  have e : fm nP (fun b => b = w + 47) h h' := ⟨by omega, fun a _ => by rw [ekd, eln]; exact ⟨rfl, rfl⟩, fun a k _ _ => by rw [ehi], fun a k _ z => ehr a k z, ecn, ecs⟩
  have oth : ∀ j, j < 32 → OfE h h' (ofK w j) := fun j hj => OfE.of (f10 j hj).1 e (fun z => z) (fun z => by have z : ofK w j = w + 47 := z; unfold ofK at z; omega) (fun z => z) (fun z => z)
  have sl := sL_upd (h := h) (h' := h') (w := w) (k := 32) (fun j hj hjk => by rw [(oth j hj).1]; exact (oth j hj).2.2.2.2.2.1) 32 (Nat.le_refl _)
  rw [if_neg (by omega)] at sl
  refine ⟨⟨⟨by omega, by rw [ekd]; exact f2, by rw [r0, show w + 49 - g = w + 48 + (1 - g) by omega], by rw [r1, show w + 48 + g = w + 49 - (1 - g) by omega]⟩, by rw [ekd, eln]; exact ⟨⟨f5, f6⟩, f7, f8⟩, fun s hs => ?_, fun j hj => ?_, fun k j hk hj hkj => ?_, ?_, f14, by omega⟩, oth, e.mono (fun x z => z.elim) (fun x z => ?_)⟩
  · rw [ehr _ _ (by omega), ehr _ _ (by omega)]; exact f9 s hs
  · rw [(oth j hj).1, (oth j hj).2.1]
    exact ⟨(oth j hj).2.2.2.2.2.2 (f10 j hj).1, (f10 j hj).2⟩
  · rw [(oth j hj).1, (oth j hj).2.1, (oth k hk).1, (oth k hk).2.1]
    exact f11 k j hk hj hkj
  · rw [sl, enx, eus, ecn, ecs]; omega
  · have z : x = w + 47 := z
    unfold PFa
    omega
/-- behind a swap: both rows hold what the one behind held -/
def SwP (h0 h : Hp) (w X g A B : Nat) (lo up : Int) (k : Int) : Prop := FaS h w X g A B ∧ (∀ s : Nat, s < 16 → OfC h (bef w g s) lo up ∧ (∀ x, oV h (bef w g s) x = oV h0 (bef w g s) x) ∧ ((s : Int) < k → OfC h (aft w g s) lo up ∧ ∀ x, oV h (aft w g s) x = oV h0 (bef w g s) x)) ∧ fm (PFa w X) (PFa w X) h0 h ∧ hi h (w + 47) = hi h0 (w + 47)
set_option maxRecDepth 100000 in
set_option maxHeartbeats 4000000 in
theorem l_fswap {w X g A B : Nat} {lo up : Int} (hlu : lo ≤ up ∧ up - lo ≤ 2880) {h0 : Hp} {Q : Option AV → Hp → Prop} (kq : ∀ h, SwP h0 h w X g A B lo up 16 → Q none h) : ∀ (m : Nat) (k : Int) (h : Hp), k + m = 16 → 0 ≤ k → SwP h0 h w X g A B lo up k → wp 53 20 [some (vR (some (w + 47))), none, some (vI (k))] [] h Q noX := by
  intro m
  induction m with
  | zero =>
    intro k h e0 e1 I
    have I9 := I
    obtain ⟨F, I1, E, h47⟩ := I
    obtain ⟨f1, f2, f3, f4⟩ := F.1
    refine wp_iload_n d_53_20 (by rfl) ?_
    refine wp_bipush d_53_21 (by decide) ?_
    refine wp_icmp_ge (tgt := 47) d_53_23 (by decide) (by omega) (by omega) (fun c_23 => ?_) (fun c_23 => ?_)
    rotate_left
    · exact absurd c_23 (by omega)
    refine wp_vret d_53_47 rfl ?_
    exact kq h (by rw [show (16 : Int) = k by omega]; exact I9)
  | succ m ih =>
    intro k h e0 e1 I
    obtain ⟨F, I1, E, h47⟩ := I
    obtain ⟨f1, f2, f3, f4⟩ := F.1
    obtain ⟨r1_, r2_, r3_, r4_⟩ := F.aftr (s := k) (by omega)
    obtain ⟨q1_, q2_, q3_, q4_⟩ := F.befr (s := k) (by omega)
    have r5_ : kd h (aft w g k.toNat) = 9 := (F.2.2.2.1 _ r4_).1.1
    have Sa := (F.2.2.2.1 _ r4_).1
    have Sb := (F.2.2.2.1 _ q4_).1
    have Cb := I1 k.toNat (by omega)
    have s1 := F.2.2.2.2.1 _ _ q4_ r4_ (by omega)
    have s2 := F.2.2.2.2.1 _ _ r4_ q4_ (by omega)
    have n1 := F.ne q4_ r4_
    have n2 := F.ne r4_ q4_
    refine wp_iload_n d_53_20 (by rfl) ?_
    refine wp_bipush d_53_21 (by decide) ?_
    refine wp_icmp_ge (tgt := 47) d_53_23 (by decide) (by omega) (by omega) (fun c_23 => ?_) (fun c_23 => ?_)
    · exact absurd c_23 (by omega)
    refine wp_aload_n d_53_26 (by rfl) ?_
    refine wp_getR (1) d_53_27 fl_4_17 rfl rfl (by assumption) (by assumption) ?_
    refine wp_iload_n d_53_30 (by rfl) ?_
    refine wp_aald d_53_31 (by first | omega | (simp only [kd_setI, kd_cpI]; omega)) (by first | omega | (simp only [kd_setI, kd_cpI]; omega)) (by apply isRf_of; assumption; rfl) (by omega) (by omega) (by assumption) ?_
    refine wp_aload_n d_53_32 (by rfl) ?_
    refine wp_getR (0) d_53_33 fl_4_11 rfl rfl (by assumption) (by assumption) ?_
    refine wp_iload_n d_53_36 (by rfl) ?_
    refine wp_aald d_53_37 (by first | omega | (simp only [kd_setI, kd_cpI]; omega)) (by first | omega | (simp only [kd_setI, kd_cpI]; omega)) (by apply isRf_of; assumption; rfl) (by omega) (by omega) (by assumption) ?_
    refine wp_callV d_53_38 c_53_61 rfl (by rfl) (by rfl) ⟨8, rfl, rfl, by decide⟩ (by assumption) (by exact Nat.le_of_ble_eq_true rfl) (by exact Nat.le_of_ble_eq_true rfl) (s_copy Sa Sb Cb.1 hlu (fun z => by have := ofK_inj z; omega) ⟨s1.1, fun z => s2.2.1 z.symm, s1.2.1, s1.2.2⟩ n1 n2 (fun y => F.room r4_ (by have := Cb.1.few hlu.1; exact (by unfold bef at this; omega)) y)) (fun v_38 h_38 q_38 => ?_) (fun _ _ q => q.elim)
    obtain ⟨rfl, D⟩ := q_38
    obtain ⟨D1, D2, D3, D4⟩ := D
    obtain ⟨U1, U2, U3, U4⟩ := F.upd r4_ D1 D2
    refine wp_iinc d_53_41 (by rfl) (by decide) ?_
    refine wp_goto (tgt := 20) d_53_44 (by decide) ?_
    refine wp_to [some (vR (some (w + 47))), none, some (vI (k + 1))] ⟨rfl, rfl, trivial⟩ ?_
    refine ih (k + 1) _ (by omega) (by omega) ⟨U1, fun s hs => ?_, E.trans U3, U4.trans h47⟩
    obtain ⟨c1, c2, c3⟩ := I1 s hs
    have ob := U2 (2 * s + g) (by omega) (by omega)
    refine ⟨ob.c c1, fun x => (ob.v x).trans (c2 x), fun hk => ?_⟩
    by_cases z : s = k.toNat
    · subst z
      exact ⟨D3, fun x => (D4 x).trans (c2 x)⟩
    · have oa := U2 (2 * s + (1 - g)) (by omega) (by omega)
      obtain ⟨c4, c5⟩ := c3 (by omega)
      exact ⟨oa.c c4, fun x => (oa.v x).trans (c5 x)⟩
set_option maxRecDepth 100000 in
set_option maxHeartbeats 4000000 in
theorem s_fswap {w X g A B : Nat} {lo up : Int} (hlu : lo ≤ up ∧ up - lo ≤ 2880) {h0 : Hp} (F : FaS h0 w X g A B) (C : ∀ s : Nat, s < 16 → OfC h0 (aft w g s) lo up) : wp 53 0 (entL [vR (some (w + 47))] (mL 53)) [] h0 (fun v h' => v = none ∧ SwP h0 h' w X (1 - g) A B lo up 16) noX := by
  obtain ⟨T1, T2, T3⟩ := F.turn
  obtain ⟨f1, f2, f3, f4⟩ := F.1
  have f4' : hr (setR h0 (w + 47) 0 (some (w + 49 - g))) (w + 47) 1 = some (w + 49 - g) := by rw [hr_setR, up2_ne _ _ (fun z => by omega)]; exact f4
  refine wp_aload_n d_53_0 (by rfl) ?_
  refine wp_getR (0) d_53_1 fl_4_11 rfl rfl (by first | assumption | (simp only [kd_setI, kd_setR]; assumption)) (by first | assumption | (simp only [hr_setI]; assumption)) ?_
  refine wp_astore_n d_53_4 (by decide) ?_
  refine wp_aload_n d_53_5 (by rfl) ?_
  refine wp_aload_n d_53_6 (by rfl) ?_
  refine wp_getR (1) d_53_7 fl_4_17 rfl rfl (by first | assumption | (simp only [kd_setI, kd_setR]; assumption)) (by first | assumption | (simp only [hr_setI]; assumption)) ?_
  refine wp_putR (0) d_53_10 fl_4_11 rfl rfl (Or.inl (by rfl)) (by first | assumption | (simp only [kd_setI, kd_setR]; assumption)) ?_
  refine wp_aload_n d_53_13 (by rfl) ?_
  refine wp_aload_n d_53_14 (by rfl) ?_
  refine wp_putR (1) d_53_15 fl_4_17 rfl rfl (Or.inl (by rfl)) (by first | assumption | (simp only [kd_setI, kd_setR]; assumption)) ?_
  refine wp_iconst d_53_18 ?_
  refine wp_istore_n d_53_19 (by decide) ?_
  refine wp_to [some (vR (some (w + 47))), none, some (vI (0))] ⟨rfl, rfl, trivial⟩ ?_
  refine l_fswap hlu (fun h z => ⟨rfl, z⟩) 16 0 _ (by omega) (by omega) ⟨T1, fun s hs => ?_, T3, rfl⟩
  have ob := T2 (2 * s + (1 - g)) (by omega)
  exact ⟨ob.c (C s hs), fun x => ob.v x, fun hk => by omega⟩
/-- nothing is offered -/
theorem FaS.zero {h : Hp} {w X g A B : Nat} (F : FaS h w X g A B) {k : Nat} (hk : k < 32) : FaS (setI h (ofK w k) 2 0) w X g A B ∧ (∀ j, j < 32 → j ≠ k → OfE h (setI h (ofK w k) 2 0) (ofK w j)) ∧ fm (PFa w X) (PFa w X) h (setI h (ofK w k) 2 0) ∧ hi (setI h (ofK w k) 2 0) (w + 47) = hi h (w + 47) ∧ hi (setI h (ofK w k) 2 0) (ofK w k) 2 = 0 := by
  have S := (F.2.2.2.1 k hk).1
  have ne := S.ne
  have z2 : hi (setI h (ofK w k) 2 0) (ofK w k) 2 = 0 := by rw [hi_upF, upF_same]
  have S' : OfS (setI h (ofK w k) 2 0) (ofK w k) := by
    obtain ⟨q1, q2, q3, ⟨q4, q5, q6, q7, q8⟩, q9, q11, q12⟩ := S
    refine ⟨q1, q2, q3, ⟨q4, q5, q6, q7, q8⟩, ?_, q11, q12⟩
    rw [z2]
    show 0 ≤ 0 ∧ 0 ≤ ln h (tAr h (ofK w k))
    omega
  have O : OFr h (setI h (ofK w k) 2 0) (ofK w k) := ⟨ch.fm (ch_setI (Or.inl rfl)), Or.inl ⟨rfl, rfl, rfl, rfl, rfl⟩⟩
  obtain ⟨u1, u2, u3, u4⟩ := F.upd hk O S'
  exact ⟨u1, u2, u3, u4, z2⟩
theorem OfC.none {h : Hp} {a : Nat} {lo up : Int} (hz : hi h a 2 = 0) : OfC h a lo up ∧ ∀ x, oV h a x = 1000000000 := by
  refine ⟨⟨fun i i0 i1 => by omega, fun i j i0 ij jn => by omega⟩, fun x => ?_⟩
  unfold oV
  rw [hz]
  rfl
def ZrI (h0 h : Hp) (w X g A B : Nat) (k : Int) : Prop := FaS h w X g A B ∧ (∀ s : Nat, (s : Int) < k → hi h (aft w g s) 2 = 0) ∧ fm (PFa w X) (PFa w X) h0 h ∧ hi h (w + 47) = hi h0 (w + 47)
set_option maxRecDepth 100000 in
set_option maxHeartbeats 4000000 in
theorem l_fzero {w X g A B : Nat} {o d T up : Int} {h0 : Hp} {Q : Option AV → Hp → Prop} (kq : ∀ h, ZrI h0 h w X g A B 16 → wp 51 55 [some (vR (some (w + 47))), some (vR (some (w + 1))), some (vR (some (w + 6))), some (vI o), some (vI d), some (vI T), some (vI up), none, none, none] [] h Q noX) : ∀ (m : Nat) (k : Int) (h : Hp), k + m = 16 → 0 ≤ k → ZrI h0 h w X g A B k → wp 51 31 [some (vR (some (w + 47))), some (vR (some (w + 1))), some (vR (some (w + 6))), some (vI o), some (vI d), some (vI T), some (vI up), some (vI (k)), none, none] [] h Q noX := by
  intro m
  induction m with
  | zero =>
    intro k h e0 e1 I
    have I9 := I
    obtain ⟨F, I1, E, h47⟩ := I
    obtain ⟨f1, f2, f3, f4⟩ := F.1
    refine wp_iload d_51_31 (by rfl) ?_
    refine wp_bipush d_51_33 (by decide) ?_
    refine wp_icmp_ge (tgt := 55) d_51_35 (by decide) (by omega) (by omega) (fun c_35 => ?_) (fun c_35 => ?_)
    rotate_left
    · exact absurd c_35 (by omega)
    refine wp_to [some (vR (some (w + 47))), some (vR (some (w + 1))), some (vR (some (w + 6))), some (vI o), some (vI d), some (vI T), some (vI up), none, none, none] ⟨rfl, rfl, rfl, rfl, rfl, rfl, rfl, trivial⟩ ?_
    exact kq h (by rw [show (16 : Int) = k by omega]; exact I9)
  | succ m ih =>
    intro k h e0 e1 I
    have I9 := I
    obtain ⟨F, I1, E, h47⟩ := I
    obtain ⟨f1, f2, f3, f4⟩ := F.1
    obtain ⟨r1_, r2_, r3_, r4_⟩ := F.aftr (s := k) (by omega)
    have r5_ : kd h (aft w g k.toNat) = 9 := (F.2.2.2.1 _ r4_).1.1
    obtain ⟨U1, U2, U3, U4, U5⟩ := F.zero r4_
    refine wp_iload d_51_31 (by rfl) ?_
    refine wp_bipush d_51_33 (by decide) ?_
    refine wp_icmp_ge (tgt := 55) d_51_35 (by decide) (by omega) (by omega) (fun c_35 => ?_) (fun c_35 => ?_)
    · exact absurd c_35 (by omega)
    refine wp_aload_n d_51_38 (by rfl) ?_
    refine wp_getR (1) d_51_39 fl_4_17 rfl rfl (by assumption) (by assumption) ?_
    refine wp_iload d_51_42 (by rfl) ?_
    refine wp_aald d_51_44 (by first | omega | (simp only [kd_setI, kd_cpI]; omega)) (by first | omega | (simp only [kd_setI, kd_cpI]; omega)) (by apply isRf_of; assumption; rfl) (by omega) (by omega) (by assumption) ?_
    refine wp_iconst d_51_45 ?_
    refine wp_putI (2) d_51_46 fl_4_32 rfl rfl (Or.inl (by rfl)) (by assumption) (by omega) (fun q => nomatch q) ?_
    refine wp_iinc d_51_49 (by rfl) (by decide) ?_
    refine wp_goto (tgt := 31) d_51_52 (by decide) ?_
    refine wp_to [some (vR (some (w + 47))), some (vR (some (w + 1))), some (vR (some (w + 6))), some (vI o), some (vI d), some (vI T), some (vI up), some (vI (k + 1)), none, none] ⟨rfl, rfl, rfl, rfl, rfl, rfl, rfl, rfl, trivial⟩ ?_
    refine ih (k + 1) _ (by omega) (by omega) ⟨U1, fun s hs => ?_, E.trans U3, U4.trans h47⟩
    by_cases z : s = k.toNat
    · subst z; exact U5
    · have oa := U2 (2 * s + (1 - g)) (by omega) (by omega)
      exact (congrFun oa.2.2.1 2).trans (I1 s (by omega))
set_option maxRecDepth 100000 in
set_option maxHeartbeats 4000000 in
theorem l_frun {w X g A B : Nat} {lo up d : Int} {hb : Hp} (hS0 : Sk hb w) (hT0 : TT hb w X) (hd : hi hb (w + 47) 2 = d) (hu : hi hb (w + 47) 3 = up) (hlu : 0 ≤ lo ∧ up ≤ 1000000 ∧ up - lo ≤ 2880) (hR : RunsOk hb w) (FB : FaS hb w X g A B) (CB : ∀ s : Nat, s < 16 → OfC hb (bef w g s) lo up) {o T rd : Int} {Q : Option AV → Hp → Prop} (kq : ∀ h b, FaT hb h w X g A B lo up → (b = 0 ∨ b = 1) → FRg (hi hb (w + 1) 4) (hi hb (w + 2)) (Wy hb w) (fun r => ∃ j, j < hi hb (w + 6) 3 ∧ RcI hb w j r) (fun r i j => (∃ j, j < hi hb (w + 6) 3 ∧ RcI hb w j r) ∧ 0 ≤ i ∧ i < j ∧ j < rz r) up d (bF hb w g) (gF hb w g) (gF h w g) (hi hb (w + 47) 4) (hi h (w + 47) 4) → (b = 0 → ∀ s', 0 ≤ s' → s' < 16 → ∀ x, gF h w g s' x = gF hb w g s' x) → wp 51 155 [some (vR (some (w + 47))), some (vR (some (w + 1))), some (vR (some (w + 6))), some (vI o), some (vI d), some (vI T), some (vI up), some (vI (b)), some (vI rd), some (vI (hi hb (w + 6) 3))] [] h Q noX) : ∀ (m : Nat) (q b : Int) (h : Hp), q + m = hi hb (w + 6) 3 → 0 ≤ q → FaT hb h w X g A B lo up → (b = 0 ∨ b = 1) → FRg (hi hb (w + 1) 4) (hi hb (w + 2)) (Wy hb w) (fun r => ∃ j, j < q ∧ RcI hb w j r) (fun r i j => (∃ j, j < q ∧ RcI hb w j r) ∧ 0 ≤ i ∧ i < j ∧ j < rz r) up d (bF hb w g) (gF hb w g) (gF h w g) (hi hb (w + 47) 4) (hi h (w + 47) 4) → (b = 0 → ∀ s', 0 ≤ s' → s' < 16 → ∀ x, gF h w g s' x = gF hb w g s' x) → wp 51 106 [some (vR (some (w + 47))), some (vR (some (w + 1))), some (vR (some (w + 6))), some (vI o), some (vI d), some (vI T), some (vI up), some (vI (b)), some (vI rd), some (vI (q))] [] h Q noX := by
  intro m
  have N := hT0.net
  have NR : Net (hi hb (w + 1) 4) (hi hb (w + 2)) (Wy hb w) (fun r => Rc hb w r) := ⟨N.1, N.2.1, N.2.2.1, fun r z => N.2.2.2 r (hR.sub z)⟩
  induction m with
  | zero =>
    intro q b h e0 e1 T9 gb I J
    have E := T9.2.2.1
    have hX := hT0.2.2.2.2.2.2
    have hn16 := hT0.1
    have hS := hS0.kept E (PFaoff.pr hX.2) (by omega)
    have hS9 := hS
    obtain ⟨f1, f2, f3, f4⟩ := T9.1.1
    have c6 : hi h (w + 6) 3 = hi hb (w + 6) 3 := E.2.2.1 _ _ (by omega) (by unfold PFa; omega)
    have c7 : ∀ k, hr h (w + 7) k = hr hb (w + 7) k := fun k => E.2.2.2.1 _ _ (by omega) (by unfold PFa; omega)
    have c9 : hi h (w + 9) = hi hb (w + 9) := funext fun k => E.2.2.1 _ _ (by omega) (by unfold PFa; omega)
    have hrc := hR.1
    obtain ⟨⟨k1, k2, k3, k4, k5, k6, k7⟩, ⟨n1, ⟨n2, n3, n4, n5⟩, ⟨n6, n7⟩, ⟨n8, n9⟩, ⟨n10, n11⟩, n12, n13⟩, ⟨m1, ⟨m2, m3, m4⟩, ⟨m5, m6⟩, ⟨m7, m8⟩, m9, m10⟩, ⟨o1, ⟨o2, o3, o4⟩, ⟨o5, o6, o7⟩, ⟨o8, o9, o10⟩, o11, o12⟩, ⟨b1, ⟨b2, b3⟩, ⟨b4, b5, b6⟩, b7, b8, b9⟩, ⟨j1, ⟨j2, j3, j4, j5, j6, j7, j8⟩, ⟨j9, j10⟩, j11⟩⟩ := hS
    refine wp_iload d_51_106 (by rfl) ?_
    refine wp_aload_n d_51_108 (by rfl) ?_
    refine wp_getI (3) d_51_109 fl_4_46 rfl rfl (by assumption) (fun x_109 e_109 r_109 => ?_)
    (try rw [c6] at e_109)
    subst e_109
    refine wp_icmp_ge (tgt := 155) d_51_112 (by decide) (by omega) (by omega) (fun c_112 => ?_) (fun c_112 => ?_)
    rotate_left
    · exact absurd c_112 (by omega)
    have eq : hi hb (w + 6) 3 = q := by omega
    refine wp_to [some (vR (some (w + 47))), some (vR (some (w + 1))), some (vR (some (w + 6))), some (vI o), some (vI d), some (vI T), some (vI up), some (vI (b)), some (vI rd), some (vI (hi hb (w + 6) 3))] ⟨rfl, rfl, rfl, rfl, rfl, rfl, rfl, rfl, rfl, congrArg (fun z => some (vI z)) eq.symm, trivial⟩ ?_
    exact kq h b T9 gb (by rw [eq]; exact I) J
  | succ m ih =>
    intro q b h e0 e1 T9 gb I J
    have E := T9.2.2.1
    have hX := hT0.2.2.2.2.2.2
    have hn16 := hT0.1
    have hS := hS0.kept E (PFaoff.pr hX.2) (by omega)
    have hS9 := hS
    obtain ⟨f1, f2, f3, f4⟩ := T9.1.1
    have c6 : hi h (w + 6) 3 = hi hb (w + 6) 3 := E.2.2.1 _ _ (by omega) (by unfold PFa; omega)
    have c7 : ∀ k, hr h (w + 7) k = hr hb (w + 7) k := fun k => E.2.2.2.1 _ _ (by omega) (by unfold PFa; omega)
    have c9 : hi h (w + 9) = hi hb (w + 9) := funext fun k => E.2.2.1 _ _ (by omega) (by unfold PFa; omega)
    have hrc := hR.1
    obtain ⟨⟨k1, k2, k3, k4, k5, k6, k7⟩, ⟨n1, ⟨n2, n3, n4, n5⟩, ⟨n6, n7⟩, ⟨n8, n9⟩, ⟨n10, n11⟩, n12, n13⟩, ⟨m1, ⟨m2, m3, m4⟩, ⟨m5, m6⟩, ⟨m7, m8⟩, m9, m10⟩, ⟨o1, ⟨o2, o3, o4⟩, ⟨o5, o6, o7⟩, ⟨o8, o9, o10⟩, o11, o12⟩, ⟨b1, ⟨b2, b3⟩, ⟨b4, b5, b6⟩, b7, b8, b9⟩, ⟨j1, ⟨j2, j3, j4, j5, j6, j7, j8⟩, ⟨j9, j10⟩, j11⟩⟩ := hS
    obtain ⟨a, g1, g2, g3, g4, g5, g6⟩ := hR.at hT0 e1 (by omega)
    have ka : kd h a = 12 := (E.2.1 a (by omega)).1.trans g4.1
    have g1' : hr h (w + 7) q = some a := (c7 q).trans g1
    have hin : RcI hb w q (rnB hb a (hi hb (w + 9) q)) := ⟨e1, a, g1, rfl⟩
    have huq : ∀ r, RcI hb w q r → r = rnB hb a (hi hb (w + 9) q) := fun r z => by
      obtain ⟨-, a', y1, y2⟩ := z
      cases y1.symm.trans g1
      exact y2
    refine wp_iload d_51_106 (by rfl) ?_
    refine wp_aload_n d_51_108 (by rfl) ?_
    refine wp_getI (3) d_51_109 fl_4_46 rfl rfl (by assumption) (fun x_109 e_109 r_109 => ?_)
    (try rw [c6] at e_109)
    subst e_109
    refine wp_icmp_ge (tgt := 155) d_51_112 (by decide) (by omega) (by omega) (fun c_112 => ?_) (fun c_112 => ?_)
    · exact absurd c_112 (by omega)
    refine wp_aload_n d_51_115 (by rfl) ?_
    refine wp_aload_n d_51_116 (by rfl) ?_
    refine wp_aload_n d_51_117 (by rfl) ?_
    refine wp_getR (0) d_51_118 fl_4_49 rfl rfl (by assumption) (by assumption) ?_
    refine wp_iload d_51_121 (by rfl) ?_
    refine wp_aald d_51_123 (by first | omega | (simp only [kd_setI, kd_cpI]; omega)) (by first | omega | (simp only [kd_setI, kd_cpI]; omega)) (by apply isRf_of; assumption; rfl) (by omega) (by omega) (by assumption) ?_
    refine wp_aload_n d_51_124 (by rfl) ?_
    refine wp_getR (2) d_51_125 fl_4_53 rfl rfl (by assumption) (by assumption) ?_
    refine wp_iload d_51_128 (by rfl) ?_
    refine wp_iald d_51_130 (Or.inl (by assumption)) (by omega) (by omega) (fun x_130 e_130 r_130 => ?_)
    rw [c9] at e_130
    subst e_130
    refine wp_callV d_51_131 c_51_57 rfl (by rfl) (by rfl) ⟨4, rfl, rfl, by decide⟩ (by assumption) (by exact Nat.le_of_ble_eq_true rfl) (by exact Nat.le_of_ble_eq_true rfl) (s_frideRun hS0 hT0 hd hu hlu hR FB CB g4 ⟨g2, g3⟩ ⟨g5, g6⟩ (Rc_iff.mpr ⟨q, by omega, hin⟩) T9) (fun v_131 h_131 q_131 => ?_) (fun _ _ q => q.elim)
    obtain ⟨z_131, rfl, y1_, T2, A2, J2⟩ := q_131
    refine wp_if_ne (tgt := 142) d_51_134 (by decide) (by omega) (fun c_134 => ?_) (fun c_134 => ?_)
    · refine wp_iconst d_51_142 ?_
      refine wp_goto (tgt := 147) d_51_143 (by decide) ?_
      refine wp_istore d_51_147 (by decide) ?_
      refine wp_iinc d_51_149 (by rfl) (by decide) ?_
      refine wp_goto (tgt := 106) d_51_152 (by decide) ?_
      first
        | (refine wp_to [some (vR (some (w + 47))), some (vR (some (w + 1))), some (vR (some (w + 6))), some (vI o), some (vI d), some (vI T), some (vI up), some (vI (1)), some (vI rd), some (vI (q + 1))] ⟨rfl, rfl, rfl, rfl, rfl, rfl, rfl, rfl, rfl, rfl, trivial⟩ (ih (q + 1) 1 _ (by omega) (by omega) T2 (Or.inr rfl) ?_ (fun y => by omega))
           · refine FRg.seq (R := fun r => ∃ j, j < q + 1 ∧ RcI hb w j r) ⟨NR.1, NR.2.1, NR.2.2.1, fun r z => ?_⟩ (fun r z => ?_) (fun r z => ?_) (fun r i j z => ?_) (fun r i j z => ?_) I A2
             · obtain ⟨j, y1, y2⟩ := z
               exact NR.2.2.2 r (Rc_iff.mpr ⟨j, by omega, y2⟩)
             · obtain ⟨j, y1, y2⟩ := z
               exact ⟨j, by omega, y2⟩
             · exact ⟨q, by omega, by rw [z]; exact hin⟩
             · obtain ⟨⟨jj, y1, y2⟩, z1⟩ := z
               by_cases c : jj = q
               · subst c
                 exact Or.inr ⟨huq r y2, z1⟩
               · exact Or.inl ⟨⟨jj, by omega, y2⟩, z1⟩
             · obtain ⟨⟨jj, y1, y2⟩, z1⟩ := z
               exact ((NR.2.2.2 r (Rc_iff.mpr ⟨jj, by omega, y2⟩)).2.1 j (by omega) z1.2.2).1)
        | (refine wp_to [some (vR (some (w + 47))), some (vR (some (w + 1))), some (vR (some (w + 6))), some (vI o), some (vI d), some (vI T), some (vI up), some (vI (0)), some (vI rd), some (vI (q + 1))] ⟨rfl, rfl, rfl, rfl, rfl, rfl, rfl, rfl, rfl, rfl, trivial⟩ (ih (q + 1) 0 _ (by omega) (by omega) T2 (Or.inl rfl) ?_ (fun y s' s0 s1 x => by rw [J2 (by omega) s' s0 s1 x]; exact J (by omega) s' s0 s1 x))
           · refine FRg.seq (R := fun r => ∃ j, j < q + 1 ∧ RcI hb w j r) ⟨NR.1, NR.2.1, NR.2.2.1, fun r z => ?_⟩ (fun r z => ?_) (fun r z => ?_) (fun r i j z => ?_) (fun r i j z => ?_) I A2
             · obtain ⟨j, y1, y2⟩ := z
               exact NR.2.2.2 r (Rc_iff.mpr ⟨j, by omega, y2⟩)
             · obtain ⟨j, y1, y2⟩ := z
               exact ⟨j, by omega, y2⟩
             · exact ⟨q, by omega, by rw [z]; exact hin⟩
             · obtain ⟨⟨jj, y1, y2⟩, z1⟩ := z
               by_cases c : jj = q
               · subst c
                 exact Or.inr ⟨huq r y2, z1⟩
               · exact Or.inl ⟨⟨jj, by omega, y2⟩, z1⟩
             · obtain ⟨⟨jj, y1, y2⟩, z1⟩ := z
               exact ((NR.2.2.2 r (Rc_iff.mpr ⟨jj, by omega, y2⟩)).2.1 j (by omega) z1.2.2).1)
    · refine wp_iload d_51_137 (by rfl) ?_
      refine wp_if_eq (tgt := 146) d_51_139 (by decide) (by omega) (fun c_139 => ?_) (fun c_139 => ?_)
      · refine wp_iconst d_51_146 ?_
        refine wp_istore d_51_147 (by decide) ?_
        refine wp_iinc d_51_149 (by rfl) (by decide) ?_
        refine wp_goto (tgt := 106) d_51_152 (by decide) ?_
        first
          | (refine wp_to [some (vR (some (w + 47))), some (vR (some (w + 1))), some (vR (some (w + 6))), some (vI o), some (vI d), some (vI T), some (vI up), some (vI (1)), some (vI rd), some (vI (q + 1))] ⟨rfl, rfl, rfl, rfl, rfl, rfl, rfl, rfl, rfl, rfl, trivial⟩ (ih (q + 1) 1 _ (by omega) (by omega) T2 (Or.inr rfl) ?_ (fun y => by omega))
             · refine FRg.seq (R := fun r => ∃ j, j < q + 1 ∧ RcI hb w j r) ⟨NR.1, NR.2.1, NR.2.2.1, fun r z => ?_⟩ (fun r z => ?_) (fun r z => ?_) (fun r i j z => ?_) (fun r i j z => ?_) I A2
               · obtain ⟨j, y1, y2⟩ := z
                 exact NR.2.2.2 r (Rc_iff.mpr ⟨j, by omega, y2⟩)
               · obtain ⟨j, y1, y2⟩ := z
                 exact ⟨j, by omega, y2⟩
               · exact ⟨q, by omega, by rw [z]; exact hin⟩
               · obtain ⟨⟨jj, y1, y2⟩, z1⟩ := z
                 by_cases c : jj = q
                 · subst c
                   exact Or.inr ⟨huq r y2, z1⟩
                 · exact Or.inl ⟨⟨jj, by omega, y2⟩, z1⟩
               · obtain ⟨⟨jj, y1, y2⟩, z1⟩ := z
                 exact ((NR.2.2.2 r (Rc_iff.mpr ⟨jj, by omega, y2⟩)).2.1 j (by omega) z1.2.2).1)
          | (refine wp_to [some (vR (some (w + 47))), some (vR (some (w + 1))), some (vR (some (w + 6))), some (vI o), some (vI d), some (vI T), some (vI up), some (vI (0)), some (vI rd), some (vI (q + 1))] ⟨rfl, rfl, rfl, rfl, rfl, rfl, rfl, rfl, rfl, rfl, trivial⟩ (ih (q + 1) 0 _ (by omega) (by omega) T2 (Or.inl rfl) ?_ (fun y s' s0 s1 x => by rw [J2 (by omega) s' s0 s1 x]; exact J (by omega) s' s0 s1 x))
             · refine FRg.seq (R := fun r => ∃ j, j < q + 1 ∧ RcI hb w j r) ⟨NR.1, NR.2.1, NR.2.2.1, fun r z => ?_⟩ (fun r z => ?_) (fun r z => ?_) (fun r i j z => ?_) (fun r i j z => ?_) I A2
               · obtain ⟨j, y1, y2⟩ := z
                 exact NR.2.2.2 r (Rc_iff.mpr ⟨j, by omega, y2⟩)
               · obtain ⟨j, y1, y2⟩ := z
                 exact ⟨j, by omega, y2⟩
               · exact ⟨q, by omega, by rw [z]; exact hin⟩
               · obtain ⟨⟨jj, y1, y2⟩, z1⟩ := z
                 by_cases c : jj = q
                 · subst c
                   exact Or.inr ⟨huq r y2, z1⟩
                 · exact Or.inl ⟨⟨jj, by omega, y2⟩, z1⟩
               · obtain ⟨⟨jj, y1, y2⟩, z1⟩ := z
                 exact ((NR.2.2.2 r (Rc_iff.mpr ⟨jj, by omega, y2⟩)).2.1 j (by omega) z1.2.2).1)
      · refine wp_iconst d_51_142 ?_
        refine wp_goto (tgt := 147) d_51_143 (by decide) ?_
        refine wp_istore d_51_147 (by decide) ?_
        refine wp_iinc d_51_149 (by rfl) (by decide) ?_
        refine wp_goto (tgt := 106) d_51_152 (by decide) ?_
        first
          | (refine wp_to [some (vR (some (w + 47))), some (vR (some (w + 1))), some (vR (some (w + 6))), some (vI o), some (vI d), some (vI T), some (vI up), some (vI (1)), some (vI rd), some (vI (q + 1))] ⟨rfl, rfl, rfl, rfl, rfl, rfl, rfl, rfl, rfl, rfl, trivial⟩ (ih (q + 1) 1 _ (by omega) (by omega) T2 (Or.inr rfl) ?_ (fun y => by omega))
             · refine FRg.seq (R := fun r => ∃ j, j < q + 1 ∧ RcI hb w j r) ⟨NR.1, NR.2.1, NR.2.2.1, fun r z => ?_⟩ (fun r z => ?_) (fun r z => ?_) (fun r i j z => ?_) (fun r i j z => ?_) I A2
               · obtain ⟨j, y1, y2⟩ := z
                 exact NR.2.2.2 r (Rc_iff.mpr ⟨j, by omega, y2⟩)
               · obtain ⟨j, y1, y2⟩ := z
                 exact ⟨j, by omega, y2⟩
               · exact ⟨q, by omega, by rw [z]; exact hin⟩
               · obtain ⟨⟨jj, y1, y2⟩, z1⟩ := z
                 by_cases c : jj = q
                 · subst c
                   exact Or.inr ⟨huq r y2, z1⟩
                 · exact Or.inl ⟨⟨jj, by omega, y2⟩, z1⟩
               · obtain ⟨⟨jj, y1, y2⟩, z1⟩ := z
                 exact ((NR.2.2.2 r (Rc_iff.mpr ⟨jj, by omega, y2⟩)).2.1 j (by omega) z1.2.2).1)
          | (refine wp_to [some (vR (some (w + 47))), some (vR (some (w + 1))), some (vR (some (w + 6))), some (vI o), some (vI d), some (vI T), some (vI up), some (vI (0)), some (vI rd), some (vI (q + 1))] ⟨rfl, rfl, rfl, rfl, rfl, rfl, rfl, rfl, rfl, rfl, trivial⟩ (ih (q + 1) 0 _ (by omega) (by omega) T2 (Or.inl rfl) ?_ (fun y s' s0 s1 x => by rw [J2 (by omega) s' s0 s1 x]; exact J (by omega) s' s0 s1 x))
             · refine FRg.seq (R := fun r => ∃ j, j < q + 1 ∧ RcI hb w j r) ⟨NR.1, NR.2.1, NR.2.2.1, fun r z => ?_⟩ (fun r z => ?_) (fun r z => ?_) (fun r i j z => ?_) (fun r i j z => ?_) I A2
               · obtain ⟨j, y1, y2⟩ := z
                 exact NR.2.2.2 r (Rc_iff.mpr ⟨j, by omega, y2⟩)
               · obtain ⟨j, y1, y2⟩ := z
                 exact ⟨j, by omega, y2⟩
               · exact ⟨q, by omega, by rw [z]; exact hin⟩
               · obtain ⟨⟨jj, y1, y2⟩, z1⟩ := z
                 by_cases c : jj = q
                 · subst c
                   exact Or.inr ⟨huq r y2, z1⟩
                 · exact Or.inl ⟨⟨jj, by omega, y2⟩, z1⟩
               · obtain ⟨⟨jj, y1, y2⟩, z1⟩ := z
                 exact ((NR.2.2.2 r (Rc_iff.mpr ⟨jj, by omega, y2⟩)).2.1 j (by omega) z1.2.2).1)
/-- behind K rounds: what is known of the least price; over the heap h0, its runs those collected -/
def LpI (h0 h : Hp) (w X A B : Nat) (o T up d : Int) (K : Nat) (b : Int) : Prop := ∃ g, FaS h w X g A B ∧ (∀ s : Nat, s < 16 → OfC h (aft w g s) T up) ∧ FEx (hi h0 (w + 1) 4) (hi h0 (w + 2)) (Wy h0 w) (Rc h0 w) o T up d K (gF h w g) (hi h (w + 47) 4) ∧ fm (PFa w X) (PFa w X) h0 h ∧ (hi h (w + 47) 2 = d ∧ hi h (w + 47) 3 = up ∧ 0 ≤ hi h (w + 47) 4) ∧
  (b = 1 ∨ (b = 0 ∧ ∀ j t p, JE (hi h0 (w + 2)) (Wy h0 w) (Rc h0 w) o T up j d t p → hi h (w + 47) 4 ≤ p))
/-- the least price -/
def LpR (h0 h : Hp) (w : Nat) (o T up d z : Int) : Prop := 0 ≤ z ∧ z ≤ 1000000000 ∧ (z = 1000000000 ∨ ∃ j t, j ≤ 6 ∧ JE (hi h0 (w + 2)) (Wy h0 w) (Rc h0 w) o T up j d t z) ∧ ∀ j t p, j ≤ 6 → JE (hi h0 (w + 2)) (Wy h0 w) (Rc h0 w) o T up j d t p → z ≤ p
set_option maxRecDepth 100000 in
set_option maxHeartbeats 4000000 in
theorem l_fround {w X A B : Nat} {o d T up : Int} {h0 : Hp} (hS0 : Sk h0 w) (hT0 : TT h0 w X) (hR : RunsOk h0 w) (ho : 0 ≤ o ∧ o < hi h0 (w + 1) 4) (hd : 0 ≤ d ∧ d < hi h0 (w + 1) 4) (hT : 0 ≤ T ∧ T ≤ up) (hU : up ≤ 1000000 ∧ up - T ≤ 2880) : ∀ (m K : Nat) (b : Int) (h : Hp), K + m = 6 → LpI h0 h w X A B o T up d K b → wp 51 84 [some (vR (some (w + 47))), some (vR (some (w + 1))), some (vR (some (w + 6))), some (vI o), some (vI d), some (vI T), some (vI up), some (vI (b)), some (vI ((K : Int) + 1)), none] [] h (fun v h' => ∃ z, v = some (vI z) ∧ fm (PFa w X) (PFa w X) h0 h' ∧ (∃ g, FaS h' w X g A B) ∧ LpR h0 h' w o T up d z) noX := by
  intro m
  induction m with
  | zero =>
    intro K b h e0 I
    have hX := hT0.2.2.2.2.2.2
    have hn16 := hT0.1
    obtain ⟨g, F, C, X9, E, ⟨t2, t3, t4⟩, J⟩ := I
    have gb : b = 0 ∨ b = 1 := by rcases J with z | z <;> omega
    have t4b := X9.1.1
    have hS := hS0.kept E (PFaoff.pr hX.2) (by omega)
    have hS9 := hS
    have hTh := hT0.kept E PFaoff
    obtain ⟨f1, f2, f3, f4⟩ := F.1
    have N := hT0.net
    have NR : Net (hi h0 (w + 1) 4) (hi h0 (w + 2)) (Wy h0 w) (Rc h0 w) := ⟨N.1, N.2.1, N.2.2.1, fun r z => N.2.2.2 r (hR.sub z)⟩
    obtain ⟨⟨k1, k2, k3, k4, k5, k6, k7⟩, ⟨n1, ⟨n2, n3, n4, n5⟩, ⟨n6, n7⟩, ⟨n8, n9⟩, ⟨n10, n11⟩, n12, n13⟩, ⟨m1, ⟨m2, m3, m4⟩, ⟨m5, m6⟩, ⟨m7, m8⟩, m9, m10⟩, ⟨o1, ⟨o2, o3, o4⟩, ⟨o5, o6, o7⟩, ⟨o8, o9, o10⟩, o11, o12⟩, ⟨b1, ⟨b2, b3⟩, ⟨b4, b5, b6⟩, b7, b8, b9⟩, ⟨j1, ⟨j2, j3, j4, j5, j6, j7, j8⟩, ⟨j9, j10⟩, j11⟩⟩ := hS
    refine wp_iload d_51_84 (by rfl) ?_
    refine wp_bipush d_51_86 (by decide) ?_
    refine wp_icmp_gt (tgt := 161) d_51_88 (by decide) (by omega) (by omega) (fun c_88 => ?_) (fun c_88 => ?_)
    rotate_left
    · exact absurd c_88 (by omega)
    refine wp_aload_n d_51_161 (by rfl) ?_
    refine wp_getI (4) d_51_162 fl_4_29 rfl rfl (by assumption) (fun x_162 e_162 r_162 => ?_)
    subst e_162
    refine wp_iret d_51_165 rfl ?_
    exact ⟨_, rfl, E, ⟨g, F⟩, t4, t4b, X9.1.2.imp id (fun ⟨j, t, y1, y2⟩ => ⟨j, t, by omega, y2⟩), fun j t p hj hje => X9.2.2.2.1 j t p (by omega) hje⟩
  | succ m ih =>
    intro K b h e0 I
    have kN : ∀ (h : Hp) (b : Int), LpI h0 h w X A B o T up d (K + 1) b → ∀ q, wp 51 155 [some (vR (some (w + 47))), some (vR (some (w + 1))), some (vR (some (w + 6))), some (vI o), some (vI d), some (vI T), some (vI up), some (vI (b)), some (vI ((K : Int) + 1)), some (vI (q))] [] h (fun v h' => ∃ z, v = some (vI z) ∧ fm (PFa w X) (PFa w X) h0 h' ∧ (∃ g, FaS h' w X g A B) ∧ LpR h0 h' w o T up d z) noX := by
      intro h b I q
      refine wp_iinc d_51_155 (by rfl) (by decide) ?_
      refine wp_goto (tgt := 84) d_51_158 (by decide) ?_
      refine wp_to [some (vR (some (w + 47))), some (vR (some (w + 1))), some (vR (some (w + 6))), some (vI o), some (vI d), some (vI T), some (vI up), some (vI (b)), some (vI (((K + 1 : Nat) : Int) + 1)), none] ⟨rfl, rfl, rfl, rfl, rfl, rfl, rfl, rfl, rfl, trivial⟩ ?_
      exact ih (K + 1) b h (by omega) I
    have hX := hT0.2.2.2.2.2.2
    have hn16 := hT0.1
    obtain ⟨g, F, C, X9, E, ⟨t2, t3, t4⟩, J⟩ := I
    have gb : b = 0 ∨ b = 1 := by rcases J with z | z <;> omega
    have t4b := X9.1.1
    have hS := hS0.kept E (PFaoff.pr hX.2) (by omega)
    have hS9 := hS
    have hTh := hT0.kept E PFaoff
    obtain ⟨f1, f2, f3, f4⟩ := F.1
    have N := hT0.net
    have NR : Net (hi h0 (w + 1) 4) (hi h0 (w + 2)) (Wy h0 w) (Rc h0 w) := ⟨N.1, N.2.1, N.2.2.1, fun r z => N.2.2.2 r (hR.sub z)⟩
    obtain ⟨⟨k1, k2, k3, k4, k5, k6, k7⟩, ⟨n1, ⟨n2, n3, n4, n5⟩, ⟨n6, n7⟩, ⟨n8, n9⟩, ⟨n10, n11⟩, n12, n13⟩, ⟨m1, ⟨m2, m3, m4⟩, ⟨m5, m6⟩, ⟨m7, m8⟩, m9, m10⟩, ⟨o1, ⟨o2, o3, o4⟩, ⟨o5, o6, o7⟩, ⟨o8, o9, o10⟩, o11, o12⟩, ⟨b1, ⟨b2, b3⟩, ⟨b4, b5, b6⟩, b7, b8, b9⟩, ⟨j1, ⟨j2, j3, j4, j5, j6, j7, j8⟩, ⟨j9, j10⟩, j11⟩⟩ := hS
    refine wp_iload d_51_84 (by rfl) ?_
    refine wp_bipush d_51_86 (by decide) ?_
    refine wp_icmp_gt (tgt := 161) d_51_88 (by decide) (by omega) (by omega) (fun c_88 => ?_) (fun c_88 => ?_)
    · exact absurd c_88 (by omega)
    refine wp_iload d_51_91 (by rfl) ?_
    refine wp_if_eq (tgt := 161) d_51_93 (by decide) (by omega) (fun c_93 => ?_) (fun c_93 => ?_)
    · refine wp_aload_n d_51_161 (by rfl) ?_
      refine wp_getI (4) d_51_162 fl_4_29 rfl rfl (by assumption) (fun x_162 e_162 r_162 => ?_)
      subst e_162
      refine wp_iret d_51_165 rfl ?_
      exact ⟨_, rfl, E, ⟨g, F⟩, t4, t4b, X9.1.2.imp id (fun ⟨j, t, y1, y2⟩ => ⟨j, t, by omega, y2⟩), fun j t p hj hje => (J.resolve_left (by omega)).2 j t p hje⟩
    · refine wp_aload_n d_51_96 (by rfl) ?_
      refine wp_callV d_51_97 c_51_43 rfl (by rfl) (by rfl) ⟨4, rfl, rfl, by decide⟩ (by assumption) (by exact Nat.le_of_ble_eq_true rfl) (by exact Nat.le_of_ble_eq_true rfl) (s_fswap ⟨hT.2, hU.2⟩ F C) (fun v_97 h_97 q_97 => ?_) (fun _ _ q => q.elim)
      obtain ⟨rfl, W1, W2, W3, W4⟩ := q_97
      have EB := E.trans W3
      have hSb : Sk h_97 w := hS0.kept EB (PFaoff.pr hX.2) (by omega)
      have hTb : TT h_97 w X := hT0.kept EB PFaoff
      obtain ⟨rcE, hRb⟩ := Rc.kept hT0 hR EB PFaoff (fun a z y => by unfold PFa at z; omega) (fun a z y => by unfold PFa at z; omega)
      have b2 : hi h_97 (w + 47) 2 = d := by rw [W4]; exact t2
      have b3 : hi h_97 (w + 47) 3 = up := by rw [W4]; exact t3
      have b4 : hi h_97 (w + 47) 4 = hi h (w + 47) 4 := by rw [W4]
      have Tb : FaT h_97 h_97 w X (1 - g) A B T up := ⟨W1, fun s hs => ((W2 s hs).2.2 (by omega)).1, fm.rfl, fun _ _ _ => rfl, ⟨rfl, rfl⟩, by rw [b4]; exact ⟨t4, t4b⟩⟩
      have m1b : hi h_97 (w + 1) = hi h0 (w + 1) := PFaoff.i EB hX.1 (by omega) hX.2
      have m2b : hi h_97 (w + 2) = hi h0 (w + 2) := PFaoff.i EB hX.1 (by omega) hX.2
      have wyE : Wy h_97 w = Wy h0 w := Wy.kept hT0 EB PFaoff
      have fE : ∀ s, 0 ≤ s → s < hi h0 (w + 1) 4 → ∀ x, bF h_97 w (1 - g) s x = gF h w g s x := fun s s0 s1 x => (W2 s.toNat (by omega)).2.1 x
      have gE : ∀ s, 0 ≤ s → s < hi h0 (w + 1) 4 → ∀ x, gF h_97 w (1 - g) s x = gF h w g s x := fun s s0 s1 x => ((W2 s.toNat (by omega)).2.2 (by omega)).2 x
      refine wp_iconst d_51_100 ?_
      refine wp_istore d_51_101 (by decide) ?_
      refine wp_iconst d_51_103 ?_
      refine wp_istore d_51_104 (by decide) ?_
      refine wp_to [some (vR (some (w + 47))), some (vR (some (w + 1))), some (vR (some (w + 6))), some (vI o), some (vI d), some (vI T), some (vI up), some (vI (0)), some (vI ((K : Int) + 1)), some (vI (0))] ⟨rfl, rfl, rfl, rfl, rfl, rfl, rfl, rfl, rfl, rfl, trivial⟩ ?_
      have hrc := hRb.1
      refine l_frun hSb hTb b2 b3 ⟨hT.1, hU.1, hU.2⟩ hRb W1 (fun s hs => (W2 s hs).1) (fun h' b' T' gb' I' J' => ?_) (hi h_97 (w + 6) 3).toNat 0 0 h_97 (by omega) (by omega) Tb (Or.inl rfl) ?_ (fun _ _ _ _ _ => rfl)
      rotate_left
      · refine FRg.cut (fun r i j z _ => ?_) (FRg.nil (fun s s0 s1 x x' hx => Tb.mono ⟨s0, by rw [m1b] at s1; omega⟩ hx))
        obtain ⟨⟨j9, y1, y2⟩, -⟩ := z
        have := y2.1
        omega
      have E' := EB.trans T'.2.2.1
      have FR : FRound (hi h0 (w + 1) 4) (hi h0 (w + 2)) (Wy h0 w) (Rc h0 w) up d (gF h w g) (gF h' w (1 - g)) (hi h (w + 47) 4) (hi h' (w + 47) 4) := by
        obtain ⟨i1, i2, i3, i4⟩ := I'
        rw [m1b, wyE, b4] at i1
        rw [m1b, m2b, wyE] at i2
        rw [m2b, wyE] at i4
        rw [m1b] at i3
        have rw_ : ∀ r, (∃ j, j < hi h_97 (w + 6) 3 ∧ RcI h_97 w j r) → Rc h0 w r := fun r z => by rw [← rcE]; exact Rc_iff.mpr z
        have fr : ∀ s t P, From (hi h0 (w + 1) 4) (fun r => ∃ j, j < hi h_97 (w + 6) 3 ∧ RcI h_97 w j r) up (bF h_97 w (1 - g)) s t P → From (hi h0 (w + 1) 4) (Rc h0 w) up (gF h w g) s t P := by
          rintro s t P ⟨r, i, j, hR', y0, y1, y2, y3, y4, y5, y6, y7⟩
          have bb := ((NR.2.2.2 r (rw_ r hR')).2.1 i y0 (by omega)).1
          exact ⟨r, i, j, rw_ r hR', y0, y1, y2, by rw [← fE _ bb.1 bb.2]; exact y3, y4, y5, y6, by rw [← fE _ bb.1 bb.2]; exact y7⟩
        refine ⟨⟨i1.1, i1.2.imp id (fun ⟨s, t, y1, y2⟩ => ⟨s, t, fr _ _ _ y1, y2⟩)⟩, fun s s0 s1 x => ?_, i3, fun r i j hR' y0 y1 y2 y3 => ?_⟩
        · rw [← gE s s0 s1 x]
          exact ⟨(i2 s s0 s1 x).1, (i2 s s0 s1 x).2.imp id (fun ⟨s', t, y1, y2⟩ => ⟨s', t, fr _ _ _ y1, y2⟩)⟩
        · have bb := ((NR.2.2.2 r hR').2.1 i y0 (by omega)).1
          rw [← fE _ bb.1 bb.2]
          exact i4 r i j ⟨Rc_iff.mp (by rw [rcE]; exact hR'), y0, y1, y2⟩ y3
      have X2 := FEx.round NR ho (by omega) X9 FR
      refine kN h' b' ?_ _
      refine ⟨1 - g, T'.1, T'.2.1, X2, E', ⟨T'.2.2.2.2.1.1.trans b2, T'.2.2.2.2.1.2.trans b3, T'.2.2.2.2.2.1⟩, ?_⟩
      rcases gb' with z | z
      · refine Or.inr ⟨z, FEx.last NR ho X9 FR (fun s s0 s1 x => ?_)⟩
        rw [J' z s s0 (by omega) x]
        exact gE s s0 s1 x
      · exact Or.inl z
set_option maxRecDepth 100000 in
set_option maxHeartbeats 4000000 in
theorem l_fbeg {w X A B : Nat} {o d T up : Int} {h0 : Hp} (hS0 : Sk h0 w) (hT0 : TT h0 w X) (hR : RunsOk h0 w) (ho : 0 ≤ o ∧ o < hi h0 (w + 1) 4) (hd : 0 ≤ d ∧ d < hi h0 (w + 1) 4) (hT : 0 ≤ T ∧ T ≤ up) (hU : up ≤ 1000000 ∧ up - T ≤ 2880) {g : Nat} {h1 h : Hp} (E1 : fm (PFa w X) (PFa w X) h0 h1) (zv : hi h1 (w + 47) 2 = d ∧ hi h1 (w + 47) 3 = up ∧ hi h1 (w + 47) 4 = if o = d then 0 else 1000000000) (I : ZrI h1 h w X g A B 16) : wp 51 55 [some (vR (some (w + 47))), some (vR (some (w + 1))), some (vR (some (w + 6))), some (vI o), some (vI d), some (vI T), some (vI up), none, none, none] [] h (fun v h' => ∃ z, v = some (vI z) ∧ fm (PFa w X) (PFa w X) h0 h' ∧ (∃ g, FaS h' w X g A B) ∧ LpR h0 h' w o T up d z) noX := by
  have hX := hT0.2.2.2.2.2.2
  have hn16 := hT0.1
  obtain ⟨F, I1, E2, h47⟩ := I
  obtain ⟨f1, f2, f3, f4⟩ := F.1
  have E := E1.trans E2
  have hSh := hS0.kept E (PFaoff.pr hX.2) (by omega)
  have hTh := hT0.kept E PFaoff
  have v2 : hi h (w + 47) 2 = d := by rw [h47]; exact zv.1
  have v3 : hi h (w + 47) 3 = up := by rw [h47]; exact zv.2.1
  have v4 : hi h (w + 47) 4 = if o = d then 0 else 1000000000 := by rw [h47]; exact zv.2.2
  have v4b : 0 ≤ hi h (w + 47) 4 ∧ hi h (w + 47) 4 ≤ 1000000000 := by
    rw [v4]
    split <;> omega
  have T0 : FaT h h w X g A B T up := ⟨F, fun s hs => (OfC.none (I1 s (by omega))).1, fm.rfl, fun _ _ _ => rfl, ⟨rfl, rfl⟩, v4b⟩
  have m1b : hi h (w + 1) = hi h0 (w + 1) := PFaoff.i E hX.1 (by omega) hX.2
  have m2b : hi h (w + 2) = hi h0 (w + 2) := PFaoff.i E hX.1 (by omega) hX.2
  have wyE : Wy h w = Wy h0 w := Wy.kept hT0 E PFaoff
  have m14 : hi h (w + 1) 4 = hi h0 (w + 1) 4 := congrFun m1b 4
  obtain ⟨r1_, r2_, r3_, r4_⟩ := F.aftr (s := o) (by omega)
  have r5_ : kd h (aft w g o.toNat) = 9 := (F.2.2.2.1 _ r4_).1.1
  have sz0 : hi h (aft w g o.toNat) 2 = 0 := I1 _ (by omega)
  have N := hT0.net
  have NR : Net (hi h0 (w + 1) 4) (hi h0 (w + 2)) (Wy h0 w) (Rc h0 w) := ⟨N.1, N.2.1, N.2.2.1, fun r z => N.2.2.2 r (hR.sub z)⟩
  refine wp_aload_n d_51_55 (by rfl) ?_
  refine wp_getR (1) d_51_56 fl_4_17 rfl rfl (by assumption) (by assumption) ?_
  refine wp_iload_n d_51_59 (by rfl) ?_
  refine wp_aald d_51_60 (by first | omega | (simp only [kd_setI, kd_cpI]; omega)) (by first | omega | (simp only [kd_setI, kd_cpI]; omega)) (by apply isRf_of; assumption; rfl) (by omega) (by omega) (by assumption) ?_
  refine wp_iload d_51_61 (by rfl) ?_
  refine wp_iconst d_51_63 ?_
  refine wp_callV d_51_64 c_51_35 rfl (by rfl) (by rfl) ⟨8, rfl, rfl, by decide⟩ (by assumption) (by exact Nat.le_of_ble_eq_true rfl) (by exact Nat.le_of_ble_eq_true rfl) (s_offer (lo := T) (up := up) (F.2.2.2.1 _ r4_).1 (T0.2.1 _ (by omega)) ⟨by omega, by omega⟩ ⟨hT.1, hU.1, hU.2⟩ ⟨by omega, by omega⟩ (fun y => F.room r4_ (by unfold aft at sz0; omega) y)) (fun v_64 h_64 q_64 => ?_) (fun _ _ q => q.elim)
  obtain ⟨z_64, rfl, O_64⟩ := q_64
  obtain ⟨T1, u47, uo, us_, uz⟩ := T0.offer (s := o) (by omega) O_64
  have f4' := T1.1.1.2.2.2
  have f2' := T1.1.1.2.1
  refine wp_pop d_51_67 (by rfl) ?_
  refine wp_aload_n d_51_68 (by rfl) ?_
  refine wp_aload_n d_51_69 (by rfl) ?_
  refine wp_iload_n d_51_70 (by rfl) ?_
  refine wp_iload d_51_71 (by rfl) ?_
  refine wp_iconst d_51_73 ?_
  refine wp_callV d_51_74 c_51_39 rfl (by rfl) (by rfl) ⟨4, rfl, rfl, by decide⟩ (by assumption) (by exact Nat.le_of_ble_eq_true rfl) (by exact Nat.le_of_ble_eq_true rfl) (s_fwalk hSh hTh v2 v3 ⟨hT.1, hU.1, hU.2⟩ (s := o) (t := T) (P := 0) ⟨by omega, by omega⟩ (by omega) ⟨by omega, by omega⟩ T1) (fun v_74 h_74 q_74 => ?_) (fun _ _ q => q.elim)
  obtain ⟨z_74, rfl, y1_, T2, I2, J2⟩ := q_74
  refine wp_pop d_51_77 (by rfl) ?_
  refine wp_iconst d_51_78 ?_
  refine wp_istore d_51_79 (by decide) ?_
  refine wp_iconst d_51_81 ?_
  refine wp_istore d_51_82 (by decide) ?_
  refine wp_to [some (vR (some (w + 47))), some (vR (some (w + 1))), some (vR (some (w + 6))), some (vI o), some (vI d), some (vI T), some (vI up), some (vI (1)), some (vI (((0 : Nat) : Int) + 1)), none] ⟨rfl, rfl, rfl, rfl, rfl, rfl, rfl, rfl, rfl, trivial⟩ ?_
  refine l_fround hS0 hT0 hR ho hd hT hU 6 0 1 _ rfl ⟨g, T2.1, T2.2.1, ?_, E.trans T2.2.2.1, ⟨T2.2.2.2.2.1.1.trans v2, T2.2.2.2.2.1.2.trans v3, T2.2.2.2.2.2.1⟩, Or.inl rfl⟩
  rw [u47, v4, m1b] at I2
  have hWi : ∀ s s' m, Wy h0 w s s' m ↔ ∃ q, q < hi h0 (w + 1) 5 ∧ WyI h w q s s' m := fun s s' m => by
    rw [← wyE, ← m1b]
    exact Wy_iff
  refine FEx.start NR ho hd hT.2 hWi (fun s s0 s1 x => ?_) I2
  by_cases hs : s = o
  · rw [hs, us_ x]
    have e0 : gF h w g o x = 1000000000 := (OfC.none (lo := 0) (up := 0) sz0).2 x
    rw [e0]
    by_cases hx : T ≤ x
    · rw [if_pos hx, if_pos ⟨rfl, hx⟩]
      rfl
    · rw [if_neg hx, if_neg (fun z => hx z.2)]
  · rw [uo s s0 (by omega) hs x, if_neg (fun z => hs z.1)]
    exact (OfC.none (lo := 0) (up := 0) (I1 s.toNat (by omega))).2 x
set_option maxRecDepth 100000 in
set_option maxHeartbeats 4000000 in
theorem s_leastPrice {w X A B : Nat} {o d T up : Int} {h0 : Hp} (hS0 : Sk h0 w) (hT0 : TT h0 w X) (hR : RunsOk h0 w) (ho : 0 ≤ o ∧ o < hi h0 (w + 1) 4) (hd : 0 ≤ d ∧ d < hi h0 (w + 1) 4) (hT : 0 ≤ T ∧ T ≤ up) (hU : up ≤ 1000000 ∧ up - T ≤ 2880) (FB : ∃ g, FaS h0 w X g A B) : wp 51 0 (entL [vR (some (w + 47)), vR (some (w + 1)), vR (some (w + 6)), vI o, vI d, vI T, vI up] (mL 51)) [] h0 (fun v h' => ∃ z, v = some (vI z) ∧ fm (PFa w X) (PFa w X) h0 h' ∧ (∃ g, FaS h' w X g A B) ∧ LpR h0 h' w o T up d z) noX := by
  obtain ⟨g, F⟩ := FB
  have hX := hT0.2.2.2.2.2.2
  have hn16 := hT0.1
  obtain ⟨f1, f2, f3, f4⟩ := F.1
  refine wp_aload_n d_51_0 (by rfl) ?_
  refine wp_iload d_51_1 (by rfl) ?_
  refine wp_putI (2) d_51_3 fl_4_21 rfl rfl (Or.inl (by rfl)) (by first | assumption | (simp only [kd_setI, kd_setR]; assumption)) (by omega) (fun q => nomatch q) ?_
  refine wp_aload_n d_51_6 (by rfl) ?_
  refine wp_iload d_51_7 (by rfl) ?_
  refine wp_putI (3) d_51_9 fl_4_25 rfl rfl (Or.inl (by rfl)) (by first | assumption | (simp only [kd_setI, kd_setR]; assumption)) (by omega) (fun q => nomatch q) ?_
  refine wp_aload_n d_51_12 (by rfl) ?_
  refine wp_iload_n d_51_13 (by rfl) ?_
  refine wp_iload d_51_14 (by rfl) ?_
  refine wp_icmp_ne (tgt := 23) d_51_16 (by decide) (by omega) (by omega) (fun c_16 => ?_) (fun c_16 => ?_)
  · refine wp_ldc (1000000000) d_51_23 ck_4_28 (by decide) ?_
    refine wp_putI (4) d_51_25 fl_4_29 rfl rfl (Or.inl (by rfl)) (by first | assumption | (simp only [kd_setI, kd_setR]; assumption)) (by omega) (fun q => nomatch q) ?_
    refine wp_iconst d_51_28 ?_
    refine wp_istore d_51_29 (by decide) ?_
    refine wp_to [some (vR (some (w + 47))), some (vR (some (w + 1))), some (vR (some (w + 6))), some (vI o), some (vI d), some (vI T), some (vI up), some (vI (0)), none, none] ⟨rfl, rfl, rfl, rfl, rfl, rfl, rfl, rfl, trivial⟩ ?_
    obtain ⟨A1, A2, A3⟩ := F.num 2 d
    obtain ⟨B1, B2, B3⟩ := A1.num 3 up
    first
      | (obtain ⟨C1, C2, C3⟩ := B1.num 4 0
         have zv : hi (setI (setI (setI h0 (w + 47) 2 d) (w + 47) 3 up) (w + 47) 4 0) (w + 47) 2 = d ∧ hi (setI (setI (setI h0 (w + 47) 2 d) (w + 47) 3 up) (w + 47) 4 0) (w + 47) 3 = up ∧ hi (setI (setI (setI h0 (w + 47) 2 d) (w + 47) 3 up) (w + 47) 4 0) (w + 47) 4 = if o = d then 0 else 1000000000 := by
           rw [if_pos (by omega)]
           simp only [hi_upF]
           refine ⟨?_, ?_, upF_same _ _ _⟩
           · rw [upF_ne _ (by decide), upF_ne _ (by decide), upF_same]
           · rw [upF_ne _ (by decide), upF_same]
         exact l_fzero (fun h I => l_fbeg hS0 hT0 hR ho hd hT hU ((A3.trans B3).trans C3) zv I) 16 0 _ (by omega) (by omega) ⟨C1, fun s hs => by omega, fm.rfl, rfl⟩)
      | (obtain ⟨C1, C2, C3⟩ := B1.num 4 1000000000
         have zv : hi (setI (setI (setI h0 (w + 47) 2 d) (w + 47) 3 up) (w + 47) 4 1000000000) (w + 47) 2 = d ∧ hi (setI (setI (setI h0 (w + 47) 2 d) (w + 47) 3 up) (w + 47) 4 1000000000) (w + 47) 3 = up ∧ hi (setI (setI (setI h0 (w + 47) 2 d) (w + 47) 3 up) (w + 47) 4 1000000000) (w + 47) 4 = if o = d then 0 else 1000000000 := by
           rw [if_neg (by omega)]
           simp only [hi_upF]
           refine ⟨?_, ?_, upF_same _ _ _⟩
           · rw [upF_ne _ (by decide), upF_ne _ (by decide), upF_same]
           · rw [upF_ne _ (by decide), upF_same]
         exact l_fzero (fun h I => l_fbeg hS0 hT0 hR ho hd hT hU ((A3.trans B3).trans C3) zv I) 16 0 _ (by omega) (by omega) ⟨C1, fun s hs => by omega, fm.rfl, rfl⟩)
  · refine wp_iconst d_51_19 ?_
    refine wp_goto (tgt := 25) d_51_20 (by decide) ?_
    refine wp_putI (4) d_51_25 fl_4_29 rfl rfl (Or.inl (by rfl)) (by first | assumption | (simp only [kd_setI, kd_setR]; assumption)) (by omega) (fun q => nomatch q) ?_
    refine wp_iconst d_51_28 ?_
    refine wp_istore d_51_29 (by decide) ?_
    refine wp_to [some (vR (some (w + 47))), some (vR (some (w + 1))), some (vR (some (w + 6))), some (vI o), some (vI d), some (vI T), some (vI up), some (vI (0)), none, none] ⟨rfl, rfl, rfl, rfl, rfl, rfl, rfl, rfl, trivial⟩ ?_
    obtain ⟨A1, A2, A3⟩ := F.num 2 d
    obtain ⟨B1, B2, B3⟩ := A1.num 3 up
    first
      | (obtain ⟨C1, C2, C3⟩ := B1.num 4 0
         have zv : hi (setI (setI (setI h0 (w + 47) 2 d) (w + 47) 3 up) (w + 47) 4 0) (w + 47) 2 = d ∧ hi (setI (setI (setI h0 (w + 47) 2 d) (w + 47) 3 up) (w + 47) 4 0) (w + 47) 3 = up ∧ hi (setI (setI (setI h0 (w + 47) 2 d) (w + 47) 3 up) (w + 47) 4 0) (w + 47) 4 = if o = d then 0 else 1000000000 := by
           rw [if_pos (by omega)]
           simp only [hi_upF]
           refine ⟨?_, ?_, upF_same _ _ _⟩
           · rw [upF_ne _ (by decide), upF_ne _ (by decide), upF_same]
           · rw [upF_ne _ (by decide), upF_same]
         exact l_fzero (fun h I => l_fbeg hS0 hT0 hR ho hd hT hU ((A3.trans B3).trans C3) zv I) 16 0 _ (by omega) (by omega) ⟨C1, fun s hs => by omega, fm.rfl, rfl⟩)
      | (obtain ⟨C1, C2, C3⟩ := B1.num 4 1000000000
         have zv : hi (setI (setI (setI h0 (w + 47) 2 d) (w + 47) 3 up) (w + 47) 4 1000000000) (w + 47) 2 = d ∧ hi (setI (setI (setI h0 (w + 47) 2 d) (w + 47) 3 up) (w + 47) 4 1000000000) (w + 47) 3 = up ∧ hi (setI (setI (setI h0 (w + 47) 2 d) (w + 47) 3 up) (w + 47) 4 1000000000) (w + 47) 4 = if o = d then 0 else 1000000000 := by
           rw [if_neg (by omega)]
           simp only [hi_upF]
           refine ⟨?_, ?_, upF_same _ _ _⟩
           · rw [upF_ne _ (by decide), upF_ne _ (by decide), upF_same]
           · rw [upF_ne _ (by decide), upF_same]
         exact l_fzero (fun h I => l_fbeg hS0 hT0 hR ho hd hT hU ((A3.trans B3).trans C3) zv I) 16 0 _ (by omega) (by omega) ⟨C1, fun s hs => by omega, fm.rfl, rfl⟩)
