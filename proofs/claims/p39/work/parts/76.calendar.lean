/-! ===== the table is made: a calendar ===== -/
theorem s_drawT {G sa X : Nat} {n S T D : Int} {h : Hp} (q : DrT h G sa X S T D) (hD : D ≤ 1000000) (hn : 0 < n ∧ n ≤ 2147483647) : wp 100 0 (entL [vR (some G), vI n] (mL 100)) [] h (fun v h' => ∃ z, v = some (vI z) ∧ (0 ≤ z ∧ z < n) ∧ DrT h' G sa X S T (D + 1) ∧ ch (fun a => a = G) nP h h' ∧ (∀ a, a ≠ G → hi h' a = hi h a) ∧ ∀ k, k ≠ 2 → hi h' G k = hi h G k) noX :=
  wp_mono (fun v h' y => by
    obtain ⟨z, y1, y2, rfl⟩ := y
    have e : ∀ k, k ≠ 2 → hi (setI h G 2 (hi h G 2 + 1)) G k = hi h G k := fun k hk => by rw [hi_upF, upF_ne _ hk]
    have c : ch (fun a => a = G) nP h (setI h G 2 (hi h G 2 + 1)) := ch_setI rfl
    exact ⟨z, y1, y2, q.same (c.mono (fun a z => Or.inl z) (fun a z => z)) (e 5 (by decide)) (e 7 (by decide)) ((e 3 (by decide)).trans q.2.2.1.2.1.1) ((e 9 (by decide)).trans q.2.2.1.2.1.2.2.2) (by rw [hi_upF, upF_same]; have := q.2.2.2.2; omega), c, fun a ha => hi_setI_ne ha, e⟩) (fun _ _ y => y) (s_draw q.1 ⟨q.2.2.2.2.1, by have := q.2.2.2.2.2; omega⟩ hn)
def RCc (h : Hp) (G : Nat) (c wd fi la d : Int) : Prop := (hi h (G + 158 + c.toNat) d = 1 ∧ (fi ≤ d ∧ d ≤ la) ∧ vand (vshr wd (d.tmod 7)) 1 = 1) ∨ (hi h (G + 158 + c.toNat) d = 0 ∧ ¬ ((fi ≤ d ∧ d ≤ la) ∧ vand (vshr wd (d.tmod 7)) 1 = 1))
set_option maxRecDepth 100000 in
set_option maxHeartbeats 4000000 in
theorem l_tCalRow {G sa X : Nat} {S T D wd fi la c : Int} {Q : Option AV → Hp → Prop} {E : String → Hp → Prop} (hwd : inR wd) (hfi : inR fi) (hla : inR la) : ∀ (n : Nat) (h : Hp) (d : Int), 0 ≤ d → d + n = 12 → DrT h G sa X S T D → hi h (G + 1 + 1) 6 = c → 0 ≤ c → c < 3 → (∀ d', 0 ≤ d' → d' < d → RCc h G c wd fi la d') → (∀ h', DrT h' G sa X S T D → ch (PU G) nP h h' → (∀ a, a ≠ G + 158 + c.toNat → hi h' a = hi h a) → (∀ d', 0 ≤ d' → d' < 12 → RCc h' G c wd fi la d') → wp 103 94 [some (vR (some G)), some (vI wd), some (vI fi), some (vI la), some (vI (12))] [] h' Q E) → wp 103 39 [some (vR (some G)), some (vI wd), some (vI fi), some (vI la), some (vI (d))] [] h Q E := by
  intro n
  induction n with
  | zero =>
    intro h d hd0 hd q hc c0 c3 hr_ kk
    refine wp_iload d_103_39 (by rfl) ?_
    refine wp_bipush d_103_41 (by decide) ?_
    refine wp_icmp_ge (tgt := 94) d_103_43 (by decide) (by omega) (by omega) (fun c_43 => ?_) (fun c_43 => ?_)
    rotate_left
    · exact absurd c_43 (by omega)
    refine wp_to [some (vR (some G)), some (vI wd), some (vI fi), some (vI la), some (vI (d))] ⟨rfl, rfl, rfl, rfl, rfl, trivial⟩ ?_
    have e12 : d = 12 := by omega
    subst e12
    exact kk h q ch.rfl (fun _ _ => rfl) hr_
  | succ n ih =>
    intro h d hd0 hd q hc c0 c3 hr_ kk
    obtain ⟨⟨tk, tr0, tr1, tr4, tr6, tr8, tr10, tr11, tr12, tr13, tr14, tr15, tr16⟩, ⟨⟨a4, b4⟩, ⟨a6, b6⟩, ⟨a10, b10⟩, ⟨a11, b11⟩, a12, b12⟩, ⟨mz8, mz13, mz14, mz15, mz16⟩, -⟩ := q.1
    obtain ⟨rn3, rn5, rn7, rn9⟩ := q.2.2.1.2.1
    obtain ⟨cn4, cn5, cn6, cn7⟩ := q.2.2.2.1
    have rwk : hr h (G + 157) (hi h G 7) = some (G + 158 + c.toNat) ∧ kd h (G + 158 + c.toNat) = 102 ∧ ln h (G + 158 + c.toNat) = 12 := by
      have := mz8.row (z := hi h G 7) (by omega) (by omega)
      rw [show (hi h G 7).toNat = c.toNat by rw [rn7, hc]] at this
      exact this
    have vi := vand_in (vshr wd (d.tmod 7)) 1
    have vs := vshr_in wd (d.tmod 7)
    have t1_ := Int.tmod_nonneg (a := d) 7 hd0
    have t2_ := Int.tmod_lt_of_pos d (by decide : (0 : Int) < 7)
    refine wp_iload d_103_39 (by rfl) ?_
    refine wp_bipush d_103_41 (by decide) ?_
    refine wp_icmp_ge (tgt := 94) d_103_43 (by decide) (by omega) (by omega) (fun c_43 => ?_) (fun c_43 => ?_)
    · exact absurd c_43 (by omega)
    refine wp_aload_n d_103_46 (by rfl) ?_
    refine wp_getR (8) d_103_47 fl_12_27 rfl rfl (by first | assumption | (simp only [kd_setI, kd_setR]; assumption)) (by first | assumption | (simp only [hr_setI]; assumption)) ?_
    refine wp_aload_n d_103_50 (by rfl) ?_
    refine wp_getI (7) d_103_51 fl_12_73 rfl rfl (by first | assumption | (simp only [kd_setI, kd_setR]; assumption)) (fun x_51 e_51 r_51 => ?_)
    subst e_51
    refine wp_aald d_103_54 (by have := mz8.1; omega) (by have := mz8.1; omega) (isRf_of mz8.1 rfl) (by omega) (by have := mz8.2.1; omega) rwk.1 ?_
    refine wp_iload d_103_55 (by rfl) ?_
    refine wp_iload d_103_57 (by rfl) ?_
    refine wp_iload_n d_103_59 (by rfl) ?_
    refine wp_icmp_lt (tgt := 86) d_103_60 (by decide) (by omega) (by omega) (fun c_60 => ?_) (fun c_60 => ?_)
    · refine wp_iconst d_103_86 ?_
      refine wp_bast d_103_87 rwk.2.1 (by omega) (by omega) (by decide) ?_
      refine wp_iinc d_103_88 (by rfl) (by decide) ?_
      refine wp_goto (tgt := 39) d_103_91 (by decide) ?_
      refine wp_to [some (vR (some G)), some (vI wd), some (vI fi), some (vI la), some (vI (d + 1))] ⟨rfl, rfl, rfl, rfl, rfl, trivial⟩ ?_
      have key : ∀ b : Int, (b = 1 ∧ (fi ≤ d ∧ d ≤ la) ∧ vand (vshr wd (d.tmod 7)) 1 = 1) ∨ (b = 0 ∧ ¬ ((fi ≤ d ∧ d ≤ la) ∧ vand (vshr wd (d.tmod 7)) 1 = 1)) → wp 103 39 [some (vR (some G)), some (vI wd), some (vI fi), some (vI la), some (vI (d + 1))] [] (setI h (G + 158 + c.toNat) d b) Q E := by
        intro b hb
        have C1 : ch (PU G) nP h (setI h (G + 158 + c.toNat) d b) := ch_setI (Or.inr ⟨by omega, by omega⟩)
        have eo : ∀ a, a ≠ G + 158 + c.toNat → hi (setI h (G + 158 + c.toNat) d b) a = hi h a := fun a ha => hi_setI_ne ha
        have ew : hi (setI h (G + 158 + c.toNat) d b) (G + 158 + c.toNat) = upF (hi h (G + 158 + c.toNat)) d b := hi_upF _ _ _ _
        have eG := eo G (by omega)
        have q' : DrT (setI h (G + 158 + c.toNat) d b) G sa X S T D := q.sameG C1 (by rw [eG]) (by rw [eG]) (by rw [eG]; exact rn3) (by rw [eG]; exact rn9) (by rw [eG]; exact q.2.2.2.2) (fun c' d' z0 z1 => by rw [eo _ (by omega)]) (fun t z0 z1 => by rw [eo _ (by omega)])
        generalize setI h (G + 158 + c.toNat) d b = g at *
        refine ih g (d + 1) (by omega) (by omega) q' (by rw [eo _ (by omega)]; exact hc) c0 c3 (fun d' z0 z1 => ?_) (fun h' y1 y2 y3 y4 => kk h' y1 (C1.trans y2) (fun a ha => (y3 a ha).trans (eo a ha)) y4)
        unfold RCc
        rw [ew]
        by_cases hdd : d' = d
        · rw [hdd, upF_same]; exact hb
        · rw [upF_ne _ hdd]
          exact hr_ d' z0 (by omega)
      first
        | exact key 1 (Or.inl ⟨rfl, ⟨by omega, by omega⟩, by omega⟩)
        | exact key 0 (Or.inr ⟨rfl, fun z => by omega⟩)
    · refine wp_iload d_103_63 (by rfl) ?_
      refine wp_iload_n d_103_65 (by rfl) ?_
      refine wp_icmp_gt (tgt := 86) d_103_66 (by decide) (by omega) (by omega) (fun c_66 => ?_) (fun c_66 => ?_)
      · refine wp_iconst d_103_86 ?_
        refine wp_bast d_103_87 rwk.2.1 (by omega) (by omega) (by decide) ?_
        refine wp_iinc d_103_88 (by rfl) (by decide) ?_
        refine wp_goto (tgt := 39) d_103_91 (by decide) ?_
        refine wp_to [some (vR (some G)), some (vI wd), some (vI fi), some (vI la), some (vI (d + 1))] ⟨rfl, rfl, rfl, rfl, rfl, trivial⟩ ?_
        have key : ∀ b : Int, (b = 1 ∧ (fi ≤ d ∧ d ≤ la) ∧ vand (vshr wd (d.tmod 7)) 1 = 1) ∨ (b = 0 ∧ ¬ ((fi ≤ d ∧ d ≤ la) ∧ vand (vshr wd (d.tmod 7)) 1 = 1)) → wp 103 39 [some (vR (some G)), some (vI wd), some (vI fi), some (vI la), some (vI (d + 1))] [] (setI h (G + 158 + c.toNat) d b) Q E := by
          intro b hb
          have C1 : ch (PU G) nP h (setI h (G + 158 + c.toNat) d b) := ch_setI (Or.inr ⟨by omega, by omega⟩)
          have eo : ∀ a, a ≠ G + 158 + c.toNat → hi (setI h (G + 158 + c.toNat) d b) a = hi h a := fun a ha => hi_setI_ne ha
          have ew : hi (setI h (G + 158 + c.toNat) d b) (G + 158 + c.toNat) = upF (hi h (G + 158 + c.toNat)) d b := hi_upF _ _ _ _
          have eG := eo G (by omega)
          have q' : DrT (setI h (G + 158 + c.toNat) d b) G sa X S T D := q.sameG C1 (by rw [eG]) (by rw [eG]) (by rw [eG]; exact rn3) (by rw [eG]; exact rn9) (by rw [eG]; exact q.2.2.2.2) (fun c' d' z0 z1 => by rw [eo _ (by omega)]) (fun t z0 z1 => by rw [eo _ (by omega)])
          generalize setI h (G + 158 + c.toNat) d b = g at *
          refine ih g (d + 1) (by omega) (by omega) q' (by rw [eo _ (by omega)]; exact hc) c0 c3 (fun d' z0 z1 => ?_) (fun h' y1 y2 y3 y4 => kk h' y1 (C1.trans y2) (fun a ha => (y3 a ha).trans (eo a ha)) y4)
          unfold RCc
          rw [ew]
          by_cases hdd : d' = d
          · rw [hdd, upF_same]; exact hb
          · rw [upF_ne _ hdd]
            exact hr_ d' z0 (by omega)
        first
          | exact key 1 (Or.inl ⟨rfl, ⟨by omega, by omega⟩, by omega⟩)
          | exact key 0 (Or.inr ⟨rfl, fun z => by omega⟩)
      · refine wp_iload_n d_103_69 (by rfl) ?_
        refine wp_iload d_103_70 (by rfl) ?_
        refine wp_bipush d_103_72 (by decide) ?_
        refine wp_irem d_103_74 (by omega) (by omega) (by omega) ?_
        refine wp_ishr d_103_75 ?_
        refine wp_iconst d_103_76 ?_
        refine wp_iand d_103_77 ?_
        refine wp_iconst d_103_78 ?_
        refine wp_icmp_ne (tgt := 86) d_103_79 (by decide) (by omega) (by omega) (fun c_79 => ?_) (fun c_79 => ?_)
        · refine wp_iconst d_103_86 ?_
          refine wp_bast d_103_87 rwk.2.1 (by omega) (by omega) (by decide) ?_
          refine wp_iinc d_103_88 (by rfl) (by decide) ?_
          refine wp_goto (tgt := 39) d_103_91 (by decide) ?_
          refine wp_to [some (vR (some G)), some (vI wd), some (vI fi), some (vI la), some (vI (d + 1))] ⟨rfl, rfl, rfl, rfl, rfl, trivial⟩ ?_
          have key : ∀ b : Int, (b = 1 ∧ (fi ≤ d ∧ d ≤ la) ∧ vand (vshr wd (d.tmod 7)) 1 = 1) ∨ (b = 0 ∧ ¬ ((fi ≤ d ∧ d ≤ la) ∧ vand (vshr wd (d.tmod 7)) 1 = 1)) → wp 103 39 [some (vR (some G)), some (vI wd), some (vI fi), some (vI la), some (vI (d + 1))] [] (setI h (G + 158 + c.toNat) d b) Q E := by
            intro b hb
            have C1 : ch (PU G) nP h (setI h (G + 158 + c.toNat) d b) := ch_setI (Or.inr ⟨by omega, by omega⟩)
            have eo : ∀ a, a ≠ G + 158 + c.toNat → hi (setI h (G + 158 + c.toNat) d b) a = hi h a := fun a ha => hi_setI_ne ha
            have ew : hi (setI h (G + 158 + c.toNat) d b) (G + 158 + c.toNat) = upF (hi h (G + 158 + c.toNat)) d b := hi_upF _ _ _ _
            have eG := eo G (by omega)
            have q' : DrT (setI h (G + 158 + c.toNat) d b) G sa X S T D := q.sameG C1 (by rw [eG]) (by rw [eG]) (by rw [eG]; exact rn3) (by rw [eG]; exact rn9) (by rw [eG]; exact q.2.2.2.2) (fun c' d' z0 z1 => by rw [eo _ (by omega)]) (fun t z0 z1 => by rw [eo _ (by omega)])
            generalize setI h (G + 158 + c.toNat) d b = g at *
            refine ih g (d + 1) (by omega) (by omega) q' (by rw [eo _ (by omega)]; exact hc) c0 c3 (fun d' z0 z1 => ?_) (fun h' y1 y2 y3 y4 => kk h' y1 (C1.trans y2) (fun a ha => (y3 a ha).trans (eo a ha)) y4)
            unfold RCc
            rw [ew]
            by_cases hdd : d' = d
            · rw [hdd, upF_same]; exact hb
            · rw [upF_ne _ hdd]
              exact hr_ d' z0 (by omega)
          first
            | exact key 1 (Or.inl ⟨rfl, ⟨by omega, by omega⟩, by omega⟩)
            | exact key 0 (Or.inr ⟨rfl, fun z => by omega⟩)
        · refine wp_iconst d_103_82 ?_
          refine wp_goto (tgt := 87) d_103_83 (by decide) ?_
          refine wp_bast d_103_87 rwk.2.1 (by omega) (by omega) (by decide) ?_
          refine wp_iinc d_103_88 (by rfl) (by decide) ?_
          refine wp_goto (tgt := 39) d_103_91 (by decide) ?_
          refine wp_to [some (vR (some G)), some (vI wd), some (vI fi), some (vI la), some (vI (d + 1))] ⟨rfl, rfl, rfl, rfl, rfl, trivial⟩ ?_
          have key : ∀ b : Int, (b = 1 ∧ (fi ≤ d ∧ d ≤ la) ∧ vand (vshr wd (d.tmod 7)) 1 = 1) ∨ (b = 0 ∧ ¬ ((fi ≤ d ∧ d ≤ la) ∧ vand (vshr wd (d.tmod 7)) 1 = 1)) → wp 103 39 [some (vR (some G)), some (vI wd), some (vI fi), some (vI la), some (vI (d + 1))] [] (setI h (G + 158 + c.toNat) d b) Q E := by
            intro b hb
            have C1 : ch (PU G) nP h (setI h (G + 158 + c.toNat) d b) := ch_setI (Or.inr ⟨by omega, by omega⟩)
            have eo : ∀ a, a ≠ G + 158 + c.toNat → hi (setI h (G + 158 + c.toNat) d b) a = hi h a := fun a ha => hi_setI_ne ha
            have ew : hi (setI h (G + 158 + c.toNat) d b) (G + 158 + c.toNat) = upF (hi h (G + 158 + c.toNat)) d b := hi_upF _ _ _ _
            have eG := eo G (by omega)
            have q' : DrT (setI h (G + 158 + c.toNat) d b) G sa X S T D := q.sameG C1 (by rw [eG]) (by rw [eG]) (by rw [eG]; exact rn3) (by rw [eG]; exact rn9) (by rw [eG]; exact q.2.2.2.2) (fun c' d' z0 z1 => by rw [eo _ (by omega)]) (fun t z0 z1 => by rw [eo _ (by omega)])
            generalize setI h (G + 158 + c.toNat) d b = g at *
            refine ih g (d + 1) (by omega) (by omega) q' (by rw [eo _ (by omega)]; exact hc) c0 c3 (fun d' z0 z1 => ?_) (fun h' y1 y2 y3 y4 => kk h' y1 (C1.trans y2) (fun a ha => (y3 a ha).trans (eo a ha)) y4)
            unfold RCc
            rw [ew]
            by_cases hdd : d' = d
            · rw [hdd, upF_same]; exact hb
            · rw [upF_ne _ hdd]
              exact hr_ d' z0 (by omega)
          first
            | exact key 1 (Or.inl ⟨rfl, ⟨by omega, by omega⟩, by omega⟩)
            | exact key 0 (Or.inr ⟨rfl, fun z => by omega⟩)
set_option maxRecDepth 100000 in
set_option maxHeartbeats 4000000 in
theorem t_tCal {G sa : Nat} {S T D wd fi la : Int} {g : Hp} (q : DrT g G sa (nx g) S T D) (hc : hi g (G + 1 + 1) 6 < 3) (z7 : hi g (G + 1 + 1) 7 = 0) (hS : S = hi g (G + 1 + 1) 4) (hT : T = hi g (G + 1 + 1) 7) (hD : D ≤ 800000) (hwd : 0 ≤ wd ∧ wd ≤ 127) (hfi : 0 ≤ fi ∧ fi ≤ la ∧ la ≤ 365) (hr_ : ∀ d, 0 ≤ d → d < 12 → RCc g G (hi g (G + 1 + 1) 6) wd fi la d) (r1 : nx g + 2 ≤ cn g) (r2 : us g + 370 ≤ cs g) : wp 103 94 [some (vR (some G)), some (vI wd), some (vI fi), some (vI la), some (vI 12)] [] g (fun v h' => v = some (vI 1) ∧ DrS h' G sa (nx h') (D + 5) ∧ fm (PB G) (RB G) g h' ∧ nx h' = nx g + 2 ∧ us h' = us g + 370 ∧ (∀ k, k ≠ 6 → hi h' (G + 1 + 1) k = hi g (G + 1 + 1) k) ∧ hi h' (G + 1 + 1) 6 = hi g (G + 1 + 1) 6 + 1) noX := by
  obtain ⟨⟨tk, tr0, tr1, tr4, tr6, tr8, tr10, tr11, tr12, tr13, tr14, tr15, tr16⟩, ⟨⟨a4, b4⟩, ⟨a6, b6⟩, ⟨a10, b10⟩, ⟨a11, b11⟩, a12, b12⟩, ⟨mz8, mz13, mz14, mz15, mz16⟩, -⟩ := q.1
  obtain ⟨rn3, rn5, rn7, rn9⟩ := q.2.2.1.2.1
  obtain ⟨cn4, cn5, cn6, cn7⟩ := q.2.2.2.1
  have ci_ := q.2.2.1.1.2.2.1.1
  have hXn := q.1.2.2.2.2.2.2
  have kS := q.2.1.1.1
  refine wp_aload_n d_103_94 (by rfl) ?_
  refine wp_getR (0) d_103_95 fl_12_10 rfl rfl (by first | assumption | (simp only [kd_setI, kd_setR]; assumption)) (by first | assumption | (simp only [hr_setI]; assumption)) ?_
  refine wp_iload_n d_103_98 (by rfl) ?_
  refine wp_iload_n d_103_99 (by rfl) ?_
  refine wp_iload_n d_103_100 (by rfl) ?_
  refine wp_callV d_103_101 c_103_76 rfl (by rfl) (by rfl) ⟨0, rfl, rfl, by decide⟩ (by first | assumption | (simp only [kd_setI, kd_setR]; assumption)) (by exact Nat.le_of_ble_eq_true rfl) (by exact Nat.le_of_ble_eq_true rfl) (s_addCalendar q.2.1 q.2.2.1.1 hwd hfi (by omega) r1 r2) (fun v_101 h_101 q_101 => ?_) (fun _ _ q => q.elim)
  obtain ⟨rfl, h1, fC, rfl⟩ := q_101
  have fC0 := fC
  have eG5 : hi (setI (setR h1 (G + 1 + 4) (hi g (G + 1 + 1) 6) (some (nx g))) (G + 1 + 1) 6 (hi g (G + 1 + 1) 6 + 1)) G = hi g G := by
    rw [hi_setI_ne (by omega), hi_setR]
    exact funext fun k => fC.1.2.2.1 G k (by omega) (fun z => z)
  have ktk : kd (setI (setR h1 (G + 1 + 4) (hi g (G + 1 + 1) 6) (some (nx g))) (G + 1 + 1) 6 (hi g (G + 1 + 1) 6 + 1)) G = 13 := (fC.1.2.1 G (by omega)).1.trans tk
  refine wp_aload_n d_103_104 (by rfl) ?_
  refine wp_dup d_103_105 (by rfl) ?_
  refine wp_getI (7) d_103_106 fl_12_73 rfl rfl ktk (fun x_106 e_106 r_106 => ?_)
  rw [eG5] at e_106
  subst e_106
  refine wp_dup_x1 d_103_109 (by rfl) (by rfl) ?_
  refine wp_iconst d_103_110 ?_
  refine wp_iadd d_103_111 ?_
  refine wp_putI (7) d_103_112 fl_12_73 rfl rfl (Or.inl (by rfl)) (by first | assumption | (simp only [kd_setI, kd_setR]; assumption)) (by omega) (fun q => nomatch q) ?_
  obtain ⟨D8, c8, c86⟩ := q.cal fC0 hc z7 hr_
  have e8n : nx (setI (setI (setR h1 (G + 1 + 4) (hi g (G + 1 + 1) 6) (some (nx g))) (G + 1 + 1) 6 (hi g (G + 1 + 1) 6 + 1)) G 7 (hi g G 7 + 1)) = nx h1 := rfl
  have e8u : us (setI (setI (setR h1 (G + 1 + 4) (hi g (G + 1 + 1) 6) (some (nx g))) (G + 1 + 1) 6 (hi g (G + 1 + 1) 6 + 1)) G 7 (hi g G 7 + 1)) = us h1 := rfl
  have fC1 := fC0.1
  have F8 : fm (PB G) (RB G) g (setI (setI (setR h1 (G + 1 + 4) (hi g (G + 1 + 1) 6) (some (nx g))) (G + 1 + 1) 6 (hi g (G + 1 + 1) 6 + 1)) G 7 (hi g G 7 + 1)) := (((fC1.mono (fun a z => z.elim) (fun a z => z.elim)).putR (Or.inr (Or.inl ⟨by omega, by omega⟩))).put (Or.inr (Or.inr (Or.inl ⟨by omega, by omega⟩)))).put (Or.inr (Or.inl rfl))
  clear ktk eG5
  generalize setI (setI (setR h1 (G + 1 + 4) (hi g (G + 1 + 1) 6) (some (nx g))) (G + 1 + 1) 6 (hi g (G + 1 + 1) 6 + 1)) G 7 (hi g G 7 + 1) = g2 at D8 c8 c86 e8n e8u F8 ⊢
  have D9 := D8.toS (by rw [c8 4 (by decide)]; exact hS) (by rw [c8 7 (by decide)]; exact hT)
  rw [← e8n] at D9
  have kt8 := D9.1.1.1
  have fn_ := fC0.2.1
  have fu_ := fC0.2.2.1
  refine wp_icmp_eq (tgt := 120) d_103_115 (by decide) (by omega) (by omega) (fun c_115 => ?_) (fun c_115 => ?_)
  rotate_left
  · exact absurd c_115 (by omega)
  refine wp_aload_n d_103_120 (by rfl) ?_
  refine wp_iconst d_103_121 ?_
  refine wp_callV d_103_122 c_103_69 rfl (by rfl) (by rfl) ⟨12, rfl, rfl, by decide⟩ (by first | assumption | (simp only [kd_setI, kd_setR]; assumption)) (by exact Nat.le_of_ble_eq_true rfl) (by exact Nat.le_of_ble_eq_true rfl) (s_drawS D9 (by omega) (by omega)) (fun v_122 h_122 q_122 => ?_) (fun _ _ q => q.elim)
  obtain ⟨z_122, rfl, y_122, D_122, C_122, K_122, M_122⟩ := q_122
  have N_122 := K_122 (G + 1 + 1) (by omega)
  have n6_122 := congrFun N_122 6
  have B_122 := C_122.2.2.2.1
  have U_122 := C_122.2.2.2.2.1
  have kt_122 := D_122.1.1.1
  refine wp_if_eq (tgt := 135) d_103_125 (by decide) (by omega) (fun c_125 => ?_) (fun c_125 => ?_)
  · refine wp_iconst d_103_135 ?_
    refine wp_goto (tgt := 140) d_103_136 (by decide) ?_
    refine wp_zret d_103_140 rfl (by omega) ?_
    first
      | exact ⟨rfl, (by rw [B_129, B_122]; exact D_129.up (by omega)), F8.trans ((C_122.fm.mono (fun a z => Or.inl z) (fun a z => z.elim)).trans (C_129.fm.mono (fun a z => z.elim (fun y => Or.inl y) (fun y => Or.inr (Or.inr y.1))) (fun a z => z.elim))), by omega, by omega, fun k hk => by rw [N_129, N_122]; exact c8 k hk, by rw [N_129, N_122]; exact c86⟩
      | exact ⟨rfl, (by rw [B_122]; exact D_122.up (by omega)), F8.trans (C_122.fm.mono (fun a z => Or.inl z) (fun a z => z.elim)), by omega, by omega, fun k hk => by rw [N_122]; exact c8 k hk, by rw [N_122]; exact c86⟩
  · refine wp_aload_n d_103_128 (by rfl) ?_
    refine wp_callV d_103_129 c_103_80 rfl (by rfl) (by rfl) ⟨12, rfl, rfl, by decide⟩ (by first | assumption | (simp only [kd_setI, kd_setR]; assumption)) (by exact Nat.le_of_ble_eq_true rfl) (by exact Nat.le_of_ble_eq_true rfl) (s_tExcept D_122 (by omega) (by omega)) (fun v_129 h_129 q_129 => ?_) (fun _ _ q => q.elim)
    obtain ⟨rfl, D_129, C_129⟩ := q_129
    have N_129 : hi h_129 (G + 1 + 1) = hi h_122 (G + 1 + 1) := funext fun k => C_129.2.2.2.2.2.2.2.1 _ k (fun z => z.elim (fun y => by omega) (fun y => by have := y.1; omega))
    have B_129 := C_129.2.2.2.1
    have U_129 := C_129.2.2.2.2.1
    refine wp_if_eq (tgt := 139) d_103_132 (by decide) (by omega) (fun c_132 => ?_) (fun c_132 => ?_)
    · exact absurd c_132 (by omega)
    refine wp_iconst d_103_135 ?_
    refine wp_goto (tgt := 140) d_103_136 (by decide) ?_
    refine wp_zret d_103_140 rfl (by omega) ?_
    first
      | exact ⟨rfl, (by rw [B_129, B_122]; exact D_129.up (by omega)), F8.trans ((C_122.fm.mono (fun a z => Or.inl z) (fun a z => z.elim)).trans (C_129.fm.mono (fun a z => z.elim (fun y => Or.inl y) (fun y => Or.inr (Or.inr y.1))) (fun a z => z.elim))), by omega, by omega, fun k hk => by rw [N_129, N_122]; exact c8 k hk, by rw [N_129, N_122]; exact c86⟩
      | exact ⟨rfl, (by rw [B_122]; exact D_122.up (by omega)), F8.trans (C_122.fm.mono (fun a z => Or.inl z) (fun a z => z.elim)), by omega, by omega, fun k hk => by rw [N_122]; exact c8 k hk, by rw [N_122]; exact c86⟩
set_option maxRecDepth 100000 in
set_option maxHeartbeats 4000000 in
theorem s_tAddCalendar {G sa : Nat} {D : Int} {h : Hp} (q : DrS h G sa (nx h) D) (hc : hi h (G + 1 + 1) 6 < 3) (z7 : hi h (G + 1 + 1) 7 = 0) (hD : D ≤ 700000) (r1 : nx h + 2 ≤ cn h) (r2 : us h + 370 ≤ cs h) : wp 103 0 (entL [vR (some G)] (mL 103)) [] h (fun v h' => v = some (vI 1) ∧ DrS h' G sa (nx h') (D + 9) ∧ fm (PB G) (RB G) h h' ∧ nx h' = nx h + 2 ∧ us h' = us h + 370 ∧ (∀ k, k ≠ 6 → hi h' (G + 1 + 1) k = hi h (G + 1 + 1) k) ∧ hi h' (G + 1 + 1) 6 = hi h (G + 1 + 1) 6 + 1) noX := by
  obtain ⟨⟨tk, tr0, tr1, tr4, tr6, tr8, tr10, tr11, tr12, tr13, tr14, tr15, tr16⟩, ⟨⟨a4, b4⟩, ⟨a6, b6⟩, ⟨a10, b10⟩, ⟨a11, b11⟩, a12, b12⟩, ⟨mz8, mz13, mz14, mz15, mz16⟩, -⟩ := q.toT.1
  obtain ⟨rn3, rn5, rn7, rn9⟩ := q.toT.2.2.1.2.1
  obtain ⟨cn4, cn5, cn6, cn7⟩ := q.toT.2.2.2.1
  have hXn := q.1.2.2.2.2.2.2
  refine wp_aload_n d_103_0 (by rfl) ?_
  refine wp_iconst d_103_1 ?_
  refine wp_callV d_103_2 c_103_69 rfl (by rfl) (by rfl) ⟨12, rfl, rfl, by decide⟩ (by first | assumption | (simp only [kd_setI, kd_setR]; assumption)) (by exact Nat.le_of_ble_eq_true rfl) (by exact Nat.le_of_ble_eq_true rfl) (s_drawT q.toT (by omega) (by omega)) (fun v_2 h_2 q_2 => ?_) (fun _ _ q => q.elim)
  clear tk tr0 tr1 tr4 tr6 tr8 tr10 tr11 tr12 tr13 tr14 tr15 tr16 a4 b4 a6 b6 a10 b10 a11 b11 a12 b12 mz8 mz13 mz14 mz15 mz16 rn3 rn5 rn7 rn9 cn4 cn5 cn6 cn7
  obtain ⟨z_2, rfl, y_2, D_2, C_2, K_2, M_2⟩ := q_2
  have N_2 := K_2 (G + 1 + 1) (by omega)
  have B_2 := C_2.2.2.2.1
  have n6_2 := congrFun N_2 6
  have n7_2 := congrFun N_2 7
  obtain ⟨⟨tk, tr0, tr1, tr4, tr6, tr8, tr10, tr11, tr12, tr13, tr14, tr15, tr16⟩, ⟨⟨a4, b4⟩, ⟨a6, b6⟩, ⟨a10, b10⟩, ⟨a11, b11⟩, a12, b12⟩, ⟨mz8, mz13, mz14, mz15, mz16⟩, -⟩ := D_2.1
  obtain ⟨rn3, rn5, rn7, rn9⟩ := D_2.2.2.1.2.1
  obtain ⟨cn4, cn5, cn6, cn7⟩ := D_2.2.2.2.1
  refine wp_if_ne (tgt := 13) d_103_5 (by decide) (by omega) (fun c_5 => ?_) (fun c_5 => ?_)
  · refine wp_aload_n d_103_13 (by rfl) ?_
    refine wp_sipush d_103_14 (by decide) ?_
    refine wp_callV d_103_17 c_103_69 rfl (by rfl) (by rfl) ⟨12, rfl, rfl, by decide⟩ (by first | assumption | (simp only [kd_setI, kd_setR]; assumption)) (by exact Nat.le_of_ble_eq_true rfl) (by exact Nat.le_of_ble_eq_true rfl) (s_drawT D_2 (by omega) (by omega)) (fun v_17 h_17 q_17 => ?_) (fun _ _ q => q.elim)
    clear tk tr0 tr1 tr4 tr6 tr8 tr10 tr11 tr12 tr13 tr14 tr15 tr16 a4 b4 a6 b6 a10 b10 a11 b11 a12 b12 mz8 mz13 mz14 mz15 mz16 rn3 rn5 rn7 rn9 cn4 cn5 cn6 cn7
    obtain ⟨z_17, rfl, y_17, D_17, C_17, K_17, M_17⟩ := q_17
    have N_17 := K_17 (G + 1 + 1) (by omega)
    have B_17 := C_17.2.2.2.1
    have n6_17 := congrFun N_17 6
    have n7_17 := congrFun N_17 7
    obtain ⟨⟨tk, tr0, tr1, tr4, tr6, tr8, tr10, tr11, tr12, tr13, tr14, tr15, tr16⟩, ⟨⟨a4, b4⟩, ⟨a6, b6⟩, ⟨a10, b10⟩, ⟨a11, b11⟩, a12, b12⟩, ⟨mz8, mz13, mz14, mz15, mz16⟩, -⟩ := D_17.1
    obtain ⟨rn3, rn5, rn7, rn9⟩ := D_17.2.2.1.2.1
    obtain ⟨cn4, cn5, cn6, cn7⟩ := D_17.2.2.2.1
    refine wp_istore_n d_103_20 (by decide) ?_
    refine wp_aload_n d_103_21 (by rfl) ?_
    refine wp_iconst d_103_22 ?_
    refine wp_callV d_103_23 c_103_69 rfl (by rfl) (by rfl) ⟨12, rfl, rfl, by decide⟩ (by first | assumption | (simp only [kd_setI, kd_setR]; assumption)) (by exact Nat.le_of_ble_eq_true rfl) (by exact Nat.le_of_ble_eq_true rfl) (s_drawT D_17 (by omega) (by omega)) (fun v_23 h_23 q_23 => ?_) (fun _ _ q => q.elim)
    clear tk tr0 tr1 tr4 tr6 tr8 tr10 tr11 tr12 tr13 tr14 tr15 tr16 a4 b4 a6 b6 a10 b10 a11 b11 a12 b12 mz8 mz13 mz14 mz15 mz16 rn3 rn5 rn7 rn9 cn4 cn5 cn6 cn7
    obtain ⟨z_23, rfl, y_23, D_23, C_23, K_23, M_23⟩ := q_23
    have N_23 := K_23 (G + 1 + 1) (by omega)
    have B_23 := C_23.2.2.2.1
    have n6_23 := congrFun N_23 6
    have n7_23 := congrFun N_23 7
    obtain ⟨⟨tk, tr0, tr1, tr4, tr6, tr8, tr10, tr11, tr12, tr13, tr14, tr15, tr16⟩, ⟨⟨a4, b4⟩, ⟨a6, b6⟩, ⟨a10, b10⟩, ⟨a11, b11⟩, a12, b12⟩, ⟨mz8, mz13, mz14, mz15, mz16⟩, -⟩ := D_23.1
    obtain ⟨rn3, rn5, rn7, rn9⟩ := D_23.2.2.1.2.1
    obtain ⟨cn4, cn5, cn6, cn7⟩ := D_23.2.2.2.1
    refine wp_istore_n d_103_26 (by decide) ?_
    refine wp_iload_n d_103_27 (by rfl) ?_
    refine wp_aload_n d_103_28 (by rfl) ?_
    refine wp_bipush d_103_29 (by decide) ?_
    refine wp_callV d_103_31 c_103_69 rfl (by rfl) (by rfl) ⟨12, rfl, rfl, by decide⟩ (by first | assumption | (simp only [kd_setI, kd_setR]; assumption)) (by exact Nat.le_of_ble_eq_true rfl) (by exact Nat.le_of_ble_eq_true rfl) (s_drawT D_23 (by omega) (by omega)) (fun v_31 h_31 q_31 => ?_) (fun _ _ q => q.elim)
    clear tk tr0 tr1 tr4 tr6 tr8 tr10 tr11 tr12 tr13 tr14 tr15 tr16 a4 b4 a6 b6 a10 b10 a11 b11 a12 b12 mz8 mz13 mz14 mz15 mz16 rn3 rn5 rn7 rn9 cn4 cn5 cn6 cn7
    obtain ⟨z_31, rfl, y_31, D_31, C_31, K_31, M_31⟩ := q_31
    have N_31 := K_31 (G + 1 + 1) (by omega)
    have B_31 := C_31.2.2.2.1
    have n6_31 := congrFun N_31 6
    have n7_31 := congrFun N_31 7
    obtain ⟨⟨tk, tr0, tr1, tr4, tr6, tr8, tr10, tr11, tr12, tr13, tr14, tr15, tr16⟩, ⟨⟨a4, b4⟩, ⟨a6, b6⟩, ⟨a10, b10⟩, ⟨a11, b11⟩, a12, b12⟩, ⟨mz8, mz13, mz14, mz15, mz16⟩, -⟩ := D_31.1
    obtain ⟨rn3, rn5, rn7, rn9⟩ := D_31.2.2.1.2.1
    obtain ⟨cn4, cn5, cn6, cn7⟩ := D_31.2.2.2.1
    refine wp_iadd d_103_34 ?_
    refine wp_istore_n d_103_35 (by decide) ?_
    refine wp_iconst d_103_36 ?_
    refine wp_istore d_103_37 (by decide) ?_
    have ci_ := D_31.2.2.1.1.2.2.1.1
    refine wp_to [some (vR (some G)), some (vI z_17), some (vI z_23), some (vI (z_23 + z_31)), some (vI 0)] ⟨rfl, rfl, rfl, rfl, rfl, trivial⟩ ?_
    have C0 : ch (fun a => a = G) nP h h_31 := ((C_2.trans C_17).trans C_23).trans C_31
    have N0 : hi h_31 (G + 1 + 1) = hi h (G + 1 + 1) := N_31.trans (N_23.trans (N_17.trans N_2))
    refine l_tCalRow (c := hi h_31 (G + 1 + 1) 6) (by omega) (by omega) (by omega) 12 h_31 0 (by omega) (by omega) D_31 rfl (by omega) (by omega) (fun d' z0 z1 => by omega) (fun h3 E_1 E_2 E_3 E_4 => ?_)
    have N3 : hi h3 (G + 1 + 1) = hi h (G + 1 + 1) := (E_3 _ (by omega)).trans N0
    have x3 : nx h3 = nx h := E_2.2.2.2.1.trans C0.2.2.2.1
    have u3 : us h3 = us h := E_2.2.2.2.2.1.trans C0.2.2.2.2.1
    have v3 : cn h3 = cn h := E_2.2.2.2.2.2.1.trans C0.2.2.2.2.2.1
    have w3 : cs h3 = cs h := E_2.2.2.2.2.2.2.1.trans C0.2.2.2.2.2.2.1
    have n63 := congrFun N3 6
    refine wp_mono (fun v h' y => ?_) (fun _ _ y => y) (t_tCal (x3 ▸ E_1) (by omega) (by rw [N3]; exact z7) (by rw [N3]) (by rw [N3]) (by omega) (by omega) (by omega) (fun d d0 d1 => by rw [n63, ← congrFun N0 6]; exact E_4 d d0 d1) (by omega) (by omega))
    obtain ⟨y1, y2, y3, y4, y5, y6, y7⟩ := y
    refine ⟨y1, y2.up (by omega), ((C0.fm.mono (fun a z => Or.inl z) (fun a z => z.elim)).trans (E_2.fm.mono (fun a z => z.elim (fun y => Or.inl y) (fun y => Or.inr (Or.inr y.1))) (fun a z => z.elim))).trans y3, by omega, by omega, fun k hk => by rw [y6 k hk, N3], by rw [y7, n63]⟩
  · refine wp_bipush d_103_8 (by decide) ?_
    refine wp_goto (tgt := 20) d_103_10 (by decide) ?_
    refine wp_istore_n d_103_20 (by decide) ?_
    refine wp_aload_n d_103_21 (by rfl) ?_
    refine wp_iconst d_103_22 ?_
    refine wp_callV d_103_23 c_103_69 rfl (by rfl) (by rfl) ⟨12, rfl, rfl, by decide⟩ (by first | assumption | (simp only [kd_setI, kd_setR]; assumption)) (by exact Nat.le_of_ble_eq_true rfl) (by exact Nat.le_of_ble_eq_true rfl) (s_drawT D_2 (by omega) (by omega)) (fun v_23 h_23 q_23 => ?_) (fun _ _ q => q.elim)
    clear tk tr0 tr1 tr4 tr6 tr8 tr10 tr11 tr12 tr13 tr14 tr15 tr16 a4 b4 a6 b6 a10 b10 a11 b11 a12 b12 mz8 mz13 mz14 mz15 mz16 rn3 rn5 rn7 rn9 cn4 cn5 cn6 cn7
    obtain ⟨z_23, rfl, y_23, D_23, C_23, K_23, M_23⟩ := q_23
    have N_23 := K_23 (G + 1 + 1) (by omega)
    have B_23 := C_23.2.2.2.1
    have n6_23 := congrFun N_23 6
    have n7_23 := congrFun N_23 7
    obtain ⟨⟨tk, tr0, tr1, tr4, tr6, tr8, tr10, tr11, tr12, tr13, tr14, tr15, tr16⟩, ⟨⟨a4, b4⟩, ⟨a6, b6⟩, ⟨a10, b10⟩, ⟨a11, b11⟩, a12, b12⟩, ⟨mz8, mz13, mz14, mz15, mz16⟩, -⟩ := D_23.1
    obtain ⟨rn3, rn5, rn7, rn9⟩ := D_23.2.2.1.2.1
    obtain ⟨cn4, cn5, cn6, cn7⟩ := D_23.2.2.2.1
    refine wp_istore_n d_103_26 (by decide) ?_
    refine wp_iload_n d_103_27 (by rfl) ?_
    refine wp_aload_n d_103_28 (by rfl) ?_
    refine wp_bipush d_103_29 (by decide) ?_
    refine wp_callV d_103_31 c_103_69 rfl (by rfl) (by rfl) ⟨12, rfl, rfl, by decide⟩ (by first | assumption | (simp only [kd_setI, kd_setR]; assumption)) (by exact Nat.le_of_ble_eq_true rfl) (by exact Nat.le_of_ble_eq_true rfl) (s_drawT D_23 (by omega) (by omega)) (fun v_31 h_31 q_31 => ?_) (fun _ _ q => q.elim)
    clear tk tr0 tr1 tr4 tr6 tr8 tr10 tr11 tr12 tr13 tr14 tr15 tr16 a4 b4 a6 b6 a10 b10 a11 b11 a12 b12 mz8 mz13 mz14 mz15 mz16 rn3 rn5 rn7 rn9 cn4 cn5 cn6 cn7
    obtain ⟨z_31, rfl, y_31, D_31, C_31, K_31, M_31⟩ := q_31
    have N_31 := K_31 (G + 1 + 1) (by omega)
    have B_31 := C_31.2.2.2.1
    have n6_31 := congrFun N_31 6
    have n7_31 := congrFun N_31 7
    obtain ⟨⟨tk, tr0, tr1, tr4, tr6, tr8, tr10, tr11, tr12, tr13, tr14, tr15, tr16⟩, ⟨⟨a4, b4⟩, ⟨a6, b6⟩, ⟨a10, b10⟩, ⟨a11, b11⟩, a12, b12⟩, ⟨mz8, mz13, mz14, mz15, mz16⟩, -⟩ := D_31.1
    obtain ⟨rn3, rn5, rn7, rn9⟩ := D_31.2.2.1.2.1
    obtain ⟨cn4, cn5, cn6, cn7⟩ := D_31.2.2.2.1
    refine wp_iadd d_103_34 ?_
    refine wp_istore_n d_103_35 (by decide) ?_
    refine wp_iconst d_103_36 ?_
    refine wp_istore d_103_37 (by decide) ?_
    have ci_ := D_31.2.2.1.1.2.2.1.1
    refine wp_to [some (vR (some G)), some (vI 127), some (vI z_23), some (vI (z_23 + z_31)), some (vI 0)] ⟨rfl, rfl, rfl, rfl, rfl, trivial⟩ ?_
    have C0 : ch (fun a => a = G) nP h h_31 := (C_2.trans C_23).trans C_31
    have N0 : hi h_31 (G + 1 + 1) = hi h (G + 1 + 1) := N_31.trans (N_23.trans N_2)
    refine l_tCalRow (c := hi h_31 (G + 1 + 1) 6) (by omega) (by omega) (by omega) 12 h_31 0 (by omega) (by omega) D_31 rfl (by omega) (by omega) (fun d' z0 z1 => by omega) (fun h3 E_1 E_2 E_3 E_4 => ?_)
    have N3 : hi h3 (G + 1 + 1) = hi h (G + 1 + 1) := (E_3 _ (by omega)).trans N0
    have x3 : nx h3 = nx h := E_2.2.2.2.1.trans C0.2.2.2.1
    have u3 : us h3 = us h := E_2.2.2.2.2.1.trans C0.2.2.2.2.1
    have v3 : cn h3 = cn h := E_2.2.2.2.2.2.1.trans C0.2.2.2.2.2.1
    have w3 : cs h3 = cs h := E_2.2.2.2.2.2.2.1.trans C0.2.2.2.2.2.2.1
    have n63 := congrFun N3 6
    refine wp_mono (fun v h' y => ?_) (fun _ _ y => y) (t_tCal (x3 ▸ E_1) (by omega) (by rw [N3]; exact z7) (by rw [N3]) (by rw [N3]) (by omega) (by omega) (by omega) (fun d d0 d1 => by rw [n63, ← congrFun N0 6]; exact E_4 d d0 d1) (by omega) (by omega))
    obtain ⟨y1, y2, y3, y4, y5, y6, y7⟩ := y
    refine ⟨y1, y2.up (by omega), ((C0.fm.mono (fun a z => Or.inl z) (fun a z => z.elim)).trans (E_2.fm.mono (fun a z => z.elim (fun y => Or.inl y) (fun y => Or.inr (Or.inr y.1))) (fun a z => z.elim))).trans y3, by omega, by omega, fun k hk => by rw [y6 k hk, N3], by rw [y7, n63]⟩
