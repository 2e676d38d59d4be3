/-! ===== rows of booleans ===== -/
section HZ
variable {i pc : Nat} {ls : List (Option AV)} {st : List AV} {h : Hp} {Q : Option AV → Hp → Prop} {X : String → Hp → Prop}
theorem wp_bald {a : Nat} {x : Int} (hd : decode (mB i) pc = .ok (.baload, 1)) (hk : kd h a = 102) (h0 : 0 ≤ x) (h1 : x < ln h a) (kk : ∀ y, y = hi h a x → inR y → wp i (pc + 1) ls (vI y :: st) h Q X) : wp i pc ls (vI x :: vR (some a) :: st) h Q X := by
  intro D DA B0 CN CS p l e R s m args below meth c H locs ls' hfl hE
  have k := kk _ rfl (hE.2.1.2.2.2.2.2.2.2.1 _ _) D DA B0 CN CS p l e R s m args below meth c H locs ls' hfl hE
  have hoka := (hE.2.1.2.2.2.2.2.2.2.2 a (by omega)).2
  have ht : (x.toNat : Int) = x := Int.toNat_of_nonneg h0
  obtain ⟨k1, k2, k3, k4⟩ := hoka.arr (by omega) (by omega)
  have hx : inR x := ⟨by omega, by have := k3.2; omega⟩
  rw [hk] at k4 k1
  refine W.zald hE.1.1 hE.1.2.1 k4 ((hE.1.2.2.2.2.2.2.2.2.2.1 _ k1).1 _ _) (fun q => by cases q) (by rw [arrV_size]; exact arr_in hx h0 h1) (v := .int (Int32.ofInt (hi h a x))) ?_ rfl rfl hd k
  rw [i_clamp hx, arrV_read _ _ (by omega), ht]
  rfl
theorem wp_bast {a : Nat} {x v : Int} (hd : decode (mB i) pc = .ok (.bastore, 1)) (hk : kd h a = 102) (h0 : 0 ≤ x) (h1 : x < ln h a) (hv01 : v = 0 ∨ v = 1) (kk : wp i (pc + 1) ls st (setI h a x v) Q X) : wp i pc ls (vI v :: vI x :: vR (some a) :: st) h Q X := by
  intro D DA B0 CN CS p l e R s m args below meth c H locs ls' hfl hE
  have hv : inR v := ⟨by omega, by omega⟩
  have hnar : narrow .boolean (.int (Int32.ofInt v)) = .int (Int32.ofInt v) := (fit_I (ty := .boolean) rfl (fun _ => hv01)).1
  have hoka := (hE.2.1.2.2.2.2.2.2.2.2 a (by omega)).2
  have ht : (x.toNat : Int) = x := Int.toNat_of_nonneg h0
  have hin := hE.2.1.2.2.2.2.2.2.2.1
  obtain ⟨k1, k2, k3, k4⟩ := hoka.arr (by omega) (by omega)
  have hx : inR x := ⟨by omega, by have := k3.2; omega⟩
  refine W.zast hE.1.1 hE.1.2.1 k4 (by have := (hE.1.2.2.2.2.2.2.2.2.2.1 _ k1).1 (ln h a).toNat (fun j => sv (AT (kd h a)) h a j); rw [hk] at this ⊢; exact this) (fun q => by cases q) (by rw [arrV_size]; exact arr_in hx h0 h1) rfl rfl hd (fun H1 e1 z1 o1 => ?_)
  rw [i_clamp hx, hnar] at e1
  rw [i_clamp hx]
  refine W_tight (kk D DA B0 CN CS p l e R s m args below meth c H1 _ ls' hfl (hE.arr (by omega) (by omega) e1 z1 o1 rfl rfl rfl rfl rfl rfl (fun b j => ?_) (fun b hb j => ⟨hi_ne (Or.inl hb), rfl, rfl⟩) ?_ (fun j hj => ?_)))
  · rw [hi_setI]
    unfold up2
    split
    · exact hv
    · exact hin b j
  · rw [hk, sv_I (by rfl), ht, hi_setI, up2_same]
  · unfold sv
    rw [hi_ne (Or.inr (by omega))]
    rfl
end HZ
def mkZ (h : Hp) (n k : Int) : Hp :=
  (fun a => if a = nx h then 108 else if nx h < a ∧ a ≤ nx h + n.toNat then 102 else kd h a,
   fun a => if a = nx h then n else if nx h < a ∧ a ≤ nx h + n.toNat then k else ln h a,
   fun a => if nx h ≤ a ∧ a ≤ nx h + n.toNat then fun _ => 0 else hi h a,
   fun a => if a = nx h then fun j => if 0 ≤ j ∧ j < n then some (nx h + 1 + j.toNat) else none else if nx h < a ∧ a ≤ nx h + n.toNat then fun _ => none else hr h a,
   fun a => if nx h ≤ a ∧ a ≤ nx h + n.toNat then fun _ => 0 else hl h a,
   nx h + 1 + n.toNat, us h + n.toNat + n.toNat * k.toNat, cn h, cs h)
theorem kd_mkZ (h : Hp) (n k : Int) (a : Nat) : kd (mkZ h n k) a = if a = nx h then 108 else if nx h < a ∧ a ≤ nx h + n.toNat then 102 else kd h a := rfl
theorem ln_mkZ (h : Hp) (n k : Int) (a : Nat) : ln (mkZ h n k) a = if a = nx h then n else if nx h < a ∧ a ≤ nx h + n.toNat then k else ln h a := rfl
theorem hi_mkZ (h : Hp) (n k : Int) (a : Nat) : hi (mkZ h n k) a = if nx h ≤ a ∧ a ≤ nx h + n.toNat then fun _ => 0 else hi h a := rfl
theorem hr_mkZ (h : Hp) (n k : Int) (a : Nat) : hr (mkZ h n k) a = if a = nx h then fun j => if 0 ≤ j ∧ j < n then some (nx h + 1 + j.toNat) else none else if nx h < a ∧ a ≤ nx h + n.toNat then fun _ => none else hr h a := rfl
theorem hl_mkZ (h : Hp) (n k : Int) (a : Nat) : hl (mkZ h n k) a = if nx h ≤ a ∧ a ≤ nx h + n.toNat then fun _ => 0 else hl h a := rfl
theorem nx_mkZ (h : Hp) (n k : Int) : nx (mkZ h n k) = nx h + 1 + n.toNat := rfl
theorem us_mkZ (h : Hp) (n k : Int) : us (mkZ h n k) = us h + n.toNat + n.toNat * k.toNat := rfl
theorem cn_mkZ (h : Hp) (n k : Int) : cn (mkZ h n k) = cn h := rfl
theorem cs_mkZ (h : Hp) (n k : Int) : cs (mkZ h n k) = cs h := rfl

section HZM
variable {i pc : Nat} {ls : List (Option AV)} {st : List AV} {h : Hp} {Q : Option AV → Hp → Prop} {X : String → Hp → Prop}
theorem wp_mnz {idx : Nat} {n k : Int} (hd : decode (mB i) pc = .ok (.multianewarray idx 2, 4)) (hcl : okw (.classLink (mY i).cls idx "[[Z")) (hw : okw (.arrayOver (AT 108))) (hw2 : okw (.arrayClass (AT 102))) (h0 : 0 ≤ n) (h1 : n ≤ 10000000) (k0 : 0 ≤ k) (k1 : k ≤ 10000000) (r1 : nx h + 1 + n.toNat ≤ cn h) (r2 : us h + n.toNat + n.toNat * k.toNat ≤ cs h)
    (kk : wp i (pc + 4) ls (vR (some (nx h)) :: st) (mkZ h n k) Q X) : wp i pc ls (vI k :: vI n :: st) h Q X := by
  intro D DA B0 CN CS p l e R s m args below meth c H locs ls' hfl hE
  obtain ⟨hx, hb, -, -, -, hown, -, hok, hK, hA, -⟩ := hE.1
  have hn : inR n := ⟨by omega, by omega⟩
  have hk : inR k := ⟨by omega, by omega⟩
  have hcn : (Int32.ofInt n).toNatClampNeg = n.toNat := i_clamp hn
  have hck : (Int32.ofInt k).toNatClampNeg = k.toNat := i_clamp hk
  have hrep := hE.2.1
  obtain ⟨b1, b2, b3, b4, b5, b6, b7, b8, b9⟩ := hE.2.1
  obtain ⟨a1, a2, a3, a4, a5, a6, a7, a8, a9⟩ := hE
  have a5' := a5
  have a6' := a6
  rw [b1] at a5'
  rw [b2] at a6'
  intro T hT XX
  obtain ⟨vm₁, cA, comp, -, fA, fC, hO, -, X', step⟩ := XX.multianewarray2F (ty := .boolean) hx hown (hok _ hcl _) (hok _ hw _) (hok _ hw2 _) (g := F0 m pc ls' ((vI k :: vI n :: st).map conc)) rfl (by rw [hb]; exact hd) (n := Int32.ofInt n) (k := Int32.ofInt k) (rest := st.map conc) rfl (by rw [i_neg hn]; omega) (by rw [i_neg hk]; omega) (by rw [hcn]; omega) (by rw [hck]; show k.toNat * 1 ≤ _; omega) (by rw [hck]; omega) rfl rfl (by rw [hcn, a7, b1]; omega) (by rw [hcn, hck, a8, b2]; omega)
  rw [hcn, hck] at X' step
  have hKA0 : 108 ∈ KA := by decide
  have hKA1 : 102 ∈ KA := by decide
  obtain ⟨-, kA', comp', w1, w2, w3, -⟩ := hA 108 hKA0
  obtain ⟨-, kB', compB', u1, u2, u3, -⟩ := hA 102 hKA1
  have ec : cA = DA 108 := Option.some.inj (fA.symm.trans w3)
  have ep : comp = DA 102 := Option.some.inj (fC.symm.trans u3)
  subst ec
  subst ep
  generalize hF : Jvm.Free.Multi.fill (T.setVm vm₁) (DA 108) (DA 102) n.toNat k.toNat (defaultValue .boolean) n.toNat = F at X' step
  have hTh : (T.setVm vm₁).heap = H := hT
  obtain ⟨f1, f2, -, -⟩ := Jvm.Free.Multi.fill_facts (T.setVm vm₁) (DA 108) (DA 102) n.toNat k.toNat (defaultValue .boolean) n.toNat
  rw [hF, hTh] at f1 f2
  have hold : ∀ x : Nat, x < H.size → F.heap[x]? = H[x]? := fun x hx => by
    have := Jvm.Free.Multi.fill_old (T.setVm vm₁) (DA 108) (DA 102) n.toNat k.toNat (defaultValue .boolean) (a := x) (by rw [hTh]; exact hx) n.toNat
    rw [hF, hTh] at this
    exact this
  have hrow : ∀ j : Nat, j < n.toNat → F.heap[H.size + 1 + j]? = some (arrV (DA 102) k.toNat (fun _ => defaultValue .boolean)) := fun j hj => by
    have := Jvm.Free.Multi.fill_inner (T.setVm vm₁) (DA 108) (DA 102) n.toNat k.toNat (defaultValue .boolean) n.toNat j hj
    rw [hF, hTh] at this
    rw [this]
    unfold Jvm.Free.Multi.innerC
    rw [arrV_new]
  rw [mn_outer] at f2
  have hsum := mn_sum (N := n.toNat) (K := k.toNat) f1 hold f2 (arrV_size _ _ _) (fun j hj => ⟨_, hrow j hj, arrV_size _ _ _⟩)
  have hlt := fun a (ha : kd h a ≠ 0) => hrep.lt ha
  have hnew : rep D DA B0 CN CS s F.heap (mkZ h n k) := by
    refine ⟨by rw [f1, b1]; rfl, by rw [hsum, b2]; rfl, b3, b4, by rw [nx_mkZ, ← b3]; exact r1, by rw [us_mkZ, ← b4]; exact r2, by rw [nx_mkZ]; omega, fun a j => ?_, fun a ha => ?_⟩
    · rw [hi_mkZ]
      split
      · show inR 0
        exact ⟨by decide, by decide⟩
      · exact b8 a j
    · by_cases e0 : a = nx h
      · subst e0
        have ek : kd (mkZ h n k) (nx h) = 108 := by rw [kd_mkZ, if_pos rfl]
        have el : ln (mkZ h n k) (nx h) = n := by rw [ln_mkZ, if_pos rfl]
        refine ⟨Or.inr b7, Or.inr (Or.inr ?_)⟩
        rw [ek, el]
        refine ⟨hKA0, h0, hn, ?_⟩
        rw [← b1, f2]
        refine congrArg (fun f => some (arrV (DA 108) n.toNat f)) (funext fun j => ?_)
        rw [sv_R (by rfl), hr_mkZ, b1, if_pos rfl]
        refine congrArg va_rf ?_
        by_cases hj : j < n.toNat
        · rw [if_pos hj, if_pos (by omega)]
          simp
        · rw [if_neg hj, if_neg (by omega)]
      · by_cases e1 : nx h < a ∧ a ≤ nx h + n.toNat
        · have ek : kd (mkZ h n k) a = 102 := by rw [kd_mkZ, if_neg e0, if_pos e1]
          have el : ln (mkZ h n k) a = k := by rw [ln_mkZ, if_neg e0, if_pos e1]
          refine ⟨Or.inr (by omega), Or.inr (Or.inr ?_)⟩
          rw [ek, el]
          refine ⟨hKA1, k0, hk, ?_⟩
          have := hrow (a - (nx h + 1)) (by omega)
          rw [b1, show nx h + 1 + (a - (nx h + 1)) = a by omega] at this
          rw [this]
          refine congrArg (fun f => some (arrV (DA 102) k.toNat f)) (funext fun j => ?_)
          rw [sv_I (by rfl), hi_mkZ, if_pos (by omega)]
          rfl
        · have ek : kd (mkZ h n k) a = kd h a := by rw [kd_mkZ, if_neg e0, if_neg e1]
          have e2 : ¬ (nx h ≤ a ∧ a ≤ nx h + n.toNat) := fun q => e1 ⟨by omega, q.2⟩
          rw [ek] at ha ⊢
          have hal := hlt a ha
          refine ⟨(b9 a ha).1, (b9 a ha).2.kept (hold a (by omega)) ek ?_ (fun j => ?_) (fun j => ?_) (fun j => ?_)⟩
          · rw [ln_mkZ, if_neg e0, if_neg e1]
          · rw [hi_mkZ, if_neg e2]
          · rw [hr_mkZ, if_neg e0, if_neg e1]
          · rw [hl_mkZ, if_neg e2]
  have hE' : En i D DA B0 CN CS p R s m meth c F.heap locs ls' ls (mkZ h n k) := ⟨a1, hnew, a3, a4, by rw [f1]; omega, by rw [hsum]; omega, a7, a8, a9⟩
  obtain ⟨t, g1, g2⟩ := (W_tight (kk D DA B0 CN CS p l e R s m args below meth c F.heap locs ls' hfl hE')) F rfl X'
  refine ⟨t, step t ?_, g2⟩
  have e : T.heap.size = nx h := by rw [hT]; exact b1
  rw [e]
  exact g1
end HZM
