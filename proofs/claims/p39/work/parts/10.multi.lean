/-! ===== THE LOGIC, part 6: new int[n][k], copies of rows ===== -/
/-- new int[n][k]: the outer row at the next address, the inner ones behind it -/
def mkM (h : Hp) (n k : Int) : Hp :=
  (fun a => if a = nx h then 103 else if nx h < a ∧ a ≤ nx h + n.toNat then 100 else kd h a,
   fun a => if a = nx h then n else if nx h < a ∧ a ≤ nx h + n.toNat then k else ln h a,
   fun a => if nx h ≤ a ∧ a ≤ nx h + n.toNat then fun _ => 0 else hi h a,
   fun a => if a = nx h then fun j => if 0 ≤ j ∧ j < n then some (nx h + 1 + j.toNat) else none else if nx h < a ∧ a ≤ nx h + n.toNat then fun _ => none else hr h a,
   fun a => if nx h ≤ a ∧ a ≤ nx h + n.toNat then fun _ => 0 else hl h a,
   nx h + 1 + n.toNat, us h + n.toNat + n.toNat * k.toNat, cn h, cs h)
theorem kd_mkM (h : Hp) (n k : Int) (a : Nat) : kd (mkM h n k) a = if a = nx h then 103 else if nx h < a ∧ a ≤ nx h + n.toNat then 100 else kd h a := rfl
theorem ln_mkM (h : Hp) (n k : Int) (a : Nat) : ln (mkM h n k) a = if a = nx h then n else if nx h < a ∧ a ≤ nx h + n.toNat then k else ln h a := rfl
theorem hi_mkM (h : Hp) (n k : Int) (a : Nat) : hi (mkM h n k) a = if nx h ≤ a ∧ a ≤ nx h + n.toNat then fun _ => 0 else hi h a := rfl
theorem hr_mkM (h : Hp) (n k : Int) (a : Nat) : hr (mkM h n k) a = if a = nx h then fun j => if 0 ≤ j ∧ j < n then some (nx h + 1 + j.toNat) else none else if nx h < a ∧ a ≤ nx h + n.toNat then fun _ => none else hr h a := rfl
theorem hl_mkM (h : Hp) (n k : Int) (a : Nat) : hl (mkM h n k) a = if nx h ≤ a ∧ a ≤ nx h + n.toNat then fun _ => 0 else hl h a := rfl
theorem nx_mkM (h : Hp) (n k : Int) : nx (mkM h n k) = nx h + 1 + n.toNat := rfl
theorem us_mkM (h : Hp) (n k : Int) : us (mkM h n k) = us h + n.toNat + n.toNat * k.toNat := rfl
theorem cn_mkM (h : Hp) (n k : Int) : cn (mkM h n k) = cn h := rfl
theorem cs_mkM (h : Hp) (n k : Int) : cs (mkM h n k) = cs h := rfl
/-- a row's stretch copied -/
def cpI (h : Hp) (src : Nat) (sp : Int) (dst : Nat) (dp n : Int) : Hp :=
  (kd h, ln h, fun b j => if b = dst ∧ dp ≤ j ∧ j < dp + n then hi h src (sp + (j - dp)) else hi h b j, hr h, hl h, nx h, us h, cn h, cs h)
theorem kd_cpI (h : Hp) (a : Nat) (s : Int) (b : Nat) (d n : Int) : kd (cpI h a s b d n) = kd h := rfl
theorem ln_cpI (h : Hp) (a : Nat) (s : Int) (b : Nat) (d n : Int) : ln (cpI h a s b d n) = ln h := rfl
theorem hi_cpI (h : Hp) (a : Nat) (s : Int) (b : Nat) (d n : Int) : hi (cpI h a s b d n) = fun c j => if c = b ∧ d ≤ j ∧ j < d + n then hi h a (s + (j - d)) else hi h c j := rfl
theorem hr_cpI (h : Hp) (a : Nat) (s : Int) (b : Nat) (d n : Int) : hr (cpI h a s b d n) = hr h := rfl
theorem hl_cpI (h : Hp) (a : Nat) (s : Int) (b : Nat) (d n : Int) : hl (cpI h a s b d n) = hl h := rfl
theorem nx_cpI (h : Hp) (a : Nat) (s : Int) (b : Nat) (d n : Int) : nx (cpI h a s b d n) = nx h := rfl
theorem us_cpI (h : Hp) (a : Nat) (s : Int) (b : Nat) (d n : Int) : us (cpI h a s b d n) = us h := rfl
theorem cn_cpI (h : Hp) (a : Nat) (s : Int) (b : Nat) (d n : Int) : cn (cpI h a s b d n) = cn h := rfl
theorem cs_cpI (h : Hp) (a : Nat) (s : Int) (b : Nat) (d n : Int) : cs (cpI h a s b d n) = cs h := rfl
theorem mn_outer (c : ClassId) (N h0 : Nat) : ∀ i : Nat, Jvm.Free.Multi.outerC c N h0 i = arrV c N (fun j => va_rf (if j < i then some (h0 + 1 + j) else none))
  | 0 => by
    show ({ cls := c, slots := Array.replicate N .null, vm := .none } : Cell) = _
    rw [arrV_new]
    refine congrArg (arrV c N) (funext fun j => ?_)
    simp [va_rf]
  | i + 1 => by
    show (Jvm.Free.Multi.outerC c N h0 i).setSlot i (.ref (h0 + 1 + i)) = _
    rw [mn_outer c N h0 i, arrV_store]
    refine congrArg (arrV c N) (funext fun j => ?_)
    by_cases e : j = i
    · subst e
      simp [updV, va_rf]
    · by_cases h : j < i
      · simp [updV, e, h, Nat.lt_succ_of_lt h]
      · simp [updV, e, h, show ¬ j < i + 1 by omega]
theorem mn_sum {H F : Heap} {N K : Nat} (hz : F.size = H.size + 1 + N) (ho : ∀ x : Nat, x < H.size → F[x]? = H[x]?) {c0 : Cell} (h0 : F[H.size]? = some c0) (s0 : c0.slots.size = N) (hr : ∀ j : Nat, j < N → ∃ cj : Cell, F[H.size + 1 + j]? = some cj ∧ cj.slots.size = K) : ssum F = ssum H + N + N * K := by
  rw [ssum_split F H.size, ssum_same (by omega) (fun a c hc => ⟨c, by rw [ho a (Array.getElem?_eq_some_iff.mp hc).1]; exact hc, rfl⟩)]
  have e : (F.toList.drop H.size).map (fun c => c.slots.size) = N :: List.replicate N K := by
    apply List.ext_getElem?
    intro k
    rw [List.getElem?_map, List.getElem?_drop, Array.getElem?_toList]
    match k with
    | 0 =>
      rw [Nat.add_zero, h0]
      simp [s0]
    | k + 1 =>
      rw [List.getElem?_cons_succ]
      by_cases hk : k < N
      · obtain ⟨cj, g1, g2⟩ := hr k hk
        rw [show H.size + (k + 1) = H.size + 1 + k by omega, g1, List.getElem?_replicate_of_lt hk]
        simp [g2]
      · rw [Array.getElem?_eq_none (by omega), List.getElem?_eq_none (by simp; omega)]
        rfl
  rw [e]
  simp
  omega
section HM
variable {i pc : Nat} {ls : List (Option AV)} {st : List AV} {h : Hp} {Q : Option AV → Hp → Prop} {X : String → Hp → Prop}
theorem wp_mna {idx : Nat} {n k : Int} (hd : decode (mB i) pc = .ok (.multianewarray idx 2, 4)) (hcl : okw (.classLink (mY i).cls idx "[[I")) (hw : okw (.arrayOver (AT 103))) (hw2 : okw (.arrayClass (AT 100))) (h0 : 0 ≤ n) (h1 : n ≤ 10000000) (k0 : 0 ≤ k) (k1 : k ≤ 10000000) (r1 : nx h + 1 + n.toNat ≤ cn h) (r2 : us h + n.toNat + n.toNat * k.toNat ≤ cs h)
    (kk : wp i (pc + 4) ls (vR (some (nx h)) :: st) (mkM h n k) Q X) : wp i pc ls (vI k :: vI n :: st) h Q X := by
  intro D DA B0 CN CS p l e R s m args below meth c H locs ls' hfl hE
  obtain ⟨hx, hb, -, -, -, hown, -, hok, hK, hA, -⟩ := hE.1
  have hn : inR n := ⟨by omega, by omega⟩
  have hk : inR k := ⟨by omega, by omega⟩
  have hcn : (Int32.ofInt n).toNatClampNeg = n.toNat := i_clamp hn
  have hck : (Int32.ofInt k).toNatClampNeg = k.toNat := i_clamp hk
  have hrep := hE.2.1
  obtain ⟨b1, b2, b3, b4, b5, b6, b7, b8, b9⟩ := hE.2.1
  obtain ⟨a1, a2, a3, a4, a5, a6, a7, a8, a9⟩ := hE
  have a5' := a5
  have a6' := a6
  rw [b1] at a5'
  rw [b2] at a6'
  intro T hT XX
  obtain ⟨vm₁, cA, comp, -, fA, fC, hO, -, X', step⟩ := XX.multianewarray2F (ty := .int) hx hown (hok _ hcl _) (hok _ hw _) (hok _ hw2 _) (g := F0 m pc ls' ((vI k :: vI n :: st).map conc)) rfl (by rw [hb]; exact hd) (n := Int32.ofInt n) (k := Int32.ofInt k) (rest := st.map conc) rfl (by rw [i_neg hn]; omega) (by rw [i_neg hk]; omega) (by rw [hcn]; omega) (by rw [hck]; show k.toNat * 4 ≤ _; omega) (by rw [hck]; omega) rfl rfl (by rw [hcn, a7, b1]; omega) (by rw [hcn, hck, a8, b2]; omega)
  rw [hcn, hck] at X' step
  have hKA0 : 103 ∈ KA := by decide
  have hKA1 : 100 ∈ KA := by decide
  obtain ⟨-, kA', comp', w1, w2, w3, -⟩ := hA 103 hKA0
  obtain ⟨-, kB', compB', u1, u2, u3, -⟩ := hA 100 hKA1
  have ec : cA = DA 103 := Option.some.inj (fA.symm.trans w3)
  have ep : comp = DA 100 := Option.some.inj (fC.symm.trans u3)
  subst ec
  subst ep
  generalize hF : Jvm.Free.Multi.fill (T.setVm vm₁) (DA 103) (DA 100) n.toNat k.toNat (defaultValue .int) n.toNat = F at X' step
  have hTh : (T.setVm vm₁).heap = H := hT
  obtain ⟨f1, f2, -, -⟩ := Jvm.Free.Multi.fill_facts (T.setVm vm₁) (DA 103) (DA 100) n.toNat k.toNat (defaultValue .int) n.toNat
  rw [hF, hTh] at f1 f2
  have hold : ∀ x : Nat, x < H.size → F.heap[x]? = H[x]? := fun x hx => by
    have := Jvm.Free.Multi.fill_old (T.setVm vm₁) (DA 103) (DA 100) n.toNat k.toNat (defaultValue .int) (a := x) (by rw [hTh]; exact hx) n.toNat
    rw [hF, hTh] at this
    exact this
  have hrow : ∀ j : Nat, j < n.toNat → F.heap[H.size + 1 + j]? = some (arrV (DA 100) k.toNat (fun _ => defaultValue .int)) := fun j hj => by
    have := Jvm.Free.Multi.fill_inner (T.setVm vm₁) (DA 103) (DA 100) n.toNat k.toNat (defaultValue .int) n.toNat j hj
    rw [hF, hTh] at this
    rw [this]
    unfold Jvm.Free.Multi.innerC
    rw [arrV_new]
  rw [mn_outer] at f2
  have hsum := mn_sum (N := n.toNat) (K := k.toNat) f1 hold f2 (arrV_size _ _ _) (fun j hj => ⟨_, hrow j hj, arrV_size _ _ _⟩)
  have hlt := fun a (ha : kd h a ≠ 0) => hrep.lt ha
  have hnew : rep D DA B0 CN CS s F.heap (mkM h n k) := by
    refine ⟨by rw [f1, b1]; rfl, by rw [hsum, b2]; rfl, b3, b4, by rw [nx_mkM, ← b3]; exact r1, by rw [us_mkM, ← b4]; exact r2, by rw [nx_mkM]; omega, fun a j => ?_, fun a ha => ?_⟩
    · rw [hi_mkM]
      split
      · show inR 0
        exact ⟨by decide, by decide⟩
      · exact b8 a j
    · by_cases e0 : a = nx h
      · subst e0
        have ek : kd (mkM h n k) (nx h) = 103 := by rw [kd_mkM, if_pos rfl]
        have el : ln (mkM h n k) (nx h) = n := by rw [ln_mkM, if_pos rfl]
        refine ⟨Or.inr b7, Or.inr (Or.inr ?_)⟩
        rw [ek, el]
        refine ⟨hKA0, h0, hn, ?_⟩
        rw [← b1, f2]
        refine congrArg (fun f => some (arrV (DA 103) n.toNat f)) (funext fun j => ?_)
        rw [sv_R (by rfl), hr_mkM, b1, if_pos rfl]
        refine congrArg va_rf ?_
        by_cases hj : j < n.toNat
        · rw [if_pos hj, if_pos (by omega)]
          simp
        · rw [if_neg hj, if_neg (by omega)]
      · by_cases e1 : nx h < a ∧ a ≤ nx h + n.toNat
        · have ek : kd (mkM h n k) a = 100 := by rw [kd_mkM, if_neg e0, if_pos e1]
          have el : ln (mkM h n k) a = k := by rw [ln_mkM, if_neg e0, if_pos e1]
          refine ⟨Or.inr (by omega), Or.inr (Or.inr ?_)⟩
          rw [ek, el]
          refine ⟨hKA1, k0, hk, ?_⟩
          have := hrow (a - (nx h + 1)) (by omega)
          rw [b1, show nx h + 1 + (a - (nx h + 1)) = a by omega] at this
          rw [this]
          refine congrArg (fun f => some (arrV (DA 100) k.toNat f)) (funext fun j => ?_)
          rw [sv_I (by rfl), hi_mkM, if_pos (by omega)]
          rfl
        · have ek : kd (mkM h n k) a = kd h a := by rw [kd_mkM, if_neg e0, if_neg e1]
          have e2 : ¬ (nx h ≤ a ∧ a ≤ nx h + n.toNat) := fun q => e1 ⟨by omega, q.2⟩
          rw [ek] at ha ⊢
          have hal := hlt a ha
          refine ⟨(b9 a ha).1, (b9 a ha).2.kept (hold a (by omega)) ek ?_ (fun j => ?_) (fun j => ?_) (fun j => ?_)⟩
          · rw [ln_mkM, if_neg e0, if_neg e1]
          · rw [hi_mkM, if_neg e2]
          · rw [hr_mkM, if_neg e0, if_neg e1]
          · rw [hl_mkM, if_neg e2]
  have hE' : En i D DA B0 CN CS p R s m meth c F.heap locs ls' ls (mkM h n k) := ⟨a1, hnew, a3, a4, by rw [f1]; omega, by rw [hsum]; omega, a7, a8, a9⟩
  obtain ⟨t, g1, g2⟩ := (W_tight (kk D DA B0 CN CS p l e R s m args below meth c F.heap locs ls' hfl hE')) F rfl X'
  refine ⟨t, step t ?_, g2⟩
  have e : T.heap.size = nx h := by rw [hT]; exact b1
  rw [e]
  exact g1
theorem wp_copy {idx src dst : Nat} {sp dp n : Int} (hd : decode (mB i) pc = .ok (.invokestatic idx, 3)) (hl : okw (.methodLink (mY i).cls idx arraycopyName)) (hnat : okw (.native arraycopyName)) (hst : okw (.static arraycopyName)) (hini : okw (.initialized "java/lang/System"))
    (hk1 : kd h src = 100) (hk2 : kd h dst = 100) (s0 : 0 ≤ sp) (d0 : 0 ≤ dp) (n0 : 0 ≤ n) (s1 : sp + n ≤ ln h src) (d1 : dp + n ≤ ln h dst) (hfr : 1 ≤ mF i) (hlo : (st.map fun v => if cat2 v = true then 2 else 1).sum + (nativeFrameWords "java/lang/System" "arraycopy" 5 + 11) ≤ mK i)
    (kk : wp i (pc + 3) ls st (cpI h src sp dst dp n) Q X) : wp i pc ls (vI n :: vI dp :: vR (some dst) :: vI sp :: vR (some src) :: st) h Q X := by
  intro D DA B0 CN CS p l e R s m args below meth c H locs ls' hfl hE
  obtain ⟨hx, hb, hml, -, -, hown, -, hok, hK, hA, hfr1, hlo1, -⟩ := hE.1
  have hoks := hE.2.1.2.2.2.2.2.2.2.2 src (by omega)
  have hokd := hE.2.1.2.2.2.2.2.2.2.2 dst (by omega)
  obtain ⟨x1, x2, x3, x4⟩ := hoks.2.arr (by omega) (by omega)
  obtain ⟨y1, y2, y3, y4⟩ := hokd.2.arr (by omega) (by omega)
  have hin := hE.2.1.2.2.2.2.2.2.2.1
  have rs : inR sp := ⟨by omega, by have := x3.2; omega⟩
  have rd : inR dp := ⟨by omega, by have := y3.2; omega⟩
  have rn : inR n := ⟨by omega, by have := x3.2; omega⟩
  have cs1 : (Int32.ofInt sp).toNatClampNeg = sp.toNat := i_clamp rs
  have cs2 : (Int32.ofInt dp).toNatClampNeg = dp.toNat := i_clamp rd
  have cs3 : (Int32.ofInt n).toNatClampNeg = n.toNat := i_clamp rn
  have hcat : ((st.map conc).map fun v => v.category).sum = (st.map fun v => if cat2 v = true then 2 else 1).sum := by
    rw [List.map_map]
    refine congrArg List.sum (List.map_congr_left ?_)
    intro v _
    exact conc_cat v
  rw [hk1] at x4 x1
  rw [hk2] at y4 y1
  obtain ⟨hAO, kA, comp, w1, w2, w3, -⟩ := hA 100 x1
  intro T hT XX
  have hc0 : T.heap[src]? = some (arrV (DA 100) (ln h src).toNat (fun j => .int (Int32.ofInt (hi h src j)))) := by rw [hT]; exact x4
  have hc1 : T.heap[dst]? = some (arrV (DA 100) (ln h dst).toNat (fun j => .int (Int32.ofInt (hi h dst j)))) := by rw [hT]; exact y4
  obtain ⟨vm', X', step⟩ := XX.arraycopy hx hown (hok _ hl _) (hok _ hnat _) (hok _ hst _) (hok _ hini _) (src := src) (dst := dst) (srcPos := Int32.ofInt sp) (destPos := Int32.ofInt dp) (n := Int32.ofInt n) hc0 hc1
    (fun _ h => by cases h) (fun _ h => by cases h) (fun h => by cases h) (fun h => by cases h) w1 w1 w2 w2 (by decide) (by rw [i_neg rs]; omega) (by rw [i_neg rd]; omega) (by rw [i_neg rn]; omega)
    (by rw [i_toInt rs, i_toInt rn, arrV_size]; omega) (by rw [i_toInt rd, i_toInt rn, arrV_size]; omega)
    (fun vm₁ _ k hk => by
      rw [cs3] at hk
      have e : (arrV (DA 100) (ln h src).toNat (fun j => Value.int (Int32.ofInt (hi h src j)))).slots.getD ((Int32.ofInt sp).toNatClampNeg + k) .null = .int (Int32.ofInt (hi h src ((sp.toNat + k : Nat) : Int))) := by
        rw [cs1, Array.getD_eq_getD_getElem?, arrV_read _ _ (by omega)]
        rfl
      rw [e]
      exact ⟨rfl, trivial⟩)
    (g := F0 m pc ls' ((vI n :: vI dp :: vR (some dst) :: vI sp :: vR (some src) :: st).map conc)) rfl (by rw [hml]; exact hE.2.2.1.1) (rest := st.map conc) rfl (by rw [hb]; exact hd) (by omega) (by rw [hcat]; show 2 * 0 + _ + _ ≤ _; omega)
  have e1 : copied (arrV (DA 100) (ln h src).toNat (fun j => Value.int (Int32.ofInt (hi h src j)))) (arrV (DA 100) (ln h dst).toNat (fun j => Value.int (Int32.ofInt (hi h dst j)))) (Int32.ofInt sp) (Int32.ofInt dp) (Int32.ofInt n) = arrV (DA 100) (ln h dst).toNat (fun j => sv (AT 100) (cpI h src sp dst dp n) dst j) := by
    have h9 := va_copied (fun z => Value.int (Int32.ofInt z)) (DA 100) (DA 100) (n0 := (ln h src).toNat) (n1 := (ln h dst).toNat) (sp := sp.toNat) (dp := dp.toNat) (n := n.toNat) (fun j => hi h src j) (fun j => hi h dst j) (by omega)
    unfold copied
    rw [cs1, cs2, cs3]
    refine h9.trans (congrArg (arrV (DA 100) (ln h dst).toNat) (funext fun j => ?_))
    rw [sv_I (by rfl), hi_cpI]
    refine congrArg (fun z => Value.int (Int32.ofInt z)) ?_
    unfold va_cpy
    by_cases hj : dp.toNat ≤ j ∧ j < dp.toNat + n.toNat
    · rw [if_pos hj]
      dsimp only
      rw [if_pos ⟨rfl, by omega, by omega⟩]
      exact congrArg (hi h src) (by omega)
    · rw [if_neg hj]
      dsimp only
      rw [if_neg (by rintro ⟨-, q1, q2⟩; exact hj ⟨by omega, by omega⟩)]
  rw [e1] at X' step
  have hlt : dst < H.size := (Array.getElem?_eq_some_iff.mp y4).1
  have hheap : ((T.setVm vm').setCell dst (arrV (DA 100) (ln h dst).toNat (fun j => sv (AT 100) (cpI h src sp dst dp n) dst j))).heap = H.setIfInBounds dst (arrV (DA 100) (ln h dst).toNat (fun j => sv (AT 100) (cpI h src sp dst dp n) dst j)) := by rw [← hT]; rfl
  have oq : ∀ q : Nat, q ≠ dst → (H.setIfInBounds dst (arrV (DA 100) (ln h dst).toNat (fun j => sv (AT 100) (cpI h src sp dst dp n) dst j)))[q]? = H[q]? := fun q hq => by simp [Array.getElem?_setIfInBounds, Ne.symm hq]
  have ex : (H.setIfInBounds dst (arrV (DA 100) (ln h dst).toNat (fun j => sv (AT 100) (cpI h src sp dst dp n) dst j)))[dst]? = some (arrV (DA 100) (ln h dst).toNat (fun j => sv (AT 100) (cpI h src sp dst dp n) dst j)) := by simp [Array.getElem?_setIfInBounds, hlt]
  have hsame : ∀ c : Cell, H[dst]? = some c → (arrV (DA 100) (ln h dst).toNat (fun j => sv (AT 100) (cpI h src sp dst dp n) dst j)).slots.size = c.slots.size := fun c hc => by
    rw [y4] at hc
    cases hc
    rw [arrV_size, arrV_size]
  have z1 : (H.setIfInBounds dst (arrV (DA 100) (ln h dst).toNat (fun j => sv (AT 100) (cpI h src sp dst dp n) dst j))).size = H.size := by simp
  have hnew := hE.2.1.put (h1 := cpI h src sp dst dp n) (a := dst) (by omega) ex hsame z1 oq rfl rfl rfl rfl rfl rfl (fun b j => by
      rw [hi_cpI]
      dsimp only
      split
      · exact hin _ _
      · exact hin _ _) (fun b hb j => ⟨by rw [hi_cpI]; exact if_neg (fun q => hb q.1), rfl, rfl⟩) (Or.inr (Or.inr ⟨by rw [kd_cpI, hk2]; exact y1, y2, y3, by rw [kd_cpI, hk2, ln_cpI]; exact ex⟩))
  refine (W_tight (kk D DA B0 CN CS p l e R s m args below meth c _ _ ls' hfl ⟨hE.1, hnew, hE.2.2.1, ?_, by rw [z1]; exact hE.2.2.2.2.1, by rw [ssum_set z1 oq ex hsame]; exact hE.2.2.2.2.2.1, hE.2.2.2.2.2.2⟩)) _ hheap X' |>.elim (fun t ht => ⟨t, step t ht.1, ht.2⟩)
  intro z hz
  rcases List.mem_append.mp hz with h | h
  · exact hE.2.2.2.1 z h
  · obtain ⟨y, -, hy⟩ := List.mem_map.mp h
    rw [← hy]
    rcases hokd.1 with h3 | h3
    · omega
    · exact h3
end HM
