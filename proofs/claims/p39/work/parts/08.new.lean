/-! ===== THE LOGIC, part 4: stores to arrays, new cells, copies ===== -/
theorem ar_upd (K : Nat) (cA : ClassId) (n : Nat) {h h1 : Hp} {a j0 : Nat} {v : Value} (hv : sv (AT K) h1 a j0 = v) (ho : ∀ j : Nat, j ≠ j0 → sv (AT K) h1 a j = sv (AT K) h a j) : (arrV cA n (fun j => sv (AT K) h a j)).setSlot j0 v = arrV cA n (fun j => sv (AT K) h1 a j) := by
  rw [arrV_store]
  congr 1
  funext j
  by_cases hj : j = j0
  · subst hj
    simp [updV, hv]
  · simp only [updV, if_neg hj]
    exact (ho j hj).symm
section HN
variable {i pc : Nat} {ls : List (Option AV)} {st : List AV} {h : Hp} {Q : Option AV → Hp → Prop} {X : String → Hp → Prop}
variable {D : va_G} {DA : Nat → ClassId} {B0 CN CS : Nat} {p : Program} {l : Launch} {e : Env} {R : Room} {s : State} {m : MethodId} {args : Array Value} {below : List Frame} {meth : Method} {c : Code} {H : Heap} {locs : List Loc} {ls' : Array Slot} {cells slots : Nat} {Z : State → Prop}
/-- behind a store to the array a -/
theorem En.arr {a j0 : Nat} {v : Value} {H1 : Heap} {h1 : Hp} (hE : En i D DA B0 CN CS p R s m meth c H locs ls' ls h) (hk : 100 ≤ kd h a) (h2 : kd h a ≠ 200)
    (e1 : H1[a]? = some ((arrV (DA (kd h a)) (ln h a).toNat (fun j => sv (AT (kd h a)) h a j)).setSlot j0 v)) (z1 : H1.size = H.size) (o1 : ∀ q : Nat, q ≠ a → H1[q]? = H[q]?)
    (g1 : kd h1 = kd h) (g2 : ln h1 = ln h) (g3 : nx h1 = nx h) (g4 : us h1 = us h) (g5 : cn h1 = cn h) (g6 : cs h1 = cs h) (g7 : ∀ a k, inR (hi h1 a k)) (g8 : ∀ b, b ≠ a → ∀ j, hi h1 b j = hi h b j ∧ hr h1 b j = hr h b j ∧ hl h1 b j = hl h b j)
    (hv : sv (AT (kd h a)) h1 a j0 = v) (ho : ∀ j : Nat, j ≠ j0 → sv (AT (kd h a)) h1 a j = sv (AT (kd h a)) h a j) : En i D DA B0 CN CS p R s m meth c H1 (locs ++ [⟨a, j0⟩]) ls' ls h1 := by
  have hka : kd h a ≠ 0 := by omega
  have hoka := hE.2.1.2.2.2.2.2.2.2.2 a hka
  obtain ⟨k1, k2, k3, k4⟩ := hoka.2.arr hk h2
  have hsame : ∀ c : Cell, H[a]? = some c → ((arrV (DA (kd h a)) (ln h a).toNat (fun j => sv (AT (kd h a)) h a j)).setSlot j0 v).slots.size = c.slots.size := fun c hc => by
    rw [k4] at hc
    cases hc
    simp [Cell.setSlot]
  refine ⟨hE.1, hE.2.1.put hka e1 hsame z1 o1 g1 g2 g3 g4 g5 g6 g7 g8 ?_, hE.2.2.1, ?_, by rw [z1]; exact hE.2.2.2.2.1, by rw [ssum_set z1 o1 e1 hsame]; exact hE.2.2.2.2.2.1, hE.2.2.2.2.2.2⟩
  · refine Or.inr (Or.inr ⟨by rw [g1]; exact k1, by rw [g2]; exact k2, by rw [g2]; exact k3, ?_⟩)
    rw [e1, g1, g2, ar_upd _ _ _ hv ho]
  · intro z hz
    rcases List.mem_append.mp hz with h | h
    · exact hE.2.2.2.1 z h
    · have := List.mem_singleton.mp h
      rw [this]
      rcases hoka.1 with h3 | h3
      · exact absurd h3 h2
      · exact h3
theorem wp_iast {a : Nat} {x v : Int} (hd : decode (mB i) pc = .ok (.iastore, 1)) (hk : kd h a = 100) (h0 : 0 ≤ x) (h1 : x < ln h a) (hv : inR v) (kk : wp i (pc + 1) ls st (setI h a x v) Q X) : wp i pc ls (vI v :: vI x :: vR (some a) :: st) h Q X := by
  intro D DA B0 CN CS p l e R s m args below meth c H locs ls' hfl hE
  have hoka := (hE.2.1.2.2.2.2.2.2.2.2 a (by omega)).2
  have ht : (x.toNat : Int) = x := Int.toNat_of_nonneg h0
  have hin := hE.2.1.2.2.2.2.2.2.2.1
  obtain ⟨k1, k2, k3, k4⟩ := hoka.arr (by omega) (by omega)
  have hx : inR x := ⟨by omega, by have := k3.2; omega⟩
  refine W.iast hE.1.1 hE.1.2.1 k4 (by have := (hE.1.2.2.2.2.2.2.2.2.2.1 _ k1).1 (ln h a).toNat (fun j => sv (AT (kd h a)) h a j); rw [hk] at this ⊢; exact this) (fun q => by cases q) (by rw [arrV_size]; exact arr_in hx h0 h1) rfl rfl hd (fun H1 e1 z1 o1 => ?_)
  rw [i_clamp hx] at e1 ⊢
  refine W_tight (kk D DA B0 CN CS p l e R s m args below meth c H1 _ ls' hfl (hE.arr (by omega) (by omega) e1 z1 o1 rfl rfl rfl rfl rfl rfl (fun b j => ?_) (fun b hb j => ⟨hi_ne (Or.inl hb), rfl, rfl⟩) ?_ (fun j hj => ?_)))
  · rw [hi_setI]
    unfold up2
    split
    · exact hv
    · exact hin b j
  · rw [hk, sv_I (by rfl), ht, hi_setI, up2_same]
  · unfold sv
    rw [hi_ne (Or.inr (by omega))]
    rfl
theorem wp_last {a : Nat} {x v : Int} (hd : decode (mB i) pc = .ok (.lastore, 1)) (hk : kd h a = 101) (h0 : 0 ≤ x) (h1 : x < ln h a) (kk : wp i (pc + 1) ls st (setL h a x v) Q X) : wp i pc ls (vL v :: vI x :: vR (some a) :: st) h Q X := by
  intro D DA B0 CN CS p l e R s m args below meth c H locs ls' hfl hE
  have hoka := (hE.2.1.2.2.2.2.2.2.2.2 a (by omega)).2
  have ht : (x.toNat : Int) = x := Int.toNat_of_nonneg h0
  have hin := hE.2.1.2.2.2.2.2.2.2.1
  obtain ⟨k1, k2, k3, k4⟩ := hoka.arr (by omega) (by omega)
  have hx : inR x := ⟨by omega, by have := k3.2; omega⟩
  refine W.last hE.1.1 hE.1.2.1 k4 (by have := (hE.1.2.2.2.2.2.2.2.2.2.1 _ k1).1 (ln h a).toNat (fun j => sv (AT (kd h a)) h a j); rw [hk] at this ⊢; exact this) (fun q => by cases q) (by rw [arrV_size]; exact arr_in hx h0 h1) rfl rfl hd (fun H1 e1 z1 o1 => ?_)
  rw [i_clamp hx] at e1 ⊢
  refine W_tight (kk D DA B0 CN CS p l e R s m args below meth c H1 _ ls' hfl (hE.arr (by omega) (by omega) e1 z1 o1 rfl rfl rfl rfl rfl rfl hin (fun b hb j => ⟨rfl, rfl, ?_⟩) ?_ (fun j hj => ?_)))
  · rw [hl_setL, up2_ne _ _ (fun q => hb q.1)]
  · rw [hk, sv_J (by rfl), ht, hl_setL, up2_same]
  · unfold sv
    rw [hl_setL, up2_ne _ _ (fun q => by omega)]
    rfl
theorem wp_lald {a : Nat} {x : Int} (hd : decode (mB i) pc = .ok (.laload, 1)) (hk : kd h a = 101) (h0 : 0 ≤ x) (h1 : x < ln h a) (kk : wp i (pc + 1) ls (vL (hl h a x) :: st) h Q X) : wp i pc ls (vI x :: vR (some a) :: st) h Q X := by
  intro D DA B0 CN CS p l e R s m args below meth c H locs ls' hfl hE
  have k := kk D DA B0 CN CS p l e R s m args below meth c H locs ls' hfl hE
  have hoka := (hE.2.1.2.2.2.2.2.2.2.2 a (by omega)).2
  have ht : (x.toNat : Int) = x := Int.toNat_of_nonneg h0
  obtain ⟨k1, k2, k3, k4⟩ := hoka.arr (by omega) (by omega)
  have hx : inR x := ⟨by omega, by have := k3.2; omega⟩
  rw [hk] at k4 k1
  refine W.lald hE.1.1 hE.1.2.1 k4 ((hE.1.2.2.2.2.2.2.2.2.2.1 _ k1).1 _ _) (fun q => by cases q) (by rw [arrV_size]; exact arr_in hx h0 h1) (v := .long (Int64.ofInt (hl h a x))) ?_ rfl rfl hd k
  rw [i_clamp hx, arrV_read _ _ (by omega), ht]
  rfl
/-- a reference to an object into an array of its class -/
theorem wp_aastO {a b cb : Nat} {x : Int} (hd : decode (mB i) pc = .ok (.aastore, 1)) (hk : 100 ≤ kd h a) (hk2 : kd h a ≠ 200) (hb : kd h b = cb + 1) (hlt : cb < 99) (hty : AT (kd h a) = .object (CLn cb)) (h0 : 0 ≤ x) (h1 : x < ln h a) (kk : wp i (pc + 1) ls st (setR h a x (some b)) Q X) : wp i pc ls (vR (some b) :: vI x :: vR (some a) :: st) h Q X := by
  intro D DA B0 CN CS p l e R s m args below meth c H locs ls' hfl hE
  have hoka := (hE.2.1.2.2.2.2.2.2.2.2 a (by omega)).2
  have hokb := (hE.2.1.2.2.2.2.2.2.2.2 b (by omega)).2
  have ht : (x.toNat : Int) = x := Int.toNat_of_nonneg h0
  have hin := hE.2.1.2.2.2.2.2.2.2.1
  obtain ⟨k1, k2, k3, k4⟩ := hoka.arr hk hk2
  obtain ⟨q, hc, cell, q1, q2, q3, q4⟩ := hokb.obj hb hlt
  have hK := hE.1.2.2.2.2.2.2.2.2.1
  obtain ⟨hS, hcls⟩ := hK.1 cb _ hc
  obtain ⟨-, kA, comp, f1, f2, f3, f4, f5⟩ := hE.1.2.2.2.2.2.2.2.2.2.1 _ k1
  have hC : CLn cb = q.1 := by unfold CLn; rw [hc]
  have hcomp : comp = D.1 cb := Option.some.inj ((f4 _ hty).symm.trans (by rw [hC]; exact hcls.1))
  subst hcomp
  obtain ⟨kC, hkC, -⟩ := hcls.2
  have hx : inR x := ⟨by omega, by have := k3.2; omega⟩
  have ai := arr_in hx h0 h1
  refine W.aast hE.1.1 hE.1.2.1 k4 (fun q h => by cases h) (fun h => by cases h) f1 f2 (by rw [hty]; rfl) hkC ⟨fun z => ai (Or.inl z), by rw [arrV_size]; exact Nat.not_le.mp (fun z => ai (Or.inr z))⟩ q1 (fun q h => by rw [q3] at h; cases h) (by rw [q2]; exact hkC) (by rw [q2]; exact va_asg _ _) rfl rfl hd (fun H1 e1 z1 o1 => ?_)
  rw [i_clamp hx] at e1 ⊢
  refine W_tight (kk D DA B0 CN CS p l e R s m args below meth c H1 _ ls' hfl (hE.arr hk hk2 e1 z1 o1 rfl rfl rfl rfl rfl rfl hin (fun b hb j => ⟨rfl, ?_, rfl⟩) ?_ (fun j hj => ?_)))
  · rw [hr_setR, up2_ne _ _ (fun q => hb q.1)]
  · rw [sv_R (by rw [hty]; rfl), ht, hr_setR, up2_same]
    rfl
  · unfold sv
    rw [hr_setR, up2_ne _ _ (fun q => by omega)]
    rfl
theorem wp_aastN {a : Nat} {x : Int} {C : String} (hd : decode (mB i) pc = .ok (.aastore, 1)) (hk : 100 ≤ kd h a) (hk2 : kd h a ≠ 200) (hty : AT (kd h a) = .object C) (h0 : 0 ≤ x) (h1 : x < ln h a) (kk : wp i (pc + 1) ls st (setR h a x none) Q X) : wp i pc ls (vR none :: vI x :: vR (some a) :: st) h Q X := by
  intro D DA B0 CN CS p l e R s m args below meth c H locs ls' hfl hE
  have hoka := (hE.2.1.2.2.2.2.2.2.2.2 a (by omega)).2
  have ht : (x.toNat : Int) = x := Int.toNat_of_nonneg h0
  have hin := hE.2.1.2.2.2.2.2.2.2.1
  obtain ⟨k1, k2, k3, k4⟩ := hoka.arr hk hk2
  have hx : inR x := ⟨by omega, by have := k3.2; omega⟩
  refine va_WaastN hE.1.1 hE.1.2.1 k4 (C := C) (by have := (hE.1.2.2.2.2.2.2.2.2.2.1 _ k1).1 (ln h a).toNat (fun j => sv (AT (kd h a)) h a j); rw [hty] at this ⊢; exact this) (fun q => by cases q) (by rw [arrV_size]; exact arr_in hx h0 h1) rfl rfl hd (fun H1 e1 z1 o1 => ?_)
  rw [i_clamp hx] at e1 ⊢
  refine W_tight (kk D DA B0 CN CS p l e R s m args below meth c H1 _ ls' hfl (hE.arr hk hk2 e1 z1 o1 rfl rfl rfl rfl rfl rfl hin (fun b hb j => ⟨rfl, ?_, rfl⟩) ?_ (fun j hj => ?_)))
  · rw [hr_setR, up2_ne _ _ (fun q => hb q.1)]
  · rw [sv_R (by rw [hty]; rfl), ht, hr_setR, up2_same]
    rfl
  · unfold sv
    rw [hr_setR, up2_ne _ _ (fun q => by omega)]
    rfl
/-- a row of numbers into an array of such rows -/
theorem wp_aastA {a b : Nat} {x : Int} (hd : decode (mB i) pc = .ok (.aastore, 1)) (hk : kd h a = 103) (hb : kd h b = 100) (h0 : 0 ≤ x) (h1 : x < ln h a) (kk : wp i (pc + 1) ls st (setR h a x (some b)) Q X) : wp i pc ls (vR (some b) :: vI x :: vR (some a) :: st) h Q X := by
  intro D DA B0 CN CS p l e R s m args below meth c H locs ls' hfl hE
  have hoka := (hE.2.1.2.2.2.2.2.2.2.2 a (by omega)).2
  have hokb := (hE.2.1.2.2.2.2.2.2.2.2 b (by omega)).2
  have ht : (x.toNat : Int) = x := Int.toNat_of_nonneg h0
  have hin := hE.2.1.2.2.2.2.2.2.2.1
  obtain ⟨k1, k2, k3, k4⟩ := hoka.arr (by omega) (by omega)
  obtain ⟨j1, j2, j3, j4⟩ := hokb.arr (by omega) (by omega)
  have hty : AT (kd h a) = .array .int := by rw [hk]; rfl
  obtain ⟨-, kA, comp, f1, f2, f3, f4, f5⟩ := hE.1.2.2.2.2.2.2.2.2.2.1 _ k1
  obtain ⟨-, kB, compB, w1, w2, w3, -, -⟩ := hE.1.2.2.2.2.2.2.2.2.2.1 _ j1
  have hcomp : comp = DA (kd h b) := by
    have e1 := f5 _ hty
    rw [hb] at w3 ⊢
    have e2 : s.vm.findClass (FieldType.array .int).toString = some (DA 100) := w3
    exact Option.some.inj (e1.symm.trans e2)
  subst hcomp
  have hx : inR x := ⟨by omega, by have := k3.2; omega⟩
  have ai := arr_in hx h0 h1
  refine W.aast hE.1.1 hE.1.2.1 k4 (fun q h => by cases h) (fun h => by cases h) f1 f2 (by rw [hty]; rfl) w1 ⟨fun z => ai (Or.inl z), by rw [arrV_size]; exact Nat.not_le.mp (fun z => ai (Or.inr z))⟩ j4 (fun q h => by cases h) w1 (va_asg _ _) rfl rfl hd (fun H1 e1 z1 o1 => ?_)
  rw [i_clamp hx] at e1 ⊢
  refine W_tight (kk D DA B0 CN CS p l e R s m args below meth c H1 _ ls' hfl (hE.arr (by omega) (by omega) e1 z1 o1 rfl rfl rfl rfl rfl rfl hin (fun b hb j => ⟨rfl, ?_, rfl⟩) ?_ (fun j hj => ?_)))
  · rw [hr_setR, up2_ne _ _ (fun q => hb q.1)]
  · rw [sv_R (by rw [hty]; rfl), ht, hr_setR, up2_same]
    rfl
  · unfold sv
    rw [hr_setR, up2_ne _ _ (fun q => by omega)]
    rfl
/-- a new cell -/
theorem rep.new {K : Nat} {n : Int} {x : Cell} {H1 : Heap} (hrep : rep D DA B0 CN CS s H h) (z1 : H1.size = H.size + 1) (o1 : ∀ q : Nat, q < H.size → H1[q]? = H[q]?) (e1 : H1[H.size]? = some x) (hs : x.slots.size = n.toNat) (r1 : nx h + 1 ≤ CN) (r2 : us h + n.toNat ≤ CS) (hok : okAt D DA s H1 (mkO h K n) (nx h)) : rep D DA B0 CN CS s H1 (mkO h K n) := by
  have hlt := fun a (ha : kd h a ≠ 0) => hrep.lt ha
  obtain ⟨k1, k2, k3, k4, k5, k6, k7, k8, k9⟩ := hrep
  refine ⟨by rw [z1, k1]; rfl, by rw [ssum_new z1 o1 e1, hs, k2]; rfl, k3, k4, r1, r2, by rw [nx_mkO]; omega, fun a k => ?_, fun b hb => ?_⟩
  · rw [hi_mkO]
    unfold up1
    split
    · show inR 0
      exact ⟨by decide, by decide⟩
    · exact k8 a k
  · by_cases hbn : b = nx h
    · subst hbn
      exact ⟨Or.inr k7, hok⟩
    · have hk : kd (mkO h K n) b = kd h b := by rw [kd_mkO, up1_ne _ _ hbn]
      rw [hk] at hb ⊢
      have hbl := hlt b hb
      refine ⟨(k9 b hb).1, (k9 b hb).2.kept (o1 b (by omega)) hk ?_ (fun j => ?_) (fun j => ?_) (fun j => ?_)⟩
      · rw [ln_mkO, up1_ne _ _ hbn]
      · rw [hi_mkO, up1_ne _ _ hbn]
      · rw [hr_mkO, up1_ne _ _ hbn]
      · rw [hl_mkO, up1_ne _ _ hbn]
theorem sv_new {K : Nat} {n : Int} {ty : FieldType} (hty : okTy ty = true) (j : Int) : sv ty (mkO h K n) (nx h) j = defaultValue ty := by
  rw [vOf_default hty]
  unfold sv
  rw [hi_mkO, hr_mkO, hl_mkO, up1_same, up1_same, up1_same]
theorem En.new {K : Nat} {n : Int} {x : Cell} {H1 : Heap} (hE : En i D DA B0 CN CS p R s m meth c H locs ls' ls h) (z1 : H1.size = H.size + 1) (o1 : ∀ q : Nat, q < H.size → H1[q]? = H[q]?) (e1 : H1[H.size]? = some x) (hs : x.slots.size = n.toNat) (r1 : nx h + 1 ≤ cn h) (r2 : us h + n.toNat ≤ cs h) (hok : okAt D DA s H1 (mkO h K n) (nx h)) : En i D DA B0 CN CS p R s m meth c H1 locs ls' ls (mkO h K n) := by
  obtain ⟨a1, a2, a3, a4, a5, a6, a7⟩ := hE
  exact ⟨a1, a2.new z1 o1 e1 hs (by rw [← a2.2.2.1]; exact r1) (by rw [← a2.2.2.2.1]; exact r2) hok, a3, a4, by omega, by rw [ssum_new z1 o1 e1]; omega, a7⟩
theorem En.room {n : Nat} (hE : En i D DA B0 CN CS p R s m meth c H locs ls' ls h) (r1 : nx h + 1 ≤ cn h) (r2 : us h + n ≤ cs h) : H.size - s.heap.size + 1 ≤ R.cells ∧ ssum H - ssum s.heap + n ≤ R.slots := by
  obtain ⟨a1, ⟨b1, b2, b3, b4, b5, b6, b7, b8⟩, a3, a4, a5, a6, a7, a8, a9⟩ := hE
  rw [a7, a8, b1, b2]
  rw [b1] at a5
  rw [b2] at a6
  omega
theorem wp_new {idx ci n : Nat} {C : String} (hd : decode (mB i) pc = .ok (.new idx, 3)) (hcl : okw (.classLink (mY i).cls idx C)) (hci : okw (.instantiable C n) ∧ okw (.initialized C)) (hC : ∃ F, CL[ci]? = some (C, F, n)) (hty : ∀ k : Nat, k < n → okTy (cT (ci + 1) k) = true) (r1 : nx h + 1 ≤ cn h) (r2 : us h + n ≤ cs h)
    (kk : wp i (pc + 3) ls (vR (some (nx h)) :: st) (mkO h (ci + 1) n) Q X) : wp i pc ls st h Q X := by
  intro D DA B0 CN CS p l e R s m args below meth c H locs ls' hfl hE
  obtain ⟨F, hC⟩ := hC
  obtain ⟨hx, hb, -, -, -, hown, -, hok, hK, -⟩ := hE.1
  have hr := hE.room r1 (n := n) r2
  have hKn := hK.1 ci _ hC
  obtain ⟨c1, c2, c3, c4⟩ := CL_ok ci _ hC
  have hts : ∀ w ∈ u_ws C F n, w.before args s = true := fun w h => hok w (c1 w h) _
  refine W.newcK hx hb hown (hok _ hcl _) (hok _ hci.1 _) (hok _ hci.2 _) rfl hd hr.1 hr.2 hKn.2.1 rfl fun H1 kC hkC e1 z1 o1 => ?_
  have hsz : (blank (D.1 ci) kC).slots.size = n := by
    obtain ⟨c9, k9, h1, h2, -, -, -, h3⟩ := Cond.instantiable_spec (hok _ hci.1 #[])
    have : c9 = D.1 ci := Option.some.inj (h1.symm.trans hKn.2.1)
    subst this
    cases hkC.symm.trans h2
    simp [blank, h3]
  have hnx : H.size = nx h := hE.2.1.1
  refine W_tight ?_
  have hE1 := hE.new (K := ci + 1) (n := (n : Int)) z1 o1 e1 (by rw [hsz]; simp) r1 (by simpa using r2) ?_
  · have := kk D DA B0 CN CS p l e R s m args below meth c H1 locs ls' hfl hE1
    rw [hnx]
    exact this
  · rw [hnx] at e1
    refine Or.inl ?_
    rw [kd_mkO, up1_same]
    refine ⟨by have := CL_lt hC; omega, _, hC, ?_⟩
    refine (u_born (cT (ci + 1)) hts (fun _ h => h) hKn hkC e1 c3).to (fun k hk => ?_)
    exact (sv_new (hty k hk) _).symm
theorem wp_newa {at0 : ArrayType} {K : Nat} {n : Int} (hd : decode (mB i) pc = .ok (.newarray at0, 2)) (hT : newarray.typeOf at0 = AT K) (hKA : K ∈ KA) (hw : okw (.arrayClass (AT K))) (hty : okTy (AT K) = true) (h0 : 0 ≤ n) (h1 : n ≤ 10000000) (hb8 : componentBytes (AT K) ≤ 8) (r1 : nx h + 1 ≤ cn h) (r2 : us h + n.toNat ≤ cs h)
    (kk : wp i (pc + 2) ls (vR (some (nx h)) :: st) (mkO h K n) Q X) : wp i pc ls (vI n :: st) h Q X := by
  intro D DA B0 CN CS p l e R s m args below meth c H locs ls' hfl hE
  obtain ⟨hx, hb, -, -, -, hown, -, hok, hK, hA, -⟩ := hE.1
  have hr := hE.room r1 (n := n.toNat) r2
  have hn : inR n := ⟨by omega, by omega⟩
  have hcl : (Int32.ofInt n).toNatClampNeg = n.toNat := i_clamp hn
  refine W.newa hx hb (atype := at0) (by rw [hT]; exact hok _ hw _) rfl hd rfl (by rw [i_neg hn]; omega) (by
    rw [hcl, hT]
    have : n.toNat * componentBytes (AT K) ≤ 10000000 * 8 := Nat.mul_le_mul (by omega) hb8
    omega) hr.1 (by rw [hcl]; exact hr.2) (fun cA kA comp f1 f2 f3 => ?_)
  rw [hcl, hT]
  obtain ⟨hAO, kA', comp', w1, w2, w3, -⟩ := hA K hKA
  rw [hT] at f1
  have hcA : cA = DA K := Option.some.inj (f1.symm.trans w3)
  subst hcA
  have hnx : H.size = nx h := hE.2.1.1
  rw [arrV_new]
  refine W_tight ?_
  have e1 : (H.push (arrV (DA K) n.toNat (fun _ => defaultValue (AT K))))[H.size]? = some (arrV (DA K) n.toNat (fun _ => defaultValue (AT K))) := by simp
  have o1 : ∀ q : Nat, q < H.size → (H.push (arrV (DA K) n.toNat (fun _ => defaultValue (AT K))))[q]? = H[q]? := fun q hq => by
    rw [Array.getElem?_push, if_neg (by omega)]
  have hE1 := hE.new (K := K) (n := n) (by simp) o1 e1 (arrV_size _ _ _) r1 r2 ?_
  · have := kk D DA B0 CN CS p l e R s m args below meth c _ locs ls' hfl hE1
    rw [hnx]
    exact this
  · rw [hnx] at e1
    refine Or.inr (Or.inr ?_)
    rw [kd_mkO, up1_same, ln_mkO, up1_same]
    refine ⟨hKA, h0, hn, ?_⟩
    rw [e1]
    exact congrArg (fun f => some (arrV (DA K) n.toNat f)) (funext fun j => (sv_new hty _).symm)
theorem wp_anew {idx K : Nat} {n : Int} {C : String} (hd : decode (mB i) pc = .ok (.anewarray idx, 3)) (hcl : okw (.classLink (mY i).cls idx C)) (hT : AT K = .object C) (hKA : K ∈ KA) (hw : okw (.arrayOver (AT K))) (h0 : 0 ≤ n) (h1 : n ≤ 10000000) (r1 : nx h + 1 ≤ cn h) (r2 : us h + n.toNat ≤ cs h)
    (kk : wp i (pc + 3) ls (vR (some (nx h)) :: st) (mkO h K n) Q X) : wp i pc ls (vI n :: st) h Q X := by
  intro D DA B0 CN CS p l e R s m args below meth c H locs ls' hfl hE
  obtain ⟨hx, hb, -, -, -, hown, -, hok, hK, hA, -⟩ := hE.1
  have hr := hE.room r1 (n := n.toNat) r2
  have hn : inR n := ⟨by omega, by omega⟩
  have hcl9 : (Int32.ofInt n).toNatClampNeg = n.toNat := i_clamp hn
  refine W.anew hx hb hown (hok _ hcl _) (by rw [← hT]; exact hok _ hw _) rfl hd rfl (by rw [i_neg hn]; omega) (by rw [hcl9]; omega) hr.1 (by rw [hcl9]; exact hr.2) (fun cA kA comp f1 f2 f3 f4 => ?_)
  rw [hcl9]
  obtain ⟨hAO, kA', comp', w1, w2, w3, -⟩ := hA K hKA
  rw [hT] at w3
  have hcA : cA = DA K := Option.some.inj (f1.symm.trans w3)
  subst hcA
  have hnx : H.size = nx h := hE.2.1.1
  rw [arrV_new]
  refine W_tight ?_
  have e1 : (H.push (arrV (DA K) n.toNat (fun _ => Value.null)))[H.size]? = some (arrV (DA K) n.toNat (fun _ => Value.null)) := by simp
  have o1 : ∀ q : Nat, q < H.size → (H.push (arrV (DA K) n.toNat (fun _ => Value.null)))[q]? = H[q]? := fun q hq => by
    rw [Array.getElem?_push, if_neg (by omega)]
  have hE1 := hE.new (K := K) (n := n) (by simp) o1 e1 (arrV_size _ _ _) r1 r2 ?_
  · have := kk D DA B0 CN CS p l e R s m args below meth c _ locs ls' hfl hE1
    rw [hnx]
    exact this
  · rw [hnx] at e1
    refine Or.inr (Or.inr ?_)
    rw [kd_mkO, up1_same, ln_mkO, up1_same]
    refine ⟨hKA, h0, hn, ?_⟩
    rw [e1]
    refine congrArg (fun f => some (arrV (DA K) n.toNat f)) (funext fun j => ?_)
    rw [sv_new (by rw [hT]; rfl), hT]
    rfl
theorem wp_anewA {idx : Nat} {n : Int} (hd : decode (mB i) pc = .ok (.anewarray idx, 3)) (hcl : okw (.classLink (mY i).cls idx "[I")) (hw : okw (.arrayOver (AT 103))) (h0 : 0 ≤ n) (h1 : n ≤ 10000000) (r1 : nx h + 1 ≤ cn h) (r2 : us h + n.toNat ≤ cs h)
    (kk : wp i (pc + 3) ls (vR (some (nx h)) :: st) (mkO h 103 n) Q X) : wp i pc ls (vI n :: st) h Q X := by
  intro D DA B0 CN CS p l e R s m args below meth c H locs ls' hfl hE
  obtain ⟨hx, hb, -, -, -, hown, -, hok, hK, hA, -⟩ := hE.1
  have hr := hE.room r1 (n := n.toNat) r2
  have hn : inR n := ⟨by omega, by omega⟩
  have hcl9 : (Int32.ofInt n).toNatClampNeg = n.toNat := i_clamp hn
  refine W.anewA (t := .int) hx hb hown (hok _ hcl _) (hok _ hw _) rfl hd rfl (by rw [i_neg hn]; omega) (by rw [hcl9]; omega) hr.1 (by rw [hcl9]; exact hr.2) (fun cA kA comp f1 f2 f3 f4 => ?_)
  rw [hcl9]
  have hKA : 103 ∈ KA := by decide
  obtain ⟨hAO, kA', comp', w1, w2, w3, -⟩ := hA 103 hKA
  have hcA : cA = DA 103 := Option.some.inj (f1.symm.trans w3)
  subst hcA
  have hnx : H.size = nx h := hE.2.1.1
  rw [arrV_new]
  refine W_tight ?_
  have e1 : (H.push (arrV (DA 103) n.toNat (fun _ => Value.null)))[H.size]? = some (arrV (DA 103) n.toNat (fun _ => Value.null)) := by simp
  have o1 : ∀ q : Nat, q < H.size → (H.push (arrV (DA 103) n.toNat (fun _ => Value.null)))[q]? = H[q]? := fun q hq => by
    rw [Array.getElem?_push, if_neg (by omega)]
  have hE1 := hE.new (K := 103) (n := n) (by simp) o1 e1 (arrV_size _ _ _) r1 r2 ?_
  · have := kk D DA B0 CN CS p l e R s m args below meth c _ locs ls' hfl hE1
    rw [hnx]
    exact this
  · rw [hnx] at e1
    refine Or.inr (Or.inr ?_)
    rw [kd_mkO, up1_same, ln_mkO, up1_same]
    refine ⟨hKA, h0, hn, ?_⟩
    rw [e1]
    refine congrArg (fun f => some (arrV (DA 103) n.toNat f)) (funext fun j => ?_)
    rw [sv_new (by rfl)]
    rfl
end HN
