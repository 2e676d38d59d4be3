/-! ===== THE LOGIC, part 7: a static call of a method with an exception table that doesn't throw ===== -/
/-- a call of method j (with a table) at the pool's place idx out of method i, n arguments -/
def cswP (i idx j n : Nat) (hh : List (Nat × Nat × Nat × Nat)) : Prop := okw (.codeWith (mY j) (mB j) (mL j) (mR j) hh) ∧ mX j = tableOf hh ∧ plainName (mY j).cls = true ∧ ((mY j).cls ≠ "java/lang/invoke/MethodHandle" ∧ (mY j).cls ≠ "java/lang/invoke/VarHandle") ∧ okw (.initialized (mY j).cls) ∧ okw (.methodLink (mY i).cls idx (mY j)) ∧ okw (.static (mY j)) ∧ (parseMethodDescriptor (mY j).desc).map (fun d => d.parameters.length) = some n ∧ (mF j + 1 ≤ mF i ∧ 8 + (mL j + 11) + mK j ≤ mK i)
theorem wp_metW {l : Launch} (hfl : l.flags = flags0) {j : Nat} {as : List AV} {h : Hp} {Q : Option AV → Hp → Prop} {hh : List (Nat × Nat × Nat × Nat)} (D : va_G) (DA : Nat → ClassId) (B0 CN CS : Nat) (hcw : okw (.codeWith (mY j) (mB j) (mL j) (mR j) hh)) (hmx : mX j = tableOf hh) (hpl : plainName (mY j).cls = true) (hsl : (lg_sl (as.map conc)).length ≤ mL j) (k : wp j 0 (entL as (mL j)) [] h Q noX) :
    Met l (mY j) [Cond.codeWith (mY j) (mB j) (mL j) (mR j) hh] (rmA j CN CS h) (PcA D DA B0 CN CS as h) (QcA D DA B0 CN CS Q) (CN - nx h) (CS - us h) (fun q => B0 ≤ q) := by
  refine va_MetW (cc := mB j) (maxL := mL j) (ret := mR j) hpl rfl ?_
  intro p e s m args below meth c s₁ B hml hp
  have htab : c.exceptionTable.toList = tableOf hh := vx_table (x := mY j) B (atoms_spec (ws := [Cond.codeWith (mY j) (mB j) (mL j) (mR j) hh]) B.pre _ List.mem_cons_self)
  obtain ⟨rfl, h2, h3, h4, h5, hzq⟩ := hp
  have hx := B.exec
  have hb := B.bytes
  have hr := B.returns
  have hown : s.vm.findClass (mY j).cls = some m.cls := findClass_of_methodNamed B.named
  have hname : meth.name = (mY j).name := (name_of_methodNamed B.named B.method).1
  have hsz := h5.1
  have hss := h5.2.1
  have hB0 := h5.2.2.2.2.2.2.1
  rw [lg_entry_eq]
  have hl := lrel.entry (as := as) hsl
  have hE : En j D DA B0 CN CS p (rmA j CN CS h) s m meth c s.heap [] _ (entL as (mL j)) h :=
    ⟨⟨hx, hb, hml, hr, B.notSynchronized, hown, hname, h2, h3, h4, Nat.le_refl _, Nat.le_refl _, by rw [htab, hmx]⟩, h5, hl, (fun q hq => nomatch hq), Nat.le_refl _, Nat.le_refl _, (by rw [hsz]; rfl), (by rw [hss]; rfl), ⟨(by rw [hsz]; exact hB0), hzq⟩⟩
  refine W_mono (fun t ht => ?_) (W_tight (k D DA B0 CN CS p l e (rmA j CN CS h) s m _ below meth c s.heap [] _ hfl hE))
  obtain ⟨o, g1, g2, g3⟩ := ht
  rcases g3 with g3 | ⟨q, -, g3⟩
  · exact ⟨o, g1, g2, g3.1, g3.2⟩
  · obtain ⟨E, L, ce, ⟨h', hf, -⟩, -⟩ := g3
    exact hf.elim
section HE
variable {i pc : Nat} {ls : List (Option AV)} {st : List AV} {h : Hp} {Q : Option AV → Hp → Prop} {X : String → Hp → Prop}
theorem wp_callSW {idx j n : Nat} {as : List AV} {Qj : Option AV → Hp → Prop} {hh : List (Nat × Nat × Nat × Nat)} (hd : decode (mB i) pc = .ok (.invokestatic idx, 3)) (hc : cswP i idx j n hh) {st0 : List AV} (hs : st0 = as.reverse ++ st) (hn : as.length = n)
    (hsl : (as.flatMap fun v => if cat2 v = true then [some v, none] else [some v]).length ≤ mL j) (hst : (st.map fun v => if cat2 v = true then 2 else 1).sum ≤ 8)
    (hb : wp j 0 (entL as (mL j)) [] h Qj noX) (kk : ∀ v h', Qj v h' → wp i (pc + 3) ls (v.toList ++ st) h' Q X) : wp i pc ls st0 h Q X := by
  intro D DA B0 CN CS p l e R s m args below meth c H locs ls' hfl hE
  obtain ⟨hcw, hmx, hpl, hmh, hini, hl, hstt, hlen, hroom⟩ := hc
  obtain ⟨hx, hbb, hml, -, -, hown, -, hok, hK, hA, hfr, hlo, -⟩ := hE.1
  have hroom' : mF j + 1 ≤ R.frames ∧ 8 + (mL j + 11) + mK j ≤ R.locals := ⟨by omega, by omega⟩
  have hM := wp_metW hfl D DA B0 CN CS hcw hmx hpl (by rw [lg_sl_le]; exact hsl) hb
  have hcat : ((st.map conc).map fun v => v.category).sum ≤ 8 := by
    rw [List.map_map]
    have : (st.map ((fun v => v.category) ∘ conc)) = st.map fun v => if cat2 v = true then 2 else 1 := by
      apply List.map_congr_left
      intro v _
      exact conc_cat v
    rw [this]
    exact hst
  have hrun := fun hz : zq B0 s H => vx_runSW (p := p) (l := l) (e := e) (R := R) (s := s) (m := m) (args := args) (below := below) (meth := meth) (c := c) (H := H) (locs := locs) (cells := H.size - s.heap.size) (slots := ssum H - ssum s.heap) (Ts := []) (own := (mY i).cls) (cc := mB i) (nL := mL i) (hh := hh) (rest := st.map conc) (As := as.map conc) (g := F0 m pc ls' (st0.map conc)) ⟨hx, hbb, hml, hown, fun _ h => by cases h⟩ hM (index := idx) (bytes := mB j) (maxL := mL j) (ret := mR j) (n := n)
    ⟨⟨rfl, rfl, hroom'.1, hroom'.2, (fun w hw a' U hW => by
      have := List.mem_singleton.mp hw
      subst this
      exact okS_warm hW hok _ hcw _), List.mem_cons_self⟩, hok _ hcw _, hok _ hini _, hmh, (fun sig h => by
      rw [h] at hlen
      exact (Option.some.inj hlen).symm), hok _ hl _, hok _ hstt _⟩
    ⟨PcA_blind _ _ _ _ _ _ _, PcA_of hE hz as⟩ rfl (by rw [List.length_map]; exact hn) hE.2.2.1.1 (by rw [hs]; simp) (lv_room hcat) hd hE.cap
  exact wp_after (Xj := noX) hfl hE (fun T hT XX => Or.inl (hrun (hE.zq hT XX).1 T hT XX)) kk (fun _ _ (q : False) => q.elim)
end HE
