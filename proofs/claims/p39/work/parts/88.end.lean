/-! ===== the start of the law ===== -/
theorem okS_start {s : State} {b : Nat} (hts : ∀ w ∈ lw_tbl, w.before #[Value.ref b] s = true) : okS s := by
  intro w hw a'
  have hb := hts w hw.1
  obtain ⟨-, hm⟩ := hw
  have hW : s.WarmedH s.vm := State.WarmedH.refl s
  unfold mw at hm
  split at hm
  · exact va_Nw.use rfl (va_Nw.warmM hW hb)
  · exact va_AO.use (va_AO.moved hW.alike hb)
  · exact ao_moved hW.alike hb
  · exact word_at hW (good_of_word hm) hb
set_option maxRecDepth 100000 in
theorem CL_in : ∀ (c : Nat) (q : vw_C), CL[c]? = some q → okw (.instantiable q.1 q.2.2) := by
  intro c q h
  match c, h with
  | 0, h => cases h; exact ci0.1
  | 1, h => cases h; exact ci1.1
  | 2, h => cases h; exact ci2.1
  | 3, h => cases h; exact ci3.1
  | 4, h => cases h; exact ci4.1
  | 5, h => cases h; exact ci5.1
  | 6, h => cases h; exact ci6.1
  | 7, h => cases h; exact ci7.1
  | 8, h => cases h; exact ci8.1
  | 9, h => cases h; exact ci9.1
  | 10, h => cases h; exact ci10.1
  | 11, h => cases h; exact ci11.1
  | 12, h => cases h; exact ci12.1
  | c + 13, h => simp [CL] at h
theorem start_K {s : State} (hok : okS s) : ∃ D : va_G, va_K D CL [] s := by
  have h : ∀ c : Nat, ∃ d : ClassId × (Nat → Nat), ∀ q : vw_C, CL[c]? = some q → u_Kn s q.1 q.2.1 q.2.2 d.1 d.2 := by
    intro c
    cases hq : CL[c]? with
    | none => exact ⟨(0, fun _ => 0), fun q h => by cases h⟩
    | some q =>
      obtain ⟨cC, iS, hk⟩ := u_known (ws := u_ws q.1 q.2.1 q.2.2) (s := s) (args := #[]) (fun w hw => hok w ((CL_ok c q hq).1 w hw) _) (fun w hw => hw) (hok _ (CL_in c q hq) _)
      exact ⟨(cC, iS), fun q' h => by cases h; exact hk⟩
  exact ⟨(fun c => (Classical.choose (h c)).1, fun c => (Classical.choose (h c)).2), fun c q hq => Classical.choose_spec (h c) q hq, fun k q h => by simp at h⟩
theorem start_A {s : State} (hok : okS s) : ∃ DA : Nat → ClassId, ∀ K ∈ KA, arrF s (DA K) (AT K) := by
  have prim : ∀ K, okw (.arrayClass (AT K)) → (∀ C, AT K ≠ .object C) → (∀ t, AT K ≠ .array t) → ∃ cA, arrF s cA (AT K) := by
    intro K hw h1 h2
    obtain ⟨c, k, comp, f1, f2, f3⟩ := Cond.arrayClass_spec (hok _ hw #[])
    exact ⟨c, fun n z => ⟨(fun k h => by cases h), k, f2, comp, f3⟩, k, comp, f2, f3, f1, fun C e => absurd e (h1 C), fun t e => absurd e (h2 t)⟩
  have obj : ∀ (K : Nat) (C : String), AT K = .object C → okw (.arrayOver (.object C)) → ∃ cA, arrF s cA (AT K) := by
    intro K C e hw
    obtain ⟨comp, c, k, f1, f2, f3, f4, f5⟩ := Cond.arrayOver_spec (hok _ hw #[])
    rw [e]
    exact ⟨c, fun n z => ⟨(fun k h => by cases h), k, f3, comp, f4⟩, k, comp, f3, f4, f5, fun C' e' => by cases e'; exact f1, fun t e' => by cases e'⟩
  have arr : ∀ (K : Nat) (t : FieldType), AT K = .array t → okw (.arrayOver (.array t)) → ∃ cA, arrF s cA (AT K) := by
    intro K t e hw
    obtain ⟨comp, c, k, f1, f3, f4, f5⟩ := Cond.arrayOver_specA (hok _ hw #[])
    rw [e]
    exact ⟨c, fun n z => ⟨(fun k h => by cases h), k, f3, comp, f4⟩, k, comp, f3, f4, f5, (fun C' e' => by cases e'), (fun t' e' => by cases e'; exact f1)⟩
  have h : ∀ K : Nat, ∃ cA, K ∈ KA → arrF s cA (AT K) := by
    intro K
    by_cases hK : K ∈ KA
    · have : K = 100 ∨ K = 101 ∨ K = 102 ∨ K = 103 ∨ K = 104 ∨ K = 105 ∨ K = 106 ∨ K = 107 ∨ K = 108 := by simpa [KA] using hK
      have g : ∃ cA, arrF s cA (AT K) := by
        rcases this with rfl | rfl | rfl | rfl | rfl | rfl | rfl | rfl | rfl
        · exact prim 100 ca_100 (fun C h => by cases h) (fun t h => by cases h)
        · exact prim 101 ca_101 (fun C h => by cases h) (fun t h => by cases h)
        · exact prim 102 ca_102 (fun C h => by cases h) (fun t h => by cases h)
        · exact arr 103 _ rfl ca_103
        · exact obj 104 _ rfl ca_104
        · exact obj 105 _ rfl ca_105
        · exact obj 106 _ rfl ca_106
        · exact obj 107 _ rfl ca_107
        · exact arr 108 _ rfl ca_108
      obtain ⟨cA, g⟩ := g
      exact ⟨cA, fun _ => g⟩
    · exact ⟨0, fun z => absurd z hK⟩
  exact ⟨fun K => Classical.choose (h K), fun K hK => Classical.choose_spec (h K) hK⟩
/-- the picture of the heap at the law's entry: the script alone -/
def hp0 (H : Heap) (b L : Nat) (xs : Nat → Int32) (cells slots : Nat) : Hp := (fun a => if a = b then 200 else 0, fun _ => (L : Int), fun _ k => (xs k.toNat).toInt, fun _ _ => none, fun _ _ => 0, H.size, ssum H, H.size + cells, ssum H + slots)
theorem rep0 {D : va_G} {DA : Nat → ClassId} {s : State} {b L : Nat} {xs : Nat → Int32} {cells slots : Nat} (hX : va_X b L xs s s.heap) (hL : L ≤ 100000) : rep D DA s.heap.size (s.heap.size + cells) (ssum s.heap + slots) s s.heap (hp0 s.heap b L xs cells slots) := by
  obtain ⟨scr, hcb, hof, hkn, hsz, hval⟩ := hX
  refine ⟨rfl, rfl, rfl, rfl, Nat.le_add_right _ _, Nat.le_add_right _ _, Nat.le_refl _, fun a k => ?_, fun a ha => ?_⟩
  · show inR ((xs k.toNat).toInt)
    have h1 := Int32.le_toInt (xs k.toNat)
    have h2 := Int32.toInt_lt (xs k.toNat)
    omega
  · have e : a = b := by
      apply Classical.byContradiction
      intro q
      exact ha (if_neg q)
    subst e
    have k2 : kd (hp0 s.heap a L xs cells slots) a = 200 := if_pos rfl
    refine ⟨Or.inl k2, Or.inr (Or.inl ⟨k2, ?_, scr, hcb, hof, hkn, ?_, fun j hj => ?_⟩)⟩
    · show inR (L : Int)
      omega
    · show (scr.slots.size : Int) = (L : Int)
      omega
    · have hv := hval j (by omega)
      rw [hv]
      show some (Value.int (xs j)) = some (Value.int (Int32.ofInt ((xs ((j : Int)).toNat).toInt)))
      rw [Int.toNat_natCast, Int32.ofInt_toInt]
/-! ===== the law, from its start to its end ===== -/
set_option maxRecDepth 100000 in
theorem En_start {p : Program} {e : Env} {s s₁ : State} {m : MethodId} {below : List Frame} {meth : Method} {c : Code} {l : Launch} {b : Nat} {xs : List Int32} (B : BodyLoose p l x (headSpec (Jvm.Cond.code x code maxLocals ret :: tables_1) room_1) code maxLocals ret e s m #[.ref b] below meth c s₁) (hx : s.IntsAt b xs) (hL : xs.length ≤ 100000) :
    ∃ (D : va_G) (DA : Nat → ClassId), En 108 D DA s.heap.size (s.heap.size + 600104) (ssum s.heap + 7301314) p room_1 s m meth c s.heap [] (lg_sl ([vR (some b)].map conc) ++ List.replicate (23 - (lg_sl ([vR (some b)].map conc)).length) Slot.unset).toArray (entL [vR (some b)] (mL 108)) (hp0 s.heap b xs.length (fun j => xs.getD j 0) 600104 7301314) := by
  obtain ⟨scr, harrAt, hlist, hof, hsmall⟩ := hx
  obtain ⟨hcb, hkn, -, -⟩ := State.arrayAt?_spec harrAt
  have hts0 : ∀ c ∈ (Jvm.Cond.code x code maxLocals ret :: tables_1), c.before #[Value.ref b] s = true := atoms_spec (ws := Jvm.Cond.code x code maxLocals ret :: tables_1) B.pre
  have hts : ∀ w ∈ lw_tbl, w.before #[Value.ref b] s = true := k2_hts_sels lw_privs (fun w hw => hts0 w (List.mem_cons_of_mem _ hw)) lw_privs_ok
  have hok := okS_start hts
  obtain ⟨D, hK⟩ := start_K hok
  obtain ⟨DA, hA⟩ := start_A hok
  have hsz : scr.slots.size = xs.length := by rw [← Array.length_toList, hlist, List.length_map]
  have hval : ∀ j : Nat, j < xs.length → scr.slots[j]? = some (.int (xs.getD j 0)) := fun j hj => by
    rw [← Array.getElem?_toList, hlist]
    simp [hj]
  have hX : va_X b xs.length (fun j => xs.getD j 0) s s.heap := ⟨scr, hcb, hof, hkn, hsz, hval⟩
  have htab : c.exceptionTable.toList = [] := by
    obtain ⟨meth9, c9, h1, h2, -, -, -, -, h7, -⟩ := Cond.code_spec B.named (hts0 _ List.mem_cons_self)
    cases Option.some.inj (h1.symm.trans B.method)
    cases Option.some.inj (h2.symm.trans (Stand.of_body B).code)
    simpa using h7
  have hml : c.maxLocals = 23 := B.maxLocals_eq (hts0 _ List.mem_cons_self)
  have hrep := rep0 (D := D) (DA := DA) (cells := 600104) (slots := 7301314) hX hL
  refine ⟨D, DA, ⟨B.exec, B.bytes, hml, B.returns, B.notSynchronized, findClass_of_methodNamed B.named, (name_of_methodNamed B.named B.method).1, hok, hK, hA, ?_, ?_, htab⟩, hrep, lrel.entry (as := [vR (some b)]) (by exact Nat.le_of_ble_eq_true rfl), (fun q hq => nomatch hq), Nat.le_refl _, Nat.le_refl _, (by show 600104 = _; omega), (by show 7301314 = _; omega), Nat.le_refl _⟩
  · show mF 108 ≤ 13
    decide
  · show mK 108 ≤ 484
    decide
def R_law : String := "WhistleStopLaw"
def lw_P (b : Addr) (xs : List Int32) (args : Array Value) (s : State) : Prop := args = #[.ref b] ∧ s.IntsAt b xs ∧ xs.length ≤ 260 ∧ (Jvm.Cond.and given_1 narrow_1).before args s = true
/-- what a walk over the start with the record d0 says of its end, said of the start itself -/
theorem lw_closed {s t : State} {o : Outcome} {d0 : Drawn} {L : List Loc} {k n : Nat} (hd0 : s.drawn.sameBut d0 lw_cs) (hv : ∃ v, o = .returned v) (hW : (s.setDrawn d0).WarmedH t.vm) (hs : (s.setDrawn d0).sameButNew ({ t with vm := s.vm } : State) L k n) : State.butDraws s t lw_cs (fun t1 => Framed s o t1 L k n) := by
  have h2 : t.drawn = d0 := congrArg State.drawn hs.1
  refine ⟨⟨hv, hW, State.sameButNew.setDrawn hs s.drawn⟩, ?_, by decide⟩
  rw [h2]
  exact hd0
def lw_Q (_ : Array Value) (s : State) (o : Outcome) (t : State) : Prop := o = .returned (some (.int 1)) ∧ State.butDraws s t lw_cs (fun t1 => Framed s o t1 [] 600104 7301314)
def lw_Z (below : List Frame) (a : Array Value) (s : State) : State → Prop := fun t => ∃ o, t.status = .running ∧ Ended t below o ∧ lw_Q a s o t
set_option maxHeartbeats 4000000 in
theorem lw_walk (l : Launch) (hflags : l.flags = flags0) (b : Addr) (xs : List Int32) : MetFree l x (headSpec (Jvm.Cond.code x code maxLocals ret :: tables_1) room_1) (lw_P b xs) (fun _ _ _ _ _ => True) lw_Q := by
  refine MetFree.of_bodyS (code := code) (maxLocals := maxLocals) (ret := ret) (by decide) ?_ ?_
  · intro args s m h hn
    obtain ⟨meth, c, h1, h2, h3, h4, h5, h6, -, -⟩ := Cond.code_spec hn (atoms_spec (ws := Jvm.Cond.code x code maxLocals ret :: tables_1) h _ List.mem_cons_self)
    exact ⟨meth, c, h1, h2, h3, h4, h5, h6⟩
  · intro p e s m args below meth c s₁ B hml0 hP _
    obtain ⟨rfl, hx, hbd, hgv⟩ := hP
    obtain ⟨D, DA, hE⟩ := En_start B hx (by omega)
    have hh0 : s₁.heap = s.heap := by rw [B.state]; rfl
    have hbl : b < s.heap.size := by
      obtain ⟨scr, harrAt, -⟩ := hx
      obtain ⟨hcb, -⟩ := State.arrayAt?_spec harrAt
      exact (Array.getElem?_eq_some_iff.mp hcb).1
    have W0 := s_law (s := b) (w := s.heap.size) (L := (xs.length : Int)) (h := hp0 s.heap b xs.length (fun j => xs.getD j 0) 600104 7301314) (if_pos rfl) rfl ⟨by omega, by omega⟩ rfl hbl (by show s.heap.size + 63000 ≤ s.heap.size + 600104; omega) (by show ssum s.heap + 2250000 ≤ ssum s.heap + 7301314; omega)
    have W1 := W_tight (cells := 0) (slots := 0) (W0 D DA _ _ _ p l e _ s m #[.ref b] below meth c s.heap [] _ hflags hE)
    obtain ⟨t, a1, o, b1, b2, b3⟩ := W1 s₁ hh0 (Stand.of_body B)
    have e9 := lg_entry_eq (m := m) (vs := [Value.ref b]) (n := 23)
    have e7 : ([vR (some b)] : List AV).map conc = [Value.ref b] := rfl
    rw [e7, List.map_nil, ← e9] at a1
    refine ⟨t, o, a1, b1, b2, ?_⟩
    rcases b3 with ⟨⟨v, h', ho, hv, hrep⟩, L, ⟨-, hW, hsame⟩, hfree⟩ | ⟨q, -, E, ce, L, ⟨h', hf, -⟩, -⟩
    · have hv : v = some (vI 1) := hv
      subst hv
      refine ⟨ho, lw_closed (d0 := s.drawn) (Drawn.sameBut.refl s.drawn lw_cs) ⟨_, ho⟩ hW ?_⟩
      obtain ⟨g1, g2, g3, g4, g5, g6⟩ := hsame
      refine ⟨g1, g2, g3, g4, g5, fun a9 c9 h9 => ?_⟩
      obtain ⟨c', f1, f2, f3, f4⟩ := g6 a9 c9 h9
      refine ⟨c', f1, f2, f3, fun i9 _ => f4 i9 (fun hm => ?_)⟩
      have h8 := hfree _ hm
      have h7 := (Array.getElem?_eq_some_iff.mp h9).1
      exact absurd h8 (Nat.not_le.mpr h7)
    · exact hf.elim
theorem lw_pre_spec {args : Array Value} {s : State} (h : (Jvm.Cond.and given_1 narrow_1).before args s = true) (hr : rest_1_c.before args s = true) : ∃ (b : Addr) (xs : List Int32), lw_P b xs args s := by
  have hs := flat_of_before _ h
  have hq := flat_of_before _ hr
  have hc : (Cond.count 1).before args s = true := hs _ (by decide +kernel)
  have harr : (Cond.arrayOf (.arg 0) .int).before args s = true := hs _ (by decide +kernel)
  have hle : (Cond.le (.length (.arg 0)) (.int 260)).before args s = true := hs _ (by decide +kernel)
  have hlen : (Cond.isInt (.length (.arg 0))).before args s = true := hq _ (by decide +kernel)
  have hall : (Cond.all (.arg 0) (.isInt (.elem (.arg 0) (.index 0)))).before args s = true := hq _ (by decide +kernel)
  obtain ⟨b, xs, hb, hx⟩ := State.ints_of_pre rfl harr hlen hall
  have hsm : xs.length < 2 ^ 31 := hx.choose_spec.2.2.2
  have hev : (Term.length (.arg 0)).eval args s none [] s = some (.int xs.length.toInt32) := hx.length_eval hb
  have hv := Cond.le_ints hev (show (Term.int 260).eval args s none [] s = some (.int 260) from rfl)
  have hd : xs.length.toInt32 ≤ 260 := by
    simpa [Cond.before, Cond.holds, hv] using hle
  have hN : xs.length ≤ 260 := (Int32.ofNat_le_ofNat hsm (by decide)).mp (show Int32.ofNat xs.length ≤ Int32.ofNat 260 from hd)
  exact ⟨b, xs, Cond.one_arg hc (show args[0]? = some (.ref b) from hb), hx, hN, h⟩
theorem lw_comes (l : Launch) (hflags : l.flags = flags0) : Comes l x (Jvm.Cond.code x code maxLocals ret :: tables_1) room_1 (fun tb e args s => Calls_1 tb e args s ∧ rest_1 tb e args s ∧ Pre_1 tb e args s)
    (fun _ _ args s o t => lw_Q args s o t) := by
  intro p e ha hc hk s m args below hf hfit hheap happ hpre
  obtain ⟨b, xs, hP⟩ := lw_pre_spec hpre.2.2 hpre.2.1
  obtain ⟨k, o, h1, h2, h3, hQ⟩ := lw_walk l hflags b xs p e ha hc hk s m args below hf ((Spec.applies_iff_loose hf).mp happ).1 hP trivial
  exact ⟨k, o, h1, h2, h3, hQ⟩
theorem lw_frame {s t : State} {o : Outcome} {args : Array Value} (h : State.butDraws s t lw_cs (fun t1 => Framed s o t1 [] 600104 7301314)) :
    State.butDraws s t [Jvm.Choice.named "NaN.bits"] (fun t1 => Framed s o t1 (fieldLocs frame_1_writes args s ++ arrayLocs frame_1_arrays args s ++ staticLocs frame_1_statics s) 600104 7301314) := h
theorem lw_limb (L : Cond) (hL : ∀ (args : Array Value) (s t : State), L.after args s (.returned (some (.int 1))) t = true) :
    ArmFor flags0 classFile x code maxLocals ret World_1 tables_1 room_1 Calls_1 rest_1 Pre_1
      (fun tb e a s o t => postC L tb e a s o t ∧ State.butDraws s t [Jvm.Choice.named "NaN.bits"] (fun t1 => Framed s o t1 (fieldLocs frame_1_writes a s ++ arrayLocs frame_1_arrays a s ++ staticLocs frame_1_statics s) 600104 7301314)) := by
  intro l hflags _ _ p e ha hc hk s m args below hf hfit hheap happ hpre
  obtain ⟨k, o, h1, h2, h3, rfl, hF⟩ := lw_comes l hflags p e ha hc hk s m args below hf hfit hheap happ hpre
  exact ⟨k, _, h1, h2, h3, hL args s _, lw_frame hF⟩
theorem i_vc : Claimed_1_1 ∧ Claimed_1_2 := ⟨lw_limb limb_1_1 (fun args s t => by simp [limb_1_1, Cond.after, Cond.holds, Cond.value]), lw_limb limb_1_2 (fun args s t => Cond.after_iff.mpr (by
  first | (rw [show limb_1_2 = Cond.eq .result (.int 1) from rfl, Cond.eq_ints (x := 1) (y := 1) rfl rfl]; simp; done) | (simp [limb_1_2, Cond.value, Term.eval]; done)))⟩
