/-! ===== the start of the law ===== -/
theorem okS_start {s : State} {b : Nat} (hts : ∀ w ∈ lw_tbl, w.before #[Value.ref b] s = true) : okS s := by
  intro w hw a'
  have hb := hts w hw.1
  obtain ⟨-, hm⟩ := hw
  have hW : s.WarmedH s.vm := State.WarmedH.refl s
  unfold mw at hm
  split at hm
  · exact va_Nw.use rfl (va_Nw.warmM hW hb)
  · exact va_AO.use (va_AO.moved hW.alike hb)
  · exact ao_moved hW.alike hb
  · exact word_at hW (good_of_word hm) hb
set_option maxRecDepth 100000 in
theorem CL_in : ∀ (c : Nat) (q : vw_C), CL[c]? = some q → okw (.instantiable q.1 q.2.2) := by
  intro c q h
  match c, h with
  | 0, h => cases h; exact ci0.1
  | 1, h => cases h; exact ci1.1
  | 2, h => cases h; exact ci2.1
  | 3, h => cases h; exact ci3.1
  | 4, h => cases h; exact ci4.1
  | 5, h => cases h; exact ci5.1
  | 6, h => cases h; exact ci6.1
  | 7, h => cases h; exact ci7.1
  | 8, h => cases h; exact ci8.1
  | 9, h => cases h; exact ci9.1
  | 10, h => cases h; exact ci10.1
  | 11, h => cases h; exact ci11.1
  | 12, h => cases h; exact ci12.1
  | c + 13, h => simp [CL] at h
theorem start_K {s : State} (hok : okS s) : ∃ D : va_G, va_K D CL [] s := by
  have h : ∀ c : Nat, ∃ d : ClassId × (Nat → Nat), ∀ q : vw_C, CL[c]? = some q → u_Kn s q.1 q.2.1 q.2.2 d.1 d.2 := by
    intro c
    cases hq : CL[c]? with
    | none => exact ⟨(0, fun _ => 0), fun q h => by cases h⟩
    | some q =>
      obtain ⟨cC, iS, hk⟩ := u_known (ws := u_ws q.1 q.2.1 q.2.2) (s := s) (args := #[]) (fun w hw => hok w ((CL_ok c q hq).1 w hw) _) (fun w hw => hw) (hok _ (CL_in c q hq) _)
      exact ⟨(cC, iS), fun q' h => by cases h; exact hk⟩
  exact ⟨(fun c => (Classical.choose (h c)).1, fun c => (Classical.choose (h c)).2), fun c q hq => Classical.choose_spec (h c) q hq, fun k q h => by simp at h⟩
theorem start_A {s : State} (hok : okS s) : ∃ DA : Nat → ClassId, ∀ K ∈ KA, arrF s (DA K) (AT K) := by
  have prim : ∀ K, okw (.arrayClass (AT K)) → (∀ C, AT K ≠ .object C) → (∀ t, AT K ≠ .array t) → ∃ cA, arrF s cA (AT K) := by
    intro K hw h1 h2
    obtain ⟨c, k, comp, f1, f2, f3⟩ := Cond.arrayClass_spec (hok _ hw #[])
    exact ⟨c, fun n z => ⟨(fun k h => by cases h), k, f2, comp, f3⟩, k, comp, f2, f3, f1, fun C e => absurd e (h1 C), fun t e => absurd e (h2 t)⟩
  have obj : ∀ (K : Nat) (C : String), AT K = .object C → okw (.arrayOver (.object C)) → ∃ cA, arrF s cA (AT K) := by
    intro K C e hw
    obtain ⟨comp, c, k, f1, f2, f3, f4, f5⟩ := Cond.arrayOver_spec (hok _ hw #[])
    rw [e]
    exact ⟨c, fun n z => ⟨(fun k h => by cases h), k, f3, comp, f4⟩, k, comp, f3, f4, f5, fun C' e' => by cases e'; exact f1, fun t e' => by cases e'⟩
  have arr : ∀ (K : Nat) (t : FieldType), AT K = .array t → okw (.arrayOver (.array t)) → ∃ cA, arrF s cA (AT K) := by
    intro K t e hw
    obtain ⟨comp, c, k, f1, f3, f4, f5⟩ := Cond.arrayOver_specA (hok _ hw #[])
    rw [e]
    exact ⟨c, fun n z => ⟨(fun k h => by cases h), k, f3, comp, f4⟩, k, comp, f3, f4, f5, (fun C' e' => by cases e'), (fun t' e' => by cases e'; exact f1)⟩
  have h : ∀ K : Nat, ∃ cA, K ∈ KA → arrF s cA (AT K) := by
    intro K
    by_cases hK : K ∈ KA
    · have : K = 100 ∨ K = 101 ∨ K = 103 ∨ K = 104 ∨ K = 105 ∨ K = 106 ∨ K = 107 := by simpa [KA] using hK
      have g : ∃ cA, arrF s cA (AT K) := by
        rcases this with rfl | rfl | rfl | rfl | rfl | rfl | rfl
        · exact prim 100 ca_100 (fun C h => by cases h) (fun t h => by cases h)
        · exact prim 101 ca_101 (fun C h => by cases h) (fun t h => by cases h)
        · exact arr 103 _ rfl ca_103
        · exact obj 104 _ rfl ca_104
        · exact obj 105 _ rfl ca_105
        · exact obj 106 _ rfl ca_106
        · exact obj 107 _ rfl ca_107
      obtain ⟨cA, g⟩ := g
      exact ⟨cA, fun _ => g⟩
    · exact ⟨0, fun z => absurd z hK⟩
  exact ⟨fun K => Classical.choose (h K), fun K hK => Classical.choose_spec (h K) hK⟩
/-- the picture of the heap at the law's entry: the script alone -/
def hp0 (H : Heap) (b L : Nat) (xs : Nat → Int32) (cells slots : Nat) : Hp := (fun a => if a = b then 200 else 0, fun _ => (L : Int), fun _ k => (xs k.toNat).toInt, fun _ _ => none, fun _ _ => 0, H.size, ssum H, H.size + cells, ssum H + slots)
theorem rep0 {D : va_G} {DA : Nat → ClassId} {s : State} {b L : Nat} {xs : Nat → Int32} {cells slots : Nat} (hX : va_X b L xs s s.heap) (hL : L ≤ 100000) : rep D DA s.heap.size (s.heap.size + cells) (ssum s.heap + slots) s s.heap (hp0 s.heap b L xs cells slots) := by
  obtain ⟨scr, hcb, hof, hkn, hsz, hval⟩ := hX
  refine ⟨rfl, rfl, rfl, rfl, Nat.le_add_right _ _, Nat.le_add_right _ _, Nat.le_refl _, fun a k => ?_, fun a ha => ?_⟩
  · show inR ((xs k.toNat).toInt)
    have h1 := Int32.le_toInt (xs k.toNat)
    have h2 := Int32.toInt_lt (xs k.toNat)
    omega
  · have e : a = b := by
      apply Classical.byContradiction
      intro q
      exact ha (if_neg q)
    subst e
    have k2 : kd (hp0 s.heap a L xs cells slots) a = 200 := if_pos rfl
    refine ⟨Or.inl k2, Or.inr (Or.inl ⟨k2, ?_, scr, hcb, hof, hkn, ?_, fun j hj => ?_⟩)⟩
    · show inR (L : Int)
      omega
    · show (scr.slots.size : Int) = (L : Int)
      omega
    · have hv := hval j (by omega)
      rw [hv]
      show some (Value.int (xs j)) = some (Value.int (Int32.ofInt ((xs ((j : Int)).toNat).toInt)))
      rw [Int.toNat_natCast, Int32.ofInt_toInt]
/-! ===== a run of the law to its end, with more room than the claim gives ===== -/
abbrev rmB (cells slots : Nat) : Room := { frames := 12, cells := cells, slots := slots, locals := 508 }
set_option maxRecDepth 100000 in
theorem En_start {p : Program} {e : Env} {s s₁ : State} {m : MethodId} {below : List Frame} {meth : Method} {c : Code} {l : Launch} {b : Nat} {xs : List Int32} {cells slots : Nat} (B : BodyLoose p l x (headSpec (Jvm.Cond.code x code maxLocals ret :: tables_1) (rmB cells slots)) code maxLocals ret e s m #[.ref b] below meth c s₁) (hx : s.IntsAt b xs) (hL : xs.length ≤ 100000) :
    ∃ (D : va_G) (DA : Nat → ClassId), En 212 D DA s.heap.size (s.heap.size + cells) (ssum s.heap + slots) p (rmB cells slots) s m meth c s.heap [] (lg_sl ([vR (some b)].map conc) ++ List.replicate (9 - (lg_sl ([vR (some b)].map conc)).length) Slot.unset).toArray (entL [vR (some b)] (mL 212)) (hp0 s.heap b xs.length (fun j => xs.getD j 0) cells slots) := by
  obtain ⟨scr, harrAt, hlist, hof, hsmall⟩ := hx
  obtain ⟨hcb, hkn, -, -⟩ := State.arrayAt?_spec harrAt
  have hts0 : ∀ c ∈ (Jvm.Cond.code x code maxLocals ret :: tables_1), c.before #[Value.ref b] s = true := atoms_spec (ws := Jvm.Cond.code x code maxLocals ret :: tables_1) B.pre
  have hts : ∀ w ∈ lw_tbl, w.before #[Value.ref b] s = true := k2_hts_sels lw_privs (fun w hw => hts0 w (List.mem_cons_of_mem _ hw)) lw_privs_ok
  have hok := okS_start hts
  obtain ⟨D, hK⟩ := start_K hok
  obtain ⟨DA, hA⟩ := start_A hok
  have hsz : scr.slots.size = xs.length := by rw [← Array.length_toList, hlist, List.length_map]
  have hval : ∀ j : Nat, j < xs.length → scr.slots[j]? = some (.int (xs.getD j 0)) := fun j hj => by
    rw [← Array.getElem?_toList, hlist]
    simp [hj]
  have hX : va_X b xs.length (fun j => xs.getD j 0) s s.heap := ⟨scr, hcb, hof, hkn, hsz, hval⟩
  have htab : c.exceptionTable.toList = [] := by
    obtain ⟨meth9, c9, h1, h2, -, -, -, -, h7, -⟩ := Cond.code_spec B.named (hts0 _ List.mem_cons_self)
    cases Option.some.inj (h1.symm.trans B.method)
    cases Option.some.inj (h2.symm.trans (Stand.of_body B).code)
    simpa using h7
  have hml : c.maxLocals = 9 := B.maxLocals_eq (hts0 _ List.mem_cons_self)
  have hrep := rep0 (D := D) (DA := DA) (cells := cells) (slots := slots) hX hL
  refine ⟨D, DA, ⟨B.exec, B.bytes, hml, B.returns, B.notSynchronized, findClass_of_methodNamed B.named, (name_of_methodNamed B.named B.method).1, hok, hK, hA, ?_, ?_, htab⟩, hrep, lrel.entry (as := [vR (some b)]) (by exact Nat.le_of_ble_eq_true rfl), (fun q hq => nomatch hq), Nat.le_refl _, Nat.le_refl _, (by show cells = _; omega), (by show slots = _; omega), Nat.le_refl _⟩
  · show mF 212 ≤ 12
    decide
  · show mK 212 ≤ 508
    decide
/-- the script, as the law's argument has it -/
def scOK (xs : List Int32) (r : Nat) : Prop := xs.length = 5 * (r + 2) ∧ (∀ q : Nat, q < 2 → xs.getD (5 * q) 0 = 0 ∧ xs.getD (5 * q + 1) 0 = 0) ∧ ∀ q : Nat, q < r + 2 → 2 ≤ q → xs.getD (5 * q) 0 = 22 ∧ xs.getD (5 * q + 1) 0 = 0 ∧ xs.getD (5 * q + 2) 0 = 1 ∧ xs.getD (5 * q + 3) 0 = 500000
theorem sc0 {H : Heap} {b r cells slots : Nat} {xs : List Int32} (h : scOK xs r) : Sc (hp0 H b xs.length (fun j => xs.getD j 0) cells slots) b ((r : Int) + 2) := by
  obtain ⟨h1, h2, h3⟩ := h
  have e : ∀ (k : Int) (n : Nat), k = (n : Int) → hi (hp0 H b xs.length (fun j => xs.getD j 0) cells slots) b k = (xs.getD n 0).toInt := fun k n hk => by
    subst hk
    rfl
  refine ⟨if_pos rfl, ?_, fun q q0 q1 => ?_, fun q q0 q1 => ?_⟩
  · show ((xs.length : Nat) : Int) = _
    omega
  · obtain ⟨n, rfl⟩ : ∃ n : Nat, q = n := ⟨q.toNat, by omega⟩
    obtain ⟨a1, a2⟩ := h2 n (by omega)
    rw [e _ (5 * n) (by omega), e _ (5 * n + 1) (by omega), a1, a2]
    exact ⟨rfl, rfl⟩
  · obtain ⟨n, rfl⟩ : ∃ n : Nat, q = n := ⟨q.toNat, by omega⟩
    obtain ⟨a1, a2, a3, a4⟩ := h3 n (by omega) (by omega)
    rw [e _ (5 * n) (by omega), e _ (5 * n + 1) (by omega), e _ (5 * n + 2) (by omega), e _ (5 * n + 3) (by omega), a1, a2, a3, a4]
    exact ⟨rfl, rfl, rfl, rfl⟩
set_option maxRecDepth 100000 in
theorem big_walk (l : Launch) (hflags : l.flags = flags0) (b : Addr) (xs : List Int32) (r : Nat) (hr : r ≤ 510) (hsc : scOK xs r) : MetFree l x (headSpec (Jvm.Cond.code x code maxLocals ret :: tables_1) (rmB (281 + 2776 * r) (15745 + 41293 * r))) (fun a s => a = #[.ref b] ∧ s.IntsAt b xs) (fun _ _ _ _ _ => True) (fun _ s o t => o = .returned (some (.int 1)) ∧ ssum t.heap = ssum s.heap + (15745 + 41293 * r)) := by
  refine MetFree.of_bodyS (code := code) (maxLocals := maxLocals) (ret := ret) (by decide) ?_ ?_
  · intro args s m h hn
    obtain ⟨meth, c, h1, h2, h3, h4, h5, h6, -, -⟩ := Cond.code_spec hn (atoms_spec (ws := Jvm.Cond.code x code maxLocals ret :: tables_1) h _ List.mem_cons_self)
    exact ⟨meth, c, h1, h2, h3, h4, h5, h6⟩
  · intro p e s m args below meth c s₁ B hml0 hP _
    obtain ⟨rfl, hx⟩ := hP
    have hL : xs.length ≤ 100000 := by have := hsc.1; omega
    obtain ⟨D, DA, hE⟩ := En_start B hx hL
    have hh0 : s₁.heap = s.heap := by rw [B.state]; rfl
    have hbl : b < s.heap.size := by
      obtain ⟨scr, harrAt, -⟩ := hx
      obtain ⟨hcb, -⟩ := State.arrayAt?_spec harrAt
      exact (Array.getElem?_eq_some_iff.mp hcb).1
    have W0 := s_law (r := r) (K := (r : Int) + 2) (s := b) (w := s.heap.size) (h := hp0 s.heap b xs.length (fun j => xs.getD j 0) (281 + 2776 * r) (15745 + 41293 * r)) ⟨rfl, by omega⟩ rfl hbl (sc0 hsc) (by show s.heap.size + 281 + 2776 * r ≤ s.heap.size + (281 + 2776 * r); omega) (by show ssum s.heap + 15745 + 41293 * r ≤ ssum s.heap + (15745 + 41293 * r); omega)
    have W1 := W_tight (cells := 0) (slots := 0) (W0 D DA _ _ _ p l e _ s m #[.ref b] below meth c s.heap [] _ hflags hE)
    obtain ⟨t, a1, o, b1, b2, b3⟩ := W1 s₁ hh0 (Stand.of_body B)
    refine ⟨t, o, ?_, b1, b2, ?_⟩
    · have e9 := lg_entry_eq (m := m) (vs := [Value.ref b]) (n := 9)
      first | exact a1 | (rw [← e9] at a1; exact a1) | (rw [e9]; exact a1)
    rcases b3 with ⟨⟨v, h', ho, ⟨hv, -, hu⟩, hrep⟩, -⟩ | ⟨q, -, E, L, ce, ⟨h', hf, -⟩, -⟩
    · subst hv
      refine ⟨ho, ?_⟩
      rw [hrep.2.1, hu]
      show ssum s.heap + 15745 + 41293 * r = _
      omega
    · exact hf.elim
/-! ===== THE REFUTATION of whole, at every start whose script is this one and whose platform has 31,572 slots more than the claim's room ===== -/
/-- two times addStop(0), then 177 times latest(0, 1, 500000) -/
def theScript : List Int32 := (List.replicate 2 ([0, 0, 0, 0, 0] : List Int32)).flatten ++ (List.replicate 177 ([22, 0, 1, 500000, 0] : List Int32)).flatten
set_option maxRecDepth 100000 in
theorem theScript_ok : scOK theScript 177 := by
  unfold scOK
  decide +kernel
theorem post_false {s t : State} {o : Outcome} (hu : ssum t.heap = ssum s.heap + (15745 + 41293 * 177)) {L : List Loc} {cs : List Choice} : ¬ State.butDraws s t cs (fun t1 => Framed s o t1 L 601024 7293034) := by
  intro h
  obtain ⟨⟨-, -, hs⟩, -⟩ := h
  obtain ⟨-, h1, -, -, h4, h5⟩ := hs
  have h1 : s.heap.size ≤ t.heap.size := h1
  have h4 : ((t.heap.toList.drop s.heap.size).map (·.slots.size)).sum ≤ 7293034 := h4
  have e1 := ssum_split t.heap s.heap.size
  rw [ssum_same h1 (fun a c hc => by
    obtain ⟨c', g1, -, g3, -⟩ := h5 a c hc
    exact ⟨c', g1, g3⟩)] at e1
  omega
set_option maxRecDepth 100000 in
theorem whole_false {l : Launch} {p : Program} {e : Env} {s : State} {m : MethodId} {args : Array Value} {below : List Frame} (hfl : l.flags = flags0) (S : AtStart classFile x code maxLocals ret World_1 tables_1 room_1 Calls_1 rest_1 Pre_1 l p e s m args below) {b : Addr} (ha : args = #[.ref b]) (hx : s.IntsAt b theScript) (hsl : s.slotsUsed + 7324606 ≤ e.platform.maxSlots) : ¬ Claimed_1_1 ∧ ¬ Claimed_1_2 ∧ RefutedClaimed_1_1 ∧ RefutedClaimed_1_2 := by
  have S0 := S
  obtain ⟨hL, hW, had, hle, hcas, hclk, hf, hfit, hheap, happ, hcalls, hrest, hpre⟩ := S
  have happ2 : (headSpec (Jvm.Cond.code x code maxLocals ret :: tables_1) (rmB (281 + 2776 * 177) (15745 + 41293 * 177))).applies x e.platform s = true := by
    obtain ⟨a1, a2, a3, a4, a5, a6, a7, a8⟩ := (Spec.applies_iff hf).mp happ
    refine (Spec.applies_iff hf).mpr ⟨a1, a2, a3, a4, a5, a6, ?_, a8⟩
    have a7 : s.hasRoom e.platform room_1 = true := a7
    show s.hasRoom e.platform (rmB (281 + 2776 * 177) (15745 + 41293 * 177)) = true
    unfold State.hasRoom at a7 ⊢
    simp only [Bool.and_eq_true, decide_eq_true_eq, room_1] at a7 ⊢
    obtain ⟨⟨⟨⟨b1, b2⟩, b3⟩, b4⟩, b5⟩ := a7
    have b1' : s.localsInUse + 508 + stackMargin ≤ realStackBytes / 8 := by first | exact b1 | exact of_decide_eq_true b1
    have b3' : s.heap.size + 601024 ≤ e.platform.maxCells := by first | exact b3 | exact of_decide_eq_true b3
    exact ⟨⟨⟨⟨b1', (by first | exact b2 | exact of_decide_eq_true b2)⟩, by omega⟩, by omega⟩, b5⟩
  obtain ⟨n, o, h1, h2, h3, h4, h5⟩ := big_walk l hfl b theScript 177 (by decide) theScript_ok p e had hcas hclk s m args below hf ((Spec.applies_iff_loose hf).mp happ2).1 ⟨ha, hx⟩ trivial
  have no1 : ¬ Post_1_1 p.tables e args s o (stepsAlone p.tables e n s) := fun q => post_false h5 q.2
  have no2 : ¬ Post_1_2 p.tables e args s o (stepsAlone p.tables e n s) := fun q => post_false h5 q.2
  refine ⟨fun C => ?_, fun C => ?_, ⟨l, p, e, s, m, args, below, hfl, S0, n, o, h1, h2, h3, no1⟩, ⟨l, p, e, s, m, args, below, hfl, S0, n, o, h1, h2, h3, no2⟩⟩
  · obtain ⟨n', o', g1, g2, g3, g4⟩ := C l hfl hL hW p e had hcas hclk s m args below hf hfit hheap happ ⟨hcalls, hrest, hpre⟩
    obtain ⟨rfl, rfl⟩ := the_end_unique (f := fun k => stepsAlone p.tables e k s) h1 h3 g1 g3
    exact no1 g4
  · obtain ⟨n', o', g1, g2, g3, g4⟩ := C l hfl hL hW p e had hcas hclk s m args below hf hfit hheap happ ⟨hcalls, hrest, hpre⟩
    obtain ⟨rfl, rfl⟩ := the_end_unique (f := fun k => stepsAlone p.tables e k s) h1 h3 g1 g3
    exact no2 g4
