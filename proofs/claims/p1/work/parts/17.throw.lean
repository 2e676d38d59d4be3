/-! ===== THE LOGIC: throws and catches ===== -/
/-- the same heap, but for what nothing tells of -/
def xh (h : Hp) (n u : Nat) : Hp := (kd h, ln h, hi h, hr h, hl h, n, u, cn h, cs h)
theorem kd_xh (h : Hp) (n u : Nat) : kd (xh h n u) = kd h := rfl
theorem ln_xh (h : Hp) (n u : Nat) : ln (xh h n u) = ln h := rfl
theorem hi_xh (h : Hp) (n u : Nat) : hi (xh h n u) = hi h := rfl
theorem hr_xh (h : Hp) (n u : Nat) : hr (xh h n u) = hr h := rfl
theorem hl_xh (h : Hp) (n u : Nat) : hl (xh h n u) = hl h := rfl
theorem nx_xh (h : Hp) (n u : Nat) : nx (xh h n u) = n := rfl
theorem us_xh (h : Hp) (n u : Nat) : us (xh h n u) = u := rfl
theorem cn_xh (h : Hp) (n u : Nat) : cn (xh h n u) = cn h := rfl
theorem cs_xh (h : Hp) (n u : Nat) : cs (xh h n u) = cs h := rfl
/-- E0 is thrown: one cell more, that nothing tells of -/
def XE (E0 : String) (h : Hp) : String → Hp → Prop := fun E h' => E = E0 ∧ ∃ n u, h' = xh h n u ∧ nx h ≤ n ∧ n ≤ nx h + 1 ∧ us h ≤ u ∧ u ≤ us h + 6
theorem rep_xh {D : va_G} {DA : Nat → ClassId} {B0 CN CS : Nat} {s t : State} {H : Heap} {h : Hp} (k : rep D DA B0 CN CS s H h) (hal : s.vm.Alike t.vm) (h1 : H.size ≤ t.heap.size) (h2 : ∀ q : Nat, q < H.size → t.heap[q]? = H[q]?) (h3 : t.heap.size ≤ CN) (h4 : ssum t.heap ≤ CS) : rep D DA B0 CN CS t t.heap (xh h t.heap.size (ssum t.heap)) := by
  have hlt := fun a (ha : kd h a ≠ 0) => (k.2.2.2.2.2.2.2.2 a ha).2.lt
  obtain ⟨k1, k2, k3, k4, k5, k6, k7, k8, k9⟩ := k
  refine ⟨rfl, rfl, k3, k4, h3, h4, ?_, k8, fun a ha => ⟨(k9 a ha).1, ((k9 a ha).2.kept (h1 := xh h t.heap.size (ssum t.heap)) (h2 a (hlt a ha)) rfl rfl (fun _ => rfl) (fun _ => rfl) (fun _ => rfl)).moved hal⟩⟩
  show B0 ≤ t.heap.size
  omega
section HT
variable {i pc : Nat} {ls : List (Option AV)} {st : List AV} {h : Hp} {Q : Option AV → Hp → Prop} {X : String → Hp → Prop}
theorem wp_throwSW {ik is ic : Nat} {cls text : String} {names : List String} (d0 : decode (mB i) pc = .ok (.new ik, 3)) (d3 : decode (mB i) (pc + 3) = .ok (.dup, 1)) (d4 : decode (mB i) (pc + 4) = .ok (.ldc_w is, 3)) (d6 : decode (mB i) (pc + 7) = .ok (.invokespecial ic, 3)) (d9 : decode (mB i) (pc + 10) = .ok (.athrow, 1))
    (hk : okw (.classLink (mY i).cls ik cls)) (hini : okw (.initialized cls)) (hstr : okw (.stringRef (mY i).cls is text)) (hat : ∀ w ∈ vx_atS (mY i).cls ic cls names, okw w) (hgood : ∀ w ∈ Cond.classLink (mY i).cls ik cls :: Cond.initialized cls :: vx_atS (mY i).cls ic cls names, vx_ot w = true)
    (hcls : Bundle.fit cls = true) (hnames : ∀ n ∈ names, Bundle.fit n = true) (hmx : mX i = []) (hF : names.length + 3 < mF i) (hKm : 13 * (names.length + 1) + 43 ≤ mK i)
    (r1 : nx h + 1 ≤ cn h) (r2 : us h + 6 ≤ cs h) (kk : ∀ h', XE cls h cls h' → X cls h') : wp i pc ls [] h Q X := by
  intro D DA B0 CN CS p l e R s m args below meth c H locs ls' hfl hE
  intro T hT XX
  obtain ⟨hz, hS⟩ := hE.zq hT XX
  obtain ⟨hx, hb, hml, -, hlocks, hown, -, hok, -, -, hfr, hlo, htab⟩ := hE.1
  have hz0 := hE.2.2.2.2.2.2.2.2.2
  have hroom := hE.room (n := 6) r1 r2
  have hl : l.stackTraces = false := by
    unfold Launch.stackTraces
    rw [hfl]
    first | decide | decide +kernel | rfl
  obtain ⟨kc, cf, ix, sa, q1, q2, q3, q4, q5, q6⟩ := Cond.stringRef_spec hown (hok _ hstr #[])
  have hvk : vk_R (mY i).cls is text sa s := vk_R.of (hok _ hstr #[]) q6
  have hW := vx_throwSW (p := p) (l := l) (e := e) (R := R) (s := s) (m := m) (args := args) (below := below) (meth := meth) (c := c) (H := H) (locs := locs) (cells := H.size - s.heap.size) (slots := ssum H - ssum s.heap) (ls := ls') (rest := []) (free := fun q => B0 ≤ q) (A := fun q => B0 ≤ q) (mc := H.size - s.heap.size + 1) (ms := ssum H - ssum s.heap + 6)
    (Qc := fun _ _ _ _ => False) (XC := fun E s t => E = cls ∧ s.vm.Alike t.vm ∧ H.size ≤ t.heap.size ∧ ∀ q : Nat, q < H.size → t.heap[q]? = H[q]?)
    hx hb hl hown hcls hnames (hok _ hk _) (hok _ hini _) hvk (fun w hw => hok w (hat w hw) _) hgood hz0.1 hz0.2 hS (by rw [hml]; exact hE.2.2.1.1) d0 d3 d4 d6 d9
    (fun x hx9 => by rw [htab, hmx] at hx9; cases hx9) (by omega) (by show 0 + _ ≤ _; omega) hroom.1 hroom.2 hlocks (fun t a1 a2 a3 => ⟨rfl, a1, a2, a3⟩) hE.2.2.2.1 (Nat.le_refl _) (Nat.le_refl _)
  obtain ⟨t, a1, o, b1, b2, b3⟩ := hW T hT XX
  refine ⟨t, a1, o, b1, b2, ?_⟩
  rcases b3 with ⟨hf, -⟩ | ⟨q, e0, E, ce, L, ⟨rfl, hal, g1, g2⟩, hce, hcv, hcl, hWm, hsame, hf⟩
  · exact hf.elim
  have hsz : H.size = nx h := hE.2.1.1
  have hss : ssum H = us h := hE.2.1.2.1
  have c1 := hE.2.2.2.2.1
  have c2 := hE.2.2.2.2.2.1
  have cN := hE.2.1.2.2.1
  have cS := hE.2.1.2.2.2.1
  have hsame2 := hsame
  obtain ⟨-, s2, s3, -, s5, s6⟩ := hsame2
  have s2' : s.heap.size ≤ t.heap.size := s2
  have s3' : t.heap.size ≤ s.heap.size + (H.size - s.heap.size + 1) := s3
  have s5' : ((t.heap.toList.drop s.heap.size).map (fun c => c.slots.size)).sum ≤ ssum H - ssum s.heap + 6 := s5
  have e1 := ssum_split t.heap s.heap.size
  rw [ssum_same (H0 := s.heap) s2' (fun a c hc => by
    obtain ⟨c', z1, -, z3, -⟩ := s6 a c hc
    exact ⟨c', z1, z3⟩)] at e1
  have e2 := ssum_split t.heap H.size
  rw [ssum_same (H0 := H) g1 (fun a c hc => ⟨c, by rw [g2 a (Array.getElem?_eq_some_iff.mp hc).1]; exact hc, rfl⟩)] at e2
  exact Or.inr ⟨q, e0, E, ce, L, ⟨xh h t.heap.size (ssum t.heap), kk _ ⟨rfl, _, _, rfl, by omega, by omega, by omega, by omega⟩, rep_xh hE.2.1 hal g1 g2 (by omega) (by omega)⟩, hce, hcv, hcl, hWm, hsame.mono hroom.1 hroom.2, hf⟩
/-- caught by the first row of the method's own table -/
theorem xp_catch {E E' : String} {x : ExceptionTableEntry} {suf : List ExceptionTableEntry} (hx : mX i = x :: suf) (hc : covers x pc = true) (h0 : x.catchType ≠ 0) (hl : okw (.classLink (mY i).cls x.catchType E')) (hcast : okw (.castable E E')) (kk : ∀ q : Nat, wp i x.handlerPc ls [vR (some q)] h Q X) : xp i pc ls h E Q X := by
  intro D DA B0 CN CS p l e R s m args below meth c H locs ls' q ce st' hfl hE hcell hv hcl
  obtain ⟨hxx, hb, hml, -, hlocks, hown, -, hok, -, -, hfr, hlo, htab⟩ := hE.1
  exact vx_catch hown [] x suf (by rw [htab, hx]; rfl) (fun z hz => nomatch hz) hc h0 (hok _ hl _) (hok _ hcast _) hcell hv hcl (kk q D DA B0 CN CS p l e R s m args below meth c H locs ls' hfl hE)
end HT
