/-! ===== THE LOGIC, part 5: ends and calls ===== -/
section HC
variable {i pc : Nat} {ls : List (Option AV)} {st : List AV} {h : Hp} {Q : Option AV → Hp → Prop} {X : String → Hp → Prop}
theorem En.end_ {D : va_G} {DA : Nat → ClassId} {B0 CN CS : Nat} {p : Program} {R : Room} {s : State} {m : MethodId} {meth : Method} {c : Code} {H : Heap} {locs : List Loc} {ls' : Array Slot} (hE : En i D DA B0 CN CS p R s m meth c H locs ls' ls h) : H.size - s.heap.size ≤ R.cells ∧ ssum H - ssum s.heap ≤ R.slots := by
  obtain ⟨a1, ⟨b1, b2, b3, b4, b5, b6, b7, b8⟩, a3, a4, a5, a6, a7, a8, a9⟩ := hE
  rw [a7, a8, b1, b2]
  rw [b1] at a5
  rw [b2] at a6
  omega
theorem En.post {D : va_G} {DA : Nat → ClassId} {B0 CN CS : Nat} {p : Program} {R : Room} {s : State} {m : MethodId} {meth : Method} {c : Code} {H : Heap} {locs : List Loc} {ls' : Array Slot} (hE : En i D DA B0 CN CS p R s m meth c H locs ls' ls h) {v : Option AV} (hq : Q v h) (t : State) (ht : t.heap = H) (hW : s.WarmedH t.vm) : ∃ v' h', (.returned (v.map conc) : Outcome) = .returned (v'.map conc) ∧ Q v' h' ∧ rep D DA B0 CN CS t t.heap h' := by
  refine ⟨v, h, rfl, hq, ?_⟩
  rw [ht]
  exact hE.2.1.moved hW.alike
theorem wp_iret {x : Int} (hd : decode (mB i) pc = .ok (.ireturn, 1)) (hr : mR i = some .int) (hq : Q (some (vI x)) h) : wp i pc ls [vI x] h Q X := by
  intro D DA B0 CN CS p l e R s m args below meth c H locs ls' hfl hE
  have hlk := hE.1.2.2.2.2.1
  refine W.widen hE.end_.1 hE.end_.2 (vx_ret ?_)
  exact W.iret (v := Int32.ofInt x) hE.1.1 hE.1.2.1 (hE.1.2.2.2.1.trans hr) (fun t ht hW => hE.post (v := some (vI x)) hq t ht hW) hE.2.2.2.1 hd
theorem wp_zret {x : Int} (hd : decode (mB i) pc = .ok (.ireturn, 1)) (hr : mR i = some .boolean) (hx : x = 0 ∨ x = 1) (hq : Q (some (vI x)) h) : wp i pc ls [vI x] h Q X := by
  intro D DA B0 CN CS p l e R s m args below meth c H locs ls' hfl hE
  have hlk := hE.1.2.2.2.2.1
  refine W.widen hE.end_.1 hE.end_.2 (vx_ret ?_)
  exact W.zret (v := Int32.ofInt x) (ty := .boolean) hE.1.1 hE.1.2.1 (hE.1.2.2.2.1.trans hr) (fit_I (ty := .boolean) rfl (fun _ => hx)).1 (fun t ht hW => hE.post (v := some (vI x)) hq t ht hW) hE.2.2.2.1 hd
theorem wp_lret {x : Int} (hd : decode (mB i) pc = .ok (.lreturn, 1)) (hr : mR i = some .long) (hq : Q (some (vL x)) h) : wp i pc ls [vL x] h Q X := by
  intro D DA B0 CN CS p l e R s m args below meth c H locs ls' hfl hE
  have hlk := hE.1.2.2.2.2.1
  refine W.widen hE.end_.1 hE.end_.2 (vx_ret ?_)
  exact W.lret (v := Int64.ofInt x) hE.1.1 hE.1.2.1 (hE.1.2.2.2.1.trans hr) (fun t ht hW => hE.post (v := some (vL x)) hq t ht hW) hE.2.2.2.1 hd
theorem wp_dret {x : UInt64} (hd : decode (mB i) pc = .ok (.dreturn, 1)) (hr : mR i = some .double) (hq : Q (some (vD x)) h) : wp i pc ls [vD x] h Q X := by
  intro D DA B0 CN CS p l e R s m args below meth c H locs ls' hfl hE
  have hlk := hE.1.2.2.2.2.1
  refine W.widen hE.end_.1 hE.end_.2 (vx_ret ?_)
  exact W.dret (v := x) hE.1.1 hE.1.2.1 (hE.1.2.2.2.1.trans hr) (fun t ht hW => hE.post (v := some (vD x)) hq t ht hW) hE.2.2.2.1 hd
theorem wp_aret {x : Option Nat} {ty : FieldType} (hd : decode (mB i) pc = .ok (.areturn, 1)) (hr : mR i = some ty) (hty : isRf ty = true) (hq : Q (some (vR x)) h) : wp i pc ls [vR x] h Q X := by
  intro D DA B0 CN CS p l e R s m args below meth c H locs ls' hfl hE
  have hlk := hE.1.2.2.2.2.1
  refine W.widen hE.end_.1 hE.end_.2 (vx_ret ?_)
  refine W.aret (v := va_rf x) (rt := ty) hE.1.1 hE.1.2.1 (hE.1.2.2.2.1.trans hr) ?_ ?_ (fun t ht hW => hE.post (v := some (vR x)) hq t ht hW) hE.2.2.2.1 hd
  · cases ty <;> first | exact Or.inl ⟨_, rfl⟩ | exact Or.inr ⟨_, rfl⟩ | cases hty
  · cases x
    · exact Or.inl rfl
    · exact Or.inr ⟨_, rfl⟩
theorem wp_vret (hd : decode (mB i) pc = .ok (.return_, 1)) (hr : mR i = none) (hq : Q none h) : wp i pc ls [] h Q X := by
  intro D DA B0 CN CS p l e R s m args below meth c H locs ls' hfl hE
  have hlk := hE.1.2.2.2.2.1
  refine W.widen hE.end_.1 hE.end_.2 (vx_ret ?_)
  exact W.vret hE.1.1 hE.1.2.1 (hE.1.2.2.2.1.trans hr) (fun t ht hW => hE.post (v := none) hq t ht hW) hE.2.2.2.1 hd
end HC
/-! a method as a contract -/
/-- what a callee finds at its start -/
def PcA (D : va_G) (DA : Nat → ClassId) (B0 CN CS : Nat) (as : List AV) (h : Hp) : Array Value → State → Prop := va_Pc (as.map conc) (fun U => okS U ∧ va_K D CL [] U ∧ (∀ K ∈ KA, arrF U (DA K) (AT K)) ∧ rep D DA B0 CN CS U U.heap h)
theorem PcA_blind (D : va_G) (DA : Nat → ClassId) (B0 CN CS : Nat) (as : List AV) (h : Hp) : FrameBlind (PcA D DA B0 CN CS as h) := by
  intro a U g mk hp
  obtain ⟨h1, h2, h3, h4, h5⟩ := hp
  have hW : U.WarmedH (U.calling g mk a).vm := State.WarmedH.refl U
  exact ⟨h1, okS_warm hW h2, h3.moved hW.alike, fun K hK => (h4 K hK).moved hW.alike, h5.moved hW.alike⟩
def rmA (j CN CS : Nat) (h : Hp) : Room := { frames := mF j, cells := CN - nx h, slots := CS - us h, locals := mK j }
theorem ofW_F {l : Launch} {y : MethodName} {ws ws' : List Cond} {rm : Room} {Pc : Array Value → State → Prop} {Qc : Array Value → State → Outcome → State → Prop} {XC : String → State → State → Prop} {mc ms : Nat} {free : Addr → Prop} {cc : ByteArray} {maxL : Nat} {ret : Option FieldType}
    (hy : plainFor y = true) (hw : ws = Cond.code y cc maxL ret :: ws')
    (body : ∀ p e s m args below meth c s₁, BodyLoose p l y (headSpec ws rm) cc maxL ret e s m args below meth c s₁ → c.maxLocals = maxL → c.exceptionTable.toList = [] → Pc args s →
      W p l e (headSpec ws rm).room s m args below meth c s.heap [] 0 0 (vx_MQ below Qc XC args s mc ms free) (entryFrame m args maxL)) : vx_Met l y ws rm Pc Qc XC mc ms free := by
  refine MetFree.of_bodySF (code := cc) (maxLocals := maxL) (ret := ret) hy ?_ ?_
  · intro args s m h hn
    obtain ⟨meth, c, h1, h2, h3, h4, h5, h6, -, -⟩ := Cond.code_spec hn (atoms_spec (ws := ws) h _ (by rw [hw]; exact List.mem_cons_self))
    exact ⟨meth, c, h1, h2, h3, h4, h5, h6⟩
  · intro p e s m args below meth c s₁ B hml hP _
    have hh0 : s₁.heap = s.heap := by rw [B.state]; rfl
    have ht : c.exceptionTable.toList = [] := by
      obtain ⟨meth9, c9, h1, h2, -, -, -, -, h7, -⟩ := Cond.code_spec B.named (atoms_spec (ws := ws) B.pre _ (by rw [hw]; exact List.mem_cons_self))
      cases Option.some.inj (h1.symm.trans B.method)
      cases Option.some.inj (h2.symm.trans (Stand.of_body B).code)
      simpa using h7
    obtain ⟨t, a1, o, b1, b2, b3⟩ := body p e s m args below meth c s₁ B hml ht hP s₁ hh0 (Stand.of_body B)
    exact ⟨t, o, a1, b1, b2, b3⟩
abbrev QcA (D : va_G) (DA : Nat → ClassId) (B0 CN CS : Nat) (Q : Option AV → Hp → Prop) : Array Value → State → Outcome → State → Prop := fun _ _ o t => ∃ v h', o = .returned (v.map conc) ∧ Q v h' ∧ rep D DA B0 CN CS t t.heap h'
abbrev XcA (D : va_G) (DA : Nat → ClassId) (B0 CN CS : Nat) (X : String → Hp → Prop) : String → State → State → Prop := fun E _ t => ∃ h', X E h' ∧ rep D DA B0 CN CS t t.heap h'
/-- the method j, walked from its entry, as a contract -/
theorem wp_met {l : Launch} (hfl : l.flags = flags0) {j : Nat} {as : List AV} {h : Hp} {Q : Option AV → Hp → Prop} {X : String → Hp → Prop} (D : va_G) (DA : Nat → ClassId) (B0 CN CS : Nat) (hcd : cdP j) (hmx : mX j = []) (hsl : (lg_sl (as.map conc)).length ≤ mL j) (k : wp j 0 (entL as (mL j)) [] h Q X) (hcap : CN - nx h = CN - nx h) :
    vx_Met l (mY j) [Cond.code (mY j) (mB j) (mL j) (mR j)] (rmA j CN CS h) (PcA D DA B0 CN CS as h) (QcA D DA B0 CN CS Q) (XcA D DA B0 CN CS X) (CN - nx h) (CS - us h) (fun q => B0 ≤ q) := by
  refine ofW_F (cc := mB j) (maxL := mL j) (ret := mR j) hcd.2.1 rfl ?_
  intro p e s m args below meth c s₁ B hml hex hp
  obtain ⟨rfl, h2, h3, h4, h5⟩ := hp
  have hx := B.exec
  have hb := B.bytes
  have hr := B.returns
  have hown : s.vm.findClass (mY j).cls = some m.cls := findClass_of_methodNamed B.named
  have hname : meth.name = (mY j).name := (name_of_methodNamed B.named B.method).1
  have hsz := h5.1
  have hss := h5.2.1
  have hB0 := h5.2.2.2.2.2.2.1
  rw [lg_entry_eq]
  have hl := lrel.entry (as := as) hsl
  have hE : En j D DA B0 CN CS p (rmA j CN CS h) s m meth c s.heap [] _ (entL as (mL j)) h :=
    ⟨⟨hx, hb, hml, hr, B.notSynchronized, hown, hname, h2, h3, h4, Nat.le_refl _, Nat.le_refl _, by rw [hex, hmx]⟩, h5, hl, (fun q hq => nomatch hq), Nat.le_refl _, Nat.le_refl _, (by rw [hsz]; rfl), (by rw [hss]; rfl), (by rw [hsz]; exact hB0)⟩
  exact W_tight (k D DA B0 CN CS p l e (rmA j CN CS h) s m _ below meth c s.heap [] _ hfl hE)
/-- an exception E, over the frame of method i at pc -/
def xp (i pc : Nat) (ls : List (Option AV)) (h : Hp) (E : String) (Q : Option AV → Hp → Prop) (X : String → Hp → Prop) : Prop :=
  ∀ (D : va_G) (DA : Nat → ClassId) (B0 CN CS : Nat) (p : Program) (l : Launch) (e : Env) (R : Room) (s : State) (m : MethodId) (args : Array Value) (below : List Frame) (meth : Method) (c : Code) (H : Heap) (locs : List Loc) (ls' : Array Slot) (q : Addr) (ce : Cell) (st' : List Value),
    l.flags = flags0 → En i D DA B0 CN CS p R s m meth c H locs ls' ls h → H[q]? = some ce → ce.vm = .none → s.vm.findClass E = some ce.cls →
    vx_W p l e R s m args below meth c H locs (H.size - s.heap.size) (ssum H - ssum s.heap) (QQ D DA B0 CN CS below args s R Q X) (F0 m pc ls' st') q
theorem vxW_tight {p : Program} {l : Launch} {e : Env} {R : Room} {s : State} {m : MethodId} {args : Array Value} {below : List Frame} {meth : Method} {c : Code} {H : Heap} {locs : List Loc} {cells slots : Nat} {Q : State → Prop} {g : JFrame} {q : Addr} (k : vx_W p l e R s m args below meth c H locs (H.size - s.heap.size) (ssum H - ssum s.heap) Q g q) : vx_W p l e R s m args below meth c H locs cells slots Q g q := by
  intro T hT X
  subst hT
  exact k T rfl (stand_tight X)
theorem xp_out {i pc : Nat} {ls : List (Option AV)} {h : Hp} {E : String} {Q : Option AV → Hp → Prop} {X : String → Hp → Prop} (hmx : mX i = []) (hx : X E h) : xp i pc ls h E Q X := by
  intro D DA B0 CN CS p l e R s m args below meth c H locs ls' q ce st' hfl hE hcell hv hcl
  refine vx_out (E := E) (fun x hxx => ?_) hE.1.2.2.2.2.1 hcell hv hcl (fun t ht hal => ⟨h, hx, ?_⟩) hE.2.2.2.1 hE.end_.1 hE.end_.2
  · rw [hE.1.2.2.2.2.2.2.2.2.2.2.2.2, hmx] at hxx
    cases hxx
  · rw [ht]
    exact hE.2.1.moved hal
section HD
variable {i pc : Nat} {ls : List (Option AV)} {st : List AV} {h : Hp} {Q : Option AV → Hp → Prop} {X : String → Hp → Prop}
theorem wp_after {D : va_G} {DA : Nat → ClassId} {B0 CN CS : Nat} {p : Program} {l : Launch} {e : Env} {R : Room} {s : State} {m : MethodId} {args : Array Value} {below : List Frame} {meth : Method} {c : Code} {H : Heap} {locs : List Loc} {ls' : Array Slot} {st0 : List Value} {a : Array Value} {mc ms : Nat} {Qj : Option AV → Hp → Prop} {Xj : String → Hp → Prop}
    (hfl : l.flags = flags0) (hE : En i D DA B0 CN CS p R s m meth c H locs ls' ls h)
    (hr : vx_Run p l e R s m args below meth c H locs (H.size - s.heap.size) (ssum H - ssum s.heap) mc ms (F0 m pc ls' st0) (st.map conc) (QcA D DA B0 CN CS Qj a) (XcA D DA B0 CN CS Xj) (fun q => B0 ≤ q))
    (kk : ∀ v h', Qj v h' → wp i (pc + 3) ls (v.toList ++ st) h' Q X) (kx : ∀ E h', Xj E h' → xp i pc ls h' E Q X) :
    W p l e R s m args below meth c H locs (H.size - s.heap.size) (ssum H - ssum s.heap) (QQ D DA B0 CN CS below args s R Q X) (F0 m pc ls' st0) := by
  intro T hT XX
  have mk : ∀ (T' t : State) (L : List Loc) (cells slots : Nat) (h' : Hp), Stand p l e R s m args below meth c T' (locs ++ L) cells slots → (∀ q ∈ L, B0 ≤ q.base) → T'.heap = t.heap → T'.vm = t.vm → rep D DA B0 CN CS t t.heap h' → En i D DA B0 CN CS p R s m meth c T'.heap (locs ++ L) ls' ls h' := by
    intro T' t L cells slots h' X' hL e1 e2 hrep
    obtain ⟨a1, a2, a3, a4, a5, a6, a7⟩ := hE
    obtain ⟨b1, b2, b3, b4, b5, b6⟩ := X'.same
    have hal : t.vm.Alike s.vm := by rw [← e2]; exact X'.warmed.alike.symm
    refine ⟨a1, ?_, a3, fun z hz => ?_, b2, ?_, a7⟩
    · rw [e1]
      exact hrep.moved hal
    · rcases List.mem_append.mp hz with h | h
      · exact a4 z h
      · exact hL z h
    · have e9 := ssum_split T'.heap s.heap.size
      have b2' : s.heap.size ≤ T'.heap.size := b2
      rw [ssum_same b2' (fun a c hc => by
        obtain ⟨c', g1, -, g3, -⟩ := b6 a c hc
        exact ⟨c', g1, g3⟩)] at e9
      omega
  rcases hr T hT XX with ⟨v, st₀, t, T', L, h0, X', hL, e1, e2, ⟨v', h', hv, hq, hrep⟩, st9⟩ | ⟨q, st₀, t, T', L, E, ce, h0, X', hL, e1, e2, ⟨h', hq, hrep⟩, hce, hcv, hcl, st9⟩
  · have hE' := mk T' t L _ _ h' X' hL e1 e2 hrep
    have hw := kk v' h' hq D DA B0 CN CS p l e R s m args below meth c T'.heap (locs ++ L) ls' hfl hE'
    cases hv
    obtain ⟨t2, a1, b1⟩ := (W_tight hw) T' rfl X'
    refine ⟨t2, st9 _ ?_, b1⟩
    have es : (v'.map conc).toList ++ st.map conc = (v'.toList ++ st).map conc := by cases v' <;> rfl
    show Steps p.tables e below (T'.setTop (F0 m (pc + 3) ls' ((v'.map conc).toList ++ st.map conc))) t2
    rw [es]
    exact a1
  · have hE' := mk T' t L _ _ h' X' hL e1 e2 hrep
    have hw := kx E h' hq D DA B0 CN CS p l e R s m args below meth c T'.heap (locs ++ L) ls' q ce (st.map conc) hfl hE' (by rw [e1]; exact hce) hcv hcl
    obtain ⟨t2, a1, b1⟩ := (vxW_tight hw) T' rfl X'
    exact ⟨t2, st9.trans a1, b1⟩
theorem PcA_of {D : va_G} {DA : Nat → ClassId} {B0 CN CS : Nat} {p : Program} {R : Room} {s : State} {m : MethodId} {meth : Method} {c : Code} {H : Heap} {locs : List Loc} {ls' : Array Slot} (hE : En i D DA B0 CN CS p R s m meth c H locs ls' ls h) (as : List AV) : ∀ U : State, U.heap = H → s.WarmedH U.vm → PcA D DA B0 CN CS as h (as.map conc).toArray U := by
  intro U hU hW
  obtain ⟨⟨hx, hb, -, -, -, hown, -, hok, hK, hA, -⟩, hrep, -⟩ := hE
  exact ⟨rfl, okS_warm hW hok, hK.moved hW.alike, fun K hK => (hA K hK).moved hW.alike, by rw [hU]; exact hrep.moved hW.alike⟩
theorem En.cap {D : va_G} {DA : Nat → ClassId} {B0 CN CS : Nat} {p : Program} {R : Room} {s : State} {m : MethodId} {meth : Method} {c : Code} {H : Heap} {locs : List Loc} {ls' : Array Slot} (hE : En i D DA B0 CN CS p R s m meth c H locs ls' ls h) : H.size - s.heap.size + (CN - nx h) ≤ R.cells ∧ ssum H - ssum s.heap + (CS - us h) ≤ R.slots := by
  obtain ⟨a1, ⟨b1, b2, b3, b4, b5, b6, b7, b8⟩, a3, a4, a5, a6, a7, a8, a9⟩ := hE
  rw [a7, a8, b1, b2]
  rw [b1] at a5
  rw [b2] at a6
  omega
theorem callB_A {R : Room} {s : State} {args : Array Value} {i idx j n CN CS : Nat} (hok : okS s) (hcd : cdP j) (hlen : (parseMethodDescriptor (mY j).desc).map (fun d => d.parameters.length) = some n) (hroom : mF j + 1 ≤ R.frames ∧ 8 + (mL j + 11) + mK j ≤ R.locals) :
    (∀ w ∈ [Cond.code (mY j) (mB j) (mL j) (mR j)], ∀ (a' : Array Value) (U : State), s.WarmedH U.vm → w.before a' U = true) ∧ (∀ sig, parseMethodDescriptor (mY j).desc = some sig → n = sig.parameters.length) := by
  refine ⟨fun w hw a' U hW => ?_, fun sig h => ?_⟩
  · have := List.mem_singleton.mp hw
    subst this
    exact okS_warm hW hok _ hcd.1 _
  · rw [h] at hlen
    exact (Option.some.inj hlen).symm
theorem lg_sl_le (as : List AV) : (lg_sl (as.map conc)).length = (as.flatMap fun v => if cat2 v = true then [some v, none] else [some v]).length := by
  unfold lg_sl
  induction as with
  | nil => rfl
  | cons a as ih =>
    simp only [List.map_cons, List.flatMap_cons, List.length_append, ih]
    congr 1
    rw [conc_cat]
    cases cat2 a <;> rfl
/-- a call by invokevirtual -/
theorem wp_callV {idx j n a : Nat} {as : List AV} {Qj : Option AV → Hp → Prop} {Xj : String → Hp → Prop} (hd : decode (mB i) pc = .ok (.invokevirtual idx, 3)) (hc : cvP i idx j n) (hmx : mX j = []) {st0 : List AV} (hs : st0 = as.reverse ++ vR (some a) :: st) (hn : as.length = n) (hC : ∃ ci, mC j = ci + 1 ∧ CLn ci = (mY j).cls ∧ ci < 99) (hk : kd h a = mC j)
    (hsl : ((vR (some a) :: as).flatMap fun v => if cat2 v = true then [some v, none] else [some v]).length ≤ mL j) (hst : (st.map fun v => if cat2 v = true then 2 else 1).sum ≤ 8)
    (hb : wp j 0 (entL (vR (some a) :: as) (mL j)) [] h Qj Xj) (kk : ∀ v h', Qj v h' → wp i (pc + 3) ls (v.toList ++ st) h' Q X) (kx : ∀ E h', Xj E h' → xp i pc ls h' E Q X) : wp i pc ls st0 h Q X := by
  intro D DA B0 CN CS p l e R s m args below meth c H locs ls' hfl hE
  obtain ⟨hcd, hl, hin, hsel, hlen, hroom⟩ := hc
  obtain ⟨hx, hbb, hml, -, -, hown, -, hok, hK, hA, hfr, hlo, -⟩ := hE.1
  have hroom' : mF j + 1 ≤ R.frames ∧ 8 + (mL j + 11) + mK j ≤ R.locals := ⟨by omega, by omega⟩
  obtain ⟨cb1, cb2⟩ := callB_A (args := args) (i := i) (idx := idx) (CN := CN) (CS := CS) hok hcd hlen hroom'
  have hM := wp_met hfl D DA B0 CN CS hcd hmx (by rw [lg_sl_le]; exact hsl) hb rfl
  obtain ⟨ci, hC1, hC2, hC3⟩ := hC
  have hcat : ((st.map conc).map fun v => v.category).sum ≤ 8 := by
    rw [List.map_map]
    have : (st.map ((fun v => v.category) ∘ conc)) = st.map fun v => if cat2 v = true then 2 else 1 := by
      apply List.map_congr_left
      intro v _
      exact conc_cat v
    rw [this]
    exact hst
  obtain ⟨q, hcq, cell, q1, q2, q3, q4⟩ := (hE.2.1.2.2.2.2.2.2.2.2 a (by omega)).2.obj (hk.trans hC1) hC3
  have hrun := vx_runV (p := p) (l := l) (e := e) (R := R) (s := s) (m := m) (args := args) (below := below) (meth := meth) (c := c) (H := H) (locs := locs) (cells := H.size - s.heap.size) (slots := ssum H - ssum s.heap) (Ts := []) (own := (mY i).cls) (C := (mY j).cls) (cc := mB i) (nL := mL i) (rest := st.map conc) (As := as.map conc) (b := a) (g := F0 m pc ls' (st0.map conc)) ⟨hx, hbb, hml, hown, fun _ h => by cases h⟩ hM (index := idx) (bytes := mB j) (maxL := mL j) (ret := mR j) (n := n)
    ⟨⟨rfl, rfl, hroom'.1, hroom'.2, cb1, List.mem_cons_self, hok _ hcd.1 _, hok _ hcd.2.2.2 _, hcd.2.2.1, cb2, hok _ hl _⟩, hok _ hin _, hok _ hsel _⟩
    ⟨PcA_blind _ _ _ _ _ _ _, ⟨cell, q1, by rw [q3]; rfl, by
      have e1 : q.1 = (mY j).cls := by rw [← hC2]; unfold CLn; rw [hcq]
      rw [q2, ← e1]
      exact (hK.1 ci _ hcq).2.1⟩, PcA_of hE (vR (some a) :: as)⟩ rfl (by rw [List.length_map]; exact hn) hE.2.2.1.1 (by rw [hs]; simp [conc, va_rf]) (lv_room hcat) hd hE.cap
  exact wp_after hfl hE hrun kk kx
theorem wp_callS {idx j n : Nat} {as : List AV} {Qj : Option AV → Hp → Prop} {Xj : String → Hp → Prop} (hd : decode (mB i) pc = .ok (.invokestatic idx, 3)) (hc : csP i idx j n) (hmx : mX j = []) {st0 : List AV} (hs : st0 = as.reverse ++ st) (hn : as.length = n)
    (hsl : (as.flatMap fun v => if cat2 v = true then [some v, none] else [some v]).length ≤ mL j) (hst : (st.map fun v => if cat2 v = true then 2 else 1).sum ≤ 8)
    (hb : wp j 0 (entL as (mL j)) [] h Qj Xj) (kk : ∀ v h', Qj v h' → wp i (pc + 3) ls (v.toList ++ st) h' Q X) (kx : ∀ E h', Xj E h' → xp i pc ls h' E Q X) : wp i pc ls st0 h Q X := by
  intro D DA B0 CN CS p l e R s m args below meth c H locs ls' hfl hE
  obtain ⟨hcd, hl, hstt, hlen, hroom⟩ := hc
  obtain ⟨hx, hbb, hml, -, -, hown, -, hok, hK, hA, hfr, hlo, -⟩ := hE.1
  have hroom' : mF j + 1 ≤ R.frames ∧ 8 + (mL j + 11) + mK j ≤ R.locals := ⟨by omega, by omega⟩
  obtain ⟨cb1, cb2⟩ := callB_A (args := args) (i := i) (idx := idx) (CN := CN) (CS := CS) hok hcd hlen hroom'
  have hM := wp_met hfl D DA B0 CN CS hcd hmx (by rw [lg_sl_le]; exact hsl) hb rfl
  have hcat : ((st.map conc).map fun v => v.category).sum ≤ 8 := by
    rw [List.map_map]
    have : (st.map ((fun v => v.category) ∘ conc)) = st.map fun v => if cat2 v = true then 2 else 1 := by
      apply List.map_congr_left
      intro v _
      exact conc_cat v
    rw [this]
    exact hst
  have hrun := vx_runS (p := p) (l := l) (e := e) (R := R) (s := s) (m := m) (args := args) (below := below) (meth := meth) (c := c) (H := H) (locs := locs) (cells := H.size - s.heap.size) (slots := ssum H - ssum s.heap) (Ts := []) (own := (mY i).cls) (cc := mB i) (nL := mL i) (rest := st.map conc) (As := as.map conc) (g := F0 m pc ls' (st0.map conc)) ⟨hx, hbb, hml, hown, fun _ h => by cases h⟩ hM (index := idx) (bytes := mB j) (maxL := mL j) (ret := mR j) (n := n)
    ⟨⟨rfl, rfl, hroom'.1, hroom'.2, cb1, List.mem_cons_self, hok _ hcd.1 _, hok _ hcd.2.2.2 _, hcd.2.2.1, cb2, hok _ hl _⟩, hok _ hstt _⟩
    ⟨PcA_blind _ _ _ _ _ _ _, PcA_of hE as⟩ rfl (by rw [List.length_map]; exact hn) hE.2.2.1.1 (by rw [hs]; simp) (lv_room hcat) hd hE.cap
  exact wp_after hfl hE hrun kk kx
theorem wp_callSn {idx j n : Nat} {as : List AV} {Qj : Option AV → Hp → Prop} {Xj : String → Hp → Prop} (hd : decode (mB i) pc = .ok (.invokestatic idx, 3)) (hc : csnP i idx j n) (hmx : mX j = []) {st0 : List AV} (hs : st0 = as.reverse ++ st) (hn : as.length = n)
    (hsl : (as.flatMap fun v => if cat2 v = true then [some v, none] else [some v]).length ≤ mL j) (hst : (st.map fun v => if cat2 v = true then 2 else 1).sum ≤ 8)
    (hb : wp j 0 (entL as (mL j)) [] h Qj Xj) (kk : ∀ v h', Qj v h' → wp i (pc + 3) ls (v.toList ++ st) h' Q X) (kx : ∀ E h', Xj E h' → xp i pc ls h' E Q X) : wp i pc ls st0 h Q X := by
  intro D DA B0 CN CS p l e R s m args below meth c H locs ls' hfl hE
  obtain ⟨hcd, ⟨host, hl⟩, hstt, hlen, hroom⟩ := hc
  obtain ⟨hx, hbb, hml, -, -, hown, -, hok, hK, hA, hfr, hlo, -⟩ := hE.1
  have hroom' : mF j + 1 ≤ R.frames ∧ 8 + (mL j + 11) + mK j ≤ R.locals := ⟨by omega, by omega⟩
  obtain ⟨cb1, cb2⟩ := callB_A (args := args) (i := i) (idx := idx) (CN := CN) (CS := CS) hok hcd hlen hroom'
  have hM := wp_met hfl D DA B0 CN CS hcd hmx (by rw [lg_sl_le]; exact hsl) hb rfl
  have hcat : ((st.map conc).map fun v => v.category).sum ≤ 8 := by
    rw [List.map_map]
    have : (st.map ((fun v => v.category) ∘ conc)) = st.map fun v => if cat2 v = true then 2 else 1 := by
      apply List.map_congr_left
      intro v _
      exact conc_cat v
    rw [this]
    exact hst
  have hrun := vx_runSN (p := p) (l := l) (e := e) (R := R) (s := s) (m := m) (args := args) (below := below) (meth := meth) (c := c) (H := H) (locs := locs) (cells := H.size - s.heap.size) (slots := ssum H - ssum s.heap) (Ts := []) (own := (mY i).cls) (host := host) (cc := mB i) (nL := mL i) (rest := st.map conc) (As := as.map conc) (g := F0 m pc ls' (st0.map conc)) ⟨hx, hbb, hml, hown, fun _ h => by cases h⟩ hM (index := idx) (bytes := mB j) (maxL := mL j) (ret := mR j) (n := n)
    ⟨⟨⟨rfl, rfl, hroom'.1, hroom'.2, cb1, List.mem_cons_self⟩, hok _ hcd.1 _, hok _ hcd.2.2.2 _, hcd.2.2.1, cb2, hok _ hl _⟩, hok _ hstt _, trivial⟩
    ⟨PcA_blind _ _ _ _ _ _ _, PcA_of hE as⟩ rfl (by rw [List.length_map]; exact hn) hE.2.2.1.1 (by rw [hs]; simp) (lv_room hcat) hd hE.cap
  exact wp_after hfl hE hrun kk kx
theorem wp_callI {idx j n a : Nat} {as : List AV} {Qj : Option AV → Hp → Prop} {Xj : String → Hp → Prop} (hd : decode (mB i) pc = .ok (.invokespecial idx, 3)) (hc : ciP i idx j n) (hret : mR j = none) (hmx : mX j = []) {st0 : List AV} (hs : st0 = as.reverse ++ vR (some a) :: st) (hn : as.length = n)
    (hsl : ((vR (some a) :: as).flatMap fun v => if cat2 v = true then [some v, none] else [some v]).length ≤ mL j) (hst : (st.map fun v => if cat2 v = true then 2 else 1).sum ≤ 8)
    (hb : wp j 0 (entL (vR (some a) :: as) (mL j)) [] h Qj Xj) (kk : ∀ v h', Qj v h' → wp i (pc + 3) ls (v.toList ++ st) h' Q X) (kx : ∀ E h', Xj E h' → xp i pc ls h' E Q X) : wp i pc ls st0 h Q X := by
  intro D DA B0 CN CS p l e R s m args below meth c H locs ls' hfl hE
  obtain ⟨hcd, hl, hin, hini, hlen, hroom⟩ := hc
  obtain ⟨hx, hbb, hml, -, -, hown, -, hok, hK, hA, hfr, hlo, -⟩ := hE.1
  have hroom' : mF j + 1 ≤ R.frames ∧ 8 + (mL j + 11) + mK j ≤ R.locals := ⟨by omega, by omega⟩
  obtain ⟨cb1, cb2⟩ := callB_A (args := args) (i := i) (idx := idx) (CN := CN) (CS := CS) hok hcd hlen hroom'
  have hM := wp_met hfl D DA B0 CN CS hcd hmx (by rw [lg_sl_le]; exact hsl) hb rfl
  have hcat : ((st.map conc).map fun v => v.category).sum ≤ 8 := by
    rw [List.map_map]
    have : (st.map ((fun v => v.category) ∘ conc)) = st.map fun v => if cat2 v = true then 2 else 1 := by
      apply List.map_congr_left
      intro v _
      exact conc_cat v
    rw [this]
    exact hst
  have hcode : Cond.code (mY j) (mB j) (mL j) none ∈ [Cond.code (mY j) (mB j) (mL j) (mR j)] := by rw [hret]; exact List.mem_cons_self
  have hrun := vx_runI (p := p) (l := l) (e := e) (R := R) (s := s) (m := m) (args := args) (below := below) (meth := meth) (c := c) (H := H) (locs := locs) (cells := H.size - s.heap.size) (slots := ssum H - ssum s.heap) (Ts := []) (own := (mY i).cls) (cc := mB i) (nL := mL i) (rest := st.map conc) (As := as.map conc) (b := a) (g := F0 m pc ls' (st0.map conc)) ⟨hx, hbb, hml, hown, fun _ h => by cases h⟩ hM (index := idx) (bytes := mB j) (maxL := mL j) (n := n)
    ⟨⟨rfl, rfl, hroom'.1, hroom'.2, cb1, hcode, by have := hok _ hcd.1 args; rw [hret] at this; exact this, hok _ hcd.2.2.2 _, hcd.2.2.1, cb2, hok _ hl _⟩, hini, hok _ hin _⟩
    ⟨PcA_blind _ _ _ _ _ _ _, PcA_of hE (vR (some a) :: as)⟩ rfl (by rw [List.length_map]; exact hn) hE.2.2.1.1 (by rw [hs]; simp [conc, va_rf]) (lv_room hcat) hd hE.cap
  exact wp_after hfl hE hrun kk kx
theorem wp_callIn {idx j n a : Nat} {as : List AV} {Qj : Option AV → Hp → Prop} {Xj : String → Hp → Prop} (hd : decode (mB i) pc = .ok (.invokespecial idx, 3)) (hc : cinP i idx j n) (hret : mR j = none) (hmx : mX j = []) {st0 : List AV} (hs : st0 = as.reverse ++ vR (some a) :: st) (hn : as.length = n)
    (hsl : ((vR (some a) :: as).flatMap fun v => if cat2 v = true then [some v, none] else [some v]).length ≤ mL j) (hst : (st.map fun v => if cat2 v = true then 2 else 1).sum ≤ 8)
    (hb : wp j 0 (entL (vR (some a) :: as) (mL j)) [] h Qj Xj) (kk : ∀ v h', Qj v h' → wp i (pc + 3) ls (v.toList ++ st) h' Q X) (kx : ∀ E h', Xj E h' → xp i pc ls h' E Q X) : wp i pc ls st0 h Q X := by
  intro D DA B0 CN CS p l e R s m args below meth c H locs ls' hfl hE
  obtain ⟨hcd, ⟨host, hl⟩, hin, hini, hlen, hroom⟩ := hc
  obtain ⟨hx, hbb, hml, -, -, hown, -, hok, hK, hA, hfr, hlo, -⟩ := hE.1
  have hroom' : mF j + 1 ≤ R.frames ∧ 8 + (mL j + 11) + mK j ≤ R.locals := ⟨by omega, by omega⟩
  obtain ⟨cb1, cb2⟩ := callB_A (args := args) (i := i) (idx := idx) (CN := CN) (CS := CS) hok hcd hlen hroom'
  have hM := wp_met hfl D DA B0 CN CS hcd hmx (by rw [lg_sl_le]; exact hsl) hb rfl
  have hcat : ((st.map conc).map fun v => v.category).sum ≤ 8 := by
    rw [List.map_map]
    have : (st.map ((fun v => v.category) ∘ conc)) = st.map fun v => if cat2 v = true then 2 else 1 := by
      apply List.map_congr_left
      intro v _
      exact conc_cat v
    rw [this]
    exact hst
  have hcode : Cond.code (mY j) (mB j) (mL j) none ∈ [Cond.code (mY j) (mB j) (mL j) (mR j)] := by rw [hret]; exact List.mem_cons_self
  have hrun := vx_runIN (p := p) (l := l) (e := e) (R := R) (s := s) (m := m) (args := args) (below := below) (meth := meth) (c := c) (H := H) (locs := locs) (cells := H.size - s.heap.size) (slots := ssum H - ssum s.heap) (Ts := []) (own := (mY i).cls) (host := host) (cc := mB i) (nL := mL i) (rest := st.map conc) (As := as.map conc) (b := a) (g := F0 m pc ls' (st0.map conc)) ⟨hx, hbb, hml, hown, fun _ h => by cases h⟩ hM (index := idx) (bytes := mB j) (maxL := mL j) (n := n)
    ⟨⟨⟨rfl, rfl, hroom'.1, hroom'.2, cb1, hcode⟩, by have := hok _ hcd.1 args; rw [hret] at this; exact this, hok _ hcd.2.2.2 _, hcd.2.2.1, cb2, hok _ hl _⟩, hini, hok _ hin _⟩
    ⟨PcA_blind _ _ _ _ _ _ _, PcA_of hE (vR (some a) :: as)⟩ rfl (by rw [List.length_map]; exact hn) hE.2.2.1.1 (by rw [hs]; simp [conc, va_rf]) (lv_room hcat) hd hE.cap
  exact wp_after hfl hE hrun kk kx
theorem wp_objInit {idx a : Nat} (hd : decode (mB i) pc = .ok (.invokespecial idx, 3)) (hl : okw (.methodLink (mY i).cls idx Lib.objectInit)) (hco : okw (.instanceMethod Lib.objectInit) ∧ okw (.code Lib.objectInit ⟨#[0xb1]⟩ 1 none)) (hfr : 1 ≤ mF i ∧ 12 ≤ mK i) (kk : wp i (pc + 3) ls [] h Q X) : wp i pc ls [vR (some a)] h Q X := by
  intro D DA B0 CN CS p l e R s m args below meth c H locs ls' hfl hE
  obtain ⟨hx, hbb, hml, -, -, hown, -, hok, hK, hA, hfr1, hlo, -⟩ := hE.1
  refine W.objInit hx hbb hown (hok _ hl _) (hok _ hco.1 _) (hok _ hco.2 _) rfl (by rw [hml]; exact hE.2.2.1.1) (a := a) (rest := []) rfl hd (by omega) (by show 2 * 0 + 0 + 12 ≤ _; omega) ?_
  exact kk D DA B0 CN CS p l e R s m args below meth c H locs ls' hfl hE
end HD
