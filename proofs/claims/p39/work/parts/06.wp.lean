/-! ===== THE LOGIC, part 2: what a body comes to (written by wip/tools/mklogic.py) ===== -/
def Cx (i : Nat) (D : va_G) (DA : Nat → ClassId) (p : Program) (R : Room) (s : State) (m : MethodId) (meth : Method) (c : Code) : Prop :=
  p.tables.exec = Jvm.exec ∧ c.code = mB i ∧ c.maxLocals = mL i ∧ meth.sig.returnType = mR i ∧ meth.locks = false ∧ s.vm.findClass (mY i).cls = some m.cls ∧ meth.name = (mY i).name ∧ okS s ∧ va_K D CL [] s ∧ (∀ K ∈ KA, arrF s (DA K) (AT K)) ∧ mF i ≤ R.frames ∧ mK i ≤ R.locals ∧ c.exceptionTable.toList = mX i
abbrev QQ (D : va_G) (DA : Nat → ClassId) (B0 CN CS : Nat) (below : List Frame) (args : Array Value) (s : State) (R : Room) (Q : Option AV → Hp → Prop) (X : String → Hp → Prop) : State → Prop :=
  vx_MQ below (fun _ _ o t => ∃ v h', o = .returned (v.map conc) ∧ Q v h' ∧ rep D DA B0 CN CS t t.heap h') (fun E _ t => ∃ h', X E h' ∧ rep D DA B0 CN CS t t.heap h') args s R.cells R.slots (fun q => B0 ≤ q)
def En (i : Nat) (D : va_G) (DA : Nat → ClassId) (B0 CN CS : Nat) (p : Program) (R : Room) (s : State) (m : MethodId) (meth : Method) (c : Code) (H : Heap) (locs : List Loc) (ls' : Array Slot) (ls : List (Option AV)) (h : Hp) : Prop :=
  Cx i D DA p R s m meth c ∧ rep D DA B0 CN CS s H h ∧ lrel (mL i) ls ls' ∧ (∀ q ∈ locs, B0 ≤ q.base) ∧ s.heap.size ≤ H.size ∧ ssum s.heap ≤ ssum H ∧ R.cells = CN - s.heap.size ∧ R.slots = CS - ssum s.heap ∧ B0 ≤ s.heap.size
/-- from here (method i, pc, locals, stack, heap) the body ends: with an answer and a heap of Q, or throws with a heap of X -/
def wp (i pc : Nat) (ls : List (Option AV)) (st : List AV) (h : Hp) (Q : Option AV → Hp → Prop) (X : String → Hp → Prop) : Prop :=
  ∀ (D : va_G) (DA : Nat → ClassId) (B0 CN CS : Nat) (p : Program) (l : Launch) (e : Env) (R : Room) (s : State) (m : MethodId) (args : Array Value) (below : List Frame) (meth : Method) (c : Code) (H : Heap) (locs : List Loc) (ls' : Array Slot),
    l.flags = flags0 → En i D DA B0 CN CS p R s m meth c H locs ls' ls h →
    W p l e R s m args below meth c H locs (H.size - s.heap.size) (ssum H - ssum s.heap) (QQ D DA B0 CN CS below args s R Q X) (F0 m pc ls' (st.map conc))
/-! cells and slots, counted again -/
theorem ssum_split (H : Heap) (n : Nat) : ssum H = ((H.toList.take n).map (fun c => c.slots.size)).sum + ((H.toList.drop n).map (fun c => c.slots.size)).sum := by
  unfold ssum
  rw [← List.sum_append, ← List.map_append, List.take_append_drop]
theorem ssum_same {H0 H : Heap} (hz : H0.size ≤ H.size) (h : ∀ (a : Nat) (c : Cell), H0[a]? = some c → ∃ c' : Cell, H[a]? = some c' ∧ c'.slots.size = c.slots.size) : ((H.toList.take H0.size).map (fun c => c.slots.size)).sum = ssum H0 := by
  unfold ssum
  congr 1
  apply List.ext_getElem?
  intro a
  simp only [List.getElem?_map]
  by_cases ha : a < H0.size
  · rw [List.getElem?_take_of_lt ha]
    obtain ⟨c', h1, h2⟩ := h a _ (Array.getElem?_eq_getElem ha)
    have e1 : H.toList[a]? = some c' := by rw [Array.getElem?_toList]; exact h1
    have e2 : H0.toList[a]? = some H0[a] := by rw [Array.getElem?_toList]; exact Array.getElem?_eq_getElem ha
    rw [e1, e2]
    simp only [Option.map_some, h2]
  · have e1 : (H.toList.take H0.size)[a]? = none := List.getElem?_eq_none (by simp; omega)
    have e2 : H0.toList[a]? = none := List.getElem?_eq_none (by simp; omega)
    rw [e1, e2]
theorem stand_tight {p : Program} {l : Launch} {e : Env} {R : Room} {s : State} {m : MethodId} {args : Array Value} {below : List Frame} {meth : Method} {c : Code} {T : State} {locs : List Loc} {cells slots : Nat} (X : Stand p l e R s m args below meth c T locs cells slots) :
    Stand p l e R s m args below meth c T locs (T.heap.size - s.heap.size) (ssum T.heap - ssum s.heap) := by
  obtain ⟨h1, h2, h3, h4, h5, h6⟩ := X.same
  have h2' : s.heap.size ≤ T.heap.size := h2
  refine { X with same := ⟨h1, h2, ?_, h4, ?_, h6⟩ }
  · show T.heap.size ≤ s.heap.size + (T.heap.size - s.heap.size)
    omega
  · show ((T.heap.toList.drop s.heap.size).map (fun c => c.slots.size)).sum ≤ _
    have e := ssum_split T.heap s.heap.size
    rw [ssum_same h2' (fun a c hc => by
      obtain ⟨c', g1, -, g3, -⟩ := h6 a c hc
      exact ⟨c', g1, g3⟩)] at e
    omega
theorem W_tight {p : Program} {l : Launch} {e : Env} {R : Room} {s : State} {m : MethodId} {args : Array Value} {below : List Frame} {meth : Method} {c : Code} {H : Heap} {locs : List Loc} {cells slots : Nat} {Q : State → Prop} {g : JFrame} (k : W p l e R s m args below meth c H locs (H.size - s.heap.size) (ssum H - ssum s.heap) Q g) : W p l e R s m args below meth c H locs cells slots Q g := by
  intro T hT X
  subst hT
  exact k T rfl (stand_tight X)
theorem W_mono {p : Program} {l : Launch} {e : Env} {R : Room} {s : State} {m : MethodId} {args : Array Value} {below : List Frame} {meth : Method} {c : Code} {H : Heap} {locs : List Loc} {cells slots : Nat} {Q Q' : State → Prop} {g : JFrame} (h : ∀ t, Q t → Q' t) (k : W p l e R s m args below meth c H locs cells slots Q g) : W p l e R s m args below meth c H locs cells slots Q' g := by
  intro T hT X
  obtain ⟨t, a, b⟩ := k T hT X
  exact ⟨t, a, h t b⟩
theorem ssum_set {H H1 : Heap} {a : Nat} {x : Cell} (hz : H1.size = H.size) (ho : ∀ q : Nat, q ≠ a → H1[q]? = H[q]?) (hx : H1[a]? = some x) (hs : ∀ c : Cell, H[a]? = some c → x.slots.size = c.slots.size) : ssum H1 = ssum H := by
  have h := ssum_same (H0 := H1) (H := H) (by omega) (fun b c hc => by
    by_cases hb : b = a
    · subst hb
      rw [hx] at hc
      cases hc
      have hl : b < H.size := by rw [← hz]; exact (Array.getElem?_eq_some_iff.mp hx).1
      exact ⟨_, Array.getElem?_eq_getElem hl, (hs _ (Array.getElem?_eq_getElem hl)).symm⟩
    · rw [ho b hb] at hc
      exact ⟨c, hc, rfl⟩)
  rw [← h, hz]
  have : H.toList.take H.size = H.toList := List.take_of_length_le (by simp)
  rw [this]
  rfl
theorem ssum_new {H H1 : Heap} {x : Cell} (hz : H1.size = H.size + 1) (ho : ∀ q : Nat, q < H.size → H1[q]? = H[q]?) (hx : H1[H.size]? = some x) : ssum H1 = ssum H + x.slots.size := by
  have h := ssum_same (H0 := H) (H := H1) (by omega) (fun b c hc => ⟨c, by rw [ho b (Array.getElem?_eq_some_iff.mp hc).1]; exact hc, rfl⟩)
  rw [ssum_split H1 H.size, h]
  have hd : H1.toList.drop H.size = [x] := by
    apply List.ext_getElem?
    intro k
    rw [List.getElem?_drop]
    match k with
    | 0 =>
      rw [Nat.add_zero, Array.getElem?_toList, hx]
      rfl
    | k + 1 =>
      rw [List.getElem?_eq_none (by simp; omega)]
      simp
  rw [hd]
  simp
section WP
variable {i pc : Nat} {ls : List (Option AV)} {st : List AV} {h : Hp} {Q : Option AV → Hp → Prop} {X : String → Hp → Prop}
theorem wp_mono {Q' : Option AV → Hp → Prop} {X' : String → Hp → Prop} (hQ : ∀ v h', Q v h' → Q' v h') (hX : ∀ E h', X E h' → X' E h') (k : wp i pc ls st h Q X) : wp i pc ls st h Q' X' := by
  intro D DA B0 CN CS p l e R s m args below meth c H locs ls' hfl hE
  refine W_mono (fun t ht => ?_) (k D DA B0 CN CS p l e R s m args below meth c H locs ls' hfl hE)
  obtain ⟨o, g1, g2, g3⟩ := ht
  refine ⟨o, g1, g2, ?_⟩
  rcases g3 with ⟨⟨v, h', e1, e2, e3⟩, g4⟩ | ⟨q, e0, E, ce, L, ⟨h', e1, e2⟩, g5⟩
  · exact Or.inl ⟨⟨v, h', e1, hQ _ _ e2, e3⟩, g4⟩
  · exact Or.inr ⟨q, e0, E, ce, L, ⟨h', hX _ _ e1, e2⟩, g5⟩
/-- fewer locals -/
theorem wp_ls {L : List (Option AV)} (hw : ∀ (j : Nat) (v : AV), L[j]? = some (some v) → ls[j]? = some (some v)) (k : wp i pc L st h Q X) : wp i pc ls st h Q X := by
  intro D DA B0 CN CS p l e R s m args below meth c H locs ls' hfl hE
  obtain ⟨e1, e2, e3, e4⟩ := hE
  exact k D DA B0 CN CS p l e R s m args below meth c H locs ls' hfl ⟨e1, e2, e3.weak hw, e4⟩
/-- what every pictured heap has -/
theorem wp_wf (k : (∀ a j, inR (hi h a j)) → (∀ a, kd h a ≠ 0 → a < nx h) → nx h ≤ cn h → us h ≤ cs h → wp i pc ls st h Q X) : wp i pc ls st h Q X := by
  intro D DA B0 CN CS p l e R s m args below meth c H locs ls' hfl hE
  have hr := hE.2.1
  obtain ⟨k1, k2, k3, k4, k5, k6, k7, k8, k9⟩ := hE.2.1
  exact k k8 (fun a ha => hr.lt ha) (by rw [k3]; exact k5) (by rw [k4]; exact k6) D DA B0 CN CS p l e R s m args below meth c H locs ls' hfl hE

theorem wp_iconst {n : Int} (hd : decode (mB i) pc = .ok (.iconst n, 1))
    (k : wp i (pc + 1) ls (vI n :: st) h Q X) : wp i pc ls st h Q X := by
  intro D DA B0 CN CS p l e R s m args below meth c H locs ls' hfl hE
  exact lv_iconst (v := Int32.ofInt n) hE.1.1 hE.1.2.1 hd rfl (k D DA B0 CN CS p l e R s m args below meth c H locs ls' hfl hE)
theorem wp_bipush {n : Int} (hd : decode (mB i) pc = .ok (.bipush n, 2)) (hv : (Int8.ofInt n).toInt32 = Int32.ofInt n := by decide)
    (k : wp i (pc + 2) ls (vI n :: st) h Q X) : wp i pc ls st h Q X := by
  intro D DA B0 CN CS p l e R s m args below meth c H locs ls' hfl hE
  exact lv_bipush (v := Int32.ofInt n) hE.1.1 hE.1.2.1 hd hv (k D DA B0 CN CS p l e R s m args below meth c H locs ls' hfl hE)
theorem wp_sipush {n : Int} (hd : decode (mB i) pc = .ok (.sipush n, 3)) (hv : (Int16.ofInt n).toInt32 = Int32.ofInt n := by decide)
    (k : wp i (pc + 3) ls (vI n :: st) h Q X) : wp i pc ls st h Q X := by
  intro D DA B0 CN CS p l e R s m args below meth c H locs ls' hfl hE
  exact lv_sipush (v := Int32.ofInt n) hE.1.1 hE.1.2.1 hd hv (k D DA B0 CN CS p l e R s m args below meth c H locs ls' hfl hE)
theorem wp_lconst {n : Fin 2} {z : Int} (hd : decode (mB i) pc = .ok (.lconst n, 1)) (hv : Int64.ofNat n.val = Int64.ofInt z := by decide)
    (k : wp i (pc + 1) ls (vL z :: st) h Q X) : wp i pc ls st h Q X := by
  intro D DA B0 CN CS p l e R s m args below meth c H locs ls' hfl hE
  exact lv_lconst (v := Int64.ofInt z) hE.1.1 hE.1.2.1 hd hv (k D DA B0 CN CS p l e R s m args below meth c H locs ls' hfl hE)
theorem wp_null  (hd : decode (mB i) pc = .ok (.aconst_null, 1))
    (k : wp i (pc + 1) ls (vR none :: st) h Q X) : wp i pc ls st h Q X := by
  intro D DA B0 CN CS p l e R s m args below meth c H locs ls' hfl hE
  exact lv_null hE.1.1 hE.1.2.1 hd (k D DA B0 CN CS p l e R s m args below meth c H locs ls' hfl hE)
theorem wp_ldc {idx : Nat} {v : Int32} (z : Int) (hd : decode (mB i) pc = .ok (.ldc idx, 2)) (hw : okw (.constant (mY i).cls idx v)) (hv : v = Int32.ofInt z) (k : wp i (pc + 2) ls (vI z :: st) h Q X) : wp i pc ls st h Q X := by
  intro D DA B0 CN CS p l e R s m args below meth c H locs ls' hfl hE
  subst hv
  exact lv_ldc hE.1.1 hE.1.2.1 hE.1.2.2.2.2.2.1 (hE.1.2.2.2.2.2.2.2.1 _ hw _) hd (k D DA B0 CN CS p l e R s m args below meth c H locs ls' hfl hE)
theorem wp_ldcw {idx : Nat} {v : Int32} (z : Int) (hd : decode (mB i) pc = .ok (.ldc_w idx, 3)) (hw : okw (.constant (mY i).cls idx v)) (hv : v = Int32.ofInt z) (k : wp i (pc + 3) ls (vI z :: st) h Q X) : wp i pc ls st h Q X := by
  intro D DA B0 CN CS p l e R s m args below meth c H locs ls' hfl hE
  subst hv
  exact lv_ldcw hE.1.1 hE.1.2.1 hE.1.2.2.2.2.2.1 (hE.1.2.2.2.2.2.2.2.1 _ hw _) hd (k D DA B0 CN CS p l e R s m args below meth c H locs ls' hfl hE)
theorem wp_ldc2 {idx : Nat} {v : Int64} (z : Int) (hd : decode (mB i) pc = .ok (.ldc2_w idx, 3)) (hw : okw (.constantLong (mY i).cls idx v)) (hv : v = Int64.ofInt z) (k : wp i (pc + 3) ls (vL z :: st) h Q X) : wp i pc ls st h Q X := by
  intro D DA B0 CN CS p l e R s m args below meth c H locs ls' hfl hE
  subst hv
  exact lv_ldc2 hE.1.1 hE.1.2.1 hE.1.2.2.2.2.2.1 (hE.1.2.2.2.2.2.2.2.1 _ hw _) hd (k D DA B0 CN CS p l e R s m args below meth c H locs ls' hfl hE)
theorem wp_iload_n {n : Fin 4} {x : Int} (hd : decode (mB i) pc = .ok (.iload_n n, 1)) (hl : ls[n.val]? = some (some (vI x)))
    (k : wp i (pc + 1) ls (vI x :: st) h Q X) : wp i pc ls st h Q X := by
  intro D DA B0 CN CS p l e R s m args below meth c H locs ls' hfl hE
  exact lv_iload_n hE.1.1 hE.1.2.1 hd rfl (hE.2.2.1.at hl) (k D DA B0 CN CS p l e R s m args below meth c H locs ls' hfl hE)
theorem wp_iload {n : Nat} {x : Int} (hd : decode (mB i) pc = .ok (.iload n, 2)) (hl : ls[n]? = some (some (vI x)))
    (k : wp i (pc + 2) ls (vI x :: st) h Q X) : wp i pc ls st h Q X := by
  intro D DA B0 CN CS p l e R s m args below meth c H locs ls' hfl hE
  exact lv_iload hE.1.1 hE.1.2.1 hd (hE.2.2.1.at hl) (k D DA B0 CN CS p l e R s m args below meth c H locs ls' hfl hE)
theorem wp_lload_n {n : Fin 4} {x : Int} (hd : decode (mB i) pc = .ok (.lload_n n, 1)) (hl : ls[n.val]? = some (some (vL x)))
    (k : wp i (pc + 1) ls (vL x :: st) h Q X) : wp i pc ls st h Q X := by
  intro D DA B0 CN CS p l e R s m args below meth c H locs ls' hfl hE
  exact lv_lload_n hE.1.1 hE.1.2.1 hd rfl (hE.2.2.1.at hl) (k D DA B0 CN CS p l e R s m args below meth c H locs ls' hfl hE)
theorem wp_lload {n : Nat} {x : Int} (hd : decode (mB i) pc = .ok (.lload n, 2)) (hl : ls[n]? = some (some (vL x)))
    (k : wp i (pc + 2) ls (vL x :: st) h Q X) : wp i pc ls st h Q X := by
  intro D DA B0 CN CS p l e R s m args below meth c H locs ls' hfl hE
  exact lv_lload hE.1.1 hE.1.2.1 hd (hE.2.2.1.at hl) (k D DA B0 CN CS p l e R s m args below meth c H locs ls' hfl hE)
theorem wp_dload_n {n : Fin 4} {x : UInt64} (hd : decode (mB i) pc = .ok (.dload_n n, 1)) (hl : ls[n.val]? = some (some (vD x)))
    (k : wp i (pc + 1) ls (vD x :: st) h Q X) : wp i pc ls st h Q X := by
  intro D DA B0 CN CS p l e R s m args below meth c H locs ls' hfl hE
  exact lv_dload_n hE.1.1 hE.1.2.1 hd rfl (hE.2.2.1.at hl) (k D DA B0 CN CS p l e R s m args below meth c H locs ls' hfl hE)
theorem wp_dload {n : Nat} {x : UInt64} (hd : decode (mB i) pc = .ok (.dload n, 2)) (hl : ls[n]? = some (some (vD x)))
    (k : wp i (pc + 2) ls (vD x :: st) h Q X) : wp i pc ls st h Q X := by
  intro D DA B0 CN CS p l e R s m args below meth c H locs ls' hfl hE
  exact lv_dload hE.1.1 hE.1.2.1 hd (hE.2.2.1.at hl) (k D DA B0 CN CS p l e R s m args below meth c H locs ls' hfl hE)
theorem wp_aload_n {n : Fin 4} {x : Option Nat} (hd : decode (mB i) pc = .ok (.aload_n n, 1)) (hl : ls[n.val]? = some (some (vR x))) (k : wp i (pc + 1) ls (vR x :: st) h Q X) : wp i pc ls st h Q X := by
  intro D DA B0 CN CS p l e R s m args below meth c H locs ls' hfl hE
  match x with
  | none => exact lv_aload_nN hE.1.1 hE.1.2.1 hd rfl (hE.2.2.1.at hl) (k D DA B0 CN CS p l e R s m args below meth c H locs ls' hfl hE)
  | some x => exact lv_aload_n hE.1.1 hE.1.2.1 hd rfl (hE.2.2.1.at hl) (k D DA B0 CN CS p l e R s m args below meth c H locs ls' hfl hE)
theorem wp_aload {n : Nat} {x : Option Nat} (hd : decode (mB i) pc = .ok (.aload n, 2)) (hl : ls[n]? = some (some (vR x))) (k : wp i (pc + 2) ls (vR x :: st) h Q X) : wp i pc ls st h Q X := by
  intro D DA B0 CN CS p l e R s m args below meth c H locs ls' hfl hE
  match x with
  | none => exact lv_aloadN hE.1.1 hE.1.2.1 hd (hE.2.2.1.at hl) (k D DA B0 CN CS p l e R s m args below meth c H locs ls' hfl hE)
  | some x => exact lv_aload hE.1.1 hE.1.2.1 hd (hE.2.2.1.at hl) (k D DA B0 CN CS p l e R s m args below meth c H locs ls' hfl hE)
theorem wp_istore_n {n : Fin 4} {x : Int} (hd : decode (mB i) pc = .ok (.istore_n n, 1)) (hn : n.val < mL i) (k : wp i (pc + 1) (stL ls n.val (vI x)) st h Q X) : wp i pc ls (vI x :: st) h Q X := by
  intro D DA B0 CN CS p l e R s m args below meth c H locs ls' hfl hE
  obtain ⟨l1, e', h'⟩ := hE.2.2.1.store (v := vI x) hn rfl
  intro T hT XX
  obtain ⟨t, a, b⟩ := k D DA B0 CN CS p l e R s m args below meth c H locs l1 hfl ⟨hE.1, hE.2.1, h', hE.2.2.2⟩ T hT XX
  refine ⟨t, ?_, b⟩
  have hx := hE.1.1
  have hb := hE.1.2.1
  unfold conc at e'
  simp only [List.map_cons, conc]
  jvm_step XX.here [XX.here.top, ↓top_set XX.here.top, hx, hb, hd, e']
  exact a
theorem wp_lstore_n {n : Fin 4} {x : Int} (hd : decode (mB i) pc = .ok (.lstore_n n, 1)) (hn : n.val + 1 < mL i) (k : wp i (pc + 1) (stL2 ls n.val (vL x)) st h Q X) : wp i pc ls (vL x :: st) h Q X := by
  intro D DA B0 CN CS p l e R s m args below meth c H locs ls' hfl hE
  obtain ⟨l1, e', h'⟩ := hE.2.2.1.store2 (v := vL x) hn rfl
  intro T hT XX
  obtain ⟨t, a, b⟩ := k D DA B0 CN CS p l e R s m args below meth c H locs l1 hfl ⟨hE.1, hE.2.1, h', hE.2.2.2⟩ T hT XX
  refine ⟨t, ?_, b⟩
  have hx := hE.1.1
  have hb := hE.1.2.1
  unfold conc at e'
  simp only [List.map_cons, conc]
  jvm_step XX.here [XX.here.top, ↓top_set XX.here.top, hx, hb, hd, e']
  exact a
theorem wp_dstore_n {n : Fin 4} {x : UInt64} (hd : decode (mB i) pc = .ok (.dstore_n n, 1)) (hn : n.val + 1 < mL i) (k : wp i (pc + 1) (stL2 ls n.val (vD x)) st h Q X) : wp i pc ls (vD x :: st) h Q X := by
  intro D DA B0 CN CS p l e R s m args below meth c H locs ls' hfl hE
  obtain ⟨l1, e', h'⟩ := hE.2.2.1.store2 (v := vD x) hn rfl
  intro T hT XX
  obtain ⟨t, a, b⟩ := k D DA B0 CN CS p l e R s m args below meth c H locs l1 hfl ⟨hE.1, hE.2.1, h', hE.2.2.2⟩ T hT XX
  refine ⟨t, ?_, b⟩
  have hx := hE.1.1
  have hb := hE.1.2.1
  unfold conc at e'
  simp only [List.map_cons, conc]
  jvm_step XX.here [XX.here.top, ↓top_set XX.here.top, hx, hb, hd, e']
  exact a
theorem wp_astore_n {n : Fin 4} {x : Option Nat} (hd : decode (mB i) pc = .ok (.astore_n n, 1)) (hn : n.val < mL i) (k : wp i (pc + 1) (stL ls n.val (vR x)) st h Q X) : wp i pc ls (vR x :: st) h Q X := by
  intro D DA B0 CN CS p l e R s m args below meth c H locs ls' hfl hE
  obtain ⟨l1, e', h'⟩ := hE.2.2.1.store (v := vR x) hn rfl
  intro T hT XX
  obtain ⟨t, a, b⟩ := k D DA B0 CN CS p l e R s m args below meth c H locs l1 hfl ⟨hE.1, hE.2.1, h', hE.2.2.2⟩ T hT XX
  refine ⟨t, ?_, b⟩
  have hx := hE.1.1
  have hb := hE.1.2.1
  match x with
  | none =>
    simp only [conc, va_rf] at e'
    simp only [List.map_cons, conc, va_rf]
    jvm_step XX.here [XX.here.top, ↓top_set XX.here.top, hx, hb, hd, e', Value.isRef]
    exact a
  | some x =>
    simp only [conc, va_rf] at e'
    simp only [List.map_cons, conc, va_rf]
    jvm_step XX.here [XX.here.top, ↓top_set XX.here.top, hx, hb, hd, e', Value.isRef]
    exact a
theorem wp_istore {n : Nat} {x : Int} (hd : decode (mB i) pc = .ok (.istore n, 2)) (hn : n < mL i) (k : wp i (pc + 2) (stL ls n (vI x)) st h Q X) : wp i pc ls (vI x :: st) h Q X := by
  intro D DA B0 CN CS p l e R s m args below meth c H locs ls' hfl hE
  obtain ⟨l1, e', h'⟩ := hE.2.2.1.store (v := vI x) hn rfl
  intro T hT XX
  obtain ⟨t, a, b⟩ := k D DA B0 CN CS p l e R s m args below meth c H locs l1 hfl ⟨hE.1, hE.2.1, h', hE.2.2.2⟩ T hT XX
  refine ⟨t, ?_, b⟩
  have hx := hE.1.1
  have hb := hE.1.2.1
  unfold conc at e'
  simp only [List.map_cons, conc]
  jvm_step XX.here [XX.here.top, ↓top_set XX.here.top, hx, hb, hd, e']
  exact a
theorem wp_lstore {n : Nat} {x : Int} (hd : decode (mB i) pc = .ok (.lstore n, 2)) (hn : n + 1 < mL i) (k : wp i (pc + 2) (stL2 ls n (vL x)) st h Q X) : wp i pc ls (vL x :: st) h Q X := by
  intro D DA B0 CN CS p l e R s m args below meth c H locs ls' hfl hE
  obtain ⟨l1, e', h'⟩ := hE.2.2.1.store2 (v := vL x) hn rfl
  intro T hT XX
  obtain ⟨t, a, b⟩ := k D DA B0 CN CS p l e R s m args below meth c H locs l1 hfl ⟨hE.1, hE.2.1, h', hE.2.2.2⟩ T hT XX
  refine ⟨t, ?_, b⟩
  have hx := hE.1.1
  have hb := hE.1.2.1
  unfold conc at e'
  simp only [List.map_cons, conc]
  jvm_step XX.here [XX.here.top, ↓top_set XX.here.top, hx, hb, hd, e']
  exact a
theorem wp_dstore {n : Nat} {x : UInt64} (hd : decode (mB i) pc = .ok (.dstore n, 2)) (hn : n + 1 < mL i) (k : wp i (pc + 2) (stL2 ls n (vD x)) st h Q X) : wp i pc ls (vD x :: st) h Q X := by
  intro D DA B0 CN CS p l e R s m args below meth c H locs ls' hfl hE
  obtain ⟨l1, e', h'⟩ := hE.2.2.1.store2 (v := vD x) hn rfl
  intro T hT XX
  obtain ⟨t, a, b⟩ := k D DA B0 CN CS p l e R s m args below meth c H locs l1 hfl ⟨hE.1, hE.2.1, h', hE.2.2.2⟩ T hT XX
  refine ⟨t, ?_, b⟩
  have hx := hE.1.1
  have hb := hE.1.2.1
  unfold conc at e'
  simp only [List.map_cons, conc]
  jvm_step XX.here [XX.here.top, ↓top_set XX.here.top, hx, hb, hd, e']
  exact a
theorem wp_astore {n : Nat} {x : Option Nat} (hd : decode (mB i) pc = .ok (.astore n, 2)) (hn : n < mL i) (k : wp i (pc + 2) (stL ls n (vR x)) st h Q X) : wp i pc ls (vR x :: st) h Q X := by
  intro D DA B0 CN CS p l e R s m args below meth c H locs ls' hfl hE
  obtain ⟨l1, e', h'⟩ := hE.2.2.1.store (v := vR x) hn rfl
  intro T hT XX
  obtain ⟨t, a, b⟩ := k D DA B0 CN CS p l e R s m args below meth c H locs l1 hfl ⟨hE.1, hE.2.1, h', hE.2.2.2⟩ T hT XX
  refine ⟨t, ?_, b⟩
  have hx := hE.1.1
  have hb := hE.1.2.1
  match x with
  | none =>
    simp only [conc, va_rf] at e'
    simp only [List.map_cons, conc, va_rf]
    jvm_step XX.here [XX.here.top, ↓top_set XX.here.top, hx, hb, hd, e', Value.isRef]
    exact a
  | some x =>
    simp only [conc, va_rf] at e'
    simp only [List.map_cons, conc, va_rf]
    jvm_step XX.here [XX.here.top, ↓top_set XX.here.top, hx, hb, hd, e', Value.isRef]
    exact a
theorem wp_iinc {n : Nat} {d x : Int} (hd : decode (mB i) pc = .ok (.iinc n d, 3)) (hl : ls[n]? = some (some (vI x))) (hn : n < mL i) (k : wp i (pc + 3) (stL ls n (vI (x + d))) st h Q X) : wp i pc ls st h Q X := by
  intro D DA B0 CN CS p l e R s m args below meth c H locs ls' hfl hE
  obtain ⟨l1, e', h'⟩ := hE.2.2.1.store (v := vI (x + d)) hn rfl
  have hg := hE.2.2.1.at hl
  intro T hT XX
  obtain ⟨t, a, b⟩ := k D DA B0 CN CS p l e R s m args below meth c H locs l1 hfl ⟨hE.1, hE.2.1, h', hE.2.2.2⟩ T hT XX
  refine ⟨t, ?_, b⟩
  have hx := hE.1.1
  have hb := hE.1.2.1
  simp only [conc, Int32.ofInt_add] at e' hg
  jvm_step XX.here [XX.here.top, ↓top_set XX.here.top, hx, hb, hd, hg, e']
  exact a
theorem wp_iadd {x y : Int} (hd : decode (mB i) pc = .ok (.iadd, 1))
    (k : wp i (pc + 1) ls (vI (x + y) :: st) h Q X) : wp i pc ls (vI y :: vI x :: st) h Q X := by
  intro D DA B0 CN CS p l e R s m args below meth c H locs ls' hfl hE
  have kk := k D DA B0 CN CS p l e R s m args below meth c H locs ls' hfl hE
  simp only [List.map_cons, conc, Int32.ofInt_add] at kk
  exact lv_iadd hE.1.1 hE.1.2.1 hd kk
theorem wp_isub {x y : Int} (hd : decode (mB i) pc = .ok (.isub, 1))
    (k : wp i (pc + 1) ls (vI (x - y) :: st) h Q X) : wp i pc ls (vI y :: vI x :: st) h Q X := by
  intro D DA B0 CN CS p l e R s m args below meth c H locs ls' hfl hE
  have kk := k D DA B0 CN CS p l e R s m args below meth c H locs ls' hfl hE
  simp only [List.map_cons, conc, Int32.ofInt_sub] at kk
  exact lv_isub hE.1.1 hE.1.2.1 hd kk
theorem wp_imul {x y : Int} (hd : decode (mB i) pc = .ok (.imul, 1))
    (k : wp i (pc + 1) ls (vI (x * y) :: st) h Q X) : wp i pc ls (vI y :: vI x :: st) h Q X := by
  intro D DA B0 CN CS p l e R s m args below meth c H locs ls' hfl hE
  have kk := k D DA B0 CN CS p l e R s m args below meth c H locs ls' hfl hE
  simp only [List.map_cons, conc, Int32.ofInt_mul] at kk
  exact lv_imul hE.1.1 hE.1.2.1 hd kk
theorem wp_ladd {x y : Int} (hd : decode (mB i) pc = .ok (.ladd, 1))
    (k : wp i (pc + 1) ls (vL (x + y) :: st) h Q X) : wp i pc ls (vL y :: vL x :: st) h Q X := by
  intro D DA B0 CN CS p l e R s m args below meth c H locs ls' hfl hE
  have kk := k D DA B0 CN CS p l e R s m args below meth c H locs ls' hfl hE
  simp only [List.map_cons, conc, Int64.ofInt_add] at kk
  exact lv_ladd hE.1.1 hE.1.2.1 hd kk
theorem wp_lsub {x y : Int} (hd : decode (mB i) pc = .ok (.lsub, 1))
    (k : wp i (pc + 1) ls (vL (x - y) :: st) h Q X) : wp i pc ls (vL y :: vL x :: st) h Q X := by
  intro D DA B0 CN CS p l e R s m args below meth c H locs ls' hfl hE
  have kk := k D DA B0 CN CS p l e R s m args below meth c H locs ls' hfl hE
  simp only [List.map_cons, conc, Int64.ofInt_sub] at kk
  exact lv_lsub hE.1.1 hE.1.2.1 hd kk
theorem wp_lmul {x y : Int} (hd : decode (mB i) pc = .ok (.lmul, 1))
    (k : wp i (pc + 1) ls (vL (x * y) :: st) h Q X) : wp i pc ls (vL y :: vL x :: st) h Q X := by
  intro D DA B0 CN CS p l e R s m args below meth c H locs ls' hfl hE
  have kk := k D DA B0 CN CS p l e R s m args below meth c H locs ls' hfl hE
  simp only [List.map_cons, conc, Int64.ofInt_mul] at kk
  exact lv_lmul hE.1.1 hE.1.2.1 hd kk
theorem i_ne0 {y : Int} (hy : inR y) (h0 : y ≠ 0) : ¬ Int32.ofInt y = 0 := fun q => h0 ((i_eq hy (y := 0) (by decide)).mp q)
theorem i_div {x y : Int} (hx : inR x) (hy : inR y) : Int32.ofInt x / Int32.ofInt y = Int32.ofInt (x.tdiv y) :=
  (Int32.ofInt_tdiv (a := x) (b := y) (by show (-2147483648 : Int) ≤ x; exact hx.1) (by show x ≤ (2147483647 : Int); exact hx.2) (by show (-2147483648 : Int) ≤ y; exact hy.1) (by show y ≤ (2147483647 : Int); exact hy.2)).symm
theorem i_rem {x y : Int} (hx : inR x) (hy : inR y) : Int32.ofInt x - Int32.ofInt x / Int32.ofInt y * Int32.ofInt y = Int32.ofInt (x.tmod y) := by
  rw [i_div hx hy, ← Int32.ofInt_mul, ← Int32.ofInt_sub]
  congr 1
  have := Int.tmod_add_mul_tdiv x y
  have e : x.tdiv y * y = y * x.tdiv y := Int.mul_comm _ _
  omega
theorem wp_idiv {x y : Int} (hd : decode (mB i) pc = .ok (.idiv, 1)) (hx : inR x) (hy : inR y) (h0 : y ≠ 0)
    (k : wp i (pc + 1) ls (vI (x.tdiv y) :: st) h Q X) : wp i pc ls (vI y :: vI x :: st) h Q X := by
  intro D DA B0 CN CS p l e R s m args below meth c H locs ls' hfl hE
  have kk := k D DA B0 CN CS p l e R s m args below meth c H locs ls' hfl hE
  simp only [List.map_cons, conc, ← i_div hx hy] at kk
  exact lv_idiv hE.1.1 hE.1.2.1 hd (i_ne0 hy h0) kk
theorem wp_irem {x y : Int} (hd : decode (mB i) pc = .ok (.irem, 1)) (hx : inR x) (hy : inR y) (h0 : y ≠ 0)
    (k : wp i (pc + 1) ls (vI (x.tmod y) :: st) h Q X) : wp i pc ls (vI y :: vI x :: st) h Q X := by
  intro D DA B0 CN CS p l e R s m args below meth c H locs ls' hfl hE
  have kk := k D DA B0 CN CS p l e R s m args below meth c H locs ls' hfl hE
  simp only [List.map_cons, conc, ← i_rem hx hy] at kk
  exact lv_irem hE.1.1 hE.1.2.1 hd (i_ne0 hy h0) kk
/-- and, or, exclusive or, shifted right: as the machine has them -/
def vand (x y : Int) : Int := (Int32.ofInt x &&& Int32.ofInt y).toInt
def vor (x y : Int) : Int := (Int32.ofInt x ||| Int32.ofInt y).toInt
def vxor (x y : Int) : Int := (Int32.ofInt x ^^^ Int32.ofInt y).toInt
def vshr (x y : Int) : Int := (Int32.ofInt x >>> (Int32.ofInt y &&& 31)).toInt
theorem wp_iand {x y : Int} (hd : decode (mB i) pc = .ok (.iand, 1))
    (k : wp i (pc + 1) ls (vI (vand x y) :: st) h Q X) : wp i pc ls (vI y :: vI x :: st) h Q X := by
  intro D DA B0 CN CS p l e R s m args below meth c H locs ls' hfl hE
  have kk := k D DA B0 CN CS p l e R s m args below meth c H locs ls' hfl hE
  simp only [List.map_cons, conc, vand, Int32.ofInt_toInt] at kk
  exact lv_iand hE.1.1 hE.1.2.1 hd kk
theorem wp_ior {x y : Int} (hd : decode (mB i) pc = .ok (.ior, 1))
    (k : wp i (pc + 1) ls (vI (vor x y) :: st) h Q X) : wp i pc ls (vI y :: vI x :: st) h Q X := by
  intro D DA B0 CN CS p l e R s m args below meth c H locs ls' hfl hE
  have kk := k D DA B0 CN CS p l e R s m args below meth c H locs ls' hfl hE
  simp only [List.map_cons, conc, vor, Int32.ofInt_toInt] at kk
  exact lv_ior hE.1.1 hE.1.2.1 hd kk
theorem wp_ixor {x y : Int} (hd : decode (mB i) pc = .ok (.ixor, 1))
    (k : wp i (pc + 1) ls (vI (vxor x y) :: st) h Q X) : wp i pc ls (vI y :: vI x :: st) h Q X := by
  intro D DA B0 CN CS p l e R s m args below meth c H locs ls' hfl hE
  have kk := k D DA B0 CN CS p l e R s m args below meth c H locs ls' hfl hE
  simp only [List.map_cons, conc, vxor, Int32.ofInt_toInt] at kk
  exact lv_ixor hE.1.1 hE.1.2.1 hd kk
theorem wp_ishr {x y : Int} (hd : decode (mB i) pc = .ok (.ishr, 1))
    (k : wp i (pc + 1) ls (vI (vshr x y) :: st) h Q X) : wp i pc ls (vI y :: vI x :: st) h Q X := by
  intro D DA B0 CN CS p l e R s m args below meth c H locs ls' hfl hE
  have kk := k D DA B0 CN CS p l e R s m args below meth c H locs ls' hfl hE
  simp only [List.map_cons, conc, vshr, Int32.ofInt_toInt] at kk
  exact lv_ishr hE.1.1 hE.1.2.1 hd kk
theorem i_long {x : Int} (hx : inR x) : (Int32.ofInt x).toInt64 = Int64.ofInt x := Int32.toInt64_ofInt (by show (-2147483648 : Int) ≤ x; exact hx.1) (by show x ≤ (2147483647 : Int); exact hx.2)
theorem wp_i2l {x : Int} (hd : decode (mB i) pc = .ok (.i2l, 1)) (hx : inR x)
    (k : wp i (pc + 1) ls (vL x :: st) h Q X) : wp i pc ls (vI x :: st) h Q X := by
  intro D DA B0 CN CS p l e R s m args below meth c H locs ls' hfl hE
  exact lv_i2l hE.1.1 hE.1.2.1 hd (i_long hx) (k D DA B0 CN CS p l e R s m args below meth c H locs ls' hfl hE)
theorem wp_l2i {x : Int} (hd : decode (mB i) pc = .ok (.l2i, 1))
    (k : wp i (pc + 1) ls (vI (Int64.ofInt x).toInt32.toInt :: st) h Q X) : wp i pc ls (vL x :: st) h Q X := by
  intro D DA B0 CN CS p l e R s m args below meth c H locs ls' hfl hE
  have kk := k D DA B0 CN CS p l e R s m args below meth c H locs ls' hfl hE
  simp only [List.map_cons, conc, Int32.ofInt_toInt] at kk
  exact lv_l2i hE.1.1 hE.1.2.1 hd rfl kk
theorem wp_dup {v : AV} (hd : decode (mB i) pc = .ok (.dup, 1)) (hc : cat2 v = false := by rfl)
    (k : wp i (pc + 1) ls (v :: v :: st) h Q X) : wp i pc ls (v :: st) h Q X := by
  intro D DA B0 CN CS p l e R s m args below meth c H locs ls' hfl hE
  exact lv_dup hE.1.1 hE.1.2.1 hd (by rw [conc_cat, hc]; rfl) (k D DA B0 CN CS p l e R s m args below meth c H locs ls' hfl hE)
theorem wp_pop {v : AV} (hd : decode (mB i) pc = .ok (.pop, 1)) (hc : cat2 v = false := by rfl)
    (k : wp i (pc + 1) ls st h Q X) : wp i pc ls (v :: st) h Q X := by
  intro D DA B0 CN CS p l e R s m args below meth c H locs ls' hfl hE
  exact lv_pop hE.1.1 hE.1.2.1 hd (by rw [conc_cat, hc]; rfl) (k D DA B0 CN CS p l e R s m args below meth c H locs ls' hfl hE)
theorem wp_dup_x1 {v w : AV} (hd : decode (mB i) pc = .ok (.dup_x1, 1)) (hc : cat2 v = false := by rfl) (hc2 : cat2 w = false := by rfl)
    (k : wp i (pc + 1) ls (v :: w :: v :: st) h Q X) : wp i pc ls (v :: w :: st) h Q X := by
  intro D DA B0 CN CS p l e R s m args below meth c H locs ls' hfl hE
  exact lv_dup_x1 hE.1.1 hE.1.2.1 hd (by rw [conc_cat, hc]; rfl) (by rw [conc_cat, hc2]; rfl) (k D DA B0 CN CS p l e R s m args below meth c H locs ls' hfl hE)
theorem wp_dup_x2 {v w u : AV} (hd : decode (mB i) pc = .ok (.dup_x2, 1)) (hc : cat2 v = false := by rfl) (hc2 : cat2 w = false := by rfl) (hc3 : cat2 u = false := by rfl)
    (k : wp i (pc + 1) ls (v :: w :: u :: v :: st) h Q X) : wp i pc ls (v :: w :: u :: st) h Q X := by
  intro D DA B0 CN CS p l e R s m args below meth c H locs ls' hfl hE
  exact lv_dup_x2 hE.1.1 hE.1.2.1 hd (by rw [conc_cat, hc]; rfl) (by rw [conc_cat, hc2]; rfl) (by rw [conc_cat, hc3]; rfl) (k D DA B0 CN CS p l e R s m args below meth c H locs ls' hfl hE)
theorem wp_dup2 {v w : AV} (hd : decode (mB i) pc = .ok (.dup2, 1)) (hc : cat2 v = false := by rfl) (hc2 : cat2 w = false := by rfl)
    (k : wp i (pc + 1) ls (v :: w :: v :: w :: st) h Q X) : wp i pc ls (v :: w :: st) h Q X := by
  intro D DA B0 CN CS p l e R s m args below meth c H locs ls' hfl hE
  exact lv_dup2_11 hE.1.1 hE.1.2.1 hd (by rw [conc_cat, hc]; rfl) (by rw [conc_cat, hc2]; rfl) (k D DA B0 CN CS p l e R s m args below meth c H locs ls' hfl hE)
theorem wp_icmp_eq {x y off : Int} {tgt : Nat} (hd : decode (mB i) pc = .ok (.if_icmp .eq off, 3)) (ht : (pc : Int) + off = (tgt : Int)) (hx : inR x) (hy : inR y)
    (kt : x = y → wp i tgt ls st h Q X) (kf : ¬ x = y → wp i (pc + 3) ls st h Q X) : wp i pc ls (vI y :: vI x :: st) h Q X := by
  intro D DA B0 CN CS p l e R s m args below meth c H locs ls' hfl hE
  refine lv_icmp_eq hE.1.1 hE.1.2.1 hd ht (fun q => ?_) (fun q => ?_)
  · exact kt ((i_eq hx hy).mp q) D DA B0 CN CS p l e R s m args below meth c H locs ls' hfl hE
  · exact kf (fun z => q ((i_eq hx hy).mpr z)) D DA B0 CN CS p l e R s m args below meth c H locs ls' hfl hE
theorem wp_if_eq {x off : Int} {tgt : Nat} (hd : decode (mB i) pc = .ok (.ifCond .eq off, 3)) (ht : (pc : Int) + off = (tgt : Int)) (hx : inR x)
    (kt : x = 0 → wp i tgt ls st h Q X) (kf : ¬ x = 0 → wp i (pc + 3) ls st h Q X) : wp i pc ls (vI x :: st) h Q X := by
  intro D DA B0 CN CS p l e R s m args below meth c H locs ls' hfl hE
  refine lv_if_eq hE.1.1 hE.1.2.1 hd ht (fun q => ?_) (fun q => ?_)
  · exact kt ((i_eq hx (y := 0) (by decide)).mp q) D DA B0 CN CS p l e R s m args below meth c H locs ls' hfl hE
  · exact kf (fun z => q ((i_eq hx (y := 0) (by decide)).mpr z)) D DA B0 CN CS p l e R s m args below meth c H locs ls' hfl hE
theorem wp_icmp_ne {x y off : Int} {tgt : Nat} (hd : decode (mB i) pc = .ok (.if_icmp .ne off, 3)) (ht : (pc : Int) + off = (tgt : Int)) (hx : inR x) (hy : inR y)
    (kt : x ≠ y → wp i tgt ls st h Q X) (kf : ¬ x ≠ y → wp i (pc + 3) ls st h Q X) : wp i pc ls (vI y :: vI x :: st) h Q X := by
  intro D DA B0 CN CS p l e R s m args below meth c H locs ls' hfl hE
  refine lv_icmp_ne hE.1.1 hE.1.2.1 hd ht (fun q => ?_) (fun q => ?_)
  · exact kt ((not_congr (i_eq hx hy)).mp q) D DA B0 CN CS p l e R s m args below meth c H locs ls' hfl hE
  · exact kf (fun z => z ((i_eq hx hy).mp q)) D DA B0 CN CS p l e R s m args below meth c H locs ls' hfl hE
theorem wp_if_ne {x off : Int} {tgt : Nat} (hd : decode (mB i) pc = .ok (.ifCond .ne off, 3)) (ht : (pc : Int) + off = (tgt : Int)) (hx : inR x)
    (kt : x ≠ 0 → wp i tgt ls st h Q X) (kf : ¬ x ≠ 0 → wp i (pc + 3) ls st h Q X) : wp i pc ls (vI x :: st) h Q X := by
  intro D DA B0 CN CS p l e R s m args below meth c H locs ls' hfl hE
  refine lv_if_ne hE.1.1 hE.1.2.1 hd ht (fun q => ?_) (fun q => ?_)
  · exact kt ((not_congr (i_eq hx (y := 0) (by decide))).mp q) D DA B0 CN CS p l e R s m args below meth c H locs ls' hfl hE
  · exact kf (fun z => z ((i_eq hx (y := 0) (by decide)).mp q)) D DA B0 CN CS p l e R s m args below meth c H locs ls' hfl hE
theorem wp_icmp_lt {x y off : Int} {tgt : Nat} (hd : decode (mB i) pc = .ok (.if_icmp .lt off, 3)) (ht : (pc : Int) + off = (tgt : Int)) (hx : inR x) (hy : inR y)
    (kt : x < y → wp i tgt ls st h Q X) (kf : ¬ x < y → wp i (pc + 3) ls st h Q X) : wp i pc ls (vI y :: vI x :: st) h Q X := by
  intro D DA B0 CN CS p l e R s m args below meth c H locs ls' hfl hE
  refine lv_icmp_lt hE.1.1 hE.1.2.1 hd ht (fun q => ?_) (fun q => ?_)
  · exact kt ((i_lt hx hy).mp q) D DA B0 CN CS p l e R s m args below meth c H locs ls' hfl hE
  · exact kf (fun z => q ((i_lt hx hy).mpr z)) D DA B0 CN CS p l e R s m args below meth c H locs ls' hfl hE
theorem wp_if_lt {x off : Int} {tgt : Nat} (hd : decode (mB i) pc = .ok (.ifCond .lt off, 3)) (ht : (pc : Int) + off = (tgt : Int)) (hx : inR x)
    (kt : x < 0 → wp i tgt ls st h Q X) (kf : ¬ x < 0 → wp i (pc + 3) ls st h Q X) : wp i pc ls (vI x :: st) h Q X := by
  intro D DA B0 CN CS p l e R s m args below meth c H locs ls' hfl hE
  refine lv_if_lt hE.1.1 hE.1.2.1 hd ht (fun q => ?_) (fun q => ?_)
  · exact kt ((i_lt hx (y := 0) (by decide)).mp q) D DA B0 CN CS p l e R s m args below meth c H locs ls' hfl hE
  · exact kf (fun z => q ((i_lt hx (y := 0) (by decide)).mpr z)) D DA B0 CN CS p l e R s m args below meth c H locs ls' hfl hE
theorem wp_icmp_ge {x y off : Int} {tgt : Nat} (hd : decode (mB i) pc = .ok (.if_icmp .ge off, 3)) (ht : (pc : Int) + off = (tgt : Int)) (hx : inR x) (hy : inR y)
    (kt : y ≤ x → wp i tgt ls st h Q X) (kf : ¬ y ≤ x → wp i (pc + 3) ls st h Q X) : wp i pc ls (vI y :: vI x :: st) h Q X := by
  intro D DA B0 CN CS p l e R s m args below meth c H locs ls' hfl hE
  refine lv_icmp_ge hE.1.1 hE.1.2.1 hd ht (fun q => ?_) (fun q => ?_)
  · exact kt ((i_le hy hx).mp q) D DA B0 CN CS p l e R s m args below meth c H locs ls' hfl hE
  · exact kf (fun z => q ((i_le hy hx).mpr z)) D DA B0 CN CS p l e R s m args below meth c H locs ls' hfl hE
theorem wp_if_ge {x off : Int} {tgt : Nat} (hd : decode (mB i) pc = .ok (.ifCond .ge off, 3)) (ht : (pc : Int) + off = (tgt : Int)) (hx : inR x)
    (kt : 0 ≤ x → wp i tgt ls st h Q X) (kf : ¬ 0 ≤ x → wp i (pc + 3) ls st h Q X) : wp i pc ls (vI x :: st) h Q X := by
  intro D DA B0 CN CS p l e R s m args below meth c H locs ls' hfl hE
  refine lv_if_ge hE.1.1 hE.1.2.1 hd ht (fun q => ?_) (fun q => ?_)
  · exact kt ((i_le (x := 0) (by decide) hx).mp q) D DA B0 CN CS p l e R s m args below meth c H locs ls' hfl hE
  · exact kf (fun z => q ((i_le (x := 0) (by decide) hx).mpr z)) D DA B0 CN CS p l e R s m args below meth c H locs ls' hfl hE
theorem wp_icmp_gt {x y off : Int} {tgt : Nat} (hd : decode (mB i) pc = .ok (.if_icmp .gt off, 3)) (ht : (pc : Int) + off = (tgt : Int)) (hx : inR x) (hy : inR y)
    (kt : y < x → wp i tgt ls st h Q X) (kf : ¬ y < x → wp i (pc + 3) ls st h Q X) : wp i pc ls (vI y :: vI x :: st) h Q X := by
  intro D DA B0 CN CS p l e R s m args below meth c H locs ls' hfl hE
  refine lv_icmp_gt hE.1.1 hE.1.2.1 hd ht (fun q => ?_) (fun q => ?_)
  · exact kt ((i_lt hy hx).mp q) D DA B0 CN CS p l e R s m args below meth c H locs ls' hfl hE
  · exact kf (fun z => q ((i_lt hy hx).mpr z)) D DA B0 CN CS p l e R s m args below meth c H locs ls' hfl hE
theorem wp_if_gt {x off : Int} {tgt : Nat} (hd : decode (mB i) pc = .ok (.ifCond .gt off, 3)) (ht : (pc : Int) + off = (tgt : Int)) (hx : inR x)
    (kt : 0 < x → wp i tgt ls st h Q X) (kf : ¬ 0 < x → wp i (pc + 3) ls st h Q X) : wp i pc ls (vI x :: st) h Q X := by
  intro D DA B0 CN CS p l e R s m args below meth c H locs ls' hfl hE
  refine lv_if_gt hE.1.1 hE.1.2.1 hd ht (fun q => ?_) (fun q => ?_)
  · exact kt ((i_lt (x := 0) (by decide) hx).mp q) D DA B0 CN CS p l e R s m args below meth c H locs ls' hfl hE
  · exact kf (fun z => q ((i_lt (x := 0) (by decide) hx).mpr z)) D DA B0 CN CS p l e R s m args below meth c H locs ls' hfl hE
theorem wp_icmp_le {x y off : Int} {tgt : Nat} (hd : decode (mB i) pc = .ok (.if_icmp .le off, 3)) (ht : (pc : Int) + off = (tgt : Int)) (hx : inR x) (hy : inR y)
    (kt : x ≤ y → wp i tgt ls st h Q X) (kf : ¬ x ≤ y → wp i (pc + 3) ls st h Q X) : wp i pc ls (vI y :: vI x :: st) h Q X := by
  intro D DA B0 CN CS p l e R s m args below meth c H locs ls' hfl hE
  refine lv_icmp_le hE.1.1 hE.1.2.1 hd ht (fun q => ?_) (fun q => ?_)
  · exact kt ((i_le hx hy).mp q) D DA B0 CN CS p l e R s m args below meth c H locs ls' hfl hE
  · exact kf (fun z => q ((i_le hx hy).mpr z)) D DA B0 CN CS p l e R s m args below meth c H locs ls' hfl hE
theorem wp_if_le {x off : Int} {tgt : Nat} (hd : decode (mB i) pc = .ok (.ifCond .le off, 3)) (ht : (pc : Int) + off = (tgt : Int)) (hx : inR x)
    (kt : x ≤ 0 → wp i tgt ls st h Q X) (kf : ¬ x ≤ 0 → wp i (pc + 3) ls st h Q X) : wp i pc ls (vI x :: st) h Q X := by
  intro D DA B0 CN CS p l e R s m args below meth c H locs ls' hfl hE
  refine lv_if_le hE.1.1 hE.1.2.1 hd ht (fun q => ?_) (fun q => ?_)
  · exact kt ((i_le hx (y := 0) (by decide)).mp q) D DA B0 CN CS p l e R s m args below meth c H locs ls' hfl hE
  · exact kf (fun z => q ((i_le hx (y := 0) (by decide)).mpr z)) D DA B0 CN CS p l e R s m args below meth c H locs ls' hfl hE
theorem wp_goto {off : Int} {tgt : Nat} (hd : decode (mB i) pc = .ok (.goto off, 3)) (ht : (pc : Int) + off = (tgt : Int))
    (k : wp i tgt ls st h Q X) : wp i pc ls st h Q X := by
  intro D DA B0 CN CS p l e R s m args below meth c H locs ls' hfl hE
  exact lv_goto hE.1.1 hE.1.2.1 hd ht (k D DA B0 CN CS p l e R s m args below meth c H locs ls' hfl hE)
theorem wp_ifnull {x : Option Nat} {off : Int} {tgt : Nat} (hd : decode (mB i) pc = .ok (.ifnull off, 3)) (ht : (pc : Int) + off = (tgt : Int))
    (kt : x = none → wp i tgt ls st h Q X) (kf : ∀ a, x = some a → wp i (pc + 3) ls st h Q X) : wp i pc ls (vR x :: st) h Q X := by
  intro D DA B0 CN CS p l e R s m args below meth c H locs ls' hfl hE
  match x with
  | none => exact lv_ifnullN hE.1.1 hE.1.2.1 hd ht (kt rfl D DA B0 CN CS p l e R s m args below meth c H locs ls' hfl hE)
  | some a => exact lv_ifnull hE.1.1 hE.1.2.1 hd (kf a rfl D DA B0 CN CS p l e R s m args below meth c H locs ls' hfl hE)
theorem wp_ifnonnull {x : Option Nat} {off : Int} {tgt : Nat} (hd : decode (mB i) pc = .ok (.ifnonnull off, 3)) (ht : (pc : Int) + off = (tgt : Int))
    (kt : ∀ a, x = some a → wp i tgt ls st h Q X) (kf : x = none → wp i (pc + 3) ls st h Q X) : wp i pc ls (vR x :: st) h Q X := by
  intro D DA B0 CN CS p l e R s m args below meth c H locs ls' hfl hE
  match x with
  | none => exact lv_ifnonnullN hE.1.1 hE.1.2.1 hd (kf rfl D DA B0 CN CS p l e R s m args below meth c H locs ls' hfl hE)
  | some a => exact lv_ifnonnull hE.1.1 hE.1.2.1 hd ht (kt a rfl D DA B0 CN CS p l e R s m args below meth c H locs ls' hfl hE)
end WP
