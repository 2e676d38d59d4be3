/-! ===== THE LOGIC, part 1: an abstract heap over whole numbers; what holds of a state that it pictures ===== -/
abbrev AV : Type := Int ⊕ (Option Nat ⊕ (Int ⊕ UInt64))
abbrev vI (n : Int) : AV := Sum.inl n
abbrev vR (r : Option Nat) : AV := Sum.inr (Sum.inl r)
abbrev vL (n : Int) : AV := Sum.inr (Sum.inr (Sum.inl n))
abbrev vD (b : UInt64) : AV := Sum.inr (Sum.inr (Sum.inr b))
def conc : AV → Value := fun v => match v with
  | Sum.inl n => .int (Int32.ofInt n)
  | Sum.inr (Sum.inl r) => va_rf r
  | Sum.inr (Sum.inr (Sum.inl n)) => .long (Int64.ofInt n)
  | Sum.inr (Sum.inr (Sum.inr b)) => .double b
def cat2 : AV → Bool := fun v => match v with
  | Sum.inr (Sum.inr _) => true
  | _ => false
theorem conc_cat (v : AV) : (conc v).category = if cat2 v = true then 2 else 1 := by
  match v with
  | Sum.inl n => rfl
  | Sum.inr (Sum.inl none) => rfl
  | Sum.inr (Sum.inl (some a)) => rfl
  | Sum.inr (Sum.inr (Sum.inl n)) => rfl
  | Sum.inr (Sum.inr (Sum.inr b)) => rfl
/-- kinds, lengths, whole numbers, references, longs, the next address, slots in use, the two bounds -/
abbrev Hp : Type := (Nat → Nat) × (Nat → Int) × (Nat → Int → Int) × (Nat → Int → Option Nat) × (Nat → Int → Int) × Nat × Nat × Nat × Nat
def kd (h : Hp) : Nat → Nat := h.1
def ln (h : Hp) : Nat → Int := h.2.1
def hi (h : Hp) : Nat → Int → Int := h.2.2.1
def hr (h : Hp) : Nat → Int → Option Nat := h.2.2.2.1
def hl (h : Hp) : Nat → Int → Int := h.2.2.2.2.1
def nx (h : Hp) : Nat := h.2.2.2.2.2.1
def us (h : Hp) : Nat := h.2.2.2.2.2.2.1
def cn (h : Hp) : Nat := h.2.2.2.2.2.2.2.1
def cs (h : Hp) : Nat := h.2.2.2.2.2.2.2.2
def up2 {α : Type} (f : Nat → Int → α) (a : Nat) (k : Int) (v : α) : Nat → Int → α := fun b j => if b = a ∧ j = k then v else f b j
def up1 {α : Type} (f : Nat → α) (a : Nat) (v : α) : Nat → α := fun b => if b = a then v else f b
def setI (h : Hp) (a : Nat) (k v : Int) : Hp := (kd h, ln h, up2 (hi h) a k v, hr h, hl h, nx h, us h, cn h, cs h)
def setR (h : Hp) (a : Nat) (k : Int) (v : Option Nat) : Hp := (kd h, ln h, hi h, up2 (hr h) a k v, hl h, nx h, us h, cn h, cs h)
def setL (h : Hp) (a : Nat) (k v : Int) : Hp := (kd h, ln h, hi h, hr h, up2 (hl h) a k v, nx h, us h, cn h, cs h)
/-- a new cell of kind K, n slots -/
def mkO (h : Hp) (K : Nat) (n : Int) : Hp := (up1 (kd h) (nx h) K, up1 (ln h) (nx h) n, up1 (hi h) (nx h) (fun _ => 0), up1 (hr h) (nx h) (fun _ => none), up1 (hl h) (nx h) (fun _ => 0), nx h + 1, us h + n.toNat, cn h, cs h)
/-- a cell that nothing tells of -/
def mkG (h : Hp) (n : Nat) : Hp := (kd h, ln h, hi h, hr h, hl h, nx h + 1, us h + n, cn h, cs h)
theorem up2_same {α : Type} (f : Nat → Int → α) (a : Nat) (k : Int) (v : α) : up2 f a k v a k = v := by simp [up2]
theorem up2_ne {α : Type} (f : Nat → Int → α) {a b : Nat} {k j : Int} (v : α) (h : ¬ (b = a ∧ j = k)) : up2 f a k v b j = f b j := by simp only [up2, if_neg h]
theorem up1_same {α : Type} (f : Nat → α) (a : Nat) (v : α) : up1 f a v a = v := by simp [up1]
theorem up1_ne {α : Type} (f : Nat → α) {a b : Nat} (v : α) (h : ¬ b = a) : up1 f a v b = f b := by simp only [up1, if_neg h]
theorem kd_setI (h : Hp) (a : Nat) (k v : Int) : kd (setI h a k v) = kd h := rfl
theorem ln_setI (h : Hp) (a : Nat) (k v : Int) : ln (setI h a k v) = ln h := rfl
theorem hi_setI (h : Hp) (a : Nat) (k v : Int) : hi (setI h a k v) = up2 (hi h) a k v := rfl
theorem hr_setI (h : Hp) (a : Nat) (k v : Int) : hr (setI h a k v) = hr h := rfl
theorem hl_setI (h : Hp) (a : Nat) (k v : Int) : hl (setI h a k v) = hl h := rfl
theorem nx_setI (h : Hp) (a : Nat) (k v : Int) : nx (setI h a k v) = nx h := rfl
theorem us_setI (h : Hp) (a : Nat) (k v : Int) : us (setI h a k v) = us h := rfl
theorem cn_setI (h : Hp) (a : Nat) (k v : Int) : cn (setI h a k v) = cn h := rfl
theorem cs_setI (h : Hp) (a : Nat) (k v : Int) : cs (setI h a k v) = cs h := rfl
theorem kd_setR (h : Hp) (a : Nat) (k : Int) (v : Option Nat) : kd (setR h a k v) = kd h := rfl
theorem ln_setR (h : Hp) (a : Nat) (k : Int) (v : Option Nat) : ln (setR h a k v) = ln h := rfl
theorem hi_setR (h : Hp) (a : Nat) (k : Int) (v : Option Nat) : hi (setR h a k v) = hi h := rfl
theorem hr_setR (h : Hp) (a : Nat) (k : Int) (v : Option Nat) : hr (setR h a k v) = up2 (hr h) a k v := rfl
theorem hl_setR (h : Hp) (a : Nat) (k : Int) (v : Option Nat) : hl (setR h a k v) = hl h := rfl
theorem nx_setR (h : Hp) (a : Nat) (k : Int) (v : Option Nat) : nx (setR h a k v) = nx h := rfl
theorem us_setR (h : Hp) (a : Nat) (k : Int) (v : Option Nat) : us (setR h a k v) = us h := rfl
theorem cn_setR (h : Hp) (a : Nat) (k : Int) (v : Option Nat) : cn (setR h a k v) = cn h := rfl
theorem cs_setR (h : Hp) (a : Nat) (k : Int) (v : Option Nat) : cs (setR h a k v) = cs h := rfl
theorem kd_setL (h : Hp) (a : Nat) (k v : Int) : kd (setL h a k v) = kd h := rfl
theorem ln_setL (h : Hp) (a : Nat) (k v : Int) : ln (setL h a k v) = ln h := rfl
theorem hi_setL (h : Hp) (a : Nat) (k v : Int) : hi (setL h a k v) = hi h := rfl
theorem hr_setL (h : Hp) (a : Nat) (k v : Int) : hr (setL h a k v) = hr h := rfl
theorem hl_setL (h : Hp) (a : Nat) (k v : Int) : hl (setL h a k v) = up2 (hl h) a k v := rfl
theorem nx_setL (h : Hp) (a : Nat) (k v : Int) : nx (setL h a k v) = nx h := rfl
theorem us_setL (h : Hp) (a : Nat) (k v : Int) : us (setL h a k v) = us h := rfl
theorem cn_setL (h : Hp) (a : Nat) (k v : Int) : cn (setL h a k v) = cn h := rfl
theorem cs_setL (h : Hp) (a : Nat) (k v : Int) : cs (setL h a k v) = cs h := rfl
theorem kd_mkO (h : Hp) (K : Nat) (n : Int) : kd (mkO h K n) = up1 (kd h) (nx h) K := rfl
theorem ln_mkO (h : Hp) (K : Nat) (n : Int) : ln (mkO h K n) = up1 (ln h) (nx h) n := rfl
theorem hi_mkO (h : Hp) (K : Nat) (n : Int) : hi (mkO h K n) = up1 (hi h) (nx h) (fun _ => 0) := rfl
theorem hr_mkO (h : Hp) (K : Nat) (n : Int) : hr (mkO h K n) = up1 (hr h) (nx h) (fun _ => none) := rfl
theorem hl_mkO (h : Hp) (K : Nat) (n : Int) : hl (mkO h K n) = up1 (hl h) (nx h) (fun _ => 0) := rfl
theorem nx_mkO (h : Hp) (K : Nat) (n : Int) : nx (mkO h K n) = nx h + 1 := rfl
theorem us_mkO (h : Hp) (K : Nat) (n : Int) : us (mkO h K n) = us h + n.toNat := rfl
theorem cn_mkO (h : Hp) (K : Nat) (n : Int) : cn (mkO h K n) = cn h := rfl
theorem cs_mkO (h : Hp) (K : Nat) (n : Int) : cs (mkO h K n) = cs h := rfl
theorem kd_mkG (h : Hp) (n : Nat) : kd (mkG h n) = kd h := rfl
theorem ln_mkG (h : Hp) (n : Nat) : ln (mkG h n) = ln h := rfl
theorem hi_mkG (h : Hp) (n : Nat) : hi (mkG h n) = hi h := rfl
theorem hr_mkG (h : Hp) (n : Nat) : hr (mkG h n) = hr h := rfl
theorem hl_mkG (h : Hp) (n : Nat) : hl (mkG h n) = hl h := rfl
theorem nx_mkG (h : Hp) (n : Nat) : nx (mkG h n) = nx h + 1 := rfl
theorem us_mkG (h : Hp) (n : Nat) : us (mkG h n) = us h + n := rfl
theorem cn_mkG (h : Hp) (n : Nat) : cn (mkG h n) = cn h := rfl
theorem cs_mkG (h : Hp) (n : Nat) : cs (mkG h n) = cs h := rfl
abbrev inR (x : Int) : Prop := -2147483648 ≤ x ∧ x ≤ 2147483647
theorem i_toInt {x : Int} (h : inR x) : (Int32.ofInt x).toInt = x := Int32.toInt_ofInt_of_le (by omega) (by omega)
theorem i_lt {x y : Int} (hx : inR x) (hy : inR y) : Int32.ofInt x < Int32.ofInt y ↔ x < y := by rw [Int32.lt_iff_toInt_lt, i_toInt hx, i_toInt hy]
theorem i_le {x y : Int} (hx : inR x) (hy : inR y) : Int32.ofInt x ≤ Int32.ofInt y ↔ x ≤ y := by rw [Int32.le_iff_toInt_le, i_toInt hx, i_toInt hy]
theorem i_eq {x y : Int} (hx : inR x) (hy : inR y) : Int32.ofInt x = Int32.ofInt y ↔ x = y := by rw [← Int32.toInt_inj, i_toInt hx, i_toInt hy]
theorem i_clamp {x : Int} (h : inR x) : (Int32.ofInt x).toNatClampNeg = x.toNat := by
  show (Int32.ofInt x).toInt.toNat = x.toNat
  rw [i_toInt h]
theorem i_neg {x : Int} (h : inR x) : Int32.ofInt x < 0 ↔ x < 0 := i_lt h (y := 0) (by decide)
/-- a slot's value, by its type -/
def vOf (ty : FieldType) (i : Int) (r : Option Nat) (l : Int) : Value := match ty with
  | .int => .int (Int32.ofInt i)
  | .boolean => .int (Int32.ofInt i)
  | .long => .long (Int64.ofInt l)
  | _ => va_rf r
def sv (ty : FieldType) (h : Hp) (a : Nat) (k : Int) : Value := vOf ty (hi h a k) (hr h a k) (hl h a k)
def okTy (ty : FieldType) : Bool := match ty with
  | .int => true
  | .boolean => true
  | .long => true
  | .object _ => true
  | .array _ => true
  | _ => false
theorem vOf_default {ty : FieldType} (h : okTy ty = true) : defaultValue ty = vOf ty 0 none 0 := by
  cases ty <;> first | rfl | cases h
def ssum (H : Heap) : Nat := (H.toList.map (fun c => c.slots.size)).sum
/-- what the tables say of an array class of that element type -/
def arrF (s : State) (cA : ClassId) (ty : FieldType) : Prop := ArrOfT s cA ty ∧ ∃ (kA : Class) (comp : ClassId), s.vm.classes[cA]? = some kA ∧ kA.kind = .array comp ty ∧ s.vm.findClass ("[" ++ ty.toString) = some cA ∧ (∀ C, ty = .object C → s.vm.findClass C = some comp) ∧ (∀ t, ty = .array t → s.vm.findClass (FieldType.array t).toString = some comp)
theorem arrF.moved {u U : State} (hvm : u.vm.Alike U.vm) {cA : ClassId} {ty : FieldType} (h : arrF u cA ty) : arrF U cA ty := by
  obtain ⟨h0, kA, comp, h1, h2, h3, h4, h5⟩ := h
  obtain ⟨k', hk', he⟩ := hvm.2.2 _ _ h1
  exact ⟨arrOfT_moved hvm h0, k', comp, hk', by rw [he]; exact h2, by rw [hvm.findClass]; exact h3, fun C e => by rw [hvm.findClass]; exact h4 C e, fun t e => by rw [hvm.findClass]; exact h5 t e⟩
/-- a's cell is as the picture tells -/
def okAt (D : va_G) (DA : Nat → ClassId) (s : State) (H : Heap) (h : Hp) (a : Nat) : Prop :=
  (kd h a < 100 ∧ ∃ q, CL[kd h a - 1]? = some q ∧ t_OB a (D.1 (kd h a - 1)) q.2.2 (D.2 (kd h a - 1)) H (fun k => sv (cT (kd h a) k) h a k)) ∨
  (kd h a = 200 ∧ inR (ln h a) ∧ ∃ cell : Cell, H[a]? = some cell ∧ s.isArrayOf cell .int ∧ cell.vm ≠ .unknown ∧ (cell.slots.size : Int) = ln h a ∧ ∀ j : Nat, j < cell.slots.size → cell.slots[j]? = some (.int (Int32.ofInt (hi h a j)))) ∨
  (kd h a ∈ KA ∧ 0 ≤ ln h a ∧ inR (ln h a) ∧ H[a]? = some (arrV (DA (kd h a)) (ln h a).toNat (fun j => sv (AT (kd h a)) h a j)))
def rep (D : va_G) (DA : Nat → ClassId) (B0 CN CS : Nat) (s : State) (H : Heap) (h : Hp) : Prop :=
  H.size = nx h ∧ ssum H = us h ∧ cn h = CN ∧ cs h = CS ∧ nx h ≤ CN ∧ us h ≤ CS ∧ B0 ≤ nx h ∧ (∀ a k, inR (hi h a k)) ∧ ∀ a, kd h a ≠ 0 → (kd h a = 200 ∨ B0 ≤ a) ∧ okAt D DA s H h a
theorem okAt.lt {D : va_G} {DA : Nat → ClassId} {s : State} {H : Heap} {h : Hp} {a : Nat} (k : okAt D DA s H h a) : a < H.size := by
  rcases k with ⟨-, q, -, cell, e, -⟩ | ⟨-, -, cell, e, -⟩ | ⟨-, -, -, e⟩ <;> exact (Array.getElem?_eq_some_iff.mp e).1
theorem okAt.kept {D : va_G} {DA : Nat → ClassId} {s : State} {H H1 : Heap} {h h1 : Hp} {a : Nat} (k : okAt D DA s H h a) (hq : H1[a]? = H[a]?) (hk : kd h1 a = kd h a) (hln : ln h1 a = ln h a) (e1 : ∀ j, hi h1 a j = hi h a j) (e2 : ∀ j, hr h1 a j = hr h a j) (e3 : ∀ j, hl h1 a j = hl h a j) : okAt D DA s H1 h1 a := by
  have es : ∀ ty j, sv ty h1 a j = sv ty h a j := fun ty j => by unfold sv; rw [e1, e2, e3]
  unfold okAt
  rw [hk, hln]
  rcases k with ⟨k1, q, k2, k3⟩ | ⟨k1, k4, cell, k2, k3, k5, k6, k7⟩ | ⟨k1, k2, k3, k4⟩
  · exact Or.inl ⟨k1, q, k2, (k3.kept hq).to (fun j _ => (es _ _).symm)⟩
  · exact Or.inr (Or.inl ⟨k1, k4, cell, by rw [hq]; exact k2, k3, k5, k6, fun j hj => by rw [e1]; exact k7 j hj⟩)
  · refine Or.inr (Or.inr ⟨k1, k2, k3, ?_⟩)
    rw [hq, k4]
    congr 2
    funext j
    exact (es _ _).symm
theorem okAt.moved {D : va_G} {DA : Nat → ClassId} {u U : State} {H : Heap} {h : Hp} {a : Nat} (hvm : u.vm.Alike U.vm) (k : okAt D DA u H h a) : okAt D DA U H h a := by
  rcases k with k | ⟨k1, k4, cell, k2, k3, k5, k6, k7⟩ | k
  · exact Or.inl k
  · exact Or.inr (Or.inl ⟨k1, k4, cell, k2, State.isArrayOf_alike hvm k3, k5, k6, k7⟩)
  · exact Or.inr (Or.inr k)
theorem rep.moved {D : va_G} {DA : Nat → ClassId} {B0 CN CS : Nat} {u U : State} {H : Heap} {h : Hp} (hvm : u.vm.Alike U.vm) (k : rep D DA B0 CN CS u H h) : rep D DA B0 CN CS U H h := by
  obtain ⟨k1, k2, k3, k4, k5, k6, k7, k8, k9⟩ := k
  exact ⟨k1, k2, k3, k4, k5, k6, k7, k8, fun a ha => ⟨(k9 a ha).1, (k9 a ha).2.moved hvm⟩⟩
theorem rep.lt {D : va_G} {DA : Nat → ClassId} {B0 CN CS : Nat} {s : State} {H : Heap} {h : Hp} (k : rep D DA B0 CN CS s H h) {a : Nat} (ha : kd h a ≠ 0) : a < nx h := by
  have := (k.2.2.2.2.2.2.2.2 a ha).2.lt
  rw [k.1] at this
  exact this
/-! words -/
theorem ao_moved {t : FieldType} {u U : State} {A A' : Array Value} (hvm : u.vm.Alike U.vm) (h : (Cond.arrayOver (.array t)).before A u = true) : (Cond.arrayOver (.array t)).before A' U = true := by
  unfold Cond.before Cond.holds at h ⊢
  simp only [Cond.value, beq_iff_eq] at h ⊢
  rw [hvm.findClass]
  cases hc : u.vm.findClass (FieldType.array t).toString with
  | none => simp [hc] at h
  | some comp =>
    simp only [hc, Option.bind_some, Option.bind_eq_some_iff, Option.map_eq_some_iff] at h ⊢
    obtain ⟨c, h2, k, h3, h4⟩ := h
    obtain ⟨k', hk', he⟩ := hvm.2.2 _ _ h3
    refine ⟨c, ?_, k', hk', ?_⟩
    · have hi : (U.vm.classes.findIdx? fun (x : Class) => match x.kind with | .array component _ => component == comp | _ => false) = some c := by
        have e1 := va_idx_bare U.vm comp
        have e2 := va_idx_bare u.vm comp
        have e3 : U.vm.bare = u.vm.bare := by first | exact hvm.bare_eq | exact hvm.bare_eq.symm
        rw [e3] at e1
        exact e1.symm.trans (e2.trans h2)
      exact hi
    · rw [← h4, he]
      cases hkk : k.kind <;> simp [hkk, hvm.findClass]
def okS (s : State) : Prop := ∀ w, okw w → ∀ a' : Array Value, w.before a' s = true
theorem okS_warm {s U : State} (hW : s.WarmedH U.vm) (h : okS s) : okS U := by
  intro w hw a'
  have hb := h w hw #[]
  obtain ⟨-, hm⟩ := hw
  unfold mw at hm
  split at hm
  · exact va_Nw.use rfl (va_Nw.warmM hW hb)
  · exact va_AO.use (va_AO.moved hW.alike hb)
  · exact ao_moved hW.alike hb
  · exact word_at hW (good_of_word hm) hb
/-! locals -/
def al (ls : List (Option AV)) : List (Nat × Value) := (List.range ls.length).filterMap (fun j => match ls[j]? with
  | some (some v) => some (j, conc v)
  | _ => none)
theorem al_mem {ls : List (Option AV)} {q : Nat × Value} : q ∈ al ls ↔ ∃ v, ls[q.1]? = some (some v) ∧ q.2 = conc v := by
  unfold al
  rw [List.mem_filterMap]
  constructor
  · rintro ⟨j, hj, h⟩
    split at h
    · next v hv => cases h; exact ⟨v, hv, rfl⟩
    · cases h
  · rintro ⟨v, hv, he⟩
    have hl : q.1 < ls.length := (List.getElem?_eq_some_iff.mp hv).1
    refine ⟨q.1, List.mem_range.mpr hl, ?_⟩
    rw [hv]
    show some (q.1, conc v) = some q
    rw [← he]
def lrel (n : Nat) (ls : List (Option AV)) (ls' : Array Slot) : Prop := lv_has ls' n (al ls)
theorem lrel.at {n : Nat} {ls : List (Option AV)} {ls' : Array Slot} (h : lrel n ls ls') {j : Nat} {v : AV} (hv : ls[j]? = some (some v)) : ls'[j]? = some (.val (conc v)) := h.2.2 (j, conc v) (al_mem.mpr ⟨v, hv, rfl⟩)
theorem lrel.weak {n : Nat} {ls L : List (Option AV)} {ls' : Array Slot} (h : lrel n ls ls') (hw : ∀ (j : Nat) (v : AV), L[j]? = some (some v) → ls[j]? = some (some v)) : lrel n L ls' := by
  refine ⟨h.1, h.2.1, fun q hq => ?_⟩
  obtain ⟨v, hv, he⟩ := al_mem.mp hq
  rw [he]
  exact h.at (hw _ _ hv)
/-- the place in front of i, if a long begins there, is lost -/
def clr (ls : List (Option AV)) (i : Nat) : List (Option AV) := match i with
  | 0 => ls
  | k + 1 => match ls[k]? with
    | some (some u) => if cat2 u = true then ls.set k none else ls
    | _ => ls
def stL (ls : List (Option AV)) (i : Nat) (v : AV) : List (Option AV) := (clr ls i).set i (some v)
def stL2 (ls : List (Option AV)) (i : Nat) (v : AV) : List (Option AV) := ((clr ls i).set i (some v)).set (i + 1) none
theorem clr_at {ls : List (Option AV)} {i j : Nat} {u : AV} (h : (clr ls i)[j]? = some (some u)) : ls[j]? = some (some u) ∧ ¬ (j + 1 = i ∧ cat2 u = true) := by
  match i with
  | 0 => exact ⟨h, fun q => by omega⟩
  | k + 1 =>
    simp only [clr] at h
    by_cases hjk : j = k
    · subst hjk
      split at h
      · next w hw =>
        by_cases c : cat2 w = true
        · rw [if_pos c] at h
          have hl : j < ls.length := (List.getElem?_eq_some_iff.mp hw).1
          simp [List.getElem?_set, hl] at h
        · rw [if_neg c] at h
          rw [hw] at h
          cases h
          exact ⟨hw, fun q => c q.2⟩
      · next hn => exact absurd h (fun h => hn u h)
    · refine ⟨?_, fun q => hjk (by omega)⟩
      split at h
      · next w hw =>
        by_cases c : cat2 w = true
        · rw [if_pos c, List.getElem?_set, if_neg (fun e => hjk e.symm)] at h
          exact h
        · rw [if_neg c] at h
          exact h
      · exact h
theorem clr_len (ls : List (Option AV)) (i : Nat) : (clr ls i).length = ls.length := by
  match i with
  | 0 => rfl
  | k + 1 =>
    simp only [clr]
    split
    · split <;> simp
    · rfl
theorem lrel.store {n : Nat} {ls : List (Option AV)} {ls' : Array Slot} (h : lrel n ls ls') {i : Nat} {v : AV} (hi : i < n) (hc : cat2 v = false) : ∃ l1, storeLocals ls' i (conc v) = some l1 ∧ lrel n (stL ls i v) l1 := by
  obtain ⟨l1, e, k⟩ := lv_store1 (v := conc v) h hi (by rw [conc_cat, hc]; rfl)
  refine ⟨l1, e, k.1, k.2.1, fun q hq => k.2.2 q ?_⟩
  obtain ⟨u, hu, he⟩ := al_mem.mp hq
  unfold stL at hu
  rw [List.getElem?_set] at hu
  by_cases hj : i = q.1
  · rw [if_pos hj] at hu
    split at hu
    · cases hu
      refine List.mem_cons.mpr (Or.inl ?_)
      rw [hj, ← he]
    · cases hu
  · rw [if_neg hj] at hu
    obtain ⟨h1, h2⟩ := clr_at hu
    refine List.mem_cons.mpr (Or.inr (List.mem_filter.mpr ⟨al_mem.mpr ⟨u, h1, he⟩, ?_⟩))
    rw [he, conc_cat]
    have hj' : ¬ q.1 = i := fun e => hj e.symm
    simp only [Bool.and_eq_true, Bool.not_eq_true', beq_eq_false_iff_ne, ne_eq, hj', not_false_eq_true, Bool.and_eq_false_iff, true_and]
    by_cases c : q.1 + 1 = i
    · right
      have : ¬ cat2 u = true := fun c2 => h2 ⟨c, c2⟩
      simp [this]
    · left; exact c
theorem lrel.store2 {n : Nat} {ls : List (Option AV)} {ls' : Array Slot} (h : lrel n ls ls') {i : Nat} {v : AV} (hi : i + 1 < n) (hc : cat2 v = true) : ∃ l1, storeLocals ls' i (conc v) = some l1 ∧ lrel n (stL2 ls i v) l1 := by
  obtain ⟨l1, e, k⟩ := lv_store2 (v := conc v) h hi (by rw [conc_cat, hc]; rfl)
  refine ⟨l1, e, k.1, k.2.1, fun q hq => k.2.2 q ?_⟩
  obtain ⟨u, hu, he⟩ := al_mem.mp hq
  unfold stL2 at hu
  rw [List.getElem?_set] at hu
  by_cases hj1 : i + 1 = q.1
  · rw [if_pos hj1] at hu
    split at hu
    · cases hu
    · cases hu
  · rw [if_neg hj1, List.getElem?_set] at hu
    by_cases hj : i = q.1
    · rw [if_pos hj] at hu
      split at hu
      · cases hu
        refine List.mem_cons.mpr (Or.inl ?_)
        rw [hj, ← he]
      · cases hu
    · rw [if_neg hj] at hu
      obtain ⟨h1, h2⟩ := clr_at hu
      refine List.mem_cons.mpr (Or.inr (List.mem_filter.mpr ⟨al_mem.mpr ⟨u, h1, he⟩, ?_⟩))
      rw [he, conc_cat]
      have hj' : ¬ q.1 = i := fun e => hj e.symm
      have hj1' : ¬ q.1 = i + 1 := fun e => hj1 e.symm
      simp only [Bool.and_eq_true, Bool.not_eq_true', beq_eq_false_iff_ne, ne_eq, hj', hj1', not_false_eq_true, Bool.and_eq_false_iff, true_and]
      by_cases c : q.1 + 1 = i
      · right
        have : ¬ cat2 u = true := fun c2 => h2 ⟨c, c2⟩
        simp [this]
      · left; exact c
/-- a method's first locals -/
def entL (as : List AV) (n : Nat) : List (Option AV) := (as.flatMap fun v => if cat2 v = true then [some v, none] else [some v]) ++ List.replicate (n - (as.flatMap fun v => if cat2 v = true then [some v, none] else [some v]).length) none
theorem entL_args : ∀ (as : List AV) (pre : List (Option AV)) (post : List (Option AV)), (∀ (j : Nat) (v : AV), post[j]? ≠ some (some v)) → ∀ (j : Nat) (v : AV), pre.length ≤ j → (pre ++ ((as.flatMap fun v => if cat2 v = true then [some v, none] else [some v]) ++ post))[j]? = some (some v) → (j, conc v) ∈ lv_args pre.length (as.map conc) := by
  intro as
  induction as with
  | nil =>
    intro pre post hp j v hj h
    rw [List.getElem?_append_right hj] at h
    exact absurd h (hp _ _)
  | cons a as ih =>
    intro pre post hp j v hj h
    show (j, conc v) ∈ (pre.length, conc a) :: lv_args (if (conc a).category = 2 then pre.length + 2 else pre.length + 1) (as.map conc)
    by_cases c : cat2 a = true
    · have hc : (conc a).category = 2 := by rw [conc_cat, if_pos c]
      rw [if_pos hc]
      simp only [List.flatMap_cons, if_pos c] at h
      by_cases e : j = pre.length
      · subst e
        rw [List.getElem?_append_right (Nat.le_refl _)] at h
        simp at h
        subst h
        exact List.mem_cons_self
      · by_cases e2 : j = pre.length + 1
        · subst e2
          rw [List.getElem?_append_right (by omega)] at h
          simp at h
        · refine List.mem_cons_of_mem _ ?_
          have := ih (pre ++ [some a, none]) post hp j v (by simp; omega) (by simpa using h)
          simpa using this
    · have hc : ¬ (conc a).category = 2 := by rw [conc_cat, if_neg c]; decide
      rw [if_neg hc]
      simp only [List.flatMap_cons, if_neg c] at h
      by_cases e : j = pre.length
      · subst e
        rw [List.getElem?_append_right (Nat.le_refl _)] at h
        simp at h
        subst h
        exact List.mem_cons_self
      · refine List.mem_cons_of_mem _ ?_
        have := ih (pre ++ [some a]) post hp j v (by simp; omega) (by simpa using h)
        simpa using this
theorem lrel.entry {as : List AV} {n : Nat} (h : (lg_sl (as.map conc)).length ≤ n) : lrel n (entL as n) ((lg_sl (as.map conc) ++ List.replicate (n - (lg_sl (as.map conc)).length) Slot.unset).toArray) := by
  have k := lv_entry (as.map conc) h
  refine ⟨k.1, k.2.1, fun q hq => k.2.2 q ?_⟩
  obtain ⟨v, hv, he⟩ := al_mem.mp hq
  have := entL_args as [] (List.replicate (n - (as.flatMap fun v => if cat2 v = true then [some v, none] else [some v]).length) none) (fun j v h => by
    have := List.mem_of_getElem? h
    rw [List.mem_replicate] at this
    cases this.2) q.1 v (Nat.zero_le _) (by simpa [entL] using hv)
  rw [← he] at this
  exact this
