/-! ===== THE LOGIC, part 3: fields, arrays, new cells, ends ===== -/
def isI (ty : FieldType) : Bool := match ty with
  | .int => true
  | .boolean => true
  | _ => false
def isJ (ty : FieldType) : Bool := match ty with
  | .long => true
  | _ => false
def isRf (ty : FieldType) : Bool := match ty with
  | .object _ => true
  | .array _ => true
  | _ => false
theorem sv_I {ty : FieldType} (h : isI ty = true) (hp : Hp) (a : Nat) (k : Int) : sv ty hp a k = .int (Int32.ofInt (hi hp a k)) := by
  cases ty <;> first | rfl | cases h
theorem sv_J {ty : FieldType} (h : isJ ty = true) (hp : Hp) (a : Nat) (k : Int) : sv ty hp a k = .long (Int64.ofInt (hl hp a k)) := by
  cases ty <;> first | rfl | cases h
theorem sv_R {ty : FieldType} (h : isRf ty = true) (hp : Hp) (a : Nat) (k : Int) : sv ty hp a k = va_rf (hr hp a k) := by
  cases ty <;> first | rfl | cases h
theorem CL_lt {ci : Nat} {q : vw_C} (h : CL[ci]? = some q) : ci < 99 := Nat.lt_of_lt_of_le (List.getElem?_eq_some_iff.mp h).1 (by decide)
theorem KA_ge : ∀ K ∈ KA, 100 ≤ K ∧ K ≠ 200 := by decide
def flF (ci k : Nat) : Bool := match CL[ci]? with
  | some q => (q.2.1 k).2.2.2
  | none => false
def CLn (ci : Nat) : String := match CL[ci]? with
  | some q => q.1
  | none => ""
theorem okAt.obj {D : va_G} {DA : Nat → ClassId} {s : State} {H : Heap} {h : Hp} {a ci : Nat} (k : okAt D DA s H h a) (hk : kd h a = ci + 1) (hlt : ci < 99) : ∃ q, CL[ci]? = some q ∧ t_OB a (D.1 ci) q.2.2 (D.2 ci) H (fun k => sv (cT (ci + 1) k) h a k) := by
  rcases k with ⟨k1, q, k2, k3⟩ | ⟨k1, -⟩ | ⟨k1, -⟩
  · rw [hk] at k2 k3
    exact ⟨q, k2, k3⟩
  · omega
  · have := KA_ge _ k1
    omega
theorem okAt.arr {D : va_G} {DA : Nat → ClassId} {s : State} {H : Heap} {h : Hp} {a : Nat} (k : okAt D DA s H h a) (hk : 100 ≤ kd h a) (h2 : kd h a ≠ 200) : kd h a ∈ KA ∧ 0 ≤ ln h a ∧ inR (ln h a) ∧ H[a]? = some (arrV (DA (kd h a)) (ln h a).toNat (fun j => sv (AT (kd h a)) h a j)) := by
  rcases k with ⟨k1, -⟩ | ⟨k1, -⟩ | k
  · omega
  · exact absurd k1 h2
  · exact k
section HP
variable {i pc : Nat} {ls : List (Option AV)} {st : List AV} {h : Hp} {Q : Option AV → Hp → Prop} {X : String → Hp → Prop}
variable {D : va_G} {DA : Nat → ClassId} {B0 CN CS : Nat} {p : Program} {l : Launch} {e : Env} {R : Room} {s : State} {m : MethodId} {args : Array Value} {below : List Frame} {meth : Method} {c : Code} {H : Heap} {locs : List Loc} {ls' : Array Slot} {cells slots : Nat} {Z : State → Prop}
theorem W_getf {a idx ci k : Nat} {st' : List Value} (hE : En i D DA B0 CN CS p R s m meth c H locs ls' ls h) (hf : flP (mY i).cls idx ci k) (hd : decode (mB i) pc = .ok (.getfield idx, 3)) (hk : kd h a = ci + 1)
    (kk : W p l e R s m args below meth c H locs cells slots Z (F0 m (pc + 3) ls' (sv (cT (ci + 1) k) h a k :: st'))) : W p l e R s m args below meth c H locs cells slots Z (F0 m pc ls' (.ref a :: st')) := by
  obtain ⟨q, hc, hkn, hw⟩ := hf
  obtain ⟨⟨hx, hb, -, -, -, hown, -, hok, hK, -⟩, hrep, -⟩ := hE
  obtain ⟨q', hc', cell, q1, q2, q3, q4⟩ := (hrep.2.2.2.2.2.2.2.2 a (by omega)).2.obj hk (CL_lt hc)
  cases hc.symm.trans hc'
  obtain ⟨hS, hfc, kC, hkC, hkind⟩ := hK.1 ci _ hc
  obtain ⟨c1, c2, c3, c4⟩ := CL_ok ci _ hc
  obtain ⟨cf, kf, fi, f, hi, hsl⟩ := hS k hkn
  have hts : ∀ w ∈ u_ws q.1 q.2.1 q.2.2, w.before args s = true := fun w h => hok w (c1 w h) _
  have hst := (u_facts hfc hkC (u_lays hts (fun _ h => h) hkn) hi).1
  rw [c4 k] at hi
  refine W.getf hx hb hown (hok _ hw _) hi hst q1 (by rw [q3]; exact fun h => by cases h) (v := sv (cT (ci + 1) k) h a k) ?_ rfl rfl hd kk
  rw [hsl, q4 k hkn]
theorem okAt.set1 {a : Nat} {ci k : Nat} {q : vw_C} {h1 : Hp} {cell : Cell} {v : Value} {H1 : Heap} (hc : CL[ci]? = some q) (hk : kd h a = ci + 1) (hk1 : kd h1 a = kd h a) (q2 : cell.cls = D.1 ci) (q3 : cell.vm = .none) (q4 : ∀ k, k < q.2.2 → cell.slots[D.2 ci k]? = some (sv (cT (ci + 1) k) h a k)) (hap : ∀ a b, a < q.2.2 → b < q.2.2 → a ≠ b → D.2 ci a ≠ D.2 ci b) (hkn : k < q.2.2)
    (e1 : H1[a]? = some (cell.setSlot (D.2 ci k) v)) (hv : sv (cT (ci + 1) k) h1 a k = v) (ho : ∀ j : Nat, j ≠ k → sv (cT (ci + 1) j) h1 a j = sv (cT (ci + 1) j) h a j) : okAt D DA s H1 h1 a := by
  refine Or.inl ⟨by rw [hk1, hk]; have := CL_lt hc; omega, q, ?_, ?_⟩
  · rw [hk1, hk]; exact hc
  · rw [hk1, hk]
    refine t_OB.to (V := updV (fun k => sv (cT (ci + 1) k) h a k) k v) ⟨_, e1, q2, q3, t_set q4 hap hkn v⟩ (fun j _ => ?_)
    by_cases hj : j = k
    · subst hj
      simp [updV, hv]
    · simp only [updV, if_neg hj]
      exact (ho j hj).symm
theorem rep.put {a : Nat} {H1 : Heap} {h1 : Hp} {x : Cell} (hrep : rep D DA B0 CN CS s H h) (ha : kd h a ≠ 0) (hx : H1[a]? = some x) (hs : ∀ c : Cell, H[a]? = some c → x.slots.size = c.slots.size) (hz : H1.size = H.size) (ho : ∀ q : Nat, q ≠ a → H1[q]? = H[q]?)
    (g1 : kd h1 = kd h) (g2 : ln h1 = ln h) (g3 : nx h1 = nx h) (g4 : us h1 = us h) (g5 : cn h1 = cn h) (g6 : cs h1 = cs h) (g7 : ∀ a k, inR (hi h1 a k)) (g8 : ∀ b, b ≠ a → ∀ j, hi h1 b j = hi h b j ∧ hr h1 b j = hr h b j ∧ hl h1 b j = hl h b j) (g9 : okAt D DA s H1 h1 a) : rep D DA B0 CN CS s H1 h1 := by
  obtain ⟨k1, k2, k3, k4, k5, k6, k7, k8, k9⟩ := hrep
  refine ⟨by rw [hz, g3]; exact k1, by rw [ssum_set hz ho hx hs, g4]; exact k2, by rw [g5]; exact k3, by rw [g6]; exact k4, by rw [g3]; exact k5, by rw [g4]; exact k6, by rw [g3]; exact k7, g7, fun b hb => ?_⟩
  rw [g1] at hb ⊢
  refine ⟨(k9 b hb).1, ?_⟩
  by_cases hba : b = a
  · subst hba; exact g9
  · exact (k9 b hb).2.kept (ho b hba) (by rw [g1]) (by rw [g2]) (fun j => (g8 b hba j).1) (fun j => (g8 b hba j).2.1) (fun j => (g8 b hba j).2.2)
/-- a value written to a field -/
theorem W_putf {a idx ci k : Nat} {v : Value} {h1 : Hp} {st' : List Value} (hE : En i D DA B0 CN CS p R s m meth c H locs ls' ls h) (hf : flP (mY i).cls idx ci k) (hd : decode (mB i) pc = .ok (.putfield idx, 3)) (hk : kd h a = ci + 1)
    (hfin : flF ci k = false ∨ (flF ci k = true ∧ (mY i).name = "<init>" ∧ CLn ci = (mY i).cls)) (hn : narrow (cT (ci + 1) k) v = v) (hfit : fits (cT (ci + 1) k) v = true)
    (g1 : kd h1 = kd h) (g2 : ln h1 = ln h) (g3 : nx h1 = nx h) (g4 : us h1 = us h) (g5 : cn h1 = cn h) (g6 : cs h1 = cs h) (g7 : ∀ a k, inR (hi h1 a k)) (g8 : ∀ b, b ≠ a → ∀ j, hi h1 b j = hi h b j ∧ hr h1 b j = hr h b j ∧ hl h1 b j = hl h b j)
    (hv : sv (cT (ci + 1) k) h1 a k = v) (ho : ∀ j : Nat, j ≠ k → sv (cT (ci + 1) j) h1 a j = sv (cT (ci + 1) j) h a j)
    (kk : ∀ (H1 : Heap) (locs1 : List Loc), En i D DA B0 CN CS p R s m meth c H1 locs1 ls' ls h1 → W p l e R s m args below meth c H1 locs1 (H1.size - s.heap.size) (ssum H1 - ssum s.heap) Z (F0 m (pc + 3) ls' st')) : W p l e R s m args below meth c H locs cells slots Z (F0 m pc ls' (v :: .ref a :: st')) := by
  obtain ⟨q, hc, hkn, hw⟩ := hf
  have hE0 := hE
  obtain ⟨⟨hx, hb, -, -, -, hown, hname, hok, hK, -⟩, hrep, -, hloc, hsz, hss, -⟩ := hE
  have hka : kd h a ≠ 0 := by omega
  have hoka := hrep.2.2.2.2.2.2.2.2 a hka
  obtain ⟨q', hc', cell, q1, q2, q3, q4⟩ := hoka.2.obj hk (CL_lt hc)
  cases hc.symm.trans hc'
  obtain ⟨hS, hfc, kC, hkC, hkind⟩ := hK.1 ci _ hc
  obtain ⟨c1, c2, c3, c4⟩ := CL_ok ci _ hc
  have hts : ∀ w ∈ u_ws q.1 q.2.1 q.2.2, w.before args s = true := fun w h => hok w (c1 w h) _
  have hap := va_apart (own := q.1) (args := args) hts (fun _ h => h) (cT (ci + 1)) c3 c2 hK hc
  obtain ⟨cf, kf, fi, f, hi9, hsl⟩ := hS k hkn
  have hlay := hts _ (u_in_lay hkn)
  have hst := (u_facts hfc hkC (u_lays hts (fun _ h => h) hkn) hi9).1
  have hB : B0 ≤ a := by
    rcases hoka.1 with h2 | h2
    · have := CL_lt hc; omega
    · exact h2
  have fin : ∀ H1 : Heap, H1[a]? = some (cell.setSlot (D.2 ci k) v) → H1.size = H.size → (∀ q, q ≠ a → H1[q]? = H[q]?) → W p l e R s m args below meth c H1 (locs ++ [⟨a, D.2 ci k⟩]) cells slots Z (F0 m (pc + 3) ls' st') := by
    intro H1 e1 z1 o1
    have hsame : ∀ c : Cell, H[a]? = some c → (cell.setSlot (D.2 ci k) v).slots.size = c.slots.size := fun c hc => by
      rw [q1] at hc
      cases hc
      simp [Cell.setSlot]
    refine W_tight (kk H1 _ ⟨hE0.1, ?_, hE0.2.2.1, ?_, by rw [z1]; exact hsz, by rw [ssum_set z1 o1 e1 hsame]; exact hss, hE0.2.2.2.2.2.2⟩)
    · exact hrep.put hka e1 hsame z1 o1 g1 g2 g3 g4 g5 g6 g7 g8 (okAt.set1 hc hk (by rw [g1]) q2 q3 q4 (fun x y hx hy hne => hap x y hx hy hne) hkn e1 hv ho)
    · intro z hz
      rcases List.mem_append.mp hz with h | h
      · exact hloc z h
      · have := List.mem_singleton.mp h
        rw [this]
        exact hB
  rw [c4 k] at hi9
  have hd9 := c3 k hkn
  rcases hfin with hf | ⟨hf, hini, hcls⟩
  · have hf2 : (q.2.1 k).2.2.2 = false := by
      unfold flF at hf
      rw [hc] at hf
      exact hf
    unfold u_lay at hlay
    rw [if_neg (by rw [hf2]; decide), c4 k] at hlay
    have h6 := u_store hfc hkC hkind hlay hi9 hd9 hn hfit
    refine W.putK hx hb (f := f) ⟨hown, hok _ hw _, ⟨_, _, _, hi9⟩, hst⟩ (by rw [q2]; exact h6) q1 q3 (by rw [hsl]; exact k2_hasslot (q4 k hkn)) rfl rfl hd fun H' e1 e2 e3 => ?_
    rw [hsl] at e1 ⊢
    exact fin H' e1 e2 e3
  · have hf2 : (q.2.1 k).2.2.2 = true := by
      unfold flF at hf
      rw [hc] at hf
      exact hf
    unfold u_lay at hlay
    rw [if_pos hf2, c4 k] at hlay
    have hcf : m.cls = cf := by
      obtain ⟨_, _, c', _, _, _, -, -, hf', -, -, -, hown2, -⟩ := Cond.laysFinal_spec hlay
      have e1 : c' = cf := by have := hi9.symm.trans hf'; simp at this; exact this.1.symm
      have e2 : q.1 = (mY i).cls := by
        unfold CLn at hcls
        rw [hc] at hcls
        exact hcls
      rw [e2] at hown2
      rw [← e1]; exact Option.some.inj (hown.symm.trans hown2)
    have h6 := u_fits hfc hkC hkind (Or.inr hlay) hi9 hd9 hn hfit
    refine W.putFinK hx hb hown (hok _ hw _) hi9 hst hcf (hname.trans hini) (by rw [q2]; exact h6) q1 q3 (by rw [hsl]; exact k2_hasslot (q4 k hkn)) rfl rfl hd fun H' e1 e2 e3 => ?_
    rw [hsl] at e1 ⊢
    exact fin H' e1 e2 e3
end HP
section HQ
variable {i pc : Nat} {ls : List (Option AV)} {st : List AV} {h : Hp} {Q : Option AV → Hp → Prop} {X : String → Hp → Prop}
theorem wp_getI {idx ci k a : Nat} (kz : Int) (hd : decode (mB i) pc = .ok (.getfield idx, 3)) (hf : flP (mY i).cls idx ci k) (hz : (k : Int) = kz) (ht : isI (cT (ci + 1) k) = true) (hk : kd h a = ci + 1) (kk : ∀ x, x = hi h a kz → inR x → wp i (pc + 3) ls (vI x :: st) h Q X) : wp i pc ls (vR (some a) :: st) h Q X := by
  intro D DA B0 CN CS p l e R s m args below meth c H locs ls' hfl hE
  refine W_getf hE hf hd hk ?_
  rw [sv_I ht, hz]
  exact kk _ rfl (hE.2.1.2.2.2.2.2.2.2.1 _ _) D DA B0 CN CS p l e R s m args below meth c H locs ls' hfl hE
theorem wp_getR {idx ci k a : Nat} (kz : Int) (hd : decode (mB i) pc = .ok (.getfield idx, 3)) (hf : flP (mY i).cls idx ci k) (hz : (k : Int) = kz) (ht : isRf (cT (ci + 1) k) = true) (hk : kd h a = ci + 1) {v : Option Nat} (hv : hr h a kz = v) (kk : wp i (pc + 3) ls (vR v :: st) h Q X) : wp i pc ls (vR (some a) :: st) h Q X := by
  subst hv
  intro D DA B0 CN CS p l e R s m args below meth c H locs ls' hfl hE
  refine W_getf hE hf hd hk ?_
  rw [sv_R ht, hz]
  exact kk D DA B0 CN CS p l e R s m args below meth c H locs ls' hfl hE
theorem wp_getL {idx ci k a : Nat} (kz : Int) (hd : decode (mB i) pc = .ok (.getfield idx, 3)) (hf : flP (mY i).cls idx ci k) (hz : (k : Int) = kz) (ht : isJ (cT (ci + 1) k) = true) (hk : kd h a = ci + 1) (kk : wp i (pc + 3) ls (vL (hl h a kz) :: st) h Q X) : wp i pc ls (vR (some a) :: st) h Q X := by
  intro D DA B0 CN CS p l e R s m args below meth c H locs ls' hfl hE
  refine W_getf hE hf hd hk ?_
  rw [sv_J ht, hz]
  exact kk D DA B0 CN CS p l e R s m args below meth c H locs ls' hfl hE
theorem fit_I {ty : FieldType} {v : Int} (ht : isI ty = true) (hv : ty = .boolean → v = 0 ∨ v = 1) : narrow ty (.int (Int32.ofInt v)) = .int (Int32.ofInt v) ∧ fits ty (.int (Int32.ofInt v)) = true := by
  cases ty with
  | int => exact ⟨rfl, rfl⟩
  | boolean => rcases hv rfl with rfl | rfl <;> decide
  | _ => cases ht
theorem fit_R {ty : FieldType} {v : Option Nat} (ht : isRf ty = true) : narrow ty (va_rf v) = va_rf v ∧ fits ty (va_rf v) = true := by
  cases ty with
  | object n => cases v <;> exact ⟨rfl, rfl⟩
  | array n => cases v <;> exact ⟨rfl, rfl⟩
  | _ => cases ht
theorem hi_ne {a b : Nat} {k j v : Int} (hb : b ≠ a ∨ j ≠ k) : hi (setI h a k v) b j = hi h b j := by
  rw [hi_setI, up2_ne]
  rintro ⟨e1, e2⟩
  rcases hb with z | z
  · exact z e1
  · exact z e2
theorem wp_putI {idx ci k a : Nat} {v : Int} (kz : Int) (hd : decode (mB i) pc = .ok (.putfield idx, 3)) (hf : flP (mY i).cls idx ci k) (hz : (k : Int) = kz) (ht : isI (cT (ci + 1) k) = true) (hfin : flF ci k = false ∨ (flF ci k = true ∧ (mY i).name = "<init>" ∧ CLn ci = (mY i).cls)) (hk : kd h a = ci + 1) (hv : inR v) (hbo : cT (ci + 1) k = .boolean → v = 0 ∨ v = 1)
    (kk : wp i (pc + 3) ls st (setI h a kz v) Q X) : wp i pc ls (vI v :: vR (some a) :: st) h Q X := by
  intro D DA B0 CN CS p l e R s m args below meth c H locs ls' hfl hE
  subst hz
  have hin := hE.2.1.2.2.2.2.2.2.2.1
  refine W_putf (h1 := setI h a k v) hE hf hd hk hfin (fit_I ht hbo).1 (fit_I ht hbo).2 rfl rfl rfl rfl rfl rfl (fun b j => ?_) (fun b hb j => ⟨hi_ne (Or.inl hb), rfl, rfl⟩) ?_ (fun j hj => ?_) (fun H1 locs1 hE1 => kk D DA B0 CN CS p l e R s m args below meth c H1 locs1 ls' hfl hE1)
  · rw [hi_setI]
    unfold up2
    split
    · exact hv
    · exact hin b j
  · rw [sv_I ht, hi_setI, up2_same]
    rfl
  · unfold sv
    rw [hi_ne (Or.inr (by omega))]
    rfl
theorem wp_putR {idx ci k a : Nat} {v : Option Nat} (kz : Int) (hd : decode (mB i) pc = .ok (.putfield idx, 3)) (hf : flP (mY i).cls idx ci k) (hz : (k : Int) = kz) (ht : isRf (cT (ci + 1) k) = true) (hfin : flF ci k = false ∨ (flF ci k = true ∧ (mY i).name = "<init>" ∧ CLn ci = (mY i).cls)) (hk : kd h a = ci + 1)
    (kk : wp i (pc + 3) ls st (setR h a kz v) Q X) : wp i pc ls (vR v :: vR (some a) :: st) h Q X := by
  intro D DA B0 CN CS p l e R s m args below meth c H locs ls' hfl hE
  subst hz
  have hin := hE.2.1.2.2.2.2.2.2.2.1
  refine W_putf (h1 := setR h a k v) hE hf hd hk hfin (fit_R ht).1 (fit_R ht).2 rfl rfl rfl rfl rfl rfl hin (fun b hb j => ⟨rfl, ?_, rfl⟩) ?_ (fun j hj => ?_) (fun H1 locs1 hE1 => kk D DA B0 CN CS p l e R s m args below meth c H1 locs1 ls' hfl hE1)
  · rw [hr_setR, up2_ne]
    exact fun q => hb q.1
  · rw [sv_R ht, hr_setR, up2_same]
    rfl
  · unfold sv
    rw [hr_setR, up2_ne _ _ (fun q => hj (by omega))]
    rfl
/-! arrays -/
theorem arr_in {x n : Int} (hx : inR x) (h0 : 0 ≤ x) (h1 : x < n) : ¬ (Int32.ofInt x < 0 ∨ n.toNat ≤ (Int32.ofInt x).toNatClampNeg) := by
  rw [i_clamp hx, i_neg hx]
  omega
theorem wp_alen {a : Nat} (hd : decode (mB i) pc = .ok (.arraylength, 1)) (hk : 100 ≤ kd h a) (kk : wp i (pc + 1) ls (vI (ln h a) :: st) h Q X) : wp i pc ls (vR (some a) :: st) h Q X := by
  intro D DA B0 CN CS p l e R s m args below meth c H locs ls' hfl hE
  have k := kk D DA B0 CN CS p l e R s m args below meth c H locs ls' hfl hE
  have hoka := (hE.2.1.2.2.2.2.2.2.2.2 a (by omega)).2
  by_cases h2 : kd h a = 200
  · rcases hoka with ⟨k1, -⟩ | ⟨k1, k4, cell, k2, k3, k5, k6, k7⟩ | ⟨k1, -⟩
    · omega
    · refine W.alen hE.1.1 hE.1.2.1 k2 k3 (n := Int32.ofInt (ln h a)) ?_ rfl rfl hd k
      rw [← k6]
      rfl
    · exact absurd h2 (KA_ge _ k1).2
  · obtain ⟨k1, k2, k3, k4⟩ := hoka.arr hk h2
    refine W.alen hE.1.1 hE.1.2.1 k4 ((hE.1.2.2.2.2.2.2.2.2.2.1 _ k1).1 _ _) (n := Int32.ofInt (ln h a)) ?_ rfl rfl hd k
    rw [arrV_size]
    have : ((ln h a).toNat : Int) = ln h a := Int.toNat_of_nonneg k2
    rw [← this]
    rfl
theorem wp_iald {a : Nat} {x : Int} (hd : decode (mB i) pc = .ok (.iaload, 1)) (hk : kd h a = 100 ∨ kd h a = 200) (h0 : 0 ≤ x) (h1 : x < ln h a) (kk : ∀ y, y = hi h a x → inR y → wp i (pc + 1) ls (vI y :: st) h Q X) : wp i pc ls (vI x :: vR (some a) :: st) h Q X := by
  intro D DA B0 CN CS p l e R s m args below meth c H locs ls' hfl hE
  have k := kk _ rfl (hE.2.1.2.2.2.2.2.2.2.1 _ _) D DA B0 CN CS p l e R s m args below meth c H locs ls' hfl hE
  have hoka := (hE.2.1.2.2.2.2.2.2.2.2 a (by omega)).2
  have ht : (x.toNat : Int) = x := Int.toNat_of_nonneg h0
  rcases hk with hk | hk
  · obtain ⟨k1, k2, k3, k4⟩ := hoka.arr (by omega) (by omega)
    have hx : inR x := ⟨by omega, by have := k3.2; omega⟩
    rw [hk] at k4 k1
    refine W.iald hE.1.1 hE.1.2.1 k4 ((hE.1.2.2.2.2.2.2.2.2.2.1 _ k1).1 _ _) (fun q => by cases q) (by rw [arrV_size]; exact arr_in hx h0 h1) (v := .int (Int32.ofInt (hi h a x))) ?_ rfl rfl hd k
    rw [i_clamp hx, arrV_read _ _ (by omega), ht]
    rfl
  · rcases hoka with ⟨k1, -⟩ | ⟨k1, k4, cell, k2, k3, k5, k6, k7⟩ | ⟨k1, -⟩
    · omega
    · have hx : inR x := ⟨by omega, by have := k4.2; omega⟩
      have hsz : cell.slots.size = (ln h a).toNat := by omega
      refine W.iald hE.1.1 hE.1.2.1 k2 k3 k5 (by rw [hsz]; exact arr_in hx h0 h1) (v := .int (Int32.ofInt (hi h a x))) ?_ rfl rfl hd k
      rw [i_clamp hx, k7 _ (by omega), ht]
    · exact absurd hk (KA_ge _ k1).2
theorem wp_aald {a : Nat} {x : Int} (hd : decode (mB i) pc = .ok (.aaload, 1)) (hk : 100 ≤ kd h a) (h2 : kd h a ≠ 200) (hty : isRf (AT (kd h a)) = true) (h0 : 0 ≤ x) (h1 : x < ln h a) {v : Option Nat} (hv : hr h a x = v) (kk : wp i (pc + 1) ls (vR v :: st) h Q X) : wp i pc ls (vI x :: vR (some a) :: st) h Q X := by
  subst hv
  intro D DA B0 CN CS p l e R s m args below meth c H locs ls' hfl hE
  have k := kk D DA B0 CN CS p l e R s m args below meth c H locs ls' hfl hE
  have hoka := (hE.2.1.2.2.2.2.2.2.2.2 a (by omega)).2
  have ht : (x.toNat : Int) = x := Int.toNat_of_nonneg h0
  obtain ⟨k1, k2, k3, k4⟩ := hoka.arr hk h2
  have hx : inR x := ⟨by omega, by have := k3.2; omega⟩
  refine W.aald hE.1.1 hE.1.2.1 k4 ((hE.1.2.2.2.2.2.2.2.2.2.1 _ k1).1 _ _) (by revert hty; cases AT (kd h a) <;> intro q <;> first | rfl | cases q) (fun q => by cases q) (by rw [arrV_size]; exact arr_in hx h0 h1) (v := va_rf (hr h a x)) ?_ rfl rfl hd k
  rw [i_clamp hx, arrV_read _ _ (by omega), ht, sv_R hty]
end HQ
/-- the whole numbers replaced -/
def wI (h : Hp) (f : Nat → Int → Int) : Hp := (kd h, ln h, f, hr h, hl h, nx h, us h, cn h, cs h)
theorem kd_wI (h : Hp) (f : Nat → Int → Int) : kd (wI h f) = kd h := rfl
theorem ln_wI (h : Hp) (f : Nat → Int → Int) : ln (wI h f) = ln h := rfl
theorem hi_wI (h : Hp) (f : Nat → Int → Int) : hi (wI h f) = f := rfl
theorem hr_wI (h : Hp) (f : Nat → Int → Int) : hr (wI h f) = hr h := rfl
theorem hl_wI (h : Hp) (f : Nat → Int → Int) : hl (wI h f) = hl h := rfl
theorem nx_wI (h : Hp) (f : Nat → Int → Int) : nx (wI h f) = nx h := rfl
theorem us_wI (h : Hp) (f : Nat → Int → Int) : us (wI h f) = us h := rfl
theorem cn_wI (h : Hp) (f : Nat → Int → Int) : cn (wI h f) = cn h := rfl
theorem cs_wI (h : Hp) (f : Nat → Int → Int) : cs (wI h f) = cs h := rfl
def ksub : List (Option AV) → List (Option AV) → Prop := fun L ls => match L, ls with
  | [], _ => True
  | none :: L, _ :: ls => ksub L ls
  | some v :: L, x :: ls => x = some v ∧ ksub L ls
  | _ :: _, [] => False
theorem ksub_at : ∀ (L ls : List (Option AV)), ksub L ls → ∀ (j : Nat) (v : AV), L[j]? = some (some v) → ls[j]? = some (some v)
  | [], _, _, j, v, h => by simp at h
  | none :: L, x :: ls, k, 0, v, h => by simp at h
  | none :: L, x :: ls, k, j + 1, v, h => ksub_at L ls k j v h
  | some u :: L, x :: ls, k, 0, v, h => by
    have h2 : u = v := by simpa using h
    have k1 : x = some u := k.1
    rw [k1, h2]
    rfl
  | some u :: L, x :: ls, k, j + 1, v, h => ksub_at L ls k.2 j v h
  | none :: L, [], k, _, _, _ => absurd k id
  | some u :: L, [], k, _, _, _ => absurd k id
theorem wp_to {i pc : Nat} {ls : List (Option AV)} {st : List AV} {h : Hp} {Q : Option AV → Hp → Prop} {X : String → Hp → Prop} (L : List (Option AV)) (hk : ksub L ls) (k : wp i pc L st h Q X) : wp i pc ls st h Q X := wp_ls (ksub_at L ls hk) k
abbrev noX : String → Hp → Prop := fun _ _ => False
