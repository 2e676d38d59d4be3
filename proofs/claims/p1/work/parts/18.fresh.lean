/-! ===== more rows; a fresh object and a fresh reference ===== -/
section HD0
variable {i pc : Nat} {ls : List (Option AV)} {st : List AV} {h : Hp} {Q : Option AV → Hp → Prop} {X : String → Hp → Prop}
theorem wp_dconst0 (hd : decode (mB i) pc = .ok (.dconst 0, 1)) (k : wp i (pc + 1) ls (vD FP.dconst0 :: st) h Q X) : wp i pc ls st h Q X := by
  intro D DA B0 CN CS p l e R s m args below meth c H locs ls' hfl hE
  exact lv_dconst0 hE.1.1 hE.1.2.1 hd (k D DA B0 CN CS p l e R s m args below meth c H locs ls' hfl hE)
theorem wp_dcmp {x y : UInt64} {z : Int} {op : CmpOp} (hd : decode (mB i) pc = .ok (.dcmp op, 1)) (hz : Op.cmpValue (FP.dcmp x y) op = Int32.ofInt z) (k : wp i (pc + 1) ls (vI z :: st) h Q X) : wp i pc ls (vD y :: vD x :: st) h Q X := by
  intro D DA B0 CN CS p l e R s m args below meth c H locs ls' hfl hE
  have kk := k D DA B0 CN CS p l e R s m args below meth c H locs ls' hfl hE
  refine lv_dcmp hE.1.1 hE.1.2.1 hd ?_
  rw [hz]
  exact kk
theorem vand63 (x : Int) : 0 ≤ vand x 63 ∧ vand x 63 ≤ 63 := by
  unfold vand
  have h1 : (Int32.ofInt x &&& Int32.ofInt 63).toInt = ((Int32.ofInt x).toBitVec &&& (63#32)).toInt := rfl
  rw [h1]
  have h2 : ((Int32.ofInt x).toBitVec &&& (63#32)).toNat ≤ 63 := by
    rw [BitVec.toNat_and]
    exact Nat.and_le_right
  rw [BitVec.toInt_eq_toNat_of_lt (by omega)]
  omega
end HD0
/-- what is needed of a fresh object at w -/
def Fr (h : Hp) (w : Nat) : Prop := kd h w = 1 ∧ hr h w 0 = some (w + 1) ∧ hr h w 6 = some (w + 146) ∧ kd h (w + 1) = 9 ∧ (hi h (w + 1) 4 = 0 ∧ hi h (w + 1) 5 = 0 ∧ hi h (w + 1) 6 = 0 ∧ hi h (w + 1) 7 = 0) ∧ (hr h (w + 1) 0 = some (w + 2) ∧ kd h (w + 2) = 100 ∧ ln h (w + 2) = 16) ∧ (hr h (w + 1) 2 = some (w + 4) ∧ kd h (w + 4) = 105 ∧ ln h (w + 4) = 6) ∧ kd h (w + 146) = 8 ∧ hi h (w + 146) 0 = 0
theorem Fr.of {h : Hp} {w : Nat} (q : WsN h w) : Fr h w := by
  obtain ⟨q1, ⟨q2, -, -, -, -, -, q3⟩, ⟨n1, n2, n3, n4, n5, n6, n7, n8, n9, n10⟩, -, -, -, -, -, j⟩ := q
  exact ⟨q1, q2, q3, n1, n6, ⟨n2, n7.1, n7.2.1⟩, ⟨n4, n9.1, n9.2.1⟩, j.1, j.2.2.2.2.2.2.2.2.1.1⟩
theorem Fr.kept {h h' : Hp} {w : Nat} (q : Fr h w) (e : ∀ b, w ≤ b → b < w + 154 → eqA h h' b) : Fr h' w := by
  obtain ⟨q1, q2, q3, q4, ⟨a1, a2, a3, a4⟩, ⟨b1, b2, b3⟩, ⟨c1, c2, c3⟩, q5, q6⟩ := q
  have e0 := e w (by omega) (by omega)
  have e1 := e (w + 1) (by omega) (by omega)
  have e2 := e (w + 2) (by omega) (by omega)
  have e4 := e (w + 4) (by omega) (by omega)
  have ej := e (w + 146) (by omega) (by omega)
  exact ⟨e0.1.trans q1, (e0.2.2.2.1 _).trans q2, (e0.2.2.2.1 _).trans q3, e1.1.trans q4, ⟨(e1.2.2.1 _).trans a1, (e1.2.2.1 _).trans a2, (e1.2.2.1 _).trans a3, (e1.2.2.1 _).trans a4⟩, ⟨(e1.2.2.2.1 _).trans b1, e2.1.trans b2, e2.2.1.trans b3⟩, ⟨(e1.2.2.2.1 _).trans c1, e4.1.trans c2, e4.2.1.trans c3⟩, ej.1.trans q5, (ej.2.2.1 _).trans q6⟩
/-- .. and of a fresh reference at m -/
def MF (h : Hp) (m : Nat) : Prop := kd h m = 2 ∧ (hi h m 1 = 0 ∧ hi h m 7 = 0 ∧ hi h m 12 = 0 ∧ hi h m 23 = -1) ∧ (hr h m 2 = some (m + 1) ∧ kd h (m + 1) = 100 ∧ ln h (m + 1) = 16) ∧ (hr h m 8 = some (m + 5) ∧ kd h (m + 5) = 100 ∧ ln h (m + 5) = 6) ∧ (hr h m 9 = some (m + 6) ∧ kd h (m + 6) = 100 ∧ ln h (m + 6) = 6) ∧ (hr h m 10 = some (m + 7) ∧ kd h (m + 7) = 100 ∧ ln h (m + 7) = 6)
theorem MF.kept {h h' : Hp} {m : Nat} (q : MF h m) (e : ∀ b, m ≤ b → b < m + 126 → eqA h h' b) : MF h' m := by
  obtain ⟨q1, ⟨a1, a2, a3, a4⟩, ⟨b1, b2, b3⟩, ⟨c1, c2, c3⟩, ⟨d1, d2, d3⟩, ⟨f1, f2, f3⟩⟩ := q
  have e0 := e m (by omega) (by omega)
  have g1 := e (m + 1) (by omega) (by omega)
  have g5 := e (m + 5) (by omega) (by omega)
  have g6 := e (m + 6) (by omega) (by omega)
  have g7 := e (m + 7) (by omega) (by omega)
  exact ⟨e0.1.trans q1, ⟨(e0.2.2.1 _).trans a1, (e0.2.2.1 _).trans a2, (e0.2.2.1 _).trans a3, (e0.2.2.1 _).trans a4⟩, ⟨(e0.2.2.2.1 _).trans b1, g1.1.trans b2, g1.2.1.trans b3⟩, ⟨(e0.2.2.2.1 _).trans c1, g5.1.trans c2, g5.2.1.trans c3⟩, ⟨(e0.2.2.2.1 _).trans d1, g6.1.trans d2, g6.2.1.trans d3⟩, ⟨(e0.2.2.2.1 _).trans f1, g7.1.trans f2, g7.2.1.trans f3⟩⟩
/-- the class's side of a call: nothing old changes its kind; behind the object's own cells only o changes -/
def RW (w o : Nat) (h h' : Hp) : Prop := (∀ b, b < nx h → kd h' b = kd h b ∧ ln h' b = ln h b) ∧ ∀ b, b < nx h → (w + 154 ≤ b ∨ b < w) → b ≠ o → eqA h h' b
theorem RW_xh {w o n u : Nat} {h : Hp} : RW w o h (xh h n u) := ⟨fun _ _ => ⟨rfl, rfl⟩, fun _ _ _ _ => eqA.rfl⟩
/-- the reference's side of a call -/
def RM (m : Nat) (k : Int) (h h' : Hp) : Prop := kd h' = kd h ∧ ln h' = ln h ∧ hl h' = hl h ∧ hi h' m 0 = k
theorem eqA_setL {h : Hp} {a b : Nat} {k v : Int} (hb : b ≠ a) : eqA h (setL h a k v) b := ⟨rfl, rfl, fun _ => rfl, fun _ => rfl, fun _ => by rw [hl_setL, up2_ne _ _ (fun q => hb q.1)]⟩
/-! more instructions -/
abbrev inL (x : Int) : Prop := -9223372036854775808 ≤ x ∧ x ≤ 9223372036854775807
theorem l_toInt {x : Int} (h : inL x) : (Int64.ofInt x).toInt = x := Int64.toInt_ofInt_of_le (by omega) (by omega)
theorem l_lt {x y : Int} (hx : inL x) (hy : inL y) : Int64.ofInt x < Int64.ofInt y ↔ x < y := by rw [Int64.lt_iff_toInt_lt, l_toInt hx, l_toInt hy]
theorem l_eq {x y : Int} (hx : inL x) (hy : inL y) : Int64.ofInt x = Int64.ofInt y ↔ x = y := by rw [← Int64.toInt_inj, l_toInt hx, l_toInt hy]
section HF
variable {p : Program} {l : Launch} {e : Env} {R : Room} {s : State} {m : MethodId} {args : Array Value} {below : List Frame} {meth : Method} {c : Code} {H : Heap} {locs : List Loc} {cells slots : Nat} {Q : State → Prop}
theorem lv_lcmp {cc : ByteArray} {pc : Nat} {ls : Array Slot} {rest : List Value} (hexec : p.tables.exec = Jvm.exec) (hb : c.code = cc) {x y : Int64} (hdg : decode cc pc = .ok (.lcmp, 1))
    (k : W p l e R s m args below meth c H locs cells slots Q (F0 m (pc + 1) ls (.int (if x > y then 1 else if x == y then 0 else -1) :: rest))) : W p l e R s m args below meth c H locs cells slots Q (F0 m pc ls (.long y :: .long x :: rest)) := by
  intro T hT X
  obtain ⟨t, a, b⟩ := k T hT X
  refine ⟨t, ?_, b⟩
  jvm_step X.here [X.here.top, hexec, hb, hdg]
  by_cases h1 : x > y
  · simp only [h1, if_true] at a ⊢
    exact a
  · by_cases h2 : x = y
    · simp [h2] at a ⊢
      exact a
    · simp [h1, h2] at a ⊢
      exact a
end HF
section HG
variable {i pc : Nat} {ls : List (Option AV)} {st : List AV} {h : Hp} {Q : Option AV → Hp → Prop} {X : String → Hp → Prop}
theorem wp_lcmp {x y : Int} (hd : decode (mB i) pc = .ok (.lcmp, 1)) (hx : inL x) (hy : inL y) (k : wp i (pc + 1) ls (vI (if y < x then 1 else if x = y then 0 else -1) :: st) h Q X) : wp i pc ls (vL y :: vL x :: st) h Q X := by
  intro D DA B0 CN CS p l e R s m args below meth c H locs ls' hfl hE
  have kk := k D DA B0 CN CS p l e R s m args below meth c H locs ls' hfl hE
  have ev : Int32.ofInt (if y < x then 1 else if x = y then 0 else -1) = (if Int64.ofInt x > Int64.ofInt y then 1 else if Int64.ofInt x == Int64.ofInt y then 0 else -1) := by
    by_cases h1 : y < x
    · rw [if_pos h1, if_pos ((l_lt hy hx).mpr h1)]
      rfl
    · rw [if_neg h1, if_neg (fun z => h1 ((l_lt hy hx).mp z))]
      by_cases h2 : x = y
      · rw [if_pos h2, if_pos (by simp [h2])]
        rfl
      · rw [if_neg h2, if_neg (by simpa using fun z => h2 ((l_eq hx hy).mp z))]
        rfl
  refine lv_lcmp hE.1.1 hE.1.2.1 hd ?_
  rw [← ev]
  exact kk
theorem wp_table {dflt lo hi : Int} {offs : Array Int} {len : Nat} {x : Int} {off : Int} {tgt : Nat} (hd : decode (mB i) pc = .ok (.tableswitch dflt lo hi offs, len)) (hx : inR x) (h1 : lo ≤ x) (h2 : x ≤ hi) (ho : offs[(x - lo).toNat]? = some off) (ht : (pc : Int) + off = (tgt : Int)) (k : wp i tgt ls st h Q X) : wp i pc ls (vI x :: st) h Q X := by
  intro D DA B0 CN CS p l e R s m args below meth c H locs ls' hfl hE
  have kk := k D DA B0 CN CS p l e R s m args below meth c H locs ls' hfl hE
  have e1 := i_toInt hx
  exact lv_tableIn hE.1.1 hE.1.2.1 hd (by rw [e1]; omega) (by rw [e1]; omega) (by rw [e1]; exact ho) ht kk
theorem wp_tableOut {dflt lo hi : Int} {offs : Array Int} {len : Nat} {x : Int} {tgt : Nat} (hd : decode (mB i) pc = .ok (.tableswitch dflt lo hi offs, len)) (hx : inR x) (h1 : x < lo ∨ hi < x) (ht : (pc : Int) + dflt = (tgt : Int)) (k : wp i tgt ls st h Q X) : wp i pc ls (vI x :: st) h Q X := by
  intro D DA B0 CN CS p l e R s m args below meth c H locs ls' hfl hE
  have kk := k D DA B0 CN CS p l e R s m args below meth c H locs ls' hfl hE
  have e1 := i_toInt hx
  exact lv_tableOut hE.1.1 hE.1.2.1 hd (by rw [e1]; exact h1) ht kk
end HG
