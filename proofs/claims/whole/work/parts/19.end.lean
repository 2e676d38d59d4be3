/-! ===== the start of the law ===== -/
theorem okS_start {s : State} {b : Nat} (hts : ∀ w ∈ lw_tbl, w.before #[Value.ref b] s = true) : okS s := by
  intro w hw a'
  have hb := hts w hw.1
  obtain ⟨-, hm⟩ := hw
  have hW : s.WarmedH s.vm := State.WarmedH.refl s
  unfold mw at hm
  split at hm
  · exact va_Nw.use rfl (va_Nw.warmM hW hb)
  · exact va_AO.use (va_AO.moved hW.alike hb)
  · exact ao_moved hW.alike hb
  · exact word_at hW (good_of_word hm) hb
set_option maxRecDepth 100000 in
theorem CL_in : ∀ (c : Nat) (q : vw_C), CL[c]? = some q → okw (.instantiable q.1 q.2.2) := by
  intro c q h
  match c, h with
  | 0, h => cases h; exact ci0.1
  | 1, h => cases h; exact ci1.1
  | 2, h => cases h; exact ci2.1
  | 3, h => cases h; exact ci3.1
  | 4, h => cases h; exact ci4.1
  | 5, h => cases h; exact ci5.1
  | 6, h => cases h; exact ci6.1
  | 7, h => cases h; exact ci7.1
  | 8, h => cases h; exact ci8.1
  | 9, h => cases h; exact ci9.1
  | 10, h => cases h; exact ci10.1
  | 11, h => cases h; exact ci11.1
  | 12, h => cases h; exact ci12.1
  | c + 13, h => simp [CL] at h
theorem start_K {s : State} (hok : okS s) : ∃ D : va_G, va_K D CL [] s := by
  have h : ∀ c : Nat, ∃ d : ClassId × (Nat → Nat), ∀ q : vw_C, CL[c]? = some q → u_Kn s q.1 q.2.1 q.2.2 d.1 d.2 := by
    intro c
    cases hq : CL[c]? with
    | none => exact ⟨(0, fun _ => 0), fun q h => by cases h⟩
    | some q =>
      obtain ⟨cC, iS, hk⟩ := u_known (ws := u_ws q.1 q.2.1 q.2.2) (s := s) (args := #[]) (fun w hw => hok w ((CL_ok c q hq).1 w hw) _) (fun w hw => hw) (hok _ (CL_in c q hq) _)
      exact ⟨(cC, iS), fun q' h => by cases h; exact hk⟩
  exact ⟨(fun c => (Classical.choose (h c)).1, fun c => (Classical.choose (h c)).2), fun c q hq => Classical.choose_spec (h c) q hq, fun k q h => by simp at h⟩
theorem start_A {s : State} (hok : okS s) : ∃ DA : Nat → ClassId, ∀ K ∈ KA, arrF s (DA K) (AT K) := by
  have prim : ∀ K, okw (.arrayClass (AT K)) → (∀ C, AT K ≠ .object C) → (∀ t, AT K ≠ .array t) → ∃ cA, arrF s cA (AT K) := by
    intro K hw h1 h2
    obtain ⟨c, k, comp, f1, f2, f3⟩ := Cond.arrayClass_spec (hok _ hw #[])
    exact ⟨c, fun n z => ⟨(fun k h => by cases h), k, f2, comp, f3⟩, k, comp, f2, f3, f1, fun C e => absurd e (h1 C), fun t e => absurd e (h2 t)⟩
  have obj : ∀ (K : Nat) (C : String), AT K = .object C → okw (.arrayOver (.object C)) → ∃ cA, arrF s cA (AT K) := by
    intro K C e hw
    obtain ⟨comp, c, k, f1, f2, f3, f4, f5⟩ := Cond.arrayOver_spec (hok _ hw #[])
    rw [e]
    exact ⟨c, fun n z => ⟨(fun k h => by cases h), k, f3, comp, f4⟩, k, comp, f3, f4, f5, fun C' e' => by cases e'; exact f1, fun t e' => by cases e'⟩
  have arr : ∀ (K : Nat) (t : FieldType), AT K = .array t → okw (.arrayOver (.array t)) → ∃ cA, arrF s cA (AT K) := by
    intro K t e hw
    obtain ⟨comp, c, k, f1, f3, f4, f5⟩ := Cond.arrayOver_specA (hok _ hw #[])
    rw [e]
    exact ⟨c, fun n z => ⟨(fun k h => by cases h), k, f3, comp, f4⟩, k, comp, f3, f4, f5, fun C' e' => by cases e', fun t' e' => by cases e'; exact f1⟩
  have h : ∀ K : Nat, ∃ cA, K ∈ KA → arrF s cA (AT K) := by
    intro K
    by_cases hK : K ∈ KA
    · have : K = 100 ∨ K = 101 ∨ K = 103 ∨ K = 104 ∨ K = 105 ∨ K = 106 ∨ K = 107 := by simpa [KA] using hK
      have g : ∃ cA, arrF s cA (AT K) := by
        rcases this with rfl | rfl | rfl | rfl | rfl | rfl | rfl
        · exact prim 100 ca_100 (fun C h => by cases h) (fun t h => by cases h)
        · exact prim 101 ca_101 (fun C h => by cases h) (fun t h => by cases h)
        · exact arr 103 _ rfl ca_103
        · exact obj 104 _ rfl ca_104
        · exact obj 105 _ rfl ca_105
        · exact obj 106 _ rfl ca_106
        · exact obj 107 _ rfl ca_107
      obtain ⟨cA, g⟩ := g
      exact ⟨cA, fun _ => g⟩
    · exact ⟨0, fun z => absurd z hK⟩
  exact ⟨fun K => Classical.choose (h K), fun K hK => Classical.choose_spec (h K) hK⟩
/-- the picture of the heap at the law's entry: the script alone -/
def hp0 (H : Heap) (b L : Nat) (xs : Nat → Int32) (cells slots : Nat) : Hp := (fun a => if a = b then 200 else 0, fun _ => (L : Int), fun _ k => (xs k.toNat).toInt, fun _ _ => none, fun _ _ => 0, H.size, ssum H, H.size + cells, ssum H + slots)
theorem rep0 {D : va_G} {DA : Nat → ClassId} {s : State} {b L : Nat} {xs : Nat → Int32} {cells slots : Nat} (hX : va_X b L xs s s.heap) (hL : L ≤ 100000) : rep D DA s.heap.size (s.heap.size + cells) (ssum s.heap + slots) s s.heap (hp0 s.heap b L xs cells slots) := by
  obtain ⟨scr, hcb, hof, hkn, hsz, hval⟩ := hX
  refine ⟨rfl, rfl, rfl, rfl, Nat.le_add_right _ _, Nat.le_add_right _ _, Nat.le_refl _, fun a k => ?_, fun a ha => ?_⟩
  · show inR ((xs k.toNat).toInt)
    have h1 := Int32.le_toInt (xs k.toNat)
    have h2 := Int32.toInt_lt (xs k.toNat)
    omega
  · have e : a = b := by
      apply Classical.byContradiction
      intro q
      exact ha (if_neg q)
    subst e
    have k2 : kd (hp0 s.heap a L xs cells slots) a = 200 := if_pos rfl
    refine ⟨Or.inl k2, Or.inr (Or.inl ⟨k2, ?_, scr, hcb, hof, hkn, ?_, fun j hj => ?_⟩)⟩
    · show inR (L : Int)
      omega
    · show (scr.slots.size : Int) = (L : Int)
      omega
    · have hv := hval j (by omega)
      rw [hv]
      show some (Value.int (xs j)) = some (Value.int (Int32.ofInt ((xs ((j : Int)).toNat).toInt)))
      rw [Int.toNat_natCast, Int32.ofInt_toInt]
