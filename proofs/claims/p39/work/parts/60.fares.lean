/-! ===== the search for the least price: its cells ===== -/
def ofK (w k : Nat) : Nat := w + 50 + 3 * k
/-- how long the rows of times are, all together -/
def sL (h : Hp) (w : Nat) : Nat → Int
  | 0 => 0
  | k + 1 => sL h w k + ln h (tAr h (ofK w k))
def Rg (w X b : Nat) : Prop := (w + 50 ≤ b ∧ b ≤ w + 145) ∨ X ≤ b
/-- the structure; g tells which row is the one before; A cells and B slots are left beside what the rows can grow by -/
def FaS (h : Hp) (w X g A B : Nat) : Prop :=
  (g ≤ 1 ∧ kd h (w + 47) = 5 ∧ hr h (w + 47) 0 = some (w + 48 + g) ∧ hr h (w + 47) 1 = some (w + 49 - g)) ∧
  ((kd h (w + 48) = 107 ∧ ln h (w + 48) = 16) ∧ kd h (w + 49) = 107 ∧ ln h (w + 49) = 16) ∧
  (∀ s : Nat, s < 16 → hr h (w + 48) (s : Int) = some (ofK w (2 * s)) ∧ hr h (w + 49) (s : Int) = some (ofK w (2 * s + 1))) ∧
  (∀ k, k < 32 → OfS h (ofK w k) ∧ Rg w X (tAr h (ofK w k)) ∧ Rg w X (pAr h (ofK w k))) ∧
  (∀ k j, k < 32 → j < 32 → k ≠ j → tAr h (ofK w k) ≠ tAr h (ofK w j) ∧ tAr h (ofK w k) ≠ pAr h (ofK w j) ∧ pAr h (ofK w k) ≠ pAr h (ofK w j)) ∧
  (9 * ((nx h : Int) + A) + 184448 ≤ 9 * cn h + sL h w 32 ∧ (us h : Int) + B + 737792 ≤ cs h + 4 * sL h w 32) ∧ w + 154 ≤ X ∧ X ≤ nx h
def PFa (w X : Nat) : Nat → Prop := fun b => (w + 47 ≤ b ∧ b ≤ w + 145) ∨ X ≤ b
theorem PFaoff {w X : Nat} : Off w X (PFa w X) (PFa w X) := ⟨fun a z => by unfold PFa at z; omega, fun a z => by unfold PFa at z; omega⟩
/-- the offers at a are as they were -/
def OfE (h h' : Hp) (a : Nat) : Prop := tAr h' a = tAr h a ∧ pAr h' a = pAr h a ∧ hi h' a = hi h a ∧ hi h' (tAr h a) = hi h (tAr h a) ∧ hi h' (pAr h a) = hi h (pAr h a) ∧ ln h' (tAr h a) = ln h (tAr h a) ∧ (OfS h a → OfS h' a)
section FAS
variable {h h' : Hp} {w X g A B : Nat}
theorem OfE.v {a : Nat} (q : OfE h h' a) (x : Int) : oV h' a x = oV h a x := by
  obtain ⟨q1, q2, q3, q4, q5, -⟩ := q
  unfold oV
  rw [q1, q2, q3, q4, q5]
theorem OfE.c {a : Nat} {lo up : Int} (q : OfE h h' a) (c : OfC h a lo up) : OfC h' a lo up := by
  obtain ⟨q1, q2, q3, q4, q5, -⟩ := q
  unfold OfC
  rw [q1, q2, q3, q4, q5]
  exact c
theorem OfE.of {P R : Nat → Prop} {a : Nat} (S : OfS h a) (e : fm P R h h') (h1 : ¬ P a) (h2 : ¬ R a) (h3 : ¬ P (tAr h a)) (h4 : ¬ P (pAr h a)) : OfE h h' a := by
  obtain ⟨q1, q2, q3, ⟨q4, q5, q6, q7, q8⟩, q9, q11, ⟨q12, q13, q14⟩⟩ := S
  obtain ⟨f1, f2, f3, f4, -⟩ := e
  have r : ∀ k, hr h' a k = hr h a k := fun k => f4 a k q12 h2
  have eT : tAr h' a = tAr h a := by unfold tAr; rw [r]
  have eP : pAr h' a = pAr h a := by unfold pAr; rw [r]
  have ia : hi h' a = hi h a := funext fun k => f3 a k q12 h1
  have iT : hi h' (tAr h a) = hi h (tAr h a) := funext fun k => f3 _ k q13 h3
  have iP : hi h' (pAr h a) = hi h (pAr h a) := funext fun k => f3 _ k q14 h4
  refine ⟨eT, eP, ia, iT, iP, (f2 _ q13).2, fun _ => ?_⟩
  unfold OfS
  rw [eT, eP, r, r, ia, (f2 _ q12).1, (f2 _ q13).1, (f2 _ q13).2, (f2 _ q14).1, (f2 _ q14).2]
  exact ⟨q1, q2, q3, ⟨q4, q5, q6, q7, q8⟩, q9, q11, by omega, by omega, by omega⟩
theorem ofK_inj {k j : Nat} (q : ofK w k = ofK w j) : k = j := by
  unfold ofK at q
  omega
theorem sL_upd {k : Nat} (q : ∀ j, j < 32 → j ≠ k → ln h' (tAr h' (ofK w j)) = ln h (tAr h (ofK w j))) : ∀ n, n ≤ 32 → sL h' w n = sL h w n + if k < n then ln h' (tAr h' (ofK w k)) - ln h (tAr h (ofK w k)) else 0
  | 0, _ => by
    show (0 : Int) = 0 + _
    rw [if_neg (by omega)]
    rfl
  | n + 1, hn => by
    have ih := sL_upd q n (by omega)
    show sL h' w n + ln h' (tAr h' (ofK w n)) = sL h w n + ln h (tAr h (ofK w n)) + _
    rw [ih]
    by_cases c : k < n
    · rw [if_pos c, if_pos (by omega), q n (by omega) (by omega)]
      omega
    · rw [if_neg c]
      by_cases c2 : k = n
      · subst c2
        rw [if_pos (by omega)]
        omega
      · rw [if_neg (by omega), q n (by omega) (by omega)]
        omega
theorem sL_le (q : ∀ k, k < 32 → ln h (tAr h (ofK w k)) ≤ 5764) : ∀ n : Nat, n ≤ 32 → sL h w n ≤ 5764 * n
  | 0, _ => Int.le_refl _
  | n + 1, hn => by
    have := sL_le q n (by omega)
    have := q n (by omega)
    show sL h w n + ln h (tAr h (ofK w n)) ≤ _
    omega
theorem sL_one {k : Nat} (q : ∀ k, k < 32 → ln h (tAr h (ofK w k)) ≤ 5764) : ∀ n : Nat, n ≤ 32 → k < n → sL h w n + 5764 ≤ 5764 * n + ln h (tAr h (ofK w k))
  | 0, _, hk => by omega
  | n + 1, hn, hk => by
    show sL h w n + ln h (tAr h (ofK w n)) + 5764 ≤ _
    by_cases c : k = n
    · subst c
      have := sL_le q k (by omega)
      omega
    · have := sL_one (k := k) q n (by omega) (by omega)
      have := q n (by omega)
      omega
theorem FaS.le (F : FaS h w X g A B) : ∀ k, k < 32 → ln h (tAr h (ofK w k)) ≤ 5764 := fun k hk => (F.2.2.2.1 k hk).1.2.2.2.1.2.2.2.2
/-- there is room for rows that grow -/
theorem FaS.room (F : FaS h w X g A B) {k : Nat} {need : Int} (hk : k < 32) (hn : need ≤ 2882) (hl : ln h (tAr h (ofK w k)) < need) : nx h + 2 ≤ cn h ∧ (us h : Int) + 4 * need ≤ cs h := by
  have h1 := sL_one F.le 32 (Nat.le_refl _) hk
  have h2 := F.2.2.2.2.2.1
  have h3 := (F.2.2.2.1 k hk).1.2.2.2.1.2.2.2.1
  omega
/-- .. and what is left beside them -/
theorem FaS.left (F : FaS h w X g A B) : nx h + A ≤ cn h ∧ us h + B ≤ cs h := by
  have h1 := sL_le F.le 32 (Nat.le_refl _)
  have h2 := F.2.2.2.2.2.1
  omega
theorem FaS.ne (F : FaS h w X g A B) {k j : Nat} (hk : k < 32) (hj : j < 32) : ofK w k ≠ tAr h (ofK w j) ∧ ofK w k ≠ pAr h (ofK w j) := by
  have a := (F.2.2.2.1 k hk).1.1
  have b := (F.2.2.2.1 j hj).1.2.2.2.1
  exact ⟨fun z => by rw [z] at a; omega, fun z => by rw [z] at a; omega⟩
/-- one row of offers changes, the structure stays -/
theorem FaS.upd (F : FaS h w X g A B) {k : Nat} (hk : k < 32) (O : OFr h h' (ofK w k)) (S : OfS h' (ofK w k)) : FaS h' w X g A B ∧ (∀ j, j < 32 → j ≠ k → OfE h h' (ofK w j)) ∧ fm (PFa w X) (PFa w X) h h' ∧ hi h' (w + 47) = hi h (w + 47) := by
  have F0 := F
  obtain ⟨⟨f1, f2, f3, f4⟩, ⟨⟨f5, f6⟩, f7, f8⟩, f9, f10, f11, ⟨f12, f13⟩, f14, f15⟩ := F
  obtain ⟨e, gr⟩ := O
  have gk := f10 k hk
  have Sk := gk.1
  have lt := Sk.2.2.2.2.2.2
  have hX : X ≤ nx h := f15
  have nP : ∀ b, b < w + 50 → ¬ (b = ofK w k ∨ b = tAr h (ofK w k) ∨ b = pAr h (ofK w k)) := fun b hb z => by
    have h1 := gk.2.1
    have h2 := gk.2.2
    unfold Rg at h1 h2
    unfold ofK at *
    omega
  have nR : ∀ b, b < w + 50 → ¬ b = ofK w k := fun b hb z => by unfold ofK at z; omega
  have oth : ∀ j, j < 32 → j ≠ k → OfE h h' (ofK w j) := fun j hj hjk => by
    have s := f11 j k hj hk hjk
    have s2 := f11 k j hk hj (fun z => hjk z.symm)
    have n1 := F0.ne hj hk
    have n2 := F0.ne hk hj
    refine OfE.of (f10 j hj).1 e (fun z => ?_) (fun z => hjk (ofK_inj z)) (fun z => ?_) (fun z => ?_)
    · rcases z with z | z | z
      · exact hjk (ofK_inj z)
      · exact n1.1 z
      · exact n1.2 z
    · rcases z with z | z | z
      · exact n2.1 z.symm
      · exact s.1 z
      · exact s.2.1 z
    · rcases z with z | z | z
      · exact n2.2 z.symm
      · exact s2.2.1 z.symm
      · exact s.2.2 z
  have E : fm (PFa w X) (PFa w X) h h' := e.mono (fun x z => by
    have h1 := gk.2.1
    have h2 := gk.2.2
    unfold Rg at h1 h2
    unfold PFa
    unfold ofK at *
    omega) (fun x z => by
    have z : x = ofK w k := z
    unfold PFa
    unfold ofK at z
    omega)
  have K : ∀ b, b < w + 50 → kd h' b = kd h b ∧ ln h' b = ln h b := fun b hb => e.2.1 b (by omega)
  have H : ∀ b j, b < w + 50 → hr h' b j = hr h b j := fun b j hb => e.2.2.2.1 b j (by omega) (nR b hb)
  have hi47 : hi h' (w + 47) = hi h (w + 47) := funext fun j => e.2.2.1 _ j (by omega) (nP _ (by omega))
  have sl := sL_upd (h := h) (h' := h') (w := w) (k := k) (fun j hj hjk => by rw [(oth j hj hjk).1]; exact (oth j hj hjk).2.2.2.2.2.1) 32 (Nat.le_refl _)
  rw [if_pos hk] at sl
  refine ⟨⟨⟨f1, (K _ (by omega)).1.trans f2, (H _ _ (by omega)).trans f3, (H _ _ (by omega)).trans f4⟩, ⟨⟨(K _ (by omega)).1.trans f5, (K _ (by omega)).2.trans f6⟩, (K _ (by omega)).1.trans f7, (K _ (by omega)).2.trans f8⟩, fun s hs => ⟨(H _ _ (by omega)).trans (f9 s hs).1, (H _ _ (by omega)).trans (f9 s hs).2⟩, fun j hj => ?_, fun i j hi_ hj hij => ?_, ?_, f14, by have := e.1; omega⟩, oth, E, hi47⟩
  · by_cases c : j = k
    · subst c
      refine ⟨S, ?_⟩
      rcases gr with ⟨y1, y2, -⟩ | ⟨y1, y2, -⟩
      · rw [y1, y2]; exact gk.2
      · rw [y1, y2]
        unfold Rg
        omega
    · have o := oth j hj c
      rw [o.1, o.2.1]
      exact ⟨o.2.2.2.2.2.2 (f10 j hj).1, (f10 j hj).2⟩
  · have key : ∀ j, j < 32 → j ≠ k → (tAr h' (ofK w k) ≠ tAr h' (ofK w j) ∧ tAr h' (ofK w k) ≠ pAr h' (ofK w j) ∧ pAr h' (ofK w k) ≠ pAr h' (ofK w j)) ∧ (tAr h' (ofK w j) ≠ pAr h' (ofK w k)) := fun j hj hjk => by
      have o := oth j hj hjk
      have lj := (f10 j hj).1.2.2.2.2.2.2
      have s := f11 k j hk hj (fun z => hjk z.symm)
      have s2 := f11 j k hj hk hjk
      rw [o.1, o.2.1]
      rcases gr with ⟨y1, y2, -⟩ | ⟨y1, y2, -⟩
      · rw [y1, y2]; exact ⟨s, s2.2.1⟩
      · rw [y1, y2]
        exact ⟨⟨by omega, by omega, by omega⟩, by omega⟩
    by_cases c : i = k
    · subst c
      exact (key j hj (fun z => hij z.symm)).1
    · by_cases c2 : j = k
      · subst c2
        have := key i hi_ hij
        exact ⟨fun z => this.1.1 z.symm, this.2, fun z => this.1.2.2 z.symm⟩
      · have o := oth i hi_ c
        have o2 := oth j hj c2
        rw [o.1, o.2.1, o2.1, o2.2.1]
        exact f11 i j hi_ hj hij
  · rw [e.2.2.2.2.1, e.2.2.2.2.2, sl]
    have l16 := Sk.2.2.2.1.2.2.2.1
    rcases gr with ⟨y1, y2, y3, y4, y5⟩ | ⟨y1, y2, y3, y4, y5⟩
    · rw [y1, y3, y4, y5]
      omega
    · rw [y1, y3]
      omega
/-- a number of its own changes -/
theorem FaS.num (F : FaS h w X g A B) (k v : Int) : FaS (setI h (w + 47) k v) w X g A B ∧ (∀ j, j < 32 → OfE h (setI h (w + 47) k v) (ofK w j)) ∧ fm (PFa w X) (PFa w X) h (setI h (w + 47) k v) := by
  have F0 := F
  obtain ⟨f1, f2, f9, f10, f11, f12, f14, f15⟩ := F
  have e : fm (· = w + 47) nP h (setI h (w + 47) k v) := ch.fm (ch_setI (P := fun x => x = w + 47) (R := nP) rfl)
  have oth : ∀ j, j < 32 → OfE h (setI h (w + 47) k v) (ofK w j) := fun j hj => by
    have gk := f10 j hj
    have h1 := gk.2.1
    have h2 := gk.2.2
    unfold Rg at h1 h2
    refine OfE.of gk.1 e (fun z => ?_) (fun z => z) (fun z => ?_) (fun z => ?_)
    · have z : ofK w j = w + 47 := z
      unfold ofK at z; omega
    · have z : tAr h (ofK w j) = w + 47 := z
      omega
    · have z : pAr h (ofK w j) = w + 47 := z
      omega
  have sl := sL_upd (h := h) (h' := setI h (w + 47) k v) (w := w) (k := 32) (fun j hj hjk => rfl) 32 (Nat.le_refl _)
  rw [if_neg (by omega)] at sl
  refine ⟨⟨f1, f2, f9, fun j hj => ⟨(oth j hj).2.2.2.2.2.2 (f10 j hj).1, (f10 j hj).2⟩, f11, ?_, f14, f15⟩, oth, e.mono (fun x z => ?_) (fun x z => z.elim)⟩
  · rw [sl]
    show 9 * ((nx h : Int) + A) + 184448 ≤ 9 * cn h + (sL h w 32 + 0) ∧ (us h : Int) + B + 737792 ≤ cs h + 4 * (sL h w 32 + 0)
    omega
  · have z : x = w + 47 := z
    unfold PFa
    omega
end FAS
def aft (w g s : Nat) : Nat := ofK w (2 * s + (1 - g))
def bef (w g s : Nat) : Nat := ofK w (2 * s + g)
/-- the prices, as functions of stops and times -/
def gF (h : Hp) (w g : Nat) (s x : Int) : Int := oV h (aft w g s.toNat) x
def bF (h : Hp) (w g : Nat) (s x : Int) : Int := oV h (bef w g s.toNat) x
/-- what a step of the search keeps -/
def FaT (h0 h : Hp) (w X g A B : Nat) (lo up : Int) : Prop := FaS h w X g A B ∧ (∀ s : Nat, s < 16 → OfC h (aft w g s) lo up) ∧ fm (PFa w X) (PFa w X) h0 h ∧ (∀ (s : Nat) (x : Int), s < 16 → oV h (bef w g s) x = oV h0 (bef w g s) x) ∧ (hi h (w + 47) 2 = hi h0 (w + 47) 2 ∧ hi h (w + 47) 3 = hi h0 (w + 47) 3) ∧ 0 ≤ hi h (w + 47) 4 ∧ hi h (w + 47) 4 ≤ 1000000000
section FAT
variable {h0 h h' : Hp} {w X g A B : Nat} {lo up : Int}
theorem FaS.g1 (F : FaS h w X g A B) : g ≤ 1 := F.1.1
theorem FaT.trans (a : FaT h0 h w X g A B lo up) (b : FaT h h' w X g A B lo up) : FaT h0 h' w X g A B lo up := by
  obtain ⟨a1, a2, a3, a4, a5, a6⟩ := a
  obtain ⟨b1, b2, b3, b4, b5, b6⟩ := b
  exact ⟨b1, b2, a3.trans b3, fun s x hs => (b4 s x hs).trans (a4 s x hs), ⟨b5.1.trans a5.1, b5.2.trans a5.2⟩, b6⟩
/-- the row behind, at a stop -/
theorem FaS.aftr (F : FaS h w X g A B) {s : Int} (h0 : 0 ≤ s ∧ s < 16) : hr h (w + 49 - g) s = some (aft w g s.toNat) ∧ kd h (w + 49 - g) = 107 ∧ ln h (w + 49 - g) = 16 ∧ 2 * s.toNat + (1 - g) < 32 := by
  obtain ⟨⟨f1, -⟩, ⟨⟨f5, f6⟩, f7, f8⟩, f9, -⟩ := F
  have q := f9 s.toNat (by omega)
  have e : ((s.toNat : Nat) : Int) = s := by omega
  rw [e] at q
  by_cases c : g = 0
  · subst c
    exact ⟨q.2, f7, f8, by omega⟩
  · obtain rfl : g = 1 := by omega
    exact ⟨q.1, f5, f6, by omega⟩
theorem FaS.befr (F : FaS h w X g A B) {s : Int} (h0 : 0 ≤ s ∧ s < 16) : hr h (w + 48 + g) s = some (bef w g s.toNat) ∧ kd h (w + 48 + g) = 107 ∧ ln h (w + 48 + g) = 16 ∧ 2 * s.toNat + g < 32 := by
  obtain ⟨⟨f1, -⟩, ⟨⟨f5, f6⟩, f7, f8⟩, f9, -⟩ := F
  have q := f9 s.toNat (by omega)
  have e : ((s.toNat : Nat) : Int) = s := by omega
  rw [e] at q
  by_cases c : g = 0
  · subst c
    exact ⟨q.1, f5, f6, by omega⟩
  · obtain rfl : g = 1 := by omega
    exact ⟨q.2, f7, f8, by omega⟩
/-- an offer at the stop s -/
theorem FaT.offer {s t p z : Int} (T : FaT h0 h w X g A B lo up) (hs : 0 ≤ s ∧ s < 16) (O : Offd h h' (aft w g s.toNat) lo up t p z) : FaT h0 h' w X g A B lo up ∧ hi h' (w + 47) = hi h (w + 47) ∧ (∀ s', 0 ≤ s' → s' < 16 → s' ≠ s → ∀ x, gF h' w g s' x = gF h w g s' x) ∧ (∀ x, gF h' w g s x = if t ≤ x then min (gF h w g s x) p else gF h w g s x) ∧ (z = 0 → ∀ x, gF h' w g s x = gF h w g s x) := by
  obtain ⟨T1, T2, T3, T4, T5, T6⟩ := T
  obtain ⟨o1, o2, o3, o4, o5, o6⟩ := O
  have hg := T1.g1
  obtain ⟨u1, u2, u3, u4⟩ := T1.upd (k := 2 * s.toNat + (1 - g)) (by omega) o2 o3
  refine ⟨⟨u1, fun s' hs' => ?_, T3.trans u3, fun s' x hs' => ?_, by rw [u4]; exact T5, by rw [u4]; exact T6⟩, u4, fun s' s0 s1 hne x => ?_, o5, o6⟩
  · by_cases c : s' = s.toNat
    · subst c; exact o4
    · exact (u2 (2 * s' + (1 - g)) (by omega) (by omega)).c (T2 s' hs')
  · rw [← T4 s' x hs']
    exact (u2 (2 * s' + g) (by omega) (by omega)).v x
  · exact (u2 (2 * s'.toNat + (1 - g)) (by omega) (by omega)).v x
/-- the least price anew -/
theorem FaT.least {v : Int} (T : FaT h0 h w X g A B lo up) (hv : 0 ≤ v ∧ v ≤ 1000000000) : FaT h0 (setI h (w + 47) 4 v) w X g A B lo up ∧ hi (setI h (w + 47) 4 v) (w + 47) 4 = v ∧ ∀ s', 0 ≤ s' → s' < 16 → ∀ x, gF (setI h (w + 47) 4 v) w g s' x = gF h w g s' x := by
  obtain ⟨T1, T2, T3, T4, T5, T6⟩ := T
  have hg := T1.g1
  obtain ⟨u1, u2, u3⟩ := T1.num 4 v
  have e : ∀ k, k ≠ 4 → hi (setI h (w + 47) 4 v) (w + 47) k = hi h (w + 47) k := fun k hk => by rw [hi_upF, upF_ne _ hk]
  have e4 : hi (setI h (w + 47) 4 v) (w + 47) 4 = v := by rw [hi_upF, upF_same]
  refine ⟨⟨u1, fun s' hs' => (u2 (2 * s' + (1 - g)) (by omega)).c (T2 s' hs'), T3.trans u3, fun s' x hs' => ?_, ?_, by rw [e4]; exact hv⟩, e4, fun s' s0 s1 x => ?_⟩
  · rw [← T4 s' x hs']
    exact (u2 (2 * s' + g) (by omega)).v x
  · rw [e 2 (by decide), e 3 (by decide)]; exact T5
  · exact (u2 (2 * s'.toNat + (1 - g)) (by omega)).v x
/-- the later, the cheaper -/
theorem FaT.mono (T : FaT h0 h w X g A B lo up) {s : Int} (hs : 0 ≤ s ∧ s < 16) {x x' : Int} (hx : x ≤ x') : gF h w g s x' ≤ gF h w g s x := by
  have hg := T.1.g1
  exact (T.2.1 s.toNat (by omega)).mono (T.1.2.2.2.1 (2 * s.toNat + (1 - g)) (by omega)).1 hx
theorem WyI.kept {P R : Nat → Prop} (q : TT h w X) (e : fm P R h h') (o : Off w X P R) {i : Int} (i0 : 0 ≤ i) (i1 : i < hi h (w + 1) 5) : WyI h' w i = WyI h w i := by
  have hX := q.2.2.2.2.2.2
  obtain ⟨a, g1, g2, g3, -⟩ := q.2.2.2.2.1 i i0 i1
  funext s s' m
  apply propext
  unfold WyI
  rw [o.r e hX.1 (a := w + 3) (by omega) hX.2]
  constructor
  · rintro ⟨z0, a', z1, z2⟩
    cases z1.symm.trans g1
    rw [o.i e hX.1 (a := a) (by omega) hX.2] at z2
    exact ⟨z0, a, g1, z2⟩
  · rintro ⟨z0, a', z1, z2⟩
    cases z1.symm.trans g1
    rw [← o.i e hX.1 (a := a) (by omega) hX.2] at z2
    exact ⟨z0, a, g1, z2⟩
end FAT
