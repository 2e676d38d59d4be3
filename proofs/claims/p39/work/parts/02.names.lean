/-! ===== names of this claim, written by wip/tools/gen.py ===== -/
/-- a word that a step keeps -/
def mw (w : Cond) : Bool := match w with | .methodLinkNest _ _ _ _ => true | .arrayOver (.object _) => true | .arrayOver (.array _) => true | w => goodWord w
def okw (w : Cond) : Prop := w ∈ lw_tbl ∧ mw w = true
def okk (k : Nat) (w : Cond) : Bool := decide (lw_tbl[k]? = some w) && mw w
theorem okr {k : Nat} {w : Cond} (h : lw_tbl[k]? = some w) (h2 : mw w = true) : okw w := ⟨List.mem_of_getElem? h, h2⟩
theorem okk_w {k : Nat} {w : Cond} (h : okk k w = true) : okw w := by
  simp only [okk, Bool.and_eq_true, decide_eq_true_eq] at h
  exact ⟨List.mem_of_getElem? h.1, h.2⟩
def FT0 : u_T := fun k => match k with
  | 0 => ("WhistleStop", "net", "LWhistleStop$Network;", true)
  | 1 => ("WhistleStop", "runs", "LWhistleStop$Runs;", true)
  | 2 => ("WhistleStop", "board", "LWhistleStop$Board;", true)
  | 3 => ("WhistleStop", "onward", "LWhistleStop$Onward;", true)
  | 4 => ("WhistleStop", "backward", "LWhistleStop$Backward;", true)
  | 5 => ("WhistleStop", "fares", "LWhistleStop$Fares;", true)
  | _ => ("WhistleStop", "journey", "LWhistleStop$Journey;", true)
def fT0 : Nat → FieldType := fun k => match k with
  | 0 => (.object "WhistleStop$Network")
  | 1 => (.object "WhistleStop$Runs")
  | 2 => (.object "WhistleStop$Board")
  | 3 => (.object "WhistleStop$Onward")
  | 4 => (.object "WhistleStop$Backward")
  | 5 => (.object "WhistleStop$Fares")
  | _ => (.object "WhistleStop$Journey")
def FT1 : u_T := fun k => match k with
  | 0 => ("WhistleStop$Backward", "boards", "[[I", true)
  | 1 => ("WhistleStop$Backward", "alights", "[[I", true)
  | 2 => ("WhistleStop$Backward", "target", "I", false)
  | _ => ("WhistleStop$Backward", "deadline", "I", false)
def fT1 : Nat → FieldType := fun k => match k with
  | 0 => (.array (.array .int))
  | 1 => (.array (.array .int))
  | 2 => .int
  | _ => .int
def FT2 : u_T := fun k => match k with
  | 0 => ("WhistleStop$Board", "keys", "[J", true)
  | _ => ("WhistleStop$Board", "size", "I", false)
def fT2 : Nat → FieldType := fun k => match k with
  | 0 => (.array .long)
  | _ => .int
def FT3 : u_T := fun k => match k with
  | 0 => ("WhistleStop$Calendar", "weekdays", "I", true)
  | 1 => ("WhistleStop$Calendar", "first", "I", true)
  | 2 => ("WhistleStop$Calendar", "last", "I", true)
  | _ => ("WhistleStop$Calendar", "exceptions", "[I", true)
def fT3 : Nat → FieldType := fun k => match k with
  | 0 => .int
  | 1 => .int
  | 2 => .int
  | _ => (.array .int)
def FT4 : u_T := fun k => match k with
  | 0 => ("WhistleStop$Fares", "before", "[LWhistleStop$Offers;", false)
  | 1 => ("WhistleStop$Fares", "after", "[LWhistleStop$Offers;", false)
  | 2 => ("WhistleStop$Fares", "target", "I", false)
  | 3 => ("WhistleStop$Fares", "limit", "I", false)
  | _ => ("WhistleStop$Fares", "least", "I", false)
def fT4 : Nat → FieldType := fun k => match k with
  | 0 => (.array (.object "WhistleStop$Offers"))
  | 1 => (.array (.object "WhistleStop$Offers"))
  | 2 => .int
  | 3 => .int
  | _ => .int
def FT5 : u_T := fun k => match k with
  | 0 => ("WhistleStop$Footway", "end", "I", true)
  | 1 => ("WhistleStop$Footway", "otherEnd", "I", true)
  | _ => ("WhistleStop$Footway", "minutes", "I", true)
def fT5 : Nat → FieldType := fun k => match k with
  | 0 => .int
  | 1 => .int
  | _ => .int
def FT6 : u_T := fun k => match k with
  | 0 => ("WhistleStop$Journey", "isKept", "Z", false)
  | 1 => ("WhistleStop$Journey", "from", "I", false)
  | 2 => ("WhistleStop$Journey", "to", "I", false)
  | 3 => ("WhistleStop$Journey", "at", "I", false)
  | 4 => ("WhistleStop$Journey", "size", "I", false)
  | 5 => ("WhistleStop$Journey", "trips", "[LWhistleStop$Trip;", true)
  | 6 => ("WhistleStop$Journey", "days", "[I", true)
  | 7 => ("WhistleStop$Journey", "boardings", "[I", true)
  | 8 => ("WhistleStop$Journey", "alightings", "[I", true)
  | 9 => ("WhistleStop$Journey", "targets", "[I", true)
  | 10 => ("WhistleStop$Journey", "begins", "[I", true)
  | 11 => ("WhistleStop$Journey", "ends", "[I", true)
  | 12 => ("WhistleStop$Journey", "tightest", "I", false)
  | _ => ("WhistleStop$Journey", "fare", "I", false)
def fT6 : Nat → FieldType := fun k => match k with
  | 0 => .boolean
  | 1 => .int
  | 2 => .int
  | 3 => .int
  | 4 => .int
  | 5 => (.array (.object "WhistleStop$Trip"))
  | 6 => (.array .int)
  | 7 => (.array .int)
  | 8 => (.array .int)
  | 9 => (.array .int)
  | 10 => (.array .int)
  | 11 => (.array .int)
  | 12 => .int
  | _ => .int
def FT7 : u_T := fun k => match k with
  | 0 => ("WhistleStop$Network", "changes", "[I", true)
  | 1 => ("WhistleStop$Network", "footways", "[LWhistleStop$Footway;", true)
  | 2 => ("WhistleStop$Network", "calendars", "[LWhistleStop$Calendar;", true)
  | 3 => ("WhistleStop$Network", "trips", "[LWhistleStop$Trip;", true)
  | 4 => ("WhistleStop$Network", "stopCount", "I", false)
  | 5 => ("WhistleStop$Network", "footwayCount", "I", false)
  | 6 => ("WhistleStop$Network", "calendarCount", "I", false)
  | _ => ("WhistleStop$Network", "tripCount", "I", false)
def fT7 : Nat → FieldType := fun k => match k with
  | 0 => (.array .int)
  | 1 => (.array (.object "WhistleStop$Footway"))
  | 2 => (.array (.object "WhistleStop$Calendar"))
  | 3 => (.array (.object "WhistleStop$Trip"))
  | 4 => .int
  | 5 => .int
  | 6 => .int
  | _ => .int
def FT8 : u_T := fun k => match k with
  | 0 => ("WhistleStop$Offers", "times", "[I", false)
  | 1 => ("WhistleStop$Offers", "prices", "[I", false)
  | _ => ("WhistleStop$Offers", "size", "I", false)
def fT8 : Nat → FieldType := fun k => match k with
  | 0 => (.array .int)
  | 1 => (.array .int)
  | _ => .int
def FT9 : u_T := fun k => match k with
  | 0 => ("WhistleStop$Onward", "ended", "[[I", true)
  | 1 => ("WhistleStop$Onward", "ready", "[[I", true)
  | 2 => ("WhistleStop$Onward", "afoot", "[I", true)
  | _ => ("WhistleStop$Onward", "limit", "I", false)
def fT9 : Nat → FieldType := fun k => match k with
  | 0 => (.array (.array .int))
  | 1 => (.array (.array .int))
  | 2 => (.array .int)
  | _ => .int
def FT10 : u_T := fun k => match k with
  | 0 => ("WhistleStop$Runs", "trips", "[LWhistleStop$Trip;", true)
  | 1 => ("WhistleStop$Runs", "days", "[I", true)
  | 2 => ("WhistleStop$Runs", "bases", "[I", true)
  | _ => ("WhistleStop$Runs", "size", "I", false)
def fT10 : Nat → FieldType := fun k => match k with
  | 0 => (.array (.object "WhistleStop$Trip"))
  | 1 => (.array .int)
  | 2 => (.array .int)
  | _ => .int
def FT11 : u_T := fun k => match k with
  | 0 => ("WhistleStop$Trip", "number", "I", true)
  | 1 => ("WhistleStop$Trip", "calendar", "LWhistleStop$Calendar;", true)
  | 2 => ("WhistleStop$Trip", "fare", "I", true)
  | 3 => ("WhistleStop$Trip", "stops", "[I", true)
  | 4 => ("WhistleStop$Trip", "arrives", "[I", true)
  | 5 => ("WhistleStop$Trip", "departs", "[I", true)
  | 6 => ("WhistleStop$Trip", "told", "[I", true)
  | _ => ("WhistleStop$Trip", "size", "I", false)
def fT11 : Nat → FieldType := fun k => match k with
  | 0 => .int
  | 1 => (.object "WhistleStop$Calendar")
  | 2 => .int
  | 3 => (.array .int)
  | 4 => (.array .int)
  | 5 => (.array .int)
  | 6 => (.array .int)
  | _ => .int
def FT12 : u_T := fun k => match k with
  | 0 => ("WhistleStopLaw$Table", "m", "LWhistleStop;", true)
  | 1 => ("WhistleStopLaw$Table", "s", "[I", true)
  | 2 => ("WhistleStopLaw$Table", "draws", "I", false)
  | 3 => ("WhistleStopLaw$Table", "stops", "I", false)
  | 4 => ("WhistleStopLaw$Table", "change", "[I", true)
  | 5 => ("WhistleStopLaw$Table", "ways", "I", false)
  | 6 => ("WhistleStopLaw$Table", "way", "[[I", true)
  | 7 => ("WhistleStopLaw$Table", "calendars", "I", false)
  | 8 => ("WhistleStopLaw$Table", "runs", "[[Z", true)
  | 9 => ("WhistleStopLaw$Table", "trips", "I", false)
  | 10 => ("WhistleStopLaw$Table", "calendar", "[I", true)
  | 11 => ("WhistleStopLaw$Table", "price", "[I", true)
  | 12 => ("WhistleStopLaw$Table", "calls", "[I", true)
  | 13 => ("WhistleStopLaw$Table", "stop", "[[I", true)
  | 14 => ("WhistleStopLaw$Table", "arrives", "[[I", true)
  | 15 => ("WhistleStopLaw$Table", "departs", "[[I", true)
  | _ => ("WhistleStopLaw$Table", "late", "[[I", true)
def fT12 : Nat → FieldType := fun k => match k with
  | 0 => (.object "WhistleStop")
  | 1 => (.array .int)
  | 2 => .int
  | 3 => .int
  | 4 => (.array .int)
  | 5 => .int
  | 6 => (.array (.array .int))
  | 7 => .int
  | 8 => (.array (.array .boolean))
  | 9 => .int
  | 10 => (.array .int)
  | 11 => (.array .int)
  | 12 => (.array .int)
  | 13 => (.array (.array .int))
  | 14 => (.array (.array .int))
  | 15 => (.array (.array .int))
  | _ => (.array (.array .int))
abbrev CL : List vw_C := [("WhistleStop", FT0, 7), ("WhistleStop$Backward", FT1, 4), ("WhistleStop$Board", FT2, 2), ("WhistleStop$Calendar", FT3, 4), ("WhistleStop$Fares", FT4, 5), ("WhistleStop$Footway", FT5, 3), ("WhistleStop$Journey", FT6, 14), ("WhistleStop$Network", FT7, 8), ("WhistleStop$Offers", FT8, 3), ("WhistleStop$Onward", FT9, 4), ("WhistleStop$Runs", FT10, 4), ("WhistleStop$Trip", FT11, 8), ("WhistleStopLaw$Table", FT12, 17)]
def cT : Nat → Nat → FieldType := fun K => match K with
  | 1 => fT0
  | 2 => fT1
  | 3 => fT2
  | 4 => fT3
  | 5 => fT4
  | 6 => fT5
  | 7 => fT6
  | 8 => fT7
  | 9 => fT8
  | 10 => fT9
  | 11 => fT10
  | 12 => fT11
  | _ => fT12
/-- array kinds: what their places are -/
def AT : Nat → FieldType := fun K => match K with
  | 100 => .int
  | 101 => .long
  | 102 => .boolean
  | 103 => (.array .int)
  | 104 => (.object "WhistleStop$Footway")
  | 105 => (.object "WhistleStop$Calendar")
  | 106 => (.object "WhistleStop$Trip")
  | 107 => (.object "WhistleStop$Offers")
  | _ => (.array .boolean)
def KA : List Nat := [100, 101, 102, 103, 104, 105, 106, 107, 108]
set_option maxRecDepth 100000 in
theorem cw0 : (List.range 7).all (fun k => okk ([775, 777, 779, 781, 783, 785, 787].getD k 0) (u_lay "WhistleStop" FT0 k)) = true := by decide +kernel
theorem cn0 : ∀ a, a < 7 → ∀ b, b < 7 → a ≠ b → (FT0 a).2.1 ≠ (FT0 b).2.1 := by decide +kernel
theorem ct0 : ∀ k, k < 7 → parseFieldDescriptor (FT0 k).2.2.1 = some (cT 1 k) := by decide +kernel
set_option maxRecDepth 100000 in
theorem cw1 : (List.range 4).all (fun k => okk ([665, 667, 669, 671].getD k 0) (u_lay "WhistleStop$Backward" FT1 k)) = true := by decide +kernel
theorem cn1 : ∀ a, a < 4 → ∀ b, b < 4 → a ≠ b → (FT1 a).2.1 ≠ (FT1 b).2.1 := by decide +kernel
theorem ct1 : ∀ k, k < 4 → parseFieldDescriptor (FT1 k).2.2.1 = some (cT 2 k) := by decide +kernel
set_option maxRecDepth 100000 in
theorem cw2 : (List.range 2).all (fun k => okk ([628, 630].getD k 0) (u_lay "WhistleStop$Board" FT2 k)) = true := by decide +kernel
theorem cn2 : ∀ a, a < 2 → ∀ b, b < 2 → a ≠ b → (FT2 a).2.1 ≠ (FT2 b).2.1 := by decide +kernel
theorem ct2 : ∀ k, k < 2 → parseFieldDescriptor (FT2 k).2.2.1 = some (cT 3 k) := by decide +kernel
set_option maxRecDepth 100000 in
theorem cw3 : (List.range 4).all (fun k => okk ([927, 929, 931, 933].getD k 0) (u_lay "WhistleStop$Calendar" FT3 k)) = true := by decide +kernel
theorem cn3 : ∀ a, a < 4 → ∀ b, b < 4 → a ≠ b → (FT3 a).2.1 ≠ (FT3 b).2.1 := by decide +kernel
theorem ct3 : ∀ k, k < 4 → parseFieldDescriptor (FT3 k).2.2.1 = some (cT 4 k) := by decide +kernel
set_option maxRecDepth 100000 in
theorem cw4 : (List.range 5).all (fun k => okk ([701, 703, 705, 707, 709].getD k 0) (u_lay "WhistleStop$Fares" FT4 k)) = true := by decide +kernel
theorem cn4 : ∀ a, a < 5 → ∀ b, b < 5 → a ≠ b → (FT4 a).2.1 ≠ (FT4 b).2.1 := by decide +kernel
theorem ct4 : ∀ k, k < 5 → parseFieldDescriptor (FT4 k).2.2.1 = some (cT 5 k) := by decide +kernel
set_option maxRecDepth 100000 in
theorem cw5 : (List.range 3).all (fun k => okk ([901, 903, 905].getD k 0) (u_lay "WhistleStop$Footway" FT5 k)) = true := by decide +kernel
theorem cn5 : ∀ a, a < 3 → ∀ b, b < 3 → a ≠ b → (FT5 a).2.1 ≠ (FT5 b).2.1 := by decide +kernel
theorem ct5 : ∀ k, k < 3 → parseFieldDescriptor (FT5 k).2.2.1 = some (cT 6 k) := by decide +kernel
set_option maxRecDepth 100000 in
theorem cw6 : (List.range 14).all (fun k => okk ([739, 741, 743, 745, 747, 749, 751, 753, 755, 757, 759, 761, 763, 765].getD k 0) (u_lay "WhistleStop$Journey" FT6 k)) = true := by decide +kernel
theorem cn6 : ∀ a, a < 14 → ∀ b, b < 14 → a ≠ b → (FT6 a).2.1 ≠ (FT6 b).2.1 := by decide +kernel
theorem ct6 : ∀ k, k < 14 → parseFieldDescriptor (FT6 k).2.2.1 = some (cT 7 k) := by decide +kernel
set_option maxRecDepth 100000 in
theorem cw7 : (List.range 8).all (fun k => okk ([572, 574, 576, 578, 580, 582, 584, 586].getD k 0) (u_lay "WhistleStop$Network" FT7 k)) = true := by decide +kernel
theorem cn7 : ∀ a, a < 8 → ∀ b, b < 8 → a ≠ b → (FT7 a).2.1 ≠ (FT7 b).2.1 := by decide +kernel
theorem ct7 : ∀ k, k < 8 → parseFieldDescriptor (FT7 k).2.2.1 = some (cT 8 k) := by decide +kernel
set_option maxRecDepth 100000 in
theorem cw8 : (List.range 3).all (fun k => okk ([689, 691, 693].getD k 0) (u_lay "WhistleStop$Offers" FT8 k)) = true := by decide +kernel
theorem cn8 : ∀ a, a < 3 → ∀ b, b < 3 → a ≠ b → (FT8 a).2.1 ≠ (FT8 b).2.1 := by decide +kernel
theorem ct8 : ∀ k, k < 3 → parseFieldDescriptor (FT8 k).2.2.1 = some (cT 9 k) := by decide +kernel
set_option maxRecDepth 100000 in
theorem cw9 : (List.range 4).all (fun k => okk ([645, 647, 649, 651].getD k 0) (u_lay "WhistleStop$Onward" FT9 k)) = true := by decide +kernel
theorem cn9 : ∀ a, a < 4 → ∀ b, b < 4 → a ≠ b → (FT9 a).2.1 ≠ (FT9 b).2.1 := by decide +kernel
theorem ct9 : ∀ k, k < 4 → parseFieldDescriptor (FT9 k).2.2.1 = some (cT 10 k) := by decide +kernel
set_option maxRecDepth 100000 in
theorem cw10 : (List.range 4).all (fun k => okk ([612, 614, 616, 618].getD k 0) (u_lay "WhistleStop$Runs" FT10 k)) = true := by decide +kernel
theorem cn10 : ∀ a, a < 4 → ∀ b, b < 4 → a ≠ b → (FT10 a).2.1 ≠ (FT10 b).2.1 := by decide +kernel
theorem ct10 : ∀ k, k < 4 → parseFieldDescriptor (FT10 k).2.2.1 = some (cT 11 k) := by decide +kernel
set_option maxRecDepth 100000 in
theorem cw11 : (List.range 8).all (fun k => okk ([985, 987, 989, 991, 993, 995, 997, 999].getD k 0) (u_lay "WhistleStop$Trip" FT11 k)) = true := by decide +kernel
theorem cn11 : ∀ a, a < 8 → ∀ b, b < 8 → a ≠ b → (FT11 a).2.1 ≠ (FT11 b).2.1 := by decide +kernel
theorem ct11 : ∀ k, k < 8 → parseFieldDescriptor (FT11 k).2.2.1 = some (cT 12 k) := by decide +kernel
set_option maxRecDepth 100000 in
theorem cw12 : (List.range 17).all (fun k => okk ([813, 815, 817, 819, 821, 823, 825, 827, 829, 831, 833, 835, 837, 839, 841, 843, 845].getD k 0) (u_lay "WhistleStopLaw$Table" FT12 k)) = true := by decide +kernel
theorem cn12 : ∀ a, a < 17 → ∀ b, b < 17 → a ≠ b → (FT12 a).2.1 ≠ (FT12 b).2.1 := by decide +kernel
theorem ct12 : ∀ k, k < 17 → parseFieldDescriptor (FT12 k).2.2.1 = some (cT 13 k) := by decide +kernel
theorem cq0 : ∀ k, (FT0 k).1 = "WhistleStop" := by
  intro k
  unfold FT0
  split <;> rfl
theorem cq1 : ∀ k, (FT1 k).1 = "WhistleStop$Backward" := by
  intro k
  unfold FT1
  split <;> rfl
theorem cq2 : ∀ k, (FT2 k).1 = "WhistleStop$Board" := by
  intro k
  unfold FT2
  split <;> rfl
theorem cq3 : ∀ k, (FT3 k).1 = "WhistleStop$Calendar" := by
  intro k
  unfold FT3
  split <;> rfl
theorem cq4 : ∀ k, (FT4 k).1 = "WhistleStop$Fares" := by
  intro k
  unfold FT4
  split <;> rfl
theorem cq5 : ∀ k, (FT5 k).1 = "WhistleStop$Footway" := by
  intro k
  unfold FT5
  split <;> rfl
theorem cq6 : ∀ k, (FT6 k).1 = "WhistleStop$Journey" := by
  intro k
  unfold FT6
  split <;> rfl
theorem cq7 : ∀ k, (FT7 k).1 = "WhistleStop$Network" := by
  intro k
  unfold FT7
  split <;> rfl
theorem cq8 : ∀ k, (FT8 k).1 = "WhistleStop$Offers" := by
  intro k
  unfold FT8
  split <;> rfl
theorem cq9 : ∀ k, (FT9 k).1 = "WhistleStop$Onward" := by
  intro k
  unfold FT9
  split <;> rfl
theorem cq10 : ∀ k, (FT10 k).1 = "WhistleStop$Runs" := by
  intro k
  unfold FT10
  split <;> rfl
theorem cq11 : ∀ k, (FT11 k).1 = "WhistleStop$Trip" := by
  intro k
  unfold FT11
  split <;> rfl
theorem cq12 : ∀ k, (FT12 k).1 = "WhistleStopLaw$Table" := by
  intro k
  unfold FT12
  split <;> rfl
theorem cw_ok {C : String} {F : u_T} {n : Nat} {ks : List Nat} (h : (List.range n).all (fun k => okk (ks.getD k 0) (u_lay C F k)) = true) : ∀ w ∈ u_ws C F n, okw w := by
  intro w hw
  obtain ⟨k, hk, rfl⟩ := List.mem_map.mp hw
  exact okk_w (List.all_eq_true.mp h k hk)
/-- what is known of each class -/
def clOk (c : Nat) (q : vw_C) : Prop := (∀ w ∈ u_ws q.1 q.2.1 q.2.2, okw w) ∧ (∀ a, a < q.2.2 → ∀ b, b < q.2.2 → a ≠ b → (q.2.1 a).2.1 ≠ (q.2.1 b).2.1) ∧ (∀ k, k < q.2.2 → parseFieldDescriptor (q.2.1 k).2.2.1 = some (cT (c + 1) k)) ∧ (∀ k, (q.2.1 k).1 = q.1)
theorem CL_ok : ∀ (c : Nat) (q : vw_C), CL[c]? = some q → clOk c q := by
  intro c q h
  match c with
  | 0 => cases h; exact ⟨cw_ok cw0, cn0, ct0, cq0⟩
  | 1 => cases h; exact ⟨cw_ok cw1, cn1, ct1, cq1⟩
  | 2 => cases h; exact ⟨cw_ok cw2, cn2, ct2, cq2⟩
  | 3 => cases h; exact ⟨cw_ok cw3, cn3, ct3, cq3⟩
  | 4 => cases h; exact ⟨cw_ok cw4, cn4, ct4, cq4⟩
  | 5 => cases h; exact ⟨cw_ok cw5, cn5, ct5, cq5⟩
  | 6 => cases h; exact ⟨cw_ok cw6, cn6, ct6, cq6⟩
  | 7 => cases h; exact ⟨cw_ok cw7, cn7, ct7, cq7⟩
  | 8 => cases h; exact ⟨cw_ok cw8, cn8, ct8, cq8⟩
  | 9 => cases h; exact ⟨cw_ok cw9, cn9, ct9, cq9⟩
  | 10 => cases h; exact ⟨cw_ok cw10, cn10, ct10, cq10⟩
  | 11 => cases h; exact ⟨cw_ok cw11, cn11, ct11, cq11⟩
  | 12 => cases h; exact ⟨cw_ok cw12, cn12, ct12, cq12⟩
  | _ + 13 => cases h
set_option maxRecDepth 100000 in
theorem ci0 : okw (.instantiable "WhistleStop" 7) ∧ okw (.initialized "WhistleStop") := ⟨okk_w (k := 60) (by decide +kernel), okk_w (k := 32) (by decide +kernel)⟩
set_option maxRecDepth 100000 in
theorem ci1 : okw (.instantiable "WhistleStop$Backward" 4) ∧ okw (.initialized "WhistleStop$Backward") := ⟨okk_w (k := 343) (by decide +kernel), okk_w (k := 37) (by decide +kernel)⟩
set_option maxRecDepth 100000 in
theorem ci2 : okw (.instantiable "WhistleStop$Board" 2) ∧ okw (.initialized "WhistleStop$Board") := ⟨okk_w (k := 622) (by decide +kernel), okk_w (k := 35) (by decide +kernel)⟩
set_option maxRecDepth 100000 in
theorem ci3 : okw (.instantiable "WhistleStop$Calendar" 4) ∧ okw (.initialized "WhistleStop$Calendar") := ⟨okk_w (k := 917) (by decide +kernel), okk_w (k := 48) (by decide +kernel)⟩
set_option maxRecDepth 100000 in
theorem ci4 : okw (.instantiable "WhistleStop$Fares" 5) ∧ okw (.initialized "WhistleStop$Fares") := ⟨okk_w (k := 305) (by decide +kernel), okk_w (k := 38) (by decide +kernel)⟩
set_option maxRecDepth 100000 in
theorem ci5 : okw (.instantiable "WhistleStop$Footway" 3) ∧ okw (.initialized "WhistleStop$Footway") := ⟨okk_w (k := 885) (by decide +kernel), okk_w (k := 47) (by decide +kernel)⟩
set_option maxRecDepth 100000 in
theorem ci6 : okw (.instantiable "WhistleStop$Journey" 14) ∧ okw (.initialized "WhistleStop$Journey") := ⟨okk_w (k := 389) (by decide +kernel), okk_w (k := 40) (by decide +kernel)⟩
set_option maxRecDepth 100000 in
theorem ci7 : okw (.instantiable "WhistleStop$Network" 8) ∧ okw (.initialized "WhistleStop$Network") := ⟨okk_w (k := 533) (by decide +kernel), okk_w (k := 33) (by decide +kernel)⟩
set_option maxRecDepth 100000 in
theorem ci8 : okw (.instantiable "WhistleStop$Offers" 3) ∧ okw (.initialized "WhistleStop$Offers") := ⟨okk_w (k := 287) (by decide +kernel), okk_w (k := 39) (by decide +kernel)⟩
set_option maxRecDepth 100000 in
theorem ci9 : okw (.instantiable "WhistleStop$Onward" 4) ∧ okw (.initialized "WhistleStop$Onward") := ⟨okk_w (k := 212) (by decide +kernel), okk_w (k := 36) (by decide +kernel)⟩
set_option maxRecDepth 100000 in
theorem ci10 : okw (.instantiable "WhistleStop$Runs" 4) ∧ okw (.initialized "WhistleStop$Runs") := ⟨okk_w (k := 198) (by decide +kernel), okk_w (k := 34) (by decide +kernel)⟩
set_option maxRecDepth 100000 in
theorem ci11 : okw (.instantiable "WhistleStop$Trip" 8) ∧ okw (.initialized "WhistleStop$Trip") := ⟨okk_w (k := 947) (by decide +kernel), okk_w (k := 50) (by decide +kernel)⟩
set_option maxRecDepth 100000 in
theorem ci12 : okw (.instantiable "WhistleStopLaw$Table" 17) ∧ okw (.initialized "WhistleStopLaw$Table") := ⟨okk_w (k := 522) (by decide +kernel), okk_w (k := 31) (by decide +kernel)⟩
def mY : Nat → MethodName := fun i => match i with
  | 0 => ⟨"WhistleStop", "earliest", "(III)I"⟩
  | 1 => ⟨"WhistleStop", "needStop", "(I)V"⟩
  | 2 => ⟨"WhistleStop", "needIndex", "(II)V"⟩
  | 3 => ⟨"WhistleStop", "needTime", "(I)V"⟩
  | 4 => ⟨"WhistleStop", "isWithin", "(III)Z"⟩
  | 5 => ⟨"WhistleStop", "needArgument", "(Z)V"⟩
  | 6 => ⟨"WhistleStop", "leastEnd", "(IIII)I"⟩
  | 7 => ⟨"WhistleStop", "isDay", "(I)Z"⟩
  | 8 => ⟨"WhistleStop", "withRides", "(IIII)I"⟩
  | 9 => ⟨"WhistleStop", "rides", "(III)I"⟩
  | 10 => ⟨"WhistleStop", "cheapest", "(IIII)I"⟩
  | 11 => ⟨"WhistleStop", "latest", "(III)I"⟩
  | 12 => ⟨"WhistleStop", "reached", "(III)I"⟩
  | 13 => ⟨"WhistleStop", "find", "(III)I"⟩
  | 14 => ⟨"WhistleStop", "legs", "()I"⟩
  | 15 => ⟨"WhistleStop", "legTrip", "(I)I"⟩
  | 16 => ⟨"WhistleStop", "needLeg", "(I)V"⟩
  | 17 => ⟨"WhistleStop", "needState", "(Z)V"⟩
  | 18 => ⟨"WhistleStop", "legTo", "(I)I"⟩
  | 19 => ⟨"WhistleStop", "legBegin", "(I)I"⟩
  | 20 => ⟨"WhistleStop", "legEnd", "(I)I"⟩
  | 21 => ⟨"WhistleStop", "slack", "()I"⟩
  | 22 => ⟨"WhistleStop", "price", "()I"⟩
  | 23 => ⟨"WhistleStop", "holds", "()Z"⟩
  | 24 => ⟨"WhistleStop", "moving", "()D"⟩
  | 25 => ⟨"WhistleStop", "digest", "()J"⟩
  | 26 => ⟨"WhistleStop", "mix", "(JI)J"⟩
  | 27 => ⟨"WhistleStop", "lateOf", "(II)I"⟩
  | 28 => ⟨"WhistleStop", "needTrip", "(I)V"⟩
  | 29 => ⟨"WhistleStop", "mixJourney", "(J)J"⟩
  | 30 => ⟨"WhistleStop", "<init>", "()V"⟩
  | 31 => ⟨"WhistleStop", "except", "(IIZ)Z"⟩
  | 32 => ⟨"WhistleStop", "addStop", "(I)I"⟩
  | 33 => ⟨"WhistleStop", "addFootway", "(III)I"⟩
  | 34 => ⟨"WhistleStop", "addCalendar", "(III)I"⟩
  | 35 => ⟨"WhistleStop", "addTrip", "(IIII)I"⟩
  | 36 => ⟨"WhistleStop", "addCall", "(IIII)I"⟩
  | 37 => ⟨"WhistleStop", "calls", "(I)I"⟩
  | 38 => ⟨"WhistleStop", "cancel", "(II)Z"⟩
  | 39 => ⟨"WhistleStop", "late", "(III)I"⟩
  | 40 => ⟨"WhistleStop$Backward", "seek", "(LWhistleStop$Network;LWhistleStop$Runs;III)V"⟩
  | 41 => ⟨"WhistleStop$Backward", "alight", "(LWhistleStop$Network;I)V"⟩
  | 42 => ⟨"WhistleStop$Backward", "cross", "(IIII)V"⟩
  | 43 => ⟨"WhistleStop$Backward", "latestAt", "(II)I"⟩
  | 44 => ⟨"WhistleStop$Backward", "ride", "(LWhistleStop$Runs;[I[I)Z"⟩
  | 45 => ⟨"WhistleStop$Backward", "rideRun", "(LWhistleStop$Trip;I[I[I)Z"⟩
  | 46 => ⟨"WhistleStop$Backward", "latestBegin", "(LWhistleStop$Network;II)I"⟩
  | 47 => ⟨"WhistleStop$Backward", "<init>", "()V"⟩
  | 48 => ⟨"WhistleStop$Board", "<init>", "()V"⟩
  | 49 => ⟨"WhistleStop$Calendar", "isRunning", "(I)Z"⟩
  | 50 => ⟨"WhistleStop$Calendar", "<init>", "(III)V"⟩
  | 51 => ⟨"WhistleStop$Fares", "leastPrice", "(LWhistleStop$Network;LWhistleStop$Runs;IIII)I"⟩
  | 52 => ⟨"WhistleStop$Fares", "walk", "(LWhistleStop$Network;III)Z"⟩
  | 53 => ⟨"WhistleStop$Fares", "swap", "()V"⟩
  | 54 => ⟨"WhistleStop$Fares", "rideRun", "(LWhistleStop$Network;LWhistleStop$Trip;I)Z"⟩
  | 55 => ⟨"WhistleStop$Fares", "alight", "(LWhistleStop$Network;III)Z"⟩
  | 56 => ⟨"WhistleStop$Fares", "<init>", "()V"⟩
  | 57 => ⟨"WhistleStop$Footway", "across", "(I)I"⟩
  | 58 => ⟨"WhistleStop$Footway", "<init>", "(III)V"⟩
  | 59 => ⟨"WhistleStop$Journey", "ask", "(III)V"⟩
  | 60 => ⟨"WhistleStop$Journey", "trace", "(LWhistleStop$Network;LWhistleStop$Runs;LWhistleStop$Backward;I)V"⟩
  | 61 => ⟨"WhistleStop$Journey", "stopNow", "()I"⟩
  | 62 => ⟨"WhistleStop$Journey", "takeRide", "(LWhistleStop$Network;LWhistleStop$Runs;LWhistleStop$Backward;I)Z"⟩
  | 63 => ⟨"WhistleStop$Journey", "timeNow", "()I"⟩
  | 64 => ⟨"WhistleStop$Journey", "isAfterRide", "()Z"⟩
  | 65 => ⟨"WhistleStop$Journey", "alightingOf", "(LWhistleStop$Trip;II[I)I"⟩
  | 66 => ⟨"WhistleStop$Journey", "addRide", "(LWhistleStop$Trip;IIII)V"⟩
  | 67 => ⟨"WhistleStop$Journey", "addLeg", "(III)V"⟩
  | 68 => ⟨"WhistleStop$Journey", "takeWalk", "(LWhistleStop$Network;LWhistleStop$Backward;I)Z"⟩
  | 69 => ⟨"WhistleStop$Journey", "tripOf", "(I)I"⟩
  | 70 => ⟨"WhistleStop$Journey", "isPossible", "(LWhistleStop$Network;)Z"⟩
  | 71 => ⟨"WhistleStop$Journey", "minutesInAll", "()I"⟩
  | 72 => ⟨"WhistleStop$Journey", "minutesInRides", "()I"⟩
  | 73 => ⟨"WhistleStop$Journey", "<init>", "()V"⟩
  | 74 => ⟨"WhistleStop$Network", "<init>", "()V"⟩
  | 75 => ⟨"WhistleStop$Offers", "offer", "(II)Z"⟩
  | 76 => ⟨"WhistleStop$Offers", "priceAt", "(I)I"⟩
  | 77 => ⟨"WhistleStop$Offers", "makeRoom", "(I)V"⟩
  | 78 => ⟨"WhistleStop$Offers", "copy", "(LWhistleStop$Offers;)V"⟩
  | 79 => ⟨"WhistleStop$Offers", "<init>", "()V"⟩
  | 80 => ⟨"WhistleStop$Onward", "seek", "(LWhistleStop$Network;LWhistleStop$Runs;III)V"⟩
  | 81 => ⟨"WhistleStop$Onward", "begin", "(II)V"⟩
  | 82 => ⟨"WhistleStop$Onward", "walk", "(LWhistleStop$Network;I)V"⟩
  | 83 => ⟨"WhistleStop$Onward", "cross", "(IIII)V"⟩
  | 84 => ⟨"WhistleStop$Onward", "ride", "(LWhistleStop$Runs;[I)Z"⟩
  | 85 => ⟨"WhistleStop$Onward", "rideRun", "(LWhistleStop$Trip;I[I)Z"⟩
  | 86 => ⟨"WhistleStop$Onward", "alight", "(LWhistleStop$Network;I)V"⟩
  | 87 => ⟨"WhistleStop$Onward", "endOf", "(II)I"⟩
  | 88 => ⟨"WhistleStop$Onward", "isReached", "(I)Z"⟩
  | 89 => ⟨"WhistleStop$Onward", "fewestRides", "(I)I"⟩
  | 90 => ⟨"WhistleStop$Onward", "<init>", "()V"⟩
  | 91 => ⟨"WhistleStop$Runs", "collect", "(LWhistleStop$Network;II)V"⟩
  | 92 => ⟨"WhistleStop$Runs", "add", "(LWhistleStop$Trip;III)V"⟩
  | 93 => ⟨"WhistleStop$Runs", "<init>", "()V"⟩
  | 94 => ⟨"WhistleStop$Trip", "hasRun", "(I)Z"⟩
  | 95 => ⟨"WhistleStop$Trip", "baseOf", "(I)I"⟩
  | 96 => ⟨"WhistleStop$Trip", "lastDeparts", "()I"⟩
  | 97 => ⟨"WhistleStop$Trip", "<init>", "(ILWhistleStop$Calendar;I)V"⟩
  | 98 => ⟨"WhistleStop$Trip", "append", "(III)V"⟩
  | 99 => ⟨"WhistleStopLaw$Table", "<init>", "([II)V"⟩
  | 100 => ⟨"WhistleStopLaw$Table", "draw", "(I)I"⟩
  | 101 => ⟨"WhistleStopLaw$Table", "except", "()Z"⟩
  | 102 => ⟨"WhistleStopLaw$Table", "make", "(I)Z"⟩
  | 103 => ⟨"WhistleStopLaw$Table", "addCalendar", "()Z"⟩
  | 104 => ⟨"WhistleStopLaw$Table", "addTrip", "()Z"⟩
  | 105 => ⟨"WhistleStopLaw$Table", "disturb", "()Z"⟩
  | 106 => ⟨"WhistleStopLaw", "cell", "([II)I"⟩
  | 107 => ⟨"WhistleStopLaw", "below", "(II)I"⟩
  | 108 => ⟨"WhistleStopLaw", "law", "([I)Z"⟩
  | 109 => ⟨"java/lang/Math", "floorDiv", "(II)I"⟩
  | 110 => ⟨"java/lang/Math", "max", "(II)I"⟩
  | 111 => ⟨"java/lang/Math", "min", "(II)I"⟩
  | 112 => ⟨"java/util/Arrays", "fill", "([II)V"⟩
  | 113 => ⟨"java/util/Arrays", "copyOf", "([II)[I"⟩
  | _ => ⟨"", "", ""⟩
def mB : Nat → ByteArray := fun i => match i with
  | 0 => prog_1_method_20_code
  | 1 => prog_1_method_46_code
  | 2 => prog_1_method_43_code
  | 3 => prog_1_method_48_code
  | 4 => prog_1_method_41_code
  | 5 => prog_1_method_44_code
  | 6 => prog_1_method_40_code
  | 7 => prog_1_method_42_code
  | 8 => prog_1_method_21_code
  | 9 => prog_1_method_22_code
  | 10 => prog_1_method_23_code
  | 11 => prog_1_method_24_code
  | 12 => prog_1_method_25_code
  | 13 => prog_1_method_26_code
  | 14 => prog_1_method_27_code
  | 15 => prog_1_method_28_code
  | 16 => prog_1_method_49_code
  | 17 => prog_1_method_45_code
  | 18 => prog_1_method_29_code
  | 19 => prog_1_method_30_code
  | 20 => prog_1_method_31_code
  | 21 => prog_1_method_32_code
  | 22 => prog_1_method_33_code
  | 23 => prog_1_method_34_code
  | 24 => prog_1_method_36_code
  | 25 => prog_1_method_37_code
  | 26 => prog_1_method_39_code
  | 27 => prog_1_method_16_code
  | 28 => prog_1_method_47_code
  | 29 => prog_1_method_38_code
  | 30 => prog_1_method_1_code
  | 31 => prog_1_method_6_code
  | 32 => prog_1_method_2_code
  | 33 => prog_1_method_4_code
  | 34 => prog_1_method_5_code
  | 35 => prog_1_method_8_code
  | 36 => prog_1_method_9_code
  | 37 => prog_1_method_12_code
  | 38 => prog_1_method_15_code
  | 39 => prog_1_method_14_code
  | 40 => prog_2_method_2_code
  | 41 => prog_2_method_7_code
  | 42 => prog_2_method_8_code
  | 43 => prog_2_method_3_code
  | 44 => prog_2_method_5_code
  | 45 => prog_2_method_6_code
  | 46 => prog_2_method_4_code
  | 47 => prog_2_method_1_code
  | 48 => prog_3_method_1_code
  | 49 => prog_4_method_2_code
  | 50 => prog_4_method_1_code
  | 51 => prog_5_method_2_code
  | 52 => prog_5_method_6_code
  | 53 => prog_5_method_3_code
  | 54 => prog_5_method_4_code
  | 55 => prog_5_method_5_code
  | 56 => prog_5_method_1_code
  | 57 => prog_6_method_2_code
  | 58 => prog_6_method_1_code
  | 59 => prog_7_method_2_code
  | 60 => prog_7_method_3_code
  | 61 => prog_7_method_4_code
  | 62 => prog_7_method_7_code
  | 63 => prog_7_method_5_code
  | 64 => prog_7_method_6_code
  | 65 => prog_7_method_8_code
  | 66 => prog_7_method_9_code
  | 67 => prog_7_method_11_code
  | 68 => prog_7_method_10_code
  | 69 => prog_7_method_12_code
  | 70 => prog_7_method_13_code
  | 71 => prog_7_method_14_code
  | 72 => prog_7_method_15_code
  | 73 => prog_7_method_1_code
  | 74 => prog_8_method_1_code
  | 75 => prog_9_method_3_code
  | 76 => prog_9_method_2_code
  | 77 => prog_9_method_5_code
  | 78 => prog_9_method_4_code
  | 79 => prog_9_method_1_code
  | 80 => prog_10_method_5_code
  | 81 => prog_10_method_6_code
  | 82 => prog_10_method_10_code
  | 83 => prog_10_method_11_code
  | 84 => prog_10_method_7_code
  | 85 => prog_10_method_8_code
  | 86 => prog_10_method_9_code
  | 87 => prog_10_method_3_code
  | 88 => prog_10_method_2_code
  | 89 => prog_10_method_4_code
  | 90 => prog_10_method_1_code
  | 91 => prog_11_method_2_code
  | 92 => prog_11_method_3_code
  | 93 => prog_11_method_1_code
  | 94 => prog_12_method_4_code
  | 95 => prog_12_method_5_code
  | 96 => prog_12_method_3_code
  | 97 => prog_12_method_1_code
  | 98 => prog_12_method_2_code
  | 99 => prog_14_method_1_code
  | 100 => prog_14_method_2_code
  | 101 => prog_14_method_4_code
  | 102 => prog_14_method_6_code
  | 103 => prog_14_method_3_code
  | 104 => prog_14_method_5_code
  | 105 => prog_14_method_7_code
  | 106 => method_3_code
  | 107 => method_2_code
  | 108 => code
  | 109 => prog_21_method_47_code
  | 110 => prog_21_method_65_code
  | 111 => prog_21_method_69_code
  | 112 => prog_26_method_103_code
  | 113 => prog_26_method_123_code
  | _ => ⟨#[]⟩
def mL : Nat → Nat := fun i => match i with
  | 0 => 4
  | 1 => 2
  | 2 => 2
  | 3 => 1
  | 4 => 3
  | 5 => 1
  | 6 => 6
  | 7 => 1
  | 8 => 5
  | 9 => 4
  | 10 => 6
  | 11 => 7
  | 12 => 6
  | 13 => 5
  | 14 => 1
  | 15 => 2
  | 16 => 2
  | 17 => 1
  | 18 => 2
  | 19 => 2
  | 20 => 2
  | 21 => 1
  | 22 => 1
  | 23 => 1
  | 24 => 2
  | 25 => 5
  | 26 => 3
  | 27 => 3
  | 28 => 2
  | 29 => 6
  | 30 => 1
  | 31 => 6
  | 32 => 2
  | 33 => 4
  | 34 => 4
  | 35 => 6
  | 36 => 6
  | 37 => 2
  | 38 => 4
  | 39 => 5
  | 40 => 8
  | 41 => 5
  | 42 => 5
  | 43 => 3
  | 44 => 6
  | 45 => 10
  | 46 => 8
  | 47 => 1
  | 48 => 1
  | 49 => 2
  | 50 => 4
  | 51 => 10
  | 52 => 10
  | 53 => 3
  | 54 => 9
  | 55 => 6
  | 56 => 2
  | 57 => 2
  | 58 => 4
  | 59 => 4
  | 60 => 7
  | 61 => 1
  | 62 => 12
  | 63 => 1
  | 64 => 1
  | 65 => 6
  | 66 => 8
  | 67 => 4
  | 68 => 8
  | 69 => 3
  | 70 => 7
  | 71 => 1
  | 72 => 3
  | 73 => 1
  | 74 => 1
  | 75 => 5
  | 76 => 3
  | 77 => 2
  | 78 => 2
  | 79 => 1
  | 80 => 8
  | 81 => 3
  | 82 => 5
  | 83 => 6
  | 84 => 5
  | 85 => 9
  | 86 => 4
  | 87 => 3
  | 88 => 2
  | 89 => 3
  | 90 => 1
  | 91 => 9
  | 92 => 7
  | 93 => 1
  | 94 => 2
  | 95 => 2
  | 96 => 1
  | 97 => 4
  | 98 => 4
  | 99 => 3
  | 100 => 3
  | 101 => 4
  | 102 => 5
  | 103 => 5
  | 104 => 4
  | 105 => 4
  | 106 => 2
  | 107 => 2
  | 108 => 23
  | 109 => 3
  | 110 => 2
  | 111 => 2
  | 112 => 4
  | 113 => 3
  | _ => 0
def mR : Nat → Option FieldType := fun i => match i with
  | 0 => (some Jvm.ClassFile.FieldType.int)
  | 1 => none
  | 2 => none
  | 3 => none
  | 4 => (some Jvm.ClassFile.FieldType.boolean)
  | 5 => none
  | 6 => (some Jvm.ClassFile.FieldType.int)
  | 7 => (some Jvm.ClassFile.FieldType.boolean)
  | 8 => (some Jvm.ClassFile.FieldType.int)
  | 9 => (some Jvm.ClassFile.FieldType.int)
  | 10 => (some Jvm.ClassFile.FieldType.int)
  | 11 => (some Jvm.ClassFile.FieldType.int)
  | 12 => (some Jvm.ClassFile.FieldType.int)
  | 13 => (some Jvm.ClassFile.FieldType.int)
  | 14 => (some Jvm.ClassFile.FieldType.int)
  | 15 => (some Jvm.ClassFile.FieldType.int)
  | 16 => none
  | 17 => none
  | 18 => (some Jvm.ClassFile.FieldType.int)
  | 19 => (some Jvm.ClassFile.FieldType.int)
  | 20 => (some Jvm.ClassFile.FieldType.int)
  | 21 => (some Jvm.ClassFile.FieldType.int)
  | 22 => (some Jvm.ClassFile.FieldType.int)
  | 23 => (some Jvm.ClassFile.FieldType.boolean)
  | 24 => (some Jvm.ClassFile.FieldType.double)
  | 25 => (some Jvm.ClassFile.FieldType.long)
  | 26 => (some Jvm.ClassFile.FieldType.long)
  | 27 => (some Jvm.ClassFile.FieldType.int)
  | 28 => none
  | 29 => (some Jvm.ClassFile.FieldType.long)
  | 30 => none
  | 31 => (some Jvm.ClassFile.FieldType.boolean)
  | 32 => (some Jvm.ClassFile.FieldType.int)
  | 33 => (some Jvm.ClassFile.FieldType.int)
  | 34 => (some Jvm.ClassFile.FieldType.int)
  | 35 => (some Jvm.ClassFile.FieldType.int)
  | 36 => (some Jvm.ClassFile.FieldType.int)
  | 37 => (some Jvm.ClassFile.FieldType.int)
  | 38 => (some Jvm.ClassFile.FieldType.boolean)
  | 39 => (some Jvm.ClassFile.FieldType.int)
  | 40 => none
  | 41 => none
  | 42 => none
  | 43 => (some Jvm.ClassFile.FieldType.int)
  | 44 => (some Jvm.ClassFile.FieldType.boolean)
  | 45 => (some Jvm.ClassFile.FieldType.boolean)
  | 46 => (some Jvm.ClassFile.FieldType.int)
  | 47 => none
  | 48 => none
  | 49 => (some Jvm.ClassFile.FieldType.boolean)
  | 50 => none
  | 51 => (some Jvm.ClassFile.FieldType.int)
  | 52 => (some Jvm.ClassFile.FieldType.boolean)
  | 53 => none
  | 54 => (some Jvm.ClassFile.FieldType.boolean)
  | 55 => (some Jvm.ClassFile.FieldType.boolean)
  | 56 => none
  | 57 => (some Jvm.ClassFile.FieldType.int)
  | 58 => none
  | 59 => none
  | 60 => none
  | 61 => (some Jvm.ClassFile.FieldType.int)
  | 62 => (some Jvm.ClassFile.FieldType.boolean)
  | 63 => (some Jvm.ClassFile.FieldType.int)
  | 64 => (some Jvm.ClassFile.FieldType.boolean)
  | 65 => (some Jvm.ClassFile.FieldType.int)
  | 66 => none
  | 67 => none
  | 68 => (some Jvm.ClassFile.FieldType.boolean)
  | 69 => (some Jvm.ClassFile.FieldType.int)
  | 70 => (some Jvm.ClassFile.FieldType.boolean)
  | 71 => (some Jvm.ClassFile.FieldType.int)
  | 72 => (some Jvm.ClassFile.FieldType.int)
  | 73 => none
  | 74 => none
  | 75 => (some Jvm.ClassFile.FieldType.boolean)
  | 76 => (some Jvm.ClassFile.FieldType.int)
  | 77 => none
  | 78 => none
  | 79 => none
  | 80 => none
  | 81 => none
  | 82 => none
  | 83 => none
  | 84 => (some Jvm.ClassFile.FieldType.boolean)
  | 85 => (some Jvm.ClassFile.FieldType.boolean)
  | 86 => none
  | 87 => (some Jvm.ClassFile.FieldType.int)
  | 88 => (some Jvm.ClassFile.FieldType.boolean)
  | 89 => (some Jvm.ClassFile.FieldType.int)
  | 90 => none
  | 91 => none
  | 92 => none
  | 93 => none
  | 94 => (some Jvm.ClassFile.FieldType.boolean)
  | 95 => (some Jvm.ClassFile.FieldType.int)
  | 96 => (some Jvm.ClassFile.FieldType.int)
  | 97 => none
  | 98 => none
  | 99 => none
  | 100 => (some Jvm.ClassFile.FieldType.int)
  | 101 => (some Jvm.ClassFile.FieldType.boolean)
  | 102 => (some Jvm.ClassFile.FieldType.boolean)
  | 103 => (some Jvm.ClassFile.FieldType.boolean)
  | 104 => (some Jvm.ClassFile.FieldType.boolean)
  | 105 => (some Jvm.ClassFile.FieldType.boolean)
  | 106 => (some Jvm.ClassFile.FieldType.int)
  | 107 => (some Jvm.ClassFile.FieldType.int)
  | 108 => (some .boolean)
  | 109 => (some Jvm.ClassFile.FieldType.int)
  | 110 => (some Jvm.ClassFile.FieldType.int)
  | 111 => (some Jvm.ClassFile.FieldType.int)
  | 112 => none
  | 113 => (some (Jvm.ClassFile.FieldType.array Jvm.ClassFile.FieldType.int))
  | _ => none
def mC : Nat → Nat := fun i => match i with
  | 0 => 1
  | 1 => 1
  | 2 => 1
  | 3 => 1
  | 4 => 1
  | 5 => 1
  | 6 => 1
  | 7 => 1
  | 8 => 1
  | 9 => 1
  | 10 => 1
  | 11 => 1
  | 12 => 1
  | 13 => 1
  | 14 => 1
  | 15 => 1
  | 16 => 1
  | 17 => 1
  | 18 => 1
  | 19 => 1
  | 20 => 1
  | 21 => 1
  | 22 => 1
  | 23 => 1
  | 24 => 1
  | 25 => 1
  | 26 => 1
  | 27 => 1
  | 28 => 1
  | 29 => 1
  | 30 => 1
  | 31 => 1
  | 32 => 1
  | 33 => 1
  | 34 => 1
  | 35 => 1
  | 36 => 1
  | 37 => 1
  | 38 => 1
  | 39 => 1
  | 40 => 2
  | 41 => 2
  | 42 => 2
  | 43 => 2
  | 44 => 2
  | 45 => 2
  | 46 => 2
  | 47 => 2
  | 48 => 3
  | 49 => 4
  | 50 => 4
  | 51 => 5
  | 52 => 5
  | 53 => 5
  | 54 => 5
  | 55 => 5
  | 56 => 5
  | 57 => 6
  | 58 => 6
  | 59 => 7
  | 60 => 7
  | 61 => 7
  | 62 => 7
  | 63 => 7
  | 64 => 7
  | 65 => 7
  | 66 => 7
  | 67 => 7
  | 68 => 7
  | 69 => 7
  | 70 => 7
  | 71 => 7
  | 72 => 7
  | 73 => 7
  | 74 => 8
  | 75 => 9
  | 76 => 9
  | 77 => 9
  | 78 => 9
  | 79 => 9
  | 80 => 10
  | 81 => 10
  | 82 => 10
  | 83 => 10
  | 84 => 10
  | 85 => 10
  | 86 => 10
  | 87 => 10
  | 88 => 10
  | 89 => 10
  | 90 => 10
  | 91 => 11
  | 92 => 11
  | 93 => 11
  | 94 => 12
  | 95 => 12
  | 96 => 12
  | 97 => 12
  | 98 => 12
  | 99 => 13
  | 100 => 13
  | 101 => 13
  | 102 => 13
  | 103 => 13
  | 104 => 13
  | 105 => 13
  | 106 => 0
  | 107 => 0
  | 108 => 0
  | 109 => 0
  | 110 => 0
  | 111 => 0
  | 112 => 0
  | 113 => 0
  | _ => 0
def mF : Nat → Nat := fun i => match i with
  | 0 => 8
  | 1 => 7
  | 2 => 6
  | 3 => 7
  | 4 => 0
  | 5 => 6
  | 6 => 6
  | 7 => 1
  | 8 => 8
  | 9 => 8
  | 10 => 8
  | 11 => 8
  | 12 => 8
  | 13 => 8
  | 14 => 0
  | 15 => 8
  | 16 => 7
  | 17 => 6
  | 18 => 8
  | 19 => 8
  | 20 => 8
  | 21 => 7
  | 22 => 7
  | 23 => 7
  | 24 => 2
  | 25 => 9
  | 26 => 0
  | 27 => 8
  | 28 => 7
  | 29 => 5
  | 30 => 3
  | 31 => 7
  | 32 => 7
  | 33 => 8
  | 34 => 7
  | 35 => 8
  | 36 => 8
  | 37 => 8
  | 38 => 8
  | 39 => 8
  | 40 => 3
  | 41 => 2
  | 42 => 1
  | 43 => 0
  | 44 => 1
  | 45 => 0
  | 46 => 1
  | 47 => 1
  | 48 => 1
  | 49 => 2
  | 50 => 1
  | 51 => 7
  | 52 => 4
  | 53 => 4
  | 54 => 6
  | 55 => 5
  | 56 => 2
  | 57 => 0
  | 58 => 1
  | 59 => 0
  | 60 => 5
  | 61 => 0
  | 62 => 4
  | 63 => 0
  | 64 => 0
  | 65 => 0
  | 66 => 3
  | 67 => 0
  | 68 => 1
  | 69 => 0
  | 70 => 4
  | 71 => 1
  | 72 => 0
  | 73 => 1
  | 74 => 1
  | 75 => 3
  | 76 => 0
  | 77 => 2
  | 78 => 3
  | 79 => 1
  | 80 => 5
  | 81 => 1
  | 82 => 2
  | 83 => 1
  | 84 => 1
  | 85 => 0
  | 86 => 1
  | 87 => 1
  | 88 => 0
  | 89 => 0
  | 90 => 1
  | 91 => 4
  | 92 => 3
  | 93 => 1
  | 94 => 3
  | 95 => 2
  | 96 => 0
  | 97 => 1
  | 98 => 0
  | 99 => 4
  | 100 => 1
  | 101 => 8
  | 102 => 10
  | 103 => 9
  | 104 => 9
  | 105 => 9
  | 106 => 0
  | 107 => 0
  | 108 => 11
  | 109 => 0
  | 110 => 0
  | 111 => 0
  | 112 => 0
  | 113 => 1
  | _ => 0
def mK : Nat → Nat := fun i => match i with
  | 0 => 182
  | 1 => 161
  | 2 => 140
  | 3 => 160
  | 4 => 0
  | 5 => 140
  | 6 => 144
  | 7 => 22
  | 8 => 182
  | 9 => 182
  | 10 => 237
  | 11 => 182
  | 12 => 182
  | 13 => 182
  | 14 => 0
  | 15 => 182
  | 16 => 161
  | 17 => 140
  | 18 => 182
  | 19 => 182
  | 20 => 182
  | 21 => 160
  | 22 => 160
  | 23 => 160
  | 24 => 40
  | 25 => 204
  | 26 => 0
  | 27 => 182
  | 28 => 161
  | 29 => 110
  | 30 => 53
  | 31 => 161
  | 32 => 160
  | 33 => 182
  | 34 => 160
  | 35 => 182
  | 36 => 182
  | 37 => 182
  | 38 => 182
  | 39 => 182
  | 40 => 70
  | 41 => 46
  | 42 => 22
  | 43 => 0
  | 44 => 29
  | 45 => 0
  | 46 => 22
  | 47 => 12
  | 48 => 12
  | 49 => 42
  | 50 => 12
  | 51 => 208
  | 52 => 126
  | 53 => 123
  | 54 => 180
  | 55 => 155
  | 56 => 32
  | 57 => 0
  | 58 => 12
  | 59 => 0
  | 60 => 121
  | 61 => 0
  | 62 => 90
  | 63 => 0
  | 64 => 0
  | 65 => 0
  | 66 => 63
  | 67 => 0
  | 68 => 23
  | 69 => 0
  | 70 => 84
  | 71 => 20
  | 72 => 0
  | 73 => 12
  | 74 => 12
  | 75 => 102
  | 76 => 0
  | 77 => 81
  | 78 => 102
  | 79 => 12
  | 80 => 117
  | 81 => 23
  | 82 => 46
  | 83 => 21
  | 84 => 28
  | 85 => 0
  | 86 => 21
  | 87 => 22
  | 88 => 0
  | 89 => 0
  | 90 => 12
  | 91 => 89
  | 92 => 63
  | 93 => 12
  | 94 => 63
  | 95 => 42
  | 96 => 0
  | 97 => 12
  | 98 => 0
  | 99 => 73
  | 100 => 21
  | 101 => 186
  | 102 => 233
  | 103 => 209
  | 104 => 207
  | 105 => 206
  | 106 => 0
  | 107 => 0
  | 108 => 262
  | 109 => 0
  | 110 => 0
  | 111 => 0
  | 112 => 0
  | 113 => 59
  | _ => 0
def mX : Nat → List ExceptionTableEntry := fun i => match i with
  | _ => []
/-- a method's own word -/
def cdP (i : Nat) : Prop := okw (.code (mY i) (mB i) (mL i) (mR i)) ∧ plainFor (mY i) = true ∧ ((mY i).cls ≠ "java/lang/invoke/MethodHandle" ∧ (mY i).cls ≠ "java/lang/invoke/VarHandle") ∧ okw (.initialized (mY i).cls)
/-- a call of method j at the pool's place idx out of method i, n arguments -/
def cvP (i idx j n : Nat) : Prop := cdP j ∧ okw (.methodLink (mY i).cls idx (mY j)) ∧ okw (.instanceMethod (mY j)) ∧ okw (.selects (mY j).cls (mY j) (mY j)) ∧ (parseMethodDescriptor (mY j).desc).map (fun d => d.parameters.length) = some n ∧ (mF j + 1 ≤ mF i ∧ 8 + (mL j + 11) + mK j ≤ mK i)
def csP (i idx j n : Nat) : Prop := cdP j ∧ okw (.methodLink (mY i).cls idx (mY j)) ∧ okw (.static (mY j)) ∧ (parseMethodDescriptor (mY j).desc).map (fun d => d.parameters.length) = some n ∧ (mF j + 1 ≤ mF i ∧ 8 + (mL j + 11) + mK j ≤ mK i)
def csnP (i idx j n : Nat) : Prop := cdP j ∧ (∃ h, okw (.methodLinkNest (mY i).cls idx (mY j) h)) ∧ okw (.static (mY j)) ∧ (parseMethodDescriptor (mY j).desc).map (fun d => d.parameters.length) = some n ∧ (mF j + 1 ≤ mF i ∧ 8 + (mL j + 11) + mK j ≤ mK i)
def ciP (i idx j n : Nat) : Prop := cdP j ∧ okw (.methodLink (mY i).cls idx (mY j)) ∧ okw (.instanceMethod (mY j)) ∧ (mY j).name = "<init>" ∧ (parseMethodDescriptor (mY j).desc).map (fun d => d.parameters.length) = some n ∧ (mF j + 1 ≤ mF i ∧ 8 + (mL j + 11) + mK j ≤ mK i)
def cinP (i idx j n : Nat) : Prop := cdP j ∧ (∃ h, okw (.methodLinkNest (mY i).cls idx (mY j) h)) ∧ okw (.instanceMethod (mY j)) ∧ (mY j).name = "<init>" ∧ (parseMethodDescriptor (mY j).desc).map (fun d => d.parameters.length) = some n ∧ (mF j + 1 ≤ mF i ∧ 8 + (mL j + 11) + mK j ≤ mK i)
/-- the field k of class ci at the pool's place idx of the class own -/
def flP (own : String) (idx ci k : Nat) : Prop := ∃ q : vw_C, CL[ci]? = some q ∧ k < q.2.2 ∧ okw (.fieldLink own idx q.1 (q.2.1 k).2.1 (q.2.1 k).2.2.1)
