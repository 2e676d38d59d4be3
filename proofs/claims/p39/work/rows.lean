section
-- ===== PART A: goes FIRST, ahead of the names: the tables' words, and 'selects' of the private methods out of them =====
/-- a private method of a class that the tables say can be made, by its rows of tables_1 -/
def lw_okq (q : MethodName × Nat) : Prop := (q.1.cls ≠ "java/lang/invoke/MethodHandle" ∧ q.1.cls ≠ "java/lang/invoke/VarHandle") ∧ Cond.instantiable q.1.cls q.2 ∈ tables_1 ∧ Cond.privateMethod q.1 ∈ tables_1 ∧ Cond.instanceMethod q.1 ∈ tables_1
theorem lw_p0 : lw_okq (⟨"WhistleStop", "needStop", "(I)V"⟩, 7) := ⟨⟨by decide +kernel, by decide +kernel⟩, List.mem_of_getElem? (i := 30) (by decide +kernel), List.mem_of_getElem? (i := 28) (by decide +kernel), List.mem_of_getElem? (i := 29) (by decide +kernel)⟩
theorem lw_p1 : lw_okq (⟨"java/lang/Throwable", "fillInStackTrace", "(I)Ljava/lang/Throwable;"⟩, 6) := ⟨⟨by decide +kernel, by decide +kernel⟩, List.mem_of_getElem? (i := 76) (by decide +kernel), List.mem_of_getElem? (i := 74) (by decide +kernel), List.mem_of_getElem? (i := 75) (by decide +kernel)⟩
theorem lw_p2 : lw_okq (⟨"WhistleStop", "leastEnd", "(IIII)I"⟩, 7) := ⟨⟨by decide +kernel, by decide +kernel⟩, List.mem_of_getElem? (i := 30) (by decide +kernel), List.mem_of_getElem? (i := 132) (by decide +kernel), List.mem_of_getElem? (i := 133) (by decide +kernel)⟩
theorem lw_p3 : lw_okq (⟨"WhistleStop$Runs", "add", "(LWhistleStop$Trip;III)V"⟩, 4) := ⟨⟨by decide +kernel, by decide +kernel⟩, List.mem_of_getElem? (i := 168) (by decide +kernel), List.mem_of_getElem? (i := 166) (by decide +kernel), List.mem_of_getElem? (i := 167) (by decide +kernel)⟩
theorem lw_p4 : lw_okq (⟨"WhistleStop$Onward", "begin", "(II)V"⟩, 4) := ⟨⟨by decide +kernel, by decide +kernel⟩, List.mem_of_getElem? (i := 182) (by decide +kernel), List.mem_of_getElem? (i := 180) (by decide +kernel), List.mem_of_getElem? (i := 181) (by decide +kernel)⟩
theorem lw_p5 : lw_okq (⟨"WhistleStop$Onward", "walk", "(LWhistleStop$Network;I)V"⟩, 4) := ⟨⟨by decide +kernel, by decide +kernel⟩, List.mem_of_getElem? (i := 182) (by decide +kernel), List.mem_of_getElem? (i := 189) (by decide +kernel), List.mem_of_getElem? (i := 190) (by decide +kernel)⟩
theorem lw_p6 : lw_okq (⟨"WhistleStop$Onward", "cross", "(IIII)V"⟩, 4) := ⟨⟨by decide +kernel, by decide +kernel⟩, List.mem_of_getElem? (i := 182) (by decide +kernel), List.mem_of_getElem? (i := 193) (by decide +kernel), List.mem_of_getElem? (i := 194) (by decide +kernel)⟩
theorem lw_p7 : lw_okq (⟨"WhistleStop$Onward", "ride", "(LWhistleStop$Runs;[I)Z"⟩, 4) := ⟨⟨by decide +kernel, by decide +kernel⟩, List.mem_of_getElem? (i := 182) (by decide +kernel), List.mem_of_getElem? (i := 201) (by decide +kernel), List.mem_of_getElem? (i := 202) (by decide +kernel)⟩
theorem lw_p8 : lw_okq (⟨"WhistleStop$Onward", "rideRun", "(LWhistleStop$Trip;I[I)Z"⟩, 4) := ⟨⟨by decide +kernel, by decide +kernel⟩, List.mem_of_getElem? (i := 182) (by decide +kernel), List.mem_of_getElem? (i := 205) (by decide +kernel), List.mem_of_getElem? (i := 206) (by decide +kernel)⟩
theorem lw_p9 : lw_okq (⟨"WhistleStop$Onward", "alight", "(LWhistleStop$Network;I)V"⟩, 4) := ⟨⟨by decide +kernel, by decide +kernel⟩, List.mem_of_getElem? (i := 182) (by decide +kernel), List.mem_of_getElem? (i := 209) (by decide +kernel), List.mem_of_getElem? (i := 210) (by decide +kernel)⟩
theorem lw_p10 : lw_okq (⟨"WhistleStop$Offers", "makeRoom", "(I)V"⟩, 3) := ⟨⟨by decide +kernel, by decide +kernel⟩, List.mem_of_getElem? (i := 257) (by decide +kernel), List.mem_of_getElem? (i := 255) (by decide +kernel), List.mem_of_getElem? (i := 256) (by decide +kernel)⟩
theorem lw_p11 : lw_okq (⟨"WhistleStop$Fares", "walk", "(LWhistleStop$Network;III)Z"⟩, 5) := ⟨⟨by decide +kernel, by decide +kernel⟩, List.mem_of_getElem? (i := 275) (by decide +kernel), List.mem_of_getElem? (i := 273) (by decide +kernel), List.mem_of_getElem? (i := 274) (by decide +kernel)⟩
theorem lw_p12 : lw_okq (⟨"WhistleStop$Fares", "swap", "()V"⟩, 5) := ⟨⟨by decide +kernel, by decide +kernel⟩, List.mem_of_getElem? (i := 275) (by decide +kernel), List.mem_of_getElem? (i := 283) (by decide +kernel), List.mem_of_getElem? (i := 284) (by decide +kernel)⟩
theorem lw_p13 : lw_okq (⟨"WhistleStop$Fares", "rideRun", "(LWhistleStop$Network;LWhistleStop$Trip;I)Z"⟩, 5) := ⟨⟨by decide +kernel, by decide +kernel⟩, List.mem_of_getElem? (i := 275) (by decide +kernel), List.mem_of_getElem? (i := 291) (by decide +kernel), List.mem_of_getElem? (i := 292) (by decide +kernel)⟩
theorem lw_p14 : lw_okq (⟨"WhistleStop$Fares", "alight", "(LWhistleStop$Network;III)Z"⟩, 5) := ⟨⟨by decide +kernel, by decide +kernel⟩, List.mem_of_getElem? (i := 275) (by decide +kernel), List.mem_of_getElem? (i := 295) (by decide +kernel), List.mem_of_getElem? (i := 296) (by decide +kernel)⟩
theorem lw_p15 : lw_okq (⟨"WhistleStop$Backward", "alight", "(LWhistleStop$Network;I)V"⟩, 4) := ⟨⟨by decide +kernel, by decide +kernel⟩, List.mem_of_getElem? (i := 313) (by decide +kernel), List.mem_of_getElem? (i := 311) (by decide +kernel), List.mem_of_getElem? (i := 312) (by decide +kernel)⟩
def lw_privs_1 : List (MethodName × Nat) := [(⟨"WhistleStop", "needStop", "(I)V"⟩, 7), (⟨"java/lang/Throwable", "fillInStackTrace", "(I)Ljava/lang/Throwable;"⟩, 6), (⟨"WhistleStop", "leastEnd", "(IIII)I"⟩, 7), (⟨"WhistleStop$Runs", "add", "(LWhistleStop$Trip;III)V"⟩, 4), (⟨"WhistleStop$Onward", "begin", "(II)V"⟩, 4), (⟨"WhistleStop$Onward", "walk", "(LWhistleStop$Network;I)V"⟩, 4), (⟨"WhistleStop$Onward", "cross", "(IIII)V"⟩, 4), (⟨"WhistleStop$Onward", "ride", "(LWhistleStop$Runs;[I)Z"⟩, 4), (⟨"WhistleStop$Onward", "rideRun", "(LWhistleStop$Trip;I[I)Z"⟩, 4), (⟨"WhistleStop$Onward", "alight", "(LWhistleStop$Network;I)V"⟩, 4), (⟨"WhistleStop$Offers", "makeRoom", "(I)V"⟩, 3), (⟨"WhistleStop$Fares", "walk", "(LWhistleStop$Network;III)Z"⟩, 5), (⟨"WhistleStop$Fares", "swap", "()V"⟩, 5), (⟨"WhistleStop$Fares", "rideRun", "(LWhistleStop$Network;LWhistleStop$Trip;I)Z"⟩, 5), (⟨"WhistleStop$Fares", "alight", "(LWhistleStop$Network;III)Z"⟩, 5), (⟨"WhistleStop$Backward", "alight", "(LWhistleStop$Network;I)V"⟩, 4)]
theorem lw_r1 : ∀ q ∈ lw_privs_1, lw_okq q := List.forall_mem_cons.mpr ⟨lw_p0, List.forall_mem_cons.mpr ⟨lw_p1, List.forall_mem_cons.mpr ⟨lw_p2, List.forall_mem_cons.mpr ⟨lw_p3, List.forall_mem_cons.mpr ⟨lw_p4, List.forall_mem_cons.mpr ⟨lw_p5, List.forall_mem_cons.mpr ⟨lw_p6, List.forall_mem_cons.mpr ⟨lw_p7, List.forall_mem_cons.mpr ⟨lw_p8, List.forall_mem_cons.mpr ⟨lw_p9, List.forall_mem_cons.mpr ⟨lw_p10, List.forall_mem_cons.mpr ⟨lw_p11, List.forall_mem_cons.mpr ⟨lw_p12, List.forall_mem_cons.mpr ⟨lw_p13, List.forall_mem_cons.mpr ⟨lw_p14, List.forall_mem_cons.mpr ⟨lw_p15, fun _ h => absurd h List.not_mem_nil⟩⟩⟩⟩⟩⟩⟩⟩⟩⟩⟩⟩⟩⟩⟩⟩
theorem lw_p16 : lw_okq (⟨"WhistleStop$Backward", "cross", "(IIII)V"⟩, 4) := ⟨⟨by decide +kernel, by decide +kernel⟩, List.mem_of_getElem? (i := 313) (by decide +kernel), List.mem_of_getElem? (i := 316) (by decide +kernel), List.mem_of_getElem? (i := 317) (by decide +kernel)⟩
theorem lw_p17 : lw_okq (⟨"WhistleStop$Backward", "ride", "(LWhistleStop$Runs;[I[I)Z"⟩, 4) := ⟨⟨by decide +kernel, by decide +kernel⟩, List.mem_of_getElem? (i := 313) (by decide +kernel), List.mem_of_getElem? (i := 327) (by decide +kernel), List.mem_of_getElem? (i := 328) (by decide +kernel)⟩
theorem lw_p18 : lw_okq (⟨"WhistleStop$Backward", "rideRun", "(LWhistleStop$Trip;I[I[I)Z"⟩, 4) := ⟨⟨by decide +kernel, by decide +kernel⟩, List.mem_of_getElem? (i := 313) (by decide +kernel), List.mem_of_getElem? (i := 331) (by decide +kernel), List.mem_of_getElem? (i := 332) (by decide +kernel)⟩
theorem lw_p19 : lw_okq (⟨"WhistleStop$Journey", "stopNow", "()I"⟩, 14) := ⟨⟨by decide +kernel, by decide +kernel⟩, List.mem_of_getElem? (i := 359) (by decide +kernel), List.mem_of_getElem? (i := 357) (by decide +kernel), List.mem_of_getElem? (i := 358) (by decide +kernel)⟩
theorem lw_p20 : lw_okq (⟨"WhistleStop$Journey", "takeRide", "(LWhistleStop$Network;LWhistleStop$Runs;LWhistleStop$Backward;I)Z"⟩, 14) := ⟨⟨by decide +kernel, by decide +kernel⟩, List.mem_of_getElem? (i := 359) (by decide +kernel), List.mem_of_getElem? (i := 362) (by decide +kernel), List.mem_of_getElem? (i := 363) (by decide +kernel)⟩
theorem lw_p21 : lw_okq (⟨"WhistleStop$Journey", "timeNow", "()I"⟩, 14) := ⟨⟨by decide +kernel, by decide +kernel⟩, List.mem_of_getElem? (i := 359) (by decide +kernel), List.mem_of_getElem? (i := 366) (by decide +kernel), List.mem_of_getElem? (i := 367) (by decide +kernel)⟩
theorem lw_p22 : lw_okq (⟨"WhistleStop$Journey", "isAfterRide", "()Z"⟩, 14) := ⟨⟨by decide +kernel, by decide +kernel⟩, List.mem_of_getElem? (i := 359) (by decide +kernel), List.mem_of_getElem? (i := 370) (by decide +kernel), List.mem_of_getElem? (i := 371) (by decide +kernel)⟩
theorem lw_p23 : lw_okq (⟨"WhistleStop$Journey", "alightingOf", "(LWhistleStop$Trip;II[I)I"⟩, 14) := ⟨⟨by decide +kernel, by decide +kernel⟩, List.mem_of_getElem? (i := 359) (by decide +kernel), List.mem_of_getElem? (i := 374) (by decide +kernel), List.mem_of_getElem? (i := 375) (by decide +kernel)⟩
theorem lw_p24 : lw_okq (⟨"WhistleStop$Journey", "addRide", "(LWhistleStop$Trip;IIII)V"⟩, 14) := ⟨⟨by decide +kernel, by decide +kernel⟩, List.mem_of_getElem? (i := 359) (by decide +kernel), List.mem_of_getElem? (i := 378) (by decide +kernel), List.mem_of_getElem? (i := 379) (by decide +kernel)⟩
theorem lw_p25 : lw_okq (⟨"WhistleStop$Journey", "addLeg", "(III)V"⟩, 14) := ⟨⟨by decide +kernel, by decide +kernel⟩, List.mem_of_getElem? (i := 359) (by decide +kernel), List.mem_of_getElem? (i := 384) (by decide +kernel), List.mem_of_getElem? (i := 385) (by decide +kernel)⟩
theorem lw_p26 : lw_okq (⟨"WhistleStop$Journey", "takeWalk", "(LWhistleStop$Network;LWhistleStop$Backward;I)Z"⟩, 14) := ⟨⟨by decide +kernel, by decide +kernel⟩, List.mem_of_getElem? (i := 359) (by decide +kernel), List.mem_of_getElem? (i := 388) (by decide +kernel), List.mem_of_getElem? (i := 389) (by decide +kernel)⟩
theorem lw_p27 : lw_okq (⟨"WhistleStop", "needLeg", "(I)V"⟩, 7) := ⟨⟨by decide +kernel, by decide +kernel⟩, List.mem_of_getElem? (i := 30) (by decide +kernel), List.mem_of_getElem? (i := 402) (by decide +kernel), List.mem_of_getElem? (i := 403) (by decide +kernel)⟩
theorem lw_p28 : lw_okq (⟨"WhistleStop", "needTrip", "(I)V"⟩, 7) := ⟨⟨by decide +kernel, by decide +kernel⟩, List.mem_of_getElem? (i := 30) (by decide +kernel), List.mem_of_getElem? (i := 483) (by decide +kernel), List.mem_of_getElem? (i := 484) (by decide +kernel)⟩
theorem lw_p29 : lw_okq (⟨"WhistleStop", "mixJourney", "(J)J"⟩, 7) := ⟨⟨by decide +kernel, by decide +kernel⟩, List.mem_of_getElem? (i := 30) (by decide +kernel), List.mem_of_getElem? (i := 488) (by decide +kernel), List.mem_of_getElem? (i := 489) (by decide +kernel)⟩
def lw_privs_2 : List (MethodName × Nat) := [(⟨"WhistleStop$Backward", "cross", "(IIII)V"⟩, 4), (⟨"WhistleStop$Backward", "ride", "(LWhistleStop$Runs;[I[I)Z"⟩, 4), (⟨"WhistleStop$Backward", "rideRun", "(LWhistleStop$Trip;I[I[I)Z"⟩, 4), (⟨"WhistleStop$Journey", "stopNow", "()I"⟩, 14), (⟨"WhistleStop$Journey", "takeRide", "(LWhistleStop$Network;LWhistleStop$Runs;LWhistleStop$Backward;I)Z"⟩, 14), (⟨"WhistleStop$Journey", "timeNow", "()I"⟩, 14), (⟨"WhistleStop$Journey", "isAfterRide", "()Z"⟩, 14), (⟨"WhistleStop$Journey", "alightingOf", "(LWhistleStop$Trip;II[I)I"⟩, 14), (⟨"WhistleStop$Journey", "addRide", "(LWhistleStop$Trip;IIII)V"⟩, 14), (⟨"WhistleStop$Journey", "addLeg", "(III)V"⟩, 14), (⟨"WhistleStop$Journey", "takeWalk", "(LWhistleStop$Network;LWhistleStop$Backward;I)Z"⟩, 14), (⟨"WhistleStop", "needLeg", "(I)V"⟩, 7), (⟨"WhistleStop", "needTrip", "(I)V"⟩, 7), (⟨"WhistleStop", "mixJourney", "(J)J"⟩, 7)]
theorem lw_r2 : ∀ q ∈ lw_privs_2, lw_okq q := List.forall_mem_cons.mpr ⟨lw_p16, List.forall_mem_cons.mpr ⟨lw_p17, List.forall_mem_cons.mpr ⟨lw_p18, List.forall_mem_cons.mpr ⟨lw_p19, List.forall_mem_cons.mpr ⟨lw_p20, List.forall_mem_cons.mpr ⟨lw_p21, List.forall_mem_cons.mpr ⟨lw_p22, List.forall_mem_cons.mpr ⟨lw_p23, List.forall_mem_cons.mpr ⟨lw_p24, List.forall_mem_cons.mpr ⟨lw_p25, List.forall_mem_cons.mpr ⟨lw_p26, List.forall_mem_cons.mpr ⟨lw_p27, List.forall_mem_cons.mpr ⟨lw_p28, List.forall_mem_cons.mpr ⟨lw_p29, fun _ h => absurd h List.not_mem_nil⟩⟩⟩⟩⟩⟩⟩⟩⟩⟩⟩⟩⟩⟩
def lw_privs : List (MethodName × Nat) := lw_privs_1 ++ (lw_privs_2)
def lw_tbl : List Cond := k2_sels lw_privs ++ tables_1
theorem lw_privs_ok : ∀ q ∈ lw_privs, lw_okq q := by
  show ∀ q ∈ lw_privs_1 ++ (lw_privs_2), lw_okq q
  exact List.forall_mem_append.mpr ⟨lw_r1, lw_r2⟩
/-- the streams that the claim lets the run draw from -/
abbrev lw_cs : List Choice := [Jvm.Choice.named "NaN.bits"]
theorem lw_bits : nanBits ∈ lw_cs := by first | decide | exact List.mem_cons_self | simp [lw_cs, nanBits]
end
section
/-! ===== names of this claim, written by wip/tools/gen.py ===== -/
/-- a word that a step keeps -/
def mw (w : Cond) : Bool := match w with | .methodLinkNest _ _ _ _ => true | .arrayOver (.object _) => true | .arrayOver (.array _) => true | w => goodWord w
def okw (w : Cond) : Prop := w ∈ lw_tbl ∧ mw w = true
def okk (k : Nat) (w : Cond) : Bool := decide (lw_tbl[k]? = some w) && mw w
theorem okr {k : Nat} {w : Cond} (h : lw_tbl[k]? = some w) (h2 : mw w = true) : okw w := ⟨List.mem_of_getElem? h, h2⟩
theorem okk_w {k : Nat} {w : Cond} (h : okk k w = true) : okw w := by
  simp only [okk, Bool.and_eq_true, decide_eq_true_eq] at h
  exact ⟨List.mem_of_getElem? h.1, h.2⟩
def FT0 : u_T := fun k => match k with
  | 0 => ("WhistleStop", "net", "LWhistleStop$Network;", true)
  | 1 => ("WhistleStop", "runs", "LWhistleStop$Runs;", true)
  | 2 => ("WhistleStop", "board", "LWhistleStop$Board;", true)
  | 3 => ("WhistleStop", "onward", "LWhistleStop$Onward;", true)
  | 4 => ("WhistleStop", "backward", "LWhistleStop$Backward;", true)
  | 5 => ("WhistleStop", "fares", "LWhistleStop$Fares;", true)
  | _ => ("WhistleStop", "journey", "LWhistleStop$Journey;", true)
def fT0 : Nat → FieldType := fun k => match k with
  | 0 => (.object "WhistleStop$Network")
  | 1 => (.object "WhistleStop$Runs")
  | 2 => (.object "WhistleStop$Board")
  | 3 => (.object "WhistleStop$Onward")
  | 4 => (.object "WhistleStop$Backward")
  | 5 => (.object "WhistleStop$Fares")
  | _ => (.object "WhistleStop$Journey")
def FT1 : u_T := fun k => match k with
  | 0 => ("WhistleStop$Backward", "boards", "[[I", true)
  | 1 => ("WhistleStop$Backward", "alights", "[[I", true)
  | 2 => ("WhistleStop$Backward", "target", "I", false)
  | _ => ("WhistleStop$Backward", "deadline", "I", false)
def fT1 : Nat → FieldType := fun k => match k with
  | 0 => (.array (.array .int))
  | 1 => (.array (.array .int))
  | 2 => .int
  | _ => .int
def FT2 : u_T := fun k => match k with
  | 0 => ("WhistleStop$Board", "keys", "[J", true)
  | _ => ("WhistleStop$Board", "size", "I", false)
def fT2 : Nat → FieldType := fun k => match k with
  | 0 => (.array .long)
  | _ => .int
def FT3 : u_T := fun k => match k with
  | 0 => ("WhistleStop$Calendar", "weekdays", "I", true)
  | 1 => ("WhistleStop$Calendar", "first", "I", true)
  | 2 => ("WhistleStop$Calendar", "last", "I", true)
  | _ => ("WhistleStop$Calendar", "exceptions", "[I", true)
def fT3 : Nat → FieldType := fun k => match k with
  | 0 => .int
  | 1 => .int
  | 2 => .int
  | _ => (.array .int)
def FT4 : u_T := fun k => match k with
  | 0 => ("WhistleStop$Fares", "before", "[LWhistleStop$Offers;", false)
  | 1 => ("WhistleStop$Fares", "after", "[LWhistleStop$Offers;", false)
  | 2 => ("WhistleStop$Fares", "target", "I", false)
  | 3 => ("WhistleStop$Fares", "limit", "I", false)
  | _ => ("WhistleStop$Fares", "least", "I", false)
def fT4 : Nat → FieldType := fun k => match k with
  | 0 => (.array (.object "WhistleStop$Offers"))
  | 1 => (.array (.object "WhistleStop$Offers"))
  | 2 => .int
  | 3 => .int
  | _ => .int
def FT5 : u_T := fun k => match k with
  | 0 => ("WhistleStop$Footway", "end", "I", true)
  | 1 => ("WhistleStop$Footway", "otherEnd", "I", true)
  | _ => ("WhistleStop$Footway", "minutes", "I", true)
def fT5 : Nat → FieldType := fun k => match k with
  | 0 => .int
  | 1 => .int
  | _ => .int
def FT6 : u_T := fun k => match k with
  | 0 => ("WhistleStop$Journey", "isKept", "Z", false)
  | 1 => ("WhistleStop$Journey", "from", "I", false)
  | 2 => ("WhistleStop$Journey", "to", "I", false)
  | 3 => ("WhistleStop$Journey", "at", "I", false)
  | 4 => ("WhistleStop$Journey", "size", "I", false)
  | 5 => ("WhistleStop$Journey", "trips", "[LWhistleStop$Trip;", true)
  | 6 => ("WhistleStop$Journey", "days", "[I", true)
  | 7 => ("WhistleStop$Journey", "boardings", "[I", true)
  | 8 => ("WhistleStop$Journey", "alightings", "[I", true)
  | 9 => ("WhistleStop$Journey", "targets", "[I", true)
  | 10 => ("WhistleStop$Journey", "begins", "[I", true)
  | 11 => ("WhistleStop$Journey", "ends", "[I", true)
  | 12 => ("WhistleStop$Journey", "tightest", "I", false)
  | _ => ("WhistleStop$Journey", "fare", "I", false)
def fT6 : Nat → FieldType := fun k => match k with
  | 0 => .boolean
  | 1 => .int
  | 2 => .int
  | 3 => .int
  | 4 => .int
  | 5 => (.array (.object "WhistleStop$Trip"))
  | 6 => (.array .int)
  | 7 => (.array .int)
  | 8 => (.array .int)
  | 9 => (.array .int)
  | 10 => (.array .int)
  | 11 => (.array .int)
  | 12 => .int
  | _ => .int
def FT7 : u_T := fun k => match k with
  | 0 => ("WhistleStop$Network", "changes", "[I", true)
  | 1 => ("WhistleStop$Network", "footways", "[LWhistleStop$Footway;", true)
  | 2 => ("WhistleStop$Network", "calendars", "[LWhistleStop$Calendar;", true)
  | 3 => ("WhistleStop$Network", "trips", "[LWhistleStop$Trip;", true)
  | 4 => ("WhistleStop$Network", "stopCount", "I", false)
  | 5 => ("WhistleStop$Network", "footwayCount", "I", false)
  | 6 => ("WhistleStop$Network", "calendarCount", "I", false)
  | _ => ("WhistleStop$Network", "tripCount", "I", false)
def fT7 : Nat → FieldType := fun k => match k with
  | 0 => (.array .int)
  | 1 => (.array (.object "WhistleStop$Footway"))
  | 2 => (.array (.object "WhistleStop$Calendar"))
  | 3 => (.array (.object "WhistleStop$Trip"))
  | 4 => .int
  | 5 => .int
  | 6 => .int
  | _ => .int
def FT8 : u_T := fun k => match k with
  | 0 => ("WhistleStop$Offers", "times", "[I", false)
  | 1 => ("WhistleStop$Offers", "prices", "[I", false)
  | _ => ("WhistleStop$Offers", "size", "I", false)
def fT8 : Nat → FieldType := fun k => match k with
  | 0 => (.array .int)
  | 1 => (.array .int)
  | _ => .int
def FT9 : u_T := fun k => match k with
  | 0 => ("WhistleStop$Onward", "ended", "[[I", true)
  | 1 => ("WhistleStop$Onward", "ready", "[[I", true)
  | 2 => ("WhistleStop$Onward", "afoot", "[I", true)
  | _ => ("WhistleStop$Onward", "limit", "I", false)
def fT9 : Nat → FieldType := fun k => match k with
  | 0 => (.array (.array .int))
  | 1 => (.array (.array .int))
  | 2 => (.array .int)
  | _ => .int
def FT10 : u_T := fun k => match k with
  | 0 => ("WhistleStop$Runs", "trips", "[LWhistleStop$Trip;", true)
  | 1 => ("WhistleStop$Runs", "days", "[I", true)
  | 2 => ("WhistleStop$Runs", "bases", "[I", true)
  | _ => ("WhistleStop$Runs", "size", "I", false)
def fT10 : Nat → FieldType := fun k => match k with
  | 0 => (.array (.object "WhistleStop$Trip"))
  | 1 => (.array .int)
  | 2 => (.array .int)
  | _ => .int
def FT11 : u_T := fun k => match k with
  | 0 => ("WhistleStop$Trip", "number", "I", true)
  | 1 => ("WhistleStop$Trip", "calendar", "LWhistleStop$Calendar;", true)
  | 2 => ("WhistleStop$Trip", "fare", "I", true)
  | 3 => ("WhistleStop$Trip", "stops", "[I", true)
  | 4 => ("WhistleStop$Trip", "arrives", "[I", true)
  | 5 => ("WhistleStop$Trip", "departs", "[I", true)
  | 6 => ("WhistleStop$Trip", "told", "[I", true)
  | _ => ("WhistleStop$Trip", "size", "I", false)
def fT11 : Nat → FieldType := fun k => match k with
  | 0 => .int
  | 1 => (.object "WhistleStop$Calendar")
  | 2 => .int
  | 3 => (.array .int)
  | 4 => (.array .int)
  | 5 => (.array .int)
  | 6 => (.array .int)
  | _ => .int
def FT12 : u_T := fun k => match k with
  | 0 => ("WhistleStopLaw$Table", "m", "LWhistleStop;", true)
  | 1 => ("WhistleStopLaw$Table", "s", "[I", true)
  | 2 => ("WhistleStopLaw$Table", "draws", "I", false)
  | 3 => ("WhistleStopLaw$Table", "stops", "I", false)
  | 4 => ("WhistleStopLaw$Table", "change", "[I", true)
  | 5 => ("WhistleStopLaw$Table", "ways", "I", false)
  | 6 => ("WhistleStopLaw$Table", "way", "[[I", true)
  | 7 => ("WhistleStopLaw$Table", "calendars", "I", false)
  | 8 => ("WhistleStopLaw$Table", "runs", "[[Z", true)
  | 9 => ("WhistleStopLaw$Table", "trips", "I", false)
  | 10 => ("WhistleStopLaw$Table", "calendar", "[I", true)
  | 11 => ("WhistleStopLaw$Table", "price", "[I", true)
  | 12 => ("WhistleStopLaw$Table", "calls", "[I", true)
  | 13 => ("WhistleStopLaw$Table", "stop", "[[I", true)
  | 14 => ("WhistleStopLaw$Table", "arrives", "[[I", true)
  | 15 => ("WhistleStopLaw$Table", "departs", "[[I", true)
  | _ => ("WhistleStopLaw$Table", "late", "[[I", true)
def fT12 : Nat → FieldType := fun k => match k with
  | 0 => (.object "WhistleStop")
  | 1 => (.array .int)
  | 2 => .int
  | 3 => .int
  | 4 => (.array .int)
  | 5 => .int
  | 6 => (.array (.array .int))
  | 7 => .int
  | 8 => (.array (.array .boolean))
  | 9 => .int
  | 10 => (.array .int)
  | 11 => (.array .int)
  | 12 => (.array .int)
  | 13 => (.array (.array .int))
  | 14 => (.array (.array .int))
  | 15 => (.array (.array .int))
  | _ => (.array (.array .int))
abbrev CL : List vw_C := [("WhistleStop", FT0, 7), ("WhistleStop$Backward", FT1, 4), ("WhistleStop$Board", FT2, 2), ("WhistleStop$Calendar", FT3, 4), ("WhistleStop$Fares", FT4, 5), ("WhistleStop$Footway", FT5, 3), ("WhistleStop$Journey", FT6, 14), ("WhistleStop$Network", FT7, 8), ("WhistleStop$Offers", FT8, 3), ("WhistleStop$Onward", FT9, 4), ("WhistleStop$Runs", FT10, 4), ("WhistleStop$Trip", FT11, 8), ("WhistleStopLaw$Table", FT12, 17)]
def cT : Nat → Nat → FieldType := fun K => match K with
  | 1 => fT0
  | 2 => fT1
  | 3 => fT2
  | 4 => fT3
  | 5 => fT4
  | 6 => fT5
  | 7 => fT6
  | 8 => fT7
  | 9 => fT8
  | 10 => fT9
  | 11 => fT10
  | 12 => fT11
  | _ => fT12
/-- array kinds: what their places are -/
def AT : Nat → FieldType := fun K => match K with
  | 100 => .int
  | 101 => .long
  | 102 => .boolean
  | 103 => (.array .int)
  | 104 => (.object "WhistleStop$Footway")
  | 105 => (.object "WhistleStop$Calendar")
  | 106 => (.object "WhistleStop$Trip")
  | 107 => (.object "WhistleStop$Offers")
  | _ => (.array .boolean)
def KA : List Nat := [100, 101, 102, 103, 104, 105, 106, 107, 108]
set_option maxRecDepth 100000 in
theorem cw0 : (List.range 7).all (fun k => okk ([775, 777, 779, 781, 783, 785, 787].getD k 0) (u_lay "WhistleStop" FT0 k)) = true := by decide +kernel
theorem cn0 : ∀ a, a < 7 → ∀ b, b < 7 → a ≠ b → (FT0 a).2.1 ≠ (FT0 b).2.1 := by decide +kernel
theorem ct0 : ∀ k, k < 7 → parseFieldDescriptor (FT0 k).2.2.1 = some (cT 1 k) := by decide +kernel
set_option maxRecDepth 100000 in
theorem cw1 : (List.range 4).all (fun k => okk ([665, 667, 669, 671].getD k 0) (u_lay "WhistleStop$Backward" FT1 k)) = true := by decide +kernel
theorem cn1 : ∀ a, a < 4 → ∀ b, b < 4 → a ≠ b → (FT1 a).2.1 ≠ (FT1 b).2.1 := by decide +kernel
theorem ct1 : ∀ k, k < 4 → parseFieldDescriptor (FT1 k).2.2.1 = some (cT 2 k) := by decide +kernel
set_option maxRecDepth 100000 in
theorem cw2 : (List.range 2).all (fun k => okk ([628, 630].getD k 0) (u_lay "WhistleStop$Board" FT2 k)) = true := by decide +kernel
theorem cn2 : ∀ a, a < 2 → ∀ b, b < 2 → a ≠ b → (FT2 a).2.1 ≠ (FT2 b).2.1 := by decide +kernel
theorem ct2 : ∀ k, k < 2 → parseFieldDescriptor (FT2 k).2.2.1 = some (cT 3 k) := by decide +kernel
set_option maxRecDepth 100000 in
theorem cw3 : (List.range 4).all (fun k => okk ([927, 929, 931, 933].getD k 0) (u_lay "WhistleStop$Calendar" FT3 k)) = true := by decide +kernel
theorem cn3 : ∀ a, a < 4 → ∀ b, b < 4 → a ≠ b → (FT3 a).2.1 ≠ (FT3 b).2.1 := by decide +kernel
theorem ct3 : ∀ k, k < 4 → parseFieldDescriptor (FT3 k).2.2.1 = some (cT 4 k) := by decide +kernel
set_option maxRecDepth 100000 in
theorem cw4 : (List.range 5).all (fun k => okk ([701, 703, 705, 707, 709].getD k 0) (u_lay "WhistleStop$Fares" FT4 k)) = true := by decide +kernel
theorem cn4 : ∀ a, a < 5 → ∀ b, b < 5 → a ≠ b → (FT4 a).2.1 ≠ (FT4 b).2.1 := by decide +kernel
theorem ct4 : ∀ k, k < 5 → parseFieldDescriptor (FT4 k).2.2.1 = some (cT 5 k) := by decide +kernel
set_option maxRecDepth 100000 in
theorem cw5 : (List.range 3).all (fun k => okk ([901, 903, 905].getD k 0) (u_lay "WhistleStop$Footway" FT5 k)) = true := by decide +kernel
theorem cn5 : ∀ a, a < 3 → ∀ b, b < 3 → a ≠ b → (FT5 a).2.1 ≠ (FT5 b).2.1 := by decide +kernel
theorem ct5 : ∀ k, k < 3 → parseFieldDescriptor (FT5 k).2.2.1 = some (cT 6 k) := by decide +kernel
set_option maxRecDepth 100000 in
theorem cw6 : (List.range 14).all (fun k => okk ([739, 741, 743, 745, 747, 749, 751, 753, 755, 757, 759, 761, 763, 765].getD k 0) (u_lay "WhistleStop$Journey" FT6 k)) = true := by decide +kernel
theorem cn6 : ∀ a, a < 14 → ∀ b, b < 14 → a ≠ b → (FT6 a).2.1 ≠ (FT6 b).2.1 := by decide +kernel
theorem ct6 : ∀ k, k < 14 → parseFieldDescriptor (FT6 k).2.2.1 = some (cT 7 k) := by decide +kernel
set_option maxRecDepth 100000 in
theorem cw7 : (List.range 8).all (fun k => okk ([572, 574, 576, 578, 580, 582, 584, 586].getD k 0) (u_lay "WhistleStop$Network" FT7 k)) = true := by decide +kernel
theorem cn7 : ∀ a, a < 8 → ∀ b, b < 8 → a ≠ b → (FT7 a).2.1 ≠ (FT7 b).2.1 := by decide +kernel
theorem ct7 : ∀ k, k < 8 → parseFieldDescriptor (FT7 k).2.2.1 = some (cT 8 k) := by decide +kernel
set_option maxRecDepth 100000 in
theorem cw8 : (List.range 3).all (fun k => okk ([689, 691, 693].getD k 0) (u_lay "WhistleStop$Offers" FT8 k)) = true := by decide +kernel
theorem cn8 : ∀ a, a < 3 → ∀ b, b < 3 → a ≠ b → (FT8 a).2.1 ≠ (FT8 b).2.1 := by decide +kernel
theorem ct8 : ∀ k, k < 3 → parseFieldDescriptor (FT8 k).2.2.1 = some (cT 9 k) := by decide +kernel
set_option maxRecDepth 100000 in
theorem cw9 : (List.range 4).all (fun k => okk ([645, 647, 649, 651].getD k 0) (u_lay "WhistleStop$Onward" FT9 k)) = true := by decide +kernel
theorem cn9 : ∀ a, a < 4 → ∀ b, b < 4 → a ≠ b → (FT9 a).2.1 ≠ (FT9 b).2.1 := by decide +kernel
theorem ct9 : ∀ k, k < 4 → parseFieldDescriptor (FT9 k).2.2.1 = some (cT 10 k) := by decide +kernel
set_option maxRecDepth 100000 in
theorem cw10 : (List.range 4).all (fun k => okk ([612, 614, 616, 618].getD k 0) (u_lay "WhistleStop$Runs" FT10 k)) = true := by decide +kernel
theorem cn10 : ∀ a, a < 4 → ∀ b, b < 4 → a ≠ b → (FT10 a).2.1 ≠ (FT10 b).2.1 := by decide +kernel
theorem ct10 : ∀ k, k < 4 → parseFieldDescriptor (FT10 k).2.2.1 = some (cT 11 k) := by decide +kernel
set_option maxRecDepth 100000 in
theorem cw11 : (List.range 8).all (fun k => okk ([985, 987, 989, 991, 993, 995, 997, 999].getD k 0) (u_lay "WhistleStop$Trip" FT11 k)) = true := by decide +kernel
theorem cn11 : ∀ a, a < 8 → ∀ b, b < 8 → a ≠ b → (FT11 a).2.1 ≠ (FT11 b).2.1 := by decide +kernel
theorem ct11 : ∀ k, k < 8 → parseFieldDescriptor (FT11 k).2.2.1 = some (cT 12 k) := by decide +kernel
set_option maxRecDepth 100000 in
theorem cw12 : (List.range 17).all (fun k => okk ([813, 815, 817, 819, 821, 823, 825, 827, 829, 831, 833, 835, 837, 839, 841, 843, 845].getD k 0) (u_lay "WhistleStopLaw$Table" FT12 k)) = true := by decide +kernel
theorem cn12 : ∀ a, a < 17 → ∀ b, b < 17 → a ≠ b → (FT12 a).2.1 ≠ (FT12 b).2.1 := by decide +kernel
theorem ct12 : ∀ k, k < 17 → parseFieldDescriptor (FT12 k).2.2.1 = some (cT 13 k) := by decide +kernel
theorem cq0 : ∀ k, (FT0 k).1 = "WhistleStop" := by
  intro k
  unfold FT0
  split <;> rfl
theorem cq1 : ∀ k, (FT1 k).1 = "WhistleStop$Backward" := by
  intro k
  unfold FT1
  split <;> rfl
theorem cq2 : ∀ k, (FT2 k).1 = "WhistleStop$Board" := by
  intro k
  unfold FT2
  split <;> rfl
theorem cq3 : ∀ k, (FT3 k).1 = "WhistleStop$Calendar" := by
  intro k
  unfold FT3
  split <;> rfl
theorem cq4 : ∀ k, (FT4 k).1 = "WhistleStop$Fares" := by
  intro k
  unfold FT4
  split <;> rfl
theorem cq5 : ∀ k, (FT5 k).1 = "WhistleStop$Footway" := by
  intro k
  unfold FT5
  split <;> rfl
theorem cq6 : ∀ k, (FT6 k).1 = "WhistleStop$Journey" := by
  intro k
  unfold FT6
  split <;> rfl
theorem cq7 : ∀ k, (FT7 k).1 = "WhistleStop$Network" := by
  intro k
  unfold FT7
  split <;> rfl
theorem cq8 : ∀ k, (FT8 k).1 = "WhistleStop$Offers" := by
  intro k
  unfold FT8
  split <;> rfl
theorem cq9 : ∀ k, (FT9 k).1 = "WhistleStop$Onward" := by
  intro k
  unfold FT9
  split <;> rfl
theorem cq10 : ∀ k, (FT10 k).1 = "WhistleStop$Runs" := by
  intro k
  unfold FT10
  split <;> rfl
theorem cq11 : ∀ k, (FT11 k).1 = "WhistleStop$Trip" := by
  intro k
  unfold FT11
  split <;> rfl
theorem cq12 : ∀ k, (FT12 k).1 = "WhistleStopLaw$Table" := by
  intro k
  unfold FT12
  split <;> rfl
theorem cw_ok {C : String} {F : u_T} {n : Nat} {ks : List Nat} (h : (List.range n).all (fun k => okk (ks.getD k 0) (u_lay C F k)) = true) : ∀ w ∈ u_ws C F n, okw w := by
  intro w hw
  obtain ⟨k, hk, rfl⟩ := List.mem_map.mp hw
  exact okk_w (List.all_eq_true.mp h k hk)
/-- what is known of each class -/
def clOk (c : Nat) (q : vw_C) : Prop := (∀ w ∈ u_ws q.1 q.2.1 q.2.2, okw w) ∧ (∀ a, a < q.2.2 → ∀ b, b < q.2.2 → a ≠ b → (q.2.1 a).2.1 ≠ (q.2.1 b).2.1) ∧ (∀ k, k < q.2.2 → parseFieldDescriptor (q.2.1 k).2.2.1 = some (cT (c + 1) k)) ∧ (∀ k, (q.2.1 k).1 = q.1)
theorem CL_ok : ∀ (c : Nat) (q : vw_C), CL[c]? = some q → clOk c q := by
  intro c q h
  match c with
  | 0 => cases h; exact ⟨cw_ok cw0, cn0, ct0, cq0⟩
  | 1 => cases h; exact ⟨cw_ok cw1, cn1, ct1, cq1⟩
  | 2 => cases h; exact ⟨cw_ok cw2, cn2, ct2, cq2⟩
  | 3 => cases h; exact ⟨cw_ok cw3, cn3, ct3, cq3⟩
  | 4 => cases h; exact ⟨cw_ok cw4, cn4, ct4, cq4⟩
  | 5 => cases h; exact ⟨cw_ok cw5, cn5, ct5, cq5⟩
  | 6 => cases h; exact ⟨cw_ok cw6, cn6, ct6, cq6⟩
  | 7 => cases h; exact ⟨cw_ok cw7, cn7, ct7, cq7⟩
  | 8 => cases h; exact ⟨cw_ok cw8, cn8, ct8, cq8⟩
  | 9 => cases h; exact ⟨cw_ok cw9, cn9, ct9, cq9⟩
  | 10 => cases h; exact ⟨cw_ok cw10, cn10, ct10, cq10⟩
  | 11 => cases h; exact ⟨cw_ok cw11, cn11, ct11, cq11⟩
  | 12 => cases h; exact ⟨cw_ok cw12, cn12, ct12, cq12⟩
  | _ + 13 => cases h
set_option maxRecDepth 100000 in
theorem ci0 : okw (.instantiable "WhistleStop" 7) ∧ okw (.initialized "WhistleStop") := ⟨okk_w (k := 60) (by decide +kernel), okk_w (k := 32) (by decide +kernel)⟩
set_option maxRecDepth 100000 in
theorem ci1 : okw (.instantiable "WhistleStop$Backward" 4) ∧ okw (.initialized "WhistleStop$Backward") := ⟨okk_w (k := 343) (by decide +kernel), okk_w (k := 37) (by decide +kernel)⟩
set_option maxRecDepth 100000 in
theorem ci2 : okw (.instantiable "WhistleStop$Board" 2) ∧ okw (.initialized "WhistleStop$Board") := ⟨okk_w (k := 622) (by decide +kernel), okk_w (k := 35) (by decide +kernel)⟩
set_option maxRecDepth 100000 in
theorem ci3 : okw (.instantiable "WhistleStop$Calendar" 4) ∧ okw (.initialized "WhistleStop$Calendar") := ⟨okk_w (k := 917) (by decide +kernel), okk_w (k := 48) (by decide +kernel)⟩
set_option maxRecDepth 100000 in
theorem ci4 : okw (.instantiable "WhistleStop$Fares" 5) ∧ okw (.initialized "WhistleStop$Fares") := ⟨okk_w (k := 305) (by decide +kernel), okk_w (k := 38) (by decide +kernel)⟩
set_option maxRecDepth 100000 in
theorem ci5 : okw (.instantiable "WhistleStop$Footway" 3) ∧ okw (.initialized "WhistleStop$Footway") := ⟨okk_w (k := 885) (by decide +kernel), okk_w (k := 47) (by decide +kernel)⟩
set_option maxRecDepth 100000 in
theorem ci6 : okw (.instantiable "WhistleStop$Journey" 14) ∧ okw (.initialized "WhistleStop$Journey") := ⟨okk_w (k := 389) (by decide +kernel), okk_w (k := 40) (by decide +kernel)⟩
set_option maxRecDepth 100000 in
theorem ci7 : okw (.instantiable "WhistleStop$Network" 8) ∧ okw (.initialized "WhistleStop$Network") := ⟨okk_w (k := 533) (by decide +kernel), okk_w (k := 33) (by decide +kernel)⟩
set_option maxRecDepth 100000 in
theorem ci8 : okw (.instantiable "WhistleStop$Offers" 3) ∧ okw (.initialized "WhistleStop$Offers") := ⟨okk_w (k := 287) (by decide +kernel), okk_w (k := 39) (by decide +kernel)⟩
set_option maxRecDepth 100000 in
theorem ci9 : okw (.instantiable "WhistleStop$Onward" 4) ∧ okw (.initialized "WhistleStop$Onward") := ⟨okk_w (k := 212) (by decide +kernel), okk_w (k := 36) (by decide +kernel)⟩
set_option maxRecDepth 100000 in
theorem ci10 : okw (.instantiable "WhistleStop$Runs" 4) ∧ okw (.initialized "WhistleStop$Runs") := ⟨okk_w (k := 198) (by decide +kernel), okk_w (k := 34) (by decide +kernel)⟩
set_option maxRecDepth 100000 in
theorem ci11 : okw (.instantiable "WhistleStop$Trip" 8) ∧ okw (.initialized "WhistleStop$Trip") := ⟨okk_w (k := 947) (by decide +kernel), okk_w (k := 50) (by decide +kernel)⟩
set_option maxRecDepth 100000 in
theorem ci12 : okw (.instantiable "WhistleStopLaw$Table" 17) ∧ okw (.initialized "WhistleStopLaw$Table") := ⟨okk_w (k := 522) (by decide +kernel), okk_w (k := 31) (by decide +kernel)⟩
def mY : Nat → MethodName := fun i => match i with
  | 0 => ⟨"WhistleStop", "earliest", "(III)I"⟩
  | 1 => ⟨"WhistleStop", "needStop", "(I)V"⟩
  | 2 => ⟨"WhistleStop", "needIndex", "(II)V"⟩
  | 3 => ⟨"WhistleStop", "needTime", "(I)V"⟩
  | 4 => ⟨"WhistleStop", "isWithin", "(III)Z"⟩
  | 5 => ⟨"WhistleStop", "needArgument", "(Z)V"⟩
  | 6 => ⟨"WhistleStop", "leastEnd", "(IIII)I"⟩
  | 7 => ⟨"WhistleStop", "isDay", "(I)Z"⟩
  | 8 => ⟨"WhistleStop", "withRides", "(IIII)I"⟩
  | 9 => ⟨"WhistleStop", "rides", "(III)I"⟩
  | 10 => ⟨"WhistleStop", "cheapest", "(IIII)I"⟩
  | 11 => ⟨"WhistleStop", "latest", "(III)I"⟩
  | 12 => ⟨"WhistleStop", "reached", "(III)I"⟩
  | 13 => ⟨"WhistleStop", "find", "(III)I"⟩
  | 14 => ⟨"WhistleStop", "legs", "()I"⟩
  | 15 => ⟨"WhistleStop", "legTrip", "(I)I"⟩
  | 16 => ⟨"WhistleStop", "needLeg", "(I)V"⟩
  | 17 => ⟨"WhistleStop", "needState", "(Z)V"⟩
  | 18 => ⟨"WhistleStop", "legTo", "(I)I"⟩
  | 19 => ⟨"WhistleStop", "legBegin", "(I)I"⟩
  | 20 => ⟨"WhistleStop", "legEnd", "(I)I"⟩
  | 21 => ⟨"WhistleStop", "slack", "()I"⟩
  | 22 => ⟨"WhistleStop", "price", "()I"⟩
  | 23 => ⟨"WhistleStop", "holds", "()Z"⟩
  | 24 => ⟨"WhistleStop", "moving", "()D"⟩
  | 25 => ⟨"WhistleStop", "digest", "()J"⟩
  | 26 => ⟨"WhistleStop", "mix", "(JI)J"⟩
  | 27 => ⟨"WhistleStop", "lateOf", "(II)I"⟩
  | 28 => ⟨"WhistleStop", "needTrip", "(I)V"⟩
  | 29 => ⟨"WhistleStop", "mixJourney", "(J)J"⟩
  | 30 => ⟨"WhistleStop", "<init>", "()V"⟩
  | 31 => ⟨"WhistleStop", "except", "(IIZ)Z"⟩
  | 32 => ⟨"WhistleStop", "addStop", "(I)I"⟩
  | 33 => ⟨"WhistleStop", "addFootway", "(III)I"⟩
  | 34 => ⟨"WhistleStop", "addCalendar", "(III)I"⟩
  | 35 => ⟨"WhistleStop", "addTrip", "(IIII)I"⟩
  | 36 => ⟨"WhistleStop", "addCall", "(IIII)I"⟩
  | 37 => ⟨"WhistleStop", "calls", "(I)I"⟩
  | 38 => ⟨"WhistleStop", "cancel", "(II)Z"⟩
  | 39 => ⟨"WhistleStop", "late", "(III)I"⟩
  | 40 => ⟨"WhistleStop$Backward", "seek", "(LWhistleStop$Network;LWhistleStop$Runs;III)V"⟩
  | 41 => ⟨"WhistleStop$Backward", "alight", "(LWhistleStop$Network;I)V"⟩
  | 42 => ⟨"WhistleStop$Backward", "cross", "(IIII)V"⟩
  | 43 => ⟨"WhistleStop$Backward", "latestAt", "(II)I"⟩
  | 44 => ⟨"WhistleStop$Backward", "ride", "(LWhistleStop$Runs;[I[I)Z"⟩
  | 45 => ⟨"WhistleStop$Backward", "rideRun", "(LWhistleStop$Trip;I[I[I)Z"⟩
  | 46 => ⟨"WhistleStop$Backward", "latestBegin", "(LWhistleStop$Network;II)I"⟩
  | 47 => ⟨"WhistleStop$Backward", "<init>", "()V"⟩
  | 48 => ⟨"WhistleStop$Board", "<init>", "()V"⟩
  | 49 => ⟨"WhistleStop$Calendar", "isRunning", "(I)Z"⟩
  | 50 => ⟨"WhistleStop$Calendar", "<init>", "(III)V"⟩
  | 51 => ⟨"WhistleStop$Fares", "leastPrice", "(LWhistleStop$Network;LWhistleStop$Runs;IIII)I"⟩
  | 52 => ⟨"WhistleStop$Fares", "walk", "(LWhistleStop$Network;III)Z"⟩
  | 53 => ⟨"WhistleStop$Fares", "swap", "()V"⟩
  | 54 => ⟨"WhistleStop$Fares", "rideRun", "(LWhistleStop$Network;LWhistleStop$Trip;I)Z"⟩
  | 55 => ⟨"WhistleStop$Fares", "alight", "(LWhistleStop$Network;III)Z"⟩
  | 56 => ⟨"WhistleStop$Fares", "<init>", "()V"⟩
  | 57 => ⟨"WhistleStop$Footway", "across", "(I)I"⟩
  | 58 => ⟨"WhistleStop$Footway", "<init>", "(III)V"⟩
  | 59 => ⟨"WhistleStop$Journey", "ask", "(III)V"⟩
  | 60 => ⟨"WhistleStop$Journey", "trace", "(LWhistleStop$Network;LWhistleStop$Runs;LWhistleStop$Backward;I)V"⟩
  | 61 => ⟨"WhistleStop$Journey", "stopNow", "()I"⟩
  | 62 => ⟨"WhistleStop$Journey", "takeRide", "(LWhistleStop$Network;LWhistleStop$Runs;LWhistleStop$Backward;I)Z"⟩
  | 63 => ⟨"WhistleStop$Journey", "timeNow", "()I"⟩
  | 64 => ⟨"WhistleStop$Journey", "isAfterRide", "()Z"⟩
  | 65 => ⟨"WhistleStop$Journey", "alightingOf", "(LWhistleStop$Trip;II[I)I"⟩
  | 66 => ⟨"WhistleStop$Journey", "addRide", "(LWhistleStop$Trip;IIII)V"⟩
  | 67 => ⟨"WhistleStop$Journey", "addLeg", "(III)V"⟩
  | 68 => ⟨"WhistleStop$Journey", "takeWalk", "(LWhistleStop$Network;LWhistleStop$Backward;I)Z"⟩
  | 69 => ⟨"WhistleStop$Journey", "tripOf", "(I)I"⟩
  | 70 => ⟨"WhistleStop$Journey", "isPossible", "(LWhistleStop$Network;)Z"⟩
  | 71 => ⟨"WhistleStop$Journey", "minutesInAll", "()I"⟩
  | 72 => ⟨"WhistleStop$Journey", "minutesInRides", "()I"⟩
  | 73 => ⟨"WhistleStop$Journey", "<init>", "()V"⟩
  | 74 => ⟨"WhistleStop$Network", "<init>", "()V"⟩
  | 75 => ⟨"WhistleStop$Offers", "offer", "(II)Z"⟩
  | 76 => ⟨"WhistleStop$Offers", "priceAt", "(I)I"⟩
  | 77 => ⟨"WhistleStop$Offers", "makeRoom", "(I)V"⟩
  | 78 => ⟨"WhistleStop$Offers", "copy", "(LWhistleStop$Offers;)V"⟩
  | 79 => ⟨"WhistleStop$Offers", "<init>", "()V"⟩
  | 80 => ⟨"WhistleStop$Onward", "seek", "(LWhistleStop$Network;LWhistleStop$Runs;III)V"⟩
  | 81 => ⟨"WhistleStop$Onward", "begin", "(II)V"⟩
  | 82 => ⟨"WhistleStop$Onward", "walk", "(LWhistleStop$Network;I)V"⟩
  | 83 => ⟨"WhistleStop$Onward", "cross", "(IIII)V"⟩
  | 84 => ⟨"WhistleStop$Onward", "ride", "(LWhistleStop$Runs;[I)Z"⟩
  | 85 => ⟨"WhistleStop$Onward", "rideRun", "(LWhistleStop$Trip;I[I)Z"⟩
  | 86 => ⟨"WhistleStop$Onward", "alight", "(LWhistleStop$Network;I)V"⟩
  | 87 => ⟨"WhistleStop$Onward", "endOf", "(II)I"⟩
  | 88 => ⟨"WhistleStop$Onward", "isReached", "(I)Z"⟩
  | 89 => ⟨"WhistleStop$Onward", "fewestRides", "(I)I"⟩
  | 90 => ⟨"WhistleStop$Onward", "<init>", "()V"⟩
  | 91 => ⟨"WhistleStop$Runs", "collect", "(LWhistleStop$Network;II)V"⟩
  | 92 => ⟨"WhistleStop$Runs", "add", "(LWhistleStop$Trip;III)V"⟩
  | 93 => ⟨"WhistleStop$Runs", "<init>", "()V"⟩
  | 94 => ⟨"WhistleStop$Trip", "hasRun", "(I)Z"⟩
  | 95 => ⟨"WhistleStop$Trip", "baseOf", "(I)I"⟩
  | 96 => ⟨"WhistleStop$Trip", "lastDeparts", "()I"⟩
  | 97 => ⟨"WhistleStop$Trip", "<init>", "(ILWhistleStop$Calendar;I)V"⟩
  | 98 => ⟨"WhistleStop$Trip", "append", "(III)V"⟩
  | 99 => ⟨"WhistleStopLaw$Table", "<init>", "([II)V"⟩
  | 100 => ⟨"WhistleStopLaw$Table", "draw", "(I)I"⟩
  | 101 => ⟨"WhistleStopLaw$Table", "except", "()Z"⟩
  | 102 => ⟨"WhistleStopLaw$Table", "make", "(I)Z"⟩
  | 103 => ⟨"WhistleStopLaw$Table", "addCalendar", "()Z"⟩
  | 104 => ⟨"WhistleStopLaw$Table", "addTrip", "()Z"⟩
  | 105 => ⟨"WhistleStopLaw$Table", "disturb", "()Z"⟩
  | 106 => ⟨"WhistleStopLaw", "cell", "([II)I"⟩
  | 107 => ⟨"WhistleStopLaw", "below", "(II)I"⟩
  | 108 => ⟨"WhistleStopLaw", "law", "([I)Z"⟩
  | 109 => ⟨"java/lang/Math", "floorDiv", "(II)I"⟩
  | 110 => ⟨"java/lang/Math", "max", "(II)I"⟩
  | 111 => ⟨"java/lang/Math", "min", "(II)I"⟩
  | 112 => ⟨"java/util/Arrays", "fill", "([II)V"⟩
  | 113 => ⟨"java/util/Arrays", "copyOf", "([II)[I"⟩
  | _ => ⟨"", "", ""⟩
def mB : Nat → ByteArray := fun i => match i with
  | 0 => prog_1_method_20_code
  | 1 => prog_1_method_46_code
  | 2 => prog_1_method_43_code
  | 3 => prog_1_method_48_code
  | 4 => prog_1_method_41_code
  | 5 => prog_1_method_44_code
  | 6 => prog_1_method_40_code
  | 7 => prog_1_method_42_code
  | 8 => prog_1_method_21_code
  | 9 => prog_1_method_22_code
  | 10 => prog_1_method_23_code
  | 11 => prog_1_method_24_code
  | 12 => prog_1_method_25_code
  | 13 => prog_1_method_26_code
  | 14 => prog_1_method_27_code
  | 15 => prog_1_method_28_code
  | 16 => prog_1_method_49_code
  | 17 => prog_1_method_45_code
  | 18 => prog_1_method_29_code
  | 19 => prog_1_method_30_code
  | 20 => prog_1_method_31_code
  | 21 => prog_1_method_32_code
  | 22 => prog_1_method_33_code
  | 23 => prog_1_method_34_code
  | 24 => prog_1_method_36_code
  | 25 => prog_1_method_37_code
  | 26 => prog_1_method_39_code
  | 27 => prog_1_method_16_code
  | 28 => prog_1_method_47_code
  | 29 => prog_1_method_38_code
  | 30 => prog_1_method_1_code
  | 31 => prog_1_method_6_code
  | 32 => prog_1_method_2_code
  | 33 => prog_1_method_4_code
  | 34 => prog_1_method_5_code
  | 35 => prog_1_method_8_code
  | 36 => prog_1_method_9_code
  | 37 => prog_1_method_12_code
  | 38 => prog_1_method_15_code
  | 39 => prog_1_method_14_code
  | 40 => prog_2_method_2_code
  | 41 => prog_2_method_7_code
  | 42 => prog_2_method_8_code
  | 43 => prog_2_method_3_code
  | 44 => prog_2_method_5_code
  | 45 => prog_2_method_6_code
  | 46 => prog_2_method_4_code
  | 47 => prog_2_method_1_code
  | 48 => prog_3_method_1_code
  | 49 => prog_4_method_2_code
  | 50 => prog_4_method_1_code
  | 51 => prog_5_method_2_code
  | 52 => prog_5_method_6_code
  | 53 => prog_5_method_3_code
  | 54 => prog_5_method_4_code
  | 55 => prog_5_method_5_code
  | 56 => prog_5_method_1_code
  | 57 => prog_6_method_2_code
  | 58 => prog_6_method_1_code
  | 59 => prog_7_method_2_code
  | 60 => prog_7_method_3_code
  | 61 => prog_7_method_4_code
  | 62 => prog_7_method_7_code
  | 63 => prog_7_method_5_code
  | 64 => prog_7_method_6_code
  | 65 => prog_7_method_8_code
  | 66 => prog_7_method_9_code
  | 67 => prog_7_method_11_code
  | 68 => prog_7_method_10_code
  | 69 => prog_7_method_12_code
  | 70 => prog_7_method_13_code
  | 71 => prog_7_method_14_code
  | 72 => prog_7_method_15_code
  | 73 => prog_7_method_1_code
  | 74 => prog_8_method_1_code
  | 75 => prog_9_method_3_code
  | 76 => prog_9_method_2_code
  | 77 => prog_9_method_5_code
  | 78 => prog_9_method_4_code
  | 79 => prog_9_method_1_code
  | 80 => prog_10_method_5_code
  | 81 => prog_10_method_6_code
  | 82 => prog_10_method_10_code
  | 83 => prog_10_method_11_code
  | 84 => prog_10_method_7_code
  | 85 => prog_10_method_8_code
  | 86 => prog_10_method_9_code
  | 87 => prog_10_method_3_code
  | 88 => prog_10_method_2_code
  | 89 => prog_10_method_4_code
  | 90 => prog_10_method_1_code
  | 91 => prog_11_method_2_code
  | 92 => prog_11_method_3_code
  | 93 => prog_11_method_1_code
  | 94 => prog_12_method_4_code
  | 95 => prog_12_method_5_code
  | 96 => prog_12_method_3_code
  | 97 => prog_12_method_1_code
  | 98 => prog_12_method_2_code
  | 99 => prog_14_method_1_code
  | 100 => prog_14_method_2_code
  | 101 => prog_14_method_4_code
  | 102 => prog_14_method_6_code
  | 103 => prog_14_method_3_code
  | 104 => prog_14_method_5_code
  | 105 => prog_14_method_7_code
  | 106 => method_3_code
  | 107 => method_2_code
  | 108 => code
  | 109 => prog_21_method_47_code
  | 110 => prog_21_method_65_code
  | 111 => prog_21_method_69_code
  | 112 => prog_26_method_103_code
  | 113 => prog_26_method_123_code
  | _ => ⟨#[]⟩
def mL : Nat → Nat := fun i => match i with
  | 0 => 4
  | 1 => 2
  | 2 => 2
  | 3 => 1
  | 4 => 3
  | 5 => 1
  | 6 => 6
  | 7 => 1
  | 8 => 5
  | 9 => 4
  | 10 => 6
  | 11 => 7
  | 12 => 6
  | 13 => 5
  | 14 => 1
  | 15 => 2
  | 16 => 2
  | 17 => 1
  | 18 => 2
  | 19 => 2
  | 20 => 2
  | 21 => 1
  | 22 => 1
  | 23 => 1
  | 24 => 2
  | 25 => 5
  | 26 => 3
  | 27 => 3
  | 28 => 2
  | 29 => 6
  | 30 => 1
  | 31 => 6
  | 32 => 2
  | 33 => 4
  | 34 => 4
  | 35 => 6
  | 36 => 6
  | 37 => 2
  | 38 => 4
  | 39 => 5
  | 40 => 8
  | 41 => 5
  | 42 => 5
  | 43 => 3
  | 44 => 6
  | 45 => 10
  | 46 => 8
  | 47 => 1
  | 48 => 1
  | 49 => 2
  | 50 => 4
  | 51 => 10
  | 52 => 10
  | 53 => 3
  | 54 => 9
  | 55 => 6
  | 56 => 2
  | 57 => 2
  | 58 => 4
  | 59 => 4
  | 60 => 7
  | 61 => 1
  | 62 => 12
  | 63 => 1
  | 64 => 1
  | 65 => 6
  | 66 => 8
  | 67 => 4
  | 68 => 8
  | 69 => 3
  | 70 => 7
  | 71 => 1
  | 72 => 3
  | 73 => 1
  | 74 => 1
  | 75 => 5
  | 76 => 3
  | 77 => 2
  | 78 => 2
  | 79 => 1
  | 80 => 8
  | 81 => 3
  | 82 => 5
  | 83 => 6
  | 84 => 5
  | 85 => 9
  | 86 => 4
  | 87 => 3
  | 88 => 2
  | 89 => 3
  | 90 => 1
  | 91 => 9
  | 92 => 7
  | 93 => 1
  | 94 => 2
  | 95 => 2
  | 96 => 1
  | 97 => 4
  | 98 => 4
  | 99 => 3
  | 100 => 3
  | 101 => 4
  | 102 => 5
  | 103 => 5
  | 104 => 4
  | 105 => 4
  | 106 => 2
  | 107 => 2
  | 108 => 23
  | 109 => 3
  | 110 => 2
  | 111 => 2
  | 112 => 4
  | 113 => 3
  | _ => 0
def mR : Nat → Option FieldType := fun i => match i with
  | 0 => (some Jvm.ClassFile.FieldType.int)
  | 1 => none
  | 2 => none
  | 3 => none
  | 4 => (some Jvm.ClassFile.FieldType.boolean)
  | 5 => none
  | 6 => (some Jvm.ClassFile.FieldType.int)
  | 7 => (some Jvm.ClassFile.FieldType.boolean)
  | 8 => (some Jvm.ClassFile.FieldType.int)
  | 9 => (some Jvm.ClassFile.FieldType.int)
  | 10 => (some Jvm.ClassFile.FieldType.int)
  | 11 => (some Jvm.ClassFile.FieldType.int)
  | 12 => (some Jvm.ClassFile.FieldType.int)
  | 13 => (some Jvm.ClassFile.FieldType.int)
  | 14 => (some Jvm.ClassFile.FieldType.int)
  | 15 => (some Jvm.ClassFile.FieldType.int)
  | 16 => none
  | 17 => none
  | 18 => (some Jvm.ClassFile.FieldType.int)
  | 19 => (some Jvm.ClassFile.FieldType.int)
  | 20 => (some Jvm.ClassFile.FieldType.int)
  | 21 => (some Jvm.ClassFile.FieldType.int)
  | 22 => (some Jvm.ClassFile.FieldType.int)
  | 23 => (some Jvm.ClassFile.FieldType.boolean)
  | 24 => (some Jvm.ClassFile.FieldType.double)
  | 25 => (some Jvm.ClassFile.FieldType.long)
  | 26 => (some Jvm.ClassFile.FieldType.long)
  | 27 => (some Jvm.ClassFile.FieldType.int)
  | 28 => none
  | 29 => (some Jvm.ClassFile.FieldType.long)
  | 30 => none
  | 31 => (some Jvm.ClassFile.FieldType.boolean)
  | 32 => (some Jvm.ClassFile.FieldType.int)
  | 33 => (some Jvm.ClassFile.FieldType.int)
  | 34 => (some Jvm.ClassFile.FieldType.int)
  | 35 => (some Jvm.ClassFile.FieldType.int)
  | 36 => (some Jvm.ClassFile.FieldType.int)
  | 37 => (some Jvm.ClassFile.FieldType.int)
  | 38 => (some Jvm.ClassFile.FieldType.boolean)
  | 39 => (some Jvm.ClassFile.FieldType.int)
  | 40 => none
  | 41 => none
  | 42 => none
  | 43 => (some Jvm.ClassFile.FieldType.int)
  | 44 => (some Jvm.ClassFile.FieldType.boolean)
  | 45 => (some Jvm.ClassFile.FieldType.boolean)
  | 46 => (some Jvm.ClassFile.FieldType.int)
  | 47 => none
  | 48 => none
  | 49 => (some Jvm.ClassFile.FieldType.boolean)
  | 50 => none
  | 51 => (some Jvm.ClassFile.FieldType.int)
  | 52 => (some Jvm.ClassFile.FieldType.boolean)
  | 53 => none
  | 54 => (some Jvm.ClassFile.FieldType.boolean)
  | 55 => (some Jvm.ClassFile.FieldType.boolean)
  | 56 => none
  | 57 => (some Jvm.ClassFile.FieldType.int)
  | 58 => none
  | 59 => none
  | 60 => none
  | 61 => (some Jvm.ClassFile.FieldType.int)
  | 62 => (some Jvm.ClassFile.FieldType.boolean)
  | 63 => (some Jvm.ClassFile.FieldType.int)
  | 64 => (some Jvm.ClassFile.FieldType.boolean)
  | 65 => (some Jvm.ClassFile.FieldType.int)
  | 66 => none
  | 67 => none
  | 68 => (some Jvm.ClassFile.FieldType.boolean)
  | 69 => (some Jvm.ClassFile.FieldType.int)
  | 70 => (some Jvm.ClassFile.FieldType.boolean)
  | 71 => (some Jvm.ClassFile.FieldType.int)
  | 72 => (some Jvm.ClassFile.FieldType.int)
  | 73 => none
  | 74 => none
  | 75 => (some Jvm.ClassFile.FieldType.boolean)
  | 76 => (some Jvm.ClassFile.FieldType.int)
  | 77 => none
  | 78 => none
  | 79 => none
  | 80 => none
  | 81 => none
  | 82 => none
  | 83 => none
  | 84 => (some Jvm.ClassFile.FieldType.boolean)
  | 85 => (some Jvm.ClassFile.FieldType.boolean)
  | 86 => none
  | 87 => (some Jvm.ClassFile.FieldType.int)
  | 88 => (some Jvm.ClassFile.FieldType.boolean)
  | 89 => (some Jvm.ClassFile.FieldType.int)
  | 90 => none
  | 91 => none
  | 92 => none
  | 93 => none
  | 94 => (some Jvm.ClassFile.FieldType.boolean)
  | 95 => (some Jvm.ClassFile.FieldType.int)
  | 96 => (some Jvm.ClassFile.FieldType.int)
  | 97 => none
  | 98 => none
  | 99 => none
  | 100 => (some Jvm.ClassFile.FieldType.int)
  | 101 => (some Jvm.ClassFile.FieldType.boolean)
  | 102 => (some Jvm.ClassFile.FieldType.boolean)
  | 103 => (some Jvm.ClassFile.FieldType.boolean)
  | 104 => (some Jvm.ClassFile.FieldType.boolean)
  | 105 => (some Jvm.ClassFile.FieldType.boolean)
  | 106 => (some Jvm.ClassFile.FieldType.int)
  | 107 => (some Jvm.ClassFile.FieldType.int)
  | 108 => (some .boolean)
  | 109 => (some Jvm.ClassFile.FieldType.int)
  | 110 => (some Jvm.ClassFile.FieldType.int)
  | 111 => (some Jvm.ClassFile.FieldType.int)
  | 112 => none
  | 113 => (some (Jvm.ClassFile.FieldType.array Jvm.ClassFile.FieldType.int))
  | _ => none
def mC : Nat → Nat := fun i => match i with
  | 0 => 1
  | 1 => 1
  | 2 => 1
  | 3 => 1
  | 4 => 1
  | 5 => 1
  | 6 => 1
  | 7 => 1
  | 8 => 1
  | 9 => 1
  | 10 => 1
  | 11 => 1
  | 12 => 1
  | 13 => 1
  | 14 => 1
  | 15 => 1
  | 16 => 1
  | 17 => 1
  | 18 => 1
  | 19 => 1
  | 20 => 1
  | 21 => 1
  | 22 => 1
  | 23 => 1
  | 24 => 1
  | 25 => 1
  | 26 => 1
  | 27 => 1
  | 28 => 1
  | 29 => 1
  | 30 => 1
  | 31 => 1
  | 32 => 1
  | 33 => 1
  | 34 => 1
  | 35 => 1
  | 36 => 1
  | 37 => 1
  | 38 => 1
  | 39 => 1
  | 40 => 2
  | 41 => 2
  | 42 => 2
  | 43 => 2
  | 44 => 2
  | 45 => 2
  | 46 => 2
  | 47 => 2
  | 48 => 3
  | 49 => 4
  | 50 => 4
  | 51 => 5
  | 52 => 5
  | 53 => 5
  | 54 => 5
  | 55 => 5
  | 56 => 5
  | 57 => 6
  | 58 => 6
  | 59 => 7
  | 60 => 7
  | 61 => 7
  | 62 => 7
  | 63 => 7
  | 64 => 7
  | 65 => 7
  | 66 => 7
  | 67 => 7
  | 68 => 7
  | 69 => 7
  | 70 => 7
  | 71 => 7
  | 72 => 7
  | 73 => 7
  | 74 => 8
  | 75 => 9
  | 76 => 9
  | 77 => 9
  | 78 => 9
  | 79 => 9
  | 80 => 10
  | 81 => 10
  | 82 => 10
  | 83 => 10
  | 84 => 10
  | 85 => 10
  | 86 => 10
  | 87 => 10
  | 88 => 10
  | 89 => 10
  | 90 => 10
  | 91 => 11
  | 92 => 11
  | 93 => 11
  | 94 => 12
  | 95 => 12
  | 96 => 12
  | 97 => 12
  | 98 => 12
  | 99 => 13
  | 100 => 13
  | 101 => 13
  | 102 => 13
  | 103 => 13
  | 104 => 13
  | 105 => 13
  | 106 => 0
  | 107 => 0
  | 108 => 0
  | 109 => 0
  | 110 => 0
  | 111 => 0
  | 112 => 0
  | 113 => 0
  | _ => 0
def mF : Nat → Nat := fun i => match i with
  | 0 => 8
  | 1 => 7
  | 2 => 6
  | 3 => 7
  | 4 => 0
  | 5 => 6
  | 6 => 6
  | 7 => 1
  | 8 => 8
  | 9 => 8
  | 10 => 8
  | 11 => 8
  | 12 => 8
  | 13 => 8
  | 14 => 0
  | 15 => 8
  | 16 => 7
  | 17 => 6
  | 18 => 8
  | 19 => 8
  | 20 => 8
  | 21 => 7
  | 22 => 7
  | 23 => 7
  | 24 => 2
  | 25 => 9
  | 26 => 0
  | 27 => 8
  | 28 => 7
  | 29 => 5
  | 30 => 3
  | 31 => 7
  | 32 => 7
  | 33 => 8
  | 34 => 7
  | 35 => 8
  | 36 => 8
  | 37 => 8
  | 38 => 8
  | 39 => 8
  | 40 => 3
  | 41 => 2
  | 42 => 1
  | 43 => 0
  | 44 => 1
  | 45 => 0
  | 46 => 1
  | 47 => 1
  | 48 => 1
  | 49 => 2
  | 50 => 1
  | 51 => 7
  | 52 => 4
  | 53 => 4
  | 54 => 6
  | 55 => 5
  | 56 => 2
  | 57 => 0
  | 58 => 1
  | 59 => 0
  | 60 => 5
  | 61 => 0
  | 62 => 4
  | 63 => 0
  | 64 => 0
  | 65 => 0
  | 66 => 3
  | 67 => 0
  | 68 => 1
  | 69 => 0
  | 70 => 4
  | 71 => 1
  | 72 => 0
  | 73 => 1
  | 74 => 1
  | 75 => 3
  | 76 => 0
  | 77 => 2
  | 78 => 3
  | 79 => 1
  | 80 => 5
  | 81 => 1
  | 82 => 2
  | 83 => 1
  | 84 => 1
  | 85 => 0
  | 86 => 1
  | 87 => 1
  | 88 => 0
  | 89 => 0
  | 90 => 1
  | 91 => 4
  | 92 => 3
  | 93 => 1
  | 94 => 3
  | 95 => 2
  | 96 => 0
  | 97 => 1
  | 98 => 0
  | 99 => 4
  | 100 => 1
  | 101 => 8
  | 102 => 10
  | 103 => 9
  | 104 => 9
  | 105 => 9
  | 106 => 0
  | 107 => 0
  | 108 => 11
  | 109 => 0
  | 110 => 0
  | 111 => 0
  | 112 => 0
  | 113 => 1
  | _ => 0
def mK : Nat → Nat := fun i => match i with
  | 0 => 182
  | 1 => 161
  | 2 => 140
  | 3 => 160
  | 4 => 0
  | 5 => 140
  | 6 => 144
  | 7 => 22
  | 8 => 182
  | 9 => 182
  | 10 => 237
  | 11 => 182
  | 12 => 182
  | 13 => 182
  | 14 => 0
  | 15 => 182
  | 16 => 161
  | 17 => 140
  | 18 => 182
  | 19 => 182
  | 20 => 182
  | 21 => 160
  | 22 => 160
  | 23 => 160
  | 24 => 40
  | 25 => 204
  | 26 => 0
  | 27 => 182
  | 28 => 161
  | 29 => 110
  | 30 => 53
  | 31 => 161
  | 32 => 160
  | 33 => 182
  | 34 => 160
  | 35 => 182
  | 36 => 182
  | 37 => 182
  | 38 => 182
  | 39 => 182
  | 40 => 70
  | 41 => 46
  | 42 => 22
  | 43 => 0
  | 44 => 29
  | 45 => 0
  | 46 => 22
  | 47 => 12
  | 48 => 12
  | 49 => 42
  | 50 => 12
  | 51 => 208
  | 52 => 126
  | 53 => 123
  | 54 => 180
  | 55 => 155
  | 56 => 32
  | 57 => 0
  | 58 => 12
  | 59 => 0
  | 60 => 121
  | 61 => 0
  | 62 => 90
  | 63 => 0
  | 64 => 0
  | 65 => 0
  | 66 => 63
  | 67 => 0
  | 68 => 23
  | 69 => 0
  | 70 => 84
  | 71 => 20
  | 72 => 0
  | 73 => 12
  | 74 => 12
  | 75 => 102
  | 76 => 0
  | 77 => 81
  | 78 => 102
  | 79 => 12
  | 80 => 117
  | 81 => 23
  | 82 => 46
  | 83 => 21
  | 84 => 28
  | 85 => 0
  | 86 => 21
  | 87 => 22
  | 88 => 0
  | 89 => 0
  | 90 => 12
  | 91 => 89
  | 92 => 63
  | 93 => 12
  | 94 => 63
  | 95 => 42
  | 96 => 0
  | 97 => 12
  | 98 => 0
  | 99 => 73
  | 100 => 21
  | 101 => 186
  | 102 => 233
  | 103 => 209
  | 104 => 207
  | 105 => 206
  | 106 => 0
  | 107 => 0
  | 108 => 262
  | 109 => 0
  | 110 => 0
  | 111 => 0
  | 112 => 0
  | 113 => 59
  | _ => 0
def mX : Nat → List ExceptionTableEntry := fun i => match i with
  | _ => []
/-- a method's own word -/
def cdP (i : Nat) : Prop := okw (.code (mY i) (mB i) (mL i) (mR i)) ∧ plainFor (mY i) = true ∧ ((mY i).cls ≠ "java/lang/invoke/MethodHandle" ∧ (mY i).cls ≠ "java/lang/invoke/VarHandle") ∧ okw (.initialized (mY i).cls)
/-- a call of method j at the pool's place idx out of method i, n arguments -/
def cvP (i idx j n : Nat) : Prop := cdP j ∧ okw (.methodLink (mY i).cls idx (mY j)) ∧ okw (.instanceMethod (mY j)) ∧ okw (.selects (mY j).cls (mY j) (mY j)) ∧ (parseMethodDescriptor (mY j).desc).map (fun d => d.parameters.length) = some n ∧ (mF j + 1 ≤ mF i ∧ 8 + (mL j + 11) + mK j ≤ mK i)
def csP (i idx j n : Nat) : Prop := cdP j ∧ okw (.methodLink (mY i).cls idx (mY j)) ∧ okw (.static (mY j)) ∧ (parseMethodDescriptor (mY j).desc).map (fun d => d.parameters.length) = some n ∧ (mF j + 1 ≤ mF i ∧ 8 + (mL j + 11) + mK j ≤ mK i)
def csnP (i idx j n : Nat) : Prop := cdP j ∧ (∃ h, okw (.methodLinkNest (mY i).cls idx (mY j) h)) ∧ okw (.static (mY j)) ∧ (parseMethodDescriptor (mY j).desc).map (fun d => d.parameters.length) = some n ∧ (mF j + 1 ≤ mF i ∧ 8 + (mL j + 11) + mK j ≤ mK i)
def ciP (i idx j n : Nat) : Prop := cdP j ∧ okw (.methodLink (mY i).cls idx (mY j)) ∧ okw (.instanceMethod (mY j)) ∧ (mY j).name = "<init>" ∧ (parseMethodDescriptor (mY j).desc).map (fun d => d.parameters.length) = some n ∧ (mF j + 1 ≤ mF i ∧ 8 + (mL j + 11) + mK j ≤ mK i)
def cinP (i idx j n : Nat) : Prop := cdP j ∧ (∃ h, okw (.methodLinkNest (mY i).cls idx (mY j) h)) ∧ okw (.instanceMethod (mY j)) ∧ (mY j).name = "<init>" ∧ (parseMethodDescriptor (mY j).desc).map (fun d => d.parameters.length) = some n ∧ (mF j + 1 ≤ mF i ∧ 8 + (mL j + 11) + mK j ≤ mK i)
/-- the field k of class ci at the pool's place idx of the class own -/
def flP (own : String) (idx ci k : Nat) : Prop := ∃ q : vw_C, CL[ci]? = some q ∧ k < q.2.2 ∧ okw (.fieldLink own idx q.1 (q.2.1 k).2.1 (q.2.1 k).2.2.1)
end
section
/-! ===== BEGIN words of one list among another's, by their places ===== -/
theorem goodIn_r {big : List Cond} (ws : List Cond) (ps : List Nat) (hp : ws = ps.filterMap (fun i => big[i]?)) (h : ws.all goodWord = true) : GoodIn big ws := by
  intro w hw
  have h1 := List.all_eq_true.mp h w hw
  rw [hp] at hw
  obtain ⟨i, -, hi⟩ := List.mem_filterMap.mp hw
  have hm : w ∈ big := by first | exact List.mem_of_getElem? hi | exact List.getElem?_mem hi
  exact ⟨hm, good_of_word h1⟩
theorem goodIn_app {big a b : List Cond} (ha : GoodIn big a) (hb : GoodIn big b) : GoodIn big (a ++ b) := fun w h => (List.mem_append.mp h).elim (ha w) (hb w)
theorem goodIn_ca {big a b : List Cond} {c : Cond} (ha : GoodIn big (c :: a)) (hb : GoodIn big b) : GoodIn big (c :: (a ++ b)) := fun w h => (List.mem_cons.mp h).elim (fun e => ha w (List.mem_cons.mpr (Or.inl e))) (fun h => (List.mem_append.mp h).elim (fun h => ha w (List.mem_cons.mpr (Or.inr h))) (hb w))
theorem goodIn_sub {big ws : List Cond} (hm : ∀ w ∈ ws, w ∈ big) (h : ws.all goodWord = true) : GoodIn big ws := fun w hw => ⟨hm w hw, good_of_word (List.all_eq_true.mp h w hw)⟩
/-! ===== END ===== -/
/-! ===== BEGIN exceptions that leave a method, and their catching by the caller (launches without stack traces) ===== -/
section VXA
/-! The laws vx_back, vx_callV, vx_callS, vx_callSW, vx_throw0, vx_throwS follow proofs of the library, with one case more: JvmDerived/Free/Laws.lean (Back.of_free), Shelf42/LK1.lean (callV, callS), Shelf/KitTraced.lean (throwNew0V, throwNewS). -/
/-- where a method has thrown q: the class by its name, the cell, what was written, the world -/
def vx_T (XC : String → State → State → Prop) (st : State) (q : Addr) (t : State) (mc ms : Nat) (free : Addr → Prop) : Prop :=
  ∃ (E : String) (ce : Cell) (L : List Loc), XC E st t ∧ t.heap[q]? = some ce ∧ ce.vm = .none ∧ st.vm.findClass E = some ce.cls ∧ st.WarmedH t.vm ∧ st.sameButNew ({ t with vm := st.vm } : State) L mc ms ∧ ∀ z ∈ L, free z.base
def vx_Q (Qc : Array Value → State → Outcome → State → Prop) (XC : String → State → State → Prop) (mc ms : Nat) (free : Addr → Prop) : Array Value → State → Outcome → State → Prop := fun a st o t =>
  (Qc a st o t ∧ ∃ L, FrameEnd st o t L mc ms ∧ ∀ q ∈ L, free q.base) ∨ ∃ q, o = .threw q ∧ vx_T XC st q t mc ms free
/-- a callee that returns or throws -/
def vx_Met (l : Launch) (y : MethodName) (ws : List Cond) (rm : Room) (Pc : Array Value → State → Prop) (Qc : Array Value → State → Outcome → State → Prop) (XC : String → State → State → Prop) (mc ms : Nat) (free : Addr → Prop) : Prop :=
  MetFree l y (headSpec ws rm) Pc (fun _ _ _ _ _ => True) (vx_Q Qc XC mc ms free)
def vx_Post (XC : String → State → State → Prop) (mc ms : Nat) (free : Addr → Prop) : Pt → Array Value → Addr → Pt → Prop := fun A a q B =>
  ∃ (g : JFrame) (mk : MethodId) (t : State) (L : List Loc) (E : String) (ce : Cell), B.U.heap = t.heap ∧ B.U.vm = t.vm ∧ XC E (A.U.calling g mk a) t ∧ t.heap[q]? = some ce ∧ ce.vm = .none ∧ A.U.vm.findClass E = some ce.cls ∧ B.locs = A.locs ++ L ∧ (∀ z ∈ L, free z.base) ∧ B.cells = A.cells + mc ∧ B.slots = A.slots + ms
def vx_Back (l : Launch) (R : Room) (p : Program) (e : Env) (below : List Frame) (s : State) (sargs : Array Value) (y : MethodName) (len W9 : Nat)
    (Pre : Pt → Array Value → Prop) (Post : Pt → Array Value → Option Value → Pt → Prop) (PostX : Pt → Array Value → Addr → Pt → Prop) : Prop :=
  ∀ (m : MethodId) (meth : Method) (c : Code) (A : Pt) (g : JFrame) (ig : Instr) (mk : MethodId) (a : Array Value),
    Stand p l e R s m sargs below meth c A.U A.locs A.cells A.slots → g.method = m → g.locals.size = c.maxLocals → decode c.code g.pc = .ok (ig, len) →
    2 * g.monitorRoom + (g.stack.map fun v => v.category).sum ≤ W9 → A.U.methodNamed? y = some mk → Pre A a →
    (∃ (v : Option Value) (B : Pt), Stand p l e R s m sargs below meth c B.U B.locs B.cells B.slots ∧ Post A a v B ∧
      Steps p.tables e below (doInvoke e (A.U.setTop g) [] mk a).1 (B.U.setTop { g with pc := g.pc + len, stack := v.toList ++ g.stack })) ∨
    (∃ (q : Addr) (B : Pt), Stand p l e R s m sargs below meth c B.U B.locs B.cells B.slots ∧ PostX A a q B ∧
      Steps p.tables e below (doInvoke e (A.U.setTop g) [] mk a).1 ((B.U.setTop g).pushFrame (.throwing q)))
section Payer
variable {l : Launch} {R : Room} {p : Program} {e : Env} {below : List Frame} {s : State} {sargs : Array Value} {y : MethodName} {len W9 : Nat}
theorem vx_back {ws : List Cond} {rm : Room} {Pc : Array Value → State → Prop} {Qc : Array Value → State → Outcome → State → Prop} {XC : String → State → State → Prop} {mc ms : Nat} {free : Addr → Prop} {bytes : ByteArray} {maxL : Nat} {ret : Option FieldType}
    (hM : vx_Met l y ws rm Pc Qc XC mc ms free) (hblind : FrameBlind Pc) (hrc : rm.cells = mc) (hrs : rm.slots = ms)
    (hframes : rm.frames + 1 ≤ R.frames) (hlocals : W9 + (maxL + 11) + rm.locals ≤ R.locals)
    (hws : ∀ w ∈ ws, ∀ a' U, s.WarmedH U.vm → w.before a' U = true) (hcode : Cond.code y bytes maxL ret ∈ ws) (hinit : ∀ a' U, s.WarmedH U.vm → (Cond.initialized y.cls).before a' U = true) :
    vx_Back l R p e below s sargs y len W9 (PreOf R mc ms Pc) (PostOf Qc mc ms free) (vx_Post XC mc ms free) := by
  intro m meth c A g ig mk a X hg hsize hdg hW hn hp
  have h1 : (headSpec ws rm).pre.before a A.U = true := atoms_intro fun w hw => hws w hw _ _ X.warmed
  have h2 : (Cond.code y bytes maxL ret).before a A.U = true := hws _ hcode _ _ X.warmed
  have h3 : (Cond.initialized y.cls).before a A.U = true := hinit _ _ X.warmed
  have h4 : A.cells + (headSpec ws rm).room.cells ≤ R.cells := by rw [show (headSpec ws rm).room.cells = mc from hrc]; exact hp.1
  have h5 : A.slots + (headSpec ws rm).room.slots ≤ R.slots := by rw [show (headSpec ws rm).room.slots = ms from hrs]; exact hp.2.1
  have hPc : Pc a (A.U.calling g mk a) := hblind _ _ _ _ hp.2.2
  obtain ⟨U, Ls, c0, s0⟩ := A
  dsimp only [Pt.U, Pt.locs, Pt.cells, Pt.slots] at h1 h2 h3 h4 h5 X hn hPc ⊢
  obtain ⟨methY, cY, hmY, hcY, -, hlY, -, -, -, -⟩ := Cond.code_spec hn h2
  obtain ⟨kY, hkY, -⟩ := className_of_methodNamed hn
  have hinitY : kY.init = .initialized := Cond.initialized_spec (findClass_of_methodNamed hn) hkY h3
  have h : At U g.method c below := by rw [hg]; exact X.here
  have hlocals9 : W9 + (maxL + 11) + (headSpec ws rm).room.locals ≤ R.locals := hlocals
  have happ : (headSpec ws rm).appliesLoose y e.platform (U.calling g mk a) = true :=
    Spec.appliesLoose_calling (g := g) h hdg hn hkY hinitY
      (X.room_calling (g := g) (R' := (headSpec ws rm).room) hsize hmY hcY hframes (by rw [hlY]; omega) h4 h5) h1
  obtain ⟨mid, hmid⟩ := h.above
  have hfr : (U.setTop g).frames = (.java g :: mid) ++ below := by rw [State.frames_setTop' g h.top, hmid]; rfl
  obtain ⟨o, s₂, hsteps, -, hend, hq⟩ := Steps.callFree hM p X.admits X.cas X.clock (acts := []) hfr happ hPc trivial
  have hq' : vx_Q Qc XC mc ms free a (U.calling g mk a) o s₂ := hq
  rw [State.frames_setTop' g h.top] at hend
  obtain ⟨g₀, hg0⟩ := Option.isSome_iff_exists.mp h.top
  obtain ⟨r, hr⟩ := State.topJava?_eq_some.mp hg0
  have hr' : (({ U with heap := s₂.heap, slotsUsed := s₂.slotsUsed } : State).setVm s₂.vm).frames = .java g₀ :: r := hr
  rcases hq' with ⟨hqc, L, hfe, hL⟩ | ⟨q, rfl, E, ce, L, hx, hce, hcv, hcl, hW₂, hsm, hL⟩
  · obtain ⟨⟨v, rfl⟩, hW₂, e2, q2, q3, q4, q5, q6⟩ := id hfe
    have e3 : s₂ = ({ (U.calling g mk a).setFrames s₂.frames with heap := s₂.heap, slotsUsed := s₂.slotsUsed } : State).setVm s₂.vm := by
      have : s₂ = ({ s₂ with vm := (U.calling g mk a).vm } : State).setVm s₂.vm := rfl
      rw [e2] at this
      exact this
    obtain ⟨c₂, i₂, len₂, hc₂, hd₂, hf₂⟩ := hend
    have hW' : U.WarmedH s₂.vm := hW₂
    have hcc : c₂ = c := by
      have h1 : s₂.code? g.method = U.code? g.method := by
        rw [State.code?_eq, State.code?_eq, hW'.alike.method?]
      exact Option.some.inj (hc₂.symm.trans (h1.trans h.code))
    subst hcc
    have hlen : len₂ = len := by rw [hdg] at hd₂; cases hd₂; rfl
    subst hlen
    have hs₂ : s₂ = (({ U with heap := s₂.heap, slotsUsed := s₂.slotsUsed } : State).setVm s₂.vm).setTop { g with pc := g.pc + len₂, stack := v.toList ++ g.stack } := by
      refine e3.trans ?_
      rw [hf₂, State.calling_eq h.top, State.setFrames_setFrames, State.setTop_of_frames _ hr', hr]
      rfl
    have hsame : U.sameButNew ({ U with heap := s₂.heap, slotsUsed := s₂.slotsUsed } : State) L mc ms := by
      refine ⟨?_, q2, q3, q4, q5, q6⟩
      obtain ⟨t, ht, -⟩ := State.frames_cons hr
      show ({ U with heap := s₂.heap, slotsUsed := s₂.slotsUsed } : State) = { U.setFrames U.frames with heap := s₂.heap, slotsUsed := s₂.slotsUsed }
      rw [State.setFrames_self ht]
    subst hg
    refine Or.inl ⟨v, ⟨(({ U with heap := s₂.heap, slotsUsed := s₂.slotsUsed } : State).setVm s₂.vm), Ls ++ L, c0 + mc, s0 + ms⟩,
      ⟨X.admits, X.cas, X.clock, X.frames, X.room, X.hears, X.method, X.code, (X.here.setHeapUsed s₂.heap s₂.slotsUsed).setVm hW'.alike, X.tail, State.WarmedH.trans X.warmed hW', X.limits, X.bytes, X.same.trans (hsame.setVm s.vm)⟩,
      ⟨g, mk, s₂, L, rfl, rfl, hqc, rfl, hL, rfl, rfl⟩, ?_⟩
    show Steps p.tables e below _ ((({ U with heap := s₂.heap, slotsUsed := s₂.slotsUsed } : State).setVm s₂.vm).setTop { g with pc := g.pc + len₂, stack := v.toList ++ g.stack })
    rw [← hs₂]
    exact hsteps
  · obtain ⟨e2, q2, q3, q4, q5, q6⟩ := id hsm
    have e3 : s₂ = ({ (U.calling g mk a).setFrames s₂.frames with heap := s₂.heap, slotsUsed := s₂.slotsUsed } : State).setVm s₂.vm := by
      have : s₂ = ({ s₂ with vm := (U.calling g mk a).vm } : State).setVm s₂.vm := rfl
      rw [e2] at this
      exact this
    have hf₂ : s₂.frames = .throwing q :: .java g :: U.frames.tail := hend
    have hW' : U.WarmedH s₂.vm := hW₂
    have hs₂ : s₂ = ((({ U with heap := s₂.heap, slotsUsed := s₂.slotsUsed } : State).setVm s₂.vm).setTop g).pushFrame (.throwing q) := by
      refine e3.trans ?_
      rw [hf₂, State.calling_eq h.top, State.setFrames_setFrames, State.pushFrame, State.frames_setTop _ hr', State.setTop_of_frames _ hr', State.setFrames_setFrames, hr]
      rfl
    have hsame : U.sameButNew ({ U with heap := s₂.heap, slotsUsed := s₂.slotsUsed } : State) L mc ms := by
      refine ⟨?_, q2, q3, q4, q5, q6⟩
      obtain ⟨t, ht, -⟩ := State.frames_cons hr
      show ({ U with heap := s₂.heap, slotsUsed := s₂.slotsUsed } : State) = { U.setFrames U.frames with heap := s₂.heap, slotsUsed := s₂.slotsUsed }
      rw [State.setFrames_self ht]
    subst hg
    refine Or.inr ⟨q, ⟨(({ U with heap := s₂.heap, slotsUsed := s₂.slotsUsed } : State).setVm s₂.vm), Ls ++ L, c0 + mc, s0 + ms⟩,
      ⟨X.admits, X.cas, X.clock, X.frames, X.room, X.hears, X.method, X.code, (X.here.setHeapUsed s₂.heap s₂.slotsUsed).setVm hW'.alike, X.tail, State.WarmedH.trans X.warmed hW', X.limits, X.bytes, X.same.trans (hsame.setVm s.vm)⟩,
      ⟨g, mk, s₂, L, E, ce, rfl, rfl, hx, hce, hcv, hcl, rfl, hL, rfl, rfl⟩, ?_⟩
    show Steps p.tables e below _ (((({ U with heap := s₂.heap, slotsUsed := s₂.slotsUsed } : State).setVm s₂.vm).setTop g).pushFrame (.throwing q))
    rw [← hs₂]
    exact hsteps
end Payer
section Calls
variable {p : Program} {l : Launch} {e : Env} {R : Room} {s : State} {m : MethodId} {args : Array Value} {below : List Frame} {meth : Method} {c : Code} {T : State} {locs : List Loc} {cells slots : Nat}
theorem vx_callV (X : Stand p l e R s m args below meth c T locs cells slots) (hexec : p.tables.exec = Jvm.exec) {own C : String} {index : Nat} {y : MethodName} {bytes : ByteArray} {maxL : Nat} {ret : Option FieldType}
    (hown : s.vm.findClass own = some m.cls) (hlink : (Cond.methodLink own index y).before args s = true) (hinst : (Cond.instanceMethod y).before args s = true) (hsel : (Cond.selects C y y).before args s = true)
    (hcode : (Cond.code y bytes maxL ret).before args s = true) (hy : y.cls ≠ "java/lang/invoke/MethodHandle" ∧ y.cls ≠ "java/lang/invoke/VarHandle")
    {W9 : Nat} {Pre : Pt → Array Value → Prop} {Post : Pt → Array Value → Option Value → Pt → Prop} {PostX : Pt → Array Value → Addr → Pt → Prop} (hK : vx_Back l R p e below s args y 3 W9 Pre Post PostX)
    {b : Addr} {cellB : Cell} (hcell : T.heap[b]? = some cellB) (hobj : cellB.vm.isStatics = false) (hcls : s.vm.findClass C = some cellB.cls)
    {g : JFrame} (hg : g.method = m) (hsize : g.locals.size = c.maxLocals) {argsL rest : List Value} (hlen : ∀ sig, parseMethodDescriptor y.desc = some sig → argsL.length = sig.parameters.length)
    (hstack : g.stack = argsL.reverse ++ .ref b :: rest) (hW : 2 * g.monitorRoom + (rest.map fun v => v.category).sum ≤ W9) (hdg : decode c.code g.pc = .ok (.invokevirtual index, 3))
    (hpre : ∀ vm₁, s.WarmedH vm₁ → Pre ⟨T.setVm vm₁, locs, cells, slots⟩ (Value.ref b :: argsL).toArray) :
    (∃ (v : Option Value) (vm₁ : Vm) (B : Pt), s.WarmedH vm₁ ∧ Stand p l e R s m args below meth c B.U B.locs B.cells B.slots ∧ Post ⟨T.setVm vm₁, locs, cells, slots⟩ (Value.ref b :: argsL).toArray v B ∧
      ∀ target, Steps p.tables e below (B.U.setTop { g with pc := g.pc + 3, stack := v.toList ++ rest }) target → Steps p.tables e below (T.setTop g) target) ∨
    (∃ (q : Addr) (vm₁ : Vm) (B : Pt), s.WarmedH vm₁ ∧ Stand p l e R s m args below meth c B.U B.locs B.cells B.slots ∧ PostX ⟨T.setVm vm₁, locs, cells, slots⟩ (Value.ref b :: argsL).toArray q B ∧
      Steps p.tables e below (T.setTop g) ((B.U.setTop { g with stack := rest }).pushFrame (.throwing q))) := by
  obtain ⟨mk, methM, hnamed, hmethM, hstM, habM⟩ := Cond.instanceMethod_spec hinst
  obtain ⟨methM', cM, hmethM', -, -, -, -, -, -, hsigM⟩ := Cond.code_spec hnamed hcode
  cases hmethM.symm.trans hmethM'
  obtain ⟨c2, r2, m2, q1, q2, q3, q4, kP, hkP, hkPi⟩ := Cond.selects_spec hsel
  cases hcls.symm.trans q1
  cases (State.methodFound?_of_named hnamed hy).symm.trans q2
  cases hnamed.symm.trans q3
  have hselP : selectMethod e.platform s.vm cellB.cls mk = .method mk := by rw [Launch.admits_selectMethod X.admits]; exact q4
  obtain ⟨vm₁, X₁, hstep₁⟩ := X.invokevirtual hexec hown hlink hnamed hmethM hstM hkP hkPi hy (a := b) (cell := cellB) hcell
    (fun z h => by rw [h] at hobj; cases hobj) hselP hmethM habM hkP hkPi (g := g) hg (argsL := argsL) (rest := rest) (hlen _ hsigM) hstack hdg
  rcases hK m meth c ⟨T.setVm vm₁, locs, cells, slots⟩ { g with stack := rest } (.invokevirtual index) mk (Value.ref b :: argsL).toArray X₁ hg hsize hdg hW (X₁.named hnamed) (hpre vm₁ X₁.warmed) with ⟨v, B, X', hpost, hsteps⟩ | ⟨q, B, X', hpost, hsteps⟩
  · exact Or.inl ⟨v, vm₁, B, X₁.warmed, X', hpost, fun target h => hstep₁ _ fun acts => by rw [doInvoke_state]; exact hsteps.trans h⟩
  · exact Or.inr ⟨q, vm₁, B, X₁.warmed, X', hpost, hstep₁ _ fun acts => by rw [doInvoke_state]; exact hsteps⟩
theorem vx_callS (X : Stand p l e R s m args below meth c T locs cells slots) (hexec : p.tables.exec = Jvm.exec) {own : String} {index : Nat} {y : MethodName} {bytes : ByteArray} {maxL : Nat} {ret : Option FieldType}
    (hown : s.vm.findClass own = some m.cls) (hlink : (Cond.methodLink own index y).before args s = true) (hstat : (Cond.static y).before args s = true) (hinit : (Cond.initialized y.cls).before args s = true)
    (hcode : (Cond.code y bytes maxL ret).before args s = true) (hy : y.cls ≠ "java/lang/invoke/MethodHandle" ∧ y.cls ≠ "java/lang/invoke/VarHandle")
    {W9 : Nat} {Pre : Pt → Array Value → Prop} {Post : Pt → Array Value → Option Value → Pt → Prop} {PostX : Pt → Array Value → Addr → Pt → Prop} (hK : vx_Back l R p e below s args y 3 W9 Pre Post PostX)
    {g : JFrame} (hg : g.method = m) (hsize : g.locals.size = c.maxLocals) {argsL rest : List Value} (hlen : ∀ sig, parseMethodDescriptor y.desc = some sig → argsL.length = sig.parameters.length)
    (hstack : g.stack = argsL.reverse ++ rest) (hW : 2 * g.monitorRoom + (rest.map fun v => v.category).sum ≤ W9) (hdg : decode c.code g.pc = .ok (.invokestatic index, 3))
    (hpre : ∀ vm₁, s.WarmedH vm₁ → Pre ⟨T.setVm vm₁, locs, cells, slots⟩ argsL.toArray) :
    (∃ (v : Option Value) (vm₁ : Vm) (B : Pt), s.WarmedH vm₁ ∧ Stand p l e R s m args below meth c B.U B.locs B.cells B.slots ∧ Post ⟨T.setVm vm₁, locs, cells, slots⟩ argsL.toArray v B ∧
      ∀ target, Steps p.tables e below (B.U.setTop { g with pc := g.pc + 3, stack := v.toList ++ rest }) target → Steps p.tables e below (T.setTop g) target) ∨
    (∃ (q : Addr) (vm₁ : Vm) (B : Pt), s.WarmedH vm₁ ∧ Stand p l e R s m args below meth c B.U B.locs B.cells B.slots ∧ PostX ⟨T.setVm vm₁, locs, cells, slots⟩ argsL.toArray q B ∧
      Steps p.tables e below (T.setTop g) ((B.U.setTop { g with stack := rest }).pushFrame (.throwing q))) := by
  obtain ⟨mk, hnamed⟩ := Cond.code_named hcode
  obtain ⟨methM, cM, hmethM, -, -, -, -, -, -, hsigM⟩ := Cond.code_spec hnamed hcode
  have hstatic : methM.isStatic = true := Cond.static_spec hnamed hmethM hstat
  obtain ⟨kP, hkP, -⟩ := className_of_methodNamed hnamed
  have hinitP : kP.init = .initialized := Cond.initialized_spec (findClass_of_methodNamed hnamed) hkP hinit
  obtain ⟨vm₁, X₁, hstep₁⟩ := X.invokestatic hexec hown hlink hnamed hmethM hstatic hkP hinitP hy (g := g) hg (argsL := argsL) (rest := rest) (hlen _ hsigM) hstack hdg
  rcases hK m meth c ⟨T.setVm vm₁, locs, cells, slots⟩ { g with stack := rest } (.invokestatic index) mk argsL.toArray X₁ hg hsize hdg hW (X₁.named hnamed) (hpre vm₁ X₁.warmed) with ⟨v, B, X', hpost, hsteps⟩ | ⟨q, B, X', hpost, hsteps⟩
  · exact Or.inl ⟨v, vm₁, B, X₁.warmed, X', hpost, fun target h => hstep₁ _ fun acts => by rw [doInvoke_state]; exact hsteps.trans h⟩
  · exact Or.inr ⟨q, vm₁, B, X₁.warmed, X', hpost, hstep₁ _ fun acts => by rw [doInvoke_state]; exact hsteps⟩
end Calls
theorem vx_cls {s : State} {T : State} {vm₁ : Vm} {E : String} {k : ClassId} (hW : s.WarmedH vm₁) (h : (T.setVm vm₁).vm.findClass E = some k) : s.vm.findClass E = some k := by
  have h1 : vm₁.findClass E = some k := h
  rw [hW.alike.findClass] at h1
  exact h1
/-- the method's frame g, with q thrown over it -/
def vx_W (p : Program) (l : Launch) (e : Env) (R : Room) (s : State) (m : MethodId) (args : Array Value) (below : List Frame) (meth : Method) (c : Code) (H : Heap) (locs : List Loc) (cells slots : Nat) (Q : State → Prop) (g : JFrame) (q : Addr) : Prop :=
  ∀ T : State, T.heap = H → Stand p l e R s m args below meth c T locs cells slots → ∃ t, Steps p.tables e below ((T.setTop g).pushFrame (.throwing q)) t ∧ Q t
def vx_Run (p : Program) (l : Launch) (e : Env) (R : Room) (s : State) (m : MethodId) (args : Array Value) (below : List Frame) (meth : Method) (c : Code) (H : Heap) (locs : List Loc) (cells slots mc ms : Nat) (g : JFrame) (rest : List Value) (Qa : State → Outcome → State → Prop) (XC : String → State → State → Prop) (free : Addr → Prop) : Prop :=
  ∀ T : State, T.heap = H → Stand p l e R s m args below meth c T locs cells slots →
    (∃ (v : Option Value) (st₀ t T' : State) (L : List Loc), st₀.heap = H ∧ Stand p l e R s m args below meth c T' (locs ++ L) (cells + mc) (slots + ms) ∧ (∀ q ∈ L, free q.base) ∧ T'.heap = t.heap ∧ T'.vm = t.vm ∧ Qa st₀ (.returned v) t ∧
      Goes p e below T g T' { g with pc := g.pc + 3, stack := v.toList ++ rest }) ∨
    (∃ (q : Addr) (st₀ t T' : State) (L : List Loc) (E : String) (ce : Cell), st₀.heap = H ∧ Stand p l e R s m args below meth c T' (locs ++ L) (cells + mc) (slots + ms) ∧ (∀ z ∈ L, free z.base) ∧ T'.heap = t.heap ∧ T'.vm = t.vm ∧ XC E st₀ t ∧ t.heap[q]? = some ce ∧ ce.vm = .none ∧ s.vm.findClass E = some ce.cls ∧
      Steps p.tables e below (T.setTop g) ((T'.setTop { g with stack := rest }).pushFrame (.throwing q)))
def vx_X {S : Type} (px : S → Prop) (B : String → S → State → Prop) (A : Nat → Prop) : String → State → State → Prop := fun E st t => ∃ u : S, px u ∧ B E u t ∧ va_F A st t
section Runs
variable {p : Program} {l : Launch} {e : Env} {R : Room} {s : State} {m : MethodId} {args : Array Value} {below : List Frame} {meth : Method} {c : Code} {H : Heap} {locs : List Loc} {cells slots : Nat}
variable {y : MethodName} {bytes cc : ByteArray} {maxL nL mc ms n index : Nat} {ret : Option FieldType} {ws : List Cond} {rm : Room} {Pc : Array Value → State → Prop} {Qc : Array Value → State → Outcome → State → Prop} {XC : String → State → State → Prop} {free : Addr → Prop} {Ts : List Cond} {own C : String} {b : Addr} {As rest : List Value} {g : JFrame}
theorem vx_callBack (cb : CallB R s args own index y bytes maxL ret ws rm mc ms n) (hM : vx_Met l y ws rm Pc Qc XC mc ms free) (hbl : FrameBlind Pc) : vx_Back l R p e below s args y 3 8 (PreOf R mc ms Pc) (PostOf Qc mc ms free) (vx_Post XC mc ms free) := by
  obtain ⟨hrc, hrs, hfr, hlo, hws, hcw, -, hini, -⟩ := cb
  exact vx_back (bytes := bytes) (maxL := maxL) (ret := ret) hM hbl hrc hrs hfr hlo hws hcw (fun a' U hW => word_at hW (Or.inl (by first | rfl | simp [Cond.onTables, Cond.keeps, Cond.steady])) hini)
theorem vx_runV (S : CallFix p m c cc nL s args Ts own) (hM : vx_Met l y ws rm Pc Qc XC mc ms free) (cw : CallW R s args own C index y bytes maxL ret ws rm mc ms n) (hp : PreV s H C b Pc As)
    (hg : g.method = m) (hn : As.length = n) (hsize : g.locals.size = nL) (hstack : g.stack = As.reverse ++ .ref b :: rest) (hW : 2 * g.monitorRoom + (rest.map fun v => v.category).sum ≤ 8) (hdg : decode cc g.pc = .ok (.invokevirtual index, 3)) (hf : cells + mc ≤ R.cells ∧ slots + ms ≤ R.slots) :
    vx_Run p l e R s m args below meth c H locs cells slots mc ms g rest (Qc (Value.ref b :: As).toArray) XC free := by
  have hK : vx_Back l R p e below s args y 3 8 (PreOf R mc ms Pc) (PostOf Qc mc ms free) (vx_Post XC mc ms free) := vx_callBack cw.1 hM hp.1
  obtain ⟨⟨-, -, -, -, -, -, hcode, -, hy, hlen, hl⟩, hin, hse⟩ := cw
  obtain ⟨hx, hb, hml, ho, -⟩ := S
  obtain ⟨-, ⟨cellB, hcB, hoB, hclB⟩, hPc⟩ := hp
  intro T hT X
  rcases vx_callV X hx (C := C) (bytes := bytes) (maxL := maxL) (ret := ret) ho hl hin hse hcode hy hK (by rw [hT]; exact hcB) hoB hclB hg (hsize.trans hml.symm) (argsL := As) (rest := rest) (fun sig h => hn.trans (hlen sig h)) hstack hW (by rw [hb]; exact hdg)
    (fun vm₁ hW₁ => ⟨hf.1, hf.2, hPc (T.setVm vm₁) hT hW₁⟩) with ⟨v, vm₁, ⟨U', l2, c2, s2⟩, hW₁, X', ⟨g', mk, t, L, e1, e2, hq, h1, hL, h2, h3⟩, st⟩ | ⟨q, vm₁, ⟨U', l2, c2, s2⟩, hW₁, X', ⟨g', mk, t, L, E, ce, e1, e2, hq, hce, hcv, hcl, h1, hL, h2, h3⟩, st⟩
  · dsimp only [Pt.U, Pt.locs, Pt.cells, Pt.slots] at X' e1 e2 h1 h2 h3 st
    subst h1; subst h2; subst h3
    exact Or.inl ⟨v, (T.setVm vm₁).calling g' mk (Value.ref b :: As).toArray, t, U', L, hT, X', hL, e1, e2, hq, st⟩
  · dsimp only [Pt.U, Pt.locs, Pt.cells, Pt.slots] at X' e1 e2 h1 h2 h3 st hcl
    subst h1; subst h2; subst h3
    exact Or.inr ⟨q, (T.setVm vm₁).calling g' mk (Value.ref b :: As).toArray, t, U', L, E, ce, hT, X', hL, e1, e2, hq, hce, hcv, vx_cls hW₁ hcl, st⟩
theorem vx_runS (S : CallFix p m c cc nL s args Ts own) (hM : vx_Met l y ws rm Pc Qc XC mc ms free) (cw : CallB R s args own index y bytes maxL ret ws rm mc ms n ∧ (Cond.static y).before args s = true) (hp : PreS s H Pc As)
    (hg : g.method = m) (hn : As.length = n) (hsize : g.locals.size = nL) (hstack : g.stack = As.reverse ++ rest) (hW : 2 * g.monitorRoom + (rest.map fun v => v.category).sum ≤ 8) (hdg : decode cc g.pc = .ok (.invokestatic index, 3)) (hf : cells + mc ≤ R.cells ∧ slots + ms ≤ R.slots) :
    vx_Run p l e R s m args below meth c H locs cells slots mc ms g rest (Qc As.toArray) XC free := by
  have hK : vx_Back l R p e below s args y 3 8 (PreOf R mc ms Pc) (PostOf Qc mc ms free) (vx_Post XC mc ms free) := vx_callBack cw.1 hM hp.1
  obtain ⟨⟨-, -, -, -, -, -, hcode, hini, hy, hlen, hl⟩, hstt⟩ := cw
  obtain ⟨hx, hb, hml, ho, -⟩ := S
  intro T hT X
  rcases vx_callS X hx (bytes := bytes) (maxL := maxL) (ret := ret) ho hl hstt hini hcode hy hK hg (hsize.trans hml.symm) (argsL := As) (rest := rest) (fun sig h => hn.trans (hlen sig h)) hstack hW (by rw [hb]; exact hdg)
    (fun vm₁ hW₁ => ⟨hf.1, hf.2, hp.2 (T.setVm vm₁) hT hW₁⟩) with ⟨v, vm₁, ⟨U', l2, c2, s2⟩, hW₁, X', ⟨g', mk, t, L, e1, e2, hq, h1, hL, h2, h3⟩, st⟩ | ⟨q, vm₁, ⟨U', l2, c2, s2⟩, hW₁, X', ⟨g', mk, t, L, E, ce, e1, e2, hq, hce, hcv, hcl, h1, hL, h2, h3⟩, st⟩
  · dsimp only [Pt.U, Pt.locs, Pt.cells, Pt.slots] at X' e1 e2 h1 h2 h3 st
    subst h1; subst h2; subst h3
    exact Or.inl ⟨v, (T.setVm vm₁).calling g' mk As.toArray, t, U', L, hT, X', hL, e1, e2, hq, st⟩
  · dsimp only [Pt.U, Pt.locs, Pt.cells, Pt.slots] at X' e1 e2 h1 h2 h3 st hcl
    subst h1; subst h2; subst h3
    exact Or.inr ⟨q, (T.setVm vm₁).calling g' mk As.toArray, t, U', L, E, ce, hT, X', hL, e1, e2, hq, hce, hcv, vx_cls hW₁ hcl, st⟩
end Runs
section Rows
variable {p : Program} {l : Launch} {e : Env} {R : Room} {s : State} {m : MethodId} {args : Array Value} {below : List Frame} {meth : Method} {c : Code} {H : Heap} {locs : List Loc} {cells slots : Nat} {Q : State → Prop}
variable {mc ms : Nat} {free : Addr → Prop} {A0 A1 : Nat → Prop} {H0 : Heap} {a : Array Value} {pc : Nat} {ls : Array Slot} {st0 rest : List Value}
theorem vx_keep {st₀ t T' : State} {L : List Loc} (h0 : st₀.heap = H) (e1 : T'.heap = t.heap) (hS : va_S A0 H0 H locs) (hA : ∀ q, q < H.size → A1 q → A0 q) (hf : ∀ q, free q → A0 q) (hL : ∀ q ∈ L, free q.base) (hF : va_F A1 st₀ t) :
    H.size ≤ T'.heap.size ∧ (∀ q : Nat, q < H.size → ¬ A1 q → T'.heap[q]? = H[q]?) ∧ va_S A0 H0 T'.heap (locs ++ L) := by
  obtain ⟨hz, hk⟩ := hF
  rw [h0] at hz hk
  exact ⟨by rw [e1]; exact hz, fun q h1 h2 => by rw [e1]; exact hk q h1 h2,
    ⟨Nat.le_trans hS.1 (by rw [e1]; exact hz), fun q h1 h2 => by rw [e1, hk q (Nat.lt_of_lt_of_le h1 hS.1) (fun z => h2 (hA q (Nat.lt_of_lt_of_le h1 hS.1) z))]; exact hS.2.1 q h1 h2, fun q hq => by
      rcases List.mem_append.mp hq with h | h
      · exact hS.2.2 q h
      · exact hf _ (hL q h)⟩⟩
theorem vx_calli {S SX : Type} {post : Int32 → S → Prop} {px : SX → Prop} {B : S → State → Prop} {BX : String → SX → State → Prop} {AX : Nat → Prop} (hr : vx_Run p l e R s m args below meth c H locs cells slots mc ms (F0 m pc ls st0) rest (va_Qi post B A1 a) (vx_X px BX AX) free) (hS : va_S A0 H0 H locs) (hA : ∀ q, q < H.size → A1 q → A0 q) (hf : ∀ q, free q → A0 q) (hAX : ∀ q, q < H.size → AX q → A0 q)
    (kx : ∀ (E : String) (ce : Cell) (q9 : Addr) (u : SX) (t : State) (H1 : Heap) (locs1 : List Loc), t.heap = H1 → s.vm.Alike t.vm → px u → BX E u t → H.size ≤ H1.size → (∀ q : Nat, q < H.size → ¬ AX q → H1[q]? = H[q]?) → va_S A0 H0 H1 locs1 → H1[q9]? = some ce → ce.vm = .none → s.vm.findClass E = some ce.cls → vx_W p l e R s m args below meth c H1 locs1 (cells + mc) (slots + ms) Q (F0 m pc ls rest) q9)
    (kk : ∀ (r : Int32) (u : S) (t : State) (H1 : Heap) (locs1 : List Loc), t.heap = H1 → s.vm.Alike t.vm → post r u → B u t → H.size ≤ H1.size → (∀ q : Nat, q < H.size → ¬ A1 q → H1[q]? = H[q]?) → va_S A0 H0 H1 locs1 → W p l e R s m args below meth c H1 locs1 (cells + mc) (slots + ms) Q (F0 m (pc + 3) ls (.int r :: rest))) : W p l e R s m args below meth c H locs cells slots Q (F0 m pc ls st0) := by
  intro T hT X
  rcases hr T hT X with ⟨v, st₀, t, T', L, h0, X', hL, e1, e2, ⟨⟨r, u, hv, hp, hb⟩, hF⟩, st⟩ | ⟨q, st₀, t, T', L, E, ce, h0, X', hL, e1, e2, ⟨u, hp, hb, hF⟩, hce, hcv, hcl, st⟩
  · cases hv
    obtain ⟨k1, k2, k3⟩ := vx_keep h0 e1 hS hA hf hL hF
    obtain ⟨t2, a1, b1⟩ := kk r u t T'.heap (locs ++ L) e1.symm (by rw [← e2]; exact X'.warmed.alike) hp hb k1 k2 k3 T' rfl X'
    exact ⟨t2, st t2 a1, b1⟩
  · obtain ⟨k1, k2, k3⟩ := vx_keep h0 e1 hS hAX hf hL hF
    obtain ⟨t2, a1, b1⟩ := kx E ce q u t T'.heap (locs ++ L) e1.symm (by rw [← e2]; exact X'.warmed.alike) hp hb k1 k2 k3 (by rw [e1]; exact hce) hcv hcl T' rfl X'
    exact ⟨t2, st.trans a1, b1⟩
theorem vx_calll {S SX : Type} {post : Int64 → S → Prop} {px : SX → Prop} {B : S → State → Prop} {BX : String → SX → State → Prop} {AX : Nat → Prop} (hr : vx_Run p l e R s m args below meth c H locs cells slots mc ms (F0 m pc ls st0) rest (va_Ql post B A1 a) (vx_X px BX AX) free) (hS : va_S A0 H0 H locs) (hA : ∀ q, q < H.size → A1 q → A0 q) (hf : ∀ q, free q → A0 q) (hAX : ∀ q, q < H.size → AX q → A0 q)
    (kx : ∀ (E : String) (ce : Cell) (q9 : Addr) (u : SX) (t : State) (H1 : Heap) (locs1 : List Loc), t.heap = H1 → s.vm.Alike t.vm → px u → BX E u t → H.size ≤ H1.size → (∀ q : Nat, q < H.size → ¬ AX q → H1[q]? = H[q]?) → va_S A0 H0 H1 locs1 → H1[q9]? = some ce → ce.vm = .none → s.vm.findClass E = some ce.cls → vx_W p l e R s m args below meth c H1 locs1 (cells + mc) (slots + ms) Q (F0 m pc ls rest) q9)
    (kk : ∀ (r : Int64) (u : S) (t : State) (H1 : Heap) (locs1 : List Loc), t.heap = H1 → s.vm.Alike t.vm → post r u → B u t → H.size ≤ H1.size → (∀ q : Nat, q < H.size → ¬ A1 q → H1[q]? = H[q]?) → va_S A0 H0 H1 locs1 → W p l e R s m args below meth c H1 locs1 (cells + mc) (slots + ms) Q (F0 m (pc + 3) ls (.long r :: rest))) : W p l e R s m args below meth c H locs cells slots Q (F0 m pc ls st0) := by
  intro T hT X
  rcases hr T hT X with ⟨v, st₀, t, T', L, h0, X', hL, e1, e2, ⟨⟨r, u, hv, hp, hb⟩, hF⟩, st⟩ | ⟨q, st₀, t, T', L, E, ce, h0, X', hL, e1, e2, ⟨u, hp, hb, hF⟩, hce, hcv, hcl, st⟩
  · cases hv
    obtain ⟨k1, k2, k3⟩ := vx_keep h0 e1 hS hA hf hL hF
    obtain ⟨t2, a1, b1⟩ := kk r u t T'.heap (locs ++ L) e1.symm (by rw [← e2]; exact X'.warmed.alike) hp hb k1 k2 k3 T' rfl X'
    exact ⟨t2, st t2 a1, b1⟩
  · obtain ⟨k1, k2, k3⟩ := vx_keep h0 e1 hS hAX hf hL hF
    obtain ⟨t2, a1, b1⟩ := kx E ce q u t T'.heap (locs ++ L) e1.symm (by rw [← e2]; exact X'.warmed.alike) hp hb k1 k2 k3 (by rw [e1]; exact hce) hcv hcl T' rfl X'
    exact ⟨t2, st.trans a1, b1⟩
theorem vx_callf {S SX : Type} {post : UInt32 → S → Prop} {px : SX → Prop} {B : S → State → Prop} {BX : String → SX → State → Prop} {AX : Nat → Prop} (hr : vx_Run p l e R s m args below meth c H locs cells slots mc ms (F0 m pc ls st0) rest (va_Qf post B A1 a) (vx_X px BX AX) free) (hS : va_S A0 H0 H locs) (hA : ∀ q, q < H.size → A1 q → A0 q) (hf : ∀ q, free q → A0 q) (hAX : ∀ q, q < H.size → AX q → A0 q)
    (kx : ∀ (E : String) (ce : Cell) (q9 : Addr) (u : SX) (t : State) (H1 : Heap) (locs1 : List Loc), t.heap = H1 → s.vm.Alike t.vm → px u → BX E u t → H.size ≤ H1.size → (∀ q : Nat, q < H.size → ¬ AX q → H1[q]? = H[q]?) → va_S A0 H0 H1 locs1 → H1[q9]? = some ce → ce.vm = .none → s.vm.findClass E = some ce.cls → vx_W p l e R s m args below meth c H1 locs1 (cells + mc) (slots + ms) Q (F0 m pc ls rest) q9)
    (kk : ∀ (r : UInt32) (u : S) (t : State) (H1 : Heap) (locs1 : List Loc), t.heap = H1 → s.vm.Alike t.vm → post r u → B u t → H.size ≤ H1.size → (∀ q : Nat, q < H.size → ¬ A1 q → H1[q]? = H[q]?) → va_S A0 H0 H1 locs1 → W p l e R s m args below meth c H1 locs1 (cells + mc) (slots + ms) Q (F0 m (pc + 3) ls (.float r :: rest))) : W p l e R s m args below meth c H locs cells slots Q (F0 m pc ls st0) := by
  intro T hT X
  rcases hr T hT X with ⟨v, st₀, t, T', L, h0, X', hL, e1, e2, ⟨⟨r, u, hv, hp, hb⟩, hF⟩, st⟩ | ⟨q, st₀, t, T', L, E, ce, h0, X', hL, e1, e2, ⟨u, hp, hb, hF⟩, hce, hcv, hcl, st⟩
  · cases hv
    obtain ⟨k1, k2, k3⟩ := vx_keep h0 e1 hS hA hf hL hF
    obtain ⟨t2, a1, b1⟩ := kk r u t T'.heap (locs ++ L) e1.symm (by rw [← e2]; exact X'.warmed.alike) hp hb k1 k2 k3 T' rfl X'
    exact ⟨t2, st t2 a1, b1⟩
  · obtain ⟨k1, k2, k3⟩ := vx_keep h0 e1 hS hAX hf hL hF
    obtain ⟨t2, a1, b1⟩ := kx E ce q u t T'.heap (locs ++ L) e1.symm (by rw [← e2]; exact X'.warmed.alike) hp hb k1 k2 k3 (by rw [e1]; exact hce) hcv hcl T' rfl X'
    exact ⟨t2, st.trans a1, b1⟩
theorem vx_calld {S SX : Type} {post : UInt64 → S → Prop} {px : SX → Prop} {B : S → State → Prop} {BX : String → SX → State → Prop} {AX : Nat → Prop} (hr : vx_Run p l e R s m args below meth c H locs cells slots mc ms (F0 m pc ls st0) rest (va_Qd post B A1 a) (vx_X px BX AX) free) (hS : va_S A0 H0 H locs) (hA : ∀ q, q < H.size → A1 q → A0 q) (hf : ∀ q, free q → A0 q) (hAX : ∀ q, q < H.size → AX q → A0 q)
    (kx : ∀ (E : String) (ce : Cell) (q9 : Addr) (u : SX) (t : State) (H1 : Heap) (locs1 : List Loc), t.heap = H1 → s.vm.Alike t.vm → px u → BX E u t → H.size ≤ H1.size → (∀ q : Nat, q < H.size → ¬ AX q → H1[q]? = H[q]?) → va_S A0 H0 H1 locs1 → H1[q9]? = some ce → ce.vm = .none → s.vm.findClass E = some ce.cls → vx_W p l e R s m args below meth c H1 locs1 (cells + mc) (slots + ms) Q (F0 m pc ls rest) q9)
    (kk : ∀ (r : UInt64) (u : S) (t : State) (H1 : Heap) (locs1 : List Loc), t.heap = H1 → s.vm.Alike t.vm → post r u → B u t → H.size ≤ H1.size → (∀ q : Nat, q < H.size → ¬ A1 q → H1[q]? = H[q]?) → va_S A0 H0 H1 locs1 → W p l e R s m args below meth c H1 locs1 (cells + mc) (slots + ms) Q (F0 m (pc + 3) ls (.double r :: rest))) : W p l e R s m args below meth c H locs cells slots Q (F0 m pc ls st0) := by
  intro T hT X
  rcases hr T hT X with ⟨v, st₀, t, T', L, h0, X', hL, e1, e2, ⟨⟨r, u, hv, hp, hb⟩, hF⟩, st⟩ | ⟨q, st₀, t, T', L, E, ce, h0, X', hL, e1, e2, ⟨u, hp, hb, hF⟩, hce, hcv, hcl, st⟩
  · cases hv
    obtain ⟨k1, k2, k3⟩ := vx_keep h0 e1 hS hA hf hL hF
    obtain ⟨t2, a1, b1⟩ := kk r u t T'.heap (locs ++ L) e1.symm (by rw [← e2]; exact X'.warmed.alike) hp hb k1 k2 k3 T' rfl X'
    exact ⟨t2, st t2 a1, b1⟩
  · obtain ⟨k1, k2, k3⟩ := vx_keep h0 e1 hS hAX hf hL hF
    obtain ⟨t2, a1, b1⟩ := kx E ce q u t T'.heap (locs ++ L) e1.symm (by rw [← e2]; exact X'.warmed.alike) hp hb k1 k2 k3 (by rw [e1]; exact hce) hcv hcl T' rfl X'
    exact ⟨t2, st.trans a1, b1⟩
theorem vx_callv {S SX : Type} {post : S → Prop} {px : SX → Prop} {B : S → State → Prop} {BX : String → SX → State → Prop} {AX : Nat → Prop} (hr : vx_Run p l e R s m args below meth c H locs cells slots mc ms (F0 m pc ls st0) rest (va_Qv post B A1 a) (vx_X px BX AX) free) (hS : va_S A0 H0 H locs) (hA : ∀ q, q < H.size → A1 q → A0 q) (hf : ∀ q, free q → A0 q) (hAX : ∀ q, q < H.size → AX q → A0 q)
    (kx : ∀ (E : String) (ce : Cell) (q9 : Addr) (u : SX) (t : State) (H1 : Heap) (locs1 : List Loc), t.heap = H1 → s.vm.Alike t.vm → px u → BX E u t → H.size ≤ H1.size → (∀ q : Nat, q < H.size → ¬ AX q → H1[q]? = H[q]?) → va_S A0 H0 H1 locs1 → H1[q9]? = some ce → ce.vm = .none → s.vm.findClass E = some ce.cls → vx_W p l e R s m args below meth c H1 locs1 (cells + mc) (slots + ms) Q (F0 m pc ls rest) q9)
    (kk : ∀ (u : S) (t : State) (H1 : Heap) (locs1 : List Loc), t.heap = H1 → s.vm.Alike t.vm → post u → B u t → H.size ≤ H1.size → (∀ q : Nat, q < H.size → ¬ A1 q → H1[q]? = H[q]?) → va_S A0 H0 H1 locs1 → W p l e R s m args below meth c H1 locs1 (cells + mc) (slots + ms) Q (F0 m (pc + 3) ls (rest))) : W p l e R s m args below meth c H locs cells slots Q (F0 m pc ls st0) := by
  intro T hT X
  rcases hr T hT X with ⟨v, st₀, t, T', L, h0, X', hL, e1, e2, ⟨⟨u, hv, hp, hb⟩, hF⟩, st⟩ | ⟨q, st₀, t, T', L, E, ce, h0, X', hL, e1, e2, ⟨u, hp, hb, hF⟩, hce, hcv, hcl, st⟩
  · cases hv
    obtain ⟨k1, k2, k3⟩ := vx_keep h0 e1 hS hA hf hL hF
    obtain ⟨t2, a1, b1⟩ := kk u t T'.heap (locs ++ L) e1.symm (by rw [← e2]; exact X'.warmed.alike) hp hb k1 k2 k3 T' rfl X'
    exact ⟨t2, st t2 a1, b1⟩
  · obtain ⟨k1, k2, k3⟩ := vx_keep h0 e1 hS hAX hf hL hF
    obtain ⟨t2, a1, b1⟩ := kx E ce q u t T'.heap (locs ++ L) e1.symm (by rw [← e2]; exact X'.warmed.alike) hp hb k1 k2 k3 (by rw [e1]; exact hce) hcv hcl T' rfl X'
    exact ⟨t2, st.trans a1, b1⟩
/-- caught by the row x of this method's table; the rows ahead don't take it -/
theorem vx_catch {own name : String} {E : String} {ce : Cell} {q : Addr} (hown : s.vm.findClass own = some m.cls) (pre : List ExceptionTableEntry) (x : ExceptionTableEntry) (suf : List ExceptionTableEntry) (hsplit : c.exceptionTable.toList = pre ++ x :: suf)
    (hpass : ∀ z ∈ pre, covers z pc = false ∨ (z.catchType ≠ 0 ∧ ∃ nm : String, (Cond.classLink own z.catchType nm).before args s = true ∧ va_Nc E nm s)) (hx : covers x pc = true) (h0 : x.catchType ≠ 0)
    (hlink : (Cond.classLink own x.catchType name).before args s = true) (hcast : (Cond.castable E name).before args s = true) (hcell : H[q]? = some ce) (hv : ce.vm = .none) (hcl : s.vm.findClass E = some ce.cls)
    (kk : W p l e R s m args below meth c H locs cells slots Q (F0 m x.handlerPc ls [.ref q])) : vx_W p l e R s m args below meth c H locs cells slots Q (F0 m pc ls rest) q := by
  intro T hT X
  have hpl : e.platform.magicAccessors = ({} : Platform).magicAccessors := by rw [X.admits.platform]
  obtain ⟨c3, c4, hc3, hc4, hasg⟩ := Cond.castable_spec hcast
  cases Option.some.inj (hc3.symm.trans hcl)
  obtain ⟨c5, hc5, hcl5⟩ := Cond.classLink_spec hown hlink e.platform hpl
  cases Option.some.inj (hc4.symm.trans hc5)
  obtain ⟨vm', X', st⟩ := X.thenCaughtThrough q (g := F0 m pc ls rest) rfl (Steps.refl _) (by rw [hT]; exact hcell) (by rw [hv]; rfl) (by obtain ⟨k9, h9, -⟩ := Vm.findClass_spec hcl; exact ⟨k9, h9⟩) pre x suf hsplit
    (fun z hz => by
      rcases hpass z hz with h | ⟨hz0, nm, hl1, hn1⟩
      · exact Or.inl h
      · obtain ⟨c6, hc6, hcl6⟩ := Cond.classLink_spec hown hl1 e.platform hpl
        obtain ⟨a8, b8, h1, h2, h3⟩ := hn1
        cases Option.some.inj (h1.symm.trans hcl)
        cases Option.some.inj (h2.symm.trans hc6)
        exact Or.inr ⟨hz0, _, hcl6, h3⟩) hx (Or.inr ⟨h0, c4, hcl5, hasg⟩)
  obtain ⟨t, a1, b1⟩ := kk (T.setVm vm') hT X'
  exact ⟨t, st.trans a1, b1⟩
end Rows
section Ends
variable {p : Program} {l : Launch} {e : Env} {R : Room} {s : State} {m : MethodId} {args : Array Value} {below : List Frame} {meth : Method} {c : Code} {H : Heap} {locs : List Loc} {cells slots : Nat} {Q : State → Prop}
variable {mc ms : Nat} {free : Addr → Prop} {A0 A1 : Nat → Prop} {H0 : Heap} {a : Array Value} {ls : Array Slot} {st0 rest : List Value}
variable {Qc : Array Value → State → Outcome → State → Prop} {XC : String → State → State → Prop}
/-- what a body that may throw owes at its end -/
def vx_MQ (below : List Frame) (Qc : Array Value → State → Outcome → State → Prop) (XC : String → State → State → Prop) (a : Array Value) (s : State) (mc ms : Nat) (free : Addr → Prop) : State → Prop := fun t =>
  ∃ o, t.status = .running ∧ Ended t below o ∧ vx_Q Qc XC mc ms free a s o t
theorem vx_ret {g : JFrame} {mc ms : Nat} (k : W p l e R s m args below meth c H locs cells slots (MQ below Qc args s mc ms free) g) : W p l e R s m args below meth c H locs cells slots (vx_MQ below Qc XC args s mc ms free) g := by
  intro T hT X
  obtain ⟨t, a1, o, b1, b2, b3, b4⟩ := k T hT X
  exact ⟨t, a1, o, b1, b2, Or.inl ⟨b3, b4⟩⟩
/-- not caught here: it goes on to the caller -/
theorem vx_widen {g : JFrame} {q : Addr} {k n : Nat} (h1 : cells ≤ k) (h2 : slots ≤ n) (kk : vx_W p l e R s m args below meth c H locs k n Q g q) : vx_W p l e R s m args below meth c H locs cells slots Q g q := fun T hT X => kk T hT (stand_widen X h1 h2)
theorem vx_out {pc : Nat} {E : String} {ce : Cell} {q : Addr} {mc ms : Nat} (hout : ∀ x ∈ c.exceptionTable.toList, covers x pc = false) (hlocks : meth.locks = false) (hcell : H[q]? = some ce) (hv : ce.vm = .none) (hcl : s.vm.findClass E = some ce.cls)
    (hx : ∀ t : State, t.heap = H → s.vm.Alike t.vm → XC E s t) (hf : ∀ z ∈ locs, free z.base) (hc : cells ≤ mc) (hs : slots ≤ ms) :
    vx_W p l e R s m args below meth c H locs cells slots (vx_MQ below Qc XC args s mc ms free) (F0 m pc ls rest) q := by
  intro T hT X
  obtain ⟨st1, hrun, hend, hW, hsm⟩ := X.leaveThrown q (g := F0 m pc ls rest) rfl rfl rfl hout hlocks
  have hcell9 : (T.setFrames (.throwing q :: below)).heap[q]? = some ce := by
    show T.heap[q]? = some ce
    rw [hT]; exact hcell
  exact ⟨_, st1, .threw q, hrun, hend, Or.inr ⟨q, rfl, E, ce, locs, hx _ hT hW.alike, hcell9, hv, hcl, hW, hsm.mono hc hs, hf⟩⟩
theorem vx_frame {U : State} {k n : Nat} (h : s.sameButNew ({ U with vm := s.vm } : State) locs k n) : s.heap.size ≤ U.heap.size ∧ ∀ q : Nat, q < s.heap.size → (∀ z ∈ locs, z.base ≠ q) → U.heap[q]? = s.heap[q]? := by
  obtain ⟨-, h2, -, -, -, h6⟩ := h
  refine ⟨h2, fun q hq hz => ?_⟩
  obtain ⟨c9, e1, e2, e3, e4⟩ := h6 q _ (Array.getElem?_eq_getElem hq)
  have hs : c9.slots = (s.heap[q]).slots := Array.ext_getElem? fun i => e4 i fun hm => hz _ hm rfl
  have h9 : c9 = s.heap[q] := by
    rw [hs] at e2
    exact e2
  have e5 : U.heap[q]? = some c9 := e1
  rw [e5, h9, Array.getElem?_eq_getElem hq]
/-- the words of a throw but the four that speak of the heap -/
def vx_no (w : Cond) : Bool := decide (w ≠ .isRef (.static Bundle.tN "UNASSIGNED_STACK" Bundle.steD)) && decide (w ≠ .isRef (.static Bundle.tN "SUPPRESSED_SENTINEL" Bundle.listD)) && decide (w ≠ .laysStatic Bundle.tN "UNASSIGNED_STACK" Bundle.steD) && decide (w ≠ .laysStatic Bundle.tN "SUPPRESSED_SENTINEL" Bundle.listD)
def vx_at0 (own : String) (ic : Nat) (X : String) (names : List String) : List Cond := (Bundle.ownAtoms0 own ic X names).filter vx_no
def vx_atS (own : String) (ic : Nat) (X : String) (names : List String) : List Cond := (Bundle.ownAtoms own ic X names).filter vx_no
/-- a word that the tables alone decide, or a good one -/
def vx_ot (w : Cond) : Bool := w.onTables || goodWord w
theorem vx_ot_at {args a' : Array Value} {s U : State} {w : Cond} (hW : s.WarmedH U.vm) (hvm : s.vm = U.vm) (hg : vx_ot w = true) (h : w.before args s = true) : w.before a' U = true := by
  simp only [vx_ot, Bool.or_eq_true] at hg
  rcases hg with hg | hg
  · exact va_tabs hg hvm h
  · exact word_at hW (good_of_word hg) h
/-- a list's words: the good ones out of the method's own list, the others by premises of their own -/
theorem vx_hat {args : Array Value} {s : State} {L B : List Cond} (h1 : ∀ w ∈ L.filter goodWord, w.before args s = true) (h2 : ∀ w ∈ L.filter (fun w => !goodWord w), w ∈ B) (h3 : ∀ w ∈ B, w.before args s = true) : ∀ w ∈ L, w.before args s = true := by
  intro w hw
  by_cases g : goodWord w = true
  · exact h1 w (List.mem_filter.mpr ⟨hw, g⟩)
  · refine h3 w (h2 w (List.mem_filter.mpr ⟨hw, ?_⟩))
    show (!goodWord w) = true
    cases hgw : goodWord w
    · rfl
    · exact absurd hgw g
theorem vx_c {args : Array Value} {s : State} {w : Cond} {B : List Cond} (h : w.before args s = true) (t : ∀ w ∈ B, w.before args s = true) : ∀ w' ∈ w :: B, w'.before args s = true := fun w' h' => (List.mem_cons.mp h').elim (fun e => by rw [e]; exact h) (t w')
theorem vx_n {args : Array Value} {s : State} : ∀ w ∈ ([] : List Cond), w.before args s = true := fun _ h => nomatch h
theorem vx_own {args : Array Value} {s : State} {L : List Cond} (h1 : ∀ w ∈ L.filter vx_no, w.before args s = true)
    (hU : (Cond.isRef (.static Bundle.tN "UNASSIGNED_STACK" Bundle.steD)).before args s = true) (hN : (Cond.isRef (.static Bundle.tN "SUPPRESSED_SENTINEL" Bundle.listD)).before args s = true)
    (lU : (Cond.laysStatic Bundle.tN "UNASSIGNED_STACK" Bundle.steD).before args s = true) (lN : (Cond.laysStatic Bundle.tN "SUPPRESSED_SENTINEL" Bundle.listD).before args s = true) : ∀ w ∈ L, w.before args s = true := by
  intro w hw
  by_cases e1 : w = .isRef (.static Bundle.tN "UNASSIGNED_STACK" Bundle.steD)
  · rw [e1]; exact hU
  · by_cases e2 : w = .isRef (.static Bundle.tN "SUPPRESSED_SENTINEL" Bundle.listD)
    · rw [e2]; exact hN
    · by_cases e3 : w = .laysStatic Bundle.tN "UNASSIGNED_STACK" Bundle.steD
      · rw [e3]; exact lU
      · by_cases e4 : w = .laysStatic Bundle.tN "SUPPRESSED_SENTINEL" Bundle.listD
        · rw [e4]; exact lN
        · exact h1 w (List.mem_filter.mpr ⟨hw, by unfold vx_no; rw [decide_eq_true e1, decide_eq_true e2, decide_eq_true e3, decide_eq_true e4]; rfl⟩)
/-- where a static field lies, its class's statics cell in H -/
def vx_L (C n d : String) (A : Nat → Prop) (U : State) (H : Heap) : Prop := ∃ (c : ClassId) (k : Class) (i : Nat) (f : Field) (a : Nat) (cell : Cell), U.vm.findClass C = some c ∧ U.fieldFound? C n d = some (c, k, i, f) ∧ f.isStatic = true ∧ k.statics = some a ∧ H[a]? = some cell ∧ cell.vm.isStatics = true ∧ cell.cls = c ∧ f.slot < cell.slots.size ∧ k.staticTypes[f.slot]? = some f.type ∧ ¬ A a
theorem vx_L.moved {C n d : String} {A : Nat → Prop} {u U : State} {H : Heap} (hvm : u.vm.Alike U.vm) (h : vx_L C n d A u H) : vx_L C n d A U H := by
  obtain ⟨c, k, i, f, a, cell, h1, h2, h3, h4, h5, h6, h7, h8, h9, h10⟩ := h
  obtain ⟨k', hi', he⟩ := State.fieldFound?_setVm hvm h2
  exact ⟨c, k', i, f, a, cell, by rw [hvm.findClass]; exact h1, hi', h3, by rw [he]; exact h4, h5, h6, h7, h8, by rw [he]; exact h9, h10⟩
theorem vx_L.kept {C n d : String} {A : Nat → Prop} {U : State} {H H1 : Heap} (h : vx_L C n d A U H) (hq : ∀ a : Nat, a < H.size → ¬ A a → H1[a]? = H[a]?) : vx_L C n d A U H1 := by
  obtain ⟨c, k, i, f, a, cell, h1, h2, h3, h4, h5, h6, h7, h8, h9, h10⟩ := h
  exact ⟨c, k, i, f, a, cell, h1, h2, h3, h4, by rw [hq a (Array.getElem?_eq_some_iff.mp h5).1 h10]; exact h5, h6, h7, h8, h9, h10⟩
theorem vx_L.narrow {C n d : String} {A B : Nat → Prop} {U : State} {H : Heap} (h : vx_L C n d A U H) (hAB : ∀ q, B q → A q) : vx_L C n d B U H := by
  obtain ⟨c, k, i, f, a, cell, h1, h2, h3, h4, h5, h6, h7, h8, h9, h10⟩ := h
  exact ⟨c, k, i, f, a, cell, h1, h2, h3, h4, h5, h6, h7, h8, h9, fun z => h10 (hAB _ z)⟩
theorem vx_L.word {C n d : String} {A : Nat → Prop} {s : State} {args : Array Value} (h : vx_L C n d A s s.heap) : (Cond.laysStatic C n d).before args s = true := by
  obtain ⟨c, k, i, f, a, cell, h1, h2, h3, h4, h5, h6, h7, h8, h9, -⟩ := h
  show (Cond.laysStatic C n d).holds args s none s [] = true
  exact Cond.laysStatic_of h1 h2 h3 h4 h5 h6 h7 h8 h9
/-- .. and what it holds: null or some reference -/
def vx_Zq (C n d : String) (A : Nat → Prop) (U : State) (H : Heap) : Prop := va_Zq C n d A U H ∧ vx_L C n d A U H
theorem vx_Zq.moved {C n d : String} {A : Nat → Prop} {u U : State} {H : Heap} (hvm : u.vm.Alike U.vm) (h : vx_Zq C n d A u H) : vx_Zq C n d A U H := ⟨va_Zq.moved hvm h.1, vx_L.moved hvm h.2⟩
theorem vx_Zq.kept {C n d : String} {A : Nat → Prop} {U : State} {H H1 : Heap} (h : vx_Zq C n d A U H) (hq : ∀ a : Nat, a < H.size → ¬ A a → H1[a]? = H[a]?) : vx_Zq C n d A U H1 := ⟨va_Zq.kept h.1 hq, vx_L.kept h.2 hq⟩
theorem vx_Zq.narrow {C n d : String} {A B : Nat → Prop} {U : State} {H : Heap} (h : vx_Zq C n d A U H) (hAB : ∀ q, B q → A q) : vx_Zq C n d B U H := ⟨va_Zq.narrow h.1 hAB, vx_L.narrow h.2 hAB⟩
theorem vx_Zqof {args : Array Value} {s : State} {C n d : String} {A : Nat → Prop} (hl : (Cond.laysStatic C n d).before args s = true) (hini : (Cond.initialized C).before args s = true) (h : (Cond.isRef (.static C n d)).before args s = true) (hA : ∀ a : Nat, a < s.heap.size → ¬ A a) : vx_Zq C n d A s s.heap := by
  refine ⟨va_Zqof hl hini h hA, ?_⟩
  obtain ⟨c, k, i, f, a, cell, h1, h2, h3, h4, h5, h6, h7, h8, h9⟩ := Cond.laysStatic_spec hl
  exact ⟨c, k, i, f, a, cell, h1, h2, h3, h4, h5, h6, h7, h8, h9, hA a (Array.getElem?_eq_some_iff.mp h5).1⟩
theorem vx_isRef {C n d : String} {v : Value} {A : Nat → Prop} {s : State} {args : Array Value} (h : va_Z C n d v A s s.heap) (hv : v.isRef = true) : (Cond.isRef (.static C n d)).before args s = true := by
  obtain ⟨cf, kf, fi, f, a, cell, h1, h2, h3, h4, h5, h6, h7, -⟩ := h
  have he : (Term.static C n d).eval args s none [] s = some v := by
    simp [Term.eval, State.fieldNamed?, h1, h2, h4, h5, h6, h7]
  simp only [Cond.before, Cond.holds, Cond.value, he]
  cases v <;> simp_all [Value.isRef]
theorem vx_isRefq {C n d : String} {A : Nat → Prop} {s : State} {args : Array Value} (h : va_Zq C n d A s s.heap) : (Cond.isRef (.static C n d)).before args s = true := by
  rcases h with h | ⟨t, h⟩
  · exact vx_isRef h rfl
  · exact vx_isRef h rfl
/-- the same frame, seen from here: as if the method were called anew in this heap -/
theorem vx_rebase {T : State} (X : Stand p l e R s m args below meth c T locs cells slots) {R' : Room} (hf : R'.frames ≤ R.frames) (hl : R'.locals ≤ R.locals) (hc : cells + R'.cells ≤ R.cells) (hs : slots + R'.slots ≤ R.slots) :
    Stand p l e R' ((T.setVm s.vm).setFrames (.invoking m args :: below)) m args below meth c T [] 0 0 := by
  have htop : (T.setVm s.vm).topJava?.isSome := X.here.top
  have hF : ((T.setVm s.vm).setFrames (.invoking m args :: below)).frames = .invoking m args :: below := State.frames_setFrames _ (State.cur_lt_of_top htop)
  obtain ⟨g₀, hg0⟩ := Option.isSome_iff_exists.mp htop
  obtain ⟨r, hr⟩ := State.topJava?_eq_some.mp hg0
  have hl9 : e.platform.stackLimits (T.setVm s.vm).me = e.platform.stackLimits s.me := X.limits
  have hb9 : (T.setVm s.vm).me.stackBytes = s.me.stackBytes := X.bytes
  refine ⟨X.admits, X.cas, X.clock, hF, ?_, X.hears, X.method, X.code, X.here, X.tail, X.warmed, ?_, ?_, ?_⟩
  · have h := X.room
    have hU : ((T.setVm s.vm).setFrames (.invoking m args :: below)).localsInUse = s.localsInUse := by
      rw [State.localsInUse_invoking hF (meth := meth) (c := c) X.method X.code, State.localsInUse_invoking X.frames X.method X.code]
    simp only [State.hasRoom, Bool.and_eq_true, decide_eq_true_eq] at h ⊢
    obtain ⟨⟨⟨⟨h1, h2, h3, h4, h5, h6⟩, h7⟩, h8⟩, h9⟩ := h
    rw [X.frames, List.length_cons] at h2 h3
    have q1 := X.heapSize
    have q2 := X.used
    simp only [hF, hU, List.length_cons, State.stackLimits_setFrames, State.stackBytes_setFrames, hl9, hb9]
    refine ⟨⟨⟨⟨by omega, by omega, by omega, by omega, by omega, h6⟩, ?_⟩, ?_⟩, X.book⟩
    · show T.heap.size + R'.cells ≤ e.platform.maxCells
      omega
    · show T.slotsUsed + R'.slots ≤ e.platform.maxSlots
      omega
  · rw [State.stackLimits_setFrames]; rfl
  · rw [State.stackBytes_setFrames]; rfl
  · refine ⟨?_, Nat.le_refl _, Nat.le_refl _, ?_, ?_, fun a c9 h9 => ⟨c9, h9, rfl, rfl, fun _ _ => rfl⟩⟩
    · obtain ⟨t, ht, -⟩ := State.frames_cons hr
      show T.setVm s.vm = { ((T.setVm s.vm).setFrames (.invoking m args :: below)).setFrames (T.setVm s.vm).frames with heap := T.heap, slotsUsed := T.slotsUsed }
      rw [State.setFrames_setFrames, State.setFrames_self ht]
      rfl
    · show T.slotsUsed = T.slotsUsed + ((T.heap.toList.drop T.heap.size).map (·.slots.size)).sum
      rw [List.drop_eq_nil_of_le (Nat.le_of_eq Array.length_toList)]
      rfl
    · show ((T.heap.toList.drop T.heap.size).map (·.slots.size)).sum ≤ 0
      rw [List.drop_eq_nil_of_le (Nat.le_of_eq Array.length_toList)]
      exact Nat.le_refl _
/-- 'throw new E()': new; dup; invokespecial; athrow -/
theorem vx_throw0 {cc : ByteArray} {pc : Nat} (hexec : p.tables.exec = Jvm.exec) (hb : c.code = cc) (hl : l.stackTraces = false) {own cls : String} {names : List String} {ik ic mc ms : Nat} {A : Nat → Prop}
    (hown : s.vm.findClass own = some m.cls) (hcls : Bundle.fit cls = true) (hnames : ∀ n ∈ names, Bundle.fit n = true)
    (hk : (Cond.classLink own ik cls).before args s = true) (hini : (Cond.initialized cls).before args s = true) (hat : ∀ w ∈ vx_at0 own ic cls names, w.before args s = true)
    (hgood : ∀ w ∈ Cond.classLink own ik cls :: Cond.initialized cls :: vx_at0 own ic cls names, vx_ot w = true)
    (hU : vx_Zq Bundle.tN "UNASSIGNED_STACK" Bundle.steD A s s.heap) (hN : vx_Zq Bundle.tN "SUPPRESSED_SENTINEL" Bundle.listD A s s.heap) (hS : va_S A s.heap H locs) (hsize : ls.size = c.maxLocals)
    (d0 : decode cc pc = .ok (.new ik, 3)) (d3 : decode cc (pc + 3) = .ok (.dup, 1)) (d4 : decode cc (pc + 4) = .ok (.invokespecial ic, 3)) (d7 : decode cc (pc + 7) = .ok (.athrow, 1))
    (hout : ∀ x ∈ c.exceptionTable.toList, covers x (pc + 7) = false)
    (hRframes : names.length + 3 < R.frames) (hRlocals : (rest.map fun v => v.category).sum + (13 * (names.length + 1) + 42) ≤ R.locals) (hRcells : cells + 1 ≤ R.cells) (hRslots : slots + 6 ≤ R.slots) (hlocks : meth.locks = false)
    (hx : ∀ t : State, s.vm.Alike t.vm → H.size ≤ t.heap.size → (∀ q : Nat, q < H.size → t.heap[q]? = H[q]?) → XC cls s t)
    (hf : ∀ z ∈ locs, free z.base) (hc : cells + 1 ≤ mc) (hs : slots + 6 ≤ ms) :
    W p l e R s m args below meth c H locs cells slots (vx_MQ below Qc XC args s mc ms free) (F0 m pc ls rest) := by
  intro T hT X
  have htr : e.platform.stackTraces = false := (show e.platform.stackTraces = l.stackTraces by rw [X.admits.platform]).trans hl
  have Y := vx_rebase X (R' := { frames := R.frames, locals := R.locals, cells := 1, slots := 6 }) (Nat.le_refl _) (Nat.le_refl _) hRcells hRslots
  obtain ⟨s', hA⟩ : ∃ z, z = (T.setVm s.vm).setFrames (.invoking m args :: below) := ⟨_, rfl⟩
  rw [← hA] at Y
  have hvm : s'.vm = s.vm := by rw [hA]; rfl
  have hhp : s'.heap = H := by rw [hA]; exact hT
  have hW0 : s.WarmedH s'.vm := by rw [hvm]; exact State.WarmedH.refl s
  have hat' : ∀ w ∈ vx_at0 own ic cls names, w.before args s' = true := fun w hw => vx_ot_at hW0 hvm.symm (hgood w (List.mem_cons_of_mem _ (List.mem_cons_of_mem _ hw))) (hat w hw)
  have hk' : (Cond.classLink own ik cls).before args s' = true := vx_ot_at hW0 hvm.symm (hgood _ List.mem_cons_self) hk
  have hini' : (Cond.initialized cls).before args s' = true := vx_ot_at hW0 hvm.symm (hgood _ (List.mem_cons_of_mem _ List.mem_cons_self)) hini
  have hU' : vx_Zq Bundle.tN "UNASSIGNED_STACK" Bundle.steD A s' s'.heap := by rw [hhp]; exact vx_Zq.moved hW0.alike (hU.kept hS.2.1)
  have hN' : vx_Zq Bundle.tN "SUPPRESSED_SENTINEL" Bundle.listD A s' s'.heap := by rw [hhp]; exact vx_Zq.moved hW0.alike (hN.kept hS.2.1)
  have h : ∀ w ∈ Bundle.ownAtoms0 own ic cls names, w.before args s' = true := vx_own hat' (vx_isRefq hU'.1) (vx_isRefq hN'.1) hU'.2.word hN'.2.word
  have hown' : s'.vm.findClass own = some m.cls := by rw [hvm]; exact hown
  have hins : (Cond.instantiable cls 6).before args s' = true := h _ (by simp [Bundle.ownAtoms0])
  obtain ⟨vm₁, cX, kX, hfX, hkX, -, -, X₁, st1⟩ := Y.newCold hexec (own := own) (C := cls) (index := ik) (n := 6) hown' hk' hins hini'
    (g := F0 m pc ls rest) rfl (by rw [hb]; exact d0) (Nat.le_refl _) (Nat.le_refl _)
  generalize hT1 : (T.setVm vm₁).pushCell { cls := cX, slots := kX.instanceTypes.map defaultValue, vm := .none } = T1 at X₁ st1
  have hcat : (Value.ref T.heap.size).category = 1 := rfl
  have hcellA : T1.heap[T.heap.size]? = some (freshCell cX kX) := by rw [← hT1]; exact State.heap_pushCell_size _ _
  have d3' : decode c.code (pc + 3) = .ok (.dup, 1) := by rw [hb]; exact d3
  obtain ⟨U, hsteps, hrun, hend, hW, hsame, ce, hce, hO⟩ := X₁.ctorThrow0 hexec htr (own := own) (cls := cls) (names := names) (ic := ic) hown' hcls hnames h (fun x hx => nomatch hx) hfX hkX hcellA (by rw [hhp, hT]; exact Nat.le_refl _)
    (g := { method := m, pc := pc + 4, locals := ls, stack := .ref T.heap.size :: .ref T.heap.size :: rest, locked := none }) rfl hsize rfl rfl (rest := rest) rfl
    (by rw [hb]; exact d4) (by rw [hb]; exact d7) hout hRframes (by simp only [List.map_cons, List.sum_cons, hcat]; omega) hlocks
  obtain ⟨f1, f2⟩ := vx_frame hsame
  rw [hhp] at f1 f2
  have hWs : s.WarmedH U.vm := State.WarmedH.trans hW0 hW
  have hcl : s.vm.findClass cls = some ce.cls := by
    have h9 := hO.cls
    rw [hvm] at h9
    exact h9
  have hall : s.sameButNew ({ U with vm := s.vm } : State) locs mc ms := by
    subst hA
    obtain ⟨e1, e2⟩ := hsame
    rw [State.setFrames_setFrames] at e1
    have h2 : (T.setVm s.vm).sameButNew ({ U with vm := s.vm } : State) [] (0 + 1) (0 + 6) := ⟨e1, e2⟩
    have h3 := X.same.trans h2
    rw [List.append_nil] at h3
    exact h3.mono hc hs
  refine ⟨U, ?_, .threw T.heap.size, hrun, hend, Or.inr ⟨T.heap.size, rfl, cls, ce, locs, hx U hWs.alike f1 (fun q hq => f2 q hq (fun z hz => nomatch hz)), hce, hO.vm, hcl, hWs, hall, hf⟩⟩
  refine st1 _ ?_
  show Steps p.tables e below (T1.setTop { method := m, pc := pc + 3, locals := ls, stack := .ref T.heap.size :: rest, locked := none }) _
  jvm_step X₁.here [X₁.here.top, hexec, d3', Value.category]
  exact hsteps
/-- 'throw new E("text")': new; dup; ldc; invokespecial; athrow -/
theorem vx_throwS {cc : ByteArray} {pc : Nat} (hexec : p.tables.exec = Jvm.exec) (hb : c.code = cc) (hl : l.stackTraces = false) {own cls text : String} {names : List String} {ik is ic mc ms sa : Nat} {A : Nat → Prop}
    (hown : s.vm.findClass own = some m.cls) (hcls : Bundle.fit cls = true) (hnames : ∀ n ∈ names, Bundle.fit n = true)
    (hk : (Cond.classLink own ik cls).before args s = true) (hini : (Cond.initialized cls).before args s = true) (hstr : vk_R own is text sa s) (hat : ∀ w ∈ vx_atS own ic cls names, w.before args s = true)
    (hgood : ∀ w ∈ Cond.classLink own ik cls :: Cond.initialized cls :: vx_atS own ic cls names, vx_ot w = true)
    (hU : vx_Zq Bundle.tN "UNASSIGNED_STACK" Bundle.steD A s s.heap) (hN : vx_Zq Bundle.tN "SUPPRESSED_SENTINEL" Bundle.listD A s s.heap) (hS : va_S A s.heap H locs) (hsize : ls.size = c.maxLocals)
    (d0 : decode cc pc = .ok (.new ik, 3)) (d3 : decode cc (pc + 3) = .ok (.dup, 1)) (d4 : decode cc (pc + 4) = .ok (.ldc is, 2)) (d6 : decode cc (pc + 6) = .ok (.invokespecial ic, 3)) (d9 : decode cc (pc + 9) = .ok (.athrow, 1))
    (hout : ∀ x ∈ c.exceptionTable.toList, covers x (pc + 9) = false)
    (hRframes : names.length + 3 < R.frames) (hRlocals : (rest.map fun v => v.category).sum + (13 * (names.length + 1) + 43) ≤ R.locals) (hRcells : cells + 1 ≤ R.cells) (hRslots : slots + 6 ≤ R.slots) (hlocks : meth.locks = false)
    (hx : ∀ t : State, s.vm.Alike t.vm → H.size ≤ t.heap.size → (∀ q : Nat, q < H.size → t.heap[q]? = H[q]?) → XC cls s t)
    (hf : ∀ z ∈ locs, free z.base) (hc : cells + 1 ≤ mc) (hs : slots + 6 ≤ ms) :
    W p l e R s m args below meth c H locs cells slots (vx_MQ below Qc XC args s mc ms free) (F0 m pc ls rest) := by
  intro T hT X
  have htr : e.platform.stackTraces = false := (show e.platform.stackTraces = l.stackTraces by rw [X.admits.platform]).trans hl
  have Y := vx_rebase X (R' := { frames := R.frames, locals := R.locals, cells := 1, slots := 6 }) (Nat.le_refl _) (Nat.le_refl _) hRcells hRslots
  obtain ⟨s', hA⟩ : ∃ z, z = (T.setVm s.vm).setFrames (.invoking m args :: below) := ⟨_, rfl⟩
  rw [← hA] at Y
  have hvm : s'.vm = s.vm := by rw [hA]; rfl
  have hhp : s'.heap = H := by rw [hA]; exact hT
  have hW0 : s.WarmedH s'.vm := by rw [hvm]; exact State.WarmedH.refl s
  have hat' : ∀ w ∈ vx_atS own ic cls names, w.before args s' = true := fun w hw => vx_ot_at hW0 hvm.symm (hgood w (List.mem_cons_of_mem _ (List.mem_cons_of_mem _ hw))) (hat w hw)
  have hk' : (Cond.classLink own ik cls).before args s' = true := vx_ot_at hW0 hvm.symm (hgood _ List.mem_cons_self) hk
  have hini' : (Cond.initialized cls).before args s' = true := vx_ot_at hW0 hvm.symm (hgood _ (List.mem_cons_of_mem _ List.mem_cons_self)) hini
  have hU' : vx_Zq Bundle.tN "UNASSIGNED_STACK" Bundle.steD A s' s'.heap := by rw [hhp]; exact vx_Zq.moved hW0.alike (hU.kept hS.2.1)
  have hN' : vx_Zq Bundle.tN "SUPPRESSED_SENTINEL" Bundle.listD A s' s'.heap := by rw [hhp]; exact vx_Zq.moved hW0.alike (hN.kept hS.2.1)
  have h : ∀ w ∈ Bundle.ownAtoms own ic cls names, w.before args s' = true := vx_own hat' (vx_isRefq hU'.1) (vx_isRefq hN'.1) hU'.2.word hN'.2.word
  have hown' : s'.vm.findClass own = some m.cls := by rw [hvm]; exact hown
  have hins : (Cond.instantiable cls 6).before args s' = true := h _ (by simp [Bundle.ownAtoms])
  obtain ⟨vm₁, cX, kX, hfX, hkX, -, -, X₁, st1⟩ := Y.newCold hexec (own := own) (C := cls) (index := ik) (n := 6) hown' hk' hins hini'
    (g := F0 m pc ls rest) rfl (by rw [hb]; exact d0) (Nat.le_refl _) (Nat.le_refl _)
  generalize hT1 : (T.setVm vm₁).pushCell { cls := cX, slots := kX.instanceTypes.map defaultValue, vm := .none } = T1 at X₁ st1
  have hcat : (Value.ref T.heap.size).category = 1 := rfl
  have hcellA : T1.heap[T.heap.size]? = some (freshCell cX kX) := by rw [← hT1]; exact State.heap_pushCell_size _ _
  have d3' : decode c.code (pc + 3) = .ok (.dup, 1) := by rw [hb]; exact d3
  have d4' : decode c.code (pc + 4) = .ok (.ldc is, 2) := by rw [hb]; exact d4
  have hstr' : vk_R own is text sa s' := vk_R.warm hW0 hstr
  obtain ⟨U, hsteps, hrun, hend, hW, hsame, ce, hce, hO⟩ := X₁.ctorThrowS hexec htr (own := own) (cls := cls) (names := names) (ic := ic) hown' hcls hnames h (fun x hx => nomatch hx) hfX hkX hcellA (by rw [hhp, hT]; exact Nat.le_refl _) (msg := .ref sa) rfl
    (g := { method := m, pc := pc + 6, locals := ls, stack := .ref sa :: .ref T.heap.size :: .ref T.heap.size :: rest, locked := none }) rfl hsize rfl rfl (rest := rest) rfl
    (by rw [hb]; exact d6) (by rw [hb]; exact d9) hout hRframes (by simp only [List.map_cons, List.sum_cons, hcat]; omega) hlocks
  obtain ⟨f1, f2⟩ := vx_frame hsame
  rw [hhp] at f1 f2
  have hWs : s.WarmedH U.vm := State.WarmedH.trans hW0 hW
  have hcl : s.vm.findClass cls = some ce.cls := by
    have h9 := hO.cls
    rw [hvm] at h9
    exact h9
  have hall : s.sameButNew ({ U with vm := s.vm } : State) locs mc ms := by
    subst hA
    obtain ⟨e1, e2⟩ := hsame
    rw [State.setFrames_setFrames] at e1
    have h2 : (T.setVm s.vm).sameButNew ({ U with vm := s.vm } : State) [] (0 + 1) (0 + 6) := ⟨e1, e2⟩
    have h3 := X.same.trans h2
    rw [List.append_nil] at h3
    exact h3.mono hc hs
  refine ⟨U, ?_, .threw T.heap.size, hrun, hend, Or.inr ⟨T.heap.size, rfl, cls, ce, locs, hx U hWs.alike f1 (fun q hq => f2 q hq (fun z hz => nomatch hz)), hce, hO.vm, hcl, hWs, hall, hf⟩⟩
  refine st1 _ ?_
  show Steps p.tables e below (T1.setTop { method := m, pc := pc + 3, locals := ls, stack := .ref T.heap.size :: rest, locked := none }) _
  jvm_step X₁.here [X₁.here.top, hexec, d3', Value.category]
  exact X₁.ldcString hexec (own := own) (text := text) (index := is) (a := sa) hown' hstr'.1 hstr'.2
    (g := { method := m, pc := pc + 4, locals := ls, stack := .ref T.heap.size :: .ref T.heap.size :: rest, locked := none }) rfl d4' _ hsteps
/-- 'throw new E("text")', the text by a wide index -/
theorem vx_throwSW {cc : ByteArray} {pc : Nat} (hexec : p.tables.exec = Jvm.exec) (hb : c.code = cc) (hl : l.stackTraces = false) {own cls text : String} {names : List String} {ik is ic mc ms sa : Nat} {A : Nat → Prop}
    (hown : s.vm.findClass own = some m.cls) (hcls : Bundle.fit cls = true) (hnames : ∀ n ∈ names, Bundle.fit n = true)
    (hk : (Cond.classLink own ik cls).before args s = true) (hini : (Cond.initialized cls).before args s = true) (hstr : vk_R own is text sa s) (hat : ∀ w ∈ vx_atS own ic cls names, w.before args s = true)
    (hgood : ∀ w ∈ Cond.classLink own ik cls :: Cond.initialized cls :: vx_atS own ic cls names, vx_ot w = true)
    (hU : vx_Zq Bundle.tN "UNASSIGNED_STACK" Bundle.steD A s s.heap) (hN : vx_Zq Bundle.tN "SUPPRESSED_SENTINEL" Bundle.listD A s s.heap) (hS : va_S A s.heap H locs) (hsize : ls.size = c.maxLocals)
    (d0 : decode cc pc = .ok (.new ik, 3)) (d3 : decode cc (pc + 3) = .ok (.dup, 1)) (d4 : decode cc (pc + 4) = .ok (.ldc_w is, 3)) (d7 : decode cc (pc + 7) = .ok (.invokespecial ic, 3)) (d10 : decode cc (pc + 10) = .ok (.athrow, 1))
    (hout : ∀ x ∈ c.exceptionTable.toList, covers x (pc + 10) = false)
    (hRframes : names.length + 3 < R.frames) (hRlocals : (rest.map fun v => v.category).sum + (13 * (names.length + 1) + 43) ≤ R.locals) (hRcells : cells + 1 ≤ R.cells) (hRslots : slots + 6 ≤ R.slots) (hlocks : meth.locks = false)
    (hx : ∀ t : State, s.vm.Alike t.vm → H.size ≤ t.heap.size → (∀ q : Nat, q < H.size → t.heap[q]? = H[q]?) → XC cls s t)
    (hf : ∀ z ∈ locs, free z.base) (hc : cells + 1 ≤ mc) (hs : slots + 6 ≤ ms) :
    W p l e R s m args below meth c H locs cells slots (vx_MQ below Qc XC args s mc ms free) (F0 m pc ls rest) := by
  intro T hT X
  have htr : e.platform.stackTraces = false := (show e.platform.stackTraces = l.stackTraces by rw [X.admits.platform]).trans hl
  have Y := vx_rebase X (R' := { frames := R.frames, locals := R.locals, cells := 1, slots := 6 }) (Nat.le_refl _) (Nat.le_refl _) hRcells hRslots
  obtain ⟨s', hA⟩ : ∃ z, z = (T.setVm s.vm).setFrames (.invoking m args :: below) := ⟨_, rfl⟩
  rw [← hA] at Y
  have hvm : s'.vm = s.vm := by rw [hA]; rfl
  have hhp : s'.heap = H := by rw [hA]; exact hT
  have hW0 : s.WarmedH s'.vm := by rw [hvm]; exact State.WarmedH.refl s
  have hat' : ∀ w ∈ vx_atS own ic cls names, w.before args s' = true := fun w hw => vx_ot_at hW0 hvm.symm (hgood w (List.mem_cons_of_mem _ (List.mem_cons_of_mem _ hw))) (hat w hw)
  have hk' : (Cond.classLink own ik cls).before args s' = true := vx_ot_at hW0 hvm.symm (hgood _ List.mem_cons_self) hk
  have hini' : (Cond.initialized cls).before args s' = true := vx_ot_at hW0 hvm.symm (hgood _ (List.mem_cons_of_mem _ List.mem_cons_self)) hini
  have hU' : vx_Zq Bundle.tN "UNASSIGNED_STACK" Bundle.steD A s' s'.heap := by rw [hhp]; exact vx_Zq.moved hW0.alike (hU.kept hS.2.1)
  have hN' : vx_Zq Bundle.tN "SUPPRESSED_SENTINEL" Bundle.listD A s' s'.heap := by rw [hhp]; exact vx_Zq.moved hW0.alike (hN.kept hS.2.1)
  have h : ∀ w ∈ Bundle.ownAtoms own ic cls names, w.before args s' = true := vx_own hat' (vx_isRefq hU'.1) (vx_isRefq hN'.1) hU'.2.word hN'.2.word
  have hown' : s'.vm.findClass own = some m.cls := by rw [hvm]; exact hown
  have hins : (Cond.instantiable cls 6).before args s' = true := h _ (by simp [Bundle.ownAtoms])
  obtain ⟨vm₁, cX, kX, hfX, hkX, -, -, X₁, st1⟩ := Y.newCold hexec (own := own) (C := cls) (index := ik) (n := 6) hown' hk' hins hini'
    (g := F0 m pc ls rest) rfl (by rw [hb]; exact d0) (Nat.le_refl _) (Nat.le_refl _)
  generalize hT1 : (T.setVm vm₁).pushCell { cls := cX, slots := kX.instanceTypes.map defaultValue, vm := .none } = T1 at X₁ st1
  have hcat : (Value.ref T.heap.size).category = 1 := rfl
  have hcellA : T1.heap[T.heap.size]? = some (freshCell cX kX) := by rw [← hT1]; exact State.heap_pushCell_size _ _
  have d3' : decode c.code (pc + 3) = .ok (.dup, 1) := by rw [hb]; exact d3
  have d4' : decode c.code (pc + 4) = .ok (.ldc_w is, 3) := by rw [hb]; exact d4
  have hstr' : vk_R own is text sa s' := vk_R.warm hW0 hstr
  obtain ⟨U, hsteps, hrun, hend, hW, hsame, ce, hce, hO⟩ := X₁.ctorThrowS hexec htr (own := own) (cls := cls) (names := names) (ic := ic) hown' hcls hnames h (fun x hx => nomatch hx) hfX hkX hcellA (by rw [hhp, hT]; exact Nat.le_refl _) (msg := .ref sa) rfl
    (g := { method := m, pc := pc + 7, locals := ls, stack := .ref sa :: .ref T.heap.size :: .ref T.heap.size :: rest, locked := none }) rfl hsize rfl rfl (rest := rest) rfl
    (by rw [hb]; exact d7) (by rw [hb]; exact d10) hout hRframes (by simp only [List.map_cons, List.sum_cons, hcat]; omega) hlocks
  obtain ⟨f1, f2⟩ := vx_frame hsame
  rw [hhp] at f1 f2
  have hWs : s.WarmedH U.vm := State.WarmedH.trans hW0 hW
  have hcl : s.vm.findClass cls = some ce.cls := by
    have h9 := hO.cls
    rw [hvm] at h9
    exact h9
  have hall : s.sameButNew ({ U with vm := s.vm } : State) locs mc ms := by
    subst hA
    obtain ⟨e1, e2⟩ := hsame
    rw [State.setFrames_setFrames] at e1
    have h2 : (T.setVm s.vm).sameButNew ({ U with vm := s.vm } : State) [] (0 + 1) (0 + 6) := ⟨e1, e2⟩
    have h3 := X.same.trans h2
    rw [List.append_nil] at h3
    exact h3.mono hc hs
  refine ⟨U, ?_, .threw T.heap.size, hrun, hend, Or.inr ⟨T.heap.size, rfl, cls, ce, locs, hx U hWs.alike f1 (fun q hq => f2 q hq (fun z hz => nomatch hz)), hce, hO.vm, hcl, hWs, hall, hf⟩⟩
  refine st1 _ ?_
  show Steps p.tables e below (T1.setTop { method := m, pc := pc + 3, locals := ls, stack := .ref T.heap.size :: rest, locked := none }) _
  jvm_step X₁.here [X₁.here.top, hexec, d3', Value.category]
  exact X₁.ldcStringW hexec (own := own) (text := text) (index := is) (a := sa) hown' hstr'.1 hstr'.2
    (g := { method := m, pc := pc + 4, locals := ls, stack := .ref T.heap.size :: .ref T.heap.size :: rest, locked := none }) rfl d4' _ hsteps
end Ends
section Bodies
variable {l : Launch}
theorem vx_ofW {y : MethodName} {ws ws' : List Cond} {rm : Room} {Pc : Array Value → State → Prop} {Qc : Array Value → State → Outcome → State → Prop} {XC : String → State → State → Prop} {mc ms : Nat} {free : Addr → Prop} {cc : ByteArray} {maxL : Nat} {ret : Option FieldType}
    (hy : plainName y.cls = true) (hw : ws = Cond.code y cc maxL ret :: ws')
    (body : ∀ p e s m args below meth c s₁, BodyLoose p l y (headSpec ws rm) cc maxL ret e s m args below meth c s₁ → c.maxLocals = maxL → (∀ x ∈ c.exceptionTable.toList, False) → Pc args s →
      W p l e (headSpec ws rm).room s m args below meth c s.heap [] 0 0 (vx_MQ below Qc XC args s mc ms free) (entryFrame m args maxL)) : vx_Met l y ws rm Pc Qc XC mc ms free := by
  refine MetFree.of_bodyS (code := cc) (maxLocals := maxL) (ret := ret) hy ?_ ?_
  · intro args s m h hn
    obtain ⟨meth, c, h1, h2, h3, h4, h5, h6, -, -⟩ := Cond.code_spec hn (atoms_spec (ws := ws) h _ (by rw [hw]; exact List.mem_cons_self))
    exact ⟨meth, c, h1, h2, h3, h4, h5, h6⟩
  · intro p e s m args below meth c s₁ B hml hP _
    have hh0 : s₁.heap = s.heap := by rw [B.state]; rfl
    have ht : ∀ x ∈ c.exceptionTable.toList, False := by
      obtain ⟨meth9, c9, h1, h2, -, -, -, -, h7, -⟩ := Cond.code_spec B.named (atoms_spec (ws := ws) B.pre _ (by rw [hw]; exact List.mem_cons_self))
      cases Option.some.inj (h1.symm.trans B.method)
      cases Option.some.inj (h2.symm.trans (Stand.of_body B).code)
      intro x hx
      rw [Array.isEmpty_iff.mp h7] at hx
      cases hx
    obtain ⟨t, a1, o, b1, b2, b3⟩ := body p e s m args below meth c s₁ B hml ht hP s₁ hh0 (Stand.of_body B)
    exact ⟨t, o, a1, b1, b2, b3⟩
/-- the table of a body with handlers -/
theorem vx_table {p : Program} {x y : MethodName} {S : Spec} {cc bytes : ByteArray} {maxL maxL' : Nat} {ret ret' : Option FieldType} {e : Env} {s s₁ : State} {m : MethodId} {args : Array Value} {below : List Frame} {meth : Method} {c : Code} {hh : List (Nat × Nat × Nat × Nat)}
    (B : BodyLoose p l y S cc maxL ret e s m args below meth c s₁) (h : (Cond.codeWith y bytes maxL' ret' hh).before args s = true) : c.exceptionTable.toList = tableOf hh := by
  obtain ⟨m9, meth9, c9, hn9, h1, h2, -, -, h6, -⟩ := Cond.codeWith_spec h
  cases Option.some.inj (hn9.symm.trans B.named)
  cases Option.some.inj (h1.symm.trans B.method)
  cases Option.some.inj (h2.symm.trans (Stand.of_body B).code)
  rw [← h6, table_eq]
end Bodies
end VXA
/-! ===== END ===== -/
/-! ===== BEGIN a static call of a method with an exception table ===== -/
section VXS
variable {p : Program} {l : Launch} {e : Env} {R : Room} {s : State} {m : MethodId} {args : Array Value} {below : List Frame} {meth : Method} {c : Code} {T : State} {H : Heap} {locs : List Loc} {cells slots : Nat}
abbrev vx_CSW (R : Room) (s : State) (args : Array Value) (own : String) (index : Nat) (y : MethodName) (bytes : ByteArray) (maxL : Nat) (ret : Option FieldType) (hh : List (Nat × Nat × Nat × Nat)) (ws : List Cond) (rm : Room) (mc ms n : Nat) : Prop :=
  (rm.cells = mc ∧ rm.slots = ms ∧ rm.frames + 1 ≤ R.frames ∧ 8 + (maxL + 11) + rm.locals ≤ R.locals ∧ (∀ w ∈ ws, ∀ (a' : Array Value) (U : State), s.WarmedH U.vm → w.before a' U = true) ∧ Cond.codeWith y bytes maxL ret hh ∈ ws) ∧
  (Cond.codeWith y bytes maxL ret hh).before args s = true ∧ (Cond.initialized y.cls).before args s = true ∧ (y.cls ≠ "java/lang/invoke/MethodHandle" ∧ y.cls ≠ "java/lang/invoke/VarHandle") ∧
  (∀ sig, parseMethodDescriptor y.desc = some sig → n = sig.parameters.length) ∧ (Cond.methodLink own index y).before args s = true ∧ (Cond.static y).before args s = true
theorem vx_cwSW {own : String} {index maxL mc ms : Nat} {y : MethodName} {bytes : ByteArray} {ret : Option FieldType} {hh : List (Nat × Nat × Nat × Nat)} {Ts ws ws' : List Cond} {rm : Room} (n : Nat) (ht : ∀ w ∈ Ts, w.before args s = true) (hT : GoodIn Ts (va_wsS own index y ws)) (hw : ws = Cond.codeWith y bytes maxL ret hh :: ws') (hrc : rm.cells = mc) (hrs : rm.slots = ms)
    (hd : y.cls ≠ "java/lang/invoke/MethodHandle" ∧ y.cls ≠ "java/lang/invoke/VarHandle" ∧ (parseMethodDescriptor y.desc).map (fun d => d.parameters.length) = some n) (hR : rm.frames + 1 ≤ R.frames ∧ 8 + (maxL + 11) + rm.locals ≤ R.locals) :
    vx_CSW R s args own index y bytes maxL ret hh ws rm mc ms n := by
  have ok : ∀ w ∈ va_wsS own index y ws, w.before args s = true := fun w h => ht w (hT w h).1
  have hG : GoodIn Ts ws := fun w h => hT w (by unfold va_wsS; exact List.mem_append_right _ h)
  have hc : Cond.codeWith y bytes maxL ret hh ∈ ws := by rw [hw]; exact List.mem_cons_self
  refine ⟨⟨hrc, hrs, hR.1, hR.2, pay_in ht hG, hc⟩, ht _ (hG _ hc).1, ok _ (by simp [va_wsS]), ⟨hd.1, hd.2.1⟩, fun sig h => ?_, ok _ (by simp [va_wsS]), ok _ (by simp [va_wsS])⟩
  have h2 := hd.2.2
  rw [h] at h2
  exact (Option.some.inj h2).symm
theorem vx_callSW (X : Stand p l e R s m args below meth c T locs cells slots) (hexec : p.tables.exec = Jvm.exec) {own : String} {index : Nat} {y : MethodName} {bytes : ByteArray} {maxL : Nat} {ret : Option FieldType} {hh : List (Nat × Nat × Nat × Nat)}
    (hown : s.vm.findClass own = some m.cls) (hlink : (Cond.methodLink own index y).before args s = true) (hstat : (Cond.static y).before args s = true) (hinit : (Cond.initialized y.cls).before args s = true)
    (hcode : (Cond.codeWith y bytes maxL ret hh).before args s = true) (hy : y.cls ≠ "java/lang/invoke/MethodHandle" ∧ y.cls ≠ "java/lang/invoke/VarHandle")
    {W9 : Nat} {Pre : Pt → Array Value → Prop} {Post : Pt → Array Value → Option Value → Pt → Prop} (hK : Back l R p e below s args y 3 W9 Pre Post)
    {g : JFrame} (hg : g.method = m) (hsize : g.locals.size = c.maxLocals) {argsL rest : List Value} (hlen : ∀ sig, parseMethodDescriptor y.desc = some sig → argsL.length = sig.parameters.length)
    (hstack : g.stack = argsL.reverse ++ rest) (hW : 2 * g.monitorRoom + (rest.map fun v => v.category).sum ≤ W9) (hdg : decode c.code g.pc = .ok (.invokestatic index, 3))
    (hpre : ∀ vm₁, s.WarmedH vm₁ → Pre ⟨T.setVm vm₁, locs, cells, slots⟩ argsL.toArray) :
    ∃ (v : Option Value) (vm₁ : Vm) (B : Pt), s.WarmedH vm₁ ∧ Stand p l e R s m args below meth c B.U B.locs B.cells B.slots ∧ Post ⟨T.setVm vm₁, locs, cells, slots⟩ argsL.toArray v B ∧
      ∀ target, Steps p.tables e below (B.U.setTop { g with pc := g.pc + 3, stack := v.toList ++ rest }) target → Steps p.tables e below (T.setTop g) target := by
  obtain ⟨mk, methM, cM, hnamed, hmethM, -, -, -, -, -, -, hsigM⟩ := Cond.codeWith_spec hcode
  have hstatic : methM.isStatic = true := Cond.static_spec hnamed hmethM hstat
  obtain ⟨kP, hkP, -⟩ := className_of_methodNamed hnamed
  have hinitP : kP.init = .initialized := Cond.initialized_spec (findClass_of_methodNamed hnamed) hkP hinit
  obtain ⟨vm₁, X₁, hstep₁⟩ := X.invokestatic hexec hown hlink hnamed hmethM hstatic hkP hinitP hy (g := g) hg (argsL := argsL) (rest := rest) (hlen _ hsigM) hstack hdg
  obtain ⟨v, B, X', hpost, hsteps⟩ := hK m meth c ⟨T.setVm vm₁, locs, cells, slots⟩ { g with stack := rest } (.invokestatic index) mk argsL.toArray X₁ hg hsize hdg hW (X₁.named hnamed) (hpre vm₁ X₁.warmed)
  exact ⟨v, vm₁, B, X₁.warmed, X', hpost, fun target h => hstep₁ _ fun acts => by rw [doInvoke_state]; exact hsteps.trans h⟩
theorem vx_runSW {y : MethodName} {bytes cc : ByteArray} {maxL nL mc ms n index : Nat} {ret : Option FieldType} {hh : List (Nat × Nat × Nat × Nat)} {ws : List Cond} {rm : Room} {Pc : Array Value → State → Prop} {Qc : Array Value → State → Outcome → State → Prop} {free : Addr → Prop} {Ts : List Cond} {own : String} {As rest : List Value} {g : JFrame}
    (S : CallFix p m c cc nL s args Ts own) (hM : Met l y ws rm Pc Qc mc ms free) (cw : vx_CSW R s args own index y bytes maxL ret hh ws rm mc ms n) (hp : PreS s H Pc As)
    (hg : g.method = m) (hn : As.length = n) (hsize : g.locals.size = nL) (hstack : g.stack = As.reverse ++ rest) (hW : 2 * g.monitorRoom + (rest.map fun v => v.category).sum ≤ 8) (hdg : decode cc g.pc = .ok (.invokestatic index, 3)) (hf : cells + mc ≤ R.cells ∧ slots + ms ≤ R.slots) :
    va_Run p l e R s m args below meth c H locs cells slots mc ms g rest (Qc As.toArray) (free) := by
  obtain ⟨⟨hrc, hrs, hfr, hlo, hws, hcw⟩, hcode, hini, hy, hlen, hl, hstt⟩ := cw
  have hK : Back l R p e below s args y 3 8 (PreOf R mc ms Pc) (PostOf Qc mc ms free) := va_backW (hh := hh) (bytes := bytes) (maxL := maxL) (ret := ret) hM hp.1 hrc hrs hfr hlo hws hcw (fun a' U hW => word_at hW (Or.inl (by first | rfl | simp [Cond.onTables, Cond.keeps, Cond.steady])) hini)
  obtain ⟨hx, hb, hml, ho, -⟩ := S
  intro T hT X
  obtain ⟨v, vm₁, ⟨U', l2, c2, s2⟩, hW₁, X', ⟨g', mk, t, L, e1, e2, hq, h1, hL, h2, h3⟩, st⟩ := vx_callSW X hx (hh := hh) (bytes := bytes) (maxL := maxL) (ret := ret) ho hl hstt hini hcode hy hK hg (hsize.trans hml.symm) (argsL := As) (rest := rest) (fun sig h => hn.trans (hlen sig h)) hstack hW (by rw [hb]; exact hdg)
    (fun vm₁ hW₁ => ⟨hf.1, hf.2, hp.2 (T.setVm vm₁) hT hW₁⟩)
  dsimp only [Pt.U, Pt.locs, Pt.cells, Pt.slots] at X' e1 e2 h1 h2 h3 st
  subst h1; subst h2; subst h3
  exact ⟨v, (T.setVm vm₁).calling g' mk As.toArray, t, U', L, hT, X', hL, e1, e2, hq, st⟩
/-- not caught here, past rows that name other classes: it goes on to the caller -/
theorem vx_outP {p : Program} {l : Launch} {e : Env} {R : Room} {s : State} {m : MethodId} {args : Array Value} {below : List Frame} {meth : Method} {c : Code} {H : Heap} {locs : List Loc} {cells slots : Nat} {free : Addr → Prop} {ls : Array Slot} {rest : List Value} {Qc : Array Value → State → Outcome → State → Prop} {XC : String → State → State → Prop}
    {pc : Nat} {own E : String} {ce : Cell} {q : Addr} {mc ms : Nat} (hown : s.vm.findClass own = some m.cls) (hlocks : meth.locks = false)
    (hpass : ∀ z ∈ c.exceptionTable.toList, covers z pc = false ∨ (z.catchType ≠ 0 ∧ ∃ nm : String, (Cond.classLink own z.catchType nm).before args s = true ∧ va_Nc E nm s)) (hcell : H[q]? = some ce) (hv : ce.vm = .none) (hcl : s.vm.findClass E = some ce.cls)
    (hx : ∀ t : State, t.heap = H → s.vm.Alike t.vm → XC E s t) (hf : ∀ z ∈ locs, free z.base) (hc : cells ≤ mc) (hs : slots ≤ ms) :
    vx_W p l e R s m args below meth c H locs cells slots (vx_MQ below Qc XC args s mc ms free) (F0 m pc ls rest) q := by
  intro T hT X
  have hpl : e.platform.magicAccessors = ({} : Platform).magicAccessors := by rw [X.admits.platform]
  obtain ⟨vm', hW', X', st⟩ := X.outThrough hlocks q (g := F0 m pc ls rest) rfl rfl rfl (cell := ce) (by rw [hT]; exact hcell) (by rw [hv]; rfl)
    (by obtain ⟨k9, h9, -⟩ := Vm.findClass_spec hcl; exact ⟨k9, h9⟩) (fun z hz => by
      rcases hpass z hz with h | ⟨hz0, nm, hl1, hn1⟩
      · exact Or.inl h
      · obtain ⟨c6, hc6, hcl6⟩ := Cond.classLink_spec hown hl1 e.platform hpl
        obtain ⟨a8, b8, h1, h2, h3⟩ := hn1
        cases Option.some.inj (h1.symm.trans hcl)
        cases Option.some.inj (h2.symm.trans hc6)
        exact Or.inr ⟨hz0, _, hcl6, h3⟩)
  obtain ⟨g₀, hfr⟩ := X'.frames_eq
  have hcell9 : ((T.setVm vm').setFrames (.throwing q :: below)).heap[q]? = some ce := by
    show T.heap[q]? = some ce
    rw [hT]; exact hcell
  have hend : Ended ((T.setVm vm').setFrames (.throwing q :: below)) below (.threw q) := State.frames_setFrames _ (State.cur_lt_of_frames hfr)
  refine ⟨(T.setVm vm').setFrames (.throwing q :: below), ?_, .threw q, X'.here.running, hend, Or.inr ⟨q, rfl, E, ce, locs, hx _ hT (X'.ends _).1.alike, hcell9, hv, hcl, (X'.ends _).1, (X'.ends _).2.mono hc hs, hf⟩⟩
  rw [X.pushThrowing_eq]
  exact st
/-- a thing of a world lies in the heap -/
theorem vx_lt {D : va_G} {cl : List vw_C} {ws : va_W} {H1 : Heap} (h : va_P D cl ws H1) {k : Nat} {q : Nat × va_E} (hk : ws[k]? = some q) : q.1 < H1.size := (h k q hk).lt
end VXS
/-! ===== END ===== -/
/-! ===== BEGIN methods with a table of their own: called by a name, returning or throwing ===== -/
section VXH
/-! vx_backW, vx_callVX, vx_callSX, vx_callVW, vx_runVW, vx_runVX, vx_runSX, vx_ofWH follow the same proofs as their sisters above (Free/Laws.lean, Shelf42/LK1.lean); vx_outP calls Shelf42/NT130.lean (outThrough). -/
section
variable {l : Launch} {R : Room} {p : Program} {e : Env} {below : List Frame} {s : State} {sargs : Array Value} {y : MethodName} {len W9 : Nat}
theorem vx_backW {ws : List Cond} {rm : Room} {Pc : Array Value → State → Prop} {Qc : Array Value → State → Outcome → State → Prop} {XC : String → State → State → Prop} {mc ms : Nat} {free : Addr → Prop} {bytes : ByteArray} {maxL : Nat} {ret : Option FieldType} {hh : List (Nat × Nat × Nat × Nat)}
    (hM : vx_Met l y ws rm Pc Qc XC mc ms free) (hblind : FrameBlind Pc) (hrc : rm.cells = mc) (hrs : rm.slots = ms)
    (hframes : rm.frames + 1 ≤ R.frames) (hlocals : W9 + (maxL + 11) + rm.locals ≤ R.locals)
    (hws : ∀ w ∈ ws, ∀ a' U, s.WarmedH U.vm → w.before a' U = true) (hcode : Cond.codeWith y bytes maxL ret hh ∈ ws) (hinit : ∀ a' U, s.WarmedH U.vm → (Cond.initialized y.cls).before a' U = true) :
    vx_Back l R p e below s sargs y len W9 (PreOf R mc ms Pc) (PostOf Qc mc ms free) (vx_Post XC mc ms free) := by
  intro m meth c A g ig mk a X hg hsize hdg hW hn hp
  have h1 : (headSpec ws rm).pre.before a A.U = true := atoms_intro fun w hw => hws w hw _ _ X.warmed
  have h2 : (Cond.codeWith y bytes maxL ret hh).before a A.U = true := hws _ hcode _ _ X.warmed
  have h3 : (Cond.initialized y.cls).before a A.U = true := hinit _ _ X.warmed
  have h4 : A.cells + (headSpec ws rm).room.cells ≤ R.cells := by rw [show (headSpec ws rm).room.cells = mc from hrc]; exact hp.1
  have h5 : A.slots + (headSpec ws rm).room.slots ≤ R.slots := by rw [show (headSpec ws rm).room.slots = ms from hrs]; exact hp.2.1
  have hPc : Pc a (A.U.calling g mk a) := hblind _ _ _ _ hp.2.2
  obtain ⟨U, Ls, c0, s0⟩ := A
  dsimp only [Pt.U, Pt.locs, Pt.cells, Pt.slots] at h1 h2 h3 h4 h5 X hn hPc ⊢
  obtain ⟨m9, methY, cY, hn9, hmY, hcY, -, hlY, -⟩ := Cond.codeWith_spec h2
  cases Option.some.inj (hn9.symm.trans hn)
  obtain ⟨kY, hkY, -⟩ := className_of_methodNamed hn
  have hinitY : kY.init = .initialized := Cond.initialized_spec (findClass_of_methodNamed hn) hkY h3
  have h : At U g.method c below := by rw [hg]; exact X.here
  have hlocals9 : W9 + (maxL + 11) + (headSpec ws rm).room.locals ≤ R.locals := hlocals
  have happ : (headSpec ws rm).appliesLoose y e.platform (U.calling g mk a) = true :=
    Spec.appliesLoose_calling (g := g) h hdg hn hkY hinitY
      (X.room_calling (g := g) (R' := (headSpec ws rm).room) hsize hmY hcY hframes (by rw [hlY]; omega) h4 h5) h1
  obtain ⟨mid, hmid⟩ := h.above
  have hfr : (U.setTop g).frames = (.java g :: mid) ++ below := by rw [State.frames_setTop' g h.top, hmid]; rfl
  obtain ⟨o, s₂, hsteps, -, hend, hq⟩ := Steps.callFree hM p X.admits X.cas X.clock (acts := []) hfr happ hPc trivial
  have hq' : vx_Q Qc XC mc ms free a (U.calling g mk a) o s₂ := hq
  rw [State.frames_setTop' g h.top] at hend
  obtain ⟨g₀, hg0⟩ := Option.isSome_iff_exists.mp h.top
  obtain ⟨r, hr⟩ := State.topJava?_eq_some.mp hg0
  have hr' : (({ U with heap := s₂.heap, slotsUsed := s₂.slotsUsed } : State).setVm s₂.vm).frames = .java g₀ :: r := hr
  rcases hq' with ⟨hqc, L, hfe, hL⟩ | ⟨q, rfl, E, ce, L, hx, hce, hcv, hcl, hW₂, hsm, hL⟩
  · obtain ⟨⟨v, rfl⟩, hW₂, e2, q2, q3, q4, q5, q6⟩ := id hfe
    have e3 : s₂ = ({ (U.calling g mk a).setFrames s₂.frames with heap := s₂.heap, slotsUsed := s₂.slotsUsed } : State).setVm s₂.vm := by
      have : s₂ = ({ s₂ with vm := (U.calling g mk a).vm } : State).setVm s₂.vm := rfl
      rw [e2] at this
      exact this
    obtain ⟨c₂, i₂, len₂, hc₂, hd₂, hf₂⟩ := hend
    have hW' : U.WarmedH s₂.vm := hW₂
    have hcc : c₂ = c := by
      have h1 : s₂.code? g.method = U.code? g.method := by
        rw [State.code?_eq, State.code?_eq, hW'.alike.method?]
      exact Option.some.inj (hc₂.symm.trans (h1.trans h.code))
    subst hcc
    have hlen : len₂ = len := by rw [hdg] at hd₂; cases hd₂; rfl
    subst hlen
    have hs₂ : s₂ = (({ U with heap := s₂.heap, slotsUsed := s₂.slotsUsed } : State).setVm s₂.vm).setTop { g with pc := g.pc + len₂, stack := v.toList ++ g.stack } := by
      refine e3.trans ?_
      rw [hf₂, State.calling_eq h.top, State.setFrames_setFrames, State.setTop_of_frames _ hr', hr]
      rfl
    have hsame : U.sameButNew ({ U with heap := s₂.heap, slotsUsed := s₂.slotsUsed } : State) L mc ms := by
      refine ⟨?_, q2, q3, q4, q5, q6⟩
      obtain ⟨t, ht, -⟩ := State.frames_cons hr
      show ({ U with heap := s₂.heap, slotsUsed := s₂.slotsUsed } : State) = { U.setFrames U.frames with heap := s₂.heap, slotsUsed := s₂.slotsUsed }
      rw [State.setFrames_self ht]
    subst hg
    refine Or.inl ⟨v, ⟨(({ U with heap := s₂.heap, slotsUsed := s₂.slotsUsed } : State).setVm s₂.vm), Ls ++ L, c0 + mc, s0 + ms⟩,
      ⟨X.admits, X.cas, X.clock, X.frames, X.room, X.hears, X.method, X.code, (X.here.setHeapUsed s₂.heap s₂.slotsUsed).setVm hW'.alike, X.tail, State.WarmedH.trans X.warmed hW', X.limits, X.bytes, X.same.trans (hsame.setVm s.vm)⟩,
      ⟨g, mk, s₂, L, rfl, rfl, hqc, rfl, hL, rfl, rfl⟩, ?_⟩
    show Steps p.tables e below _ ((({ U with heap := s₂.heap, slotsUsed := s₂.slotsUsed } : State).setVm s₂.vm).setTop { g with pc := g.pc + len₂, stack := v.toList ++ g.stack })
    rw [← hs₂]
    exact hsteps
  · obtain ⟨e2, q2, q3, q4, q5, q6⟩ := id hsm
    have e3 : s₂ = ({ (U.calling g mk a).setFrames s₂.frames with heap := s₂.heap, slotsUsed := s₂.slotsUsed } : State).setVm s₂.vm := by
      have : s₂ = ({ s₂ with vm := (U.calling g mk a).vm } : State).setVm s₂.vm := rfl
      rw [e2] at this
      exact this
    have hf₂ : s₂.frames = .throwing q :: .java g :: U.frames.tail := hend
    have hW' : U.WarmedH s₂.vm := hW₂
    have hs₂ : s₂ = ((({ U with heap := s₂.heap, slotsUsed := s₂.slotsUsed } : State).setVm s₂.vm).setTop g).pushFrame (.throwing q) := by
      refine e3.trans ?_
      rw [hf₂, State.calling_eq h.top, State.setFrames_setFrames, State.pushFrame, State.frames_setTop _ hr', State.setTop_of_frames _ hr', State.setFrames_setFrames, hr]
      rfl
    have hsame : U.sameButNew ({ U with heap := s₂.heap, slotsUsed := s₂.slotsUsed } : State) L mc ms := by
      refine ⟨?_, q2, q3, q4, q5, q6⟩
      obtain ⟨t, ht, -⟩ := State.frames_cons hr
      show ({ U with heap := s₂.heap, slotsUsed := s₂.slotsUsed } : State) = { U.setFrames U.frames with heap := s₂.heap, slotsUsed := s₂.slotsUsed }
      rw [State.setFrames_self ht]
    subst hg
    refine Or.inr ⟨q, ⟨(({ U with heap := s₂.heap, slotsUsed := s₂.slotsUsed } : State).setVm s₂.vm), Ls ++ L, c0 + mc, s0 + ms⟩,
      ⟨X.admits, X.cas, X.clock, X.frames, X.room, X.hears, X.method, X.code, (X.here.setHeapUsed s₂.heap s₂.slotsUsed).setVm hW'.alike, X.tail, State.WarmedH.trans X.warmed hW', X.limits, X.bytes, X.same.trans (hsame.setVm s.vm)⟩,
      ⟨g, mk, s₂, L, E, ce, rfl, rfl, hx, hce, hcv, hcl, rfl, hL, rfl, rfl⟩, ?_⟩
    show Steps p.tables e below _ (((({ U with heap := s₂.heap, slotsUsed := s₂.slotsUsed } : State).setVm s₂.vm).setTop g).pushFrame (.throwing q))
    rw [← hs₂]
    exact hsteps
end
variable {p : Program} {l : Launch} {e : Env} {R : Room} {s : State} {m : MethodId} {args : Array Value} {below : List Frame} {meth : Method} {c : Code} {T : State} {H : Heap} {locs : List Loc} {cells slots : Nat}
theorem vx_callVX (X : Stand p l e R s m args below meth c T locs cells slots) (hexec : p.tables.exec = Jvm.exec) {own C : String} {index : Nat} {y : MethodName} {bytes : ByteArray} {maxL : Nat} {ret : Option FieldType} {hh : List (Nat × Nat × Nat × Nat)}
    (hown : s.vm.findClass own = some m.cls) (hlink : (Cond.methodLink own index y).before args s = true) (hinst : (Cond.instanceMethod y).before args s = true) (hsel : (Cond.selects C y y).before args s = true)
    (hcode : (Cond.codeWith y bytes maxL ret hh).before args s = true) (hy : y.cls ≠ "java/lang/invoke/MethodHandle" ∧ y.cls ≠ "java/lang/invoke/VarHandle")
    {W9 : Nat} {Pre : Pt → Array Value → Prop} {Post : Pt → Array Value → Option Value → Pt → Prop} {PostX : Pt → Array Value → Addr → Pt → Prop} (hK : vx_Back l R p e below s args y 3 W9 Pre Post PostX)
    {b : Addr} {cellB : Cell} (hcell : T.heap[b]? = some cellB) (hobj : cellB.vm.isStatics = false) (hcls : s.vm.findClass C = some cellB.cls)
    {g : JFrame} (hg : g.method = m) (hsize : g.locals.size = c.maxLocals) {argsL rest : List Value} (hlen : ∀ sig, parseMethodDescriptor y.desc = some sig → argsL.length = sig.parameters.length)
    (hstack : g.stack = argsL.reverse ++ .ref b :: rest) (hW : 2 * g.monitorRoom + (rest.map fun v => v.category).sum ≤ W9) (hdg : decode c.code g.pc = .ok (.invokevirtual index, 3))
    (hpre : ∀ vm₁, s.WarmedH vm₁ → Pre ⟨T.setVm vm₁, locs, cells, slots⟩ (Value.ref b :: argsL).toArray) :
    (∃ (v : Option Value) (vm₁ : Vm) (B : Pt), s.WarmedH vm₁ ∧ Stand p l e R s m args below meth c B.U B.locs B.cells B.slots ∧ Post ⟨T.setVm vm₁, locs, cells, slots⟩ (Value.ref b :: argsL).toArray v B ∧
      ∀ target, Steps p.tables e below (B.U.setTop { g with pc := g.pc + 3, stack := v.toList ++ rest }) target → Steps p.tables e below (T.setTop g) target) ∨
    (∃ (q : Addr) (vm₁ : Vm) (B : Pt), s.WarmedH vm₁ ∧ Stand p l e R s m args below meth c B.U B.locs B.cells B.slots ∧ PostX ⟨T.setVm vm₁, locs, cells, slots⟩ (Value.ref b :: argsL).toArray q B ∧
      Steps p.tables e below (T.setTop g) ((B.U.setTop { g with stack := rest }).pushFrame (.throwing q))) := by
  obtain ⟨mk, methM, hnamed, hmethM, hstM, habM⟩ := Cond.instanceMethod_spec hinst
  obtain ⟨m8, methM', cM, hn8, hmethM', -, -, -, -, -, -, hsigM⟩ := Cond.codeWith_spec hcode
  cases Option.some.inj (hn8.symm.trans hnamed)
  cases hmethM.symm.trans hmethM'
  obtain ⟨c2, r2, m2, q1, q2, q3, q4, kP, hkP, hkPi⟩ := Cond.selects_spec hsel
  cases hcls.symm.trans q1
  cases (State.methodFound?_of_named hnamed hy).symm.trans q2
  cases hnamed.symm.trans q3
  have hselP : selectMethod e.platform s.vm cellB.cls mk = .method mk := by rw [Launch.admits_selectMethod X.admits]; exact q4
  obtain ⟨vm₁, X₁, hstep₁⟩ := X.invokevirtual hexec hown hlink hnamed hmethM hstM hkP hkPi hy (a := b) (cell := cellB) hcell
    (fun z h => by rw [h] at hobj; cases hobj) hselP hmethM habM hkP hkPi (g := g) hg (argsL := argsL) (rest := rest) (hlen _ hsigM) hstack hdg
  rcases hK m meth c ⟨T.setVm vm₁, locs, cells, slots⟩ { g with stack := rest } (.invokevirtual index) mk (Value.ref b :: argsL).toArray X₁ hg hsize hdg hW (X₁.named hnamed) (hpre vm₁ X₁.warmed) with ⟨v, B, X', hpost, hsteps⟩ | ⟨q, B, X', hpost, hsteps⟩
  · exact Or.inl ⟨v, vm₁, B, X₁.warmed, X', hpost, fun target h => hstep₁ _ fun acts => by rw [doInvoke_state]; exact hsteps.trans h⟩
  · exact Or.inr ⟨q, vm₁, B, X₁.warmed, X', hpost, hstep₁ _ fun acts => by rw [doInvoke_state]; exact hsteps⟩
theorem vx_callSX (X : Stand p l e R s m args below meth c T locs cells slots) (hexec : p.tables.exec = Jvm.exec) {own : String} {index : Nat} {y : MethodName} {bytes : ByteArray} {maxL : Nat} {ret : Option FieldType} {hh : List (Nat × Nat × Nat × Nat)}
    (hown : s.vm.findClass own = some m.cls) (hlink : (Cond.methodLink own index y).before args s = true) (hstat : (Cond.static y).before args s = true) (hinit : (Cond.initialized y.cls).before args s = true)
    (hcode : (Cond.codeWith y bytes maxL ret hh).before args s = true) (hy : y.cls ≠ "java/lang/invoke/MethodHandle" ∧ y.cls ≠ "java/lang/invoke/VarHandle")
    {W9 : Nat} {Pre : Pt → Array Value → Prop} {Post : Pt → Array Value → Option Value → Pt → Prop} {PostX : Pt → Array Value → Addr → Pt → Prop} (hK : vx_Back l R p e below s args y 3 W9 Pre Post PostX)
    {g : JFrame} (hg : g.method = m) (hsize : g.locals.size = c.maxLocals) {argsL rest : List Value} (hlen : ∀ sig, parseMethodDescriptor y.desc = some sig → argsL.length = sig.parameters.length)
    (hstack : g.stack = argsL.reverse ++ rest) (hW : 2 * g.monitorRoom + (rest.map fun v => v.category).sum ≤ W9) (hdg : decode c.code g.pc = .ok (.invokestatic index, 3))
    (hpre : ∀ vm₁, s.WarmedH vm₁ → Pre ⟨T.setVm vm₁, locs, cells, slots⟩ argsL.toArray) :
    (∃ (v : Option Value) (vm₁ : Vm) (B : Pt), s.WarmedH vm₁ ∧ Stand p l e R s m args below meth c B.U B.locs B.cells B.slots ∧ Post ⟨T.setVm vm₁, locs, cells, slots⟩ argsL.toArray v B ∧
      ∀ target, Steps p.tables e below (B.U.setTop { g with pc := g.pc + 3, stack := v.toList ++ rest }) target → Steps p.tables e below (T.setTop g) target) ∨
    (∃ (q : Addr) (vm₁ : Vm) (B : Pt), s.WarmedH vm₁ ∧ Stand p l e R s m args below meth c B.U B.locs B.cells B.slots ∧ PostX ⟨T.setVm vm₁, locs, cells, slots⟩ argsL.toArray q B ∧
      Steps p.tables e below (T.setTop g) ((B.U.setTop { g with stack := rest }).pushFrame (.throwing q))) := by
  obtain ⟨mk, methM, cM, hnamed, hmethM, -, -, -, -, -, -, hsigM⟩ := Cond.codeWith_spec hcode
  have hstatic : methM.isStatic = true := Cond.static_spec hnamed hmethM hstat
  obtain ⟨kP, hkP, -⟩ := className_of_methodNamed hnamed
  have hinitP : kP.init = .initialized := Cond.initialized_spec (findClass_of_methodNamed hnamed) hkP hinit
  obtain ⟨vm₁, X₁, hstep₁⟩ := X.invokestatic hexec hown hlink hnamed hmethM hstatic hkP hinitP hy (g := g) hg (argsL := argsL) (rest := rest) (hlen _ hsigM) hstack hdg
  rcases hK m meth c ⟨T.setVm vm₁, locs, cells, slots⟩ { g with stack := rest } (.invokestatic index) mk argsL.toArray X₁ hg hsize hdg hW (X₁.named hnamed) (hpre vm₁ X₁.warmed) with ⟨v, B, X', hpost, hsteps⟩ | ⟨q, B, X', hpost, hsteps⟩
  · exact Or.inl ⟨v, vm₁, B, X₁.warmed, X', hpost, fun target h => hstep₁ _ fun acts => by rw [doInvoke_state]; exact hsteps.trans h⟩
  · exact Or.inr ⟨q, vm₁, B, X₁.warmed, X', hpost, hstep₁ _ fun acts => by rw [doInvoke_state]; exact hsteps⟩
theorem vx_callVW (X : Stand p l e R s m args below meth c T locs cells slots) (hexec : p.tables.exec = Jvm.exec) {own C : String} {index : Nat} {y : MethodName} {bytes : ByteArray} {maxL : Nat} {ret : Option FieldType} {hh : List (Nat × Nat × Nat × Nat)}
    (hown : s.vm.findClass own = some m.cls) (hlink : (Cond.methodLink own index y).before args s = true) (hinst : (Cond.instanceMethod y).before args s = true) (hsel : (Cond.selects C y y).before args s = true)
    (hcode : (Cond.codeWith y bytes maxL ret hh).before args s = true) (hy : y.cls ≠ "java/lang/invoke/MethodHandle" ∧ y.cls ≠ "java/lang/invoke/VarHandle")
    {W9 : Nat} {Pre : Pt → Array Value → Prop} {Post : Pt → Array Value → Option Value → Pt → Prop} (hK : Back l R p e below s args y 3 W9 Pre Post)
    {b : Addr} {cellB : Cell} (hcell : T.heap[b]? = some cellB) (hobj : cellB.vm.isStatics = false) (hcls : s.vm.findClass C = some cellB.cls)
    {g : JFrame} (hg : g.method = m) (hsize : g.locals.size = c.maxLocals) {argsL rest : List Value} (hlen : ∀ sig, parseMethodDescriptor y.desc = some sig → argsL.length = sig.parameters.length)
    (hstack : g.stack = argsL.reverse ++ .ref b :: rest) (hW : 2 * g.monitorRoom + (rest.map fun v => v.category).sum ≤ W9) (hdg : decode c.code g.pc = .ok (.invokevirtual index, 3))
    (hpre : ∀ vm₁, s.WarmedH vm₁ → Pre ⟨T.setVm vm₁, locs, cells, slots⟩ (Value.ref b :: argsL).toArray) :
    ∃ (v : Option Value) (vm₁ : Vm) (B : Pt), s.WarmedH vm₁ ∧ Stand p l e R s m args below meth c B.U B.locs B.cells B.slots ∧ Post ⟨T.setVm vm₁, locs, cells, slots⟩ (Value.ref b :: argsL).toArray v B ∧
      ∀ target, Steps p.tables e below (B.U.setTop { g with pc := g.pc + 3, stack := v.toList ++ rest }) target → Steps p.tables e below (T.setTop g) target := by
  obtain ⟨mk, methM, hnamed, hmethM, hstM, habM⟩ := Cond.instanceMethod_spec hinst
  obtain ⟨m8, methM', cM, hn8, hmethM', -, -, -, -, -, -, hsigM⟩ := Cond.codeWith_spec hcode
  cases Option.some.inj (hn8.symm.trans hnamed)
  cases hmethM.symm.trans hmethM'
  obtain ⟨c2, r2, m2, q1, q2, q3, q4, kP, hkP, hkPi⟩ := Cond.selects_spec hsel
  cases hcls.symm.trans q1
  cases (State.methodFound?_of_named hnamed hy).symm.trans q2
  cases hnamed.symm.trans q3
  have hselP : selectMethod e.platform s.vm cellB.cls mk = .method mk := by rw [Launch.admits_selectMethod X.admits]; exact q4
  obtain ⟨vm₁, X₁, hstep₁⟩ := X.invokevirtual hexec hown hlink hnamed hmethM hstM hkP hkPi hy (a := b) (cell := cellB) hcell
    (fun z h => by rw [h] at hobj; cases hobj) hselP hmethM habM hkP hkPi (g := g) hg (argsL := argsL) (rest := rest) (hlen _ hsigM) hstack hdg
  obtain ⟨v, B, X', hpost, hsteps⟩ := hK m meth c ⟨T.setVm vm₁, locs, cells, slots⟩ { g with stack := rest } (.invokevirtual index) mk (Value.ref b :: argsL).toArray X₁ hg hsize hdg hW (X₁.named hnamed) (hpre vm₁ X₁.warmed)
  exact ⟨v, vm₁, B, X₁.warmed, X', hpost, fun target h => hstep₁ _ fun acts => by rw [doInvoke_state]; exact hsteps.trans h⟩
abbrev vx_CVW (R : Room) (s : State) (args : Array Value) (own C : String) (index : Nat) (y : MethodName) (bytes : ByteArray) (maxL : Nat) (ret : Option FieldType) (hh : List (Nat × Nat × Nat × Nat)) (ws : List Cond) (rm : Room) (mc ms n : Nat) : Prop :=
  (rm.cells = mc ∧ rm.slots = ms ∧ rm.frames + 1 ≤ R.frames ∧ 8 + (maxL + 11) + rm.locals ≤ R.locals ∧ (∀ w ∈ ws, ∀ (a' : Array Value) (U : State), s.WarmedH U.vm → w.before a' U = true) ∧ Cond.codeWith y bytes maxL ret hh ∈ ws) ∧
  (Cond.codeWith y bytes maxL ret hh).before args s = true ∧ (Cond.initialized y.cls).before args s = true ∧ (y.cls ≠ "java/lang/invoke/MethodHandle" ∧ y.cls ≠ "java/lang/invoke/VarHandle") ∧
  (∀ sig, parseMethodDescriptor y.desc = some sig → n = sig.parameters.length) ∧ (Cond.methodLink own index y).before args s = true ∧ (Cond.instanceMethod y).before args s = true ∧ (Cond.selects C y y).before args s = true
theorem vx_cwVW {own C : String} {index maxL mc ms : Nat} {y : MethodName} {bytes : ByteArray} {ret : Option FieldType} {hh : List (Nat × Nat × Nat × Nat)} {Ts ws ws' : List Cond} {rm : Room} (n : Nat) (ht : ∀ w ∈ Ts, w.before args s = true) (hT : GoodIn Ts (wsV own index C y ws)) (hw : ws = Cond.codeWith y bytes maxL ret hh :: ws') (hrc : rm.cells = mc) (hrs : rm.slots = ms)
    (hd : y.cls = C ∧ y.cls ≠ "java/lang/invoke/MethodHandle" ∧ y.cls ≠ "java/lang/invoke/VarHandle" ∧ (parseMethodDescriptor y.desc).map (fun d => d.parameters.length) = some n) (hR : rm.frames + 1 ≤ R.frames ∧ 8 + (maxL + 11) + rm.locals ≤ R.locals) :
    vx_CVW R s args own C index y bytes maxL ret hh ws rm mc ms n := by
  obtain ⟨hC, hd⟩ := hd
  subst hC
  have ok : ∀ w ∈ wsV own index y.cls y ws, w.before args s = true := fun w h => ht w (hT w h).1
  have hG : GoodIn Ts ws := fun w h => hT w (by unfold wsV; exact List.mem_append_right _ h)
  have hc : Cond.codeWith y bytes maxL ret hh ∈ ws := by rw [hw]; exact List.mem_cons_self
  refine ⟨⟨hrc, hrs, hR.1, hR.2, pay_in ht hG, hc⟩, ht _ (hG _ hc).1, ok _ (by simp [wsV]), ⟨hd.1, hd.2.1⟩, fun sig h => ?_, ok _ (by simp [wsV]), ok _ (by simp [wsV]), ok _ (by simp [wsV])⟩
  have h2 := hd.2.2
  rw [h] at h2
  exact (Option.some.inj h2).symm
theorem vx_runVW {y : MethodName} {bytes cc : ByteArray} {maxL nL mc ms n index : Nat} {ret : Option FieldType} {hh : List (Nat × Nat × Nat × Nat)} {ws : List Cond} {rm : Room} {Pc : Array Value → State → Prop} {Qc : Array Value → State → Outcome → State → Prop} {free : Addr → Prop} {Ts : List Cond} {own C : String} {b : Addr} {As rest : List Value} {g : JFrame}
    (S : CallFix p m c cc nL s args Ts own) (hM : Met l y ws rm Pc Qc mc ms free) (cw : vx_CVW R s args own C index y bytes maxL ret hh ws rm mc ms n) (hp : PreV s H C b Pc As)
    (hg : g.method = m) (hn : As.length = n) (hsize : g.locals.size = nL) (hstack : g.stack = As.reverse ++ .ref b :: rest) (hW : 2 * g.monitorRoom + (rest.map fun v => v.category).sum ≤ 8) (hdg : decode cc g.pc = .ok (.invokevirtual index, 3)) (hf : cells + mc ≤ R.cells ∧ slots + ms ≤ R.slots) :
    va_Run p l e R s m args below meth c H locs cells slots mc ms g rest (Qc (Value.ref b :: As).toArray) free := by
  obtain ⟨⟨hrc, hrs, hfr, hlo, hws, hcw⟩, hcode, hini, hy, hlen, hl, hin, hse⟩ := cw
  have hK : Back l R p e below s args y 3 8 (PreOf R mc ms Pc) (PostOf Qc mc ms free) := va_backW (hh := hh) (bytes := bytes) (maxL := maxL) (ret := ret) hM hp.1 hrc hrs hfr hlo hws hcw (fun a' U hW => word_at hW (Or.inl (by first | rfl | simp [Cond.onTables, Cond.keeps, Cond.steady])) hini)
  obtain ⟨hx, hb, hml, ho, -⟩ := S
  obtain ⟨-, ⟨cellB, hcB, hoB, hclB⟩, hPc⟩ := hp
  intro T hT X
  obtain ⟨v, vm₁, ⟨U', l2, c2, s2⟩, hW₁, X', ⟨g', mk, t, L, e1, e2, hq, h1, hL, h2, h3⟩, st⟩ := vx_callVW X hx (C := C) (hh := hh) (bytes := bytes) (maxL := maxL) (ret := ret) ho hl hin hse hcode hy hK (by rw [hT]; exact hcB) hoB hclB hg (hsize.trans hml.symm) (argsL := As) (rest := rest) (fun sig h => hn.trans (hlen sig h)) hstack hW (by rw [hb]; exact hdg)
    (fun vm₁ hW₁ => ⟨hf.1, hf.2, hPc (T.setVm vm₁) hT hW₁⟩)
  dsimp only [Pt.U, Pt.locs, Pt.cells, Pt.slots] at X' e1 e2 h1 h2 h3 st
  subst h1; subst h2; subst h3
  exact ⟨v, (T.setVm vm₁).calling g' mk (Value.ref b :: As).toArray, t, U', L, hT, X', hL, e1, e2, hq, st⟩
section
variable {y : MethodName} {bytes cc : ByteArray} {maxL nL mc ms n index : Nat} {ret : Option FieldType} {ws : List Cond} {rm : Room} {Pc : Array Value → State → Prop} {Qc : Array Value → State → Outcome → State → Prop} {XC : String → State → State → Prop} {free : Addr → Prop} {Ts : List Cond} {own C : String} {b : Addr} {As rest : List Value} {g : JFrame}
theorem vx_runVX {hh : List (Nat × Nat × Nat × Nat)} (S : CallFix p m c cc nL s args Ts own) (hM : vx_Met l y ws rm Pc Qc XC mc ms free) (cw : vx_CVW R s args own C index y bytes maxL ret hh ws rm mc ms n) (hp : PreV s H C b Pc As)
    (hg : g.method = m) (hn : As.length = n) (hsize : g.locals.size = nL) (hstack : g.stack = As.reverse ++ .ref b :: rest) (hW : 2 * g.monitorRoom + (rest.map fun v => v.category).sum ≤ 8) (hdg : decode cc g.pc = .ok (.invokevirtual index, 3)) (hf : cells + mc ≤ R.cells ∧ slots + ms ≤ R.slots) :
    vx_Run p l e R s m args below meth c H locs cells slots mc ms g rest (Qc (Value.ref b :: As).toArray) XC free := by
  obtain ⟨⟨hrc, hrs, hfr, hlo, hws, hcw⟩, hcode, hini, hy, hlen, hl, hin, hse⟩ := cw
  have hK : vx_Back l R p e below s args y 3 8 (PreOf R mc ms Pc) (PostOf Qc mc ms free) (vx_Post XC mc ms free) := vx_backW (hh := hh) (bytes := bytes) (maxL := maxL) (ret := ret) hM hp.1 hrc hrs hfr hlo hws hcw (fun a' U hW => word_at hW (Or.inl (by first | rfl | simp [Cond.onTables, Cond.keeps, Cond.steady])) hini)
  obtain ⟨hx, hb, hml, ho, -⟩ := S
  obtain ⟨-, ⟨cellB, hcB, hoB, hclB⟩, hPc⟩ := hp
  intro T hT X
  rcases vx_callVX X hx (C := C) (hh := hh) (bytes := bytes) (maxL := maxL) (ret := ret) ho hl hin hse hcode hy hK (by rw [hT]; exact hcB) hoB hclB hg (hsize.trans hml.symm) (argsL := As) (rest := rest) (fun sig h => hn.trans (hlen sig h)) hstack hW (by rw [hb]; exact hdg)
    (fun vm₁ hW₁ => ⟨hf.1, hf.2, hPc (T.setVm vm₁) hT hW₁⟩) with ⟨v, vm₁, ⟨U', l2, c2, s2⟩, hW₁, X', ⟨g', mk, t, L, e1, e2, hq, h1, hL, h2, h3⟩, st⟩ | ⟨q, vm₁, ⟨U', l2, c2, s2⟩, hW₁, X', ⟨g', mk, t, L, E, ce, e1, e2, hq, hce, hcv, hcl, h1, hL, h2, h3⟩, st⟩
  · dsimp only [Pt.U, Pt.locs, Pt.cells, Pt.slots] at X' e1 e2 h1 h2 h3 st
    subst h1; subst h2; subst h3
    exact Or.inl ⟨v, (T.setVm vm₁).calling g' mk (Value.ref b :: As).toArray, t, U', L, hT, X', hL, e1, e2, hq, st⟩
  · dsimp only [Pt.U, Pt.locs, Pt.cells, Pt.slots] at X' e1 e2 h1 h2 h3 st hcl
    subst h1; subst h2; subst h3
    exact Or.inr ⟨q, (T.setVm vm₁).calling g' mk (Value.ref b :: As).toArray, t, U', L, E, ce, hT, X', hL, e1, e2, hq, hce, hcv, vx_cls hW₁ hcl, st⟩
theorem vx_runSX {hh : List (Nat × Nat × Nat × Nat)} (S : CallFix p m c cc nL s args Ts own) (hM : vx_Met l y ws rm Pc Qc XC mc ms free) (cw : vx_CSW R s args own index y bytes maxL ret hh ws rm mc ms n) (hp : PreS s H Pc As)
    (hg : g.method = m) (hn : As.length = n) (hsize : g.locals.size = nL) (hstack : g.stack = As.reverse ++ rest) (hW : 2 * g.monitorRoom + (rest.map fun v => v.category).sum ≤ 8) (hdg : decode cc g.pc = .ok (.invokestatic index, 3)) (hf : cells + mc ≤ R.cells ∧ slots + ms ≤ R.slots) :
    vx_Run p l e R s m args below meth c H locs cells slots mc ms g rest (Qc As.toArray) XC free := by
  obtain ⟨⟨hrc, hrs, hfr, hlo, hws, hcw⟩, hcode, hini, hy, hlen, hl, hstt⟩ := cw
  have hK : vx_Back l R p e below s args y 3 8 (PreOf R mc ms Pc) (PostOf Qc mc ms free) (vx_Post XC mc ms free) := vx_backW (hh := hh) (bytes := bytes) (maxL := maxL) (ret := ret) hM hp.1 hrc hrs hfr hlo hws hcw (fun a' U hW => word_at hW (Or.inl (by first | rfl | simp [Cond.onTables, Cond.keeps, Cond.steady])) hini)
  obtain ⟨hx, hb, hml, ho, -⟩ := S
  intro T hT X
  rcases vx_callSX X hx (hh := hh) (bytes := bytes) (maxL := maxL) (ret := ret) ho hl hstt hini hcode hy hK hg (hsize.trans hml.symm) (argsL := As) (rest := rest) (fun sig h => hn.trans (hlen sig h)) hstack hW (by rw [hb]; exact hdg)
    (fun vm₁ hW₁ => ⟨hf.1, hf.2, hp.2 (T.setVm vm₁) hT hW₁⟩) with ⟨v, vm₁, ⟨U', l2, c2, s2⟩, hW₁, X', ⟨g', mk, t, L, e1, e2, hq, h1, hL, h2, h3⟩, st⟩ | ⟨q, vm₁, ⟨U', l2, c2, s2⟩, hW₁, X', ⟨g', mk, t, L, E, ce, e1, e2, hq, hce, hcv, hcl, h1, hL, h2, h3⟩, st⟩
  · dsimp only [Pt.U, Pt.locs, Pt.cells, Pt.slots] at X' e1 e2 h1 h2 h3 st
    subst h1; subst h2; subst h3
    exact Or.inl ⟨v, (T.setVm vm₁).calling g' mk As.toArray, t, U', L, hT, X', hL, e1, e2, hq, st⟩
  · dsimp only [Pt.U, Pt.locs, Pt.cells, Pt.slots] at X' e1 e2 h1 h2 h3 st hcl
    subst h1; subst h2; subst h3
    exact Or.inr ⟨q, (T.setVm vm₁).calling g' mk As.toArray, t, U', L, E, ce, hT, X', hL, e1, e2, hq, hce, hcv, vx_cls hW₁ hcl, st⟩
end
end VXH
theorem vx_ofWH {l : Launch} {y : MethodName} {ws ws' : List Cond} {rm : Room} {Pc : Array Value → State → Prop} {Qc : Array Value → State → Outcome → State → Prop} {XC : String → State → State → Prop} {mc ms : Nat} {free : Addr → Prop} {cc : ByteArray} {maxL : Nat} {ret : Option FieldType} {hh : List (Nat × Nat × Nat × Nat)}
    (hy : plainName y.cls = true) (hw : ws = Cond.codeWith y cc maxL ret hh :: ws')
    (body : ∀ p e s m args below meth c s₁, BodyLoose p l y (headSpec ws rm) cc maxL ret e s m args below meth c s₁ → c.maxLocals = maxL → Pc args s →
      W p l e (headSpec ws rm).room s m args below meth c s.heap [] 0 0 (vx_MQ below Qc XC args s mc ms free) (entryFrame m args maxL)) : vx_Met l y ws rm Pc Qc XC mc ms free := by
  refine MetFree.of_bodyS (code := cc) (maxLocals := maxL) (ret := ret) hy ?_ ?_
  · intro args s m h hn
    obtain ⟨m9, meth, c, hn9, h1, h2, h3, h4, -, h5, h6, -⟩ := Cond.codeWith_spec (atoms_spec (ws := ws) h _ (by rw [hw]; exact List.mem_cons_self))
    cases hn.symm.trans hn9
    exact ⟨meth, c, h1, h2, h3, h4, h5, h6⟩
  · intro p e s m args below meth c s₁ B hml hP _
    have hh0 : s₁.heap = s.heap := by rw [B.state]; rfl
    obtain ⟨t, a1, o, b1, b2, b3⟩ := body p e s m args below meth c s₁ B hml hP s₁ hh0 (Stand.of_body B)
    exact ⟨t, o, a1, b1, b2, b3⟩
/-! ===== END ===== -/
/-! ===== BEGIN what the machine throws by itself, no traces kept ===== -/
section VXM
set_option maxHeartbeats 1000000 in
/-- the machine throws cls with the message text, no traces kept: from its note over the frame g to 'throwing' over the same frame (follows the proofs of Stand.vmThrowsMessage, Shelf/KitTracedVmS.lean, and Stand.throwsMessageColdBareV, StandMessageColdV.lean, without the step out of the frame) -/
theorem vx_vmAt {p : Program} {l : Launch} {e : Env} {R : Room} {s : State} {m₀ : MethodId} {args : Array Value} {below : List Frame} {meth : Method} {c : Code} {W : State} {locs : List Loc} {cells slots : Nat}
    (X : Stand p l e R s m₀ args below meth c W locs cells slots) (hexec : p.tables.exec = Jvm.exec) (htr : e.platform.stackTraces = false) {cls : String} {names : List String} {text : String}
    (hcls : Bundle.fit cls = true) (hnames : ∀ n ∈ names, Bundle.fit n = true) (hsoe : (cls == "java/lang/StackOverflowError") = false) (hoom : (cls == "java/lang/OutOfMemoryError") = false)
    (h : ∀ a ∈ Bundle.messageArmAtoms cls names, a.before args s = true)
    (hlocs : ∀ x ∈ locs, ∀ cell, s.heap[x.base]? = some cell → cell.vm.isStatics = false)
    (htext : (text == notModelled) = false) (hlimit : ¬ (stringBytes (stringToUtf16 text)).size > e.platform.arrayLengthLimit) (hheap : ¬ (stringBytes (stringToUtf16 text)).size * componentBytes .byte > e.platform.maxHeapBytes)
    {g : JFrame} (hg : g.method = m₀) (hsize : g.locals.size = c.maxLocals)
    (hRframes : names.length + 4 < R.frames) (hRlocals : 2 * g.monitorRoom + (g.stack.map fun v => v.category).sum + 10240 ≤ R.locals) (hshort : 13 * names.length + 55 ≤ 10240)
    (hRcells : cells + 3 ≤ R.cells) (hRslots : slots + ((stringBytes (stringToUtf16 text)).size + 4 + 6) ≤ R.slots) (hlocks : meth.locks = false) :
    ∃ (S : State) (q : Addr) (ce : Cell), (∀ target, Steps p.tables e below ((S.setTop g).pushFrame (.throwing q)) target → Steps p.tables e below ((W.setTop g).pushFrame (.throwNew cls (some text) none)) target) ∧
      Stand p l e R s m₀ args below meth c S locs (cells + 3) (slots + ((stringBytes (stringToUtf16 text)).size + 4 + 6)) ∧ S.heap[q]? = some ce ∧ s.vm.findClass cls = some ce.cls ∧ ce.vm = .none := by
  have howns : e.platform.frameOwnsMonitors = true := by rw [X.admits.platform]
  have hfin : e.platform.finalization = false := by rw [X.admits.platform]
  have hpl : e.platform.magicAccessors = ({} : Platform).magicAccessors := by rw [X.admits.platform]
  have a : ∀ x, x ∈ Bundle.messageArmAtoms cls names → x.holds args s none s [] = true := fun x hx => h x hx
  obtain ⟨T, Z0, L, -, Y⟩ := ThrowableC.of_atoms (args := args) howns hfin hpl (fun x hx => h x (by simp [Bundle.messageArmAtoms, hx]))
  obtain ⟨Z, M, LZ, LM, hnZ⟩ := Init0T.ofS_atoms (args := args) hpl L Y (fun x hx => h x (by simp [Bundle.messageArmAtoms, hx]))
  obtain ⟨P1, Ps, hlen, L1, hL, hP1m, hlink1, hlink⟩ := Bundle.chainS (args := args) hpl hnZ names cls hcls hnames (fun x hx => h x (by simp [Bundle.messageArmAtoms, hx]))
  obtain ⟨Zs, LZs, hn4, hfitv, hfitc⟩ := StringT.of_atoms (args := args) (fun x hx => h x (by simp [Bundle.messageArmAtoms, hx]))
  have hfound : s.vm.findClass cls = some P1.m.cls := findClass_of_methodNamed hP1m
  obtain ⟨c1, kX, hc1, hk, hord, -, -, hn6⟩ := Cond.instantiable_spec (a (.instantiable cls 6) (by simp [Bundle.messageArmAtoms]))
  cases Option.some.inj (hc1.symm.trans hfound)
  have hinit := Cond.initialized_spec hfound hk (a (.initialized cls) (by simp [Bundle.messageArmAtoms]))
  have hctor : kX.findMethod "<init>" "(Ljava/lang/String;)V" = some P1.m.idx := findMethod_of_methodNamed hP1m hk
  have hsel0 : selectMethod e.platform s.vm P1.m.cls T.fill0 = .method T.fill0 := by
    obtain ⟨c2, r2, m2, q1, q2, q3, q4, -⟩ := Cond.selects_spec (a (.selects cls Bundle.tFill0 Bundle.tFill0) (by simp [Bundle.messageArmAtoms]))
    cases Option.some.inj (q1.symm.trans hfound)
    cases Option.some.inj (q2.symm.trans (State.methodFound?_of_named Y.fill0 (by decide)))
    cases Option.some.inj (q3.symm.trans Y.fill0)
    rw [Launch.admits_selectMethod X.admits]; exact q4
  have hselF : selectMethod e.platform s.vm P1.m.cls T.fill = .method T.fill := by
    obtain ⟨c2, r2, m2, q1, q2, q3, q4, -⟩ := Cond.selects_spec (a (.selects cls Bundle.tFill Bundle.tFill) (by simp [Bundle.messageArmAtoms]))
    cases Option.some.inj (q1.symm.trans hfound)
    cases Option.some.inj (q2.symm.trans (State.methodFound?_of_named Y.fill (by decide)))
    cases Option.some.inj (q3.symm.trans Y.fill)
    rw [Launch.admits_selectMethod X.admits]; exact q4
  obtain ⟨cellS0, hcS0, hiss⟩ := Y.statics
  obtain ⟨u0, hu0⟩ := Cond.staticRefV Y.unassigned L.unassignedStatic L.statics hcS0 hiss (a (.isRef (.static Bundle.tN "UNASSIGNED_STACK" Bundle.steD)) (by simp [Bundle.messageArmAtoms]))
  obtain ⟨sen, hsen⟩ := Cond.staticRefV Y.sentinel L.sentinelStatic L.statics hcS0 hiss (a (.isRef (.static Bundle.tN "SUPPRESSED_SENTINEL" Bundle.listD)) (by simp [Bundle.messageArmAtoms]))
  obtain ⟨ci198, i198, fB, hk198, hg198, ha198, hsB, -, hnB, htB, hffB⟩ := Cond.ownField (t := .object "java/lang/Object") Y.found L.cls (by decide +kernel) (a (.fieldLink Bundle.tN 198 Bundle.tN "backtrace" "Ljava/lang/Object;") (by simp [Bundle.messageArmAtoms])) (a (.lays Bundle.tN Bundle.tN "backtrace" "Ljava/lang/Object;") (by simp [Bundle.messageArmAtoms])) e.platform hpl
  obtain ⟨cellS, hcS', heS, -, hkeep⟩ := X.same.2.2.2.2.2 T.aS cellS0 hcS0
  have hcellS : W.heap[T.aS]? = some cellS := hcS'
  have hout' : ∀ i, (⟨T.aS, i⟩ : Loc) ∉ locs := fun i hmem => by
    have := hlocs _ hmem cellS0 hcS0
    rw [hiss] at this; cases this
  have hknownS : cellS.vm ≠ .unknown := by
    rw [heS]; intro hu
    rw [show cellS0.vm = .unknown from hu] at hiss
    cases hiss
  have hvU : cellS.slots[T.fUnassigned.slot]? = some u0.v := by rw [hkeep _ (hout' _)]; exact hu0
  have hvSen : cellS.slots[T.fSentinel.slot]? = some sen.v := by rw [hkeep _ (hout' _)]; exact hsen
  obtain ⟨iM, hffM⟩ := Y.msg
  obtain ⟨tyC, dC, hdC, hdnC⟩ := Cond.laysAt hfound hk Y.cause (a (.lays cls Bundle.tN "cause" "Ljava/lang/Throwable;") (by simp [Bundle.messageArmAtoms]))
  obtain ⟨tyS, dS, hdS, hdnS⟩ := Cond.laysAt hfound hk Y.stack (a (.lays cls Bundle.tN "stackTrace" Bundle.steD) (by simp [Bundle.messageArmAtoms]))
  obtain ⟨tyP, dP, hdP, hdnP⟩ := Cond.laysAt hfound hk Y.supp (a (.lays cls Bundle.tN "suppressedExceptions" Bundle.listD) (by simp [Bundle.messageArmAtoms]))
  obtain ⟨tyM, dM, hdM, hdnM⟩ := Cond.laysAt hfound hk hffM (a (.lays cls Bundle.tN "detailMessage" "Ljava/lang/String;") (by simp [Bundle.messageArmAtoms]))
  obtain ⟨tyB, dB, hdB, hdnB⟩ := Cond.laysAt hfound hk hffB (a (.lays cls Bundle.tN "backtrace" "Ljava/lang/Object;") (by simp [Bundle.messageArmAtoms]))
  have bC := Cond.laysApart hdB hdC hdnB hdnC (by rw [hnB, Y.causeName]; decide)
  have bS := Cond.laysApart hdB hdS hdnB hdnS (by rw [hnB, Y.stackName]; decide)
  have bP := Cond.laysApart hdB hdP hdnB hdnP (by rw [hnB, Y.suppName]; decide)
  have hbk : ((preparedCellV T.toThrowableT (freshCell P1.m.cls kX) (W.heap.size + 2) u0 sen).withEntry W.cur).slots[fB.slot]? = some .null := by
    have := fresh_default (c := P1.m.cls) tyB
    rw [htB] at this
    simpa [preparedCellV, Cell.setSlot, Cell.withEntry, Array.getElem?_setIfInBounds, bC, bS, bP, bC.symm, bS.symm, bP.symm, defaultValue] using this
  have tkC := Takes.of_laid (v := .ref (W.heap.size + 2)) hk hord tyC (by rw [Y.causeType]; rfl)
  have tkS := Takes.of_laid (v := u0.v) hk hord tyS (by rw [Y.stackType]; exact fits_refV_array _ u0)
  have tkP := Takes.of_laid (v := sen.v) hk hord tyP (by rw [Y.suppType]; exact fits_refV_object _ sen)
  have tkM := Takes.of_laid (v := .ref (W.heap.size + 1)) hk hord tyM (by rw [Y.msgType]; rfl)
  have hskip : SkipFacts T e.platform s (fun u => u) u0 ((preparedCellV T.toThrowableT (freshCell P1.m.cls kX) (W.heap.size + 2) u0 sen).withEntry W.cur) := ⟨{ ci198 := ci198, i198 := i198, fBack := fB }, ⟨hk198, hg198, ha198, hsB⟩, hbk, fun _ _ => rfl⟩
  have h0 : At W g.method c below := by rw [hg]; exact X.here
  obtain ⟨hbeyond, hfreeW⟩ := X.vmMayThrow hsize (.throwNew cls (some text) none) (fun f hf => by cases hf) rfl hRlocals
  have hfr' : W.frames.length + Ps.length + 4 < (e.platform.stackLimits W.me).1 := by have := X.framesAbove hRframes; omega
  have hwd' : (stackUse (.java g :: W.frames.tail)).2 + 13 * Ps.length + 55 ≤ (e.platform.stackLimits W.me).2 := by have := X.stackAbove hsize (K := 13 * Ps.length + 55) (by omega); omega
  have hslots : W.slotsUsed + (stringBytes (stringToUtf16 text)).size + Zs.kS.instanceTypes.size + kX.instanceTypes.size ≤ e.platform.maxSlots := by
    have := X.slotsAbove hRslots
    rw [hn4, hn6]
    omega
  obtain ⟨vm', hW', st⟩ := Steps.vmThrowsMessageColdByV p (s₀ := s) (S := W) (g := g) h0 hexec T L Z LZ M LM X.warmed (t := W.cur) rfl Zs LZs P1 L1 Ps hL hlink1 hlink hsoe hoom hfound hk hinit hord hctor
    (Launch.admits_hotImplicitExceptions X.admits) hbeyond hfreeW htext hlimit hheap (X.cellsAbove hRcells) hslots (hfitv _) (hfitc _)
    (Nn := fun u => u) heapOnly_id (fun _ _ => rfl) (fun _ => rfl) (fun u x y => setCell_twice _ _ _ _) (fun _ => Nat.le_refl _) (cN := ((preparedCellV T.toThrowableT (freshCell P1.m.cls kX) (W.heap.size + 2) u0 sen).withEntry W.cur))
    hsel0 hcellS hknownS hvU tkS (fun _ hu => hu) (fun _ hu => hu) rfl rfl rfl (by simp [preparedCellV, Cell.setSlot, Cell.withEntry]) hskip (fun _ _ hA hW _ hroom _ hrest => L.nativeOff p htr hA hW hroom hrest) hselF hvSen tkC tkP tkM Y.objLocals rfl hfr' hwd'
  rw [plainBareV_eq T.toThrowableT (W.heap.size + 2) u0 sen (.ref (W.heap.size + 1)) W.cur rfl rfl] at st
  obtain ⟨-, -, w3, w4, -, -, -⟩ := withThrown_facts e.platform W Zs text P1.m.cls kX
  have X3 := ((X.pushed (bytesOf Zs.cB (stringToUtf16 text))).pushed (stringAt Zs.cS Zs.kS Zs.fv Zs.fc (stringToUtf16 text) W.heap.size)).pushed (freshCell P1.m.cls kX)
  rw [← withString_eq] at X3
  have X4 := X3.noted hW'
  have ha : (W.heap.size + 2) < ((withThrown W Zs text P1.m.cls kX).setVm vm').heap.size := by show _ < (withThrown W Zs text P1.m.cls kX).heap.size; rw [w3]; omega
  have hcell : ((withThrown W Zs text P1.m.cls kX).setVm vm').heap[(W.heap.size + 2)]? = some (freshCell P1.m.cls kX) := w4
  have X5 := ((((X4.stored hcell T.fCause.slot (.ref (W.heap.size + 2))).storedAgain ha T.fStack.slot u0.v).storedAgain ha T.fSupp.slot sen.v).storedAgain ha T.fStack.slot u0.v).storedAgain ha T.fMsg.slot (.ref (W.heap.size + 1))
  obtain ⟨g₁, hfrM⟩ := X5.frames_eq
  have hU : ((((withThrown W Zs text P1.m.cls kX).setVm vm').setCell (W.heap.size + 2) (plainBareV T.toThrowableT (freshCell P1.m.cls kX) (W.heap.size + 2) u0 sen (.ref (W.heap.size + 1)))).setTop g).pushFrame (.throwing (W.heap.size + 2)) = (((withThrown W Zs text P1.m.cls kX).setVm vm').setCell (W.heap.size + 2) (plainBareV T.toThrowableT (freshCell P1.m.cls kX) (W.heap.size + 2) u0 sen (.ref (W.heap.size + 1)))).setFrames (.throwing (W.heap.size + 2) :: .java g :: below) := by
    rw [State.pushFrame, State.frames_setTop _ hfrM, State.setTop_of_frames _ hfrM, State.setFrames_setFrames]
  have b1 : (bytesOf Zs.cB (stringToUtf16 text)).slots.size = (stringBytes (stringToUtf16 text)).size := by
    rw [(Cell.writeAll_facts _ _).2.2]; simp [bytes0]
  have b2 : (stringAt Zs.cS Zs.kS Zs.fv Zs.fc (stringToUtf16 text) W.heap.size).slots.size = 4 := by simp [string0, Cell.setSlot, hn4]
  have b3 : (freshCell P1.m.cls kX).slots.size = 6 := by simp [hn6]
  rw [b1, b2, b3] at X5
  have e9 : slots + (stringBytes (stringToUtf16 text)).size + 4 + 6 = slots + ((stringBytes (stringToUtf16 text)).size + 4 + 6) := by omega
  rw [e9] at X5
  simp only [List.append_assoc, List.cons_append, List.nil_append] at X5
  refine ⟨((withThrown W Zs text P1.m.cls kX).setVm vm').setCell (W.heap.size + 2) (plainBareV T.toThrowableT (freshCell P1.m.cls kX) (W.heap.size + 2) u0 sen (.ref (W.heap.size + 1))), W.heap.size + 2, _, fun target ht => st _ (by rw [X.tail, ← hU]; exact ht),
    X5.forget (fun y hy => ?_), heapAt_setCell_self _ ha, hfound, rfl⟩
  simp only [List.mem_cons, List.not_mem_nil, or_false] at hy
  have hge : s.heap.size ≤ W.heap.size := X.same.2.1
  rcases hy with rfl | rfl | rfl | rfl | rfl <;> exact Nat.le_trans hge (Nat.le_add_right _ 2)
set_option maxHeartbeats 1000000 in
/-- the machine throws NullPointerException, no traces kept: from its note over the frame g to 'throwing' over the same frame (follows the proof of Stand.vmThrowsNpe, Shelf42/KT2.lean; throwsNpeColdBareVAt, Shelf42/NT91.lean, called) -/
theorem vx_npeAt {p : Program} {l : Launch} {e : Env} {R : Room} {s : State} {m₀ : MethodId} {args : Array Value} {below : List Frame} {meth : Method} {c : Code} {W : State} {locs : List Loc} {cells slots : Nat}
    (X : Stand p l e R s m₀ args below meth c W locs cells slots) (hexec : p.tables.exec = Jvm.exec) (htr : e.platform.stackTraces = false) {n : Nat}
    (h : ∀ a ∈ Bundle.npeArmAtoms n, a.before args s = true)
    (hlocs : ∀ x ∈ locs, ∀ cell, s.heap[x.base]? = some cell → cell.vm.isStatics = false)
    {g : JFrame} (hg : g.method = m₀) (hsize : g.locals.size = c.maxLocals)
    (hRframes : 7 < R.frames) (hRlocals : 2 * g.monitorRoom + (g.stack.map fun v => v.category).sum + 10240 ≤ R.locals)
    (hRcells : cells + 1 ≤ R.cells) (hRslots : slots + n ≤ R.slots) (hlocks : meth.locks = false) :
    ∃ (S : State) (q : Addr) (ce : Cell), (∀ target, Steps p.tables e below ((S.setTop g).pushFrame (.throwing q)) target → Steps p.tables e below ((W.setTop g).pushFrame (.throwNew "java/lang/NullPointerException" none none)) target) ∧
      Stand p l e R s m₀ args below meth c S locs (cells + 1) (slots + n) ∧ S.heap[q]? = some ce ∧ s.vm.findClass "java/lang/NullPointerException" = some ce.cls ∧ ce.vm = .none := by
  have howns : e.platform.frameOwnsMonitors = true := by rw [X.admits.platform]
  have hfin : e.platform.finalization = false := by rw [X.admits.platform]
  have hpl : e.platform.magicAccessors = ({} : Platform).magicAccessors := by rw [X.admits.platform]
  have hpl2 : e.platform.arrayCloneIsPublic = true := by rw [X.admits.platform]
  have a' : ∀ x, x ∈ Bundle.npeArmAtoms n → x.holds args s none s [] = true := fun x hx => h x hx
  obtain ⟨T, Z, L, LZ, Y⟩ := ThrowableC.of_atoms (args := args) howns hfin hpl (fun x hx => h x (by simp [Bundle.npeArmAtoms, hx]))
  obtain ⟨N, LN, hcN, hnNF, hordN, hffS⟩ := NpeC.of_atoms (args := args) hpl hpl2 L Y (fun x hx => h x (by simp [Bundle.npeArmAtoms, hx]))
  obtain ⟨P1, L1, hP1m, hP1s⟩ := PassC.of_atoms (args := args) (s := s) hpl (X := Bundle.nN) (Y := Bundle.rN) (by decide) (by decide) LibCode.NullPointerException.Init0.at_0 LibCode.NullPointerException.Init0.at_1 LibCode.NullPointerException.Init0.at_4 (fun x hx => h x (by simp [Bundle.npeArmAtoms, hx]))
  obtain ⟨PR, LR, hPRm, hPRs⟩ := PassC.of_atoms (args := args) (s := s) hpl (X := Bundle.rN) (Y := Bundle.eN) (by decide) (by decide) LibCode.RuntimeException.Init0.at_0 LibCode.RuntimeException.Init0.at_1 LibCode.RuntimeException.Init0.at_4 (fun x hx => h x (by simp [Bundle.npeArmAtoms, hx]))
  obtain ⟨PE, LEx, hPEm, hPEs⟩ := PassC.of_atoms (args := args) (s := s) hpl (X := Bundle.eN) (Y := Bundle.tN) (by decide) (by decide) LibCode.Exception.Init0.at_0 LibCode.Exception.Init0.at_1 LibCode.Exception.Init0.at_4 (fun x hx => h x (by simp [Bundle.npeArmAtoms, hx]))
  have hfound : s.vm.findClass Bundle.nN = some P1.m.cls := findClass_of_methodNamed hP1m
  have ecls : N.cN = P1.m.cls := Option.some.inj (hcN.symm.trans hfound)
  have hk : s.vm.classes[P1.m.cls]? = some N.kN := by rw [← ecls]; exact LN.cls
  have hinit := Cond.initialized_spec hfound hk (a' (.initialized Bundle.nN) (by simp [Bundle.npeArmAtoms]))
  have hctor : N.kN.findMethod "<init>" "()V" = some P1.m.idx := findMethod_of_methodNamed hP1m hk
  obtain ⟨c1, k1, hc1, hk1, -, -, -, hn⟩ := Cond.instantiable_spec (a' (.instantiable Bundle.nN n) (by simp [Bundle.npeArmAtoms]))
  cases Option.some.inj (hc1.symm.trans hfound)
  cases Option.some.inj (hk1.symm.trans hk)
  have hfsz : (freshCell P1.m.cls N.kN).slots.size = n := by simp [hn]
  have hlink1 : P1.sup = PR.m := Option.some.inj (hP1s.symm.trans hPRm)
  have hlinkR : PR.sup = PE.m := Option.some.inj (hPRs.symm.trans hPEm)
  have hlinkE : PE.sup = Z.m T.toThrowableT := Option.some.inj (hPEs.symm.trans Y.init0)
  have hLs : ∀ P, P ∈ [PR, PE] → P.Links0 e.platform s := fun P hP => by
    simp only [List.mem_cons, List.not_mem_nil, or_false] at hP
    rcases hP with rfl | rfl
    · exact LR
    · exact LEx
  have hsel0 : selectMethod e.platform s.vm P1.m.cls T.fill0 = .method T.fill0 := by
    obtain ⟨c2, r2, m2, q1, q2, q3, q4, -⟩ := Cond.selects_spec (a' (.selects Bundle.nN Bundle.tFill0 Bundle.tFill0) (by simp [Bundle.npeArmAtoms]))
    cases Option.some.inj (q1.symm.trans hfound)
    cases Option.some.inj (q2.symm.trans (State.methodFound?_of_named Y.fill0 (by decide)))
    cases Option.some.inj (q3.symm.trans Y.fill0)
    rw [Launch.admits_selectMethod X.admits]; exact q4
  have hselF : selectMethod e.platform s.vm P1.m.cls T.fill = .method N.fill := by
    obtain ⟨c2, r2, m2, q1, q2, q3, q4, -⟩ := Cond.selects_spec (a' (.selects Bundle.nN Bundle.tFill Bundle.nFill) (by simp [Bundle.npeArmAtoms]))
    cases Option.some.inj (q1.symm.trans hfound)
    cases Option.some.inj (q2.symm.trans (State.methodFound?_of_named Y.fill (by decide)))
    cases Option.some.inj (q3.symm.trans hnNF)
    rw [Launch.admits_selectMethod X.admits]; exact q4
  obtain ⟨cellS0, hcS0, hiss⟩ := Y.statics
  obtain ⟨u0, hu0⟩ := Cond.staticRefV Y.unassigned L.unassignedStatic L.statics hcS0 hiss (a' (.isRef (.static Bundle.tN "UNASSIGNED_STACK" Bundle.steD)) (by simp [Bundle.npeArmAtoms]))
  obtain ⟨sen, hsen⟩ := Cond.staticRefV Y.sentinel L.sentinelStatic L.statics hcS0 hiss (a' (.isRef (.static Bundle.tN "SUPPRESSED_SENTINEL" Bundle.listD)) (by simp [Bundle.npeArmAtoms]))
  obtain ⟨ci198, i198, fB, hk198, hg198, ha198, hsB, -, hnB, htB, hffB⟩ := Cond.ownField (t := .object "java/lang/Object") Y.found L.cls (by decide +kernel) (a' (.fieldLink Bundle.tN 198 Bundle.tN "backtrace" Bundle.objD) (by simp [Bundle.npeArmAtoms])) (a' (.lays Bundle.tN Bundle.tN "backtrace" Bundle.objD) (by simp [Bundle.npeArmAtoms])) e.platform hpl
  obtain ⟨cellS, hcS', heS, -, hkeep⟩ := X.same.2.2.2.2.2 T.aS cellS0 hcS0
  have hcellS : W.heap[T.aS]? = some cellS := hcS'
  have hout' : ∀ i, (⟨T.aS, i⟩ : Loc) ∉ locs := fun i hmem => by
    have := hlocs _ hmem cellS0 hcS0
    rw [hiss] at this; cases this
  have hknownS : cellS.vm ≠ .unknown := by
    rw [heS]; intro hu
    rw [show cellS0.vm = .unknown from hu] at hiss
    cases hiss
  have hvU : cellS.slots[T.fUnassigned.slot]? = some u0.v := by rw [hkeep _ (hout' _)]; exact hu0
  have hvSen : cellS.slots[T.fSentinel.slot]? = some sen.v := by rw [hkeep _ (hout' _)]; exact hsen
  obtain ⟨tyC, dC, hdC, hdnC⟩ := Cond.laysAt hfound hk Y.cause (a' (.lays Bundle.nN Bundle.tN "cause" "Ljava/lang/Throwable;") (by simp [Bundle.npeArmAtoms]))
  obtain ⟨tyS, dS, hdS, hdnS⟩ := Cond.laysAt hfound hk Y.stack (a' (.lays Bundle.nN Bundle.tN "stackTrace" Bundle.steD) (by simp [Bundle.npeArmAtoms]))
  obtain ⟨tyP, dP, hdP, hdnP⟩ := Cond.laysAt hfound hk Y.supp (a' (.lays Bundle.nN Bundle.tN "suppressedExceptions" Bundle.listD) (by simp [Bundle.npeArmAtoms]))
  obtain ⟨tyX, dX, hdX, hdnX⟩ := Cond.laysAt hfound hk hffS (a' (.lays Bundle.nN Bundle.nN "extendedMessageState" "I") (by simp [Bundle.npeArmAtoms, Bundle.npeAtoms]))
  obtain ⟨hnX, htX⟩ := State.fieldFound?_type hffS (t := .int) (by decide +kernel)
  have xC := Cond.laysApart hdC hdX hdnC hdnX (by rw [hnX, Y.causeName]; decide)
  have xS := Cond.laysApart hdS hdX hdnS hdnX (by rw [hnX, Y.stackName]; decide)
  have xP := Cond.laysApart hdP hdX hdnP hdnX (by rw [hnX, Y.suppName]; decide)
  have hv0 : (freshCell P1.m.cls N.kN).slots[N.fState.slot]? = some (.int 0) := by
    have := fresh_default (c := P1.m.cls) tyX
    rw [htX] at this; exact this
  obtain ⟨tyB, dB, hdB, hdnB⟩ := Cond.laysAt hfound hk hffB (a' (.lays Bundle.nN Bundle.tN "backtrace" Bundle.objD) (by simp [Bundle.npeArmAtoms]))
  have bC := Cond.laysApart hdB hdC hdnB hdnC (by rw [hnB, Y.causeName]; decide)
  have bS := Cond.laysApart hdB hdS hdnB hdnS (by rw [hnB, Y.stackName]; decide)
  have bP := Cond.laysApart hdB hdP hdnB hdnP (by rw [hnB, Y.suppName]; decide)
  have bX := Cond.laysApart hdB hdX hdnB hdnX (by rw [hnB, hnX]; decide)
  have hbk : ((npeCell N.toNpeT (preparedCellV T.toThrowableT (freshCell P1.m.cls N.kN) W.heap.size u0 sen) W.cur).withEntry W.cur).slots[fB.slot]? = some .null := by
    have := fresh_default (c := P1.m.cls) tyB
    rw [htB] at this
    simpa [npeCell, preparedCellV, Cell.setSlot, Cell.withEntry, Array.getElem?_setIfInBounds, bC, bS, bP, bX, bC.symm, bS.symm, bP.symm, bX.symm, defaultValue] using this
  have tkC := Takes.of_laid (v := .ref W.heap.size) hk hordN tyC (by rw [Y.causeType]; rfl)
  have tkS := Takes.of_laid (v := u0.v) hk hordN tyS (by rw [Y.stackType]; exact fits_refV_array _ u0)
  have tkP := Takes.of_laid (v := sen.v) hk hordN tyP (by rw [Y.suppType]; exact fits_refV_object _ sen)
  have tkX := Takes.of_laid (v := .int 1) hk hordN tyX (by rw [htX]; rfl)
  have hskip : SkipFacts T e.platform s (fun u => u) u0 ((npeCell N.toNpeT (preparedCellV T.toThrowableT (freshCell P1.m.cls N.kN) W.heap.size u0 sen) W.cur).withEntry W.cur) := ⟨{ ci198 := ci198, i198 := i198, fBack := fB }, ⟨hk198, hg198, ha198, hsB⟩, hbk, fun _ _ => rfl⟩
  obtain ⟨vm', X3, st, -⟩ := X.throwsNpeColdBareVAt hexec hg hsize T L Z LZ N LN P1 L1 [PR, PE] hLs hlink1 ⟨hlinkR, hlinkE, trivial⟩ hfound hk hinit hordN hctor hsel0 hselF hcellS hknownS hvU hvSen
    hv0 xC xS xP tkC tkS tkP tkX Y.objLocals hskip (fun _ _ hA hW _ hroom _ hrest => L.nativeOff p htr hA hW hroom hrest) (by simpa using hRframes) hRlocals (by simp) hRcells (by rw [hn]; exact hRslots)
  have hlt : W.heap.size < ((W.pushCell (freshCell P1.m.cls N.kN)).setVm vm').heap.size := by
    show W.heap.size < (W.pushCell (freshCell P1.m.cls N.kN)).heap.size
    rw [State.heap_size_pushCell]; omega
  rw [hfsz] at X3
  obtain ⟨g₁, hfrM⟩ := X3.frames_eq
  have hU : ((((W.pushCell (freshCell P1.m.cls N.kN)).setVm vm').setCell W.heap.size (npeBareV T.toThrowableT N.toNpeT (freshCell P1.m.cls N.kN) W.heap.size u0 sen)).setTop g).pushFrame (.throwing W.heap.size) = (((W.pushCell (freshCell P1.m.cls N.kN)).setVm vm').setCell W.heap.size (npeBareV T.toThrowableT N.toNpeT (freshCell P1.m.cls N.kN) W.heap.size u0 sen)).setFrames (.throwing W.heap.size :: .java g :: below) := by
    rw [State.pushFrame, State.frames_setTop _ hfrM, State.setTop_of_frames _ hfrM, State.setFrames_setFrames]
  refine ⟨_, W.heap.size, _, fun target ht => st.trans (by rw [← hU]; exact ht), X3.forget (fun y hy => ?_), heapAt_setCell_self _ hlt, hfound, rfl⟩
  simp only [List.mem_cons, List.not_mem_nil, or_false] at hy
  have hge : s.heap.size ≤ W.heap.size := X.same.2.1
  rcases hy with rfl | rfl | rfl | rfl | rfl <;> exact hge
/-- the words of a machine's NullPointerException, but the four that speak of the heap -/
def vx_atN (n : Nat) : List Cond := (Bundle.npeArmAtoms n).filter vx_no
/-- the words of a machine's throw with a message, but the four that speak of the heap -/
def vx_atM (X : String) (names : List String) : List Cond := (Bundle.messageArmAtoms X names).filter vx_no
section
variable {p : Program} {l : Launch} {e : Env} {R : Room} {s : State} {m : MethodId} {args : Array Value} {below : List Frame} {meth : Method} {c : Code} {H : Heap} {locs : List Loc} {cells slots : Nat}
/-- a frame seen from a rebased start, seen from the first start again -/
theorem vx_back9 {T S : State} {R' : Room} {k n : Nat} (X : Stand p l e R s m args below meth c T locs cells slots) (Y : Stand p l e R' ((T.setVm s.vm).setFrames (.invoking m args :: below)) m args below meth c T [] 0 0) (Z : Stand p l e R' ((T.setVm s.vm).setFrames (.invoking m args :: below)) m args below meth c S [] k n) :
    Stand p l e R s m args below meth c S locs (cells + k) (slots + n) := by
  have hW0 : s.WarmedH ((T.setVm s.vm).setFrames (.invoking m args :: below)).vm := State.WarmedH.refl s
  refine { admits := X.admits, cas := X.cas, clock := X.clock, frames := X.frames, room := X.room, hears := X.hears, method := X.method, code := X.code, here := Z.here, tail := Z.tail, warmed := State.WarmedH.trans hW0 Z.warmed, limits := Z.limits.trans (Y.limits.symm.trans X.limits), bytes := Z.bytes.trans (Y.bytes.symm.trans X.bytes), same := ?_ }
  obtain ⟨e1, e2⟩ := Z.same
  rw [State.setFrames_setFrames] at e1
  have h2 : (T.setVm s.vm).sameButNew (S.setVm s.vm) [] k n := ⟨e1, e2⟩
  have h3 := X.same.trans h2
  rw [List.append_nil] at h3
  exact h3
/-- from the machine's note that E is thrown here with this text -/
def vx_Note (p : Program) (l : Launch) (e : Env) (R : Room) (s : State) (m : MethodId) (args : Array Value) (below : List Frame) (meth : Method) (c : Code) (H : Heap) (locs : List Loc) (cells slots : Nat) (Q : State → Prop) (g : JFrame) (E text : String) : Prop :=
  ∀ T : State, T.heap = H → Stand p l e R s m args below meth c T locs cells slots → ∃ t, Steps p.tables e below ((T.setTop g).pushFrame (.throwNew E (some text) none)) t ∧ Q t
theorem vx_vm {pc : Nat} {ls : Array Slot} {rest : List Value} {Q : State → Prop} (hexec : p.tables.exec = Jvm.exec) (hl : l.stackTraces = false) {cls text : String} {names : List String} {nb : Nat} {A : Nat → Prop}
    (hcls : Bundle.fit cls = true) (hnames : ∀ n ∈ names, Bundle.fit n = true) (hsoe : (cls == "java/lang/StackOverflowError") = false) (hoom : (cls == "java/lang/OutOfMemoryError") = false)
    (hat : ∀ w ∈ vx_atM cls names, w.before args s = true) (hgood : ∀ w ∈ vx_atM cls names, vx_ot w = true)
    (hU : vx_Zq Bundle.tN "UNASSIGNED_STACK" Bundle.steD A s s.heap) (hN : vx_Zq Bundle.tN "SUPPRESSED_SENTINEL" Bundle.listD A s s.heap) (hS : va_S A s.heap H locs) (hsize : ls.size = c.maxLocals)
    (htext : (text == notModelled) = false) (hnb : (stringBytes (stringToUtf16 text)).size ≤ nb) (hnb1 : nb ≤ 1000)
    (hRframes : names.length + 4 < R.frames) (hRlocals : (rest.map fun v => v.category).sum + 10240 ≤ R.locals) (hshort : 13 * names.length + 55 ≤ 10240) (hRcells : cells + 3 ≤ R.cells) (hRslots : slots + (nb + 10) ≤ R.slots) (hlocks : meth.locks = false)
    (k : ∀ (H1 : Heap) (q9 : Addr) (ce : Cell), H.size ≤ H1.size → (∀ q : Nat, q < H.size → H1[q]? = H[q]?) → va_S A s.heap H1 locs → H1[q9]? = some ce → ce.vm = .none → s.vm.findClass cls = some ce.cls → vx_W p l e R s m args below meth c H1 locs (cells + 3) (slots + (nb + 10)) Q (F0 m pc ls rest) q9) :
    vx_Note p l e R s m args below meth c H locs cells slots Q (F0 m pc ls rest) cls text := by
  intro T hT X
  have htr : e.platform.stackTraces = false := (show e.platform.stackTraces = l.stackTraces by rw [X.admits.platform]).trans hl
  have Y := vx_rebase X (R' := { frames := R.frames, locals := R.locals, cells := 3, slots := nb + 10 }) (Nat.le_refl _) (Nat.le_refl _) hRcells hRslots
  have hhp : ((T.setVm s.vm).setFrames (.invoking m args :: below)).heap = H := hT
  have hW0 : s.WarmedH ((T.setVm s.vm).setFrames (.invoking m args :: below)).vm := State.WarmedH.refl s
  have hat' : ∀ w ∈ vx_atM cls names, w.before args ((T.setVm s.vm).setFrames (.invoking m args :: below)) = true := fun w hw => vx_ot_at hW0 rfl (hgood w hw) (hat w hw)
  have hU' : vx_Zq Bundle.tN "UNASSIGNED_STACK" Bundle.steD A ((T.setVm s.vm).setFrames (.invoking m args :: below)) ((T.setVm s.vm).setFrames (.invoking m args :: below)).heap := by rw [hhp]; exact vx_Zq.moved hW0.alike (hU.kept hS.2.1)
  have hN' : vx_Zq Bundle.tN "SUPPRESSED_SENTINEL" Bundle.listD A ((T.setVm s.vm).setFrames (.invoking m args :: below)) ((T.setVm s.vm).setFrames (.invoking m args :: below)).heap := by rw [hhp]; exact vx_Zq.moved hW0.alike (hN.kept hS.2.1)
  obtain ⟨S, q, ce, st, Z, hce, hcl', hv⟩ := vx_vmAt Y hexec htr (cls := cls) (names := names) (text := text) hcls hnames hsoe hoom (vx_own hat' (vx_isRefq hU'.1) (vx_isRefq hN'.1) hU'.2.word hN'.2.word) (fun x hx => nomatch hx) htext
    (by rw [Launch.admits_arrayLengthLimit X.admits]; omega) (by rw [Launch.admits_maxHeapBytes X.admits]; simp only [componentBytes]; omega)
    (g := F0 m pc ls rest) rfl hsize hRframes (by show 2 * 0 + (rest.map fun v => v.category).sum + 10240 ≤ R.locals; omega) hshort (by show 0 + 3 ≤ 3; omega) (by show 0 + (_ + 4 + 6) ≤ nb + 10; omega) hlocks
  obtain ⟨f1, f2⟩ := vx_frame Z.same
  have f1' : H.size ≤ S.heap.size := by rw [← hT]; exact f1
  have f2' : ∀ q : Nat, q < H.size → S.heap[q]? = H[q]? := fun q hq => by
    rw [← hT]
    exact f2 q (by rw [← hT] at hq; exact hq) (fun z hz => nomatch hz)
  have X5 := vx_back9 X Y Z
  have X6 : Stand p l e R s m args below meth c S locs (cells + 3) (slots + (nb + 10)) := { X5 with same := X5.same.mono (by omega) (by omega) }
  obtain ⟨t, a1, b1⟩ := k S.heap q ce f1' f2' ⟨Nat.le_trans hS.1 f1', fun q h1 h2 => (f2' q (Nat.lt_of_lt_of_le h1 hS.1)).trans (hS.2.1 q h1 h2), hS.2.2⟩ hce hv hcl' S rfl X6
  exact ⟨t, st t a1, b1⟩
/-- from the machine's note that NullPointerException is thrown here -/
def vx_NoteN (p : Program) (l : Launch) (e : Env) (R : Room) (s : State) (m : MethodId) (args : Array Value) (below : List Frame) (meth : Method) (c : Code) (H : Heap) (locs : List Loc) (cells slots : Nat) (Q : State → Prop) (g : JFrame) : Prop :=
  ∀ T : State, T.heap = H → Stand p l e R s m args below meth c T locs cells slots → ∃ t, Steps p.tables e below ((T.setTop g).pushFrame (.throwNew "java/lang/NullPointerException" none none)) t ∧ Q t
theorem vx_npe {pc : Nat} {ls : Array Slot} {rest : List Value} {Q : State → Prop} (hexec : p.tables.exec = Jvm.exec) (hl : l.stackTraces = false) {nb : Nat} {A : Nat → Prop}
    (hat : ∀ w ∈ vx_atN nb, w.before args s = true) (hgood : ∀ w ∈ vx_atN nb, vx_ot w = true)
    (hU : vx_Zq Bundle.tN "UNASSIGNED_STACK" Bundle.steD A s s.heap) (hN : vx_Zq Bundle.tN "SUPPRESSED_SENTINEL" Bundle.listD A s s.heap) (hS : va_S A s.heap H locs) (hsize : ls.size = c.maxLocals)
    (hRframes : 7 < R.frames) (hRlocals : (rest.map fun v => v.category).sum + 10240 ≤ R.locals) (hRcells : cells + 1 ≤ R.cells) (hRslots : slots + nb ≤ R.slots) (hlocks : meth.locks = false)
    (k : ∀ (H1 : Heap) (q9 : Addr) (ce : Cell), H.size ≤ H1.size → (∀ q : Nat, q < H.size → H1[q]? = H[q]?) → va_S A s.heap H1 locs → H1[q9]? = some ce → ce.vm = .none → s.vm.findClass "java/lang/NullPointerException" = some ce.cls → vx_W p l e R s m args below meth c H1 locs (cells + 1) (slots + nb) Q (F0 m pc ls rest) q9) :
    vx_NoteN p l e R s m args below meth c H locs cells slots Q (F0 m pc ls rest) := by
  intro T hT X
  have htr : e.platform.stackTraces = false := (show e.platform.stackTraces = l.stackTraces by rw [X.admits.platform]).trans hl
  have Y := vx_rebase X (R' := { frames := R.frames, locals := R.locals, cells := 1, slots := nb }) (Nat.le_refl _) (Nat.le_refl _) hRcells hRslots
  have hhp : ((T.setVm s.vm).setFrames (.invoking m args :: below)).heap = H := hT
  have hW0 : s.WarmedH ((T.setVm s.vm).setFrames (.invoking m args :: below)).vm := State.WarmedH.refl s
  have hat' : ∀ w ∈ vx_atN nb, w.before args ((T.setVm s.vm).setFrames (.invoking m args :: below)) = true := fun w hw => vx_ot_at hW0 rfl (hgood w hw) (hat w hw)
  have hU' : vx_Zq Bundle.tN "UNASSIGNED_STACK" Bundle.steD A ((T.setVm s.vm).setFrames (.invoking m args :: below)) ((T.setVm s.vm).setFrames (.invoking m args :: below)).heap := by rw [hhp]; exact vx_Zq.moved hW0.alike (hU.kept hS.2.1)
  have hN' : vx_Zq Bundle.tN "SUPPRESSED_SENTINEL" Bundle.listD A ((T.setVm s.vm).setFrames (.invoking m args :: below)) ((T.setVm s.vm).setFrames (.invoking m args :: below)).heap := by rw [hhp]; exact vx_Zq.moved hW0.alike (hN.kept hS.2.1)
  obtain ⟨S, q, ce, st, Z, hce, hcl', hv⟩ := vx_npeAt Y hexec htr (n := nb) (vx_own hat' (vx_isRefq hU'.1) (vx_isRefq hN'.1) hU'.2.word hN'.2.word) (fun x hx => nomatch hx)
    (g := F0 m pc ls rest) rfl hsize hRframes (by show 2 * 0 + (rest.map fun v => v.category).sum + 10240 ≤ R.locals; omega) (by show 0 + 1 ≤ 1; omega) (by show 0 + nb ≤ nb; omega) hlocks
  obtain ⟨f1, f2⟩ := vx_frame Z.same
  have f1' : H.size ≤ S.heap.size := by rw [← hT]; exact f1
  have f2' : ∀ q : Nat, q < H.size → S.heap[q]? = H[q]? := fun q hq => by
    rw [← hT]
    exact f2 q (by rw [← hT] at hq; exact hq) (fun z hz => nomatch hz)
  have X5 := vx_back9 X Y Z
  have X6 : Stand p l e R s m args below meth c S locs (cells + 1) (slots + nb) := { X5 with same := X5.same.mono (by omega) (by omega) }
  obtain ⟨t, a1, b1⟩ := k S.heap q ce f1' f2' ⟨Nat.le_trans hS.1 f1', fun q h1 h2 => (f2' q (Nat.lt_of_lt_of_le h1 hS.1)).trans (hS.2.1 q h1 h2), hS.2.2⟩ hce hv hcl' S rfl X6
  exact ⟨t, st t a1, b1⟩
variable {Q : State → Prop} {cc : ByteArray} {pc : Nat} {ls : Array Slot} {rest : List Value}
theorem vx_idivZ (hexec : p.tables.exec = Jvm.exec) (hb : c.code = cc) {a b : Int32} (h0 : b = 0) (d : decode cc pc = .ok (.idiv, 1)) (k : vx_Note p l e R s m args below meth c H locs cells slots Q (F0 m pc ls rest) "java/lang/ArithmeticException" "/ by zero") :
    W p l e R s m args below meth c H locs cells slots Q (F0 m pc ls (.int b :: .int a :: rest)) := by
  intro T hT X
  obtain ⟨t, st, q⟩ := k T hT X
  exact ⟨t, X.idivZero hexec (g := F0 m pc ls (.int b :: .int a :: rest)) rfl (a := a) (rest := rest) (by rw [h0]) (by rw [hb]; exact d) t st, q⟩
theorem vx_iremZ (hexec : p.tables.exec = Jvm.exec) (hb : c.code = cc) {a b : Int32} (h0 : b = 0) (d : decode cc pc = .ok (.irem, 1)) (k : vx_Note p l e R s m args below meth c H locs cells slots Q (F0 m pc ls rest) "java/lang/ArithmeticException" "/ by zero") :
    W p l e R s m args below meth c H locs cells slots Q (F0 m pc ls (.int b :: .int a :: rest)) := by
  intro T hT X
  obtain ⟨t, st, q⟩ := k T hT X
  exact ⟨t, X.iremZero hexec (g := F0 m pc ls (.int b :: .int a :: rest)) rfl (a := a) (rest := rest) (by rw [h0]) (by rw [hb]; exact d) t st, q⟩
theorem vx_ldivZ (hexec : p.tables.exec = Jvm.exec) (hb : c.code = cc) {a b : Int64} (h0 : b = 0) (d : decode cc pc = .ok (.ldiv, 1)) (k : vx_Note p l e R s m args below meth c H locs cells slots Q (F0 m pc ls rest) "java/lang/ArithmeticException" "/ by zero") :
    W p l e R s m args below meth c H locs cells slots Q (F0 m pc ls (.long b :: .long a :: rest)) := by
  intro T hT X
  obtain ⟨t, st, q⟩ := k T hT X
  exact ⟨t, X.ldivZero hexec (g := F0 m pc ls (.long b :: .long a :: rest)) rfl (a := a) (rest := rest) (by rw [h0]) (by rw [hb]; exact d) t st, q⟩
theorem vx_lremZ (hexec : p.tables.exec = Jvm.exec) (hb : c.code = cc) {a b : Int64} (h0 : b = 0) (d : decode cc pc = .ok (.lrem, 1)) (k : vx_Note p l e R s m args below meth c H locs cells slots Q (F0 m pc ls rest) "java/lang/ArithmeticException" "/ by zero") :
    W p l e R s m args below meth c H locs cells slots Q (F0 m pc ls (.long b :: .long a :: rest)) := by
  intro T hT X
  obtain ⟨t, st, q⟩ := k T hT X
  exact ⟨t, X.lremZero hexec (g := F0 m pc ls (.long b :: .long a :: rest)) rfl (a := a) (rest := rest) (by rw [h0]) (by rw [hb]; exact d) t st, q⟩
theorem vx_ialdZ {D : va_G} {cl : List vw_C} {ws : va_W} {tys : List (ClassId × FieldType)} {a : Nat} (hexec : p.tables.exec = Jvm.exec) (hb : c.code = cc) (hK : va_K D cl tys s) (hP : va_P D cl ws H) (q0 t0 : Nat) {cA : ClassId} {n : Nat} {f : Nat → Int32} (ha : ws[q0]? = some (a, .inl (cA, n, .inl f))) (ht : tys[t0]? = some (cA, .int)) {i : Int32} (hout : ¬ vp_in i n) (hdg : decode cc pc = .ok (.iaload, 1))
    (k : ∀ tx : String, tx = (toString "Index " ++ toString i ++ toString " out of bounds for length " ++ toString n : String) → vx_Note p l e R s m args below meth c H locs cells slots Q (F0 m pc ls rest) "java/lang/ArrayIndexOutOfBoundsException" tx) : W p l e R s m args below meth c H locs cells slots Q (F0 m pc ls (.int i :: .ref a :: rest)) := by
  intro T hT X
  obtain ⟨t, st, q⟩ := k _ rfl T hT X
  refine ⟨t, ?_, q⟩
  have h1 := X.ialoadOut hexec (by rw [hT]; exact hP q0 _ ha) ((hK.2 t0 _ ht).1 n (fun j => .int (f j))) (j := i) (by show (i < 0 ∨ (arrV _ _ _).slots.size ≤ _); rw [arrV_size]; exact Classical.byContradiction hout) (g := F0 m pc ls (.int i :: .ref a :: rest)) rfl (rest := rest) rfl (by rw [hb]; exact hdg) t
  simp only [arrV_size] at h1
  exact h1 st
theorem vx_iastZ {D : va_G} {cl : List vw_C} {ws : va_W} {tys : List (ClassId × FieldType)} {a : Nat} (hexec : p.tables.exec = Jvm.exec) (hb : c.code = cc) (hK : va_K D cl tys s) (hP : va_P D cl ws H) (q0 t0 : Nat) {cA : ClassId} {n : Nat} {f : Nat → Int32} (ha : ws[q0]? = some (a, .inl (cA, n, .inl f))) (ht : tys[t0]? = some (cA, .int)) {i : Int32} {x : Int32} (hout : ¬ vp_in i n) (hdg : decode cc pc = .ok (.iastore, 1))
    (k : ∀ tx : String, tx = (toString "Index " ++ toString i ++ toString " out of bounds for length " ++ toString n : String) → vx_Note p l e R s m args below meth c H locs cells slots Q (F0 m pc ls rest) "java/lang/ArrayIndexOutOfBoundsException" tx) : W p l e R s m args below meth c H locs cells slots Q (F0 m pc ls (.int x :: .int i :: .ref a :: rest)) := by
  intro T hT X
  obtain ⟨t, st, q⟩ := k _ rfl T hT X
  refine ⟨t, ?_, q⟩
  have h1 := X.iastoreOut hexec (by rw [hT]; exact hP q0 _ ha) ((hK.2 t0 _ ht).1 n (fun j => .int (f j))) (j := i) (by show (i < 0 ∨ (arrV _ _ _).slots.size ≤ _); rw [arrV_size]; exact Classical.byContradiction hout) (g := F0 m pc ls (.int x :: .int i :: .ref a :: rest)) rfl (rest := rest) rfl (by rw [hb]; exact hdg) t
  simp only [arrV_size] at h1
  exact h1 st
theorem vx_baldZ {D : va_G} {cl : List vw_C} {ws : va_W} {tys : List (ClassId × FieldType)} {a : Nat} (hexec : p.tables.exec = Jvm.exec) (hb : c.code = cc) (hK : va_K D cl tys s) (hP : va_P D cl ws H) (q0 t0 : Nat) {cA : ClassId} {n : Nat} {f : Nat → Int32} (ha : ws[q0]? = some (a, .inl (cA, n, .inl f))) (ht : tys[t0]? = some (cA, .byte)) {i : Int32} (hout : ¬ vp_in i n) (hdg : decode cc pc = .ok (.baload, 1))
    (k : ∀ tx : String, tx = (toString "Index " ++ toString i ++ toString " out of bounds for length " ++ toString n : String) → vx_Note p l e R s m args below meth c H locs cells slots Q (F0 m pc ls rest) "java/lang/ArrayIndexOutOfBoundsException" tx) : W p l e R s m args below meth c H locs cells slots Q (F0 m pc ls (.int i :: .ref a :: rest)) := by
  intro T hT X
  obtain ⟨t, st, q⟩ := k _ rfl T hT X
  refine ⟨t, ?_, q⟩
  have h1 := X.baloadOut hexec (by rw [hT]; exact hP q0 _ ha) ((hK.2 t0 _ ht).1 n (fun j => .int (f j))) (j := i) (by show (i < 0 ∨ (arrV _ _ _).slots.size ≤ _); rw [arrV_size]; exact Classical.byContradiction hout) (g := F0 m pc ls (.int i :: .ref a :: rest)) rfl (rest := rest) rfl (by rw [hb]; exact hdg) t
  simp only [arrV_size] at h1
  exact h1 st
theorem vx_bastZ {D : va_G} {cl : List vw_C} {ws : va_W} {tys : List (ClassId × FieldType)} {a : Nat} (hexec : p.tables.exec = Jvm.exec) (hb : c.code = cc) (hK : va_K D cl tys s) (hP : va_P D cl ws H) (q0 t0 : Nat) {cA : ClassId} {n : Nat} {f : Nat → Int32} (ha : ws[q0]? = some (a, .inl (cA, n, .inl f))) (ht : tys[t0]? = some (cA, .byte)) {i : Int32} {x : Int32} (hout : ¬ vp_in i n) (hdg : decode cc pc = .ok (.bastore, 1))
    (k : ∀ tx : String, tx = (toString "Index " ++ toString i ++ toString " out of bounds for length " ++ toString n : String) → vx_Note p l e R s m args below meth c H locs cells slots Q (F0 m pc ls rest) "java/lang/ArrayIndexOutOfBoundsException" tx) : W p l e R s m args below meth c H locs cells slots Q (F0 m pc ls (.int x :: .int i :: .ref a :: rest)) := by
  intro T hT X
  obtain ⟨t, st, q⟩ := k _ rfl T hT X
  refine ⟨t, ?_, q⟩
  have h1 := X.bastoreOut hexec (by rw [hT]; exact hP q0 _ ha) ((hK.2 t0 _ ht).1 n (fun j => .int (f j))) (j := i) (by show (i < 0 ∨ (arrV _ _ _).slots.size ≤ _); rw [arrV_size]; exact Classical.byContradiction hout) (g := F0 m pc ls (.int x :: .int i :: .ref a :: rest)) rfl (rest := rest) rfl (by rw [hb]; exact hdg) t
  simp only [arrV_size] at h1
  exact h1 st
theorem vx_zaldZ {D : va_G} {cl : List vw_C} {ws : va_W} {tys : List (ClassId × FieldType)} {a : Nat} (hexec : p.tables.exec = Jvm.exec) (hb : c.code = cc) (hK : va_K D cl tys s) (hP : va_P D cl ws H) (q0 t0 : Nat) {cA : ClassId} {n : Nat} {f : Nat → Int32} (ha : ws[q0]? = some (a, .inl (cA, n, .inl f))) (ht : tys[t0]? = some (cA, .boolean)) {i : Int32} (hout : ¬ vp_in i n) (hdg : decode cc pc = .ok (.baload, 1))
    (k : ∀ tx : String, tx = (toString "Index " ++ toString i ++ toString " out of bounds for length " ++ toString n : String) → vx_Note p l e R s m args below meth c H locs cells slots Q (F0 m pc ls rest) "java/lang/ArrayIndexOutOfBoundsException" tx) : W p l e R s m args below meth c H locs cells slots Q (F0 m pc ls (.int i :: .ref a :: rest)) := by
  intro T hT X
  obtain ⟨t, st, q⟩ := k _ rfl T hT X
  refine ⟨t, ?_, q⟩
  have h1 := X.baloadOut hexec (by rw [hT]; exact hP q0 _ ha) ((hK.2 t0 _ ht).1 n (fun j => .int (f j))) (j := i) (by show (i < 0 ∨ (arrV _ _ _).slots.size ≤ _); rw [arrV_size]; exact Classical.byContradiction hout) (g := F0 m pc ls (.int i :: .ref a :: rest)) rfl (rest := rest) rfl (by rw [hb]; exact hdg) t
  simp only [arrV_size] at h1
  exact h1 st
theorem vx_zastZ {D : va_G} {cl : List vw_C} {ws : va_W} {tys : List (ClassId × FieldType)} {a : Nat} (hexec : p.tables.exec = Jvm.exec) (hb : c.code = cc) (hK : va_K D cl tys s) (hP : va_P D cl ws H) (q0 t0 : Nat) {cA : ClassId} {n : Nat} {f : Nat → Int32} (ha : ws[q0]? = some (a, .inl (cA, n, .inl f))) (ht : tys[t0]? = some (cA, .boolean)) {i : Int32} {x : Int32} (hout : ¬ vp_in i n) (hdg : decode cc pc = .ok (.bastore, 1))
    (k : ∀ tx : String, tx = (toString "Index " ++ toString i ++ toString " out of bounds for length " ++ toString n : String) → vx_Note p l e R s m args below meth c H locs cells slots Q (F0 m pc ls rest) "java/lang/ArrayIndexOutOfBoundsException" tx) : W p l e R s m args below meth c H locs cells slots Q (F0 m pc ls (.int x :: .int i :: .ref a :: rest)) := by
  intro T hT X
  obtain ⟨t, st, q⟩ := k _ rfl T hT X
  refine ⟨t, ?_, q⟩
  have h1 := X.bastoreOut hexec (by rw [hT]; exact hP q0 _ ha) ((hK.2 t0 _ ht).1 n (fun j => .int (f j))) (j := i) (by show (i < 0 ∨ (arrV _ _ _).slots.size ≤ _); rw [arrV_size]; exact Classical.byContradiction hout) (g := F0 m pc ls (.int x :: .int i :: .ref a :: rest)) rfl (rest := rest) rfl (by rw [hb]; exact hdg) t
  simp only [arrV_size] at h1
  exact h1 st
theorem vx_caldZ {D : va_G} {cl : List vw_C} {ws : va_W} {tys : List (ClassId × FieldType)} {a : Nat} (hexec : p.tables.exec = Jvm.exec) (hb : c.code = cc) (hK : va_K D cl tys s) (hP : va_P D cl ws H) (q0 t0 : Nat) {cA : ClassId} {n : Nat} {f : Nat → Int32} (ha : ws[q0]? = some (a, .inl (cA, n, .inl f))) (ht : tys[t0]? = some (cA, .char)) {i : Int32} (hout : ¬ vp_in i n) (hdg : decode cc pc = .ok (.caload, 1))
    (k : ∀ tx : String, tx = (toString "Index " ++ toString i ++ toString " out of bounds for length " ++ toString n : String) → vx_Note p l e R s m args below meth c H locs cells slots Q (F0 m pc ls rest) "java/lang/ArrayIndexOutOfBoundsException" tx) : W p l e R s m args below meth c H locs cells slots Q (F0 m pc ls (.int i :: .ref a :: rest)) := by
  intro T hT X
  obtain ⟨t, st, q⟩ := k _ rfl T hT X
  refine ⟨t, ?_, q⟩
  have h1 := X.caloadOut hexec (by rw [hT]; exact hP q0 _ ha) ((hK.2 t0 _ ht).1 n (fun j => .int (f j))) (j := i) (by show (i < 0 ∨ (arrV _ _ _).slots.size ≤ _); rw [arrV_size]; exact Classical.byContradiction hout) (g := F0 m pc ls (.int i :: .ref a :: rest)) rfl (rest := rest) rfl (by rw [hb]; exact hdg) t
  simp only [arrV_size] at h1
  exact h1 st
theorem vx_castZ {D : va_G} {cl : List vw_C} {ws : va_W} {tys : List (ClassId × FieldType)} {a : Nat} (hexec : p.tables.exec = Jvm.exec) (hb : c.code = cc) (hK : va_K D cl tys s) (hP : va_P D cl ws H) (q0 t0 : Nat) {cA : ClassId} {n : Nat} {f : Nat → Int32} (ha : ws[q0]? = some (a, .inl (cA, n, .inl f))) (ht : tys[t0]? = some (cA, .char)) {i : Int32} {x : Int32} (hout : ¬ vp_in i n) (hdg : decode cc pc = .ok (.castore, 1))
    (k : ∀ tx : String, tx = (toString "Index " ++ toString i ++ toString " out of bounds for length " ++ toString n : String) → vx_Note p l e R s m args below meth c H locs cells slots Q (F0 m pc ls rest) "java/lang/ArrayIndexOutOfBoundsException" tx) : W p l e R s m args below meth c H locs cells slots Q (F0 m pc ls (.int x :: .int i :: .ref a :: rest)) := by
  intro T hT X
  obtain ⟨t, st, q⟩ := k _ rfl T hT X
  refine ⟨t, ?_, q⟩
  have h1 := X.castoreOut hexec (by rw [hT]; exact hP q0 _ ha) ((hK.2 t0 _ ht).1 n (fun j => .int (f j))) (j := i) (by show (i < 0 ∨ (arrV _ _ _).slots.size ≤ _); rw [arrV_size]; exact Classical.byContradiction hout) (g := F0 m pc ls (.int x :: .int i :: .ref a :: rest)) rfl (rest := rest) rfl (by rw [hb]; exact hdg) t
  simp only [arrV_size] at h1
  exact h1 st
theorem vx_saldZ {D : va_G} {cl : List vw_C} {ws : va_W} {tys : List (ClassId × FieldType)} {a : Nat} (hexec : p.tables.exec = Jvm.exec) (hb : c.code = cc) (hK : va_K D cl tys s) (hP : va_P D cl ws H) (q0 t0 : Nat) {cA : ClassId} {n : Nat} {f : Nat → Int32} (ha : ws[q0]? = some (a, .inl (cA, n, .inl f))) (ht : tys[t0]? = some (cA, .short)) {i : Int32} (hout : ¬ vp_in i n) (hdg : decode cc pc = .ok (.saload, 1))
    (k : ∀ tx : String, tx = (toString "Index " ++ toString i ++ toString " out of bounds for length " ++ toString n : String) → vx_Note p l e R s m args below meth c H locs cells slots Q (F0 m pc ls rest) "java/lang/ArrayIndexOutOfBoundsException" tx) : W p l e R s m args below meth c H locs cells slots Q (F0 m pc ls (.int i :: .ref a :: rest)) := by
  intro T hT X
  obtain ⟨t, st, q⟩ := k _ rfl T hT X
  refine ⟨t, ?_, q⟩
  have h1 := X.saloadOut hexec (by rw [hT]; exact hP q0 _ ha) ((hK.2 t0 _ ht).1 n (fun j => .int (f j))) (j := i) (by show (i < 0 ∨ (arrV _ _ _).slots.size ≤ _); rw [arrV_size]; exact Classical.byContradiction hout) (g := F0 m pc ls (.int i :: .ref a :: rest)) rfl (rest := rest) rfl (by rw [hb]; exact hdg) t
  simp only [arrV_size] at h1
  exact h1 st
theorem vx_sastZ {D : va_G} {cl : List vw_C} {ws : va_W} {tys : List (ClassId × FieldType)} {a : Nat} (hexec : p.tables.exec = Jvm.exec) (hb : c.code = cc) (hK : va_K D cl tys s) (hP : va_P D cl ws H) (q0 t0 : Nat) {cA : ClassId} {n : Nat} {f : Nat → Int32} (ha : ws[q0]? = some (a, .inl (cA, n, .inl f))) (ht : tys[t0]? = some (cA, .short)) {i : Int32} {x : Int32} (hout : ¬ vp_in i n) (hdg : decode cc pc = .ok (.sastore, 1))
    (k : ∀ tx : String, tx = (toString "Index " ++ toString i ++ toString " out of bounds for length " ++ toString n : String) → vx_Note p l e R s m args below meth c H locs cells slots Q (F0 m pc ls rest) "java/lang/ArrayIndexOutOfBoundsException" tx) : W p l e R s m args below meth c H locs cells slots Q (F0 m pc ls (.int x :: .int i :: .ref a :: rest)) := by
  intro T hT X
  obtain ⟨t, st, q⟩ := k _ rfl T hT X
  refine ⟨t, ?_, q⟩
  have h1 := X.sastoreOut hexec (by rw [hT]; exact hP q0 _ ha) ((hK.2 t0 _ ht).1 n (fun j => .int (f j))) (j := i) (by show (i < 0 ∨ (arrV _ _ _).slots.size ≤ _); rw [arrV_size]; exact Classical.byContradiction hout) (g := F0 m pc ls (.int x :: .int i :: .ref a :: rest)) rfl (rest := rest) rfl (by rw [hb]; exact hdg) t
  simp only [arrV_size] at h1
  exact h1 st
theorem vx_laldZ {D : va_G} {cl : List vw_C} {ws : va_W} {tys : List (ClassId × FieldType)} {a : Nat} (hexec : p.tables.exec = Jvm.exec) (hb : c.code = cc) (hK : va_K D cl tys s) (hP : va_P D cl ws H) (q0 t0 : Nat) {cA : ClassId} {n : Nat} {f : Nat → Int64} (ha : ws[q0]? = some (a, .inl (cA, n, .inr (.inl f)))) (ht : tys[t0]? = some (cA, .long)) {i : Int32} (hout : ¬ vp_in i n) (hdg : decode cc pc = .ok (.laload, 1))
    (k : ∀ tx : String, tx = (toString "Index " ++ toString i ++ toString " out of bounds for length " ++ toString n : String) → vx_Note p l e R s m args below meth c H locs cells slots Q (F0 m pc ls rest) "java/lang/ArrayIndexOutOfBoundsException" tx) : W p l e R s m args below meth c H locs cells slots Q (F0 m pc ls (.int i :: .ref a :: rest)) := by
  intro T hT X
  obtain ⟨t, st, q⟩ := k _ rfl T hT X
  refine ⟨t, ?_, q⟩
  have h1 := X.laloadOut hexec (by rw [hT]; exact hP q0 _ ha) ((hK.2 t0 _ ht).1 n (fun j => .long (f j))) (j := i) (by show (i < 0 ∨ (arrV _ _ _).slots.size ≤ _); rw [arrV_size]; exact Classical.byContradiction hout) (g := F0 m pc ls (.int i :: .ref a :: rest)) rfl (rest := rest) rfl (by rw [hb]; exact hdg) t
  simp only [arrV_size] at h1
  exact h1 st
theorem vx_lastZ {D : va_G} {cl : List vw_C} {ws : va_W} {tys : List (ClassId × FieldType)} {a : Nat} (hexec : p.tables.exec = Jvm.exec) (hb : c.code = cc) (hK : va_K D cl tys s) (hP : va_P D cl ws H) (q0 t0 : Nat) {cA : ClassId} {n : Nat} {f : Nat → Int64} (ha : ws[q0]? = some (a, .inl (cA, n, .inr (.inl f)))) (ht : tys[t0]? = some (cA, .long)) {i : Int32} {x : Int64} (hout : ¬ vp_in i n) (hdg : decode cc pc = .ok (.lastore, 1))
    (k : ∀ tx : String, tx = (toString "Index " ++ toString i ++ toString " out of bounds for length " ++ toString n : String) → vx_Note p l e R s m args below meth c H locs cells slots Q (F0 m pc ls rest) "java/lang/ArrayIndexOutOfBoundsException" tx) : W p l e R s m args below meth c H locs cells slots Q (F0 m pc ls (.long x :: .int i :: .ref a :: rest)) := by
  intro T hT X
  obtain ⟨t, st, q⟩ := k _ rfl T hT X
  refine ⟨t, ?_, q⟩
  have h1 := X.lastoreOut hexec (by rw [hT]; exact hP q0 _ ha) ((hK.2 t0 _ ht).1 n (fun j => .long (f j))) (j := i) (by show (i < 0 ∨ (arrV _ _ _).slots.size ≤ _); rw [arrV_size]; exact Classical.byContradiction hout) (g := F0 m pc ls (.long x :: .int i :: .ref a :: rest)) rfl (rest := rest) rfl (by rw [hb]; exact hdg) t
  simp only [arrV_size] at h1
  exact h1 st
theorem vx_faldZ {D : va_G} {cl : List vw_C} {ws : va_W} {tys : List (ClassId × FieldType)} {a : Nat} (hexec : p.tables.exec = Jvm.exec) (hb : c.code = cc) (hK : va_K D cl tys s) (hP : va_P D cl ws H) (q0 t0 : Nat) {cA : ClassId} {n : Nat} {f : Nat → UInt32} (ha : ws[q0]? = some (a, .inl (cA, n, .inr (.inr (.inl f))))) (ht : tys[t0]? = some (cA, .float)) {i : Int32} (hout : ¬ vp_in i n) (hdg : decode cc pc = .ok (.faload, 1))
    (k : ∀ tx : String, tx = (toString "Index " ++ toString i ++ toString " out of bounds for length " ++ toString n : String) → vx_Note p l e R s m args below meth c H locs cells slots Q (F0 m pc ls rest) "java/lang/ArrayIndexOutOfBoundsException" tx) : W p l e R s m args below meth c H locs cells slots Q (F0 m pc ls (.int i :: .ref a :: rest)) := by
  intro T hT X
  obtain ⟨t, st, q⟩ := k _ rfl T hT X
  refine ⟨t, ?_, q⟩
  have h1 := X.faloadOut hexec (by rw [hT]; exact hP q0 _ ha) ((hK.2 t0 _ ht).1 n (fun j => .float (f j))) (j := i) (by show (i < 0 ∨ (arrV _ _ _).slots.size ≤ _); rw [arrV_size]; exact Classical.byContradiction hout) (g := F0 m pc ls (.int i :: .ref a :: rest)) rfl (rest := rest) rfl (by rw [hb]; exact hdg) t
  simp only [arrV_size] at h1
  exact h1 st
theorem vx_fastZ {D : va_G} {cl : List vw_C} {ws : va_W} {tys : List (ClassId × FieldType)} {a : Nat} (hexec : p.tables.exec = Jvm.exec) (hb : c.code = cc) (hK : va_K D cl tys s) (hP : va_P D cl ws H) (q0 t0 : Nat) {cA : ClassId} {n : Nat} {f : Nat → UInt32} (ha : ws[q0]? = some (a, .inl (cA, n, .inr (.inr (.inl f))))) (ht : tys[t0]? = some (cA, .float)) {i : Int32} {x : UInt32} (hout : ¬ vp_in i n) (hdg : decode cc pc = .ok (.fastore, 1))
    (k : ∀ tx : String, tx = (toString "Index " ++ toString i ++ toString " out of bounds for length " ++ toString n : String) → vx_Note p l e R s m args below meth c H locs cells slots Q (F0 m pc ls rest) "java/lang/ArrayIndexOutOfBoundsException" tx) : W p l e R s m args below meth c H locs cells slots Q (F0 m pc ls (.float x :: .int i :: .ref a :: rest)) := by
  intro T hT X
  obtain ⟨t, st, q⟩ := k _ rfl T hT X
  refine ⟨t, ?_, q⟩
  have h1 := X.fastoreOut hexec (by rw [hT]; exact hP q0 _ ha) ((hK.2 t0 _ ht).1 n (fun j => .float (f j))) (j := i) (by show (i < 0 ∨ (arrV _ _ _).slots.size ≤ _); rw [arrV_size]; exact Classical.byContradiction hout) (g := F0 m pc ls (.float x :: .int i :: .ref a :: rest)) rfl (rest := rest) rfl (by rw [hb]; exact hdg) t
  simp only [arrV_size] at h1
  exact h1 st
theorem vx_daldZ {D : va_G} {cl : List vw_C} {ws : va_W} {tys : List (ClassId × FieldType)} {a : Nat} (hexec : p.tables.exec = Jvm.exec) (hb : c.code = cc) (hK : va_K D cl tys s) (hP : va_P D cl ws H) (q0 t0 : Nat) {cA : ClassId} {n : Nat} {f : Nat → UInt64} (ha : ws[q0]? = some (a, .inl (cA, n, .inr (.inr (.inr (.inl f)))))) (ht : tys[t0]? = some (cA, .double)) {i : Int32} (hout : ¬ vp_in i n) (hdg : decode cc pc = .ok (.daload, 1))
    (k : ∀ tx : String, tx = (toString "Index " ++ toString i ++ toString " out of bounds for length " ++ toString n : String) → vx_Note p l e R s m args below meth c H locs cells slots Q (F0 m pc ls rest) "java/lang/ArrayIndexOutOfBoundsException" tx) : W p l e R s m args below meth c H locs cells slots Q (F0 m pc ls (.int i :: .ref a :: rest)) := by
  intro T hT X
  obtain ⟨t, st, q⟩ := k _ rfl T hT X
  refine ⟨t, ?_, q⟩
  have h1 := X.daloadOut hexec (by rw [hT]; exact hP q0 _ ha) ((hK.2 t0 _ ht).1 n (fun j => .double (f j))) (j := i) (by show (i < 0 ∨ (arrV _ _ _).slots.size ≤ _); rw [arrV_size]; exact Classical.byContradiction hout) (g := F0 m pc ls (.int i :: .ref a :: rest)) rfl (rest := rest) rfl (by rw [hb]; exact hdg) t
  simp only [arrV_size] at h1
  exact h1 st
theorem vx_dastZ {D : va_G} {cl : List vw_C} {ws : va_W} {tys : List (ClassId × FieldType)} {a : Nat} (hexec : p.tables.exec = Jvm.exec) (hb : c.code = cc) (hK : va_K D cl tys s) (hP : va_P D cl ws H) (q0 t0 : Nat) {cA : ClassId} {n : Nat} {f : Nat → UInt64} (ha : ws[q0]? = some (a, .inl (cA, n, .inr (.inr (.inr (.inl f)))))) (ht : tys[t0]? = some (cA, .double)) {i : Int32} {x : UInt64} (hout : ¬ vp_in i n) (hdg : decode cc pc = .ok (.dastore, 1))
    (k : ∀ tx : String, tx = (toString "Index " ++ toString i ++ toString " out of bounds for length " ++ toString n : String) → vx_Note p l e R s m args below meth c H locs cells slots Q (F0 m pc ls rest) "java/lang/ArrayIndexOutOfBoundsException" tx) : W p l e R s m args below meth c H locs cells slots Q (F0 m pc ls (.double x :: .int i :: .ref a :: rest)) := by
  intro T hT X
  obtain ⟨t, st, q⟩ := k _ rfl T hT X
  refine ⟨t, ?_, q⟩
  have h1 := X.dastoreOut hexec (by rw [hT]; exact hP q0 _ ha) ((hK.2 t0 _ ht).1 n (fun j => .double (f j))) (j := i) (by show (i < 0 ∨ (arrV _ _ _).slots.size ≤ _); rw [arrV_size]; exact Classical.byContradiction hout) (g := F0 m pc ls (.double x :: .int i :: .ref a :: rest)) rfl (rest := rest) rfl (by rw [hb]; exact hdg) t
  simp only [arrV_size] at h1
  exact h1 st
theorem vx_arraylengthN (hexec : p.tables.exec = Jvm.exec) (hb : c.code = cc) (hdg : decode cc pc = .ok (.arraylength, 1)) (k : vx_NoteN p l e R s m args below meth c H locs cells slots Q (F0 m pc ls rest)) : W p l e R s m args below meth c H locs cells slots Q (F0 m pc ls (.null :: rest)) := by
  intro T hT X
  obtain ⟨t, st, q⟩ := k T hT X
  exact ⟨t, X.arraylengthNull hexec (g := F0 m pc ls (.null :: rest)) rfl (rest := rest) rfl (by rw [hb]; exact hdg) t st, q⟩
theorem vx_ialoadN (hexec : p.tables.exec = Jvm.exec) (hb : c.code = cc) {i : Int32} (hdg : decode cc pc = .ok (.iaload, 1)) (k : vx_NoteN p l e R s m args below meth c H locs cells slots Q (F0 m pc ls rest)) : W p l e R s m args below meth c H locs cells slots Q (F0 m pc ls (.int i :: .null :: rest)) := by
  intro T hT X
  obtain ⟨t, st, q⟩ := k T hT X
  exact ⟨t, X.ialoadNull hexec (g := F0 m pc ls (.int i :: .null :: rest)) rfl (rest := rest) rfl (by rw [hb]; exact hdg) t st, q⟩
theorem vx_laloadN (hexec : p.tables.exec = Jvm.exec) (hb : c.code = cc) {i : Int32} (hdg : decode cc pc = .ok (.laload, 1)) (k : vx_NoteN p l e R s m args below meth c H locs cells slots Q (F0 m pc ls rest)) : W p l e R s m args below meth c H locs cells slots Q (F0 m pc ls (.int i :: .null :: rest)) := by
  intro T hT X
  obtain ⟨t, st, q⟩ := k T hT X
  exact ⟨t, X.laloadNull hexec (g := F0 m pc ls (.int i :: .null :: rest)) rfl (rest := rest) rfl (by rw [hb]; exact hdg) t st, q⟩
theorem vx_faloadN (hexec : p.tables.exec = Jvm.exec) (hb : c.code = cc) {i : Int32} (hdg : decode cc pc = .ok (.faload, 1)) (k : vx_NoteN p l e R s m args below meth c H locs cells slots Q (F0 m pc ls rest)) : W p l e R s m args below meth c H locs cells slots Q (F0 m pc ls (.int i :: .null :: rest)) := by
  intro T hT X
  obtain ⟨t, st, q⟩ := k T hT X
  exact ⟨t, X.faloadNull hexec (g := F0 m pc ls (.int i :: .null :: rest)) rfl (rest := rest) rfl (by rw [hb]; exact hdg) t st, q⟩
theorem vx_daloadN (hexec : p.tables.exec = Jvm.exec) (hb : c.code = cc) {i : Int32} (hdg : decode cc pc = .ok (.daload, 1)) (k : vx_NoteN p l e R s m args below meth c H locs cells slots Q (F0 m pc ls rest)) : W p l e R s m args below meth c H locs cells slots Q (F0 m pc ls (.int i :: .null :: rest)) := by
  intro T hT X
  obtain ⟨t, st, q⟩ := k T hT X
  exact ⟨t, X.daloadNull hexec (g := F0 m pc ls (.int i :: .null :: rest)) rfl (rest := rest) rfl (by rw [hb]; exact hdg) t st, q⟩
theorem vx_aaloadN (hexec : p.tables.exec = Jvm.exec) (hb : c.code = cc) {i : Int32} (hdg : decode cc pc = .ok (.aaload, 1)) (k : vx_NoteN p l e R s m args below meth c H locs cells slots Q (F0 m pc ls rest)) : W p l e R s m args below meth c H locs cells slots Q (F0 m pc ls (.int i :: .null :: rest)) := by
  intro T hT X
  obtain ⟨t, st, q⟩ := k T hT X
  exact ⟨t, X.aaloadNull hexec (g := F0 m pc ls (.int i :: .null :: rest)) rfl (rest := rest) rfl (by rw [hb]; exact hdg) t st, q⟩
theorem vx_baloadN (hexec : p.tables.exec = Jvm.exec) (hb : c.code = cc) {i : Int32} (hdg : decode cc pc = .ok (.baload, 1)) (k : vx_NoteN p l e R s m args below meth c H locs cells slots Q (F0 m pc ls rest)) : W p l e R s m args below meth c H locs cells slots Q (F0 m pc ls (.int i :: .null :: rest)) := by
  intro T hT X
  obtain ⟨t, st, q⟩ := k T hT X
  exact ⟨t, X.baloadNull hexec (g := F0 m pc ls (.int i :: .null :: rest)) rfl (rest := rest) rfl (by rw [hb]; exact hdg) t st, q⟩
theorem vx_caloadN (hexec : p.tables.exec = Jvm.exec) (hb : c.code = cc) {i : Int32} (hdg : decode cc pc = .ok (.caload, 1)) (k : vx_NoteN p l e R s m args below meth c H locs cells slots Q (F0 m pc ls rest)) : W p l e R s m args below meth c H locs cells slots Q (F0 m pc ls (.int i :: .null :: rest)) := by
  intro T hT X
  obtain ⟨t, st, q⟩ := k T hT X
  exact ⟨t, X.caloadNull hexec (g := F0 m pc ls (.int i :: .null :: rest)) rfl (rest := rest) rfl (by rw [hb]; exact hdg) t st, q⟩
theorem vx_saloadN (hexec : p.tables.exec = Jvm.exec) (hb : c.code = cc) {i : Int32} (hdg : decode cc pc = .ok (.saload, 1)) (k : vx_NoteN p l e R s m args below meth c H locs cells slots Q (F0 m pc ls rest)) : W p l e R s m args below meth c H locs cells slots Q (F0 m pc ls (.int i :: .null :: rest)) := by
  intro T hT X
  obtain ⟨t, st, q⟩ := k T hT X
  exact ⟨t, X.saloadNull hexec (g := F0 m pc ls (.int i :: .null :: rest)) rfl (rest := rest) rfl (by rw [hb]; exact hdg) t st, q⟩
theorem vx_iastoreN (hexec : p.tables.exec = Jvm.exec) (hb : c.code = cc) {x : Int32} {i : Int32} (hdg : decode cc pc = .ok (.iastore, 1)) (k : vx_NoteN p l e R s m args below meth c H locs cells slots Q (F0 m pc ls rest)) : W p l e R s m args below meth c H locs cells slots Q (F0 m pc ls (.int x :: .int i :: .null :: rest)) := by
  intro T hT X
  obtain ⟨t, st, q⟩ := k T hT X
  exact ⟨t, X.iastoreNull hexec (g := F0 m pc ls (.int x :: .int i :: .null :: rest)) rfl (rest := rest) rfl (by rw [hb]; exact hdg) t st, q⟩
theorem vx_lastoreN (hexec : p.tables.exec = Jvm.exec) (hb : c.code = cc) {x : Int64} {i : Int32} (hdg : decode cc pc = .ok (.lastore, 1)) (k : vx_NoteN p l e R s m args below meth c H locs cells slots Q (F0 m pc ls rest)) : W p l e R s m args below meth c H locs cells slots Q (F0 m pc ls (.long x :: .int i :: .null :: rest)) := by
  intro T hT X
  obtain ⟨t, st, q⟩ := k T hT X
  exact ⟨t, X.lastoreNull hexec (g := F0 m pc ls (.long x :: .int i :: .null :: rest)) rfl (rest := rest) rfl (by rw [hb]; exact hdg) t st, q⟩
theorem vx_fastoreN (hexec : p.tables.exec = Jvm.exec) (hb : c.code = cc) {x : UInt32} {i : Int32} (hdg : decode cc pc = .ok (.fastore, 1)) (k : vx_NoteN p l e R s m args below meth c H locs cells slots Q (F0 m pc ls rest)) : W p l e R s m args below meth c H locs cells slots Q (F0 m pc ls (.float x :: .int i :: .null :: rest)) := by
  intro T hT X
  obtain ⟨t, st, q⟩ := k T hT X
  exact ⟨t, X.fastoreNull hexec (g := F0 m pc ls (.float x :: .int i :: .null :: rest)) rfl (rest := rest) rfl (by rw [hb]; exact hdg) t st, q⟩
theorem vx_dastoreN (hexec : p.tables.exec = Jvm.exec) (hb : c.code = cc) {x : UInt64} {i : Int32} (hdg : decode cc pc = .ok (.dastore, 1)) (k : vx_NoteN p l e R s m args below meth c H locs cells slots Q (F0 m pc ls rest)) : W p l e R s m args below meth c H locs cells slots Q (F0 m pc ls (.double x :: .int i :: .null :: rest)) := by
  intro T hT X
  obtain ⟨t, st, q⟩ := k T hT X
  exact ⟨t, X.dastoreNull hexec (g := F0 m pc ls (.double x :: .int i :: .null :: rest)) rfl (rest := rest) rfl (by rw [hb]; exact hdg) t st, q⟩
theorem vx_bastoreN (hexec : p.tables.exec = Jvm.exec) (hb : c.code = cc) {x : Int32} {i : Int32} (hdg : decode cc pc = .ok (.bastore, 1)) (k : vx_NoteN p l e R s m args below meth c H locs cells slots Q (F0 m pc ls rest)) : W p l e R s m args below meth c H locs cells slots Q (F0 m pc ls (.int x :: .int i :: .null :: rest)) := by
  intro T hT X
  obtain ⟨t, st, q⟩ := k T hT X
  exact ⟨t, X.bastoreNull hexec (g := F0 m pc ls (.int x :: .int i :: .null :: rest)) rfl (rest := rest) rfl (by rw [hb]; exact hdg) t st, q⟩
theorem vx_castoreN (hexec : p.tables.exec = Jvm.exec) (hb : c.code = cc) {x : Int32} {i : Int32} (hdg : decode cc pc = .ok (.castore, 1)) (k : vx_NoteN p l e R s m args below meth c H locs cells slots Q (F0 m pc ls rest)) : W p l e R s m args below meth c H locs cells slots Q (F0 m pc ls (.int x :: .int i :: .null :: rest)) := by
  intro T hT X
  obtain ⟨t, st, q⟩ := k T hT X
  exact ⟨t, X.castoreNull hexec (g := F0 m pc ls (.int x :: .int i :: .null :: rest)) rfl (rest := rest) rfl (by rw [hb]; exact hdg) t st, q⟩
theorem vx_sastoreN (hexec : p.tables.exec = Jvm.exec) (hb : c.code = cc) {x : Int32} {i : Int32} (hdg : decode cc pc = .ok (.sastore, 1)) (k : vx_NoteN p l e R s m args below meth c H locs cells slots Q (F0 m pc ls rest)) : W p l e R s m args below meth c H locs cells slots Q (F0 m pc ls (.int x :: .int i :: .null :: rest)) := by
  intro T hT X
  obtain ⟨t, st, q⟩ := k T hT X
  exact ⟨t, X.sastoreNull hexec (g := F0 m pc ls (.int x :: .int i :: .null :: rest)) rfl (rest := rest) rfl (by rw [hb]; exact hdg) t st, q⟩
theorem vx_invokeN {own C : String} {index maxL : Nat} {y : MethodName} {bytes : ByteArray} {ret : Option FieldType} (hexec : p.tables.exec = Jvm.exec) (hb : c.code = cc) (hown : s.vm.findClass own = some m.cls) (hlink : (Cond.methodLink own index y).before args s = true) (hinst : (Cond.instanceMethod y).before args s = true) (hcode : (Cond.code y bytes maxL ret).before args s = true) (hsel : (Cond.selects C y y).before args s = true)
    (hx : y.cls ≠ "java/lang/invoke/MethodHandle" ∧ y.cls ≠ "java/lang/invoke/VarHandle") {As : List Value} (hlen : (parseMethodDescriptor y.desc).map (fun d => d.parameters.length) = some As.length) (hdg : decode cc pc = .ok (.invokevirtual index, 3))
    (k : vx_NoteN p l e R s m args below meth c H locs cells slots Q (F0 m pc ls rest)) {st0 : List Value} (hst : st0 = As.reverse ++ .null :: rest) : W p l e R s m args below meth c H locs cells slots Q (F0 m pc ls st0) := by
  intro T hT X
  obtain ⟨r0, r, hn, hrm, hstR, hsigR⟩ := va_Decl.of hinst hcode
  obtain ⟨c2, r2, m2, q1, q2, q3, q4, kP, hkP, hkPi⟩ := Cond.selects_spec hsel
  cases hn.symm.trans q3
  have hl9 : As.length = r.sig.parameters.length := by
    rw [hsigR] at hlen
    exact (Option.some.inj hlen).symm
  obtain ⟨vm', X1, st1⟩ := X.invokevirtualNull hexec hown hlink hn hrm hstR hkP hkPi hx (g := F0 m pc ls st0) rfl (argsL := As) (rest := rest) hl9 hst (by rw [hb]; exact hdg)
  obtain ⟨t, st, q⟩ := k (T.setVm vm') hT X1
  exact ⟨t, st1 t st, q⟩
theorem vx_newarrayZ {atype : ArrayType} (hexec : p.tables.exec = Jvm.exec) (hb : c.code = cc) {n : Int32} (h0 : n < 0) (hdg : decode cc pc = .ok (.newarray atype, 2)) (k : ∀ tx : String, tx = toString n → vx_Note p l e R s m args below meth c H locs cells slots Q (F0 m pc ls rest) "java/lang/NegativeArraySizeException" tx) : W p l e R s m args below meth c H locs cells slots Q (F0 m pc ls (.int n :: rest)) := by
  intro T hT X
  obtain ⟨t, st, q⟩ := k _ rfl T hT X
  exact ⟨t, X.newarrayNegative hexec (g := F0 m pc ls (.int n :: rest)) rfl h0 (rest := rest) rfl (by rw [hb]; exact hdg) t st, q⟩
end
end VXM
/-! ===== END ===== -/
/-! ===== BEGIN an exception as an object: made, kept, thrown later (no traces kept) ===== -/
section VXK
variable {p : Program} {l : Launch} {e : Env} {R : Room} {s : State} {m₀ : MethodId} {args : Array Value} {below : List Frame} {meth : Method} {c : Code} {W : State} {locs : List Loc} {cells slots : Nat}
set_option maxHeartbeats 1000000 in
theorem vx_ctorMadeS (X : Stand p l e R s m₀ args below meth c W locs cells slots) (hexec : p.tables.exec = Jvm.exec) (htr : e.platform.stackTraces = false) {own cls : String} {names : List String} {ic : Nat}
    (hown : s.vm.findClass own = some m₀.cls) (hcls : Bundle.fit cls = true) (hnames : ∀ n ∈ names, Bundle.fit n = true)
    (h : ∀ a ∈ Bundle.ownAtoms own ic cls names, a.before args s = true)
    (hlocs : ∀ x ∈ locs, ∀ cell, s.heap[x.base]? = some cell → cell.vm.isStatics = false)
    {a : Addr} {cX : ClassId} {kX : Class} (hfoundX : s.vm.findClass cls = some cX) (hkX : s.vm.classes[cX]? = some kX) (hcell : W.heap[a]? = some (freshCell cX kX)) (hnew : s.heap.size ≤ a)
    {msg : Value} (hmsg : msg.isRef = true)
    {g : JFrame} (hg : g.method = m₀) (hsize : g.locals.size = c.maxLocals) {rest : List Value} (hstack : g.stack = msg :: .ref a :: .ref a :: rest)
    (hd6 : decode c.code g.pc = .ok (.invokespecial ic, 3))
    (hRframes : names.length + 3 < R.frames) (hRlocals : 2 * g.monitorRoom + ((Value.ref a :: rest).map fun v => v.category).sum + (13 * (names.length + 1) + 42) ≤ R.locals) :
    ∃ (V : State) (ce : Cell) (L : List Loc), Stand p l e R s m₀ args below meth c (V.setCell a ce) (locs ++ L) cells slots ∧ (∀ y ∈ L, y.base = a) ∧ a < V.heap.size ∧ ce.cls = cX ∧ ce.vm = .none ∧
      ∀ target, Steps p.tables e below ((V.setCell a ce).setTop { g with stack := .ref a :: rest, pc := g.pc + 3 }) target → Steps p.tables e below (W.setTop g) target := by
  have howns : e.platform.frameOwnsMonitors = true := by rw [X.admits.platform]
  have hfin : e.platform.finalization = false := by rw [X.admits.platform]
  have hpl : e.platform.magicAccessors = ({} : Platform).magicAccessors := by rw [X.admits.platform]
  have a' : ∀ x, x ∈ Bundle.ownAtoms own ic cls names → x.holds args s none s [] = true := fun x hx => h x hx
  obtain ⟨T, Z0, L, -, Y⟩ := ThrowableC.of_atoms (args := args) howns hfin hpl (fun x hx => h x (by simp [Bundle.ownAtoms, hx]))
  obtain ⟨Z, M, LZ, LM, hnZ⟩ := Init0T.ofS_atoms (args := args) hpl L Y (fun x hx => h x (by simp [Bundle.ownAtoms, hx]))
  obtain ⟨P1, Ps, hlen, L1, hL, hP1m, hlink1, hlink⟩ := Bundle.chainS (args := args) hpl hnZ names cls hcls hnames (fun x hx => h x (by simp [Bundle.ownAtoms, hx]))
  have hfound : s.vm.findClass cls = some P1.m.cls := findClass_of_methodNamed hP1m
  cases Option.some.inj (hfoundX.symm.trans hfound)
  obtain ⟨c1, kX', hc1, hk, hord, -, -, hn6⟩ := Cond.instantiable_spec (a' (.instantiable cls 6) (by simp [Bundle.ownAtoms]))
  cases Option.some.inj (hc1.symm.trans hfound)
  cases Option.some.inj (hkX.symm.trans hk)
  have hsel0 : selectMethod e.platform s.vm P1.m.cls T.fill0 = .method T.fill0 := by
    obtain ⟨c2, r2, m2, q1, q2, q3, q4, -⟩ := Cond.selects_spec (a' (.selects cls Bundle.tFill0 Bundle.tFill0) (by simp [Bundle.ownAtoms]))
    cases Option.some.inj (q1.symm.trans hfound)
    cases Option.some.inj (q2.symm.trans (State.methodFound?_of_named Y.fill0 (by decide)))
    cases Option.some.inj (q3.symm.trans Y.fill0)
    rw [Launch.admits_selectMethod X.admits]; exact q4
  have hselF : selectMethod e.platform s.vm P1.m.cls T.fill = .method T.fill := by
    obtain ⟨c2, r2, m2, q1, q2, q3, q4, -⟩ := Cond.selects_spec (a' (.selects cls Bundle.tFill Bundle.tFill) (by simp [Bundle.ownAtoms]))
    cases Option.some.inj (q1.symm.trans hfound)
    cases Option.some.inj (q2.symm.trans (State.methodFound?_of_named Y.fill (by decide)))
    cases Option.some.inj (q3.symm.trans Y.fill)
    rw [Launch.admits_selectMethod X.admits]; exact q4
  obtain ⟨cellS0, hcS0, hiss⟩ := Y.statics
  obtain ⟨u0, hu0⟩ := Cond.staticRefV Y.unassigned L.unassignedStatic L.statics hcS0 hiss (a' (.isRef (.static Bundle.tN "UNASSIGNED_STACK" Bundle.steD)) (by simp [Bundle.ownAtoms]))
  obtain ⟨sen, hsen⟩ := Cond.staticRefV Y.sentinel L.sentinelStatic L.statics hcS0 hiss (a' (.isRef (.static Bundle.tN "SUPPRESSED_SENTINEL" Bundle.listD)) (by simp [Bundle.ownAtoms]))
  obtain ⟨ci198, i198, fB, hk198, hg198, ha198, hsB, -, hnB, htB, hffB⟩ := Cond.ownField (t := .object "java/lang/Object") Y.found L.cls (by decide +kernel) (a' (.fieldLink Bundle.tN 198 Bundle.tN "backtrace" "Ljava/lang/Object;") (by simp [Bundle.ownAtoms])) (a' (.lays Bundle.tN Bundle.tN "backtrace" "Ljava/lang/Object;") (by simp [Bundle.ownAtoms])) e.platform hpl
  obtain ⟨cellS, hcS', heS, -, hkeep⟩ := X.same.2.2.2.2.2 T.aS cellS0 hcS0
  have hcellS : W.heap[T.aS]? = some cellS := hcS'
  have hout' : ∀ i, (⟨T.aS, i⟩ : Loc) ∉ locs := fun i hmem => by
    have := hlocs _ hmem cellS0 hcS0
    rw [hiss] at this; cases this
  have hknownS : cellS.vm ≠ .unknown := by
    rw [heS]; intro hu
    rw [show cellS0.vm = .unknown from hu] at hiss
    cases hiss
  have hneS : T.aS ≠ a := Nat.ne_of_lt (Nat.lt_of_lt_of_le (Array.getElem?_eq_some_iff.mp hcS0).1 hnew)
  obtain ⟨iM, hffM⟩ := Y.msg
  obtain ⟨tyC, dC, hdC, hdnC⟩ := Cond.laysAt hfound hk Y.cause (a' (.lays cls Bundle.tN "cause" "Ljava/lang/Throwable;") (by simp [Bundle.ownAtoms]))
  obtain ⟨tyS, dS, hdS, hdnS⟩ := Cond.laysAt hfound hk Y.stack (a' (.lays cls Bundle.tN "stackTrace" Bundle.steD) (by simp [Bundle.ownAtoms]))
  obtain ⟨tyP, dP, hdP, hdnP⟩ := Cond.laysAt hfound hk Y.supp (a' (.lays cls Bundle.tN "suppressedExceptions" Bundle.listD) (by simp [Bundle.ownAtoms]))
  obtain ⟨tyM, dM, hdM, hdnM⟩ := Cond.laysAt hfound hk hffM (a' (.lays cls Bundle.tN "detailMessage" "Ljava/lang/String;") (by simp [Bundle.ownAtoms]))
  obtain ⟨tyB, dB, hdB, hdnB⟩ := Cond.laysAt hfound hk hffB (a' (.lays cls Bundle.tN "backtrace" "Ljava/lang/Object;") (by simp [Bundle.ownAtoms]))
  have bC := Cond.laysApart hdB hdC hdnB hdnC (by rw [hnB, Y.causeName]; decide)
  have bS := Cond.laysApart hdB hdS hdnB hdnS (by rw [hnB, Y.stackName]; decide)
  have bP := Cond.laysApart hdB hdP hdnB hdnP (by rw [hnB, Y.suppName]; decide)
  have hskip : SkipFacts T e.platform s (fun u => u) u0 ((preparedCellV T.toThrowableT (freshCell P1.m.cls kX) a u0 sen).withEntry W.cur) :=
    ⟨{ ci198 := ci198, i198 := i198, fBack := fB }, ⟨hk198, hg198, ha198, hsB⟩, by
      have := fresh_default (c := P1.m.cls) tyB
      rw [htB] at this
      simpa [preparedCellV, Cell.setSlot, Cell.withEntry, Array.getElem?_setIfInBounds, bC, bS, bP, bC.symm, bS.symm, bP.symm, defaultValue] using this, fun _ _ => rfl⟩
  obtain ⟨tm, methC, cdC, kC, vm₁, hnC, -, -, -, -, -, -, -, hW₁, st1⟩ := Steps.initColdS (tb := p.tables) (e := e) (below := below) (s := s) (U := W) X.here hexec X.warmed hpl hown (t := Bundle.initS cls) rfl rfl (Bundle.fit_spec hcls).2
    (a' (.methodLink own ic (Bundle.initS cls)) (by simp [Bundle.ownAtoms])) (h (.instanceMethod (Bundle.initS cls)) (by cases names <;> simp [Bundle.ownAtoms, Bundle.chainSAtoms, Bundle.passSAtoms])) (bytes := Bundle.six) (maxL := 2) (h (.code (Bundle.initS cls) Bundle.six 2 none) (by cases names <;> simp [Bundle.ownAtoms, Bundle.chainSAtoms, Bundle.passSAtoms]))
    (f := g) hg (a := a) (msg := msg) (rest := .ref a :: rest) hstack hd6
  cases Option.some.inj (hnC.symm.trans hP1m)
  have X₁ := X.noted hW₁
  obtain ⟨vm₂, X₂, st2⟩ := X₁.ctorMessageOffV hexec (g := { g with stack := .ref a :: rest }) hg hsize T L Z LZ M LM (P1 :: Ps)
    (fun P hP => by rcases List.mem_cons.mp hP with rfl | hP; exact L1; exact hL P hP) ⟨hlink1, hlink⟩ (u0 := u0) (sen := sen) (self := a) hmsg (cell := freshCell P1.m.cls kX) (cellS := cellS)
    hcell (fun _ => by simp) (by simp) rfl rfl hsel0 hselF hcellS hneS hknownS (by rw [hkeep _ (hout' _)]; exact hu0) (by rw [hkeep _ (hout' _)]; exact hsen)
    (Takes.of_laid hk hord tyC (by rw [Y.causeType]; rfl)) (Takes.of_laid hk hord tyS (by rw [Y.stackType]; exact fits_refV_array _ u0)) (Takes.of_laid hk hord tyP (by rw [Y.suppType]; exact fits_refV_object _ sen))
    (Takes.of_laid hk hord tyM (by rw [Y.msgType]; exact fits_refV_object _ ⟨msg, hmsg⟩)) Y.objLocals hskip htr [] hd6
    (by simp only [List.length_cons, hlen]; omega) (by simp only [List.length_cons, hlen]; exact hRlocals)
  have hlt : a < ((W.setVm vm₁).setVm vm₂).heap.size := (Array.getElem?_eq_some_iff.mp hcell).1
  refine ⟨(W.setVm vm₁).setVm vm₂, _, _, X₂, fun y hy => ?_, hlt, rfl, rfl, fun target hwalk => st1 _ (fun acts => ?_)⟩
  · simp only [List.mem_cons, List.not_mem_nil, or_false] at hy
    rcases hy with rfl | rfl | rfl | rfl | rfl <;> rfl
  · rw [doInvoke_state]
    exact st2 _ hwalk
set_option maxHeartbeats 1000000 in
theorem vx_ctorMade0 (X : Stand p l e R s m₀ args below meth c W locs cells slots) (hexec : p.tables.exec = Jvm.exec) (htr : e.platform.stackTraces = false) {own cls : String} {names : List String} {ic : Nat}
    (hown : s.vm.findClass own = some m₀.cls) (hcls : Bundle.fit cls = true) (hnames : ∀ n ∈ names, Bundle.fit n = true)
    (h : ∀ a ∈ Bundle.ownAtoms0 own ic cls names, a.before args s = true)
    (hlocs : ∀ x ∈ locs, ∀ cell, s.heap[x.base]? = some cell → cell.vm.isStatics = false)
    {a : Addr} {cX : ClassId} {kX : Class} (hfoundX : s.vm.findClass cls = some cX) (hkX : s.vm.classes[cX]? = some kX) (hcell : W.heap[a]? = some (freshCell cX kX)) (hnew : s.heap.size ≤ a)
    {g : JFrame} (hg : g.method = m₀) (hsize : g.locals.size = c.maxLocals) {rest : List Value} (hstack : g.stack = .ref a :: .ref a :: rest)
    (hd6 : decode c.code g.pc = .ok (.invokespecial ic, 3))
    (hRframes : names.length + 3 < R.frames) (hRlocals : 2 * g.monitorRoom + ((Value.ref a :: rest).map fun v => v.category).sum + (13 * (names.length + 1) + 41) ≤ R.locals) :
    ∃ (V : State) (ce : Cell) (L : List Loc), Stand p l e R s m₀ args below meth c (V.setCell a ce) (locs ++ L) cells slots ∧ (∀ y ∈ L, y.base = a) ∧ a < V.heap.size ∧ ce.cls = cX ∧ ce.vm = .none ∧
      ∀ target, Steps p.tables e below ((V.setCell a ce).setTop { g with stack := .ref a :: rest, pc := g.pc + 3 }) target → Steps p.tables e below (W.setTop g) target := by
  have howns : e.platform.frameOwnsMonitors = true := by rw [X.admits.platform]
  have hfin : e.platform.finalization = false := by rw [X.admits.platform]
  have hpl : e.platform.magicAccessors = ({} : Platform).magicAccessors := by rw [X.admits.platform]
  have a' : ∀ x, x ∈ Bundle.ownAtoms0 own ic cls names → x.holds args s none s [] = true := fun x hx => h x hx
  obtain ⟨T, Z, L, LZ, Y⟩ := ThrowableC.of_atoms (args := args) howns hfin hpl (fun x hx => h x (by simp [Bundle.ownAtoms0, hx]))
  obtain ⟨P1, Ps, hlen, L1, hL, hP1m, hlink1, hlink⟩ := Bundle.chain0 (args := args) hpl Y.init0 names cls hcls hnames (fun x hx => h x (by simp [Bundle.ownAtoms0, hx]))
  have hfound : s.vm.findClass cls = some P1.m.cls := findClass_of_methodNamed hP1m
  cases Option.some.inj (hfoundX.symm.trans hfound)
  obtain ⟨c1, kX', hc1, hk, hord, -, -, hn6⟩ := Cond.instantiable_spec (a' (.instantiable cls 6) (by simp [Bundle.ownAtoms0]))
  cases Option.some.inj (hc1.symm.trans hfound)
  cases Option.some.inj (hkX.symm.trans hk)
  have hsel0 : selectMethod e.platform s.vm P1.m.cls T.fill0 = .method T.fill0 := by
    obtain ⟨c2, r2, m2, q1, q2, q3, q4, -⟩ := Cond.selects_spec (a' (.selects cls Bundle.tFill0 Bundle.tFill0) (by simp [Bundle.ownAtoms0]))
    cases Option.some.inj (q1.symm.trans hfound)
    cases Option.some.inj (q2.symm.trans (State.methodFound?_of_named Y.fill0 (by decide)))
    cases Option.some.inj (q3.symm.trans Y.fill0)
    rw [Launch.admits_selectMethod X.admits]; exact q4
  have hselF : selectMethod e.platform s.vm P1.m.cls T.fill = .method T.fill := by
    obtain ⟨c2, r2, m2, q1, q2, q3, q4, -⟩ := Cond.selects_spec (a' (.selects cls Bundle.tFill Bundle.tFill) (by simp [Bundle.ownAtoms0]))
    cases Option.some.inj (q1.symm.trans hfound)
    cases Option.some.inj (q2.symm.trans (State.methodFound?_of_named Y.fill (by decide)))
    cases Option.some.inj (q3.symm.trans Y.fill)
    rw [Launch.admits_selectMethod X.admits]; exact q4
  obtain ⟨cellS0, hcS0, hiss⟩ := Y.statics
  obtain ⟨u0, hu0⟩ := Cond.staticRefV Y.unassigned L.unassignedStatic L.statics hcS0 hiss (a' (.isRef (.static Bundle.tN "UNASSIGNED_STACK" Bundle.steD)) (by simp [Bundle.ownAtoms0]))
  obtain ⟨sen, hsen⟩ := Cond.staticRefV Y.sentinel L.sentinelStatic L.statics hcS0 hiss (a' (.isRef (.static Bundle.tN "SUPPRESSED_SENTINEL" Bundle.listD)) (by simp [Bundle.ownAtoms0]))
  obtain ⟨ci198, i198, fB, hk198, hg198, ha198, hsB, -, hnB, htB, hffB⟩ := Cond.ownField (t := .object "java/lang/Object") Y.found L.cls (by decide +kernel) (a' (.fieldLink Bundle.tN 198 Bundle.tN "backtrace" "Ljava/lang/Object;") (by simp [Bundle.ownAtoms0])) (a' (.lays Bundle.tN Bundle.tN "backtrace" "Ljava/lang/Object;") (by simp [Bundle.ownAtoms0])) e.platform hpl
  obtain ⟨cellS, hcS', heS, -, hkeep⟩ := X.same.2.2.2.2.2 T.aS cellS0 hcS0
  have hcellS : W.heap[T.aS]? = some cellS := hcS'
  have hout' : ∀ i, (⟨T.aS, i⟩ : Loc) ∉ locs := fun i hmem => by
    have := hlocs _ hmem cellS0 hcS0
    rw [hiss] at this; cases this
  have hknownS : cellS.vm ≠ .unknown := by
    rw [heS]; intro hu
    rw [show cellS0.vm = .unknown from hu] at hiss
    cases hiss
  have hneS : T.aS ≠ a := Nat.ne_of_lt (Nat.lt_of_lt_of_le (Array.getElem?_eq_some_iff.mp hcS0).1 hnew)
  obtain ⟨iM, hffM⟩ := Y.msg
  obtain ⟨tyC, dC, hdC, hdnC⟩ := Cond.laysAt hfound hk Y.cause (a' (.lays cls Bundle.tN "cause" "Ljava/lang/Throwable;") (by simp [Bundle.ownAtoms0]))
  obtain ⟨tyS, dS, hdS, hdnS⟩ := Cond.laysAt hfound hk Y.stack (a' (.lays cls Bundle.tN "stackTrace" Bundle.steD) (by simp [Bundle.ownAtoms0]))
  obtain ⟨tyP, dP, hdP, hdnP⟩ := Cond.laysAt hfound hk Y.supp (a' (.lays cls Bundle.tN "suppressedExceptions" Bundle.listD) (by simp [Bundle.ownAtoms0]))
  obtain ⟨tyM, dM, hdM, hdnM⟩ := Cond.laysAt hfound hk hffM (a' (.lays cls Bundle.tN "detailMessage" "Ljava/lang/String;") (by simp [Bundle.ownAtoms0]))
  obtain ⟨tyB, dB, hdB, hdnB⟩ := Cond.laysAt hfound hk hffB (a' (.lays cls Bundle.tN "backtrace" "Ljava/lang/Object;") (by simp [Bundle.ownAtoms0]))
  have bC := Cond.laysApart hdB hdC hdnB hdnC (by rw [hnB, Y.causeName]; decide)
  have bS := Cond.laysApart hdB hdS hdnB hdnS (by rw [hnB, Y.stackName]; decide)
  have bP := Cond.laysApart hdB hdP hdnB hdnP (by rw [hnB, Y.suppName]; decide)
  have hskip : SkipFacts T e.platform s (fun u => u) u0 ((preparedCellV T.toThrowableT (freshCell P1.m.cls kX) a u0 sen).withEntry W.cur) :=
    ⟨{ ci198 := ci198, i198 := i198, fBack := fB }, ⟨hk198, hg198, ha198, hsB⟩, by
      have := fresh_default (c := P1.m.cls) tyB
      rw [htB] at this
      simpa [preparedCellV, Cell.setSlot, Cell.withEntry, Array.getElem?_setIfInBounds, bC, bS, bP, bC.symm, bS.symm, bP.symm, defaultValue] using this, fun _ _ => rfl⟩
  obtain ⟨tm, methC, cdC, kC, vm₁, hnC, -, -, -, -, -, -, -, hW₁, st1⟩ := Steps.initCold (tb := p.tables) (e := e) (below := below) (s := s) (U := W) X.here hexec X.warmed hpl hown (t := Bundle.init0 cls) rfl rfl (Bundle.fit_spec hcls).2
    (a' (.methodLink own ic (Bundle.init0 cls)) (by simp [Bundle.ownAtoms0])) (h (.instanceMethod (Bundle.init0 cls)) (by cases names <;> simp [Bundle.ownAtoms0, Bundle.chain0Atoms, Bundle.passAtoms])) (bytes := Bundle.five) (maxL := 1) (h (.code (Bundle.init0 cls) Bundle.five 1 none) (by cases names <;> simp [Bundle.ownAtoms0, Bundle.chain0Atoms, Bundle.passAtoms]))
    (f := g) hg (a := a) (rest := .ref a :: rest) hstack hd6
  cases Option.some.inj (hnC.symm.trans hP1m)
  have X₁ := X.noted hW₁
  obtain ⟨vm₂, X₂, st2⟩ := X₁.ctorPlainOffV hexec (g := { g with stack := .ref a :: rest }) hg hsize T L Z LZ (P1 :: Ps)
    (fun P hP => by rcases List.mem_cons.mp hP with rfl | hP; exact L1; exact hL P hP) ⟨hlink1, hlink⟩ (u0 := u0) (sen := sen) (self := a) (cell := freshCell P1.m.cls kX) (cellS := cellS)
    hcell (fun _ => by simp) (by simp) rfl rfl hsel0 hselF hcellS hneS hknownS (by rw [hkeep _ (hout' _)]; exact hu0) (by rw [hkeep _ (hout' _)]; exact hsen)
    (Takes.of_laid hk hord tyC (by rw [Y.causeType]; rfl)) (Takes.of_laid hk hord tyS (by rw [Y.stackType]; exact fits_refV_array _ u0)) (Takes.of_laid hk hord tyP (by rw [Y.suppType]; exact fits_refV_object _ sen)) Y.objLocals hskip htr [] hd6
    (by simp only [List.length_cons, hlen]; omega) (by simp only [List.length_cons, hlen]; exact hRlocals)
  have hlt : a < ((W.setVm vm₁).setVm vm₂).heap.size := (Array.getElem?_eq_some_iff.mp hcell).1
  refine ⟨(W.setVm vm₁).setVm vm₂, _, _, X₂, fun y hy => ?_, hlt, rfl, rfl, fun target hwalk => st1 _ (fun acts => ?_)⟩
  · simp only [List.mem_cons, List.not_mem_nil, or_false] at hy
    rcases hy with rfl | rfl | rfl | rfl <;> rfl
  · rw [doInvoke_state]
    exact st2 _ hwalk
end VXK
section VXK2
variable {p : Program} {l : Launch} {e : Env} {R : Room} {s : State} {m : MethodId} {args : Array Value} {below : List Frame} {meth : Method} {c : Code} {H : Heap} {locs : List Loc} {cells slots : Nat} {Q : State → Prop}
variable {ls : Array Slot} {rest : List Value} {D : va_G} {cl : List vw_C} {tys : List (ClassId × FieldType)} {ws : va_W}
/-- 'new E("text")' that isn't thrown at once: the object goes on the stack -/
theorem vx_makeS {cc : ByteArray} {pc : Nat} (hexec : p.tables.exec = Jvm.exec) (hb : c.code = cc) (hl : l.stackTraces = false) {own cls text : String} {names : List String} {ik is ic sa ci : Nat} {A : Nat → Prop} {T0 : u_T}
    (hown : s.vm.findClass own = some m.cls) (hcls : Bundle.fit cls = true) (hnames : ∀ n ∈ names, Bundle.fit n = true)
    (hk : (Cond.classLink own ik cls).before args s = true) (hini : (Cond.initialized cls).before args s = true) (hstr : vk_R own is text sa s) (hat : ∀ w ∈ vx_atS own ic cls names, w.before args s = true)
    (hgood : ∀ w ∈ Cond.classLink own ik cls :: Cond.initialized cls :: vx_atS own ic cls names, vx_ot w = true)
    (hU : vx_Zq Bundle.tN "UNASSIGNED_STACK" Bundle.steD A s s.heap) (hN : vx_Zq Bundle.tN "SUPPRESSED_SENTINEL" Bundle.listD A s s.heap) (hS : va_S A s.heap H locs) (hsize : ls.size = c.maxLocals)
    (d0 : decode cc pc = .ok (.new ik, 3)) (d3 : decode cc (pc + 3) = .ok (.dup, 1)) (d4 : decode cc (pc + 4) = .ok (.ldc is, 2)) (d6 : decode cc (pc + 6) = .ok (.invokespecial ic, 3))
    (hK : va_K D cl tys s) (hP : va_P D cl ws H) (hD : va_D A ws) (hA : ∀ q, s.heap.size ≤ q → A q) (hc : cl[ci]? = some (cls, T0, 0))
    (hRframes : names.length + 3 < R.frames) (hRlocals : (rest.map fun v => v.category).sum + (13 * (names.length + 1) + 43) ≤ R.locals) (hRcells : cells + 1 ≤ R.cells) (hRslots : slots + 6 ≤ R.slots)
    (kk : ∀ (q : Nat) (H1 : Heap), va_P D cl (ws ++ [(q, .inr (ci, []))]) H1 → va_D A (ws ++ [(q, .inr (ci, []))]) → va_S A s.heap H1 locs → W p l e R s m args below meth c H1 locs (cells + 1) (slots + 6) Q (F0 m (pc + 9) ls (.ref q :: rest))) :
    W p l e R s m args below meth c H locs cells slots Q (F0 m pc ls rest) := by
  intro T hT X
  subst hT
  have htr : e.platform.stackTraces = false := (show e.platform.stackTraces = l.stackTraces by rw [X.admits.platform]).trans hl
  have Y := vx_rebase X (R' := { frames := R.frames, locals := R.locals, cells := 1, slots := 6 }) (Nat.le_refl _) (Nat.le_refl _) hRcells hRslots
  obtain ⟨s', hA'⟩ : ∃ z, z = (T.setVm s.vm).setFrames (.invoking m args :: below) := ⟨_, rfl⟩
  rw [← hA'] at Y
  have hvm : s'.vm = s.vm := by rw [hA']; rfl
  have hhp : s'.heap = T.heap := by rw [hA']; rfl
  have hW0 : s.WarmedH s'.vm := by rw [hvm]; exact State.WarmedH.refl s
  have hat' : ∀ w ∈ vx_atS own ic cls names, w.before args s' = true := fun w hw => vx_ot_at hW0 hvm.symm (hgood w (List.mem_cons_of_mem _ (List.mem_cons_of_mem _ hw))) (hat w hw)
  have hk' : (Cond.classLink own ik cls).before args s' = true := vx_ot_at hW0 hvm.symm (hgood _ List.mem_cons_self) hk
  have hini' : (Cond.initialized cls).before args s' = true := vx_ot_at hW0 hvm.symm (hgood _ (List.mem_cons_of_mem _ List.mem_cons_self)) hini
  have hU' : vx_Zq Bundle.tN "UNASSIGNED_STACK" Bundle.steD A s' s'.heap := by rw [hhp]; exact vx_Zq.moved hW0.alike (hU.kept hS.2.1)
  have hN' : vx_Zq Bundle.tN "SUPPRESSED_SENTINEL" Bundle.listD A s' s'.heap := by rw [hhp]; exact vx_Zq.moved hW0.alike (hN.kept hS.2.1)
  have h : ∀ w ∈ Bundle.ownAtoms own ic cls names, w.before args s' = true := vx_own hat' (vx_isRefq hU'.1) (vx_isRefq hN'.1) hU'.2.word hN'.2.word
  have hown' : s'.vm.findClass own = some m.cls := by rw [hvm]; exact hown
  have hins : (Cond.instantiable cls 6).before args s' = true := h _ (by simp [Bundle.ownAtoms])
  obtain ⟨vm₁, cX, kX, hfX, hkX, -, -, X₁, st1⟩ := Y.newCold hexec (own := own) (C := cls) (index := ik) (n := 6) hown' hk' hins hini'
    (g := F0 m pc ls rest) rfl (by rw [hb]; exact d0) (Nat.le_refl _) (Nat.le_refl _)
  generalize hT1 : (T.setVm vm₁).pushCell { cls := cX, slots := kX.instanceTypes.map defaultValue, vm := .none } = T1 at X₁ st1
  have hcat : (Value.ref T.heap.size).category = 1 := rfl
  have hcellA : T1.heap[T.heap.size]? = some (freshCell cX kX) := by rw [← hT1]; exact State.heap_pushCell_size _ _
  have d3' : decode c.code (pc + 3) = .ok (.dup, 1) := by rw [hb]; exact d3
  have d4' : decode c.code (pc + 4) = .ok (.ldc is, 2) := by rw [hb]; exact d4
  have hstr' : vk_R own is text sa s' := vk_R.warm hW0 hstr
  obtain ⟨V, ce, L, Z, hL, hlt, hcl9, hvm9, st⟩ := vx_ctorMadeS X₁ hexec htr (own := own) (cls := cls) (names := names) (ic := ic) hown' hcls hnames h (fun x hx => nomatch hx) hfX hkX hcellA (by rw [hhp]; exact Nat.le_refl _) (msg := .ref sa) rfl
    (g := { method := m, pc := pc + 6, locals := ls, stack := .ref sa :: .ref T.heap.size :: .ref T.heap.size :: rest, locked := none }) rfl hsize (rest := rest) rfl
    (by rw [hb]; exact d6) hRframes (by simp only [List.map_cons, List.sum_cons, hcat]; omega)
  have Z0 := Stand.forget (locs := []) Z (fun y hy => by rw [hL y hy, hhp]; exact Nat.le_refl _)
  obtain ⟨f1, f2⟩ := vx_frame Z0.same
  rw [hhp] at f1 f2
  have hcid : ce.cls = D.1 ci := by
    rw [hcl9]
    have h1 := (hK.1 ci _ hc).2.1
    rw [hvm] at hfX
    exact Option.some.inj (hfX.symm.trans h1)
  have hh : (V.setCell T.heap.size ce).heap[T.heap.size]? = some ce := heapAt_setCell_self (s := V) ce hlt
  subst hA'
  have X5 := vx_back9 X Y Z0
  have X6 : Stand p l e R s m args below meth c (V.setCell T.heap.size ce) locs (cells + 1) (slots + 6) := { X5 with same := X5.same.mono (by omega) (by omega) }
  have hk9 : ∀ (k : Nat) (x : Nat × va_E), ws[k]? = some x → (V.setCell T.heap.size ce).heap[x.1]? = T.heap[x.1]? := fun k x hx => f2 x.1 ((hP k x hx).lt) (fun z hz => nomatch hz)
  obtain ⟨t, a1, b1⟩ := kk T.heap.size (V.setCell T.heap.size ce).heap ((hP.kept hk9).app (fun k x hx => by
      have hz : k < 1 := (List.getElem?_eq_some_iff.mp hx).1
      rw [show k = 0 by omega] at hx
      cases hx
      exact ⟨_, hc, ce, hh, hcid, hvm9, fun k hk => absurd hk (Nat.not_lt_zero k)⟩)) (hD.push hP rfl (hA _ hS.1)) ⟨Nat.le_trans hS.1 f1, fun q h1 h2 => (f2 q (Nat.lt_of_lt_of_le h1 hS.1) (fun z hz => nomatch hz)).trans (hS.2.1 q h1 h2), hS.2.2⟩ _ rfl X6
  refine ⟨t, st1 _ ?_, b1⟩
  show Steps p.tables e below (T1.setTop { method := m, pc := pc + 3, locals := ls, stack := .ref T.heap.size :: rest, locked := none }) _
  jvm_step X₁.here [X₁.here.top, hexec, d3', Value.category]
  exact X₁.ldcString hexec (own := own) (text := text) (index := is) (a := sa) hown' hstr'.1 hstr'.2
    (g := { method := m, pc := pc + 4, locals := ls, stack := .ref T.heap.size :: .ref T.heap.size :: rest, locked := none }) rfl d4' _ (st _ a1)
/-- 'new E()' that isn't thrown at once: the object goes on the stack -/
theorem vx_make0 {cc : ByteArray} {pc : Nat} (hexec : p.tables.exec = Jvm.exec) (hb : c.code = cc) (hl : l.stackTraces = false) {own cls : String} {names : List String} {ik ic ci : Nat} {A : Nat → Prop} {T0 : u_T}
    (hown : s.vm.findClass own = some m.cls) (hcls : Bundle.fit cls = true) (hnames : ∀ n ∈ names, Bundle.fit n = true)
    (hk : (Cond.classLink own ik cls).before args s = true) (hini : (Cond.initialized cls).before args s = true) (hat : ∀ w ∈ vx_at0 own ic cls names, w.before args s = true)
    (hgood : ∀ w ∈ Cond.classLink own ik cls :: Cond.initialized cls :: vx_at0 own ic cls names, vx_ot w = true)
    (hU : vx_Zq Bundle.tN "UNASSIGNED_STACK" Bundle.steD A s s.heap) (hN : vx_Zq Bundle.tN "SUPPRESSED_SENTINEL" Bundle.listD A s s.heap) (hS : va_S A s.heap H locs) (hsize : ls.size = c.maxLocals)
    (d0 : decode cc pc = .ok (.new ik, 3)) (d3 : decode cc (pc + 3) = .ok (.dup, 1)) (d4 : decode cc (pc + 4) = .ok (.invokespecial ic, 3))
    (hK : va_K D cl tys s) (hP : va_P D cl ws H) (hD : va_D A ws) (hA : ∀ q, s.heap.size ≤ q → A q) (hc : cl[ci]? = some (cls, T0, 0))
    (hRframes : names.length + 3 < R.frames) (hRlocals : (rest.map fun v => v.category).sum + (13 * (names.length + 1) + 42) ≤ R.locals) (hRcells : cells + 1 ≤ R.cells) (hRslots : slots + 6 ≤ R.slots)
    (kk : ∀ (q : Nat) (H1 : Heap), va_P D cl (ws ++ [(q, .inr (ci, []))]) H1 → va_D A (ws ++ [(q, .inr (ci, []))]) → va_S A s.heap H1 locs → W p l e R s m args below meth c H1 locs (cells + 1) (slots + 6) Q (F0 m (pc + 7) ls (.ref q :: rest))) :
    W p l e R s m args below meth c H locs cells slots Q (F0 m pc ls rest) := by
  intro T hT X
  subst hT
  have htr : e.platform.stackTraces = false := (show e.platform.stackTraces = l.stackTraces by rw [X.admits.platform]).trans hl
  have Y := vx_rebase X (R' := { frames := R.frames, locals := R.locals, cells := 1, slots := 6 }) (Nat.le_refl _) (Nat.le_refl _) hRcells hRslots
  obtain ⟨s', hA'⟩ : ∃ z, z = (T.setVm s.vm).setFrames (.invoking m args :: below) := ⟨_, rfl⟩
  rw [← hA'] at Y
  have hvm : s'.vm = s.vm := by rw [hA']; rfl
  have hhp : s'.heap = T.heap := by rw [hA']; rfl
  have hW0 : s.WarmedH s'.vm := by rw [hvm]; exact State.WarmedH.refl s
  have hat' : ∀ w ∈ vx_at0 own ic cls names, w.before args s' = true := fun w hw => vx_ot_at hW0 hvm.symm (hgood w (List.mem_cons_of_mem _ (List.mem_cons_of_mem _ hw))) (hat w hw)
  have hk' : (Cond.classLink own ik cls).before args s' = true := vx_ot_at hW0 hvm.symm (hgood _ List.mem_cons_self) hk
  have hini' : (Cond.initialized cls).before args s' = true := vx_ot_at hW0 hvm.symm (hgood _ (List.mem_cons_of_mem _ List.mem_cons_self)) hini
  have hU' : vx_Zq Bundle.tN "UNASSIGNED_STACK" Bundle.steD A s' s'.heap := by rw [hhp]; exact vx_Zq.moved hW0.alike (hU.kept hS.2.1)
  have hN' : vx_Zq Bundle.tN "SUPPRESSED_SENTINEL" Bundle.listD A s' s'.heap := by rw [hhp]; exact vx_Zq.moved hW0.alike (hN.kept hS.2.1)
  have h : ∀ w ∈ Bundle.ownAtoms0 own ic cls names, w.before args s' = true := vx_own hat' (vx_isRefq hU'.1) (vx_isRefq hN'.1) hU'.2.word hN'.2.word
  have hown' : s'.vm.findClass own = some m.cls := by rw [hvm]; exact hown
  have hins : (Cond.instantiable cls 6).before args s' = true := h _ (by simp [Bundle.ownAtoms0])
  obtain ⟨vm₁, cX, kX, hfX, hkX, -, -, X₁, st1⟩ := Y.newCold hexec (own := own) (C := cls) (index := ik) (n := 6) hown' hk' hins hini'
    (g := F0 m pc ls rest) rfl (by rw [hb]; exact d0) (Nat.le_refl _) (Nat.le_refl _)
  generalize hT1 : (T.setVm vm₁).pushCell { cls := cX, slots := kX.instanceTypes.map defaultValue, vm := .none } = T1 at X₁ st1
  have hcat : (Value.ref T.heap.size).category = 1 := rfl
  have hcellA : T1.heap[T.heap.size]? = some (freshCell cX kX) := by rw [← hT1]; exact State.heap_pushCell_size _ _
  have d3' : decode c.code (pc + 3) = .ok (.dup, 1) := by rw [hb]; exact d3
  obtain ⟨V, ce, L, Z, hL, hlt, hcl9, hvm9, st⟩ := vx_ctorMade0 X₁ hexec htr (own := own) (cls := cls) (names := names) (ic := ic) hown' hcls hnames h (fun x hx => nomatch hx) hfX hkX hcellA (by rw [hhp]; exact Nat.le_refl _)
    (g := { method := m, pc := pc + 4, locals := ls, stack := .ref T.heap.size :: .ref T.heap.size :: rest, locked := none }) rfl hsize (rest := rest) rfl
    (by rw [hb]; exact d4) hRframes (by simp only [List.map_cons, List.sum_cons, hcat]; omega)
  have Z0 := Stand.forget (locs := []) Z (fun y hy => by rw [hL y hy, hhp]; exact Nat.le_refl _)
  obtain ⟨f1, f2⟩ := vx_frame Z0.same
  rw [hhp] at f1 f2
  have hcid : ce.cls = D.1 ci := by
    rw [hcl9]
    have h1 := (hK.1 ci _ hc).2.1
    rw [hvm] at hfX
    exact Option.some.inj (hfX.symm.trans h1)
  have hh : (V.setCell T.heap.size ce).heap[T.heap.size]? = some ce := heapAt_setCell_self (s := V) ce hlt
  subst hA'
  have X5 := vx_back9 X Y Z0
  have X6 : Stand p l e R s m args below meth c (V.setCell T.heap.size ce) locs (cells + 1) (slots + 6) := { X5 with same := X5.same.mono (by omega) (by omega) }
  have hk9 : ∀ (k : Nat) (x : Nat × va_E), ws[k]? = some x → (V.setCell T.heap.size ce).heap[x.1]? = T.heap[x.1]? := fun k x hx => f2 x.1 ((hP k x hx).lt) (fun z hz => nomatch hz)
  obtain ⟨t, a1, b1⟩ := kk T.heap.size (V.setCell T.heap.size ce).heap ((hP.kept hk9).app (fun k x hx => by
      have hz : k < 1 := (List.getElem?_eq_some_iff.mp hx).1
      rw [show k = 0 by omega] at hx
      cases hx
      exact ⟨_, hc, ce, hh, hcid, hvm9, fun k hk => absurd hk (Nat.not_lt_zero k)⟩)) (hD.push hP rfl (hA _ hS.1)) ⟨Nat.le_trans hS.1 f1, fun q h1 h2 => (f2 q (Nat.lt_of_lt_of_le h1 hS.1) (fun z hz => nomatch hz)).trans (hS.2.1 q h1 h2), hS.2.2⟩ _ rfl X6
  refine ⟨t, st1 _ ?_, b1⟩
  show Steps p.tables e below (T1.setTop { method := m, pc := pc + 3, locals := ls, stack := .ref T.heap.size :: rest, locked := none }) _
  jvm_step X₁.here [X₁.here.top, hexec, d3', Value.category]
  exact st _ a1
/-- 'throw x' of an object that was made before -/
theorem vx_athrow {cc : ByteArray} {pc : Nat} (hexec : p.tables.exec = Jvm.exec) (hb : c.code = cc) {q : Addr} (hdg : decode cc pc = .ok (.athrow, 1)) (k : vx_W p l e R s m args below meth c H locs cells slots Q (F0 m pc ls rest) q) : W p l e R s m args below meth c H locs cells slots Q (F0 m pc ls (.ref q :: rest)) := by
  intro T hT X
  obtain ⟨t, st, hq⟩ := k T hT X
  refine ⟨t, ?_, hq⟩
  have hdg' : decode c.code pc = .ok (.athrow, 1) := by rw [hb]; exact hdg
  jvm_step X.here [X.here.top, hexec, hdg', athrow.wp_sem]
  exact st
end VXK2
/-! ===== END ===== -/
/-! ===== BEGIN a constructor that throws (launches without stack traces) ===== -/
section VXIA
variable {p : Program} {l : Launch} {e : Env} {R : Room} {s : State} {m : MethodId} {args : Array Value} {below : List Frame} {meth : Method} {c : Code} {T : State} {locs : List Loc} {cells slots : Nat}
theorem vx_callI (X : Stand p l e R s m args below meth c T locs cells slots) (hexec : p.tables.exec = Jvm.exec) {own : String} {index : Nat} {y : MethodName} {bytes : ByteArray} {maxL : Nat}
    (hown : s.vm.findClass own = some m.cls) (hy1 : y.name = "<init>") (hlink : (Cond.methodLink own index y).before args s = true) (hinst : (Cond.instanceMethod y).before args s = true)
    (hcode : (Cond.code y bytes maxL none).before args s = true) (hy : y.cls ≠ "java/lang/invoke/MethodHandle" ∧ y.cls ≠ "java/lang/invoke/VarHandle")
    {W9 : Nat} {Pre : Pt → Array Value → Prop} {Post : Pt → Array Value → Option Value → Pt → Prop} {PostX : Pt → Array Value → Addr → Pt → Prop} (hK : vx_Back l R p e below s args y 3 W9 Pre Post PostX)
    {g : JFrame} (hg : g.method = m) (hsize : g.locals.size = c.maxLocals) {a : Addr} {argsL rest : List Value} (hlen : ∀ sig, parseMethodDescriptor y.desc = some sig → argsL.length = sig.parameters.length)
    (hstack : g.stack = argsL.reverse ++ .ref a :: rest) (hW : 2 * g.monitorRoom + (rest.map fun v => v.category).sum ≤ W9) (hdg : decode c.code g.pc = .ok (.invokespecial index, 3))
    (hpre : ∀ vm₁, s.WarmedH vm₁ → Pre ⟨T.setVm vm₁, locs, cells, slots⟩ (Value.ref a :: argsL).toArray) :
    (∃ (v : Option Value) (vm₁ : Vm) (B : Pt), s.WarmedH vm₁ ∧ Stand p l e R s m args below meth c B.U B.locs B.cells B.slots ∧ Post ⟨T.setVm vm₁, locs, cells, slots⟩ (Value.ref a :: argsL).toArray v B ∧
      ∀ target, Steps p.tables e below (B.U.setTop { g with pc := g.pc + 3, stack := v.toList ++ rest }) target → Steps p.tables e below (T.setTop g) target) ∨
    (∃ (q : Addr) (vm₁ : Vm) (B : Pt), s.WarmedH vm₁ ∧ Stand p l e R s m args below meth c B.U B.locs B.cells B.slots ∧ PostX ⟨T.setVm vm₁, locs, cells, slots⟩ (Value.ref a :: argsL).toArray q B ∧
      Steps p.tables e below (T.setTop g) ((B.U.setTop { g with stack := rest }).pushFrame (.throwing q))) := by
  subst hg
  have hpl : e.platform.magicAccessors = ({} : Platform).magicAccessors := by rw [X.admits.platform]
  obtain ⟨mk, methM, cM, kP, vm₁, hnamed, hmethM, hcodeM, -, hlocalsM, -, hkP, -, hW₁, hstep₁⟩ := Steps.initColdArgs (e := e) X.here hexec X.warmed hpl hown hy1 hy hlink hinst hcode (f := g) rfl hlen hstack hdg
  have X₁ := X.noted hW₁
  rcases hK g.method meth c ⟨T.setVm vm₁, locs, cells, slots⟩ { g with stack := rest } (.invokespecial index) mk (Value.ref a :: argsL).toArray X₁ rfl hsize hdg hW (X₁.named hnamed) (hpre vm₁ X₁.warmed) with ⟨v, B, X', hpost, hsteps⟩ | ⟨q, B, X', hpost, hsteps⟩
  · exact Or.inl ⟨v, vm₁, B, X₁.warmed, X', hpost, fun target h => hstep₁ _ fun acts => by rw [doInvoke_state]; exact hsteps.trans h⟩
  · exact Or.inr ⟨q, vm₁, B, X₁.warmed, X', hpost, hstep₁ _ fun acts => by rw [doInvoke_state]; exact hsteps⟩
end VXIA
section VXIB
variable {p : Program} {l : Launch} {e : Env} {R : Room} {s : State} {m : MethodId} {args : Array Value} {below : List Frame} {meth : Method} {c : Code} {H : Heap} {locs : List Loc} {cells slots : Nat}
variable {y : MethodName} {bytes cc : ByteArray} {maxL nL mc ms n index : Nat} {ret : Option FieldType} {ws : List Cond} {rm : Room} {Pc : Array Value → State → Prop} {Qc : Array Value → State → Outcome → State → Prop} {XC : String → State → State → Prop} {free : Addr → Prop} {Ts : List Cond} {own C : String} {b : Addr} {As rest : List Value} {g : JFrame}
theorem vx_runI (S : CallFix p m c cc nL s args Ts own) (hM : vx_Met l y ws rm Pc Qc XC mc ms free) (cw : CallB R s args own index y bytes maxL none ws rm mc ms n ∧ y.name = "<init>" ∧ (Cond.instanceMethod y).before args s = true) (hp : PreS s H Pc (.ref b :: As))
    (hg : g.method = m) (hn : As.length = n) (hsize : g.locals.size = nL) (hstack : g.stack = As.reverse ++ .ref b :: rest) (hW : 2 * g.monitorRoom + (rest.map fun v => v.category).sum ≤ 8) (hdg : decode cc g.pc = .ok (.invokespecial index, 3)) (hf : cells + mc ≤ R.cells ∧ slots + ms ≤ R.slots) :
    vx_Run p l e R s m args below meth c H locs cells slots mc ms g rest (Qc (Value.ref b :: As).toArray) XC free := by
  have hK : vx_Back l R p e below s args y 3 8 (PreOf R mc ms Pc) (PostOf Qc mc ms free) (vx_Post XC mc ms free) := vx_callBack cw.1 hM hp.1
  obtain ⟨⟨-, -, -, -, -, -, hcode, -, hy, hlen, hl⟩, hy1, hin⟩ := cw
  obtain ⟨hx, hb, hml, ho, -⟩ := S
  have hPc := hp.2
  intro T hT X
  rcases vx_callI X hx (bytes := bytes) (maxL := maxL) ho hy1 hl hin hcode hy hK hg (hsize.trans hml.symm) (a := b) (argsL := As) (rest := rest) (fun sig h => hn.trans (hlen sig h)) hstack hW (by rw [hb]; exact hdg)
    (fun vm₁ hW₁ => ⟨hf.1, hf.2, hPc (T.setVm vm₁) hT hW₁⟩) with ⟨v, vm₁, ⟨U', l2, c2, s2⟩, hW₁, X', ⟨g', mk, t, L, e1, e2, hq, h1, hL, h2, h3⟩, st⟩ | ⟨q, vm₁, ⟨U', l2, c2, s2⟩, hW₁, X', ⟨g', mk, t, L, E, ce, e1, e2, hq, hce, hcv, hcl, h1, hL, h2, h3⟩, st⟩
  · dsimp only [Pt.U, Pt.locs, Pt.cells, Pt.slots] at X' e1 e2 h1 h2 h3 st
    subst h1; subst h2; subst h3
    exact Or.inl ⟨v, (T.setVm vm₁).calling g' mk (Value.ref b :: As).toArray, t, U', L, hT, X', hL, e1, e2, hq, st⟩
  · dsimp only [Pt.U, Pt.locs, Pt.cells, Pt.slots] at X' e1 e2 h1 h2 h3 st hcl
    subst h1; subst h2; subst h3
    exact Or.inr ⟨q, (T.setVm vm₁).calling g' mk (Value.ref b :: As).toArray, t, U', L, E, ce, hT, X', hL, e1, e2, hq, hce, hcv, vx_cls hW₁ hcl, st⟩
end VXIB
/-! ===== END ===== -/
/-! ===== BEGIN a private constructor of a nest mate that throws ===== -/
section VXIC
variable {p : Program} {l : Launch} {e : Env} {R : Room} {s : State} {m : MethodId} {args : Array Value} {below : List Frame} {meth : Method} {c : Code} {T : State} {locs : List Loc} {cells slots : Nat}
theorem vx_callIN (X : Stand p l e R s m args below meth c T locs cells slots) (hexec : p.tables.exec = Jvm.exec) {own : String} {index : Nat} {host : String} {y : MethodName} {bytes : ByteArray} {maxL : Nat}
    (hown : s.vm.findClass own = some m.cls) (hy1 : y.name = "<init>") (hlink : (Cond.methodLinkNest own index y host).before args s = true) (hinst : (Cond.instanceMethod y).before args s = true)
    (hcode : (Cond.code y bytes maxL none).before args s = true) (hy : y.cls ≠ "java/lang/invoke/MethodHandle" ∧ y.cls ≠ "java/lang/invoke/VarHandle")
    {W9 : Nat} {Pre : Pt → Array Value → Prop} {Post : Pt → Array Value → Option Value → Pt → Prop} {PostX : Pt → Array Value → Addr → Pt → Prop} (hK : vx_Back l R p e below s args y 3 W9 Pre Post PostX)
    {g : JFrame} (hg : g.method = m) (hsize : g.locals.size = c.maxLocals) {a : Addr} {argsL rest : List Value} (hlen : ∀ sig, parseMethodDescriptor y.desc = some sig → argsL.length = sig.parameters.length)
    (hstack : g.stack = argsL.reverse ++ .ref a :: rest) (hW : 2 * g.monitorRoom + (rest.map fun v => v.category).sum ≤ W9) (hdg : decode c.code g.pc = .ok (.invokespecial index, 3))
    (hpre : ∀ vm₁, s.WarmedH vm₁ → Pre ⟨T.setVm vm₁, locs, cells, slots⟩ (Value.ref a :: argsL).toArray) :
    (∃ (v : Option Value) (vm₁ : Vm) (B : Pt), s.WarmedH vm₁ ∧ Stand p l e R s m args below meth c B.U B.locs B.cells B.slots ∧ Post ⟨T.setVm vm₁, locs, cells, slots⟩ (Value.ref a :: argsL).toArray v B ∧
      ∀ target, Steps p.tables e below (B.U.setTop { g with pc := g.pc + 3, stack := v.toList ++ rest }) target → Steps p.tables e below (T.setTop g) target) ∨
    (∃ (q : Addr) (vm₁ : Vm) (B : Pt), s.WarmedH vm₁ ∧ Stand p l e R s m args below meth c B.U B.locs B.cells B.slots ∧ PostX ⟨T.setVm vm₁, locs, cells, slots⟩ (Value.ref a :: argsL).toArray q B ∧
      Steps p.tables e below (T.setTop g) ((B.U.setTop { g with stack := rest }).pushFrame (.throwing q))) := by
  subst hg
  have hpl : e.platform.magicAccessors = ({} : Platform).magicAccessors := by rw [X.admits.platform]
  obtain ⟨mk, methM, cM, kP, vm₁, hnamed, hmethM, hcodeM, -, hlocalsM, -, hkP, -, hW₁, hstep₁⟩ := Steps.initColdArgsNest (e := e) X.here hexec X.warmed hpl hown hy1 hy hlink hinst hcode (f := g) rfl hlen hstack hdg
  have X₁ := X.noted hW₁
  rcases hK g.method meth c ⟨T.setVm vm₁, locs, cells, slots⟩ { g with stack := rest } (.invokespecial index) mk (Value.ref a :: argsL).toArray X₁ rfl hsize hdg hW (X₁.named hnamed) (hpre vm₁ X₁.warmed) with ⟨v, B, X', hpost, hsteps⟩ | ⟨q, B, X', hpost, hsteps⟩
  · exact Or.inl ⟨v, vm₁, B, X₁.warmed, X', hpost, fun target h => hstep₁ _ fun acts => by rw [doInvoke_state]; exact hsteps.trans h⟩
  · exact Or.inr ⟨q, vm₁, B, X₁.warmed, X', hpost, hstep₁ _ fun acts => by rw [doInvoke_state]; exact hsteps⟩
end VXIC
section VXID
variable {p : Program} {l : Launch} {e : Env} {R : Room} {s : State} {m : MethodId} {args : Array Value} {below : List Frame} {meth : Method} {c : Code} {H : Heap} {locs : List Loc} {cells slots : Nat}
theorem vx_runIN {y : MethodName} {bytes cc : ByteArray} {maxL nL mc ms n index : Nat} {ws : List Cond} {rm : Room} {Pc : Array Value → State → Prop} {Qc : Array Value → State → Outcome → State → Prop} {XC : String → State → State → Prop} {free : Addr → Prop} {Ts : List Cond} {own host : String} {b : Addr} {As rest : List Value} {g : JFrame}
    (S : CallFix p m c cc nL s args Ts own) (hM : vx_Met l y ws rm Pc Qc XC mc ms free) (cw : va_CN R s args own index y host bytes maxL none ws rm mc ms n ∧ y.name = "<init>" ∧ (Cond.instanceMethod y).before args s = true) (hp : PreS s H Pc (.ref b :: As))
    (hg : g.method = m) (hn : As.length = n) (hsize : g.locals.size = nL) (hstack : g.stack = As.reverse ++ .ref b :: rest) (hW : 2 * g.monitorRoom + (rest.map fun v => v.category).sum ≤ 8) (hdg : decode cc g.pc = .ok (.invokespecial index, 3)) (hf : cells + mc ≤ R.cells ∧ slots + ms ≤ R.slots) :
    vx_Run p l e R s m args below meth c H locs cells slots mc ms g rest (Qc (Value.ref b :: As).toArray) XC free := by
  obtain ⟨⟨⟨hrc, hrs, hfr, hlo, hws, hcw⟩, hcode, hini, hy, hlen, hl⟩, hx1, hx2⟩ := cw
  have hK : vx_Back l R p e below s args y 3 8 (PreOf R mc ms Pc) (PostOf Qc mc ms free) (vx_Post XC mc ms free) := vx_back (bytes := bytes) (maxL := maxL) (ret := none) hM hp.1 hrc hrs hfr hlo hws hcw (fun a' U hW => word_at hW (Or.inl (by first | rfl | simp [Cond.onTables, Cond.keeps, Cond.steady])) hini)
  obtain ⟨hx, hb, hml, ho, -⟩ := S
  have hPc := hp.2
  intro T hT X
  rcases vx_callIN X hx (bytes := bytes) (maxL := maxL) ho hx1 hl hx2 hcode hy hK hg (hsize.trans hml.symm) (a := b) (argsL := As) (rest := rest) (fun sig h => hn.trans (hlen sig h)) hstack hW (by rw [hb]; exact hdg)
    (fun vm₁ hW₁ => ⟨hf.1, hf.2, hPc (T.setVm vm₁) hT hW₁⟩) with ⟨v, vm₁, ⟨U', l2, c2, s2⟩, hW₁, X', ⟨g', mk, t, L, e1, e2, hq, h1, hL, h2, h3⟩, st⟩ | ⟨q, vm₁, ⟨U', l2, c2, s2⟩, hW₁, X', ⟨g', mk, t, L, E, ce, e1, e2, hq, hce, hcv, hcl, h1, hL, h2, h3⟩, st⟩
  · dsimp only [Pt.U, Pt.locs, Pt.cells, Pt.slots] at X' e1 e2 h1 h2 h3 st
    subst h1; subst h2; subst h3
    exact Or.inl ⟨v, (T.setVm vm₁).calling g' mk (Value.ref b :: As).toArray, t, U', L, hT, X', hL, e1, e2, hq, st⟩
  · dsimp only [Pt.U, Pt.locs, Pt.cells, Pt.slots] at X' e1 e2 h1 h2 h3 st hcl
    subst h1; subst h2; subst h3
    exact Or.inr ⟨q, (T.setVm vm₁).calling g' mk (Value.ref b :: As).toArray, t, U', L, E, ce, hT, X', hL, e1, e2, hq, hce, hcv, vx_cls hW₁ hcl, st⟩
end VXID
/-! ===== END ===== -/
/-! ===== BEGIN a method of a class above, found by the receiver, that may throw (follows va_callVU, va_runU of this kit) ===== -/
section
variable {p : Program} {l : Launch} {e : Env} {R : Room} {s : State} {m : MethodId} {args : Array Value} {below : List Frame} {meth : Method} {c : Code} {H : Heap} {locs : List Loc} {cells slots : Nat}
theorem vx_callVU {T : State} {locs : List Loc} {cells slots : Nat} (X : Stand p l e R s m args below meth c T locs cells slots) (hexec : p.tables.exec = Jvm.exec) {own C owner : String} {index : Nat} {x y : MethodName} {bytes : ByteArray} {maxL : Nat} {ret : Option FieldType}
    (hown : s.vm.findClass own = some m.cls) (hlink : (Cond.methodLink own index x).before args s = true) (hsame : (Cond.sameMethod x.cls owner x.name x.desc).before args s = true)
    (hd0 : va_Decl s ⟨owner, x.name, x.desc⟩) (howner : owner ≠ "java/lang/invoke/MethodHandle" ∧ owner ≠ "java/lang/invoke/VarHandle")
    (hsel : (Cond.selects C x y).before args s = true) (hinst : (Cond.instanceMethod y).before args s = true) (hcode : (Cond.code y bytes maxL ret).before args s = true)
    {W : Nat} {Pre : Pt → Array Value → Prop} {Post : Pt → Array Value → Option Value → Pt → Prop} {PostX : Pt → Array Value → Addr → Pt → Prop} (hK : vx_Back l R p e below s args y 3 W Pre Post PostX)
    {b : Addr} {cellB : Cell} (hcell : T.heap[b]? = some cellB) (hobj : cellB.vm.isStatics = false) (hcls : s.vm.findClass C = some cellB.cls)
    {g : JFrame} (hg : g.method = m) (hsize : g.locals.size = c.maxLocals) {argsL rest : List Value} (hlen : ∀ sig, parseMethodDescriptor x.desc = some sig → argsL.length = sig.parameters.length)
    (hstack : g.stack = argsL.reverse ++ .ref b :: rest) (hW : 2 * g.monitorRoom + (rest.map fun v => v.category).sum ≤ W) (hdg : decode c.code g.pc = .ok (.invokevirtual index, 3))
    (hpre : ∀ vm₁, s.WarmedH vm₁ → Pre ⟨T.setVm vm₁, locs, cells, slots⟩ (Value.ref b :: argsL).toArray) :
    (∃ (v : Option Value) (vm₁ : Vm) (B : Pt), s.WarmedH vm₁ ∧ Stand p l e R s m args below meth c B.U B.locs B.cells B.slots ∧ Post ⟨T.setVm vm₁, locs, cells, slots⟩ (Value.ref b :: argsL).toArray v B ∧
      ∀ target, Steps p.tables e below (B.U.setTop { g with pc := g.pc + 3, stack := v.toList ++ rest }) target → Steps p.tables e below (T.setTop g) target) ∨
    (∃ (q : Addr) (vm₁ : Vm) (B : Pt), s.WarmedH vm₁ ∧ Stand p l e R s m args below meth c B.U B.locs B.cells B.slots ∧ PostX ⟨T.setVm vm₁, locs, cells, slots⟩ (Value.ref b :: argsL).toArray q B ∧
      Steps p.tables e below (T.setTop g) ((B.U.setTop { g with stack := rest }).pushFrame (.throwing q))) := by
  obtain ⟨r0, r, hn, hrm, hstR, hsigR⟩ := hd0
  obtain ⟨cn, ck, r1, hcn, hck, hni, hf, hn1⟩ := Cond.sameMethod_found hsame
  cases hn.symm.trans hn1
  obtain ⟨mk, methM, hnamed, hmethM, -, habM⟩ := Cond.instanceMethod_spec hinst
  obtain ⟨c2, r2, m2, q1, q2, q3, q4, kP, hkP, hkPi⟩ := Cond.selects_spec hsel
  cases hcls.symm.trans q1
  cases hf.symm.trans q2
  cases hnamed.symm.trans q3
  have hselP : selectMethod e.platform s.vm cellB.cls r0 = .method mk := by rw [Launch.admits_selectMethod X.admits]; exact q4
  obtain ⟨vm₁, X₁, hstep₁⟩ := X.invokevirtualUp hexec hown hlink hsame howner hn hrm hstR (a := b) (cell := cellB) hcell
    (fun z h => by rw [h] at hobj; cases hobj) hselP hmethM habM hkP hkPi (g := g) hg (argsL := argsL) (rest := rest) (hlen _ hsigR) hstack hdg
  rcases hK m meth c ⟨T.setVm vm₁, locs, cells, slots⟩ { g with stack := rest } (.invokevirtual index) mk (Value.ref b :: argsL).toArray X₁ hg hsize hdg hW (X₁.named hnamed) (hpre vm₁ X₁.warmed) with ⟨v, B, X', hpost, hsteps⟩ | ⟨q, B, X', hpost, hsteps⟩
  · exact Or.inl ⟨v, vm₁, B, X₁.warmed, X', hpost, fun target h => hstep₁ _ fun acts => by rw [doInvoke_state]; exact hsteps.trans h⟩
  · exact Or.inr ⟨q, vm₁, B, X₁.warmed, X', hpost, hstep₁ _ fun acts => by rw [doInvoke_state]; exact hsteps⟩
theorem vx_runU {x y : MethodName} {bytes cc : ByteArray} {maxL nL mc ms n index : Nat} {ret : Option FieldType} {ws : List Cond} {rm : Room} {Pc : Array Value → State → Prop} {Qc : Array Value → State → Outcome → State → Prop} {XC : String → State → State → Prop} {free : Addr → Prop} {Ts : List Cond} {own C owner : String} {b : Addr} {As rest : List Value} {g : JFrame}
    (S : CallFix p m c cc nL s args Ts own) (hM : vx_Met l y ws rm Pc Qc XC mc ms free) (cw : va_CU R s args own C owner index x y bytes maxL ret ws rm mc ms n) (hp : PreV s H C b Pc As)
    (hg : g.method = m) (hn : As.length = n) (hsize : g.locals.size = nL) (hstack : g.stack = As.reverse ++ .ref b :: rest) (hW : 2 * g.monitorRoom + (rest.map fun v => v.category).sum ≤ 8) (hdg : decode cc g.pc = .ok (.invokevirtual index, 3)) (hf : cells + mc ≤ R.cells ∧ slots + ms ≤ R.slots) :
    vx_Run p l e R s m args below meth c H locs cells slots mc ms g rest (Qc (Value.ref b :: As).toArray) XC free := by
  obtain ⟨hrc, hrs, hfr, hlo, hws, hcw⟩ := cw.back
  have hini := cw.init
  have hK : vx_Back l R p e below s args y 3 8 (PreOf R mc ms Pc) (PostOf Qc mc ms free) (vx_Post XC mc ms free) := vx_back (bytes := bytes) (maxL := maxL) (ret := ret) hM hp.1 hrc hrs hfr hlo hws hcw (fun a' U hW => word_at hW (Or.inl (by first | rfl | simp [Cond.onTables, Cond.keeps, Cond.steady])) hini)
  obtain ⟨hx, hb, hml, ho, -⟩ := S
  obtain ⟨-, ⟨cellB, hcB, hoB, hclB⟩, hPc⟩ := hp
  intro T hT X
  rcases vx_callVU X hx (C := C) (owner := owner) (bytes := bytes) (maxL := maxL) (ret := ret) ho cw.link cw.same cw.decl cw.notMH cw.sel cw.inst cw.code hK (by rw [hT]; exact hcB) hoB hclB hg (hsize.trans hml.symm) (argsL := As) (rest := rest) (fun sig h => hn.trans (cw.len sig h)) hstack hW (by rw [hb]; exact hdg)
    (fun vm₁ hW₁ => ⟨hf.1, hf.2, hPc (T.setVm vm₁) hT hW₁⟩) with ⟨v, vm₁, ⟨U', l2, c2, s2⟩, hW₁, X', ⟨g', mk, t, L, e1, e2, hq, h1, hL, h2, h3⟩, st⟩ | ⟨q, vm₁, ⟨U', l2, c2, s2⟩, hW₁, X', ⟨g', mk, t, L, E, ce, e1, e2, hq, hce, hcv, hcl, h1, hL, h2, h3⟩, st⟩
  · dsimp only [Pt.U, Pt.locs, Pt.cells, Pt.slots] at X' e1 e2 h1 h2 h3 st
    subst h1; subst h2; subst h3
    exact Or.inl ⟨v, (T.setVm vm₁).calling g' mk (Value.ref b :: As).toArray, t, U', L, hT, X', hL, e1, e2, hq, st⟩
  · dsimp only [Pt.U, Pt.locs, Pt.cells, Pt.slots] at X' e1 e2 h1 h2 h3 st hcl
    subst h1; subst h2; subst h3
    exact Or.inr ⟨q, (T.setVm vm₁).calling g' mk (Value.ref b :: As).toArray, t, U', L, E, ce, hT, X', hL, e1, e2, hq, hce, hcv, vx_cls hW₁ hcl, st⟩
end
/-! ===== END ===== -/
/-! ===== BEGIN super.m(..) that may throw (follows va_callSU, va_runSU) ===== -/
section
variable {p : Program} {l : Launch} {e : Env} {R : Room} {s : State} {m : MethodId} {args : Array Value} {below : List Frame} {meth : Method} {c : Code} {H : Heap} {locs : List Loc} {cells slots : Nat}
theorem vx_callSU {T : State} {locs : List Loc} {cells slots : Nat} (X : Stand p l e R s m args below meth c T locs cells slots) (hexec : p.tables.exec = Jvm.exec) {own : String} {index : Nat} {y : MethodName} {bytes : ByteArray} {maxL : Nat} {ret : Option FieldType}
    (hown : s.vm.findClass own = some m.cls) (hlink : (Cond.methodLink own index y).before args s = true) (hsame : (Cond.sameMethod y.cls y.cls y.name y.desc).before args s = true) (hsup : (Cond.superclass own y.cls).before args s = true)
    (hinst : (Cond.instanceMethod y).before args s = true) (hcode : (Cond.code y bytes maxL ret).before args s = true) (hno : y.name ≠ "<init>")
    {W : Nat} {Pre : Pt → Array Value → Prop} {Post : Pt → Array Value → Option Value → Pt → Prop} {PostX : Pt → Array Value → Addr → Pt → Prop} (hK : vx_Back l R p e below s args y 3 W Pre Post PostX)
    {b : Addr} {cellB : Cell} {kB : Class} (hcell : T.heap[b]? = some cellB) (hobj : cellB.vm.isStatics = false) (hkB : s.vm.classes[cellB.cls]? = some kB)
    {g : JFrame} (hg : g.method = m) (hsize : g.locals.size = c.maxLocals) {argsL rest : List Value} (hlen : ∀ sig, parseMethodDescriptor y.desc = some sig → argsL.length = sig.parameters.length)
    (hstack : g.stack = argsL.reverse ++ .ref b :: rest) (hW : 2 * g.monitorRoom + (rest.map fun v => v.category).sum ≤ W) (hdg : decode c.code g.pc = .ok (.invokespecial index, 3))
    (hpre : ∀ vm₁, s.WarmedH vm₁ → Pre ⟨T.setVm vm₁, locs, cells, slots⟩ (Value.ref b :: argsL).toArray) :
    (∃ (v : Option Value) (vm₁ : Vm) (B : Pt), s.WarmedH vm₁ ∧ Stand p l e R s m args below meth c B.U B.locs B.cells B.slots ∧ Post ⟨T.setVm vm₁, locs, cells, slots⟩ (Value.ref b :: argsL).toArray v B ∧
      ∀ target, Steps p.tables e below (B.U.setTop { g with pc := g.pc + 3, stack := v.toList ++ rest }) target → Steps p.tables e below (T.setTop g) target) ∨
    (∃ (q : Addr) (vm₁ : Vm) (B : Pt), s.WarmedH vm₁ ∧ Stand p l e R s m args below meth c B.U B.locs B.cells B.slots ∧ PostX ⟨T.setVm vm₁, locs, cells, slots⟩ (Value.ref b :: argsL).toArray q B ∧
      Steps p.tables e below (T.setTop g) ((B.U.setTop { g with stack := rest }).pushFrame (.throwing q))) := by
  obtain ⟨mk, methM, hnamed, hmethM, hstM, habM⟩ := Cond.instanceMethod_spec hinst
  obtain ⟨methM', cM, hmethM', -, -, -, -, -, -, hsigM⟩ := Cond.code_spec hnamed hcode
  cases hmethM.symm.trans hmethM'
  obtain ⟨ps, dk, kp, hps, hdk, hkp, hsuper, -, -, hnid⟩ := Cond.superclass_spec hown hsup
  have hn : s.methodNamed? ⟨y.cls, y.name, y.desc⟩ = some mk := hnamed
  have hpm : ps = mk.cls := Option.some.inj (hps.symm.trans (findClass_of_methodNamed hnamed))
  have hsub : s.vm.isSubclass ps mk.cls = true := by rw [hpm]; simp [Vm.isSubclass, Vm.isSubclassAux]
  obtain ⟨vm₁, X₁, hstep₁⟩ := X.invokespecialUp hexec hown hlink hsame hn hmethM hstM habM hno hdk hnid hps hsuper hsub (a := b) (cell := cellB) hcell
    (fun z h => by rw [h] at hobj; cases hobj) hkB (g := g) hg (argsL := argsL) (rest := rest) (hlen _ hsigM) hstack hdg
  rcases hK m meth c ⟨T.setVm vm₁, locs, cells, slots⟩ { g with stack := rest } (.invokespecial index) mk (Value.ref b :: argsL).toArray X₁ hg hsize hdg hW (X₁.named hnamed) (hpre vm₁ X₁.warmed) with ⟨v, B, X', hpost, hsteps⟩ | ⟨q, B, X', hpost, hsteps⟩
  · exact Or.inl ⟨v, vm₁, B, X₁.warmed, X', hpost, fun target h => hstep₁ _ (by rw [doInvoke_state]; exact hsteps.trans h)⟩
  · exact Or.inr ⟨q, vm₁, B, X₁.warmed, X', hpost, hstep₁ _ (by rw [doInvoke_state]; exact hsteps)⟩
theorem vx_runSU {y : MethodName} {bytes cc : ByteArray} {maxL nL mc ms n index : Nat} {ret : Option FieldType} {ws : List Cond} {rm : Room} {Pc : Array Value → State → Prop} {Qc : Array Value → State → Outcome → State → Prop} {XC : String → State → State → Prop} {free : Addr → Prop} {Ts : List Cond} {own C : String} {cC : ClassId} {b : Addr} {As rest : List Value} {g : JFrame}
    (hat : ClassAt s C cC) (S : CallFix p m c cc nL s args Ts own) (hM : vx_Met l y ws rm Pc Qc XC mc ms free) (cw : va_CS R s args own index y bytes maxL ret ws rm mc ms n) (hp : PreV s H C b Pc As)
    (hg : g.method = m) (hn : As.length = n) (hsize : g.locals.size = nL) (hstack : g.stack = As.reverse ++ .ref b :: rest) (hW : 2 * g.monitorRoom + (rest.map fun v => v.category).sum ≤ 8) (hdg : decode cc g.pc = .ok (.invokespecial index, 3)) (hf : cells + mc ≤ R.cells ∧ slots + ms ≤ R.slots) :
    vx_Run p l e R s m args below meth c H locs cells slots mc ms g rest (Qc (Value.ref b :: As).toArray) XC free := by
  obtain ⟨⟨hrc, hrs, hfr, hlo, hws, hcw⟩, hl1, hl2, hl3, hl4, hini, hcode, hno, hlen⟩ := cw
  have hK : vx_Back l R p e below s args y 3 8 (PreOf R mc ms Pc) (PostOf Qc mc ms free) (vx_Post XC mc ms free) := vx_back (bytes := bytes) (maxL := maxL) (ret := ret) hM hp.1 hrc hrs hfr hlo hws hcw (fun a' U hW => word_at hW (Or.inl (by first | rfl | simp [Cond.onTables, Cond.keeps, Cond.steady])) hini)
  obtain ⟨hx, hb, hml, ho, -⟩ := S
  obtain ⟨-, ⟨cellB, hcB, hoB, hclB⟩, hPc⟩ := hp
  obtain ⟨hfc, kB, hkB, -⟩ := hat
  cases hfc.symm.trans hclB
  intro T hT X
  rcases vx_callSU X hx (bytes := bytes) (maxL := maxL) (ret := ret) ho hl1 hl2 hl3 hl4 hcode hno hK (by rw [hT]; exact hcB) hoB hkB hg (hsize.trans hml.symm) (argsL := As) (rest := rest) (fun sig h => hn.trans (hlen sig h)) hstack hW (by rw [hb]; exact hdg)
    (fun vm₁ hW₁ => ⟨hf.1, hf.2, hPc (T.setVm vm₁) hT hW₁⟩) with ⟨v, vm₁, ⟨U', l2, c2, s2⟩, hW₁, X', ⟨g', mk, t, L, e1, e2, hq, h1, hL, h2, h3⟩, st⟩ | ⟨q, vm₁, ⟨U', l2, c2, s2⟩, hW₁, X', ⟨g', mk, t, L, E, ce, e1, e2, hq, hce, hcv, hcl, h1, hL, h2, h3⟩, st⟩
  · dsimp only [Pt.U, Pt.locs, Pt.cells, Pt.slots] at X' e1 e2 h1 h2 h3 st
    subst h1; subst h2; subst h3
    exact Or.inl ⟨v, (T.setVm vm₁).calling g' mk (Value.ref b :: As).toArray, t, U', L, hT, X', hL, e1, e2, hq, st⟩
  · dsimp only [Pt.U, Pt.locs, Pt.cells, Pt.slots] at X' e1 e2 h1 h2 h3 st hcl
    subst h1; subst h2; subst h3
    exact Or.inr ⟨q, (T.setVm vm₁).calling g' mk (Value.ref b :: As).toArray, t, U', L, E, ce, hT, X', hL, e1, e2, hq, hce, hcv, vx_cls hW₁ hcl, st⟩
end
/-! ===== END ===== -/
/-! ===== BEGIN a private method of a nest mate that may throw (follows va_callVN, va_callSN, va_runVN, va_runSN) ===== -/
section
variable {p : Program} {l : Launch} {e : Env} {R : Room} {s : State} {m : MethodId} {args : Array Value} {below : List Frame} {meth : Method} {c : Code} {H : Heap} {locs : List Loc} {cells slots : Nat}
variable {T : State}
theorem vx_callVN (X : Stand p l e R s m args below meth c T locs cells slots) (hexec : p.tables.exec = Jvm.exec) {own C : String} {index : Nat} {host : String} {y : MethodName} {bytes : ByteArray} {maxL : Nat} {ret : Option FieldType}
    (hown : s.vm.findClass own = some m.cls) (hlink : (Cond.methodLinkNest own index y host).before args s = true) (hinst : (Cond.instanceMethod y).before args s = true) (hsel : (Cond.selects C y y).before args s = true)
    (hcode : (Cond.code y bytes maxL ret).before args s = true) (hy : y.cls ≠ "java/lang/invoke/MethodHandle" ∧ y.cls ≠ "java/lang/invoke/VarHandle")
    {W : Nat} {Pre : Pt → Array Value → Prop} {Post : Pt → Array Value → Option Value → Pt → Prop} {PostX : Pt → Array Value → Addr → Pt → Prop} (hK : vx_Back l R p e below s args y 3 W Pre Post PostX)
    {b : Addr} {cellB : Cell} (hcell : T.heap[b]? = some cellB) (hobj : cellB.vm.isStatics = false) (hcls : s.vm.findClass C = some cellB.cls)
    {g : JFrame} (hg : g.method = m) (hsize : g.locals.size = c.maxLocals) {argsL rest : List Value} (hlen : ∀ sig, parseMethodDescriptor y.desc = some sig → argsL.length = sig.parameters.length)
    (hstack : g.stack = argsL.reverse ++ .ref b :: rest) (hW : 2 * g.monitorRoom + (rest.map fun v => v.category).sum ≤ W) (hdg : decode c.code g.pc = .ok (.invokevirtual index, 3))
    (hpre : ∀ vm₁, s.WarmedH vm₁ → Pre ⟨T.setVm vm₁, locs, cells, slots⟩ (Value.ref b :: argsL).toArray) :
    (∃ (v : Option Value) (vm₁ : Vm) (B : Pt), s.WarmedH vm₁ ∧ Stand p l e R s m args below meth c B.U B.locs B.cells B.slots ∧ Post ⟨T.setVm vm₁, locs, cells, slots⟩ (Value.ref b :: argsL).toArray v B ∧
      ∀ target, Steps p.tables e below (B.U.setTop { g with pc := g.pc + 3, stack := v.toList ++ rest }) target → Steps p.tables e below (T.setTop g) target) ∨
    (∃ (q : Addr) (vm₁ : Vm) (B : Pt), s.WarmedH vm₁ ∧ Stand p l e R s m args below meth c B.U B.locs B.cells B.slots ∧ PostX ⟨T.setVm vm₁, locs, cells, slots⟩ (Value.ref b :: argsL).toArray q B ∧
      Steps p.tables e below (T.setTop g) ((B.U.setTop { g with stack := rest }).pushFrame (.throwing q))) := by
  obtain ⟨mk, methM, hnamed, hmethM, hstM, habM⟩ := Cond.instanceMethod_spec hinst
  obtain ⟨methM', cM, hmethM', -, -, -, -, -, -, hsigM⟩ := Cond.code_spec hnamed hcode
  cases hmethM.symm.trans hmethM'
  obtain ⟨c2, r2, m2, q1, q2, q3, q4, kP, hkP, hkPi⟩ := Cond.selects_spec hsel
  cases hcls.symm.trans q1
  cases (State.methodFound?_of_named hnamed hy).symm.trans q2
  cases hnamed.symm.trans q3
  have hselP : selectMethod e.platform s.vm cellB.cls mk = .method mk := by rw [Launch.admits_selectMethod X.admits]; exact q4
  obtain ⟨vm₁, X₁, hstep₁⟩ := X.invokevirtualNest hexec hown hlink hnamed hmethM hstM hkP hkPi hy (a := b) (cell := cellB) hcell
    (fun z h => by rw [h] at hobj; cases hobj) hselP hmethM habM hkP hkPi (g := g) hg (argsL := argsL) (rest := rest) (hlen _ hsigM) hstack hdg
  rcases hK m meth c ⟨T.setVm vm₁, locs, cells, slots⟩ { g with stack := rest } (.invokevirtual index) mk (Value.ref b :: argsL).toArray X₁ hg hsize hdg hW (X₁.named hnamed) (hpre vm₁ X₁.warmed) with ⟨v, B, X', hpost, hsteps⟩ | ⟨q, B, X', hpost, hsteps⟩
  · exact Or.inl ⟨v, vm₁, B, X₁.warmed, X', hpost, fun target h => hstep₁ _ fun acts => by rw [doInvoke_state]; exact hsteps.trans h⟩
  · exact Or.inr ⟨q, vm₁, B, X₁.warmed, X', hpost, hstep₁ _ fun acts => by rw [doInvoke_state]; exact hsteps⟩
theorem vx_callSN (X : Stand p l e R s m args below meth c T locs cells slots) (hexec : p.tables.exec = Jvm.exec) {own : String} {index : Nat} {host : String} {y : MethodName} {bytes : ByteArray} {maxL : Nat} {ret : Option FieldType}
    (hown : s.vm.findClass own = some m.cls) (hlink : (Cond.methodLinkNest own index y host).before args s = true) (hstat : (Cond.static y).before args s = true) (hinit : (Cond.initialized y.cls).before args s = true)
    (hcode : (Cond.code y bytes maxL ret).before args s = true) (hy : y.cls ≠ "java/lang/invoke/MethodHandle" ∧ y.cls ≠ "java/lang/invoke/VarHandle")
    {W : Nat} {Pre : Pt → Array Value → Prop} {Post : Pt → Array Value → Option Value → Pt → Prop} {PostX : Pt → Array Value → Addr → Pt → Prop} (hK : vx_Back l R p e below s args y 3 W Pre Post PostX)
    {g : JFrame} (hg : g.method = m) (hsize : g.locals.size = c.maxLocals) {argsL rest : List Value} (hlen : ∀ sig, parseMethodDescriptor y.desc = some sig → argsL.length = sig.parameters.length)
    (hstack : g.stack = argsL.reverse ++ rest) (hW : 2 * g.monitorRoom + (rest.map fun v => v.category).sum ≤ W) (hdg : decode c.code g.pc = .ok (.invokestatic index, 3))
    (hpre : ∀ vm₁, s.WarmedH vm₁ → Pre ⟨T.setVm vm₁, locs, cells, slots⟩ argsL.toArray) :
    (∃ (v : Option Value) (vm₁ : Vm) (B : Pt), s.WarmedH vm₁ ∧ Stand p l e R s m args below meth c B.U B.locs B.cells B.slots ∧ Post ⟨T.setVm vm₁, locs, cells, slots⟩ argsL.toArray v B ∧
      ∀ target, Steps p.tables e below (B.U.setTop { g with pc := g.pc + 3, stack := v.toList ++ rest }) target → Steps p.tables e below (T.setTop g) target) ∨
    (∃ (q : Addr) (vm₁ : Vm) (B : Pt), s.WarmedH vm₁ ∧ Stand p l e R s m args below meth c B.U B.locs B.cells B.slots ∧ PostX ⟨T.setVm vm₁, locs, cells, slots⟩ argsL.toArray q B ∧
      Steps p.tables e below (T.setTop g) ((B.U.setTop { g with stack := rest }).pushFrame (.throwing q))) := by
  obtain ⟨mk, hnamed⟩ := Cond.code_named hcode
  obtain ⟨methM, cM, hmethM, -, -, -, -, -, -, hsigM⟩ := Cond.code_spec hnamed hcode
  have hstatic : methM.isStatic = true := Cond.static_spec hnamed hmethM hstat
  obtain ⟨kP, hkP, -⟩ := className_of_methodNamed hnamed
  have hinitP : kP.init = .initialized := Cond.initialized_spec (findClass_of_methodNamed hnamed) hkP hinit
  obtain ⟨vm₁, X₁, hstep₁⟩ := X.invokestaticNest hexec hown hlink hnamed hmethM hstatic hkP hinitP hy (g := g) hg (argsL := argsL) (rest := rest) (hlen _ hsigM) hstack hdg
  rcases hK m meth c ⟨T.setVm vm₁, locs, cells, slots⟩ { g with stack := rest } (.invokestatic index) mk argsL.toArray X₁ hg hsize hdg hW (X₁.named hnamed) (hpre vm₁ X₁.warmed) with ⟨v, B, X', hpost, hsteps⟩ | ⟨q, B, X', hpost, hsteps⟩
  · exact Or.inl ⟨v, vm₁, B, X₁.warmed, X', hpost, fun target h => hstep₁ _ fun acts => by rw [doInvoke_state]; exact hsteps.trans h⟩
  · exact Or.inr ⟨q, vm₁, B, X₁.warmed, X', hpost, hstep₁ _ fun acts => by rw [doInvoke_state]; exact hsteps⟩
theorem vx_runVN {y : MethodName} {bytes cc : ByteArray} {maxL nL mc ms n index : Nat} {ret : Option FieldType} {ws : List Cond} {rm : Room} {Pc : Array Value → State → Prop} {Qc : Array Value → State → Outcome → State → Prop} {XC : String → State → State → Prop} {free : Addr → Prop} {Ts : List Cond} {own C host : String} {b : Addr} {As rest : List Value} {g : JFrame}
    (S : CallFix p m c cc nL s args Ts own) (hM : vx_Met l y ws rm Pc Qc XC mc ms free) (cw : va_CN R s args own index y host bytes maxL ret ws rm mc ms n ∧ (Cond.instanceMethod y).before args s = true ∧ (Cond.selects C y y).before args s = true) (hp : PreV s H C b Pc As)
    (hg : g.method = m) (hn : As.length = n) (hsize : g.locals.size = nL) (hstack : g.stack = As.reverse ++ .ref b :: rest) (hW : 2 * g.monitorRoom + (rest.map fun v => v.category).sum ≤ 8) (hdg : decode cc g.pc = .ok (.invokevirtual index, 3)) (hf : cells + mc ≤ R.cells ∧ slots + ms ≤ R.slots) :
    vx_Run p l e R s m args below meth c H locs cells slots mc ms g rest (Qc (Value.ref b :: As).toArray) XC free := by
  obtain ⟨⟨⟨hrc, hrs, hfr, hlo, hws, hcw⟩, hcode, hini, hy, hlen, hl⟩, hx1, hx2⟩ := cw
  have hK : vx_Back l R p e below s args y 3 8 (PreOf R mc ms Pc) (PostOf Qc mc ms free) (vx_Post XC mc ms free) := vx_back (bytes := bytes) (maxL := maxL) (ret := ret) hM hp.1 hrc hrs hfr hlo hws hcw (fun a' U hW => word_at hW (Or.inl (by first | rfl | simp [Cond.onTables, Cond.keeps, Cond.steady])) hini)
  obtain ⟨hx, hb, hml, ho, -⟩ := S
  obtain ⟨-, ⟨cellB, hcB, hoB, hclB⟩, hPc⟩ := hp
  intro T hT X
  rcases vx_callVN X hx (C := C) (bytes := bytes) (maxL := maxL) (ret := ret) ho hl hx1 hx2 hcode hy hK (by rw [hT]; exact hcB) hoB hclB hg (hsize.trans hml.symm) (argsL := As) (rest := rest) (fun sig h => hn.trans (hlen sig h)) hstack hW (by rw [hb]; exact hdg)
    (fun vm₁ hW₁ => ⟨hf.1, hf.2, hPc (T.setVm vm₁) hT hW₁⟩) with ⟨v, vm₁, ⟨U', l2, c2, s2⟩, hW₁, X', ⟨g', mk, t, L, e1, e2, hq, h1, hL, h2, h3⟩, st⟩ | ⟨q, vm₁, ⟨U', l2, c2, s2⟩, hW₁, X', ⟨g', mk, t, L, E, ce, e1, e2, hq, hce, hcv, hcl, h1, hL, h2, h3⟩, st⟩
  · dsimp only [Pt.U, Pt.locs, Pt.cells, Pt.slots] at X' e1 e2 h1 h2 h3 st
    subst h1; subst h2; subst h3
    exact Or.inl ⟨v, (T.setVm vm₁).calling g' mk (Value.ref b :: As).toArray, t, U', L, hT, X', hL, e1, e2, hq, st⟩
  · dsimp only [Pt.U, Pt.locs, Pt.cells, Pt.slots] at X' e1 e2 h1 h2 h3 st hcl
    subst h1; subst h2; subst h3
    exact Or.inr ⟨q, (T.setVm vm₁).calling g' mk (Value.ref b :: As).toArray, t, U', L, E, ce, hT, X', hL, e1, e2, hq, hce, hcv, vx_cls hW₁ hcl, st⟩
theorem vx_runSN {y : MethodName} {bytes cc : ByteArray} {maxL nL mc ms n index : Nat} {ret : Option FieldType} {ws : List Cond} {rm : Room} {Pc : Array Value → State → Prop} {Qc : Array Value → State → Outcome → State → Prop} {XC : String → State → State → Prop} {free : Addr → Prop} {Ts : List Cond} {own host : String} {As rest : List Value} {g : JFrame}
    (S : CallFix p m c cc nL s args Ts own) (hM : vx_Met l y ws rm Pc Qc XC mc ms free) (cw : va_CN R s args own index y host bytes maxL ret ws rm mc ms n ∧ (Cond.static y).before args s = true ∧ True) (hp : PreS s H Pc As)
    (hg : g.method = m) (hn : As.length = n) (hsize : g.locals.size = nL) (hstack : g.stack = As.reverse ++ rest) (hW : 2 * g.monitorRoom + (rest.map fun v => v.category).sum ≤ 8) (hdg : decode cc g.pc = .ok (.invokestatic index, 3)) (hf : cells + mc ≤ R.cells ∧ slots + ms ≤ R.slots) :
    vx_Run p l e R s m args below meth c H locs cells slots mc ms g rest (Qc As.toArray) XC free := by
  obtain ⟨⟨⟨hrc, hrs, hfr, hlo, hws, hcw⟩, hcode, hini, hy, hlen, hl⟩, hx1, hx2⟩ := cw
  have hK : vx_Back l R p e below s args y 3 8 (PreOf R mc ms Pc) (PostOf Qc mc ms free) (vx_Post XC mc ms free) := vx_back (bytes := bytes) (maxL := maxL) (ret := ret) hM hp.1 hrc hrs hfr hlo hws hcw (fun a' U hW => word_at hW (Or.inl (by first | rfl | simp [Cond.onTables, Cond.keeps, Cond.steady])) hini)
  obtain ⟨hx, hb, hml, ho, -⟩ := S
  have hPc := hp.2
  intro T hT X
  rcases vx_callSN X hx (bytes := bytes) (maxL := maxL) (ret := ret) ho hl hx1 hini hcode hy hK hg (hsize.trans hml.symm) (argsL := As) (rest := rest) (fun sig h => hn.trans (hlen sig h)) hstack hW (by rw [hb]; exact hdg)
    (fun vm₁ hW₁ => ⟨hf.1, hf.2, hPc (T.setVm vm₁) hT hW₁⟩) with ⟨v, vm₁, ⟨U', l2, c2, s2⟩, hW₁, X', ⟨g', mk, t, L, e1, e2, hq, h1, hL, h2, h3⟩, st⟩ | ⟨q, vm₁, ⟨U', l2, c2, s2⟩, hW₁, X', ⟨g', mk, t, L, E, ce, e1, e2, hq, hce, hcv, hcl, h1, hL, h2, h3⟩, st⟩
  · dsimp only [Pt.U, Pt.locs, Pt.cells, Pt.slots] at X' e1 e2 h1 h2 h3 st
    subst h1; subst h2; subst h3
    exact Or.inl ⟨v, (T.setVm vm₁).calling g' mk As.toArray, t, U', L, hT, X', hL, e1, e2, hq, st⟩
  · dsimp only [Pt.U, Pt.locs, Pt.cells, Pt.slots] at X' e1 e2 h1 h2 h3 st hcl
    subst h1; subst h2; subst h3
    exact Or.inr ⟨q, (T.setVm vm₁).calling g' mk As.toArray, t, U', L, E, ce, hT, X', hL, e1, e2, hq, hce, hcv, vx_cls hW₁ hcl, st⟩
end
/-! ===== END ===== -/
/-! ===== BEGIN calls by an interface of methods that may throw (vx_callIF, vx_runF follow va_callIF, va_runF of this kit) ===== -/
section
variable {p : Program} {l : Launch} {e : Env} {R : Room} {s : State} {m : MethodId} {args : Array Value} {below : List Frame} {meth : Method} {c : Code} {H : Heap} {locs : List Loc} {cells slots : Nat} {Q : State → Prop}
variable {mc ms : Nat} {free : Addr → Prop} {A0 A1 : Nat → Prop} {H0 : Heap} {a : Array Value} {pc : Nat} {ls : Array Slot} {st0 rest : List Value}
def vx_Run5 (p : Program) (l : Launch) (e : Env) (R : Room) (s : State) (m : MethodId) (args : Array Value) (below : List Frame) (meth : Method) (c : Code) (H : Heap) (locs : List Loc) (cells slots mc ms : Nat) (g : JFrame) (rest : List Value) (Qa : State → Outcome → State → Prop) (XC : String → State → State → Prop) (free : Addr → Prop) : Prop :=
  ∀ T : State, T.heap = H → Stand p l e R s m args below meth c T locs cells slots →
    (∃ (v : Option Value) (st₀ t T' : State) (L : List Loc), st₀.heap = H ∧ Stand p l e R s m args below meth c T' (locs ++ L) (cells + mc) (slots + ms) ∧ (∀ q ∈ L, free q.base) ∧ T'.heap = t.heap ∧ T'.vm = t.vm ∧ Qa st₀ (.returned v) t ∧
      Goes p e below T g T' { g with pc := g.pc + 5, stack := v.toList ++ rest }) ∨
    (∃ (q : Addr) (st₀ t T' : State) (L : List Loc) (E : String) (ce : Cell), st₀.heap = H ∧ Stand p l e R s m args below meth c T' (locs ++ L) (cells + mc) (slots + ms) ∧ (∀ z ∈ L, free z.base) ∧ T'.heap = t.heap ∧ T'.vm = t.vm ∧ XC E st₀ t ∧ t.heap[q]? = some ce ∧ ce.vm = .none ∧ s.vm.findClass E = some ce.cls ∧
      Steps p.tables e below (T.setTop g) ((T'.setTop { g with stack := rest }).pushFrame (.throwing q)))
theorem vx_callIF {T : State} (X : Stand p l e R s m args below meth c T locs cells slots) (hexec : p.tables.exec = Jvm.exec) {own C : String} {index count : Nat} {x y : MethodName} {bytes : ByteArray} {maxL : Nat} {ret : Option FieldType}
    (hown : s.vm.findClass own = some m.cls) (hlink : (Cond.methodLink own index x).before args s = true) (hdecl : (Cond.declares x).before args s = true) (hface : (Cond.interfaceMethod x.cls x.cls x.name x.desc).before args s = true)
    (hsel : (Cond.selects C x y).before args s = true) (hinst : (Cond.instanceMethod y).before args s = true) (hpub : (Cond.publicMethod y).before args s = true) (hunh : (Cond.unhidden C x.name x.desc).before args s = true)
    (hcast : (Cond.castable C x.cls).before args s = true) (hcode : (Cond.code y bytes maxL ret).before args s = true) (hx : x.cls ≠ "java/lang/invoke/MethodHandle" ∧ x.cls ≠ "java/lang/invoke/VarHandle")
    {W9 : Nat} {Pre : Pt → Array Value → Prop} {Post : Pt → Array Value → Option Value → Pt → Prop} {PostX : Pt → Array Value → Addr → Pt → Prop} (hK : vx_Back l R p e below s args y 5 W9 Pre Post PostX)
    {b : Addr} {cellB : Cell} {kB : Class} (hcell : T.heap[b]? = some cellB) (hobj : cellB.vm.isStatics = false) (hcls : s.vm.findClass C = some cellB.cls) (hkB : s.vm.classes[cellB.cls]? = some kB)
    {g : JFrame} (hg : g.method = m) (hsize : g.locals.size = c.maxLocals) {argsL rest : List Value} (hlen : ∀ sig, parseMethodDescriptor x.desc = some sig → argsL.length = sig.parameters.length)
    (hstack : g.stack = argsL.reverse ++ .ref b :: rest) (hW : 2 * g.monitorRoom + (rest.map fun v => v.category).sum ≤ W9) (hdg : decode c.code g.pc = .ok (.invokeinterface index count, 5))
    (hpre : ∀ vm₁, s.WarmedH vm₁ → Pre ⟨T.setVm vm₁, locs, cells, slots⟩ (Value.ref b :: argsL).toArray) :
    (∃ (v : Option Value) (vm₁ : Vm) (B : Pt), s.WarmedH vm₁ ∧ Stand p l e R s m args below meth c B.U B.locs B.cells B.slots ∧ Post ⟨T.setVm vm₁, locs, cells, slots⟩ (Value.ref b :: argsL).toArray v B ∧
      ∀ target, Steps p.tables e below (B.U.setTop { g with pc := g.pc + 5, stack := v.toList ++ rest }) target → Steps p.tables e below (T.setTop g) target) ∨
    (∃ (q : Addr) (vm₁ : Vm) (B : Pt), s.WarmedH vm₁ ∧ Stand p l e R s m args below meth c B.U B.locs B.cells B.slots ∧ PostX ⟨T.setVm vm₁, locs, cells, slots⟩ (Value.ref b :: argsL).toArray q B ∧
      Steps p.tables e below (T.setTop g) ((B.U.setTop { g with stack := rest }).pushFrame (.throwing q))) := by
  obtain ⟨r0, r, hn, hrm, hstR, hsigR⟩ := Cond.declares_spec hdecl
  obtain ⟨cL, kL, r1, hcL, hkL, hiL, hfoundL, hn1⟩ := Cond.interfaceMethod_spec hface
  cases hn.symm.trans hn1
  have hr0cls : r0.cls = cL := Option.some.inj ((findClass_of_methodNamed hn).symm.trans hcL)
  obtain ⟨hnameR, hdescR⟩ := name_of_methodNamed hn hrm
  obtain ⟨mk, methM, hnamed, hmethM, -, habM⟩ := Cond.instanceMethod_spec hinst
  obtain ⟨c2, r2, m2, q1, q2, q3, q4, -⟩ := Cond.selects_spec hsel
  cases hcls.symm.trans q1
  cases hfoundL.symm.trans q2
  cases hnamed.symm.trans q3
  have hselP : selectMethod e.platform s.vm cellB.cls r0 = .method mk := by rw [Launch.admits_selectMethod X.admits]; exact q4
  have hpubM : hasFlag methM.accessFlags Acc.public_ = true := Cond.publicMethod_spec hnamed hmethM hpub
  have hway : ((cellB.cls :: s.vm.superclasses cellB.cls).any fun k => (declaredIn s.vm r.name r.desc k).any fun (_, z) => z.isPrivate || z.isStatic) = false := by
    rw [hnameR, hdescR]; exact Cond.unhidden_spec hcls hunh
  obtain ⟨c3, t3, w1, w2, w3⟩ := Cond.castable_spec hcast
  cases hcls.symm.trans w1
  cases hcL.symm.trans w2
  obtain ⟨vm₁, X₁, hstep₁⟩ := X.invokeinterface hexec hown hlink hn hrm hstR (by rw [hr0cls]; exact hkL) hiL hx (a := b) (cell := cellB) (kcell := kB) hcell
    (fun z h => by rw [h] at hobj; cases hobj) hkB (by rw [hr0cls]; exact w3) hselP hmethM hway hpubM habM (g := g) hg (argsL := argsL) (rest := rest) (hlen _ hsigR) hstack hdg
  rcases hK m meth c ⟨T.setVm vm₁, locs, cells, slots⟩ { g with stack := rest } (.invokeinterface index count) mk (Value.ref b :: argsL).toArray X₁ hg hsize hdg hW (X₁.named hnamed) (hpre vm₁ X₁.warmed) with ⟨v, B, X', hpost, hsteps⟩ | ⟨q, B, X', hpost, hsteps⟩
  · exact Or.inl ⟨v, vm₁, B, X₁.warmed, X', hpost, fun target h => hstep₁ _ fun acts => by rw [doInvoke_state]; exact hsteps.trans h⟩
  · exact Or.inr ⟨q, vm₁, B, X₁.warmed, X', hpost, hstep₁ _ fun acts => by rw [doInvoke_state]; exact hsteps⟩
theorem vx_runF {x y : MethodName} {bytes cc : ByteArray} {maxL nL mc ms n index count : Nat} {ret : Option FieldType} {ws : List Cond} {rm : Room} {Pc : Array Value → State → Prop} {Qc : Array Value → State → Outcome → State → Prop} {XC : String → State → State → Prop} {free : Addr → Prop} {Ts : List Cond} {own C : String} {cC : ClassId} {b : Addr} {As rest : List Value} {g : JFrame}
    (hat : ClassAt s C cC) (S : CallFix p m c cc nL s args Ts own) (hM : vx_Met l y ws rm Pc Qc XC mc ms free) (cw : va_CI R s args own C index x y bytes maxL ret ws rm mc ms n) (hp : PreV s H C b Pc As)
    (hg : g.method = m) (hn : As.length = n) (hsize : g.locals.size = nL) (hstack : g.stack = As.reverse ++ .ref b :: rest) (hW : 2 * g.monitorRoom + (rest.map fun v => v.category).sum ≤ 8) (hdg : decode cc g.pc = .ok (.invokeinterface index count, 5)) (hf : cells + mc ≤ R.cells ∧ slots + ms ≤ R.slots) :
    vx_Run5 p l e R s m args below meth c H locs cells slots mc ms g rest (Qc (Value.ref b :: As).toArray) XC free := by
  obtain ⟨hrc, hrs, hfr, hlo, hws, hcw⟩ := cw.back
  have hini := cw.init
  have hK : vx_Back l R p e below s args y 5 8 (PreOf R mc ms Pc) (PostOf Qc mc ms free) (vx_Post XC mc ms free) := vx_back (bytes := bytes) (maxL := maxL) (ret := ret) hM hp.1 hrc hrs hfr hlo hws hcw (fun a' U hW => word_at hW (Or.inl (by first | rfl | simp [Cond.onTables, Cond.keeps, Cond.steady])) hini)
  obtain ⟨hx, hb, hml, ho, -⟩ := S
  obtain ⟨-, ⟨cellB, hcB, hoB, hclB⟩, hPc⟩ := hp
  obtain ⟨hfc, kB, hkB, -⟩ := hat
  cases hfc.symm.trans hclB
  intro T hT X
  rcases vx_callIF X hx (C := C) (bytes := bytes) (maxL := maxL) (ret := ret) ho cw.link cw.decl cw.face cw.sel cw.inst cw.pub cw.unh cw.cast cw.code cw.notMH hK (by rw [hT]; exact hcB) hoB hclB hkB hg (hsize.trans hml.symm) (argsL := As) (rest := rest) (fun sig h => hn.trans (cw.len sig h)) hstack hW (by rw [hb]; exact hdg)
    (fun vm₁ hW₁ => ⟨hf.1, hf.2, hPc (T.setVm vm₁) hT hW₁⟩) with ⟨v, vm₁, ⟨U', l2, c2, s2⟩, hW₁, X', ⟨g', mk, t, L, e1, e2, hq, h1, hL, h2, h3⟩, st⟩ | ⟨q, vm₁, ⟨U', l2, c2, s2⟩, hW₁, X', ⟨g', mk, t, L, E, ce, e1, e2, hq, hce, hcv, hcl, h1, hL, h2, h3⟩, st⟩
  · dsimp only [Pt.U, Pt.locs, Pt.cells, Pt.slots] at X' e1 e2 h1 h2 h3 st
    subst h1; subst h2; subst h3
    exact Or.inl ⟨v, (T.setVm vm₁).calling g' mk (Value.ref b :: As).toArray, t, U', L, hT, X', hL, e1, e2, hq, st⟩
  · dsimp only [Pt.U, Pt.locs, Pt.cells, Pt.slots] at X' e1 e2 h1 h2 h3 st hcl
    subst h1; subst h2; subst h3
    exact Or.inr ⟨q, (T.setVm vm₁).calling g' mk (Value.ref b :: As).toArray, t, U', L, E, ce, hT, X', hL, e1, e2, hq, hce, hcv, vx_cls hW₁ hcl, st⟩
theorem vx_callFv {S SX : Type} {post : S → Prop} {px : SX → Prop} {B : S → State → Prop} {BX : String → SX → State → Prop} {AX : Nat → Prop} (hr : vx_Run5 p l e R s m args below meth c H locs cells slots mc ms (F0 m pc ls st0) rest (va_Qv post B A1 a) (vx_X px BX AX) free) (hS : va_S A0 H0 H locs) (hA : ∀ q, q < H.size → A1 q → A0 q) (hf : ∀ q, free q → A0 q) (hAX : ∀ q, q < H.size → AX q → A0 q)
    (kx : ∀ (E : String) (ce : Cell) (q9 : Addr) (u : SX) (t : State) (H1 : Heap) (locs1 : List Loc), t.heap = H1 → s.vm.Alike t.vm → px u → BX E u t → H.size ≤ H1.size → (∀ q : Nat, q < H.size → ¬ AX q → H1[q]? = H[q]?) → va_S A0 H0 H1 locs1 → H1[q9]? = some ce → ce.vm = .none → s.vm.findClass E = some ce.cls → vx_W p l e R s m args below meth c H1 locs1 (cells + mc) (slots + ms) Q (F0 m pc ls rest) q9)
    (kk : ∀ (u : S) (t : State) (H1 : Heap) (locs1 : List Loc), t.heap = H1 → s.vm.Alike t.vm → post u → B u t → H.size ≤ H1.size → (∀ q : Nat, q < H.size → ¬ A1 q → H1[q]? = H[q]?) → va_S A0 H0 H1 locs1 → W p l e R s m args below meth c H1 locs1 (cells + mc) (slots + ms) Q (F0 m (pc + 5) ls (rest))) : W p l e R s m args below meth c H locs cells slots Q (F0 m pc ls st0) := by
  intro T hT X
  rcases hr T hT X with ⟨v, st₀, t, T', L, h0, X', hL, e1, e2, ⟨⟨u, hv, hp, hb⟩, hF⟩, st⟩ | ⟨q, st₀, t, T', L, E, ce, h0, X', hL, e1, e2, ⟨u, hp, hb, hF⟩, hce, hcv, hcl, st⟩
  · cases hv
    obtain ⟨k1, k2, k3⟩ := vx_keep h0 e1 hS hA hf hL hF
    obtain ⟨t2, a1, b1⟩ := kk u t T'.heap (locs ++ L) e1.symm (by rw [← e2]; exact X'.warmed.alike) hp hb k1 k2 k3 T' rfl X'
    exact ⟨t2, st t2 a1, b1⟩
  · obtain ⟨k1, k2, k3⟩ := vx_keep h0 e1 hS hAX hf hL hF
    obtain ⟨t2, a1, b1⟩ := kx E ce q u t T'.heap (locs ++ L) e1.symm (by rw [← e2]; exact X'.warmed.alike) hp hb k1 k2 k3 (by rw [e1]; exact hce) hcv hcl T' rfl X'
    exact ⟨t2, st.trans a1, b1⟩
theorem vx_callFi {S SX : Type} {post : Int32 → S → Prop} {px : SX → Prop} {B : S → State → Prop} {BX : String → SX → State → Prop} {AX : Nat → Prop} (hr : vx_Run5 p l e R s m args below meth c H locs cells slots mc ms (F0 m pc ls st0) rest (va_Qi post B A1 a) (vx_X px BX AX) free) (hS : va_S A0 H0 H locs) (hA : ∀ q, q < H.size → A1 q → A0 q) (hf : ∀ q, free q → A0 q) (hAX : ∀ q, q < H.size → AX q → A0 q)
    (kx : ∀ (E : String) (ce : Cell) (q9 : Addr) (u : SX) (t : State) (H1 : Heap) (locs1 : List Loc), t.heap = H1 → s.vm.Alike t.vm → px u → BX E u t → H.size ≤ H1.size → (∀ q : Nat, q < H.size → ¬ AX q → H1[q]? = H[q]?) → va_S A0 H0 H1 locs1 → H1[q9]? = some ce → ce.vm = .none → s.vm.findClass E = some ce.cls → vx_W p l e R s m args below meth c H1 locs1 (cells + mc) (slots + ms) Q (F0 m pc ls rest) q9)
    (kk : ∀ (r : Int32) (u : S) (t : State) (H1 : Heap) (locs1 : List Loc), t.heap = H1 → s.vm.Alike t.vm → post r u → B u t → H.size ≤ H1.size → (∀ q : Nat, q < H.size → ¬ A1 q → H1[q]? = H[q]?) → va_S A0 H0 H1 locs1 → W p l e R s m args below meth c H1 locs1 (cells + mc) (slots + ms) Q (F0 m (pc + 5) ls (.int r :: rest))) : W p l e R s m args below meth c H locs cells slots Q (F0 m pc ls st0) := by
  intro T hT X
  rcases hr T hT X with ⟨v, st₀, t, T', L, h0, X', hL, e1, e2, ⟨⟨r, u, hv, hp, hb⟩, hF⟩, st⟩ | ⟨q, st₀, t, T', L, E, ce, h0, X', hL, e1, e2, ⟨u, hp, hb, hF⟩, hce, hcv, hcl, st⟩
  · cases hv
    obtain ⟨k1, k2, k3⟩ := vx_keep h0 e1 hS hA hf hL hF
    obtain ⟨t2, a1, b1⟩ := kk r u t T'.heap (locs ++ L) e1.symm (by rw [← e2]; exact X'.warmed.alike) hp hb k1 k2 k3 T' rfl X'
    exact ⟨t2, st t2 a1, b1⟩
  · obtain ⟨k1, k2, k3⟩ := vx_keep h0 e1 hS hAX hf hL hF
    obtain ⟨t2, a1, b1⟩ := kx E ce q u t T'.heap (locs ++ L) e1.symm (by rw [← e2]; exact X'.warmed.alike) hp hb k1 k2 k3 (by rw [e1]; exact hce) hcv hcl T' rfl X'
    exact ⟨t2, st.trans a1, b1⟩
theorem vx_callFl {S SX : Type} {post : Int64 → S → Prop} {px : SX → Prop} {B : S → State → Prop} {BX : String → SX → State → Prop} {AX : Nat → Prop} (hr : vx_Run5 p l e R s m args below meth c H locs cells slots mc ms (F0 m pc ls st0) rest (va_Ql post B A1 a) (vx_X px BX AX) free) (hS : va_S A0 H0 H locs) (hA : ∀ q, q < H.size → A1 q → A0 q) (hf : ∀ q, free q → A0 q) (hAX : ∀ q, q < H.size → AX q → A0 q)
    (kx : ∀ (E : String) (ce : Cell) (q9 : Addr) (u : SX) (t : State) (H1 : Heap) (locs1 : List Loc), t.heap = H1 → s.vm.Alike t.vm → px u → BX E u t → H.size ≤ H1.size → (∀ q : Nat, q < H.size → ¬ AX q → H1[q]? = H[q]?) → va_S A0 H0 H1 locs1 → H1[q9]? = some ce → ce.vm = .none → s.vm.findClass E = some ce.cls → vx_W p l e R s m args below meth c H1 locs1 (cells + mc) (slots + ms) Q (F0 m pc ls rest) q9)
    (kk : ∀ (r : Int64) (u : S) (t : State) (H1 : Heap) (locs1 : List Loc), t.heap = H1 → s.vm.Alike t.vm → post r u → B u t → H.size ≤ H1.size → (∀ q : Nat, q < H.size → ¬ A1 q → H1[q]? = H[q]?) → va_S A0 H0 H1 locs1 → W p l e R s m args below meth c H1 locs1 (cells + mc) (slots + ms) Q (F0 m (pc + 5) ls (.long r :: rest))) : W p l e R s m args below meth c H locs cells slots Q (F0 m pc ls st0) := by
  intro T hT X
  rcases hr T hT X with ⟨v, st₀, t, T', L, h0, X', hL, e1, e2, ⟨⟨r, u, hv, hp, hb⟩, hF⟩, st⟩ | ⟨q, st₀, t, T', L, E, ce, h0, X', hL, e1, e2, ⟨u, hp, hb, hF⟩, hce, hcv, hcl, st⟩
  · cases hv
    obtain ⟨k1, k2, k3⟩ := vx_keep h0 e1 hS hA hf hL hF
    obtain ⟨t2, a1, b1⟩ := kk r u t T'.heap (locs ++ L) e1.symm (by rw [← e2]; exact X'.warmed.alike) hp hb k1 k2 k3 T' rfl X'
    exact ⟨t2, st t2 a1, b1⟩
  · obtain ⟨k1, k2, k3⟩ := vx_keep h0 e1 hS hAX hf hL hF
    obtain ⟨t2, a1, b1⟩ := kx E ce q u t T'.heap (locs ++ L) e1.symm (by rw [← e2]; exact X'.warmed.alike) hp hb k1 k2 k3 (by rw [e1]; exact hce) hcv hcl T' rfl X'
    exact ⟨t2, st.trans a1, b1⟩
theorem vx_callFf {S SX : Type} {post : UInt32 → S → Prop} {px : SX → Prop} {B : S → State → Prop} {BX : String → SX → State → Prop} {AX : Nat → Prop} (hr : vx_Run5 p l e R s m args below meth c H locs cells slots mc ms (F0 m pc ls st0) rest (va_Qf post B A1 a) (vx_X px BX AX) free) (hS : va_S A0 H0 H locs) (hA : ∀ q, q < H.size → A1 q → A0 q) (hf : ∀ q, free q → A0 q) (hAX : ∀ q, q < H.size → AX q → A0 q)
    (kx : ∀ (E : String) (ce : Cell) (q9 : Addr) (u : SX) (t : State) (H1 : Heap) (locs1 : List Loc), t.heap = H1 → s.vm.Alike t.vm → px u → BX E u t → H.size ≤ H1.size → (∀ q : Nat, q < H.size → ¬ AX q → H1[q]? = H[q]?) → va_S A0 H0 H1 locs1 → H1[q9]? = some ce → ce.vm = .none → s.vm.findClass E = some ce.cls → vx_W p l e R s m args below meth c H1 locs1 (cells + mc) (slots + ms) Q (F0 m pc ls rest) q9)
    (kk : ∀ (r : UInt32) (u : S) (t : State) (H1 : Heap) (locs1 : List Loc), t.heap = H1 → s.vm.Alike t.vm → post r u → B u t → H.size ≤ H1.size → (∀ q : Nat, q < H.size → ¬ A1 q → H1[q]? = H[q]?) → va_S A0 H0 H1 locs1 → W p l e R s m args below meth c H1 locs1 (cells + mc) (slots + ms) Q (F0 m (pc + 5) ls (.float r :: rest))) : W p l e R s m args below meth c H locs cells slots Q (F0 m pc ls st0) := by
  intro T hT X
  rcases hr T hT X with ⟨v, st₀, t, T', L, h0, X', hL, e1, e2, ⟨⟨r, u, hv, hp, hb⟩, hF⟩, st⟩ | ⟨q, st₀, t, T', L, E, ce, h0, X', hL, e1, e2, ⟨u, hp, hb, hF⟩, hce, hcv, hcl, st⟩
  · cases hv
    obtain ⟨k1, k2, k3⟩ := vx_keep h0 e1 hS hA hf hL hF
    obtain ⟨t2, a1, b1⟩ := kk r u t T'.heap (locs ++ L) e1.symm (by rw [← e2]; exact X'.warmed.alike) hp hb k1 k2 k3 T' rfl X'
    exact ⟨t2, st t2 a1, b1⟩
  · obtain ⟨k1, k2, k3⟩ := vx_keep h0 e1 hS hAX hf hL hF
    obtain ⟨t2, a1, b1⟩ := kx E ce q u t T'.heap (locs ++ L) e1.symm (by rw [← e2]; exact X'.warmed.alike) hp hb k1 k2 k3 (by rw [e1]; exact hce) hcv hcl T' rfl X'
    exact ⟨t2, st.trans a1, b1⟩
theorem vx_callFd {S SX : Type} {post : UInt64 → S → Prop} {px : SX → Prop} {B : S → State → Prop} {BX : String → SX → State → Prop} {AX : Nat → Prop} (hr : vx_Run5 p l e R s m args below meth c H locs cells slots mc ms (F0 m pc ls st0) rest (va_Qd post B A1 a) (vx_X px BX AX) free) (hS : va_S A0 H0 H locs) (hA : ∀ q, q < H.size → A1 q → A0 q) (hf : ∀ q, free q → A0 q) (hAX : ∀ q, q < H.size → AX q → A0 q)
    (kx : ∀ (E : String) (ce : Cell) (q9 : Addr) (u : SX) (t : State) (H1 : Heap) (locs1 : List Loc), t.heap = H1 → s.vm.Alike t.vm → px u → BX E u t → H.size ≤ H1.size → (∀ q : Nat, q < H.size → ¬ AX q → H1[q]? = H[q]?) → va_S A0 H0 H1 locs1 → H1[q9]? = some ce → ce.vm = .none → s.vm.findClass E = some ce.cls → vx_W p l e R s m args below meth c H1 locs1 (cells + mc) (slots + ms) Q (F0 m pc ls rest) q9)
    (kk : ∀ (r : UInt64) (u : S) (t : State) (H1 : Heap) (locs1 : List Loc), t.heap = H1 → s.vm.Alike t.vm → post r u → B u t → H.size ≤ H1.size → (∀ q : Nat, q < H.size → ¬ A1 q → H1[q]? = H[q]?) → va_S A0 H0 H1 locs1 → W p l e R s m args below meth c H1 locs1 (cells + mc) (slots + ms) Q (F0 m (pc + 5) ls (.double r :: rest))) : W p l e R s m args below meth c H locs cells slots Q (F0 m pc ls st0) := by
  intro T hT X
  rcases hr T hT X with ⟨v, st₀, t, T', L, h0, X', hL, e1, e2, ⟨⟨r, u, hv, hp, hb⟩, hF⟩, st⟩ | ⟨q, st₀, t, T', L, E, ce, h0, X', hL, e1, e2, ⟨u, hp, hb, hF⟩, hce, hcv, hcl, st⟩
  · cases hv
    obtain ⟨k1, k2, k3⟩ := vx_keep h0 e1 hS hA hf hL hF
    obtain ⟨t2, a1, b1⟩ := kk r u t T'.heap (locs ++ L) e1.symm (by rw [← e2]; exact X'.warmed.alike) hp hb k1 k2 k3 T' rfl X'
    exact ⟨t2, st t2 a1, b1⟩
  · obtain ⟨k1, k2, k3⟩ := vx_keep h0 e1 hS hAX hf hL hF
    obtain ⟨t2, a1, b1⟩ := kx E ce q u t T'.heap (locs ++ L) e1.symm (by rw [← e2]; exact X'.warmed.alike) hp hb k1 k2 k3 (by rw [e1]; exact hce) hcv hcl T' rfl X'
    exact ⟨t2, st.trans a1, b1⟩
end
/-! ===== END ===== -/
/-! ===== BEGIN by an interface, a method with a table of its own that may throw (follows va_callIFW, va_runFW) ===== -/
section
variable {p : Program} {l : Launch} {e : Env} {R : Room} {s : State} {m : MethodId} {args : Array Value} {below : List Frame} {meth : Method} {c : Code} {H : Heap} {locs : List Loc} {cells slots : Nat}
theorem vx_callIFW {T : State} (X : Stand p l e R s m args below meth c T locs cells slots) (hexec : p.tables.exec = Jvm.exec) {own C : String} {index count : Nat} {x y : MethodName} {bytes : ByteArray} {maxL : Nat} {ret : Option FieldType} {hh : List (Nat × Nat × Nat × Nat)}
    (hown : s.vm.findClass own = some m.cls) (hlink : (Cond.methodLink own index x).before args s = true) (hdecl : (Cond.declares x).before args s = true) (hface : (Cond.interfaceMethod x.cls x.cls x.name x.desc).before args s = true)
    (hsel : (Cond.selects C x y).before args s = true) (hinst : (Cond.instanceMethod y).before args s = true) (hpub : (Cond.publicMethod y).before args s = true) (hunh : (Cond.unhidden C x.name x.desc).before args s = true)
    (hcast : (Cond.castable C x.cls).before args s = true) (hcode : (Cond.codeWith y bytes maxL ret hh).before args s = true) (hx : x.cls ≠ "java/lang/invoke/MethodHandle" ∧ x.cls ≠ "java/lang/invoke/VarHandle")
    {W : Nat} {Pre : Pt → Array Value → Prop} {Post : Pt → Array Value → Option Value → Pt → Prop} {PostX : Pt → Array Value → Addr → Pt → Prop} (hK : vx_Back l R p e below s args y 5 W Pre Post PostX)
    {b : Addr} {cellB : Cell} {kB : Class} (hcell : T.heap[b]? = some cellB) (hobj : cellB.vm.isStatics = false) (hcls : s.vm.findClass C = some cellB.cls) (hkB : s.vm.classes[cellB.cls]? = some kB)
    {g : JFrame} (hg : g.method = m) (hsize : g.locals.size = c.maxLocals) {argsL rest : List Value} (hlen : ∀ sig, parseMethodDescriptor x.desc = some sig → argsL.length = sig.parameters.length)
    (hstack : g.stack = argsL.reverse ++ .ref b :: rest) (hW : 2 * g.monitorRoom + (rest.map fun v => v.category).sum ≤ W) (hdg : decode c.code g.pc = .ok (.invokeinterface index count, 5))
    (hpre : ∀ vm₁, s.WarmedH vm₁ → Pre ⟨T.setVm vm₁, locs, cells, slots⟩ (Value.ref b :: argsL).toArray) :
    (∃ (v : Option Value) (vm₁ : Vm) (B : Pt), s.WarmedH vm₁ ∧ Stand p l e R s m args below meth c B.U B.locs B.cells B.slots ∧ Post ⟨T.setVm vm₁, locs, cells, slots⟩ (Value.ref b :: argsL).toArray v B ∧
      ∀ target, Steps p.tables e below (B.U.setTop { g with pc := g.pc + 5, stack := v.toList ++ rest }) target → Steps p.tables e below (T.setTop g) target) ∨
    (∃ (q : Addr) (vm₁ : Vm) (B : Pt), s.WarmedH vm₁ ∧ Stand p l e R s m args below meth c B.U B.locs B.cells B.slots ∧ PostX ⟨T.setVm vm₁, locs, cells, slots⟩ (Value.ref b :: argsL).toArray q B ∧
      Steps p.tables e below (T.setTop g) ((B.U.setTop { g with stack := rest }).pushFrame (.throwing q))) := by
  obtain ⟨r0, r, hn, hrm, hstR, hsigR⟩ := Cond.declares_spec hdecl
  obtain ⟨cL, kL, r1, hcL, hkL, hiL, hfoundL, hn1⟩ := Cond.interfaceMethod_spec hface
  cases hn.symm.trans hn1
  have hr0cls : r0.cls = cL := Option.some.inj ((findClass_of_methodNamed hn).symm.trans hcL)
  obtain ⟨hnameR, hdescR⟩ := name_of_methodNamed hn hrm
  obtain ⟨mk, methM, hnamed, hmethM, -, habM⟩ := Cond.instanceMethod_spec hinst
  obtain ⟨c2, r2, m2, q1, q2, q3, q4, -⟩ := Cond.selects_spec hsel
  cases hcls.symm.trans q1
  cases hfoundL.symm.trans q2
  cases hnamed.symm.trans q3
  have hselP : selectMethod e.platform s.vm cellB.cls r0 = .method mk := by rw [Launch.admits_selectMethod X.admits]; exact q4
  have hpubM : hasFlag methM.accessFlags Acc.public_ = true := Cond.publicMethod_spec hnamed hmethM hpub
  have hway : ((cellB.cls :: s.vm.superclasses cellB.cls).any fun k => (declaredIn s.vm r.name r.desc k).any fun (_, z) => z.isPrivate || z.isStatic) = false := by
    rw [hnameR, hdescR]; exact Cond.unhidden_spec hcls hunh
  obtain ⟨c3, t3, w1, w2, w3⟩ := Cond.castable_spec hcast
  cases hcls.symm.trans w1
  cases hcL.symm.trans w2
  obtain ⟨vm₁, X₁, hstep₁⟩ := X.invokeinterface hexec hown hlink hn hrm hstR (by rw [hr0cls]; exact hkL) hiL hx (a := b) (cell := cellB) (kcell := kB) hcell
    (fun z h => by rw [h] at hobj; cases hobj) hkB (by rw [hr0cls]; exact w3) hselP hmethM hway hpubM habM (g := g) hg (argsL := argsL) (rest := rest) (hlen _ hsigR) hstack hdg
  rcases hK m meth c ⟨T.setVm vm₁, locs, cells, slots⟩ { g with stack := rest } (.invokeinterface index count) mk (Value.ref b :: argsL).toArray X₁ hg hsize hdg hW (X₁.named hnamed) (hpre vm₁ X₁.warmed) with ⟨v, B, X', hpost, hsteps⟩ | ⟨q, B, X', hpost, hsteps⟩
  · exact Or.inl ⟨v, vm₁, B, X₁.warmed, X', hpost, fun target h => hstep₁ _ fun acts => by rw [doInvoke_state]; exact hsteps.trans h⟩
  · exact Or.inr ⟨q, vm₁, B, X₁.warmed, X', hpost, hstep₁ _ fun acts => by rw [doInvoke_state]; exact hsteps⟩
theorem vx_runFW {x y : MethodName} {bytes cc : ByteArray} {maxL nL mc ms n index count : Nat} {ret : Option FieldType} {hh : List (Nat × Nat × Nat × Nat)} {ws : List Cond} {rm : Room} {Pc : Array Value → State → Prop} {Qc : Array Value → State → Outcome → State → Prop} {XC : String → State → State → Prop} {free : Addr → Prop} {Ts : List Cond} {own C : String} {cC : ClassId} {b : Addr} {As rest : List Value} {g : JFrame}
    (hat : ClassAt s C cC) (S : CallFix p m c cc nL s args Ts own) (hM : vx_Met l y ws rm Pc Qc XC mc ms free) (cw : va_CIW R s args own C index x y bytes maxL ret hh ws rm mc ms n) (hp : PreV s H C b Pc As)
    (hg : g.method = m) (hn : As.length = n) (hsize : g.locals.size = nL) (hstack : g.stack = As.reverse ++ .ref b :: rest) (hW : 2 * g.monitorRoom + (rest.map fun v => v.category).sum ≤ 8) (hdg : decode cc g.pc = .ok (.invokeinterface index count, 5)) (hf : cells + mc ≤ R.cells ∧ slots + ms ≤ R.slots) :
    vx_Run5 p l e R s m args below meth c H locs cells slots mc ms g rest (Qc (Value.ref b :: As).toArray) XC free := by
  obtain ⟨hrc, hrs, hfr, hlo, hws, hcw⟩ := cw.back
  have hini := cw.init
  have hK : vx_Back l R p e below s args y 5 8 (PreOf R mc ms Pc) (PostOf Qc mc ms free) (vx_Post XC mc ms free) := vx_backW (hh := hh) (bytes := bytes) (maxL := maxL) (ret := ret) hM hp.1 hrc hrs hfr hlo hws hcw (fun a' U hW => word_at hW (Or.inl (by first | rfl | simp [Cond.onTables, Cond.keeps, Cond.steady])) hini)
  obtain ⟨hx, hb, hml, ho, -⟩ := S
  obtain ⟨-, ⟨cellB, hcB, hoB, hclB⟩, hPc⟩ := hp
  obtain ⟨hfc, kB, hkB, -⟩ := hat
  cases hfc.symm.trans hclB
  intro T hT X
  rcases vx_callIFW X hx (C := C) (hh := hh) (bytes := bytes) (maxL := maxL) (ret := ret) ho cw.link cw.decl cw.face cw.sel cw.inst cw.pub cw.unh cw.cast cw.code cw.notMH hK (by rw [hT]; exact hcB) hoB hclB hkB hg (hsize.trans hml.symm) (argsL := As) (rest := rest) (fun sig h => hn.trans (cw.len sig h)) hstack hW (by rw [hb]; exact hdg)
    (fun vm₁ hW₁ => ⟨hf.1, hf.2, hPc (T.setVm vm₁) hT hW₁⟩) with ⟨v, vm₁, ⟨U', l2, c2, s2⟩, hW₁, X', ⟨g', mk, t, L, e1, e2, hq, h1, hL, h2, h3⟩, st⟩ | ⟨q, vm₁, ⟨U', l2, c2, s2⟩, hW₁, X', ⟨g', mk, t, L, E, ce, e1, e2, hq, hce, hcv, hcl, h1, hL, h2, h3⟩, st⟩
  · dsimp only [Pt.U, Pt.locs, Pt.cells, Pt.slots] at X' e1 e2 h1 h2 h3 st
    subst h1; subst h2; subst h3
    exact Or.inl ⟨v, (T.setVm vm₁).calling g' mk (Value.ref b :: As).toArray, t, U', L, hT, X', hL, e1, e2, hq, st⟩
  · dsimp only [Pt.U, Pt.locs, Pt.cells, Pt.slots] at X' e1 e2 h1 h2 h3 st hcl
    subst h1; subst h2; subst h3
    exact Or.inr ⟨q, (T.setVm vm₁).calling g' mk (Value.ref b :: As).toArray, t, U', L, E, ce, hT, X', hL, e1, e2, hq, hce, hcv, vx_cls hW₁ hcl, st⟩
end
/-! ===== END ===== -/
/-! ===== BEGIN .. of methods that hand back an object of the pool ===== -/
section
variable {p : Program} {l : Launch} {e : Env} {R : Room} {s : State} {m : MethodId} {args : Array Value} {below : List Frame} {meth : Method} {c : Code} {H : Heap} {locs : List Loc} {cells slots : Nat} {Q : State → Prop}
variable {mc ms : Nat} {free : Addr → Prop} {A0 A1 : Nat → Prop} {H0 : Heap} {a : Array Value} {pc : Nat} {ls : Array Slot} {st0 rest : List Value}
theorem vx_callq {S SX : Type} {post : Option Nat → S → Prop} {px : SX → Prop} {B : S → State → Prop} {BX : String → SX → State → Prop} {AX : Nat → Prop} (hr : vx_Run p l e R s m args below meth c H locs cells slots mc ms (F0 m pc ls st0) rest (va_Qq post B A1 a) (vx_X px BX AX) free) (hS : va_S A0 H0 H locs) (hA : ∀ q, q < H.size → A1 q → A0 q) (hf : ∀ q, free q → A0 q) (hAX : ∀ q, q < H.size → AX q → A0 q)
    (kx : ∀ (E : String) (ce : Cell) (q9 : Addr) (u : SX) (t : State) (H1 : Heap) (locs1 : List Loc), t.heap = H1 → s.vm.Alike t.vm → px u → BX E u t → H.size ≤ H1.size → (∀ q : Nat, q < H.size → ¬ AX q → H1[q]? = H[q]?) → va_S A0 H0 H1 locs1 → H1[q9]? = some ce → ce.vm = .none → s.vm.findClass E = some ce.cls → vx_W p l e R s m args below meth c H1 locs1 (cells + mc) (slots + ms) Q (F0 m pc ls rest) q9)
    (kk : ∀ (r : Option Nat) (u : S) (t : State) (H1 : Heap) (locs1 : List Loc), t.heap = H1 → s.vm.Alike t.vm → post r u → B u t → H.size ≤ H1.size → (∀ q : Nat, q < H.size → ¬ A1 q → H1[q]? = H[q]?) → va_S A0 H0 H1 locs1 → W p l e R s m args below meth c H1 locs1 (cells + mc) (slots + ms) Q (F0 m (pc + 3) ls (va_rf r :: rest))) : W p l e R s m args below meth c H locs cells slots Q (F0 m pc ls st0) := by
  intro T hT X
  rcases hr T hT X with ⟨v, st₀, t, T', L, h0, X', hL, e1, e2, ⟨⟨r, u, hv, hp, hb⟩, hF⟩, st⟩ | ⟨q, st₀, t, T', L, E, ce, h0, X', hL, e1, e2, ⟨u, hp, hb, hF⟩, hce, hcv, hcl, st⟩
  · cases hv
    obtain ⟨k1, k2, k3⟩ := vx_keep h0 e1 hS hA hf hL hF
    obtain ⟨t2, a1, b1⟩ := kk r u t T'.heap (locs ++ L) e1.symm (by rw [← e2]; exact X'.warmed.alike) hp hb k1 k2 k3 T' rfl X'
    exact ⟨t2, st t2 a1, b1⟩
  · obtain ⟨k1, k2, k3⟩ := vx_keep h0 e1 hS hAX hf hL hF
    obtain ⟨t2, a1, b1⟩ := kx E ce q u t T'.heap (locs ++ L) e1.symm (by rw [← e2]; exact X'.warmed.alike) hp hb k1 k2 k3 (by rw [e1]; exact hce) hcv hcl T' rfl X'
    exact ⟨t2, st.trans a1, b1⟩
end
/-! ===== END ===== -/
/-! ===== BEGIN .. a constant ===== -/
section
variable {p : Program} {l : Launch} {e : Env} {R : Room} {s : State} {m : MethodId} {args : Array Value} {below : List Frame} {meth : Method} {c : Code} {H : Heap} {locs : List Loc} {cells slots : Nat} {Q : State → Prop}
variable {mc ms : Nat} {free : Addr → Prop} {A0 A1 : Nat → Prop} {H0 : Heap} {a : Array Value} {pc : Nat} {ls : Array Slot} {st0 rest : List Value}
theorem vx_calle {ad : Nat → Nat} {S SX : Type} {post : Option Nat → S → Prop} {px : SX → Prop} {B : S → State → Prop} {BX : String → SX → State → Prop} {AX : Nat → Prop} (hr : vx_Run p l e R s m args below meth c H locs cells slots mc ms (F0 m pc ls st0) rest (va_Qe ad post B A1 a) (vx_X px BX AX) free) (hS : va_S A0 H0 H locs) (hA : ∀ q, q < H.size → A1 q → A0 q) (hf : ∀ q, free q → A0 q) (hAX : ∀ q, q < H.size → AX q → A0 q)
    (kx : ∀ (E : String) (ce : Cell) (q9 : Addr) (u : SX) (t : State) (H1 : Heap) (locs1 : List Loc), t.heap = H1 → s.vm.Alike t.vm → px u → BX E u t → H.size ≤ H1.size → (∀ q : Nat, q < H.size → ¬ AX q → H1[q]? = H[q]?) → va_S A0 H0 H1 locs1 → H1[q9]? = some ce → ce.vm = .none → s.vm.findClass E = some ce.cls → vx_W p l e R s m args below meth c H1 locs1 (cells + mc) (slots + ms) Q (F0 m pc ls rest) q9)
    (kk : ∀ (r : Option Nat) (u : S) (t : State) (H1 : Heap) (locs1 : List Loc), t.heap = H1 → s.vm.Alike t.vm → post r u → B u t → H.size ≤ H1.size → (∀ q : Nat, q < H.size → ¬ A1 q → H1[q]? = H[q]?) → va_S A0 H0 H1 locs1 → W p l e R s m args below meth c H1 locs1 (cells + mc) (slots + ms) Q (F0 m (pc + 3) ls (va_re ad r :: rest))) : W p l e R s m args below meth c H locs cells slots Q (F0 m pc ls st0) := by
  intro T hT X
  rcases hr T hT X with ⟨v, st₀, t, T', L, h0, X', hL, e1, e2, ⟨⟨r, u, hv, hp, hb⟩, hF⟩, st⟩ | ⟨q, st₀, t, T', L, E, ce, h0, X', hL, e1, e2, ⟨u, hp, hb, hF⟩, hce, hcv, hcl, st⟩
  · cases hv
    obtain ⟨k1, k2, k3⟩ := vx_keep h0 e1 hS hA hf hL hF
    obtain ⟨t2, a1, b1⟩ := kk r u t T'.heap (locs ++ L) e1.symm (by rw [← e2]; exact X'.warmed.alike) hp hb k1 k2 k3 T' rfl X'
    exact ⟨t2, st t2 a1, b1⟩
  · obtain ⟨k1, k2, k3⟩ := vx_keep h0 e1 hS hAX hf hL hF
    obtain ⟨t2, a1, b1⟩ := kx E ce q u t T'.heap (locs ++ L) e1.symm (by rw [← e2]; exact X'.warmed.alike) hp hb k1 k2 k3 (by rw [e1]; exact hce) hcv hcl T' rfl X'
    exact ⟨t2, st.trans a1, b1⟩
end
/-! ===== END ===== -/
/-! ===== BEGIN .. by an interface, an object ===== -/
section
variable {p : Program} {l : Launch} {e : Env} {R : Room} {s : State} {m : MethodId} {args : Array Value} {below : List Frame} {meth : Method} {c : Code} {H : Heap} {locs : List Loc} {cells slots : Nat} {Q : State → Prop}
variable {mc ms : Nat} {free : Addr → Prop} {A0 A1 : Nat → Prop} {H0 : Heap} {a : Array Value} {pc : Nat} {ls : Array Slot} {st0 rest : List Value}
theorem vx_callFq {S SX : Type} {post : Option Nat → S → Prop} {px : SX → Prop} {B : S → State → Prop} {BX : String → SX → State → Prop} {AX : Nat → Prop} (hr : vx_Run5 p l e R s m args below meth c H locs cells slots mc ms (F0 m pc ls st0) rest (va_Qq post B A1 a) (vx_X px BX AX) free) (hS : va_S A0 H0 H locs) (hA : ∀ q, q < H.size → A1 q → A0 q) (hf : ∀ q, free q → A0 q) (hAX : ∀ q, q < H.size → AX q → A0 q)
    (kx : ∀ (E : String) (ce : Cell) (q9 : Addr) (u : SX) (t : State) (H1 : Heap) (locs1 : List Loc), t.heap = H1 → s.vm.Alike t.vm → px u → BX E u t → H.size ≤ H1.size → (∀ q : Nat, q < H.size → ¬ AX q → H1[q]? = H[q]?) → va_S A0 H0 H1 locs1 → H1[q9]? = some ce → ce.vm = .none → s.vm.findClass E = some ce.cls → vx_W p l e R s m args below meth c H1 locs1 (cells + mc) (slots + ms) Q (F0 m pc ls rest) q9)
    (kk : ∀ (r : Option Nat) (u : S) (t : State) (H1 : Heap) (locs1 : List Loc), t.heap = H1 → s.vm.Alike t.vm → post r u → B u t → H.size ≤ H1.size → (∀ q : Nat, q < H.size → ¬ A1 q → H1[q]? = H[q]?) → va_S A0 H0 H1 locs1 → W p l e R s m args below meth c H1 locs1 (cells + mc) (slots + ms) Q (F0 m (pc + 5) ls (va_rf r :: rest))) : W p l e R s m args below meth c H locs cells slots Q (F0 m pc ls st0) := by
  intro T hT X
  rcases hr T hT X with ⟨v, st₀, t, T', L, h0, X', hL, e1, e2, ⟨⟨r, u, hv, hp, hb⟩, hF⟩, st⟩ | ⟨q, st₀, t, T', L, E, ce, h0, X', hL, e1, e2, ⟨u, hp, hb, hF⟩, hce, hcv, hcl, st⟩
  · cases hv
    obtain ⟨k1, k2, k3⟩ := vx_keep h0 e1 hS hA hf hL hF
    obtain ⟨t2, a1, b1⟩ := kk r u t T'.heap (locs ++ L) e1.symm (by rw [← e2]; exact X'.warmed.alike) hp hb k1 k2 k3 T' rfl X'
    exact ⟨t2, st t2 a1, b1⟩
  · obtain ⟨k1, k2, k3⟩ := vx_keep h0 e1 hS hAX hf hL hF
    obtain ⟨t2, a1, b1⟩ := kx E ce q u t T'.heap (locs ++ L) e1.symm (by rw [← e2]; exact X'.warmed.alike) hp hb k1 k2 k3 (by rw [e1]; exact hce) hcv hcl T' rfl X'
    exact ⟨t2, st.trans a1, b1⟩
end
/-! ===== END ===== -/
/-! ===== BEGIN .. by an interface, a constant ===== -/
section
variable {p : Program} {l : Launch} {e : Env} {R : Room} {s : State} {m : MethodId} {args : Array Value} {below : List Frame} {meth : Method} {c : Code} {H : Heap} {locs : List Loc} {cells slots : Nat} {Q : State → Prop}
variable {mc ms : Nat} {free : Addr → Prop} {A0 A1 : Nat → Prop} {H0 : Heap} {a : Array Value} {pc : Nat} {ls : Array Slot} {st0 rest : List Value}
theorem vx_callFe {ad : Nat → Nat} {S SX : Type} {post : Option Nat → S → Prop} {px : SX → Prop} {B : S → State → Prop} {BX : String → SX → State → Prop} {AX : Nat → Prop} (hr : vx_Run5 p l e R s m args below meth c H locs cells slots mc ms (F0 m pc ls st0) rest (va_Qe ad post B A1 a) (vx_X px BX AX) free) (hS : va_S A0 H0 H locs) (hA : ∀ q, q < H.size → A1 q → A0 q) (hf : ∀ q, free q → A0 q) (hAX : ∀ q, q < H.size → AX q → A0 q)
    (kx : ∀ (E : String) (ce : Cell) (q9 : Addr) (u : SX) (t : State) (H1 : Heap) (locs1 : List Loc), t.heap = H1 → s.vm.Alike t.vm → px u → BX E u t → H.size ≤ H1.size → (∀ q : Nat, q < H.size → ¬ AX q → H1[q]? = H[q]?) → va_S A0 H0 H1 locs1 → H1[q9]? = some ce → ce.vm = .none → s.vm.findClass E = some ce.cls → vx_W p l e R s m args below meth c H1 locs1 (cells + mc) (slots + ms) Q (F0 m pc ls rest) q9)
    (kk : ∀ (r : Option Nat) (u : S) (t : State) (H1 : Heap) (locs1 : List Loc), t.heap = H1 → s.vm.Alike t.vm → post r u → B u t → H.size ≤ H1.size → (∀ q : Nat, q < H.size → ¬ A1 q → H1[q]? = H[q]?) → va_S A0 H0 H1 locs1 → W p l e R s m args below meth c H1 locs1 (cells + mc) (slots + ms) Q (F0 m (pc + 5) ls (va_re ad r :: rest))) : W p l e R s m args below meth c H locs cells slots Q (F0 m pc ls st0) := by
  intro T hT X
  rcases hr T hT X with ⟨v, st₀, t, T', L, h0, X', hL, e1, e2, ⟨⟨r, u, hv, hp, hb⟩, hF⟩, st⟩ | ⟨q, st₀, t, T', L, E, ce, h0, X', hL, e1, e2, ⟨u, hp, hb, hF⟩, hce, hcv, hcl, st⟩
  · cases hv
    obtain ⟨k1, k2, k3⟩ := vx_keep h0 e1 hS hA hf hL hF
    obtain ⟨t2, a1, b1⟩ := kk r u t T'.heap (locs ++ L) e1.symm (by rw [← e2]; exact X'.warmed.alike) hp hb k1 k2 k3 T' rfl X'
    exact ⟨t2, st t2 a1, b1⟩
  · obtain ⟨k1, k2, k3⟩ := vx_keep h0 e1 hS hAX hf hL hF
    obtain ⟨t2, a1, b1⟩ := kx E ce q u t T'.heap (locs ++ L) e1.symm (by rw [← e2]; exact X'.warmed.alike) hp hb k1 k2 k3 (by rw [e1]; exact hce) hcv hcl T' rfl X'
    exact ⟨t2, st.trans a1, b1⟩
end
/-! ===== END ===== -/
/-! ===== BEGIN what the machine throws by itself: null at a field, at athrow ===== -/
section VXM2
variable {p : Program} {l : Launch} {e : Env} {R : Room} {s : State} {m : MethodId} {args : Array Value} {below : List Frame} {meth : Method} {c : Code} {H : Heap} {locs : List Loc} {cells slots : Nat}
variable {Q : State → Prop} {cc : ByteArray} {pc : Nat} {ls : Array Slot} {rest : List Value}
theorem vx_getfN {D cl tys} {own ref C : String} {T : u_T} {N ci index : Nat} {Ts : List Cond} (hexec : p.tables.exec = Jvm.exec) (hb : c.code = cc) (hts : ∀ w ∈ Ts, w.before args s = true) (hin : ∀ w ∈ u_ws C T N, w ∈ Ts) (hown : s.vm.findClass own = some m.cls) (hK : va_K D cl tys s) (hc : cl[ci]? = some (C, T, N)) (k : Nat) (hk : k < N) (hlink : (Cond.fieldLink own index ref (T k).2.1 (T k).2.2.1).before args s = true) (hsame : ∀ x, s.fieldFound? (T k).1 (T k).2.1 (T k).2.2.1 = some x → s.fieldFound? ref (T k).2.1 (T k).2.2.1 = some x) (hdg : decode cc pc = .ok (.getfield index, 3)) (kk : vx_NoteN p l e R s m args below meth c H locs cells slots Q (F0 m pc ls rest)) : W p l e R s m args below meth c H locs cells slots Q (F0 m pc ls (.null :: rest)) := by
  obtain ⟨hS, hfc, kC, hkC, -⟩ := hK.1 ci _ hc
  obtain ⟨cf, kf, fi, f, hi, -⟩ := hS k hk
  intro U hU X
  obtain ⟨vm', X1, st1⟩ := X.getfieldNull hexec hown hlink (hsame _ hi) (u_facts hfc hkC (u_lays hts hin hk) hi).1 (g := F0 m pc ls (.null :: rest)) rfl (rest := rest) rfl (by rw [hb]; exact hdg)
  obtain ⟨t, st, q⟩ := kk (U.setVm vm') hU X1
  exact ⟨t, st1 t st, q⟩
theorem vx_getfNN {D cl tys} {own ref C host : String} {T : u_T} {N ci index : Nat} {Ts : List Cond} (hexec : p.tables.exec = Jvm.exec) (hb : c.code = cc) (hts : ∀ w ∈ Ts, w.before args s = true) (hin : ∀ w ∈ u_ws C T N, w ∈ Ts) (hown : s.vm.findClass own = some m.cls) (hK : va_K D cl tys s) (hc : cl[ci]? = some (C, T, N)) (k : Nat) (hk : k < N) (hlink : (Cond.fieldLinkNest own index ref (T k).2.1 (T k).2.2.1 host).before args s = true) (hsame : ∀ x, s.fieldFound? (T k).1 (T k).2.1 (T k).2.2.1 = some x → s.fieldFound? ref (T k).2.1 (T k).2.2.1 = some x) (hdg : decode cc pc = .ok (.getfield index, 3)) (kk : vx_NoteN p l e R s m args below meth c H locs cells slots Q (F0 m pc ls rest)) : W p l e R s m args below meth c H locs cells slots Q (F0 m pc ls (.null :: rest)) := by
  obtain ⟨hS, hfc, kC, hkC, -⟩ := hK.1 ci _ hc
  obtain ⟨cf, kf, fi, f, hi, -⟩ := hS k hk
  intro U hU X
  obtain ⟨vm', X1, st1⟩ := X.getfieldNullNest hexec hown hlink (hsame _ hi) (u_facts hfc hkC (u_lays hts hin hk) hi).1 (g := F0 m pc ls (.null :: rest)) rfl (rest := rest) rfl (by rw [hb]; exact hdg)
  obtain ⟨t, st, q⟩ := kk (U.setVm vm') hU X1
  exact ⟨t, st1 t st, q⟩
theorem vx_putfN {D cl tys} {own ref C : String} {T : u_T} {N ci index : Nat} {Ts : List Cond} (hexec : p.tables.exec = Jvm.exec) (hb : c.code = cc) (hts : ∀ w ∈ Ts, w.before args s = true) (hin : ∀ w ∈ u_ws C T N, w ∈ Ts) (hown : s.vm.findClass own = some m.cls) (hK : va_K D cl tys s) (hc : cl[ci]? = some (C, T, N)) (k : Nat) (hk : k < N) (hlink : (Cond.fieldLink own index ref (T k).2.1 (T k).2.2.1).before args s = true) (hsame : ∀ x, s.fieldFound? (T k).1 (T k).2.1 (T k).2.2.1 = some x → s.fieldFound? ref (T k).2.1 (T k).2.2.1 = some x) (hfin : (T k).2.2.2 = false) {v : Value} (hdg : decode cc pc = .ok (.putfield index, 3)) (kk : vx_NoteN p l e R s m args below meth c H locs cells slots Q (F0 m pc ls rest)) : W p l e R s m args below meth c H locs cells slots Q (F0 m pc ls (v :: .null :: rest)) := by
  obtain ⟨hS, hfc, kC, hkC, -⟩ := hK.1 ci _ hc
  obtain ⟨cf, kf, fi, f, hi, -⟩ := hS k hk
  have hlay := hts _ (hin _ (u_in_lay hk))
  unfold u_lay at hlay
  rw [if_neg (by rw [hfin]; decide)] at hlay
  obtain ⟨c9, k9, cf9, kf9, fi9, f9, -, -, hi9, hst9, hnf9, -⟩ := Cond.lays_spec hlay
  cases hi.symm.trans hi9
  intro U hU X
  obtain ⟨vm', X1, st1⟩ := X.putfieldNull hexec hown hlink (hsame _ hi) hst9 hnf9 (g := F0 m pc ls (v :: .null :: rest)) rfl (v := v) (rest := rest) rfl (by rw [hb]; exact hdg)
  obtain ⟨t, st, q⟩ := kk (U.setVm vm') hU X1
  exact ⟨t, st1 t st, q⟩
theorem vx_putfNN {D cl tys} {own ref C host : String} {T : u_T} {N ci index : Nat} {Ts : List Cond} (hexec : p.tables.exec = Jvm.exec) (hb : c.code = cc) (hts : ∀ w ∈ Ts, w.before args s = true) (hin : ∀ w ∈ u_ws C T N, w ∈ Ts) (hown : s.vm.findClass own = some m.cls) (hK : va_K D cl tys s) (hc : cl[ci]? = some (C, T, N)) (k : Nat) (hk : k < N) (hlink : (Cond.fieldLinkNest own index ref (T k).2.1 (T k).2.2.1 host).before args s = true) (hsame : ∀ x, s.fieldFound? (T k).1 (T k).2.1 (T k).2.2.1 = some x → s.fieldFound? ref (T k).2.1 (T k).2.2.1 = some x) (hfin : (T k).2.2.2 = false) {v : Value} (hdg : decode cc pc = .ok (.putfield index, 3)) (kk : vx_NoteN p l e R s m args below meth c H locs cells slots Q (F0 m pc ls rest)) : W p l e R s m args below meth c H locs cells slots Q (F0 m pc ls (v :: .null :: rest)) := by
  obtain ⟨hS, hfc, kC, hkC, -⟩ := hK.1 ci _ hc
  obtain ⟨cf, kf, fi, f, hi, -⟩ := hS k hk
  have hlay := hts _ (hin _ (u_in_lay hk))
  unfold u_lay at hlay
  rw [if_neg (by rw [hfin]; decide)] at hlay
  obtain ⟨c9, k9, cf9, kf9, fi9, f9, -, -, hi9, hst9, hnf9, -⟩ := Cond.lays_spec hlay
  cases hi.symm.trans hi9
  intro U hU X
  obtain ⟨vm', X1, st1⟩ := X.putfieldNullNest hexec hown hlink (hsame _ hi) hst9 hnf9 (g := F0 m pc ls (v :: .null :: rest)) rfl (v := v) (rest := rest) rfl (by rw [hb]; exact hdg)
  obtain ⟨t, st, q⟩ := kk (U.setVm vm') hU X1
  exact ⟨t, st1 t st, q⟩
theorem vx_athrowN (hexec : p.tables.exec = Jvm.exec) (hb : c.code = cc) (hdg : decode cc pc = .ok (.athrow, 1)) (k : vx_NoteN p l e R s m args below meth c H locs cells slots Q (F0 m pc ls rest)) : W p l e R s m args below meth c H locs cells slots Q (F0 m pc ls (.null :: rest)) := by
  intro T hT X
  obtain ⟨t, st, q⟩ := k T hT X
  exact ⟨t, X.athrowNull hexec (g := F0 m pc ls (.null :: rest)) rfl (rest := rest) rfl (by rw [hb]; exact hdg) t st, q⟩
end VXM2
/-! ===== END ===== -/
end
section
/-! ===== THE LOGIC, part 1: an abstract heap over whole numbers; what holds of a state that it pictures ===== -/
abbrev AV : Type := Int ⊕ (Option Nat ⊕ (Int ⊕ UInt64))
abbrev vI (n : Int) : AV := Sum.inl n
abbrev vR (r : Option Nat) : AV := Sum.inr (Sum.inl r)
abbrev vL (n : Int) : AV := Sum.inr (Sum.inr (Sum.inl n))
abbrev vD (b : UInt64) : AV := Sum.inr (Sum.inr (Sum.inr b))
def conc : AV → Value := fun v => match v with
  | Sum.inl n => .int (Int32.ofInt n)
  | Sum.inr (Sum.inl r) => va_rf r
  | Sum.inr (Sum.inr (Sum.inl n)) => .long (Int64.ofInt n)
  | Sum.inr (Sum.inr (Sum.inr b)) => .double b
def cat2 : AV → Bool := fun v => match v with
  | Sum.inr (Sum.inr _) => true
  | _ => false
theorem conc_cat (v : AV) : (conc v).category = if cat2 v = true then 2 else 1 := by
  match v with
  | Sum.inl n => rfl
  | Sum.inr (Sum.inl none) => rfl
  | Sum.inr (Sum.inl (some a)) => rfl
  | Sum.inr (Sum.inr (Sum.inl n)) => rfl
  | Sum.inr (Sum.inr (Sum.inr b)) => rfl
/-- kinds, lengths, whole numbers, references, longs, the next address, slots in use, the two bounds -/
abbrev Hp : Type := (Nat → Nat) × (Nat → Int) × (Nat → Int → Int) × (Nat → Int → Option Nat) × (Nat → Int → Int) × Nat × Nat × Nat × Nat
def kd (h : Hp) : Nat → Nat := h.1
def ln (h : Hp) : Nat → Int := h.2.1
def hi (h : Hp) : Nat → Int → Int := h.2.2.1
def hr (h : Hp) : Nat → Int → Option Nat := h.2.2.2.1
def hl (h : Hp) : Nat → Int → Int := h.2.2.2.2.1
def nx (h : Hp) : Nat := h.2.2.2.2.2.1
def us (h : Hp) : Nat := h.2.2.2.2.2.2.1
def cn (h : Hp) : Nat := h.2.2.2.2.2.2.2.1
def cs (h : Hp) : Nat := h.2.2.2.2.2.2.2.2
def up2 {α : Type} (f : Nat → Int → α) (a : Nat) (k : Int) (v : α) : Nat → Int → α := fun b j => if b = a ∧ j = k then v else f b j
def up1 {α : Type} (f : Nat → α) (a : Nat) (v : α) : Nat → α := fun b => if b = a then v else f b
def setI (h : Hp) (a : Nat) (k v : Int) : Hp := (kd h, ln h, up2 (hi h) a k v, hr h, hl h, nx h, us h, cn h, cs h)
def setR (h : Hp) (a : Nat) (k : Int) (v : Option Nat) : Hp := (kd h, ln h, hi h, up2 (hr h) a k v, hl h, nx h, us h, cn h, cs h)
def setL (h : Hp) (a : Nat) (k v : Int) : Hp := (kd h, ln h, hi h, hr h, up2 (hl h) a k v, nx h, us h, cn h, cs h)
/-- a new cell of kind K, n slots -/
def mkO (h : Hp) (K : Nat) (n : Int) : Hp := (up1 (kd h) (nx h) K, up1 (ln h) (nx h) n, up1 (hi h) (nx h) (fun _ => 0), up1 (hr h) (nx h) (fun _ => none), up1 (hl h) (nx h) (fun _ => 0), nx h + 1, us h + n.toNat, cn h, cs h)
/-- a cell that nothing tells of -/
def mkG (h : Hp) (n : Nat) : Hp := (kd h, ln h, hi h, hr h, hl h, nx h + 1, us h + n, cn h, cs h)
theorem up2_same {α : Type} (f : Nat → Int → α) (a : Nat) (k : Int) (v : α) : up2 f a k v a k = v := by simp [up2]
theorem up2_ne {α : Type} (f : Nat → Int → α) {a b : Nat} {k j : Int} (v : α) (h : ¬ (b = a ∧ j = k)) : up2 f a k v b j = f b j := by simp only [up2, if_neg h]
theorem up1_same {α : Type} (f : Nat → α) (a : Nat) (v : α) : up1 f a v a = v := by simp [up1]
theorem up1_ne {α : Type} (f : Nat → α) {a b : Nat} (v : α) (h : ¬ b = a) : up1 f a v b = f b := by simp only [up1, if_neg h]
theorem kd_setI (h : Hp) (a : Nat) (k v : Int) : kd (setI h a k v) = kd h := rfl
theorem ln_setI (h : Hp) (a : Nat) (k v : Int) : ln (setI h a k v) = ln h := rfl
theorem hi_setI (h : Hp) (a : Nat) (k v : Int) : hi (setI h a k v) = up2 (hi h) a k v := rfl
theorem hr_setI (h : Hp) (a : Nat) (k v : Int) : hr (setI h a k v) = hr h := rfl
theorem hl_setI (h : Hp) (a : Nat) (k v : Int) : hl (setI h a k v) = hl h := rfl
theorem nx_setI (h : Hp) (a : Nat) (k v : Int) : nx (setI h a k v) = nx h := rfl
theorem us_setI (h : Hp) (a : Nat) (k v : Int) : us (setI h a k v) = us h := rfl
theorem cn_setI (h : Hp) (a : Nat) (k v : Int) : cn (setI h a k v) = cn h := rfl
theorem cs_setI (h : Hp) (a : Nat) (k v : Int) : cs (setI h a k v) = cs h := rfl
theorem kd_setR (h : Hp) (a : Nat) (k : Int) (v : Option Nat) : kd (setR h a k v) = kd h := rfl
theorem ln_setR (h : Hp) (a : Nat) (k : Int) (v : Option Nat) : ln (setR h a k v) = ln h := rfl
theorem hi_setR (h : Hp) (a : Nat) (k : Int) (v : Option Nat) : hi (setR h a k v) = hi h := rfl
theorem hr_setR (h : Hp) (a : Nat) (k : Int) (v : Option Nat) : hr (setR h a k v) = up2 (hr h) a k v := rfl
theorem hl_setR (h : Hp) (a : Nat) (k : Int) (v : Option Nat) : hl (setR h a k v) = hl h := rfl
theorem nx_setR (h : Hp) (a : Nat) (k : Int) (v : Option Nat) : nx (setR h a k v) = nx h := rfl
theorem us_setR (h : Hp) (a : Nat) (k : Int) (v : Option Nat) : us (setR h a k v) = us h := rfl
theorem cn_setR (h : Hp) (a : Nat) (k : Int) (v : Option Nat) : cn (setR h a k v) = cn h := rfl
theorem cs_setR (h : Hp) (a : Nat) (k : Int) (v : Option Nat) : cs (setR h a k v) = cs h := rfl
theorem kd_setL (h : Hp) (a : Nat) (k v : Int) : kd (setL h a k v) = kd h := rfl
theorem ln_setL (h : Hp) (a : Nat) (k v : Int) : ln (setL h a k v) = ln h := rfl
theorem hi_setL (h : Hp) (a : Nat) (k v : Int) : hi (setL h a k v) = hi h := rfl
theorem hr_setL (h : Hp) (a : Nat) (k v : Int) : hr (setL h a k v) = hr h := rfl
theorem hl_setL (h : Hp) (a : Nat) (k v : Int) : hl (setL h a k v) = up2 (hl h) a k v := rfl
theorem nx_setL (h : Hp) (a : Nat) (k v : Int) : nx (setL h a k v) = nx h := rfl
theorem us_setL (h : Hp) (a : Nat) (k v : Int) : us (setL h a k v) = us h := rfl
theorem cn_setL (h : Hp) (a : Nat) (k v : Int) : cn (setL h a k v) = cn h := rfl
theorem cs_setL (h : Hp) (a : Nat) (k v : Int) : cs (setL h a k v) = cs h := rfl
theorem kd_mkO (h : Hp) (K : Nat) (n : Int) : kd (mkO h K n) = up1 (kd h) (nx h) K := rfl
theorem ln_mkO (h : Hp) (K : Nat) (n : Int) : ln (mkO h K n) = up1 (ln h) (nx h) n := rfl
theorem hi_mkO (h : Hp) (K : Nat) (n : Int) : hi (mkO h K n) = up1 (hi h) (nx h) (fun _ => 0) := rfl
theorem hr_mkO (h : Hp) (K : Nat) (n : Int) : hr (mkO h K n) = up1 (hr h) (nx h) (fun _ => none) := rfl
theorem hl_mkO (h : Hp) (K : Nat) (n : Int) : hl (mkO h K n) = up1 (hl h) (nx h) (fun _ => 0) := rfl
theorem nx_mkO (h : Hp) (K : Nat) (n : Int) : nx (mkO h K n) = nx h + 1 := rfl
theorem us_mkO (h : Hp) (K : Nat) (n : Int) : us (mkO h K n) = us h + n.toNat := rfl
theorem cn_mkO (h : Hp) (K : Nat) (n : Int) : cn (mkO h K n) = cn h := rfl
theorem cs_mkO (h : Hp) (K : Nat) (n : Int) : cs (mkO h K n) = cs h := rfl
theorem kd_mkG (h : Hp) (n : Nat) : kd (mkG h n) = kd h := rfl
theorem ln_mkG (h : Hp) (n : Nat) : ln (mkG h n) = ln h := rfl
theorem hi_mkG (h : Hp) (n : Nat) : hi (mkG h n) = hi h := rfl
theorem hr_mkG (h : Hp) (n : Nat) : hr (mkG h n) = hr h := rfl
theorem hl_mkG (h : Hp) (n : Nat) : hl (mkG h n) = hl h := rfl
theorem nx_mkG (h : Hp) (n : Nat) : nx (mkG h n) = nx h + 1 := rfl
theorem us_mkG (h : Hp) (n : Nat) : us (mkG h n) = us h + n := rfl
theorem cn_mkG (h : Hp) (n : Nat) : cn (mkG h n) = cn h := rfl
theorem cs_mkG (h : Hp) (n : Nat) : cs (mkG h n) = cs h := rfl
abbrev inR (x : Int) : Prop := -2147483648 ≤ x ∧ x ≤ 2147483647
theorem i_toInt {x : Int} (h : inR x) : (Int32.ofInt x).toInt = x := Int32.toInt_ofInt_of_le (by omega) (by omega)
theorem i_lt {x y : Int} (hx : inR x) (hy : inR y) : Int32.ofInt x < Int32.ofInt y ↔ x < y := by rw [Int32.lt_iff_toInt_lt, i_toInt hx, i_toInt hy]
theorem i_le {x y : Int} (hx : inR x) (hy : inR y) : Int32.ofInt x ≤ Int32.ofInt y ↔ x ≤ y := by rw [Int32.le_iff_toInt_le, i_toInt hx, i_toInt hy]
theorem i_eq {x y : Int} (hx : inR x) (hy : inR y) : Int32.ofInt x = Int32.ofInt y ↔ x = y := by rw [← Int32.toInt_inj, i_toInt hx, i_toInt hy]
theorem i_clamp {x : Int} (h : inR x) : (Int32.ofInt x).toNatClampNeg = x.toNat := by
  show (Int32.ofInt x).toInt.toNat = x.toNat
  rw [i_toInt h]
theorem i_neg {x : Int} (h : inR x) : Int32.ofInt x < 0 ↔ x < 0 := i_lt h (y := 0) (by decide)
/-- a slot's value, by its type -/
def vOf (ty : FieldType) (i : Int) (r : Option Nat) (l : Int) : Value := match ty with
  | .int => .int (Int32.ofInt i)
  | .boolean => .int (Int32.ofInt i)
  | .long => .long (Int64.ofInt l)
  | _ => va_rf r
def sv (ty : FieldType) (h : Hp) (a : Nat) (k : Int) : Value := vOf ty (hi h a k) (hr h a k) (hl h a k)
def okTy (ty : FieldType) : Bool := match ty with
  | .int => true
  | .boolean => true
  | .long => true
  | .object _ => true
  | .array _ => true
  | _ => false
theorem vOf_default {ty : FieldType} (h : okTy ty = true) : defaultValue ty = vOf ty 0 none 0 := by
  cases ty <;> first | rfl | cases h
def ssum (H : Heap) : Nat := (H.toList.map (fun c => c.slots.size)).sum
/-- what the tables say of an array class of that element type -/
def arrF (s : State) (cA : ClassId) (ty : FieldType) : Prop := ArrOfT s cA ty ∧ ∃ (kA : Class) (comp : ClassId), s.vm.classes[cA]? = some kA ∧ kA.kind = .array comp ty ∧ s.vm.findClass ("[" ++ ty.toString) = some cA ∧ (∀ C, ty = .object C → s.vm.findClass C = some comp) ∧ (∀ t, ty = .array t → s.vm.findClass (FieldType.array t).toString = some comp)
theorem arrF.moved {u U : State} (hvm : u.vm.Alike U.vm) {cA : ClassId} {ty : FieldType} (h : arrF u cA ty) : arrF U cA ty := by
  obtain ⟨h0, kA, comp, h1, h2, h3, h4, h5⟩ := h
  obtain ⟨k', hk', he⟩ := hvm.2.2 _ _ h1
  exact ⟨arrOfT_moved hvm h0, k', comp, hk', by rw [he]; exact h2, by rw [hvm.findClass]; exact h3, fun C e => by rw [hvm.findClass]; exact h4 C e, fun t e => by rw [hvm.findClass]; exact h5 t e⟩
/-- a's cell is as the picture tells -/
def okAt (D : va_G) (DA : Nat → ClassId) (s : State) (H : Heap) (h : Hp) (a : Nat) : Prop :=
  (kd h a < 100 ∧ ∃ q, CL[kd h a - 1]? = some q ∧ t_OB a (D.1 (kd h a - 1)) q.2.2 (D.2 (kd h a - 1)) H (fun k => sv (cT (kd h a) k) h a k)) ∨
  (kd h a = 200 ∧ inR (ln h a) ∧ ∃ cell : Cell, H[a]? = some cell ∧ s.isArrayOf cell .int ∧ cell.vm ≠ .unknown ∧ (cell.slots.size : Int) = ln h a ∧ ∀ j : Nat, j < cell.slots.size → cell.slots[j]? = some (.int (Int32.ofInt (hi h a j)))) ∨
  (kd h a ∈ KA ∧ 0 ≤ ln h a ∧ inR (ln h a) ∧ H[a]? = some (arrV (DA (kd h a)) (ln h a).toNat (fun j => sv (AT (kd h a)) h a j)))
def rep (D : va_G) (DA : Nat → ClassId) (B0 CN CS : Nat) (s : State) (H : Heap) (h : Hp) : Prop :=
  H.size = nx h ∧ ssum H = us h ∧ cn h = CN ∧ cs h = CS ∧ nx h ≤ CN ∧ us h ≤ CS ∧ B0 ≤ nx h ∧ (∀ a k, inR (hi h a k)) ∧ ∀ a, kd h a ≠ 0 → (kd h a = 200 ∨ B0 ≤ a) ∧ okAt D DA s H h a
theorem okAt.lt {D : va_G} {DA : Nat → ClassId} {s : State} {H : Heap} {h : Hp} {a : Nat} (k : okAt D DA s H h a) : a < H.size := by
  rcases k with ⟨-, q, -, cell, e, -⟩ | ⟨-, -, cell, e, -⟩ | ⟨-, -, -, e⟩ <;> exact (Array.getElem?_eq_some_iff.mp e).1
theorem okAt.kept {D : va_G} {DA : Nat → ClassId} {s : State} {H H1 : Heap} {h h1 : Hp} {a : Nat} (k : okAt D DA s H h a) (hq : H1[a]? = H[a]?) (hk : kd h1 a = kd h a) (hln : ln h1 a = ln h a) (e1 : ∀ j, hi h1 a j = hi h a j) (e2 : ∀ j, hr h1 a j = hr h a j) (e3 : ∀ j, hl h1 a j = hl h a j) : okAt D DA s H1 h1 a := by
  have es : ∀ ty j, sv ty h1 a j = sv ty h a j := fun ty j => by unfold sv; rw [e1, e2, e3]
  unfold okAt
  rw [hk, hln]
  rcases k with ⟨k1, q, k2, k3⟩ | ⟨k1, k4, cell, k2, k3, k5, k6, k7⟩ | ⟨k1, k2, k3, k4⟩
  · exact Or.inl ⟨k1, q, k2, (k3.kept hq).to (fun j _ => (es _ _).symm)⟩
  · exact Or.inr (Or.inl ⟨k1, k4, cell, by rw [hq]; exact k2, k3, k5, k6, fun j hj => by rw [e1]; exact k7 j hj⟩)
  · refine Or.inr (Or.inr ⟨k1, k2, k3, ?_⟩)
    rw [hq, k4]
    congr 2
    funext j
    exact (es _ _).symm
theorem okAt.moved {D : va_G} {DA : Nat → ClassId} {u U : State} {H : Heap} {h : Hp} {a : Nat} (hvm : u.vm.Alike U.vm) (k : okAt D DA u H h a) : okAt D DA U H h a := by
  rcases k with k | ⟨k1, k4, cell, k2, k3, k5, k6, k7⟩ | k
  · exact Or.inl k
  · exact Or.inr (Or.inl ⟨k1, k4, cell, k2, State.isArrayOf_alike hvm k3, k5, k6, k7⟩)
  · exact Or.inr (Or.inr k)
theorem rep.moved {D : va_G} {DA : Nat → ClassId} {B0 CN CS : Nat} {u U : State} {H : Heap} {h : Hp} (hvm : u.vm.Alike U.vm) (k : rep D DA B0 CN CS u H h) : rep D DA B0 CN CS U H h := by
  obtain ⟨k1, k2, k3, k4, k5, k6, k7, k8, k9⟩ := k
  exact ⟨k1, k2, k3, k4, k5, k6, k7, k8, fun a ha => ⟨(k9 a ha).1, (k9 a ha).2.moved hvm⟩⟩
theorem rep.lt {D : va_G} {DA : Nat → ClassId} {B0 CN CS : Nat} {s : State} {H : Heap} {h : Hp} (k : rep D DA B0 CN CS s H h) {a : Nat} (ha : kd h a ≠ 0) : a < nx h := by
  have := (k.2.2.2.2.2.2.2.2 a ha).2.lt
  rw [k.1] at this
  exact this
/-! words -/
theorem ao_moved {t : FieldType} {u U : State} {A A' : Array Value} (hvm : u.vm.Alike U.vm) (h : (Cond.arrayOver (.array t)).before A u = true) : (Cond.arrayOver (.array t)).before A' U = true := by
  unfold Cond.before Cond.holds at h ⊢
  simp only [Cond.value, beq_iff_eq] at h ⊢
  rw [hvm.findClass]
  cases hc : u.vm.findClass (FieldType.array t).toString with
  | none => simp [hc] at h
  | some comp =>
    simp only [hc, Option.bind_some, Option.bind_eq_some_iff, Option.map_eq_some_iff] at h ⊢
    obtain ⟨c, h2, k, h3, h4⟩ := h
    obtain ⟨k', hk', he⟩ := hvm.2.2 _ _ h3
    refine ⟨c, ?_, k', hk', ?_⟩
    · have hi : (U.vm.classes.findIdx? fun (x : Class) => match x.kind with | .array component _ => component == comp | _ => false) = some c := by
        have e1 := va_idx_bare U.vm comp
        have e2 := va_idx_bare u.vm comp
        have e3 : U.vm.bare = u.vm.bare := by first | exact hvm.bare_eq | exact hvm.bare_eq.symm
        rw [e3] at e1
        exact e1.symm.trans (e2.trans h2)
      exact hi
    · rw [← h4, he]
      cases hkk : k.kind <;> simp [hkk, hvm.findClass]
def okS (s : State) : Prop := ∀ w, okw w → ∀ a' : Array Value, w.before a' s = true
theorem okS_warm {s U : State} (hW : s.WarmedH U.vm) (h : okS s) : okS U := by
  intro w hw a'
  have hb := h w hw #[]
  obtain ⟨-, hm⟩ := hw
  unfold mw at hm
  split at hm
  · exact va_Nw.use rfl (va_Nw.warmM hW hb)
  · exact va_AO.use (va_AO.moved hW.alike hb)
  · exact ao_moved hW.alike hb
  · exact word_at hW (good_of_word hm) hb
/-! locals -/
def al (ls : List (Option AV)) : List (Nat × Value) := (List.range ls.length).filterMap (fun j => match ls[j]? with
  | some (some v) => some (j, conc v)
  | _ => none)
theorem al_mem {ls : List (Option AV)} {q : Nat × Value} : q ∈ al ls ↔ ∃ v, ls[q.1]? = some (some v) ∧ q.2 = conc v := by
  unfold al
  rw [List.mem_filterMap]
  constructor
  · rintro ⟨j, hj, h⟩
    split at h
    · next v hv => cases h; exact ⟨v, hv, rfl⟩
    · cases h
  · rintro ⟨v, hv, he⟩
    have hl : q.1 < ls.length := (List.getElem?_eq_some_iff.mp hv).1
    refine ⟨q.1, List.mem_range.mpr hl, ?_⟩
    rw [hv]
    show some (q.1, conc v) = some q
    rw [← he]
def lrel (n : Nat) (ls : List (Option AV)) (ls' : Array Slot) : Prop := lv_has ls' n (al ls)
theorem lrel.at {n : Nat} {ls : List (Option AV)} {ls' : Array Slot} (h : lrel n ls ls') {j : Nat} {v : AV} (hv : ls[j]? = some (some v)) : ls'[j]? = some (.val (conc v)) := h.2.2 (j, conc v) (al_mem.mpr ⟨v, hv, rfl⟩)
theorem lrel.weak {n : Nat} {ls L : List (Option AV)} {ls' : Array Slot} (h : lrel n ls ls') (hw : ∀ (j : Nat) (v : AV), L[j]? = some (some v) → ls[j]? = some (some v)) : lrel n L ls' := by
  refine ⟨h.1, h.2.1, fun q hq => ?_⟩
  obtain ⟨v, hv, he⟩ := al_mem.mp hq
  rw [he]
  exact h.at (hw _ _ hv)
/-- the place in front of i, if a long begins there, is lost -/
def clr (ls : List (Option AV)) (i : Nat) : List (Option AV) := match i with
  | 0 => ls
  | k + 1 => match ls[k]? with
    | some (some u) => if cat2 u = true then ls.set k none else ls
    | _ => ls
def stL (ls : List (Option AV)) (i : Nat) (v : AV) : List (Option AV) := (clr ls i).set i (some v)
def stL2 (ls : List (Option AV)) (i : Nat) (v : AV) : List (Option AV) := ((clr ls i).set i (some v)).set (i + 1) none
theorem clr_at {ls : List (Option AV)} {i j : Nat} {u : AV} (h : (clr ls i)[j]? = some (some u)) : ls[j]? = some (some u) ∧ ¬ (j + 1 = i ∧ cat2 u = true) := by
  match i with
  | 0 => exact ⟨h, fun q => by omega⟩
  | k + 1 =>
    simp only [clr] at h
    by_cases hjk : j = k
    · subst hjk
      split at h
      · next w hw =>
        by_cases c : cat2 w = true
        · rw [if_pos c] at h
          have hl : j < ls.length := (List.getElem?_eq_some_iff.mp hw).1
          simp [List.getElem?_set, hl] at h
        · rw [if_neg c] at h
          rw [hw] at h
          cases h
          exact ⟨hw, fun q => c q.2⟩
      · next hn => exact absurd h (fun h => hn u h)
    · refine ⟨?_, fun q => hjk (by omega)⟩
      split at h
      · next w hw =>
        by_cases c : cat2 w = true
        · rw [if_pos c, List.getElem?_set, if_neg (fun e => hjk e.symm)] at h
          exact h
        · rw [if_neg c] at h
          exact h
      · exact h
theorem clr_len (ls : List (Option AV)) (i : Nat) : (clr ls i).length = ls.length := by
  match i with
  | 0 => rfl
  | k + 1 =>
    simp only [clr]
    split
    · split <;> simp
    · rfl
theorem lrel.store {n : Nat} {ls : List (Option AV)} {ls' : Array Slot} (h : lrel n ls ls') {i : Nat} {v : AV} (hi : i < n) (hc : cat2 v = false) : ∃ l1, storeLocals ls' i (conc v) = some l1 ∧ lrel n (stL ls i v) l1 := by
  obtain ⟨l1, e, k⟩ := lv_store1 (v := conc v) h hi (by rw [conc_cat, hc]; rfl)
  refine ⟨l1, e, k.1, k.2.1, fun q hq => k.2.2 q ?_⟩
  obtain ⟨u, hu, he⟩ := al_mem.mp hq
  unfold stL at hu
  rw [List.getElem?_set] at hu
  by_cases hj : i = q.1
  · rw [if_pos hj] at hu
    split at hu
    · cases hu
      refine List.mem_cons.mpr (Or.inl ?_)
      rw [hj, ← he]
    · cases hu
  · rw [if_neg hj] at hu
    obtain ⟨h1, h2⟩ := clr_at hu
    refine List.mem_cons.mpr (Or.inr (List.mem_filter.mpr ⟨al_mem.mpr ⟨u, h1, he⟩, ?_⟩))
    rw [he, conc_cat]
    have hj' : ¬ q.1 = i := fun e => hj e.symm
    simp only [Bool.and_eq_true, Bool.not_eq_true', beq_eq_false_iff_ne, ne_eq, hj', not_false_eq_true, Bool.and_eq_false_iff, true_and]
    by_cases c : q.1 + 1 = i
    · right
      have : ¬ cat2 u = true := fun c2 => h2 ⟨c, c2⟩
      simp [this]
    · left; exact c
theorem lrel.store2 {n : Nat} {ls : List (Option AV)} {ls' : Array Slot} (h : lrel n ls ls') {i : Nat} {v : AV} (hi : i + 1 < n) (hc : cat2 v = true) : ∃ l1, storeLocals ls' i (conc v) = some l1 ∧ lrel n (stL2 ls i v) l1 := by
  obtain ⟨l1, e, k⟩ := lv_store2 (v := conc v) h hi (by rw [conc_cat, hc]; rfl)
  refine ⟨l1, e, k.1, k.2.1, fun q hq => k.2.2 q ?_⟩
  obtain ⟨u, hu, he⟩ := al_mem.mp hq
  unfold stL2 at hu
  rw [List.getElem?_set] at hu
  by_cases hj1 : i + 1 = q.1
  · rw [if_pos hj1] at hu
    split at hu
    · cases hu
    · cases hu
  · rw [if_neg hj1, List.getElem?_set] at hu
    by_cases hj : i = q.1
    · rw [if_pos hj] at hu
      split at hu
      · cases hu
        refine List.mem_cons.mpr (Or.inl ?_)
        rw [hj, ← he]
      · cases hu
    · rw [if_neg hj] at hu
      obtain ⟨h1, h2⟩ := clr_at hu
      refine List.mem_cons.mpr (Or.inr (List.mem_filter.mpr ⟨al_mem.mpr ⟨u, h1, he⟩, ?_⟩))
      rw [he, conc_cat]
      have hj' : ¬ q.1 = i := fun e => hj e.symm
      have hj1' : ¬ q.1 = i + 1 := fun e => hj1 e.symm
      simp only [Bool.and_eq_true, Bool.not_eq_true', beq_eq_false_iff_ne, ne_eq, hj', hj1', not_false_eq_true, Bool.and_eq_false_iff, true_and]
      by_cases c : q.1 + 1 = i
      · right
        have : ¬ cat2 u = true := fun c2 => h2 ⟨c, c2⟩
        simp [this]
      · left; exact c
/-- a method's first locals -/
def entL (as : List AV) (n : Nat) : List (Option AV) := (as.flatMap fun v => if cat2 v = true then [some v, none] else [some v]) ++ List.replicate (n - (as.flatMap fun v => if cat2 v = true then [some v, none] else [some v]).length) none
theorem entL_args : ∀ (as : List AV) (pre : List (Option AV)) (post : List (Option AV)), (∀ (j : Nat) (v : AV), post[j]? ≠ some (some v)) → ∀ (j : Nat) (v : AV), pre.length ≤ j → (pre ++ ((as.flatMap fun v => if cat2 v = true then [some v, none] else [some v]) ++ post))[j]? = some (some v) → (j, conc v) ∈ lv_args pre.length (as.map conc) := by
  intro as
  induction as with
  | nil =>
    intro pre post hp j v hj h
    rw [List.getElem?_append_right hj] at h
    exact absurd h (hp _ _)
  | cons a as ih =>
    intro pre post hp j v hj h
    show (j, conc v) ∈ (pre.length, conc a) :: lv_args (if (conc a).category = 2 then pre.length + 2 else pre.length + 1) (as.map conc)
    by_cases c : cat2 a = true
    · have hc : (conc a).category = 2 := by rw [conc_cat, if_pos c]
      rw [if_pos hc]
      simp only [List.flatMap_cons, if_pos c] at h
      by_cases e : j = pre.length
      · subst e
        rw [List.getElem?_append_right (Nat.le_refl _)] at h
        simp at h
        subst h
        exact List.mem_cons_self
      · by_cases e2 : j = pre.length + 1
        · subst e2
          rw [List.getElem?_append_right (by omega)] at h
          simp at h
        · refine List.mem_cons_of_mem _ ?_
          have := ih (pre ++ [some a, none]) post hp j v (by simp; omega) (by simpa using h)
          simpa using this
    · have hc : ¬ (conc a).category = 2 := by rw [conc_cat, if_neg c]; decide
      rw [if_neg hc]
      simp only [List.flatMap_cons, if_neg c] at h
      by_cases e : j = pre.length
      · subst e
        rw [List.getElem?_append_right (Nat.le_refl _)] at h
        simp at h
        subst h
        exact List.mem_cons_self
      · refine List.mem_cons_of_mem _ ?_
        have := ih (pre ++ [some a]) post hp j v (by simp; omega) (by simpa using h)
        simpa using this
theorem lrel.entry {as : List AV} {n : Nat} (h : (lg_sl (as.map conc)).length ≤ n) : lrel n (entL as n) ((lg_sl (as.map conc) ++ List.replicate (n - (lg_sl (as.map conc)).length) Slot.unset).toArray) := by
  have k := lv_entry (as.map conc) h
  refine ⟨k.1, k.2.1, fun q hq => k.2.2 q ?_⟩
  obtain ⟨v, hv, he⟩ := al_mem.mp hq
  have := entL_args as [] (List.replicate (n - (as.flatMap fun v => if cat2 v = true then [some v, none] else [some v]).length) none) (fun j v h => by
    have := List.mem_of_getElem? h
    rw [List.mem_replicate] at this
    cases this.2) q.1 v (Nat.zero_le _) (by simpa [entL] using hv)
  rw [← he] at this
  exact this
end
section
/-! ===== THE LOGIC, part 2: what a body comes to (written by wip/tools/mklogic.py) ===== -/
def Cx (i : Nat) (D : va_G) (DA : Nat → ClassId) (p : Program) (R : Room) (s : State) (m : MethodId) (meth : Method) (c : Code) : Prop :=
  p.tables.exec = Jvm.exec ∧ c.code = mB i ∧ c.maxLocals = mL i ∧ meth.sig.returnType = mR i ∧ meth.locks = false ∧ s.vm.findClass (mY i).cls = some m.cls ∧ meth.name = (mY i).name ∧ okS s ∧ va_K D CL [] s ∧ (∀ K ∈ KA, arrF s (DA K) (AT K)) ∧ mF i ≤ R.frames ∧ mK i ≤ R.locals ∧ c.exceptionTable.toList = mX i
abbrev QQ (D : va_G) (DA : Nat → ClassId) (B0 CN CS : Nat) (below : List Frame) (args : Array Value) (s : State) (R : Room) (Q : Option AV → Hp → Prop) (X : String → Hp → Prop) : State → Prop :=
  vx_MQ below (fun _ _ o t => ∃ v h', o = .returned (v.map conc) ∧ Q v h' ∧ rep D DA B0 CN CS t t.heap h') (fun E _ t => ∃ h', X E h' ∧ rep D DA B0 CN CS t t.heap h') args s R.cells R.slots (fun q => B0 ≤ q)
def En (i : Nat) (D : va_G) (DA : Nat → ClassId) (B0 CN CS : Nat) (p : Program) (R : Room) (s : State) (m : MethodId) (meth : Method) (c : Code) (H : Heap) (locs : List Loc) (ls' : Array Slot) (ls : List (Option AV)) (h : Hp) : Prop :=
  Cx i D DA p R s m meth c ∧ rep D DA B0 CN CS s H h ∧ lrel (mL i) ls ls' ∧ (∀ q ∈ locs, B0 ≤ q.base) ∧ s.heap.size ≤ H.size ∧ ssum s.heap ≤ ssum H ∧ R.cells = CN - s.heap.size ∧ R.slots = CS - ssum s.heap ∧ B0 ≤ s.heap.size
/-- from here (method i, pc, locals, stack, heap) the body ends: with an answer and a heap of Q, or throws with a heap of X -/
def wp (i pc : Nat) (ls : List (Option AV)) (st : List AV) (h : Hp) (Q : Option AV → Hp → Prop) (X : String → Hp → Prop) : Prop :=
  ∀ (D : va_G) (DA : Nat → ClassId) (B0 CN CS : Nat) (p : Program) (l : Launch) (e : Env) (R : Room) (s : State) (m : MethodId) (args : Array Value) (below : List Frame) (meth : Method) (c : Code) (H : Heap) (locs : List Loc) (ls' : Array Slot),
    l.flags = flags0 → En i D DA B0 CN CS p R s m meth c H locs ls' ls h →
    W p l e R s m args below meth c H locs (H.size - s.heap.size) (ssum H - ssum s.heap) (QQ D DA B0 CN CS below args s R Q X) (F0 m pc ls' (st.map conc))
/-! cells and slots, counted again -/
theorem ssum_split (H : Heap) (n : Nat) : ssum H = ((H.toList.take n).map (fun c => c.slots.size)).sum + ((H.toList.drop n).map (fun c => c.slots.size)).sum := by
  unfold ssum
  rw [← List.sum_append, ← List.map_append, List.take_append_drop]
theorem ssum_same {H0 H : Heap} (hz : H0.size ≤ H.size) (h : ∀ (a : Nat) (c : Cell), H0[a]? = some c → ∃ c' : Cell, H[a]? = some c' ∧ c'.slots.size = c.slots.size) : ((H.toList.take H0.size).map (fun c => c.slots.size)).sum = ssum H0 := by
  unfold ssum
  congr 1
  apply List.ext_getElem?
  intro a
  simp only [List.getElem?_map]
  by_cases ha : a < H0.size
  · rw [List.getElem?_take_of_lt ha]
    obtain ⟨c', h1, h2⟩ := h a _ (Array.getElem?_eq_getElem ha)
    have e1 : H.toList[a]? = some c' := by rw [Array.getElem?_toList]; exact h1
    have e2 : H0.toList[a]? = some H0[a] := by rw [Array.getElem?_toList]; exact Array.getElem?_eq_getElem ha
    rw [e1, e2]
    simp only [Option.map_some, h2]
  · have e1 : (H.toList.take H0.size)[a]? = none := List.getElem?_eq_none (by simp; omega)
    have e2 : H0.toList[a]? = none := List.getElem?_eq_none (by simp; omega)
    rw [e1, e2]
theorem stand_tight {p : Program} {l : Launch} {e : Env} {R : Room} {s : State} {m : MethodId} {args : Array Value} {below : List Frame} {meth : Method} {c : Code} {T : State} {locs : List Loc} {cells slots : Nat} (X : Stand p l e R s m args below meth c T locs cells slots) :
    Stand p l e R s m args below meth c T locs (T.heap.size - s.heap.size) (ssum T.heap - ssum s.heap) := by
  obtain ⟨h1, h2, h3, h4, h5, h6⟩ := X.same
  have h2' : s.heap.size ≤ T.heap.size := h2
  refine { X with same := ⟨h1, h2, ?_, h4, ?_, h6⟩ }
  · show T.heap.size ≤ s.heap.size + (T.heap.size - s.heap.size)
    omega
  · show ((T.heap.toList.drop s.heap.size).map (fun c => c.slots.size)).sum ≤ _
    have e := ssum_split T.heap s.heap.size
    rw [ssum_same h2' (fun a c hc => by
      obtain ⟨c', g1, -, g3, -⟩ := h6 a c hc
      exact ⟨c', g1, g3⟩)] at e
    omega
theorem W_tight {p : Program} {l : Launch} {e : Env} {R : Room} {s : State} {m : MethodId} {args : Array Value} {below : List Frame} {meth : Method} {c : Code} {H : Heap} {locs : List Loc} {cells slots : Nat} {Q : State → Prop} {g : JFrame} (k : W p l e R s m args below meth c H locs (H.size - s.heap.size) (ssum H - ssum s.heap) Q g) : W p l e R s m args below meth c H locs cells slots Q g := by
  intro T hT X
  subst hT
  exact k T rfl (stand_tight X)
theorem W_mono {p : Program} {l : Launch} {e : Env} {R : Room} {s : State} {m : MethodId} {args : Array Value} {below : List Frame} {meth : Method} {c : Code} {H : Heap} {locs : List Loc} {cells slots : Nat} {Q Q' : State → Prop} {g : JFrame} (h : ∀ t, Q t → Q' t) (k : W p l e R s m args below meth c H locs cells slots Q g) : W p l e R s m args below meth c H locs cells slots Q' g := by
  intro T hT X
  obtain ⟨t, a, b⟩ := k T hT X
  exact ⟨t, a, h t b⟩
theorem ssum_set {H H1 : Heap} {a : Nat} {x : Cell} (hz : H1.size = H.size) (ho : ∀ q : Nat, q ≠ a → H1[q]? = H[q]?) (hx : H1[a]? = some x) (hs : ∀ c : Cell, H[a]? = some c → x.slots.size = c.slots.size) : ssum H1 = ssum H := by
  have h := ssum_same (H0 := H1) (H := H) (by omega) (fun b c hc => by
    by_cases hb : b = a
    · subst hb
      rw [hx] at hc
      cases hc
      have hl : b < H.size := by rw [← hz]; exact (Array.getElem?_eq_some_iff.mp hx).1
      exact ⟨_, Array.getElem?_eq_getElem hl, (hs _ (Array.getElem?_eq_getElem hl)).symm⟩
    · rw [ho b hb] at hc
      exact ⟨c, hc, rfl⟩)
  rw [← h, hz]
  have : H.toList.take H.size = H.toList := List.take_of_length_le (by simp)
  rw [this]
  rfl
theorem ssum_new {H H1 : Heap} {x : Cell} (hz : H1.size = H.size + 1) (ho : ∀ q : Nat, q < H.size → H1[q]? = H[q]?) (hx : H1[H.size]? = some x) : ssum H1 = ssum H + x.slots.size := by
  have h := ssum_same (H0 := H) (H := H1) (by omega) (fun b c hc => ⟨c, by rw [ho b (Array.getElem?_eq_some_iff.mp hc).1]; exact hc, rfl⟩)
  rw [ssum_split H1 H.size, h]
  have hd : H1.toList.drop H.size = [x] := by
    apply List.ext_getElem?
    intro k
    rw [List.getElem?_drop]
    match k with
    | 0 =>
      rw [Nat.add_zero, Array.getElem?_toList, hx]
      rfl
    | k + 1 =>
      rw [List.getElem?_eq_none (by simp; omega)]
      simp
  rw [hd]
  simp
section WP
variable {i pc : Nat} {ls : List (Option AV)} {st : List AV} {h : Hp} {Q : Option AV → Hp → Prop} {X : String → Hp → Prop}
theorem wp_mono {Q' : Option AV → Hp → Prop} {X' : String → Hp → Prop} (hQ : ∀ v h', Q v h' → Q' v h') (hX : ∀ E h', X E h' → X' E h') (k : wp i pc ls st h Q X) : wp i pc ls st h Q' X' := by
  intro D DA B0 CN CS p l e R s m args below meth c H locs ls' hfl hE
  refine W_mono (fun t ht => ?_) (k D DA B0 CN CS p l e R s m args below meth c H locs ls' hfl hE)
  obtain ⟨o, g1, g2, g3⟩ := ht
  refine ⟨o, g1, g2, ?_⟩
  rcases g3 with ⟨⟨v, h', e1, e2, e3⟩, g4⟩ | ⟨q, e0, E, ce, L, ⟨h', e1, e2⟩, g5⟩
  · exact Or.inl ⟨⟨v, h', e1, hQ _ _ e2, e3⟩, g4⟩
  · exact Or.inr ⟨q, e0, E, ce, L, ⟨h', hX _ _ e1, e2⟩, g5⟩
/-- fewer locals -/
theorem wp_ls {L : List (Option AV)} (hw : ∀ (j : Nat) (v : AV), L[j]? = some (some v) → ls[j]? = some (some v)) (k : wp i pc L st h Q X) : wp i pc ls st h Q X := by
  intro D DA B0 CN CS p l e R s m args below meth c H locs ls' hfl hE
  obtain ⟨e1, e2, e3, e4⟩ := hE
  exact k D DA B0 CN CS p l e R s m args below meth c H locs ls' hfl ⟨e1, e2, e3.weak hw, e4⟩
/-- what every pictured heap has -/
theorem wp_wf (k : (∀ a j, inR (hi h a j)) → (∀ a, kd h a ≠ 0 → a < nx h) → nx h ≤ cn h → us h ≤ cs h → wp i pc ls st h Q X) : wp i pc ls st h Q X := by
  intro D DA B0 CN CS p l e R s m args below meth c H locs ls' hfl hE
  have hr := hE.2.1
  obtain ⟨k1, k2, k3, k4, k5, k6, k7, k8, k9⟩ := hE.2.1
  exact k k8 (fun a ha => hr.lt ha) (by rw [k3]; exact k5) (by rw [k4]; exact k6) D DA B0 CN CS p l e R s m args below meth c H locs ls' hfl hE

theorem wp_iconst {n : Int} (hd : decode (mB i) pc = .ok (.iconst n, 1))
    (k : wp i (pc + 1) ls (vI n :: st) h Q X) : wp i pc ls st h Q X := by
  intro D DA B0 CN CS p l e R s m args below meth c H locs ls' hfl hE
  exact lv_iconst (v := Int32.ofInt n) hE.1.1 hE.1.2.1 hd rfl (k D DA B0 CN CS p l e R s m args below meth c H locs ls' hfl hE)
theorem wp_bipush {n : Int} (hd : decode (mB i) pc = .ok (.bipush n, 2)) (hv : (Int8.ofInt n).toInt32 = Int32.ofInt n := by decide)
    (k : wp i (pc + 2) ls (vI n :: st) h Q X) : wp i pc ls st h Q X := by
  intro D DA B0 CN CS p l e R s m args below meth c H locs ls' hfl hE
  exact lv_bipush (v := Int32.ofInt n) hE.1.1 hE.1.2.1 hd hv (k D DA B0 CN CS p l e R s m args below meth c H locs ls' hfl hE)
theorem wp_sipush {n : Int} (hd : decode (mB i) pc = .ok (.sipush n, 3)) (hv : (Int16.ofInt n).toInt32 = Int32.ofInt n := by decide)
    (k : wp i (pc + 3) ls (vI n :: st) h Q X) : wp i pc ls st h Q X := by
  intro D DA B0 CN CS p l e R s m args below meth c H locs ls' hfl hE
  exact lv_sipush (v := Int32.ofInt n) hE.1.1 hE.1.2.1 hd hv (k D DA B0 CN CS p l e R s m args below meth c H locs ls' hfl hE)
theorem wp_lconst {n : Fin 2} {z : Int} (hd : decode (mB i) pc = .ok (.lconst n, 1)) (hv : Int64.ofNat n.val = Int64.ofInt z := by decide)
    (k : wp i (pc + 1) ls (vL z :: st) h Q X) : wp i pc ls st h Q X := by
  intro D DA B0 CN CS p l e R s m args below meth c H locs ls' hfl hE
  exact lv_lconst (v := Int64.ofInt z) hE.1.1 hE.1.2.1 hd hv (k D DA B0 CN CS p l e R s m args below meth c H locs ls' hfl hE)
theorem wp_null  (hd : decode (mB i) pc = .ok (.aconst_null, 1))
    (k : wp i (pc + 1) ls (vR none :: st) h Q X) : wp i pc ls st h Q X := by
  intro D DA B0 CN CS p l e R s m args below meth c H locs ls' hfl hE
  exact lv_null hE.1.1 hE.1.2.1 hd (k D DA B0 CN CS p l e R s m args below meth c H locs ls' hfl hE)
theorem wp_ldc {idx : Nat} {v : Int32} (z : Int) (hd : decode (mB i) pc = .ok (.ldc idx, 2)) (hw : okw (.constant (mY i).cls idx v)) (hv : v = Int32.ofInt z) (k : wp i (pc + 2) ls (vI z :: st) h Q X) : wp i pc ls st h Q X := by
  intro D DA B0 CN CS p l e R s m args below meth c H locs ls' hfl hE
  subst hv
  exact lv_ldc hE.1.1 hE.1.2.1 hE.1.2.2.2.2.2.1 (hE.1.2.2.2.2.2.2.2.1 _ hw _) hd (k D DA B0 CN CS p l e R s m args below meth c H locs ls' hfl hE)
theorem wp_ldcw {idx : Nat} {v : Int32} (z : Int) (hd : decode (mB i) pc = .ok (.ldc_w idx, 3)) (hw : okw (.constant (mY i).cls idx v)) (hv : v = Int32.ofInt z) (k : wp i (pc + 3) ls (vI z :: st) h Q X) : wp i pc ls st h Q X := by
  intro D DA B0 CN CS p l e R s m args below meth c H locs ls' hfl hE
  subst hv
  exact lv_ldcw hE.1.1 hE.1.2.1 hE.1.2.2.2.2.2.1 (hE.1.2.2.2.2.2.2.2.1 _ hw _) hd (k D DA B0 CN CS p l e R s m args below meth c H locs ls' hfl hE)
theorem wp_ldc2 {idx : Nat} {v : Int64} (z : Int) (hd : decode (mB i) pc = .ok (.ldc2_w idx, 3)) (hw : okw (.constantLong (mY i).cls idx v)) (hv : v = Int64.ofInt z) (k : wp i (pc + 3) ls (vL z :: st) h Q X) : wp i pc ls st h Q X := by
  intro D DA B0 CN CS p l e R s m args below meth c H locs ls' hfl hE
  subst hv
  exact lv_ldc2 hE.1.1 hE.1.2.1 hE.1.2.2.2.2.2.1 (hE.1.2.2.2.2.2.2.2.1 _ hw _) hd (k D DA B0 CN CS p l e R s m args below meth c H locs ls' hfl hE)
theorem wp_iload_n {n : Fin 4} {x : Int} (hd : decode (mB i) pc = .ok (.iload_n n, 1)) (hl : ls[n.val]? = some (some (vI x)))
    (k : wp i (pc + 1) ls (vI x :: st) h Q X) : wp i pc ls st h Q X := by
  intro D DA B0 CN CS p l e R s m args below meth c H locs ls' hfl hE
  exact lv_iload_n hE.1.1 hE.1.2.1 hd rfl (hE.2.2.1.at hl) (k D DA B0 CN CS p l e R s m args below meth c H locs ls' hfl hE)
theorem wp_iload {n : Nat} {x : Int} (hd : decode (mB i) pc = .ok (.iload n, 2)) (hl : ls[n]? = some (some (vI x)))
    (k : wp i (pc + 2) ls (vI x :: st) h Q X) : wp i pc ls st h Q X := by
  intro D DA B0 CN CS p l e R s m args below meth c H locs ls' hfl hE
  exact lv_iload hE.1.1 hE.1.2.1 hd (hE.2.2.1.at hl) (k D DA B0 CN CS p l e R s m args below meth c H locs ls' hfl hE)
theorem wp_lload_n {n : Fin 4} {x : Int} (hd : decode (mB i) pc = .ok (.lload_n n, 1)) (hl : ls[n.val]? = some (some (vL x)))
    (k : wp i (pc + 1) ls (vL x :: st) h Q X) : wp i pc ls st h Q X := by
  intro D DA B0 CN CS p l e R s m args below meth c H locs ls' hfl hE
  exact lv_lload_n hE.1.1 hE.1.2.1 hd rfl (hE.2.2.1.at hl) (k D DA B0 CN CS p l e R s m args below meth c H locs ls' hfl hE)
theorem wp_lload {n : Nat} {x : Int} (hd : decode (mB i) pc = .ok (.lload n, 2)) (hl : ls[n]? = some (some (vL x)))
    (k : wp i (pc + 2) ls (vL x :: st) h Q X) : wp i pc ls st h Q X := by
  intro D DA B0 CN CS p l e R s m args below meth c H locs ls' hfl hE
  exact lv_lload hE.1.1 hE.1.2.1 hd (hE.2.2.1.at hl) (k D DA B0 CN CS p l e R s m args below meth c H locs ls' hfl hE)
theorem wp_dload_n {n : Fin 4} {x : UInt64} (hd : decode (mB i) pc = .ok (.dload_n n, 1)) (hl : ls[n.val]? = some (some (vD x)))
    (k : wp i (pc + 1) ls (vD x :: st) h Q X) : wp i pc ls st h Q X := by
  intro D DA B0 CN CS p l e R s m args below meth c H locs ls' hfl hE
  exact lv_dload_n hE.1.1 hE.1.2.1 hd rfl (hE.2.2.1.at hl) (k D DA B0 CN CS p l e R s m args below meth c H locs ls' hfl hE)
theorem wp_dload {n : Nat} {x : UInt64} (hd : decode (mB i) pc = .ok (.dload n, 2)) (hl : ls[n]? = some (some (vD x)))
    (k : wp i (pc + 2) ls (vD x :: st) h Q X) : wp i pc ls st h Q X := by
  intro D DA B0 CN CS p l e R s m args below meth c H locs ls' hfl hE
  exact lv_dload hE.1.1 hE.1.2.1 hd (hE.2.2.1.at hl) (k D DA B0 CN CS p l e R s m args below meth c H locs ls' hfl hE)
theorem wp_aload_n {n : Fin 4} {x : Option Nat} (hd : decode (mB i) pc = .ok (.aload_n n, 1)) (hl : ls[n.val]? = some (some (vR x))) (k : wp i (pc + 1) ls (vR x :: st) h Q X) : wp i pc ls st h Q X := by
  intro D DA B0 CN CS p l e R s m args below meth c H locs ls' hfl hE
  match x with
  | none => exact lv_aload_nN hE.1.1 hE.1.2.1 hd rfl (hE.2.2.1.at hl) (k D DA B0 CN CS p l e R s m args below meth c H locs ls' hfl hE)
  | some x => exact lv_aload_n hE.1.1 hE.1.2.1 hd rfl (hE.2.2.1.at hl) (k D DA B0 CN CS p l e R s m args below meth c H locs ls' hfl hE)
theorem wp_aload {n : Nat} {x : Option Nat} (hd : decode (mB i) pc = .ok (.aload n, 2)) (hl : ls[n]? = some (some (vR x))) (k : wp i (pc + 2) ls (vR x :: st) h Q X) : wp i pc ls st h Q X := by
  intro D DA B0 CN CS p l e R s m args below meth c H locs ls' hfl hE
  match x with
  | none => exact lv_aloadN hE.1.1 hE.1.2.1 hd (hE.2.2.1.at hl) (k D DA B0 CN CS p l e R s m args below meth c H locs ls' hfl hE)
  | some x => exact lv_aload hE.1.1 hE.1.2.1 hd (hE.2.2.1.at hl) (k D DA B0 CN CS p l e R s m args below meth c H locs ls' hfl hE)
theorem wp_istore_n {n : Fin 4} {x : Int} (hd : decode (mB i) pc = .ok (.istore_n n, 1)) (hn : n.val < mL i) (k : wp i (pc + 1) (stL ls n.val (vI x)) st h Q X) : wp i pc ls (vI x :: st) h Q X := by
  intro D DA B0 CN CS p l e R s m args below meth c H locs ls' hfl hE
  obtain ⟨l1, e', h'⟩ := hE.2.2.1.store (v := vI x) hn rfl
  intro T hT XX
  obtain ⟨t, a, b⟩ := k D DA B0 CN CS p l e R s m args below meth c H locs l1 hfl ⟨hE.1, hE.2.1, h', hE.2.2.2⟩ T hT XX
  refine ⟨t, ?_, b⟩
  have hx := hE.1.1
  have hb := hE.1.2.1
  unfold conc at e'
  simp only [List.map_cons, conc]
  jvm_step XX.here [XX.here.top, ↓top_set XX.here.top, hx, hb, hd, e']
  exact a
theorem wp_lstore_n {n : Fin 4} {x : Int} (hd : decode (mB i) pc = .ok (.lstore_n n, 1)) (hn : n.val + 1 < mL i) (k : wp i (pc + 1) (stL2 ls n.val (vL x)) st h Q X) : wp i pc ls (vL x :: st) h Q X := by
  intro D DA B0 CN CS p l e R s m args below meth c H locs ls' hfl hE
  obtain ⟨l1, e', h'⟩ := hE.2.2.1.store2 (v := vL x) hn rfl
  intro T hT XX
  obtain ⟨t, a, b⟩ := k D DA B0 CN CS p l e R s m args below meth c H locs l1 hfl ⟨hE.1, hE.2.1, h', hE.2.2.2⟩ T hT XX
  refine ⟨t, ?_, b⟩
  have hx := hE.1.1
  have hb := hE.1.2.1
  unfold conc at e'
  simp only [List.map_cons, conc]
  jvm_step XX.here [XX.here.top, ↓top_set XX.here.top, hx, hb, hd, e']
  exact a
theorem wp_dstore_n {n : Fin 4} {x : UInt64} (hd : decode (mB i) pc = .ok (.dstore_n n, 1)) (hn : n.val + 1 < mL i) (k : wp i (pc + 1) (stL2 ls n.val (vD x)) st h Q X) : wp i pc ls (vD x :: st) h Q X := by
  intro D DA B0 CN CS p l e R s m args below meth c H locs ls' hfl hE
  obtain ⟨l1, e', h'⟩ := hE.2.2.1.store2 (v := vD x) hn rfl
  intro T hT XX
  obtain ⟨t, a, b⟩ := k D DA B0 CN CS p l e R s m args below meth c H locs l1 hfl ⟨hE.1, hE.2.1, h', hE.2.2.2⟩ T hT XX
  refine ⟨t, ?_, b⟩
  have hx := hE.1.1
  have hb := hE.1.2.1
  unfold conc at e'
  simp only [List.map_cons, conc]
  jvm_step XX.here [XX.here.top, ↓top_set XX.here.top, hx, hb, hd, e']
  exact a
theorem wp_astore_n {n : Fin 4} {x : Option Nat} (hd : decode (mB i) pc = .ok (.astore_n n, 1)) (hn : n.val < mL i) (k : wp i (pc + 1) (stL ls n.val (vR x)) st h Q X) : wp i pc ls (vR x :: st) h Q X := by
  intro D DA B0 CN CS p l e R s m args below meth c H locs ls' hfl hE
  obtain ⟨l1, e', h'⟩ := hE.2.2.1.store (v := vR x) hn rfl
  intro T hT XX
  obtain ⟨t, a, b⟩ := k D DA B0 CN CS p l e R s m args below meth c H locs l1 hfl ⟨hE.1, hE.2.1, h', hE.2.2.2⟩ T hT XX
  refine ⟨t, ?_, b⟩
  have hx := hE.1.1
  have hb := hE.1.2.1
  match x with
  | none =>
    simp only [conc, va_rf] at e'
    simp only [List.map_cons, conc, va_rf]
    jvm_step XX.here [XX.here.top, ↓top_set XX.here.top, hx, hb, hd, e', Value.isRef]
    exact a
  | some x =>
    simp only [conc, va_rf] at e'
    simp only [List.map_cons, conc, va_rf]
    jvm_step XX.here [XX.here.top, ↓top_set XX.here.top, hx, hb, hd, e', Value.isRef]
    exact a
theorem wp_istore {n : Nat} {x : Int} (hd : decode (mB i) pc = .ok (.istore n, 2)) (hn : n < mL i) (k : wp i (pc + 2) (stL ls n (vI x)) st h Q X) : wp i pc ls (vI x :: st) h Q X := by
  intro D DA B0 CN CS p l e R s m args below meth c H locs ls' hfl hE
  obtain ⟨l1, e', h'⟩ := hE.2.2.1.store (v := vI x) hn rfl
  intro T hT XX
  obtain ⟨t, a, b⟩ := k D DA B0 CN CS p l e R s m args below meth c H locs l1 hfl ⟨hE.1, hE.2.1, h', hE.2.2.2⟩ T hT XX
  refine ⟨t, ?_, b⟩
  have hx := hE.1.1
  have hb := hE.1.2.1
  unfold conc at e'
  simp only [List.map_cons, conc]
  jvm_step XX.here [XX.here.top, ↓top_set XX.here.top, hx, hb, hd, e']
  exact a
theorem wp_lstore {n : Nat} {x : Int} (hd : decode (mB i) pc = .ok (.lstore n, 2)) (hn : n + 1 < mL i) (k : wp i (pc + 2) (stL2 ls n (vL x)) st h Q X) : wp i pc ls (vL x :: st) h Q X := by
  intro D DA B0 CN CS p l e R s m args below meth c H locs ls' hfl hE
  obtain ⟨l1, e', h'⟩ := hE.2.2.1.store2 (v := vL x) hn rfl
  intro T hT XX
  obtain ⟨t, a, b⟩ := k D DA B0 CN CS p l e R s m args below meth c H locs l1 hfl ⟨hE.1, hE.2.1, h', hE.2.2.2⟩ T hT XX
  refine ⟨t, ?_, b⟩
  have hx := hE.1.1
  have hb := hE.1.2.1
  unfold conc at e'
  simp only [List.map_cons, conc]
  jvm_step XX.here [XX.here.top, ↓top_set XX.here.top, hx, hb, hd, e']
  exact a
theorem wp_dstore {n : Nat} {x : UInt64} (hd : decode (mB i) pc = .ok (.dstore n, 2)) (hn : n + 1 < mL i) (k : wp i (pc + 2) (stL2 ls n (vD x)) st h Q X) : wp i pc ls (vD x :: st) h Q X := by
  intro D DA B0 CN CS p l e R s m args below meth c H locs ls' hfl hE
  obtain ⟨l1, e', h'⟩ := hE.2.2.1.store2 (v := vD x) hn rfl
  intro T hT XX
  obtain ⟨t, a, b⟩ := k D DA B0 CN CS p l e R s m args below meth c H locs l1 hfl ⟨hE.1, hE.2.1, h', hE.2.2.2⟩ T hT XX
  refine ⟨t, ?_, b⟩
  have hx := hE.1.1
  have hb := hE.1.2.1
  unfold conc at e'
  simp only [List.map_cons, conc]
  jvm_step XX.here [XX.here.top, ↓top_set XX.here.top, hx, hb, hd, e']
  exact a
theorem wp_astore {n : Nat} {x : Option Nat} (hd : decode (mB i) pc = .ok (.astore n, 2)) (hn : n < mL i) (k : wp i (pc + 2) (stL ls n (vR x)) st h Q X) : wp i pc ls (vR x :: st) h Q X := by
  intro D DA B0 CN CS p l e R s m args below meth c H locs ls' hfl hE
  obtain ⟨l1, e', h'⟩ := hE.2.2.1.store (v := vR x) hn rfl
  intro T hT XX
  obtain ⟨t, a, b⟩ := k D DA B0 CN CS p l e R s m args below meth c H locs l1 hfl ⟨hE.1, hE.2.1, h', hE.2.2.2⟩ T hT XX
  refine ⟨t, ?_, b⟩
  have hx := hE.1.1
  have hb := hE.1.2.1
  match x with
  | none =>
    simp only [conc, va_rf] at e'
    simp only [List.map_cons, conc, va_rf]
    jvm_step XX.here [XX.here.top, ↓top_set XX.here.top, hx, hb, hd, e', Value.isRef]
    exact a
  | some x =>
    simp only [conc, va_rf] at e'
    simp only [List.map_cons, conc, va_rf]
    jvm_step XX.here [XX.here.top, ↓top_set XX.here.top, hx, hb, hd, e', Value.isRef]
    exact a
theorem wp_iinc {n : Nat} {d x : Int} (hd : decode (mB i) pc = .ok (.iinc n d, 3)) (hl : ls[n]? = some (some (vI x))) (hn : n < mL i) (k : wp i (pc + 3) (stL ls n (vI (x + d))) st h Q X) : wp i pc ls st h Q X := by
  intro D DA B0 CN CS p l e R s m args below meth c H locs ls' hfl hE
  obtain ⟨l1, e', h'⟩ := hE.2.2.1.store (v := vI (x + d)) hn rfl
  have hg := hE.2.2.1.at hl
  intro T hT XX
  obtain ⟨t, a, b⟩ := k D DA B0 CN CS p l e R s m args below meth c H locs l1 hfl ⟨hE.1, hE.2.1, h', hE.2.2.2⟩ T hT XX
  refine ⟨t, ?_, b⟩
  have hx := hE.1.1
  have hb := hE.1.2.1
  simp only [conc, Int32.ofInt_add] at e' hg
  jvm_step XX.here [XX.here.top, ↓top_set XX.here.top, hx, hb, hd, hg, e']
  exact a
theorem wp_iadd {x y : Int} (hd : decode (mB i) pc = .ok (.iadd, 1))
    (k : wp i (pc + 1) ls (vI (x + y) :: st) h Q X) : wp i pc ls (vI y :: vI x :: st) h Q X := by
  intro D DA B0 CN CS p l e R s m args below meth c H locs ls' hfl hE
  have kk := k D DA B0 CN CS p l e R s m args below meth c H locs ls' hfl hE
  simp only [List.map_cons, conc, Int32.ofInt_add] at kk
  exact lv_iadd hE.1.1 hE.1.2.1 hd kk
theorem wp_isub {x y : Int} (hd : decode (mB i) pc = .ok (.isub, 1))
    (k : wp i (pc + 1) ls (vI (x - y) :: st) h Q X) : wp i pc ls (vI y :: vI x :: st) h Q X := by
  intro D DA B0 CN CS p l e R s m args below meth c H locs ls' hfl hE
  have kk := k D DA B0 CN CS p l e R s m args below meth c H locs ls' hfl hE
  simp only [List.map_cons, conc, Int32.ofInt_sub] at kk
  exact lv_isub hE.1.1 hE.1.2.1 hd kk
theorem wp_imul {x y : Int} (hd : decode (mB i) pc = .ok (.imul, 1))
    (k : wp i (pc + 1) ls (vI (x * y) :: st) h Q X) : wp i pc ls (vI y :: vI x :: st) h Q X := by
  intro D DA B0 CN CS p l e R s m args below meth c H locs ls' hfl hE
  have kk := k D DA B0 CN CS p l e R s m args below meth c H locs ls' hfl hE
  simp only [List.map_cons, conc, Int32.ofInt_mul] at kk
  exact lv_imul hE.1.1 hE.1.2.1 hd kk
theorem wp_ladd {x y : Int} (hd : decode (mB i) pc = .ok (.ladd, 1))
    (k : wp i (pc + 1) ls (vL (x + y) :: st) h Q X) : wp i pc ls (vL y :: vL x :: st) h Q X := by
  intro D DA B0 CN CS p l e R s m args below meth c H locs ls' hfl hE
  have kk := k D DA B0 CN CS p l e R s m args below meth c H locs ls' hfl hE
  simp only [List.map_cons, conc, Int64.ofInt_add] at kk
  exact lv_ladd hE.1.1 hE.1.2.1 hd kk
theorem wp_lsub {x y : Int} (hd : decode (mB i) pc = .ok (.lsub, 1))
    (k : wp i (pc + 1) ls (vL (x - y) :: st) h Q X) : wp i pc ls (vL y :: vL x :: st) h Q X := by
  intro D DA B0 CN CS p l e R s m args below meth c H locs ls' hfl hE
  have kk := k D DA B0 CN CS p l e R s m args below meth c H locs ls' hfl hE
  simp only [List.map_cons, conc, Int64.ofInt_sub] at kk
  exact lv_lsub hE.1.1 hE.1.2.1 hd kk
theorem wp_lmul {x y : Int} (hd : decode (mB i) pc = .ok (.lmul, 1))
    (k : wp i (pc + 1) ls (vL (x * y) :: st) h Q X) : wp i pc ls (vL y :: vL x :: st) h Q X := by
  intro D DA B0 CN CS p l e R s m args below meth c H locs ls' hfl hE
  have kk := k D DA B0 CN CS p l e R s m args below meth c H locs ls' hfl hE
  simp only [List.map_cons, conc, Int64.ofInt_mul] at kk
  exact lv_lmul hE.1.1 hE.1.2.1 hd kk
theorem i_ne0 {y : Int} (hy : inR y) (h0 : y ≠ 0) : ¬ Int32.ofInt y = 0 := fun q => h0 ((i_eq hy (y := 0) (by decide)).mp q)
theorem i_div {x y : Int} (hx : inR x) (hy : inR y) : Int32.ofInt x / Int32.ofInt y = Int32.ofInt (x.tdiv y) :=
  (Int32.ofInt_tdiv (a := x) (b := y) (by show (-2147483648 : Int) ≤ x; exact hx.1) (by show x ≤ (2147483647 : Int); exact hx.2) (by show (-2147483648 : Int) ≤ y; exact hy.1) (by show y ≤ (2147483647 : Int); exact hy.2)).symm
theorem i_rem {x y : Int} (hx : inR x) (hy : inR y) : Int32.ofInt x - Int32.ofInt x / Int32.ofInt y * Int32.ofInt y = Int32.ofInt (x.tmod y) := by
  rw [i_div hx hy, ← Int32.ofInt_mul, ← Int32.ofInt_sub]
  congr 1
  have := Int.tmod_add_mul_tdiv x y
  have e : x.tdiv y * y = y * x.tdiv y := Int.mul_comm _ _
  omega
theorem wp_idiv {x y : Int} (hd : decode (mB i) pc = .ok (.idiv, 1)) (hx : inR x) (hy : inR y) (h0 : y ≠ 0)
    (k : wp i (pc + 1) ls (vI (x.tdiv y) :: st) h Q X) : wp i pc ls (vI y :: vI x :: st) h Q X := by
  intro D DA B0 CN CS p l e R s m args below meth c H locs ls' hfl hE
  have kk := k D DA B0 CN CS p l e R s m args below meth c H locs ls' hfl hE
  simp only [List.map_cons, conc, ← i_div hx hy] at kk
  exact lv_idiv hE.1.1 hE.1.2.1 hd (i_ne0 hy h0) kk
theorem wp_irem {x y : Int} (hd : decode (mB i) pc = .ok (.irem, 1)) (hx : inR x) (hy : inR y) (h0 : y ≠ 0)
    (k : wp i (pc + 1) ls (vI (x.tmod y) :: st) h Q X) : wp i pc ls (vI y :: vI x :: st) h Q X := by
  intro D DA B0 CN CS p l e R s m args below meth c H locs ls' hfl hE
  have kk := k D DA B0 CN CS p l e R s m args below meth c H locs ls' hfl hE
  simp only [List.map_cons, conc, ← i_rem hx hy] at kk
  exact lv_irem hE.1.1 hE.1.2.1 hd (i_ne0 hy h0) kk
/-- and, or, exclusive or, shifted right: as the machine has them -/
def vand (x y : Int) : Int := (Int32.ofInt x &&& Int32.ofInt y).toInt
def vor (x y : Int) : Int := (Int32.ofInt x ||| Int32.ofInt y).toInt
def vxor (x y : Int) : Int := (Int32.ofInt x ^^^ Int32.ofInt y).toInt
def vshr (x y : Int) : Int := (Int32.ofInt x >>> (Int32.ofInt y &&& 31)).toInt
theorem wp_iand {x y : Int} (hd : decode (mB i) pc = .ok (.iand, 1))
    (k : wp i (pc + 1) ls (vI (vand x y) :: st) h Q X) : wp i pc ls (vI y :: vI x :: st) h Q X := by
  intro D DA B0 CN CS p l e R s m args below meth c H locs ls' hfl hE
  have kk := k D DA B0 CN CS p l e R s m args below meth c H locs ls' hfl hE
  simp only [List.map_cons, conc, vand, Int32.ofInt_toInt] at kk
  exact lv_iand hE.1.1 hE.1.2.1 hd kk
theorem wp_ior {x y : Int} (hd : decode (mB i) pc = .ok (.ior, 1))
    (k : wp i (pc + 1) ls (vI (vor x y) :: st) h Q X) : wp i pc ls (vI y :: vI x :: st) h Q X := by
  intro D DA B0 CN CS p l e R s m args below meth c H locs ls' hfl hE
  have kk := k D DA B0 CN CS p l e R s m args below meth c H locs ls' hfl hE
  simp only [List.map_cons, conc, vor, Int32.ofInt_toInt] at kk
  exact lv_ior hE.1.1 hE.1.2.1 hd kk
theorem wp_ixor {x y : Int} (hd : decode (mB i) pc = .ok (.ixor, 1))
    (k : wp i (pc + 1) ls (vI (vxor x y) :: st) h Q X) : wp i pc ls (vI y :: vI x :: st) h Q X := by
  intro D DA B0 CN CS p l e R s m args below meth c H locs ls' hfl hE
  have kk := k D DA B0 CN CS p l e R s m args below meth c H locs ls' hfl hE
  simp only [List.map_cons, conc, vxor, Int32.ofInt_toInt] at kk
  exact lv_ixor hE.1.1 hE.1.2.1 hd kk
theorem wp_ishr {x y : Int} (hd : decode (mB i) pc = .ok (.ishr, 1))
    (k : wp i (pc + 1) ls (vI (vshr x y) :: st) h Q X) : wp i pc ls (vI y :: vI x :: st) h Q X := by
  intro D DA B0 CN CS p l e R s m args below meth c H locs ls' hfl hE
  have kk := k D DA B0 CN CS p l e R s m args below meth c H locs ls' hfl hE
  simp only [List.map_cons, conc, vshr, Int32.ofInt_toInt] at kk
  exact lv_ishr hE.1.1 hE.1.2.1 hd kk
theorem i_long {x : Int} (hx : inR x) : (Int32.ofInt x).toInt64 = Int64.ofInt x := Int32.toInt64_ofInt (by show (-2147483648 : Int) ≤ x; exact hx.1) (by show x ≤ (2147483647 : Int); exact hx.2)
theorem wp_i2l {x : Int} (hd : decode (mB i) pc = .ok (.i2l, 1)) (hx : inR x)
    (k : wp i (pc + 1) ls (vL x :: st) h Q X) : wp i pc ls (vI x :: st) h Q X := by
  intro D DA B0 CN CS p l e R s m args below meth c H locs ls' hfl hE
  exact lv_i2l hE.1.1 hE.1.2.1 hd (i_long hx) (k D DA B0 CN CS p l e R s m args below meth c H locs ls' hfl hE)
theorem wp_l2i {x : Int} (hd : decode (mB i) pc = .ok (.l2i, 1))
    (k : wp i (pc + 1) ls (vI (Int64.ofInt x).toInt32.toInt :: st) h Q X) : wp i pc ls (vL x :: st) h Q X := by
  intro D DA B0 CN CS p l e R s m args below meth c H locs ls' hfl hE
  have kk := k D DA B0 CN CS p l e R s m args below meth c H locs ls' hfl hE
  simp only [List.map_cons, conc, Int32.ofInt_toInt] at kk
  exact lv_l2i hE.1.1 hE.1.2.1 hd rfl kk
theorem wp_dup {v : AV} (hd : decode (mB i) pc = .ok (.dup, 1)) (hc : cat2 v = false := by rfl)
    (k : wp i (pc + 1) ls (v :: v :: st) h Q X) : wp i pc ls (v :: st) h Q X := by
  intro D DA B0 CN CS p l e R s m args below meth c H locs ls' hfl hE
  exact lv_dup hE.1.1 hE.1.2.1 hd (by rw [conc_cat, hc]; rfl) (k D DA B0 CN CS p l e R s m args below meth c H locs ls' hfl hE)
theorem wp_pop {v : AV} (hd : decode (mB i) pc = .ok (.pop, 1)) (hc : cat2 v = false := by rfl)
    (k : wp i (pc + 1) ls st h Q X) : wp i pc ls (v :: st) h Q X := by
  intro D DA B0 CN CS p l e R s m args below meth c H locs ls' hfl hE
  exact lv_pop hE.1.1 hE.1.2.1 hd (by rw [conc_cat, hc]; rfl) (k D DA B0 CN CS p l e R s m args below meth c H locs ls' hfl hE)
theorem wp_dup_x1 {v w : AV} (hd : decode (mB i) pc = .ok (.dup_x1, 1)) (hc : cat2 v = false := by rfl) (hc2 : cat2 w = false := by rfl)
    (k : wp i (pc + 1) ls (v :: w :: v :: st) h Q X) : wp i pc ls (v :: w :: st) h Q X := by
  intro D DA B0 CN CS p l e R s m args below meth c H locs ls' hfl hE
  exact lv_dup_x1 hE.1.1 hE.1.2.1 hd (by rw [conc_cat, hc]; rfl) (by rw [conc_cat, hc2]; rfl) (k D DA B0 CN CS p l e R s m args below meth c H locs ls' hfl hE)
theorem wp_dup_x2 {v w u : AV} (hd : decode (mB i) pc = .ok (.dup_x2, 1)) (hc : cat2 v = false := by rfl) (hc2 : cat2 w = false := by rfl) (hc3 : cat2 u = false := by rfl)
    (k : wp i (pc + 1) ls (v :: w :: u :: v :: st) h Q X) : wp i pc ls (v :: w :: u :: st) h Q X := by
  intro D DA B0 CN CS p l e R s m args below meth c H locs ls' hfl hE
  exact lv_dup_x2 hE.1.1 hE.1.2.1 hd (by rw [conc_cat, hc]; rfl) (by rw [conc_cat, hc2]; rfl) (by rw [conc_cat, hc3]; rfl) (k D DA B0 CN CS p l e R s m args below meth c H locs ls' hfl hE)
theorem wp_dup2 {v w : AV} (hd : decode (mB i) pc = .ok (.dup2, 1)) (hc : cat2 v = false := by rfl) (hc2 : cat2 w = false := by rfl)
    (k : wp i (pc + 1) ls (v :: w :: v :: w :: st) h Q X) : wp i pc ls (v :: w :: st) h Q X := by
  intro D DA B0 CN CS p l e R s m args below meth c H locs ls' hfl hE
  exact lv_dup2_11 hE.1.1 hE.1.2.1 hd (by rw [conc_cat, hc]; rfl) (by rw [conc_cat, hc2]; rfl) (k D DA B0 CN CS p l e R s m args below meth c H locs ls' hfl hE)
theorem wp_icmp_eq {x y off : Int} {tgt : Nat} (hd : decode (mB i) pc = .ok (.if_icmp .eq off, 3)) (ht : (pc : Int) + off = (tgt : Int)) (hx : inR x) (hy : inR y)
    (kt : x = y → wp i tgt ls st h Q X) (kf : ¬ x = y → wp i (pc + 3) ls st h Q X) : wp i pc ls (vI y :: vI x :: st) h Q X := by
  intro D DA B0 CN CS p l e R s m args below meth c H locs ls' hfl hE
  refine lv_icmp_eq hE.1.1 hE.1.2.1 hd ht (fun q => ?_) (fun q => ?_)
  · exact kt ((i_eq hx hy).mp q) D DA B0 CN CS p l e R s m args below meth c H locs ls' hfl hE
  · exact kf (fun z => q ((i_eq hx hy).mpr z)) D DA B0 CN CS p l e R s m args below meth c H locs ls' hfl hE
theorem wp_if_eq {x off : Int} {tgt : Nat} (hd : decode (mB i) pc = .ok (.ifCond .eq off, 3)) (ht : (pc : Int) + off = (tgt : Int)) (hx : inR x)
    (kt : x = 0 → wp i tgt ls st h Q X) (kf : ¬ x = 0 → wp i (pc + 3) ls st h Q X) : wp i pc ls (vI x :: st) h Q X := by
  intro D DA B0 CN CS p l e R s m args below meth c H locs ls' hfl hE
  refine lv_if_eq hE.1.1 hE.1.2.1 hd ht (fun q => ?_) (fun q => ?_)
  · exact kt ((i_eq hx (y := 0) (by decide)).mp q) D DA B0 CN CS p l e R s m args below meth c H locs ls' hfl hE
  · exact kf (fun z => q ((i_eq hx (y := 0) (by decide)).mpr z)) D DA B0 CN CS p l e R s m args below meth c H locs ls' hfl hE
theorem wp_icmp_ne {x y off : Int} {tgt : Nat} (hd : decode (mB i) pc = .ok (.if_icmp .ne off, 3)) (ht : (pc : Int) + off = (tgt : Int)) (hx : inR x) (hy : inR y)
    (kt : x ≠ y → wp i tgt ls st h Q X) (kf : ¬ x ≠ y → wp i (pc + 3) ls st h Q X) : wp i pc ls (vI y :: vI x :: st) h Q X := by
  intro D DA B0 CN CS p l e R s m args below meth c H locs ls' hfl hE
  refine lv_icmp_ne hE.1.1 hE.1.2.1 hd ht (fun q => ?_) (fun q => ?_)
  · exact kt ((not_congr (i_eq hx hy)).mp q) D DA B0 CN CS p l e R s m args below meth c H locs ls' hfl hE
  · exact kf (fun z => z ((i_eq hx hy).mp q)) D DA B0 CN CS p l e R s m args below meth c H locs ls' hfl hE
theorem wp_if_ne {x off : Int} {tgt : Nat} (hd : decode (mB i) pc = .ok (.ifCond .ne off, 3)) (ht : (pc : Int) + off = (tgt : Int)) (hx : inR x)
    (kt : x ≠ 0 → wp i tgt ls st h Q X) (kf : ¬ x ≠ 0 → wp i (pc + 3) ls st h Q X) : wp i pc ls (vI x :: st) h Q X := by
  intro D DA B0 CN CS p l e R s m args below meth c H locs ls' hfl hE
  refine lv_if_ne hE.1.1 hE.1.2.1 hd ht (fun q => ?_) (fun q => ?_)
  · exact kt ((not_congr (i_eq hx (y := 0) (by decide))).mp q) D DA B0 CN CS p l e R s m args below meth c H locs ls' hfl hE
  · exact kf (fun z => z ((i_eq hx (y := 0) (by decide)).mp q)) D DA B0 CN CS p l e R s m args below meth c H locs ls' hfl hE
theorem wp_icmp_lt {x y off : Int} {tgt : Nat} (hd : decode (mB i) pc = .ok (.if_icmp .lt off, 3)) (ht : (pc : Int) + off = (tgt : Int)) (hx : inR x) (hy : inR y)
    (kt : x < y → wp i tgt ls st h Q X) (kf : ¬ x < y → wp i (pc + 3) ls st h Q X) : wp i pc ls (vI y :: vI x :: st) h Q X := by
  intro D DA B0 CN CS p l e R s m args below meth c H locs ls' hfl hE
  refine lv_icmp_lt hE.1.1 hE.1.2.1 hd ht (fun q => ?_) (fun q => ?_)
  · exact kt ((i_lt hx hy).mp q) D DA B0 CN CS p l e R s m args below meth c H locs ls' hfl hE
  · exact kf (fun z => q ((i_lt hx hy).mpr z)) D DA B0 CN CS p l e R s m args below meth c H locs ls' hfl hE
theorem wp_if_lt {x off : Int} {tgt : Nat} (hd : decode (mB i) pc = .ok (.ifCond .lt off, 3)) (ht : (pc : Int) + off = (tgt : Int)) (hx : inR x)
    (kt : x < 0 → wp i tgt ls st h Q X) (kf : ¬ x < 0 → wp i (pc + 3) ls st h Q X) : wp i pc ls (vI x :: st) h Q X := by
  intro D DA B0 CN CS p l e R s m args below meth c H locs ls' hfl hE
  refine lv_if_lt hE.1.1 hE.1.2.1 hd ht (fun q => ?_) (fun q => ?_)
  · exact kt ((i_lt hx (y := 0) (by decide)).mp q) D DA B0 CN CS p l e R s m args below meth c H locs ls' hfl hE
  · exact kf (fun z => q ((i_lt hx (y := 0) (by decide)).mpr z)) D DA B0 CN CS p l e R s m args below meth c H locs ls' hfl hE
theorem wp_icmp_ge {x y off : Int} {tgt : Nat} (hd : decode (mB i) pc = .ok (.if_icmp .ge off, 3)) (ht : (pc : Int) + off = (tgt : Int)) (hx : inR x) (hy : inR y)
    (kt : y ≤ x → wp i tgt ls st h Q X) (kf : ¬ y ≤ x → wp i (pc + 3) ls st h Q X) : wp i pc ls (vI y :: vI x :: st) h Q X := by
  intro D DA B0 CN CS p l e R s m args below meth c H locs ls' hfl hE
  refine lv_icmp_ge hE.1.1 hE.1.2.1 hd ht (fun q => ?_) (fun q => ?_)
  · exact kt ((i_le hy hx).mp q) D DA B0 CN CS p l e R s m args below meth c H locs ls' hfl hE
  · exact kf (fun z => q ((i_le hy hx).mpr z)) D DA B0 CN CS p l e R s m args below meth c H locs ls' hfl hE
theorem wp_if_ge {x off : Int} {tgt : Nat} (hd : decode (mB i) pc = .ok (.ifCond .ge off, 3)) (ht : (pc : Int) + off = (tgt : Int)) (hx : inR x)
    (kt : 0 ≤ x → wp i tgt ls st h Q X) (kf : ¬ 0 ≤ x → wp i (pc + 3) ls st h Q X) : wp i pc ls (vI x :: st) h Q X := by
  intro D DA B0 CN CS p l e R s m args below meth c H locs ls' hfl hE
  refine lv_if_ge hE.1.1 hE.1.2.1 hd ht (fun q => ?_) (fun q => ?_)
  · exact kt ((i_le (x := 0) (by decide) hx).mp q) D DA B0 CN CS p l e R s m args below meth c H locs ls' hfl hE
  · exact kf (fun z => q ((i_le (x := 0) (by decide) hx).mpr z)) D DA B0 CN CS p l e R s m args below meth c H locs ls' hfl hE
theorem wp_icmp_gt {x y off : Int} {tgt : Nat} (hd : decode (mB i) pc = .ok (.if_icmp .gt off, 3)) (ht : (pc : Int) + off = (tgt : Int)) (hx : inR x) (hy : inR y)
    (kt : y < x → wp i tgt ls st h Q X) (kf : ¬ y < x → wp i (pc + 3) ls st h Q X) : wp i pc ls (vI y :: vI x :: st) h Q X := by
  intro D DA B0 CN CS p l e R s m args below meth c H locs ls' hfl hE
  refine lv_icmp_gt hE.1.1 hE.1.2.1 hd ht (fun q => ?_) (fun q => ?_)
  · exact kt ((i_lt hy hx).mp q) D DA B0 CN CS p l e R s m args below meth c H locs ls' hfl hE
  · exact kf (fun z => q ((i_lt hy hx).mpr z)) D DA B0 CN CS p l e R s m args below meth c H locs ls' hfl hE
theorem wp_if_gt {x off : Int} {tgt : Nat} (hd : decode (mB i) pc = .ok (.ifCond .gt off, 3)) (ht : (pc : Int) + off = (tgt : Int)) (hx : inR x)
    (kt : 0 < x → wp i tgt ls st h Q X) (kf : ¬ 0 < x → wp i (pc + 3) ls st h Q X) : wp i pc ls (vI x :: st) h Q X := by
  intro D DA B0 CN CS p l e R s m args below meth c H locs ls' hfl hE
  refine lv_if_gt hE.1.1 hE.1.2.1 hd ht (fun q => ?_) (fun q => ?_)
  · exact kt ((i_lt (x := 0) (by decide) hx).mp q) D DA B0 CN CS p l e R s m args below meth c H locs ls' hfl hE
  · exact kf (fun z => q ((i_lt (x := 0) (by decide) hx).mpr z)) D DA B0 CN CS p l e R s m args below meth c H locs ls' hfl hE
theorem wp_icmp_le {x y off : Int} {tgt : Nat} (hd : decode (mB i) pc = .ok (.if_icmp .le off, 3)) (ht : (pc : Int) + off = (tgt : Int)) (hx : inR x) (hy : inR y)
    (kt : x ≤ y → wp i tgt ls st h Q X) (kf : ¬ x ≤ y → wp i (pc + 3) ls st h Q X) : wp i pc ls (vI y :: vI x :: st) h Q X := by
  intro D DA B0 CN CS p l e R s m args below meth c H locs ls' hfl hE
  refine lv_icmp_le hE.1.1 hE.1.2.1 hd ht (fun q => ?_) (fun q => ?_)
  · exact kt ((i_le hx hy).mp q) D DA B0 CN CS p l e R s m args below meth c H locs ls' hfl hE
  · exact kf (fun z => q ((i_le hx hy).mpr z)) D DA B0 CN CS p l e R s m args below meth c H locs ls' hfl hE
theorem wp_if_le {x off : Int} {tgt : Nat} (hd : decode (mB i) pc = .ok (.ifCond .le off, 3)) (ht : (pc : Int) + off = (tgt : Int)) (hx : inR x)
    (kt : x ≤ 0 → wp i tgt ls st h Q X) (kf : ¬ x ≤ 0 → wp i (pc + 3) ls st h Q X) : wp i pc ls (vI x :: st) h Q X := by
  intro D DA B0 CN CS p l e R s m args below meth c H locs ls' hfl hE
  refine lv_if_le hE.1.1 hE.1.2.1 hd ht (fun q => ?_) (fun q => ?_)
  · exact kt ((i_le hx (y := 0) (by decide)).mp q) D DA B0 CN CS p l e R s m args below meth c H locs ls' hfl hE
  · exact kf (fun z => q ((i_le hx (y := 0) (by decide)).mpr z)) D DA B0 CN CS p l e R s m args below meth c H locs ls' hfl hE
theorem wp_goto {off : Int} {tgt : Nat} (hd : decode (mB i) pc = .ok (.goto off, 3)) (ht : (pc : Int) + off = (tgt : Int))
    (k : wp i tgt ls st h Q X) : wp i pc ls st h Q X := by
  intro D DA B0 CN CS p l e R s m args below meth c H locs ls' hfl hE
  exact lv_goto hE.1.1 hE.1.2.1 hd ht (k D DA B0 CN CS p l e R s m args below meth c H locs ls' hfl hE)
theorem wp_ifnull {x : Option Nat} {off : Int} {tgt : Nat} (hd : decode (mB i) pc = .ok (.ifnull off, 3)) (ht : (pc : Int) + off = (tgt : Int))
    (kt : x = none → wp i tgt ls st h Q X) (kf : ∀ a, x = some a → wp i (pc + 3) ls st h Q X) : wp i pc ls (vR x :: st) h Q X := by
  intro D DA B0 CN CS p l e R s m args below meth c H locs ls' hfl hE
  match x with
  | none => exact lv_ifnullN hE.1.1 hE.1.2.1 hd ht (kt rfl D DA B0 CN CS p l e R s m args below meth c H locs ls' hfl hE)
  | some a => exact lv_ifnull hE.1.1 hE.1.2.1 hd (kf a rfl D DA B0 CN CS p l e R s m args below meth c H locs ls' hfl hE)
theorem wp_ifnonnull {x : Option Nat} {off : Int} {tgt : Nat} (hd : decode (mB i) pc = .ok (.ifnonnull off, 3)) (ht : (pc : Int) + off = (tgt : Int))
    (kt : ∀ a, x = some a → wp i tgt ls st h Q X) (kf : x = none → wp i (pc + 3) ls st h Q X) : wp i pc ls (vR x :: st) h Q X := by
  intro D DA B0 CN CS p l e R s m args below meth c H locs ls' hfl hE
  match x with
  | none => exact lv_ifnonnullN hE.1.1 hE.1.2.1 hd (kf rfl D DA B0 CN CS p l e R s m args below meth c H locs ls' hfl hE)
  | some a => exact lv_ifnonnull hE.1.1 hE.1.2.1 hd ht (kt a rfl D DA B0 CN CS p l e R s m args below meth c H locs ls' hfl hE)
end WP
end
section
/-! ===== THE LOGIC, part 3: fields, arrays, new cells, ends ===== -/
def isI (ty : FieldType) : Bool := match ty with
  | .int => true
  | .boolean => true
  | _ => false
def isJ (ty : FieldType) : Bool := match ty with
  | .long => true
  | _ => false
def isRf (ty : FieldType) : Bool := match ty with
  | .object _ => true
  | .array _ => true
  | _ => false
theorem sv_I {ty : FieldType} (h : isI ty = true) (hp : Hp) (a : Nat) (k : Int) : sv ty hp a k = .int (Int32.ofInt (hi hp a k)) := by
  cases ty <;> first | rfl | cases h
theorem sv_J {ty : FieldType} (h : isJ ty = true) (hp : Hp) (a : Nat) (k : Int) : sv ty hp a k = .long (Int64.ofInt (hl hp a k)) := by
  cases ty <;> first | rfl | cases h
theorem sv_R {ty : FieldType} (h : isRf ty = true) (hp : Hp) (a : Nat) (k : Int) : sv ty hp a k = va_rf (hr hp a k) := by
  cases ty <;> first | rfl | cases h
theorem CL_lt {ci : Nat} {q : vw_C} (h : CL[ci]? = some q) : ci < 99 := Nat.lt_of_lt_of_le (List.getElem?_eq_some_iff.mp h).1 (by decide)
theorem KA_ge : ∀ K ∈ KA, 100 ≤ K ∧ K ≠ 200 := by decide
def flF (ci k : Nat) : Bool := match CL[ci]? with
  | some q => (q.2.1 k).2.2.2
  | none => false
def CLn (ci : Nat) : String := match CL[ci]? with
  | some q => q.1
  | none => ""
theorem okAt.obj {D : va_G} {DA : Nat → ClassId} {s : State} {H : Heap} {h : Hp} {a ci : Nat} (k : okAt D DA s H h a) (hk : kd h a = ci + 1) (hlt : ci < 99) : ∃ q, CL[ci]? = some q ∧ t_OB a (D.1 ci) q.2.2 (D.2 ci) H (fun k => sv (cT (ci + 1) k) h a k) := by
  rcases k with ⟨k1, q, k2, k3⟩ | ⟨k1, -⟩ | ⟨k1, -⟩
  · rw [hk] at k2 k3
    exact ⟨q, k2, k3⟩
  · omega
  · have := KA_ge _ k1
    omega
theorem okAt.arr {D : va_G} {DA : Nat → ClassId} {s : State} {H : Heap} {h : Hp} {a : Nat} (k : okAt D DA s H h a) (hk : 100 ≤ kd h a) (h2 : kd h a ≠ 200) : kd h a ∈ KA ∧ 0 ≤ ln h a ∧ inR (ln h a) ∧ H[a]? = some (arrV (DA (kd h a)) (ln h a).toNat (fun j => sv (AT (kd h a)) h a j)) := by
  rcases k with ⟨k1, -⟩ | ⟨k1, -⟩ | k
  · omega
  · exact absurd k1 h2
  · exact k
section HP
variable {i pc : Nat} {ls : List (Option AV)} {st : List AV} {h : Hp} {Q : Option AV → Hp → Prop} {X : String → Hp → Prop}
variable {D : va_G} {DA : Nat → ClassId} {B0 CN CS : Nat} {p : Program} {l : Launch} {e : Env} {R : Room} {s : State} {m : MethodId} {args : Array Value} {below : List Frame} {meth : Method} {c : Code} {H : Heap} {locs : List Loc} {ls' : Array Slot} {cells slots : Nat} {Z : State → Prop}
theorem W_getf {a idx ci k : Nat} {st' : List Value} (hE : En i D DA B0 CN CS p R s m meth c H locs ls' ls h) (hf : flP (mY i).cls idx ci k) (hd : decode (mB i) pc = .ok (.getfield idx, 3)) (hk : kd h a = ci + 1)
    (kk : W p l e R s m args below meth c H locs cells slots Z (F0 m (pc + 3) ls' (sv (cT (ci + 1) k) h a k :: st'))) : W p l e R s m args below meth c H locs cells slots Z (F0 m pc ls' (.ref a :: st')) := by
  obtain ⟨q, hc, hkn, hw⟩ := hf
  obtain ⟨⟨hx, hb, -, -, -, hown, -, hok, hK, -⟩, hrep, -⟩ := hE
  obtain ⟨q', hc', cell, q1, q2, q3, q4⟩ := (hrep.2.2.2.2.2.2.2.2 a (by omega)).2.obj hk (CL_lt hc)
  cases hc.symm.trans hc'
  obtain ⟨hS, hfc, kC, hkC, hkind⟩ := hK.1 ci _ hc
  obtain ⟨c1, c2, c3, c4⟩ := CL_ok ci _ hc
  obtain ⟨cf, kf, fi, f, hi, hsl⟩ := hS k hkn
  have hts : ∀ w ∈ u_ws q.1 q.2.1 q.2.2, w.before args s = true := fun w h => hok w (c1 w h) _
  have hst := (u_facts hfc hkC (u_lays hts (fun _ h => h) hkn) hi).1
  rw [c4 k] at hi
  refine W.getf hx hb hown (hok _ hw _) hi hst q1 (by rw [q3]; exact fun h => by cases h) (v := sv (cT (ci + 1) k) h a k) ?_ rfl rfl hd kk
  rw [hsl, q4 k hkn]
theorem okAt.set1 {a : Nat} {ci k : Nat} {q : vw_C} {h1 : Hp} {cell : Cell} {v : Value} {H1 : Heap} (hc : CL[ci]? = some q) (hk : kd h a = ci + 1) (hk1 : kd h1 a = kd h a) (q2 : cell.cls = D.1 ci) (q3 : cell.vm = .none) (q4 : ∀ k, k < q.2.2 → cell.slots[D.2 ci k]? = some (sv (cT (ci + 1) k) h a k)) (hap : ∀ a b, a < q.2.2 → b < q.2.2 → a ≠ b → D.2 ci a ≠ D.2 ci b) (hkn : k < q.2.2)
    (e1 : H1[a]? = some (cell.setSlot (D.2 ci k) v)) (hv : sv (cT (ci + 1) k) h1 a k = v) (ho : ∀ j : Nat, j ≠ k → sv (cT (ci + 1) j) h1 a j = sv (cT (ci + 1) j) h a j) : okAt D DA s H1 h1 a := by
  refine Or.inl ⟨by rw [hk1, hk]; have := CL_lt hc; omega, q, ?_, ?_⟩
  · rw [hk1, hk]; exact hc
  · rw [hk1, hk]
    refine t_OB.to (V := updV (fun k => sv (cT (ci + 1) k) h a k) k v) ⟨_, e1, q2, q3, t_set q4 hap hkn v⟩ (fun j _ => ?_)
    by_cases hj : j = k
    · subst hj
      simp [updV, hv]
    · simp only [updV, if_neg hj]
      exact (ho j hj).symm
theorem rep.put {a : Nat} {H1 : Heap} {h1 : Hp} {x : Cell} (hrep : rep D DA B0 CN CS s H h) (ha : kd h a ≠ 0) (hx : H1[a]? = some x) (hs : ∀ c : Cell, H[a]? = some c → x.slots.size = c.slots.size) (hz : H1.size = H.size) (ho : ∀ q : Nat, q ≠ a → H1[q]? = H[q]?)
    (g1 : kd h1 = kd h) (g2 : ln h1 = ln h) (g3 : nx h1 = nx h) (g4 : us h1 = us h) (g5 : cn h1 = cn h) (g6 : cs h1 = cs h) (g7 : ∀ a k, inR (hi h1 a k)) (g8 : ∀ b, b ≠ a → ∀ j, hi h1 b j = hi h b j ∧ hr h1 b j = hr h b j ∧ hl h1 b j = hl h b j) (g9 : okAt D DA s H1 h1 a) : rep D DA B0 CN CS s H1 h1 := by
  obtain ⟨k1, k2, k3, k4, k5, k6, k7, k8, k9⟩ := hrep
  refine ⟨by rw [hz, g3]; exact k1, by rw [ssum_set hz ho hx hs, g4]; exact k2, by rw [g5]; exact k3, by rw [g6]; exact k4, by rw [g3]; exact k5, by rw [g4]; exact k6, by rw [g3]; exact k7, g7, fun b hb => ?_⟩
  rw [g1] at hb ⊢
  refine ⟨(k9 b hb).1, ?_⟩
  by_cases hba : b = a
  · subst hba; exact g9
  · exact (k9 b hb).2.kept (ho b hba) (by rw [g1]) (by rw [g2]) (fun j => (g8 b hba j).1) (fun j => (g8 b hba j).2.1) (fun j => (g8 b hba j).2.2)
/-- a value written to a field -/
theorem W_putf {a idx ci k : Nat} {v : Value} {h1 : Hp} {st' : List Value} (hE : En i D DA B0 CN CS p R s m meth c H locs ls' ls h) (hf : flP (mY i).cls idx ci k) (hd : decode (mB i) pc = .ok (.putfield idx, 3)) (hk : kd h a = ci + 1)
    (hfin : flF ci k = false ∨ (flF ci k = true ∧ (mY i).name = "<init>" ∧ CLn ci = (mY i).cls)) (hn : narrow (cT (ci + 1) k) v = v) (hfit : fits (cT (ci + 1) k) v = true)
    (g1 : kd h1 = kd h) (g2 : ln h1 = ln h) (g3 : nx h1 = nx h) (g4 : us h1 = us h) (g5 : cn h1 = cn h) (g6 : cs h1 = cs h) (g7 : ∀ a k, inR (hi h1 a k)) (g8 : ∀ b, b ≠ a → ∀ j, hi h1 b j = hi h b j ∧ hr h1 b j = hr h b j ∧ hl h1 b j = hl h b j)
    (hv : sv (cT (ci + 1) k) h1 a k = v) (ho : ∀ j : Nat, j ≠ k → sv (cT (ci + 1) j) h1 a j = sv (cT (ci + 1) j) h a j)
    (kk : ∀ (H1 : Heap) (locs1 : List Loc), En i D DA B0 CN CS p R s m meth c H1 locs1 ls' ls h1 → W p l e R s m args below meth c H1 locs1 (H1.size - s.heap.size) (ssum H1 - ssum s.heap) Z (F0 m (pc + 3) ls' st')) : W p l e R s m args below meth c H locs cells slots Z (F0 m pc ls' (v :: .ref a :: st')) := by
  obtain ⟨q, hc, hkn, hw⟩ := hf
  have hE0 := hE
  obtain ⟨⟨hx, hb, -, -, -, hown, hname, hok, hK, -⟩, hrep, -, hloc, hsz, hss, -⟩ := hE
  have hka : kd h a ≠ 0 := by omega
  have hoka := hrep.2.2.2.2.2.2.2.2 a hka
  obtain ⟨q', hc', cell, q1, q2, q3, q4⟩ := hoka.2.obj hk (CL_lt hc)
  cases hc.symm.trans hc'
  obtain ⟨hS, hfc, kC, hkC, hkind⟩ := hK.1 ci _ hc
  obtain ⟨c1, c2, c3, c4⟩ := CL_ok ci _ hc
  have hts : ∀ w ∈ u_ws q.1 q.2.1 q.2.2, w.before args s = true := fun w h => hok w (c1 w h) _
  have hap := va_apart (own := q.1) (args := args) hts (fun _ h => h) (cT (ci + 1)) c3 c2 hK hc
  obtain ⟨cf, kf, fi, f, hi9, hsl⟩ := hS k hkn
  have hlay := hts _ (u_in_lay hkn)
  have hst := (u_facts hfc hkC (u_lays hts (fun _ h => h) hkn) hi9).1
  have hB : B0 ≤ a := by
    rcases hoka.1 with h2 | h2
    · have := CL_lt hc; omega
    · exact h2
  have fin : ∀ H1 : Heap, H1[a]? = some (cell.setSlot (D.2 ci k) v) → H1.size = H.size → (∀ q, q ≠ a → H1[q]? = H[q]?) → W p l e R s m args below meth c H1 (locs ++ [⟨a, D.2 ci k⟩]) cells slots Z (F0 m (pc + 3) ls' st') := by
    intro H1 e1 z1 o1
    have hsame : ∀ c : Cell, H[a]? = some c → (cell.setSlot (D.2 ci k) v).slots.size = c.slots.size := fun c hc => by
      rw [q1] at hc
      cases hc
      simp [Cell.setSlot]
    refine W_tight (kk H1 _ ⟨hE0.1, ?_, hE0.2.2.1, ?_, by rw [z1]; exact hsz, by rw [ssum_set z1 o1 e1 hsame]; exact hss, hE0.2.2.2.2.2.2⟩)
    · exact hrep.put hka e1 hsame z1 o1 g1 g2 g3 g4 g5 g6 g7 g8 (okAt.set1 hc hk (by rw [g1]) q2 q3 q4 (fun x y hx hy hne => hap x y hx hy hne) hkn e1 hv ho)
    · intro z hz
      rcases List.mem_append.mp hz with h | h
      · exact hloc z h
      · have := List.mem_singleton.mp h
        rw [this]
        exact hB
  rw [c4 k] at hi9
  have hd9 := c3 k hkn
  rcases hfin with hf | ⟨hf, hini, hcls⟩
  · have hf2 : (q.2.1 k).2.2.2 = false := by
      unfold flF at hf
      rw [hc] at hf
      exact hf
    unfold u_lay at hlay
    rw [if_neg (by rw [hf2]; decide), c4 k] at hlay
    have h6 := u_store hfc hkC hkind hlay hi9 hd9 hn hfit
    refine W.putK hx hb (f := f) ⟨hown, hok _ hw _, ⟨_, _, _, hi9⟩, hst⟩ (by rw [q2]; exact h6) q1 q3 (by rw [hsl]; exact k2_hasslot (q4 k hkn)) rfl rfl hd fun H' e1 e2 e3 => ?_
    rw [hsl] at e1 ⊢
    exact fin H' e1 e2 e3
  · have hf2 : (q.2.1 k).2.2.2 = true := by
      unfold flF at hf
      rw [hc] at hf
      exact hf
    unfold u_lay at hlay
    rw [if_pos hf2, c4 k] at hlay
    have hcf : m.cls = cf := by
      obtain ⟨_, _, c', _, _, _, -, -, hf', -, -, -, hown2, -⟩ := Cond.laysFinal_spec hlay
      have e1 : c' = cf := by have := hi9.symm.trans hf'; simp at this; exact this.1.symm
      have e2 : q.1 = (mY i).cls := by
        unfold CLn at hcls
        rw [hc] at hcls
        exact hcls
      rw [e2] at hown2
      rw [← e1]; exact Option.some.inj (hown.symm.trans hown2)
    have h6 := u_fits hfc hkC hkind (Or.inr hlay) hi9 hd9 hn hfit
    refine W.putFinK hx hb hown (hok _ hw _) hi9 hst hcf (hname.trans hini) (by rw [q2]; exact h6) q1 q3 (by rw [hsl]; exact k2_hasslot (q4 k hkn)) rfl rfl hd fun H' e1 e2 e3 => ?_
    rw [hsl] at e1 ⊢
    exact fin H' e1 e2 e3
end HP
section HQ
variable {i pc : Nat} {ls : List (Option AV)} {st : List AV} {h : Hp} {Q : Option AV → Hp → Prop} {X : String → Hp → Prop}
theorem wp_getI {idx ci k a : Nat} (kz : Int) (hd : decode (mB i) pc = .ok (.getfield idx, 3)) (hf : flP (mY i).cls idx ci k) (hz : (k : Int) = kz) (ht : isI (cT (ci + 1) k) = true) (hk : kd h a = ci + 1) (kk : ∀ x, x = hi h a kz → inR x → wp i (pc + 3) ls (vI x :: st) h Q X) : wp i pc ls (vR (some a) :: st) h Q X := by
  intro D DA B0 CN CS p l e R s m args below meth c H locs ls' hfl hE
  refine W_getf hE hf hd hk ?_
  rw [sv_I ht, hz]
  exact kk _ rfl (hE.2.1.2.2.2.2.2.2.2.1 _ _) D DA B0 CN CS p l e R s m args below meth c H locs ls' hfl hE
theorem wp_getR {idx ci k a : Nat} (kz : Int) (hd : decode (mB i) pc = .ok (.getfield idx, 3)) (hf : flP (mY i).cls idx ci k) (hz : (k : Int) = kz) (ht : isRf (cT (ci + 1) k) = true) (hk : kd h a = ci + 1) {v : Option Nat} (hv : hr h a kz = v) (kk : wp i (pc + 3) ls (vR v :: st) h Q X) : wp i pc ls (vR (some a) :: st) h Q X := by
  subst hv
  intro D DA B0 CN CS p l e R s m args below meth c H locs ls' hfl hE
  refine W_getf hE hf hd hk ?_
  rw [sv_R ht, hz]
  exact kk D DA B0 CN CS p l e R s m args below meth c H locs ls' hfl hE
theorem wp_getL {idx ci k a : Nat} (kz : Int) (hd : decode (mB i) pc = .ok (.getfield idx, 3)) (hf : flP (mY i).cls idx ci k) (hz : (k : Int) = kz) (ht : isJ (cT (ci + 1) k) = true) (hk : kd h a = ci + 1) (kk : wp i (pc + 3) ls (vL (hl h a kz) :: st) h Q X) : wp i pc ls (vR (some a) :: st) h Q X := by
  intro D DA B0 CN CS p l e R s m args below meth c H locs ls' hfl hE
  refine W_getf hE hf hd hk ?_
  rw [sv_J ht, hz]
  exact kk D DA B0 CN CS p l e R s m args below meth c H locs ls' hfl hE
theorem fit_I {ty : FieldType} {v : Int} (ht : isI ty = true) (hv : ty = .boolean → v = 0 ∨ v = 1) : narrow ty (.int (Int32.ofInt v)) = .int (Int32.ofInt v) ∧ fits ty (.int (Int32.ofInt v)) = true := by
  cases ty with
  | int => exact ⟨rfl, rfl⟩
  | boolean => rcases hv rfl with rfl | rfl <;> decide
  | _ => cases ht
theorem fit_R {ty : FieldType} {v : Option Nat} (ht : isRf ty = true) : narrow ty (va_rf v) = va_rf v ∧ fits ty (va_rf v) = true := by
  cases ty with
  | object n => cases v <;> exact ⟨rfl, rfl⟩
  | array n => cases v <;> exact ⟨rfl, rfl⟩
  | _ => cases ht
theorem hi_ne {a b : Nat} {k j v : Int} (hb : b ≠ a ∨ j ≠ k) : hi (setI h a k v) b j = hi h b j := by
  rw [hi_setI, up2_ne]
  rintro ⟨e1, e2⟩
  rcases hb with z | z
  · exact z e1
  · exact z e2
theorem wp_putI {idx ci k a : Nat} {v : Int} (kz : Int) (hd : decode (mB i) pc = .ok (.putfield idx, 3)) (hf : flP (mY i).cls idx ci k) (hz : (k : Int) = kz) (ht : isI (cT (ci + 1) k) = true) (hfin : flF ci k = false ∨ (flF ci k = true ∧ (mY i).name = "<init>" ∧ CLn ci = (mY i).cls)) (hk : kd h a = ci + 1) (hv : inR v) (hbo : cT (ci + 1) k = .boolean → v = 0 ∨ v = 1)
    (kk : wp i (pc + 3) ls st (setI h a kz v) Q X) : wp i pc ls (vI v :: vR (some a) :: st) h Q X := by
  intro D DA B0 CN CS p l e R s m args below meth c H locs ls' hfl hE
  subst hz
  have hin := hE.2.1.2.2.2.2.2.2.2.1
  refine W_putf (h1 := setI h a k v) hE hf hd hk hfin (fit_I ht hbo).1 (fit_I ht hbo).2 rfl rfl rfl rfl rfl rfl (fun b j => ?_) (fun b hb j => ⟨hi_ne (Or.inl hb), rfl, rfl⟩) ?_ (fun j hj => ?_) (fun H1 locs1 hE1 => kk D DA B0 CN CS p l e R s m args below meth c H1 locs1 ls' hfl hE1)
  · rw [hi_setI]
    unfold up2
    split
    · exact hv
    · exact hin b j
  · rw [sv_I ht, hi_setI, up2_same]
    rfl
  · unfold sv
    rw [hi_ne (Or.inr (by omega))]
    rfl
theorem wp_putR {idx ci k a : Nat} {v : Option Nat} (kz : Int) (hd : decode (mB i) pc = .ok (.putfield idx, 3)) (hf : flP (mY i).cls idx ci k) (hz : (k : Int) = kz) (ht : isRf (cT (ci + 1) k) = true) (hfin : flF ci k = false ∨ (flF ci k = true ∧ (mY i).name = "<init>" ∧ CLn ci = (mY i).cls)) (hk : kd h a = ci + 1)
    (kk : wp i (pc + 3) ls st (setR h a kz v) Q X) : wp i pc ls (vR v :: vR (some a) :: st) h Q X := by
  intro D DA B0 CN CS p l e R s m args below meth c H locs ls' hfl hE
  subst hz
  have hin := hE.2.1.2.2.2.2.2.2.2.1
  refine W_putf (h1 := setR h a k v) hE hf hd hk hfin (fit_R ht).1 (fit_R ht).2 rfl rfl rfl rfl rfl rfl hin (fun b hb j => ⟨rfl, ?_, rfl⟩) ?_ (fun j hj => ?_) (fun H1 locs1 hE1 => kk D DA B0 CN CS p l e R s m args below meth c H1 locs1 ls' hfl hE1)
  · rw [hr_setR, up2_ne]
    exact fun q => hb q.1
  · rw [sv_R ht, hr_setR, up2_same]
    rfl
  · unfold sv
    rw [hr_setR, up2_ne _ _ (fun q => hj (by omega))]
    rfl
/-! arrays -/
theorem arr_in {x n : Int} (hx : inR x) (h0 : 0 ≤ x) (h1 : x < n) : ¬ (Int32.ofInt x < 0 ∨ n.toNat ≤ (Int32.ofInt x).toNatClampNeg) := by
  rw [i_clamp hx, i_neg hx]
  omega
theorem wp_alen {a : Nat} (hd : decode (mB i) pc = .ok (.arraylength, 1)) (hk : 100 ≤ kd h a) (kk : wp i (pc + 1) ls (vI (ln h a) :: st) h Q X) : wp i pc ls (vR (some a) :: st) h Q X := by
  intro D DA B0 CN CS p l e R s m args below meth c H locs ls' hfl hE
  have k := kk D DA B0 CN CS p l e R s m args below meth c H locs ls' hfl hE
  have hoka := (hE.2.1.2.2.2.2.2.2.2.2 a (by omega)).2
  by_cases h2 : kd h a = 200
  · rcases hoka with ⟨k1, -⟩ | ⟨k1, k4, cell, k2, k3, k5, k6, k7⟩ | ⟨k1, -⟩
    · omega
    · refine W.alen hE.1.1 hE.1.2.1 k2 k3 (n := Int32.ofInt (ln h a)) ?_ rfl rfl hd k
      rw [← k6]
      rfl
    · exact absurd h2 (KA_ge _ k1).2
  · obtain ⟨k1, k2, k3, k4⟩ := hoka.arr hk h2
    refine W.alen hE.1.1 hE.1.2.1 k4 ((hE.1.2.2.2.2.2.2.2.2.2.1 _ k1).1 _ _) (n := Int32.ofInt (ln h a)) ?_ rfl rfl hd k
    rw [arrV_size]
    have : ((ln h a).toNat : Int) = ln h a := Int.toNat_of_nonneg k2
    rw [← this]
    rfl
theorem wp_iald {a : Nat} {x : Int} (hd : decode (mB i) pc = .ok (.iaload, 1)) (hk : kd h a = 100 ∨ kd h a = 200) (h0 : 0 ≤ x) (h1 : x < ln h a) (kk : ∀ y, y = hi h a x → inR y → wp i (pc + 1) ls (vI y :: st) h Q X) : wp i pc ls (vI x :: vR (some a) :: st) h Q X := by
  intro D DA B0 CN CS p l e R s m args below meth c H locs ls' hfl hE
  have k := kk _ rfl (hE.2.1.2.2.2.2.2.2.2.1 _ _) D DA B0 CN CS p l e R s m args below meth c H locs ls' hfl hE
  have hoka := (hE.2.1.2.2.2.2.2.2.2.2 a (by omega)).2
  have ht : (x.toNat : Int) = x := Int.toNat_of_nonneg h0
  rcases hk with hk | hk
  · obtain ⟨k1, k2, k3, k4⟩ := hoka.arr (by omega) (by omega)
    have hx : inR x := ⟨by omega, by have := k3.2; omega⟩
    rw [hk] at k4 k1
    refine W.iald hE.1.1 hE.1.2.1 k4 ((hE.1.2.2.2.2.2.2.2.2.2.1 _ k1).1 _ _) (fun q => by cases q) (by rw [arrV_size]; exact arr_in hx h0 h1) (v := .int (Int32.ofInt (hi h a x))) ?_ rfl rfl hd k
    rw [i_clamp hx, arrV_read _ _ (by omega), ht]
    rfl
  · rcases hoka with ⟨k1, -⟩ | ⟨k1, k4, cell, k2, k3, k5, k6, k7⟩ | ⟨k1, -⟩
    · omega
    · have hx : inR x := ⟨by omega, by have := k4.2; omega⟩
      have hsz : cell.slots.size = (ln h a).toNat := by omega
      refine W.iald hE.1.1 hE.1.2.1 k2 k3 k5 (by rw [hsz]; exact arr_in hx h0 h1) (v := .int (Int32.ofInt (hi h a x))) ?_ rfl rfl hd k
      rw [i_clamp hx, k7 _ (by omega), ht]
    · exact absurd hk (KA_ge _ k1).2
theorem wp_aald {a : Nat} {x : Int} (hd : decode (mB i) pc = .ok (.aaload, 1)) (hk : 100 ≤ kd h a) (h2 : kd h a ≠ 200) (hty : isRf (AT (kd h a)) = true) (h0 : 0 ≤ x) (h1 : x < ln h a) {v : Option Nat} (hv : hr h a x = v) (kk : wp i (pc + 1) ls (vR v :: st) h Q X) : wp i pc ls (vI x :: vR (some a) :: st) h Q X := by
  subst hv
  intro D DA B0 CN CS p l e R s m args below meth c H locs ls' hfl hE
  have k := kk D DA B0 CN CS p l e R s m args below meth c H locs ls' hfl hE
  have hoka := (hE.2.1.2.2.2.2.2.2.2.2 a (by omega)).2
  have ht : (x.toNat : Int) = x := Int.toNat_of_nonneg h0
  obtain ⟨k1, k2, k3, k4⟩ := hoka.arr hk h2
  have hx : inR x := ⟨by omega, by have := k3.2; omega⟩
  refine W.aald hE.1.1 hE.1.2.1 k4 ((hE.1.2.2.2.2.2.2.2.2.2.1 _ k1).1 _ _) (by revert hty; cases AT (kd h a) <;> intro q <;> first | rfl | cases q) (fun q => by cases q) (by rw [arrV_size]; exact arr_in hx h0 h1) (v := va_rf (hr h a x)) ?_ rfl rfl hd k
  rw [i_clamp hx, arrV_read _ _ (by omega), ht, sv_R hty]
end HQ
/-- the whole numbers replaced -/
def wI (h : Hp) (f : Nat → Int → Int) : Hp := (kd h, ln h, f, hr h, hl h, nx h, us h, cn h, cs h)
theorem kd_wI (h : Hp) (f : Nat → Int → Int) : kd (wI h f) = kd h := rfl
theorem ln_wI (h : Hp) (f : Nat → Int → Int) : ln (wI h f) = ln h := rfl
theorem hi_wI (h : Hp) (f : Nat → Int → Int) : hi (wI h f) = f := rfl
theorem hr_wI (h : Hp) (f : Nat → Int → Int) : hr (wI h f) = hr h := rfl
theorem hl_wI (h : Hp) (f : Nat → Int → Int) : hl (wI h f) = hl h := rfl
theorem nx_wI (h : Hp) (f : Nat → Int → Int) : nx (wI h f) = nx h := rfl
theorem us_wI (h : Hp) (f : Nat → Int → Int) : us (wI h f) = us h := rfl
theorem cn_wI (h : Hp) (f : Nat → Int → Int) : cn (wI h f) = cn h := rfl
theorem cs_wI (h : Hp) (f : Nat → Int → Int) : cs (wI h f) = cs h := rfl
def ksub : List (Option AV) → List (Option AV) → Prop := fun L ls => match L, ls with
  | [], _ => True
  | none :: L, _ :: ls => ksub L ls
  | some v :: L, x :: ls => x = some v ∧ ksub L ls
  | _ :: _, [] => False
theorem ksub_at : ∀ (L ls : List (Option AV)), ksub L ls → ∀ (j : Nat) (v : AV), L[j]? = some (some v) → ls[j]? = some (some v)
  | [], _, _, j, v, h => by simp at h
  | none :: L, x :: ls, k, 0, v, h => by simp at h
  | none :: L, x :: ls, k, j + 1, v, h => ksub_at L ls k j v h
  | some u :: L, x :: ls, k, 0, v, h => by
    have h2 : u = v := by simpa using h
    have k1 : x = some u := k.1
    rw [k1, h2]
    rfl
  | some u :: L, x :: ls, k, j + 1, v, h => ksub_at L ls k.2 j v h
  | none :: L, [], k, _, _, _ => absurd k id
  | some u :: L, [], k, _, _, _ => absurd k id
theorem wp_to {i pc : Nat} {ls : List (Option AV)} {st : List AV} {h : Hp} {Q : Option AV → Hp → Prop} {X : String → Hp → Prop} (L : List (Option AV)) (hk : ksub L ls) (k : wp i pc L st h Q X) : wp i pc ls st h Q X := wp_ls (ksub_at L ls hk) k
abbrev noX : String → Hp → Prop := fun _ _ => False
end
section
/-! ===== THE LOGIC, part 4: stores to arrays, new cells, copies ===== -/
theorem ar_upd (K : Nat) (cA : ClassId) (n : Nat) {h h1 : Hp} {a j0 : Nat} {v : Value} (hv : sv (AT K) h1 a j0 = v) (ho : ∀ j : Nat, j ≠ j0 → sv (AT K) h1 a j = sv (AT K) h a j) : (arrV cA n (fun j => sv (AT K) h a j)).setSlot j0 v = arrV cA n (fun j => sv (AT K) h1 a j) := by
  rw [arrV_store]
  congr 1
  funext j
  by_cases hj : j = j0
  · subst hj
    simp [updV, hv]
  · simp only [updV, if_neg hj]
    exact (ho j hj).symm
section HN
variable {i pc : Nat} {ls : List (Option AV)} {st : List AV} {h : Hp} {Q : Option AV → Hp → Prop} {X : String → Hp → Prop}
variable {D : va_G} {DA : Nat → ClassId} {B0 CN CS : Nat} {p : Program} {l : Launch} {e : Env} {R : Room} {s : State} {m : MethodId} {args : Array Value} {below : List Frame} {meth : Method} {c : Code} {H : Heap} {locs : List Loc} {ls' : Array Slot} {cells slots : Nat} {Z : State → Prop}
/-- behind a store to the array a -/
theorem En.arr {a j0 : Nat} {v : Value} {H1 : Heap} {h1 : Hp} (hE : En i D DA B0 CN CS p R s m meth c H locs ls' ls h) (hk : 100 ≤ kd h a) (h2 : kd h a ≠ 200)
    (e1 : H1[a]? = some ((arrV (DA (kd h a)) (ln h a).toNat (fun j => sv (AT (kd h a)) h a j)).setSlot j0 v)) (z1 : H1.size = H.size) (o1 : ∀ q : Nat, q ≠ a → H1[q]? = H[q]?)
    (g1 : kd h1 = kd h) (g2 : ln h1 = ln h) (g3 : nx h1 = nx h) (g4 : us h1 = us h) (g5 : cn h1 = cn h) (g6 : cs h1 = cs h) (g7 : ∀ a k, inR (hi h1 a k)) (g8 : ∀ b, b ≠ a → ∀ j, hi h1 b j = hi h b j ∧ hr h1 b j = hr h b j ∧ hl h1 b j = hl h b j)
    (hv : sv (AT (kd h a)) h1 a j0 = v) (ho : ∀ j : Nat, j ≠ j0 → sv (AT (kd h a)) h1 a j = sv (AT (kd h a)) h a j) : En i D DA B0 CN CS p R s m meth c H1 (locs ++ [⟨a, j0⟩]) ls' ls h1 := by
  have hka : kd h a ≠ 0 := by omega
  have hoka := hE.2.1.2.2.2.2.2.2.2.2 a hka
  obtain ⟨k1, k2, k3, k4⟩ := hoka.2.arr hk h2
  have hsame : ∀ c : Cell, H[a]? = some c → ((arrV (DA (kd h a)) (ln h a).toNat (fun j => sv (AT (kd h a)) h a j)).setSlot j0 v).slots.size = c.slots.size := fun c hc => by
    rw [k4] at hc
    cases hc
    simp [Cell.setSlot]
  refine ⟨hE.1, hE.2.1.put hka e1 hsame z1 o1 g1 g2 g3 g4 g5 g6 g7 g8 ?_, hE.2.2.1, ?_, by rw [z1]; exact hE.2.2.2.2.1, by rw [ssum_set z1 o1 e1 hsame]; exact hE.2.2.2.2.2.1, hE.2.2.2.2.2.2⟩
  · refine Or.inr (Or.inr ⟨by rw [g1]; exact k1, by rw [g2]; exact k2, by rw [g2]; exact k3, ?_⟩)
    rw [e1, g1, g2, ar_upd _ _ _ hv ho]
  · intro z hz
    rcases List.mem_append.mp hz with h | h
    · exact hE.2.2.2.1 z h
    · have := List.mem_singleton.mp h
      rw [this]
      rcases hoka.1 with h3 | h3
      · exact absurd h3 h2
      · exact h3
theorem wp_iast {a : Nat} {x v : Int} (hd : decode (mB i) pc = .ok (.iastore, 1)) (hk : kd h a = 100) (h0 : 0 ≤ x) (h1 : x < ln h a) (hv : inR v) (kk : wp i (pc + 1) ls st (setI h a x v) Q X) : wp i pc ls (vI v :: vI x :: vR (some a) :: st) h Q X := by
  intro D DA B0 CN CS p l e R s m args below meth c H locs ls' hfl hE
  have hoka := (hE.2.1.2.2.2.2.2.2.2.2 a (by omega)).2
  have ht : (x.toNat : Int) = x := Int.toNat_of_nonneg h0
  have hin := hE.2.1.2.2.2.2.2.2.2.1
  obtain ⟨k1, k2, k3, k4⟩ := hoka.arr (by omega) (by omega)
  have hx : inR x := ⟨by omega, by have := k3.2; omega⟩
  refine W.iast hE.1.1 hE.1.2.1 k4 (by have := (hE.1.2.2.2.2.2.2.2.2.2.1 _ k1).1 (ln h a).toNat (fun j => sv (AT (kd h a)) h a j); rw [hk] at this ⊢; exact this) (fun q => by cases q) (by rw [arrV_size]; exact arr_in hx h0 h1) rfl rfl hd (fun H1 e1 z1 o1 => ?_)
  rw [i_clamp hx] at e1 ⊢
  refine W_tight (kk D DA B0 CN CS p l e R s m args below meth c H1 _ ls' hfl (hE.arr (by omega) (by omega) e1 z1 o1 rfl rfl rfl rfl rfl rfl (fun b j => ?_) (fun b hb j => ⟨hi_ne (Or.inl hb), rfl, rfl⟩) ?_ (fun j hj => ?_)))
  · rw [hi_setI]
    unfold up2
    split
    · exact hv
    · exact hin b j
  · rw [hk, sv_I (by rfl), ht, hi_setI, up2_same]
  · unfold sv
    rw [hi_ne (Or.inr (by omega))]
    rfl
theorem wp_last {a : Nat} {x v : Int} (hd : decode (mB i) pc = .ok (.lastore, 1)) (hk : kd h a = 101) (h0 : 0 ≤ x) (h1 : x < ln h a) (kk : wp i (pc + 1) ls st (setL h a x v) Q X) : wp i pc ls (vL v :: vI x :: vR (some a) :: st) h Q X := by
  intro D DA B0 CN CS p l e R s m args below meth c H locs ls' hfl hE
  have hoka := (hE.2.1.2.2.2.2.2.2.2.2 a (by omega)).2
  have ht : (x.toNat : Int) = x := Int.toNat_of_nonneg h0
  have hin := hE.2.1.2.2.2.2.2.2.2.1
  obtain ⟨k1, k2, k3, k4⟩ := hoka.arr (by omega) (by omega)
  have hx : inR x := ⟨by omega, by have := k3.2; omega⟩
  refine W.last hE.1.1 hE.1.2.1 k4 (by have := (hE.1.2.2.2.2.2.2.2.2.2.1 _ k1).1 (ln h a).toNat (fun j => sv (AT (kd h a)) h a j); rw [hk] at this ⊢; exact this) (fun q => by cases q) (by rw [arrV_size]; exact arr_in hx h0 h1) rfl rfl hd (fun H1 e1 z1 o1 => ?_)
  rw [i_clamp hx] at e1 ⊢
  refine W_tight (kk D DA B0 CN CS p l e R s m args below meth c H1 _ ls' hfl (hE.arr (by omega) (by omega) e1 z1 o1 rfl rfl rfl rfl rfl rfl hin (fun b hb j => ⟨rfl, rfl, ?_⟩) ?_ (fun j hj => ?_)))
  · rw [hl_setL, up2_ne _ _ (fun q => hb q.1)]
  · rw [hk, sv_J (by rfl), ht, hl_setL, up2_same]
  · unfold sv
    rw [hl_setL, up2_ne _ _ (fun q => by omega)]
    rfl
theorem wp_lald {a : Nat} {x : Int} (hd : decode (mB i) pc = .ok (.laload, 1)) (hk : kd h a = 101) (h0 : 0 ≤ x) (h1 : x < ln h a) (kk : wp i (pc + 1) ls (vL (hl h a x) :: st) h Q X) : wp i pc ls (vI x :: vR (some a) :: st) h Q X := by
  intro D DA B0 CN CS p l e R s m args below meth c H locs ls' hfl hE
  have k := kk D DA B0 CN CS p l e R s m args below meth c H locs ls' hfl hE
  have hoka := (hE.2.1.2.2.2.2.2.2.2.2 a (by omega)).2
  have ht : (x.toNat : Int) = x := Int.toNat_of_nonneg h0
  obtain ⟨k1, k2, k3, k4⟩ := hoka.arr (by omega) (by omega)
  have hx : inR x := ⟨by omega, by have := k3.2; omega⟩
  rw [hk] at k4 k1
  refine W.lald hE.1.1 hE.1.2.1 k4 ((hE.1.2.2.2.2.2.2.2.2.2.1 _ k1).1 _ _) (fun q => by cases q) (by rw [arrV_size]; exact arr_in hx h0 h1) (v := .long (Int64.ofInt (hl h a x))) ?_ rfl rfl hd k
  rw [i_clamp hx, arrV_read _ _ (by omega), ht]
  rfl
/-- a reference to an object into an array of its class -/
theorem wp_aastO {a b cb : Nat} {x : Int} (hd : decode (mB i) pc = .ok (.aastore, 1)) (hk : 100 ≤ kd h a) (hk2 : kd h a ≠ 200) (hb : kd h b = cb + 1) (hlt : cb < 99) (hty : AT (kd h a) = .object (CLn cb)) (h0 : 0 ≤ x) (h1 : x < ln h a) (kk : wp i (pc + 1) ls st (setR h a x (some b)) Q X) : wp i pc ls (vR (some b) :: vI x :: vR (some a) :: st) h Q X := by
  intro D DA B0 CN CS p l e R s m args below meth c H locs ls' hfl hE
  have hoka := (hE.2.1.2.2.2.2.2.2.2.2 a (by omega)).2
  have hokb := (hE.2.1.2.2.2.2.2.2.2.2 b (by omega)).2
  have ht : (x.toNat : Int) = x := Int.toNat_of_nonneg h0
  have hin := hE.2.1.2.2.2.2.2.2.2.1
  obtain ⟨k1, k2, k3, k4⟩ := hoka.arr hk hk2
  obtain ⟨q, hc, cell, q1, q2, q3, q4⟩ := hokb.obj hb hlt
  have hK := hE.1.2.2.2.2.2.2.2.2.1
  obtain ⟨hS, hcls⟩ := hK.1 cb _ hc
  obtain ⟨-, kA, comp, f1, f2, f3, f4, f5⟩ := hE.1.2.2.2.2.2.2.2.2.2.1 _ k1
  have hC : CLn cb = q.1 := by unfold CLn; rw [hc]
  have hcomp : comp = D.1 cb := Option.some.inj ((f4 _ hty).symm.trans (by rw [hC]; exact hcls.1))
  subst hcomp
  obtain ⟨kC, hkC, -⟩ := hcls.2
  have hx : inR x := ⟨by omega, by have := k3.2; omega⟩
  have ai := arr_in hx h0 h1
  refine W.aast hE.1.1 hE.1.2.1 k4 (fun q h => by cases h) (fun h => by cases h) f1 f2 (by rw [hty]; rfl) hkC ⟨fun z => ai (Or.inl z), by rw [arrV_size]; exact Nat.not_le.mp (fun z => ai (Or.inr z))⟩ q1 (fun q h => by rw [q3] at h; cases h) (by rw [q2]; exact hkC) (by rw [q2]; exact va_asg _ _) rfl rfl hd (fun H1 e1 z1 o1 => ?_)
  rw [i_clamp hx] at e1 ⊢
  refine W_tight (kk D DA B0 CN CS p l e R s m args below meth c H1 _ ls' hfl (hE.arr hk hk2 e1 z1 o1 rfl rfl rfl rfl rfl rfl hin (fun b hb j => ⟨rfl, ?_, rfl⟩) ?_ (fun j hj => ?_)))
  · rw [hr_setR, up2_ne _ _ (fun q => hb q.1)]
  · rw [sv_R (by rw [hty]; rfl), ht, hr_setR, up2_same]
    rfl
  · unfold sv
    rw [hr_setR, up2_ne _ _ (fun q => by omega)]
    rfl
theorem wp_aastN {a : Nat} {x : Int} {C : String} (hd : decode (mB i) pc = .ok (.aastore, 1)) (hk : 100 ≤ kd h a) (hk2 : kd h a ≠ 200) (hty : AT (kd h a) = .object C) (h0 : 0 ≤ x) (h1 : x < ln h a) (kk : wp i (pc + 1) ls st (setR h a x none) Q X) : wp i pc ls (vR none :: vI x :: vR (some a) :: st) h Q X := by
  intro D DA B0 CN CS p l e R s m args below meth c H locs ls' hfl hE
  have hoka := (hE.2.1.2.2.2.2.2.2.2.2 a (by omega)).2
  have ht : (x.toNat : Int) = x := Int.toNat_of_nonneg h0
  have hin := hE.2.1.2.2.2.2.2.2.2.1
  obtain ⟨k1, k2, k3, k4⟩ := hoka.arr hk hk2
  have hx : inR x := ⟨by omega, by have := k3.2; omega⟩
  refine va_WaastN hE.1.1 hE.1.2.1 k4 (C := C) (by have := (hE.1.2.2.2.2.2.2.2.2.2.1 _ k1).1 (ln h a).toNat (fun j => sv (AT (kd h a)) h a j); rw [hty] at this ⊢; exact this) (fun q => by cases q) (by rw [arrV_size]; exact arr_in hx h0 h1) rfl rfl hd (fun H1 e1 z1 o1 => ?_)
  rw [i_clamp hx] at e1 ⊢
  refine W_tight (kk D DA B0 CN CS p l e R s m args below meth c H1 _ ls' hfl (hE.arr hk hk2 e1 z1 o1 rfl rfl rfl rfl rfl rfl hin (fun b hb j => ⟨rfl, ?_, rfl⟩) ?_ (fun j hj => ?_)))
  · rw [hr_setR, up2_ne _ _ (fun q => hb q.1)]
  · rw [sv_R (by rw [hty]; rfl), ht, hr_setR, up2_same]
    rfl
  · unfold sv
    rw [hr_setR, up2_ne _ _ (fun q => by omega)]
    rfl
/-- a row of numbers into an array of such rows -/
theorem wp_aastA {a b : Nat} {x : Int} (hd : decode (mB i) pc = .ok (.aastore, 1)) (hk : kd h a = 103) (hb : kd h b = 100) (h0 : 0 ≤ x) (h1 : x < ln h a) (kk : wp i (pc + 1) ls st (setR h a x (some b)) Q X) : wp i pc ls (vR (some b) :: vI x :: vR (some a) :: st) h Q X := by
  intro D DA B0 CN CS p l e R s m args below meth c H locs ls' hfl hE
  have hoka := (hE.2.1.2.2.2.2.2.2.2.2 a (by omega)).2
  have hokb := (hE.2.1.2.2.2.2.2.2.2.2 b (by omega)).2
  have ht : (x.toNat : Int) = x := Int.toNat_of_nonneg h0
  have hin := hE.2.1.2.2.2.2.2.2.2.1
  obtain ⟨k1, k2, k3, k4⟩ := hoka.arr (by omega) (by omega)
  obtain ⟨j1, j2, j3, j4⟩ := hokb.arr (by omega) (by omega)
  have hty : AT (kd h a) = .array .int := by rw [hk]; rfl
  obtain ⟨-, kA, comp, f1, f2, f3, f4, f5⟩ := hE.1.2.2.2.2.2.2.2.2.2.1 _ k1
  obtain ⟨-, kB, compB, w1, w2, w3, -, -⟩ := hE.1.2.2.2.2.2.2.2.2.2.1 _ j1
  have hcomp : comp = DA (kd h b) := by
    have e1 := f5 _ hty
    rw [hb] at w3 ⊢
    have e2 : s.vm.findClass (FieldType.array .int).toString = some (DA 100) := w3
    exact Option.some.inj (e1.symm.trans e2)
  subst hcomp
  have hx : inR x := ⟨by omega, by have := k3.2; omega⟩
  have ai := arr_in hx h0 h1
  refine W.aast hE.1.1 hE.1.2.1 k4 (fun q h => by cases h) (fun h => by cases h) f1 f2 (by rw [hty]; rfl) w1 ⟨fun z => ai (Or.inl z), by rw [arrV_size]; exact Nat.not_le.mp (fun z => ai (Or.inr z))⟩ j4 (fun q h => by cases h) w1 (va_asg _ _) rfl rfl hd (fun H1 e1 z1 o1 => ?_)
  rw [i_clamp hx] at e1 ⊢
  refine W_tight (kk D DA B0 CN CS p l e R s m args below meth c H1 _ ls' hfl (hE.arr (by omega) (by omega) e1 z1 o1 rfl rfl rfl rfl rfl rfl hin (fun b hb j => ⟨rfl, ?_, rfl⟩) ?_ (fun j hj => ?_)))
  · rw [hr_setR, up2_ne _ _ (fun q => hb q.1)]
  · rw [sv_R (by rw [hty]; rfl), ht, hr_setR, up2_same]
    rfl
  · unfold sv
    rw [hr_setR, up2_ne _ _ (fun q => by omega)]
    rfl
/-- a new cell -/
theorem rep.new {K : Nat} {n : Int} {x : Cell} {H1 : Heap} (hrep : rep D DA B0 CN CS s H h) (z1 : H1.size = H.size + 1) (o1 : ∀ q : Nat, q < H.size → H1[q]? = H[q]?) (e1 : H1[H.size]? = some x) (hs : x.slots.size = n.toNat) (r1 : nx h + 1 ≤ CN) (r2 : us h + n.toNat ≤ CS) (hok : okAt D DA s H1 (mkO h K n) (nx h)) : rep D DA B0 CN CS s H1 (mkO h K n) := by
  have hlt := fun a (ha : kd h a ≠ 0) => hrep.lt ha
  obtain ⟨k1, k2, k3, k4, k5, k6, k7, k8, k9⟩ := hrep
  refine ⟨by rw [z1, k1]; rfl, by rw [ssum_new z1 o1 e1, hs, k2]; rfl, k3, k4, r1, r2, by rw [nx_mkO]; omega, fun a k => ?_, fun b hb => ?_⟩
  · rw [hi_mkO]
    unfold up1
    split
    · show inR 0
      exact ⟨by decide, by decide⟩
    · exact k8 a k
  · by_cases hbn : b = nx h
    · subst hbn
      exact ⟨Or.inr k7, hok⟩
    · have hk : kd (mkO h K n) b = kd h b := by rw [kd_mkO, up1_ne _ _ hbn]
      rw [hk] at hb ⊢
      have hbl := hlt b hb
      refine ⟨(k9 b hb).1, (k9 b hb).2.kept (o1 b (by omega)) hk ?_ (fun j => ?_) (fun j => ?_) (fun j => ?_)⟩
      · rw [ln_mkO, up1_ne _ _ hbn]
      · rw [hi_mkO, up1_ne _ _ hbn]
      · rw [hr_mkO, up1_ne _ _ hbn]
      · rw [hl_mkO, up1_ne _ _ hbn]
theorem sv_new {K : Nat} {n : Int} {ty : FieldType} (hty : okTy ty = true) (j : Int) : sv ty (mkO h K n) (nx h) j = defaultValue ty := by
  rw [vOf_default hty]
  unfold sv
  rw [hi_mkO, hr_mkO, hl_mkO, up1_same, up1_same, up1_same]
theorem En.new {K : Nat} {n : Int} {x : Cell} {H1 : Heap} (hE : En i D DA B0 CN CS p R s m meth c H locs ls' ls h) (z1 : H1.size = H.size + 1) (o1 : ∀ q : Nat, q < H.size → H1[q]? = H[q]?) (e1 : H1[H.size]? = some x) (hs : x.slots.size = n.toNat) (r1 : nx h + 1 ≤ cn h) (r2 : us h + n.toNat ≤ cs h) (hok : okAt D DA s H1 (mkO h K n) (nx h)) : En i D DA B0 CN CS p R s m meth c H1 locs ls' ls (mkO h K n) := by
  obtain ⟨a1, a2, a3, a4, a5, a6, a7⟩ := hE
  exact ⟨a1, a2.new z1 o1 e1 hs (by rw [← a2.2.2.1]; exact r1) (by rw [← a2.2.2.2.1]; exact r2) hok, a3, a4, by omega, by rw [ssum_new z1 o1 e1]; omega, a7⟩
theorem En.room {n : Nat} (hE : En i D DA B0 CN CS p R s m meth c H locs ls' ls h) (r1 : nx h + 1 ≤ cn h) (r2 : us h + n ≤ cs h) : H.size - s.heap.size + 1 ≤ R.cells ∧ ssum H - ssum s.heap + n ≤ R.slots := by
  obtain ⟨a1, ⟨b1, b2, b3, b4, b5, b6, b7, b8⟩, a3, a4, a5, a6, a7, a8, a9⟩ := hE
  rw [a7, a8, b1, b2]
  rw [b1] at a5
  rw [b2] at a6
  omega
theorem wp_new {idx ci n : Nat} {C : String} (hd : decode (mB i) pc = .ok (.new idx, 3)) (hcl : okw (.classLink (mY i).cls idx C)) (hci : okw (.instantiable C n) ∧ okw (.initialized C)) (hC : ∃ F, CL[ci]? = some (C, F, n)) (hty : ∀ k : Nat, k < n → okTy (cT (ci + 1) k) = true) (r1 : nx h + 1 ≤ cn h) (r2 : us h + n ≤ cs h)
    (kk : wp i (pc + 3) ls (vR (some (nx h)) :: st) (mkO h (ci + 1) n) Q X) : wp i pc ls st h Q X := by
  intro D DA B0 CN CS p l e R s m args below meth c H locs ls' hfl hE
  obtain ⟨F, hC⟩ := hC
  obtain ⟨hx, hb, -, -, -, hown, -, hok, hK, -⟩ := hE.1
  have hr := hE.room r1 (n := n) r2
  have hKn := hK.1 ci _ hC
  obtain ⟨c1, c2, c3, c4⟩ := CL_ok ci _ hC
  have hts : ∀ w ∈ u_ws C F n, w.before args s = true := fun w h => hok w (c1 w h) _
  refine W.newcK hx hb hown (hok _ hcl _) (hok _ hci.1 _) (hok _ hci.2 _) rfl hd hr.1 hr.2 hKn.2.1 rfl fun H1 kC hkC e1 z1 o1 => ?_
  have hsz : (blank (D.1 ci) kC).slots.size = n := by
    obtain ⟨c9, k9, h1, h2, -, -, -, h3⟩ := Cond.instantiable_spec (hok _ hci.1 #[])
    have : c9 = D.1 ci := Option.some.inj (h1.symm.trans hKn.2.1)
    subst this
    cases hkC.symm.trans h2
    simp [blank, h3]
  have hnx : H.size = nx h := hE.2.1.1
  refine W_tight ?_
  have hE1 := hE.new (K := ci + 1) (n := (n : Int)) z1 o1 e1 (by rw [hsz]; simp) r1 (by simpa using r2) ?_
  · have := kk D DA B0 CN CS p l e R s m args below meth c H1 locs ls' hfl hE1
    rw [hnx]
    exact this
  · rw [hnx] at e1
    refine Or.inl ?_
    rw [kd_mkO, up1_same]
    refine ⟨by have := CL_lt hC; omega, _, hC, ?_⟩
    refine (u_born (cT (ci + 1)) hts (fun _ h => h) hKn hkC e1 c3).to (fun k hk => ?_)
    exact (sv_new (hty k hk) _).symm
theorem wp_newa {at0 : ArrayType} {K : Nat} {n : Int} (hd : decode (mB i) pc = .ok (.newarray at0, 2)) (hT : newarray.typeOf at0 = AT K) (hKA : K ∈ KA) (hw : okw (.arrayClass (AT K))) (hty : okTy (AT K) = true) (h0 : 0 ≤ n) (h1 : n ≤ 10000000) (hb8 : componentBytes (AT K) ≤ 8) (r1 : nx h + 1 ≤ cn h) (r2 : us h + n.toNat ≤ cs h)
    (kk : wp i (pc + 2) ls (vR (some (nx h)) :: st) (mkO h K n) Q X) : wp i pc ls (vI n :: st) h Q X := by
  intro D DA B0 CN CS p l e R s m args below meth c H locs ls' hfl hE
  obtain ⟨hx, hb, -, -, -, hown, -, hok, hK, hA, -⟩ := hE.1
  have hr := hE.room r1 (n := n.toNat) r2
  have hn : inR n := ⟨by omega, by omega⟩
  have hcl : (Int32.ofInt n).toNatClampNeg = n.toNat := i_clamp hn
  refine W.newa hx hb (atype := at0) (by rw [hT]; exact hok _ hw _) rfl hd rfl (by rw [i_neg hn]; omega) (by
    rw [hcl, hT]
    have : n.toNat * componentBytes (AT K) ≤ 10000000 * 8 := Nat.mul_le_mul (by omega) hb8
    omega) hr.1 (by rw [hcl]; exact hr.2) (fun cA kA comp f1 f2 f3 => ?_)
  rw [hcl, hT]
  obtain ⟨hAO, kA', comp', w1, w2, w3, -⟩ := hA K hKA
  rw [hT] at f1
  have hcA : cA = DA K := Option.some.inj (f1.symm.trans w3)
  subst hcA
  have hnx : H.size = nx h := hE.2.1.1
  rw [arrV_new]
  refine W_tight ?_
  have e1 : (H.push (arrV (DA K) n.toNat (fun _ => defaultValue (AT K))))[H.size]? = some (arrV (DA K) n.toNat (fun _ => defaultValue (AT K))) := by simp
  have o1 : ∀ q : Nat, q < H.size → (H.push (arrV (DA K) n.toNat (fun _ => defaultValue (AT K))))[q]? = H[q]? := fun q hq => by
    rw [Array.getElem?_push, if_neg (by omega)]
  have hE1 := hE.new (K := K) (n := n) (by simp) o1 e1 (arrV_size _ _ _) r1 r2 ?_
  · have := kk D DA B0 CN CS p l e R s m args below meth c _ locs ls' hfl hE1
    rw [hnx]
    exact this
  · rw [hnx] at e1
    refine Or.inr (Or.inr ?_)
    rw [kd_mkO, up1_same, ln_mkO, up1_same]
    refine ⟨hKA, h0, hn, ?_⟩
    rw [e1]
    exact congrArg (fun f => some (arrV (DA K) n.toNat f)) (funext fun j => (sv_new hty _).symm)
theorem wp_anew {idx K : Nat} {n : Int} {C : String} (hd : decode (mB i) pc = .ok (.anewarray idx, 3)) (hcl : okw (.classLink (mY i).cls idx C)) (hT : AT K = .object C) (hKA : K ∈ KA) (hw : okw (.arrayOver (AT K))) (h0 : 0 ≤ n) (h1 : n ≤ 10000000) (r1 : nx h + 1 ≤ cn h) (r2 : us h + n.toNat ≤ cs h)
    (kk : wp i (pc + 3) ls (vR (some (nx h)) :: st) (mkO h K n) Q X) : wp i pc ls (vI n :: st) h Q X := by
  intro D DA B0 CN CS p l e R s m args below meth c H locs ls' hfl hE
  obtain ⟨hx, hb, -, -, -, hown, -, hok, hK, hA, -⟩ := hE.1
  have hr := hE.room r1 (n := n.toNat) r2
  have hn : inR n := ⟨by omega, by omega⟩
  have hcl9 : (Int32.ofInt n).toNatClampNeg = n.toNat := i_clamp hn
  refine W.anew hx hb hown (hok _ hcl _) (by rw [← hT]; exact hok _ hw _) rfl hd rfl (by rw [i_neg hn]; omega) (by rw [hcl9]; omega) hr.1 (by rw [hcl9]; exact hr.2) (fun cA kA comp f1 f2 f3 f4 => ?_)
  rw [hcl9]
  obtain ⟨hAO, kA', comp', w1, w2, w3, -⟩ := hA K hKA
  rw [hT] at w3
  have hcA : cA = DA K := Option.some.inj (f1.symm.trans w3)
  subst hcA
  have hnx : H.size = nx h := hE.2.1.1
  rw [arrV_new]
  refine W_tight ?_
  have e1 : (H.push (arrV (DA K) n.toNat (fun _ => Value.null)))[H.size]? = some (arrV (DA K) n.toNat (fun _ => Value.null)) := by simp
  have o1 : ∀ q : Nat, q < H.size → (H.push (arrV (DA K) n.toNat (fun _ => Value.null)))[q]? = H[q]? := fun q hq => by
    rw [Array.getElem?_push, if_neg (by omega)]
  have hE1 := hE.new (K := K) (n := n) (by simp) o1 e1 (arrV_size _ _ _) r1 r2 ?_
  · have := kk D DA B0 CN CS p l e R s m args below meth c _ locs ls' hfl hE1
    rw [hnx]
    exact this
  · rw [hnx] at e1
    refine Or.inr (Or.inr ?_)
    rw [kd_mkO, up1_same, ln_mkO, up1_same]
    refine ⟨hKA, h0, hn, ?_⟩
    rw [e1]
    refine congrArg (fun f => some (arrV (DA K) n.toNat f)) (funext fun j => ?_)
    rw [sv_new (by rw [hT]; rfl), hT]
    rfl
theorem wp_anewA {idx : Nat} {n : Int} (hd : decode (mB i) pc = .ok (.anewarray idx, 3)) (hcl : okw (.classLink (mY i).cls idx "[I")) (hw : okw (.arrayOver (AT 103))) (h0 : 0 ≤ n) (h1 : n ≤ 10000000) (r1 : nx h + 1 ≤ cn h) (r2 : us h + n.toNat ≤ cs h)
    (kk : wp i (pc + 3) ls (vR (some (nx h)) :: st) (mkO h 103 n) Q X) : wp i pc ls (vI n :: st) h Q X := by
  intro D DA B0 CN CS p l e R s m args below meth c H locs ls' hfl hE
  obtain ⟨hx, hb, -, -, -, hown, -, hok, hK, hA, -⟩ := hE.1
  have hr := hE.room r1 (n := n.toNat) r2
  have hn : inR n := ⟨by omega, by omega⟩
  have hcl9 : (Int32.ofInt n).toNatClampNeg = n.toNat := i_clamp hn
  refine W.anewA (t := .int) hx hb hown (hok _ hcl _) (hok _ hw _) rfl hd rfl (by rw [i_neg hn]; omega) (by rw [hcl9]; omega) hr.1 (by rw [hcl9]; exact hr.2) (fun cA kA comp f1 f2 f3 f4 => ?_)
  rw [hcl9]
  have hKA : 103 ∈ KA := by decide
  obtain ⟨hAO, kA', comp', w1, w2, w3, -⟩ := hA 103 hKA
  have hcA : cA = DA 103 := Option.some.inj (f1.symm.trans w3)
  subst hcA
  have hnx : H.size = nx h := hE.2.1.1
  rw [arrV_new]
  refine W_tight ?_
  have e1 : (H.push (arrV (DA 103) n.toNat (fun _ => Value.null)))[H.size]? = some (arrV (DA 103) n.toNat (fun _ => Value.null)) := by simp
  have o1 : ∀ q : Nat, q < H.size → (H.push (arrV (DA 103) n.toNat (fun _ => Value.null)))[q]? = H[q]? := fun q hq => by
    rw [Array.getElem?_push, if_neg (by omega)]
  have hE1 := hE.new (K := 103) (n := n) (by simp) o1 e1 (arrV_size _ _ _) r1 r2 ?_
  · have := kk D DA B0 CN CS p l e R s m args below meth c _ locs ls' hfl hE1
    rw [hnx]
    exact this
  · rw [hnx] at e1
    refine Or.inr (Or.inr ?_)
    rw [kd_mkO, up1_same, ln_mkO, up1_same]
    refine ⟨hKA, h0, hn, ?_⟩
    rw [e1]
    refine congrArg (fun f => some (arrV (DA 103) n.toNat f)) (funext fun j => ?_)
    rw [sv_new (by rfl)]
    rfl
end HN
end
section
/-! ===== THE LOGIC, part 5: ends and calls ===== -/
section HC
variable {i pc : Nat} {ls : List (Option AV)} {st : List AV} {h : Hp} {Q : Option AV → Hp → Prop} {X : String → Hp → Prop}
theorem En.end_ {D : va_G} {DA : Nat → ClassId} {B0 CN CS : Nat} {p : Program} {R : Room} {s : State} {m : MethodId} {meth : Method} {c : Code} {H : Heap} {locs : List Loc} {ls' : Array Slot} (hE : En i D DA B0 CN CS p R s m meth c H locs ls' ls h) : H.size - s.heap.size ≤ R.cells ∧ ssum H - ssum s.heap ≤ R.slots := by
  obtain ⟨a1, ⟨b1, b2, b3, b4, b5, b6, b7, b8⟩, a3, a4, a5, a6, a7, a8, a9⟩ := hE
  rw [a7, a8, b1, b2]
  rw [b1] at a5
  rw [b2] at a6
  omega
theorem En.post {D : va_G} {DA : Nat → ClassId} {B0 CN CS : Nat} {p : Program} {R : Room} {s : State} {m : MethodId} {meth : Method} {c : Code} {H : Heap} {locs : List Loc} {ls' : Array Slot} (hE : En i D DA B0 CN CS p R s m meth c H locs ls' ls h) {v : Option AV} (hq : Q v h) (t : State) (ht : t.heap = H) (hW : s.WarmedH t.vm) : ∃ v' h', (.returned (v.map conc) : Outcome) = .returned (v'.map conc) ∧ Q v' h' ∧ rep D DA B0 CN CS t t.heap h' := by
  refine ⟨v, h, rfl, hq, ?_⟩
  rw [ht]
  exact hE.2.1.moved hW.alike
theorem wp_iret {x : Int} (hd : decode (mB i) pc = .ok (.ireturn, 1)) (hr : mR i = some .int) (hq : Q (some (vI x)) h) : wp i pc ls [vI x] h Q X := by
  intro D DA B0 CN CS p l e R s m args below meth c H locs ls' hfl hE
  have hlk := hE.1.2.2.2.2.1
  refine W.widen hE.end_.1 hE.end_.2 (vx_ret ?_)
  exact W.iret (v := Int32.ofInt x) hE.1.1 hE.1.2.1 (hE.1.2.2.2.1.trans hr) (fun t ht hW => hE.post (v := some (vI x)) hq t ht hW) hE.2.2.2.1 hd
theorem wp_zret {x : Int} (hd : decode (mB i) pc = .ok (.ireturn, 1)) (hr : mR i = some .boolean) (hx : x = 0 ∨ x = 1) (hq : Q (some (vI x)) h) : wp i pc ls [vI x] h Q X := by
  intro D DA B0 CN CS p l e R s m args below meth c H locs ls' hfl hE
  have hlk := hE.1.2.2.2.2.1
  refine W.widen hE.end_.1 hE.end_.2 (vx_ret ?_)
  exact W.zret (v := Int32.ofInt x) (ty := .boolean) hE.1.1 hE.1.2.1 (hE.1.2.2.2.1.trans hr) (fit_I (ty := .boolean) rfl (fun _ => hx)).1 (fun t ht hW => hE.post (v := some (vI x)) hq t ht hW) hE.2.2.2.1 hd
theorem wp_lret {x : Int} (hd : decode (mB i) pc = .ok (.lreturn, 1)) (hr : mR i = some .long) (hq : Q (some (vL x)) h) : wp i pc ls [vL x] h Q X := by
  intro D DA B0 CN CS p l e R s m args below meth c H locs ls' hfl hE
  have hlk := hE.1.2.2.2.2.1
  refine W.widen hE.end_.1 hE.end_.2 (vx_ret ?_)
  exact W.lret (v := Int64.ofInt x) hE.1.1 hE.1.2.1 (hE.1.2.2.2.1.trans hr) (fun t ht hW => hE.post (v := some (vL x)) hq t ht hW) hE.2.2.2.1 hd
theorem wp_dret {x : UInt64} (hd : decode (mB i) pc = .ok (.dreturn, 1)) (hr : mR i = some .double) (hq : Q (some (vD x)) h) : wp i pc ls [vD x] h Q X := by
  intro D DA B0 CN CS p l e R s m args below meth c H locs ls' hfl hE
  have hlk := hE.1.2.2.2.2.1
  refine W.widen hE.end_.1 hE.end_.2 (vx_ret ?_)
  exact W.dret (v := x) hE.1.1 hE.1.2.1 (hE.1.2.2.2.1.trans hr) (fun t ht hW => hE.post (v := some (vD x)) hq t ht hW) hE.2.2.2.1 hd
theorem wp_aret {x : Option Nat} {ty : FieldType} (hd : decode (mB i) pc = .ok (.areturn, 1)) (hr : mR i = some ty) (hty : isRf ty = true) (hq : Q (some (vR x)) h) : wp i pc ls [vR x] h Q X := by
  intro D DA B0 CN CS p l e R s m args below meth c H locs ls' hfl hE
  have hlk := hE.1.2.2.2.2.1
  refine W.widen hE.end_.1 hE.end_.2 (vx_ret ?_)
  refine W.aret (v := va_rf x) (rt := ty) hE.1.1 hE.1.2.1 (hE.1.2.2.2.1.trans hr) ?_ ?_ (fun t ht hW => hE.post (v := some (vR x)) hq t ht hW) hE.2.2.2.1 hd
  · cases ty <;> first | exact Or.inl ⟨_, rfl⟩ | exact Or.inr ⟨_, rfl⟩ | cases hty
  · cases x
    · exact Or.inl rfl
    · exact Or.inr ⟨_, rfl⟩
theorem wp_vret (hd : decode (mB i) pc = .ok (.return_, 1)) (hr : mR i = none) (hq : Q none h) : wp i pc ls [] h Q X := by
  intro D DA B0 CN CS p l e R s m args below meth c H locs ls' hfl hE
  have hlk := hE.1.2.2.2.2.1
  refine W.widen hE.end_.1 hE.end_.2 (vx_ret ?_)
  exact W.vret hE.1.1 hE.1.2.1 (hE.1.2.2.2.1.trans hr) (fun t ht hW => hE.post (v := none) hq t ht hW) hE.2.2.2.1 hd
end HC
/-! a method as a contract -/
/-- what a callee finds at its start -/
def PcA (D : va_G) (DA : Nat → ClassId) (B0 CN CS : Nat) (as : List AV) (h : Hp) : Array Value → State → Prop := va_Pc (as.map conc) (fun U => okS U ∧ va_K D CL [] U ∧ (∀ K ∈ KA, arrF U (DA K) (AT K)) ∧ rep D DA B0 CN CS U U.heap h)
theorem PcA_blind (D : va_G) (DA : Nat → ClassId) (B0 CN CS : Nat) (as : List AV) (h : Hp) : FrameBlind (PcA D DA B0 CN CS as h) := by
  intro a U g mk hp
  obtain ⟨h1, h2, h3, h4, h5⟩ := hp
  have hW : U.WarmedH (U.calling g mk a).vm := State.WarmedH.refl U
  exact ⟨h1, okS_warm hW h2, h3.moved hW.alike, fun K hK => (h4 K hK).moved hW.alike, h5.moved hW.alike⟩
def rmA (j CN CS : Nat) (h : Hp) : Room := { frames := mF j, cells := CN - nx h, slots := CS - us h, locals := mK j }
theorem ofW_F {l : Launch} {y : MethodName} {ws ws' : List Cond} {rm : Room} {Pc : Array Value → State → Prop} {Qc : Array Value → State → Outcome → State → Prop} {XC : String → State → State → Prop} {mc ms : Nat} {free : Addr → Prop} {cc : ByteArray} {maxL : Nat} {ret : Option FieldType}
    (hy : plainFor y = true) (hw : ws = Cond.code y cc maxL ret :: ws')
    (body : ∀ p e s m args below meth c s₁, BodyLoose p l y (headSpec ws rm) cc maxL ret e s m args below meth c s₁ → c.maxLocals = maxL → c.exceptionTable.toList = [] → Pc args s →
      W p l e (headSpec ws rm).room s m args below meth c s.heap [] 0 0 (vx_MQ below Qc XC args s mc ms free) (entryFrame m args maxL)) : vx_Met l y ws rm Pc Qc XC mc ms free := by
  refine MetFree.of_bodySF (code := cc) (maxLocals := maxL) (ret := ret) hy ?_ ?_
  · intro args s m h hn
    obtain ⟨meth, c, h1, h2, h3, h4, h5, h6, -, -⟩ := Cond.code_spec hn (atoms_spec (ws := ws) h _ (by rw [hw]; exact List.mem_cons_self))
    exact ⟨meth, c, h1, h2, h3, h4, h5, h6⟩
  · intro p e s m args below meth c s₁ B hml hP _
    have hh0 : s₁.heap = s.heap := by rw [B.state]; rfl
    have ht : c.exceptionTable.toList = [] := by
      obtain ⟨meth9, c9, h1, h2, -, -, -, -, h7, -⟩ := Cond.code_spec B.named (atoms_spec (ws := ws) B.pre _ (by rw [hw]; exact List.mem_cons_self))
      cases Option.some.inj (h1.symm.trans B.method)
      cases Option.some.inj (h2.symm.trans (Stand.of_body B).code)
      simpa using h7
    obtain ⟨t, a1, o, b1, b2, b3⟩ := body p e s m args below meth c s₁ B hml ht hP s₁ hh0 (Stand.of_body B)
    exact ⟨t, o, a1, b1, b2, b3⟩
abbrev QcA (D : va_G) (DA : Nat → ClassId) (B0 CN CS : Nat) (Q : Option AV → Hp → Prop) : Array Value → State → Outcome → State → Prop := fun _ _ o t => ∃ v h', o = .returned (v.map conc) ∧ Q v h' ∧ rep D DA B0 CN CS t t.heap h'
abbrev XcA (D : va_G) (DA : Nat → ClassId) (B0 CN CS : Nat) (X : String → Hp → Prop) : String → State → State → Prop := fun E _ t => ∃ h', X E h' ∧ rep D DA B0 CN CS t t.heap h'
/-- the method j, walked from its entry, as a contract -/
theorem wp_met {l : Launch} (hfl : l.flags = flags0) {j : Nat} {as : List AV} {h : Hp} {Q : Option AV → Hp → Prop} {X : String → Hp → Prop} (D : va_G) (DA : Nat → ClassId) (B0 CN CS : Nat) (hcd : cdP j) (hmx : mX j = []) (hsl : (lg_sl (as.map conc)).length ≤ mL j) (k : wp j 0 (entL as (mL j)) [] h Q X) (hcap : CN - nx h = CN - nx h) :
    vx_Met l (mY j) [Cond.code (mY j) (mB j) (mL j) (mR j)] (rmA j CN CS h) (PcA D DA B0 CN CS as h) (QcA D DA B0 CN CS Q) (XcA D DA B0 CN CS X) (CN - nx h) (CS - us h) (fun q => B0 ≤ q) := by
  refine ofW_F (cc := mB j) (maxL := mL j) (ret := mR j) hcd.2.1 rfl ?_
  intro p e s m args below meth c s₁ B hml hex hp
  obtain ⟨rfl, h2, h3, h4, h5⟩ := hp
  have hx := B.exec
  have hb := B.bytes
  have hr := B.returns
  have hown : s.vm.findClass (mY j).cls = some m.cls := findClass_of_methodNamed B.named
  have hname : meth.name = (mY j).name := (name_of_methodNamed B.named B.method).1
  have hsz := h5.1
  have hss := h5.2.1
  have hB0 := h5.2.2.2.2.2.2.1
  rw [lg_entry_eq]
  have hl := lrel.entry (as := as) hsl
  have hE : En j D DA B0 CN CS p (rmA j CN CS h) s m meth c s.heap [] _ (entL as (mL j)) h :=
    ⟨⟨hx, hb, hml, hr, B.notSynchronized, hown, hname, h2, h3, h4, Nat.le_refl _, Nat.le_refl _, by rw [hex, hmx]⟩, h5, hl, (fun q hq => nomatch hq), Nat.le_refl _, Nat.le_refl _, (by rw [hsz]; rfl), (by rw [hss]; rfl), (by rw [hsz]; exact hB0)⟩
  exact W_tight (k D DA B0 CN CS p l e (rmA j CN CS h) s m _ below meth c s.heap [] _ hfl hE)
/-- an exception E, over the frame of method i at pc -/
def xp (i pc : Nat) (ls : List (Option AV)) (h : Hp) (E : String) (Q : Option AV → Hp → Prop) (X : String → Hp → Prop) : Prop :=
  ∀ (D : va_G) (DA : Nat → ClassId) (B0 CN CS : Nat) (p : Program) (l : Launch) (e : Env) (R : Room) (s : State) (m : MethodId) (args : Array Value) (below : List Frame) (meth : Method) (c : Code) (H : Heap) (locs : List Loc) (ls' : Array Slot) (q : Addr) (ce : Cell) (st' : List Value),
    l.flags = flags0 → En i D DA B0 CN CS p R s m meth c H locs ls' ls h → H[q]? = some ce → ce.vm = .none → s.vm.findClass E = some ce.cls →
    vx_W p l e R s m args below meth c H locs (H.size - s.heap.size) (ssum H - ssum s.heap) (QQ D DA B0 CN CS below args s R Q X) (F0 m pc ls' st') q
theorem vxW_tight {p : Program} {l : Launch} {e : Env} {R : Room} {s : State} {m : MethodId} {args : Array Value} {below : List Frame} {meth : Method} {c : Code} {H : Heap} {locs : List Loc} {cells slots : Nat} {Q : State → Prop} {g : JFrame} {q : Addr} (k : vx_W p l e R s m args below meth c H locs (H.size - s.heap.size) (ssum H - ssum s.heap) Q g q) : vx_W p l e R s m args below meth c H locs cells slots Q g q := by
  intro T hT X
  subst hT
  exact k T rfl (stand_tight X)
theorem xp_out {i pc : Nat} {ls : List (Option AV)} {h : Hp} {E : String} {Q : Option AV → Hp → Prop} {X : String → Hp → Prop} (hmx : mX i = []) (hx : X E h) : xp i pc ls h E Q X := by
  intro D DA B0 CN CS p l e R s m args below meth c H locs ls' q ce st' hfl hE hcell hv hcl
  refine vx_out (E := E) (fun x hxx => ?_) hE.1.2.2.2.2.1 hcell hv hcl (fun t ht hal => ⟨h, hx, ?_⟩) hE.2.2.2.1 hE.end_.1 hE.end_.2
  · rw [hE.1.2.2.2.2.2.2.2.2.2.2.2.2, hmx] at hxx
    cases hxx
  · rw [ht]
    exact hE.2.1.moved hal
section HD
variable {i pc : Nat} {ls : List (Option AV)} {st : List AV} {h : Hp} {Q : Option AV → Hp → Prop} {X : String → Hp → Prop}
theorem wp_after {D : va_G} {DA : Nat → ClassId} {B0 CN CS : Nat} {p : Program} {l : Launch} {e : Env} {R : Room} {s : State} {m : MethodId} {args : Array Value} {below : List Frame} {meth : Method} {c : Code} {H : Heap} {locs : List Loc} {ls' : Array Slot} {st0 : List Value} {a : Array Value} {mc ms : Nat} {Qj : Option AV → Hp → Prop} {Xj : String → Hp → Prop}
    (hfl : l.flags = flags0) (hE : En i D DA B0 CN CS p R s m meth c H locs ls' ls h)
    (hr : vx_Run p l e R s m args below meth c H locs (H.size - s.heap.size) (ssum H - ssum s.heap) mc ms (F0 m pc ls' st0) (st.map conc) (QcA D DA B0 CN CS Qj a) (XcA D DA B0 CN CS Xj) (fun q => B0 ≤ q))
    (kk : ∀ v h', Qj v h' → wp i (pc + 3) ls (v.toList ++ st) h' Q X) (kx : ∀ E h', Xj E h' → xp i pc ls h' E Q X) :
    W p l e R s m args below meth c H locs (H.size - s.heap.size) (ssum H - ssum s.heap) (QQ D DA B0 CN CS below args s R Q X) (F0 m pc ls' st0) := by
  intro T hT XX
  have mk : ∀ (T' t : State) (L : List Loc) (cells slots : Nat) (h' : Hp), Stand p l e R s m args below meth c T' (locs ++ L) cells slots → (∀ q ∈ L, B0 ≤ q.base) → T'.heap = t.heap → T'.vm = t.vm → rep D DA B0 CN CS t t.heap h' → En i D DA B0 CN CS p R s m meth c T'.heap (locs ++ L) ls' ls h' := by
    intro T' t L cells slots h' X' hL e1 e2 hrep
    obtain ⟨a1, a2, a3, a4, a5, a6, a7⟩ := hE
    obtain ⟨b1, b2, b3, b4, b5, b6⟩ := X'.same
    have hal : t.vm.Alike s.vm := by rw [← e2]; exact X'.warmed.alike.symm
    refine ⟨a1, ?_, a3, fun z hz => ?_, b2, ?_, a7⟩
    · rw [e1]
      exact hrep.moved hal
    · rcases List.mem_append.mp hz with h | h
      · exact a4 z h
      · exact hL z h
    · have e9 := ssum_split T'.heap s.heap.size
      have b2' : s.heap.size ≤ T'.heap.size := b2
      rw [ssum_same b2' (fun a c hc => by
        obtain ⟨c', g1, -, g3, -⟩ := b6 a c hc
        exact ⟨c', g1, g3⟩)] at e9
      omega
  rcases hr T hT XX with ⟨v, st₀, t, T', L, h0, X', hL, e1, e2, ⟨v', h', hv, hq, hrep⟩, st9⟩ | ⟨q, st₀, t, T', L, E, ce, h0, X', hL, e1, e2, ⟨h', hq, hrep⟩, hce, hcv, hcl, st9⟩
  · have hE' := mk T' t L _ _ h' X' hL e1 e2 hrep
    have hw := kk v' h' hq D DA B0 CN CS p l e R s m args below meth c T'.heap (locs ++ L) ls' hfl hE'
    cases hv
    obtain ⟨t2, a1, b1⟩ := (W_tight hw) T' rfl X'
    refine ⟨t2, st9 _ ?_, b1⟩
    have es : (v'.map conc).toList ++ st.map conc = (v'.toList ++ st).map conc := by cases v' <;> rfl
    show Steps p.tables e below (T'.setTop (F0 m (pc + 3) ls' ((v'.map conc).toList ++ st.map conc))) t2
    rw [es]
    exact a1
  · have hE' := mk T' t L _ _ h' X' hL e1 e2 hrep
    have hw := kx E h' hq D DA B0 CN CS p l e R s m args below meth c T'.heap (locs ++ L) ls' q ce (st.map conc) hfl hE' (by rw [e1]; exact hce) hcv hcl
    obtain ⟨t2, a1, b1⟩ := (vxW_tight hw) T' rfl X'
    exact ⟨t2, st9.trans a1, b1⟩
theorem PcA_of {D : va_G} {DA : Nat → ClassId} {B0 CN CS : Nat} {p : Program} {R : Room} {s : State} {m : MethodId} {meth : Method} {c : Code} {H : Heap} {locs : List Loc} {ls' : Array Slot} (hE : En i D DA B0 CN CS p R s m meth c H locs ls' ls h) (as : List AV) : ∀ U : State, U.heap = H → s.WarmedH U.vm → PcA D DA B0 CN CS as h (as.map conc).toArray U := by
  intro U hU hW
  obtain ⟨⟨hx, hb, -, -, -, hown, -, hok, hK, hA, -⟩, hrep, -⟩ := hE
  exact ⟨rfl, okS_warm hW hok, hK.moved hW.alike, fun K hK => (hA K hK).moved hW.alike, by rw [hU]; exact hrep.moved hW.alike⟩
theorem En.cap {D : va_G} {DA : Nat → ClassId} {B0 CN CS : Nat} {p : Program} {R : Room} {s : State} {m : MethodId} {meth : Method} {c : Code} {H : Heap} {locs : List Loc} {ls' : Array Slot} (hE : En i D DA B0 CN CS p R s m meth c H locs ls' ls h) : H.size - s.heap.size + (CN - nx h) ≤ R.cells ∧ ssum H - ssum s.heap + (CS - us h) ≤ R.slots := by
  obtain ⟨a1, ⟨b1, b2, b3, b4, b5, b6, b7, b8⟩, a3, a4, a5, a6, a7, a8, a9⟩ := hE
  rw [a7, a8, b1, b2]
  rw [b1] at a5
  rw [b2] at a6
  omega
theorem callB_A {R : Room} {s : State} {args : Array Value} {i idx j n CN CS : Nat} (hok : okS s) (hcd : cdP j) (hlen : (parseMethodDescriptor (mY j).desc).map (fun d => d.parameters.length) = some n) (hroom : mF j + 1 ≤ R.frames ∧ 8 + (mL j + 11) + mK j ≤ R.locals) :
    (∀ w ∈ [Cond.code (mY j) (mB j) (mL j) (mR j)], ∀ (a' : Array Value) (U : State), s.WarmedH U.vm → w.before a' U = true) ∧ (∀ sig, parseMethodDescriptor (mY j).desc = some sig → n = sig.parameters.length) := by
  refine ⟨fun w hw a' U hW => ?_, fun sig h => ?_⟩
  · have := List.mem_singleton.mp hw
    subst this
    exact okS_warm hW hok _ hcd.1 _
  · rw [h] at hlen
    exact (Option.some.inj hlen).symm
theorem lg_sl_le (as : List AV) : (lg_sl (as.map conc)).length = (as.flatMap fun v => if cat2 v = true then [some v, none] else [some v]).length := by
  unfold lg_sl
  induction as with
  | nil => rfl
  | cons a as ih =>
    simp only [List.map_cons, List.flatMap_cons, List.length_append, ih]
    congr 1
    rw [conc_cat]
    cases cat2 a <;> rfl
/-- a call by invokevirtual -/
theorem wp_callV {idx j n a : Nat} {as : List AV} {Qj : Option AV → Hp → Prop} {Xj : String → Hp → Prop} (hd : decode (mB i) pc = .ok (.invokevirtual idx, 3)) (hc : cvP i idx j n) (hmx : mX j = []) {st0 : List AV} (hs : st0 = as.reverse ++ vR (some a) :: st) (hn : as.length = n) (hC : ∃ ci, mC j = ci + 1 ∧ CLn ci = (mY j).cls ∧ ci < 99) (hk : kd h a = mC j)
    (hsl : ((vR (some a) :: as).flatMap fun v => if cat2 v = true then [some v, none] else [some v]).length ≤ mL j) (hst : (st.map fun v => if cat2 v = true then 2 else 1).sum ≤ 8)
    (hb : wp j 0 (entL (vR (some a) :: as) (mL j)) [] h Qj Xj) (kk : ∀ v h', Qj v h' → wp i (pc + 3) ls (v.toList ++ st) h' Q X) (kx : ∀ E h', Xj E h' → xp i pc ls h' E Q X) : wp i pc ls st0 h Q X := by
  intro D DA B0 CN CS p l e R s m args below meth c H locs ls' hfl hE
  obtain ⟨hcd, hl, hin, hsel, hlen, hroom⟩ := hc
  obtain ⟨hx, hbb, hml, -, -, hown, -, hok, hK, hA, hfr, hlo, -⟩ := hE.1
  have hroom' : mF j + 1 ≤ R.frames ∧ 8 + (mL j + 11) + mK j ≤ R.locals := ⟨by omega, by omega⟩
  obtain ⟨cb1, cb2⟩ := callB_A (args := args) (i := i) (idx := idx) (CN := CN) (CS := CS) hok hcd hlen hroom'
  have hM := wp_met hfl D DA B0 CN CS hcd hmx (by rw [lg_sl_le]; exact hsl) hb rfl
  obtain ⟨ci, hC1, hC2, hC3⟩ := hC
  have hcat : ((st.map conc).map fun v => v.category).sum ≤ 8 := by
    rw [List.map_map]
    have : (st.map ((fun v => v.category) ∘ conc)) = st.map fun v => if cat2 v = true then 2 else 1 := by
      apply List.map_congr_left
      intro v _
      exact conc_cat v
    rw [this]
    exact hst
  obtain ⟨q, hcq, cell, q1, q2, q3, q4⟩ := (hE.2.1.2.2.2.2.2.2.2.2 a (by omega)).2.obj (hk.trans hC1) hC3
  have hrun := vx_runV (p := p) (l := l) (e := e) (R := R) (s := s) (m := m) (args := args) (below := below) (meth := meth) (c := c) (H := H) (locs := locs) (cells := H.size - s.heap.size) (slots := ssum H - ssum s.heap) (Ts := []) (own := (mY i).cls) (C := (mY j).cls) (cc := mB i) (nL := mL i) (rest := st.map conc) (As := as.map conc) (b := a) (g := F0 m pc ls' (st0.map conc)) ⟨hx, hbb, hml, hown, fun _ h => by cases h⟩ hM (index := idx) (bytes := mB j) (maxL := mL j) (ret := mR j) (n := n)
    ⟨⟨rfl, rfl, hroom'.1, hroom'.2, cb1, List.mem_cons_self, hok _ hcd.1 _, hok _ hcd.2.2.2 _, hcd.2.2.1, cb2, hok _ hl _⟩, hok _ hin _, hok _ hsel _⟩
    ⟨PcA_blind _ _ _ _ _ _ _, ⟨cell, q1, by rw [q3]; rfl, by
      have e1 : q.1 = (mY j).cls := by rw [← hC2]; unfold CLn; rw [hcq]
      rw [q2, ← e1]
      exact (hK.1 ci _ hcq).2.1⟩, PcA_of hE (vR (some a) :: as)⟩ rfl (by rw [List.length_map]; exact hn) hE.2.2.1.1 (by rw [hs]; simp [conc, va_rf]) (lv_room hcat) hd hE.cap
  exact wp_after hfl hE hrun kk kx
theorem wp_callS {idx j n : Nat} {as : List AV} {Qj : Option AV → Hp → Prop} {Xj : String → Hp → Prop} (hd : decode (mB i) pc = .ok (.invokestatic idx, 3)) (hc : csP i idx j n) (hmx : mX j = []) {st0 : List AV} (hs : st0 = as.reverse ++ st) (hn : as.length = n)
    (hsl : (as.flatMap fun v => if cat2 v = true then [some v, none] else [some v]).length ≤ mL j) (hst : (st.map fun v => if cat2 v = true then 2 else 1).sum ≤ 8)
    (hb : wp j 0 (entL as (mL j)) [] h Qj Xj) (kk : ∀ v h', Qj v h' → wp i (pc + 3) ls (v.toList ++ st) h' Q X) (kx : ∀ E h', Xj E h' → xp i pc ls h' E Q X) : wp i pc ls st0 h Q X := by
  intro D DA B0 CN CS p l e R s m args below meth c H locs ls' hfl hE
  obtain ⟨hcd, hl, hstt, hlen, hroom⟩ := hc
  obtain ⟨hx, hbb, hml, -, -, hown, -, hok, hK, hA, hfr, hlo, -⟩ := hE.1
  have hroom' : mF j + 1 ≤ R.frames ∧ 8 + (mL j + 11) + mK j ≤ R.locals := ⟨by omega, by omega⟩
  obtain ⟨cb1, cb2⟩ := callB_A (args := args) (i := i) (idx := idx) (CN := CN) (CS := CS) hok hcd hlen hroom'
  have hM := wp_met hfl D DA B0 CN CS hcd hmx (by rw [lg_sl_le]; exact hsl) hb rfl
  have hcat : ((st.map conc).map fun v => v.category).sum ≤ 8 := by
    rw [List.map_map]
    have : (st.map ((fun v => v.category) ∘ conc)) = st.map fun v => if cat2 v = true then 2 else 1 := by
      apply List.map_congr_left
      intro v _
      exact conc_cat v
    rw [this]
    exact hst
  have hrun := vx_runS (p := p) (l := l) (e := e) (R := R) (s := s) (m := m) (args := args) (below := below) (meth := meth) (c := c) (H := H) (locs := locs) (cells := H.size - s.heap.size) (slots := ssum H - ssum s.heap) (Ts := []) (own := (mY i).cls) (cc := mB i) (nL := mL i) (rest := st.map conc) (As := as.map conc) (g := F0 m pc ls' (st0.map conc)) ⟨hx, hbb, hml, hown, fun _ h => by cases h⟩ hM (index := idx) (bytes := mB j) (maxL := mL j) (ret := mR j) (n := n)
    ⟨⟨rfl, rfl, hroom'.1, hroom'.2, cb1, List.mem_cons_self, hok _ hcd.1 _, hok _ hcd.2.2.2 _, hcd.2.2.1, cb2, hok _ hl _⟩, hok _ hstt _⟩
    ⟨PcA_blind _ _ _ _ _ _ _, PcA_of hE as⟩ rfl (by rw [List.length_map]; exact hn) hE.2.2.1.1 (by rw [hs]; simp) (lv_room hcat) hd hE.cap
  exact wp_after hfl hE hrun kk kx
theorem wp_callSn {idx j n : Nat} {as : List AV} {Qj : Option AV → Hp → Prop} {Xj : String → Hp → Prop} (hd : decode (mB i) pc = .ok (.invokestatic idx, 3)) (hc : csnP i idx j n) (hmx : mX j = []) {st0 : List AV} (hs : st0 = as.reverse ++ st) (hn : as.length = n)
    (hsl : (as.flatMap fun v => if cat2 v = true then [some v, none] else [some v]).length ≤ mL j) (hst : (st.map fun v => if cat2 v = true then 2 else 1).sum ≤ 8)
    (hb : wp j 0 (entL as (mL j)) [] h Qj Xj) (kk : ∀ v h', Qj v h' → wp i (pc + 3) ls (v.toList ++ st) h' Q X) (kx : ∀ E h', Xj E h' → xp i pc ls h' E Q X) : wp i pc ls st0 h Q X := by
  intro D DA B0 CN CS p l e R s m args below meth c H locs ls' hfl hE
  obtain ⟨hcd, ⟨host, hl⟩, hstt, hlen, hroom⟩ := hc
  obtain ⟨hx, hbb, hml, -, -, hown, -, hok, hK, hA, hfr, hlo, -⟩ := hE.1
  have hroom' : mF j + 1 ≤ R.frames ∧ 8 + (mL j + 11) + mK j ≤ R.locals := ⟨by omega, by omega⟩
  obtain ⟨cb1, cb2⟩ := callB_A (args := args) (i := i) (idx := idx) (CN := CN) (CS := CS) hok hcd hlen hroom'
  have hM := wp_met hfl D DA B0 CN CS hcd hmx (by rw [lg_sl_le]; exact hsl) hb rfl
  have hcat : ((st.map conc).map fun v => v.category).sum ≤ 8 := by
    rw [List.map_map]
    have : (st.map ((fun v => v.category) ∘ conc)) = st.map fun v => if cat2 v = true then 2 else 1 := by
      apply List.map_congr_left
      intro v _
      exact conc_cat v
    rw [this]
    exact hst
  have hrun := vx_runSN (p := p) (l := l) (e := e) (R := R) (s := s) (m := m) (args := args) (below := below) (meth := meth) (c := c) (H := H) (locs := locs) (cells := H.size - s.heap.size) (slots := ssum H - ssum s.heap) (Ts := []) (own := (mY i).cls) (host := host) (cc := mB i) (nL := mL i) (rest := st.map conc) (As := as.map conc) (g := F0 m pc ls' (st0.map conc)) ⟨hx, hbb, hml, hown, fun _ h => by cases h⟩ hM (index := idx) (bytes := mB j) (maxL := mL j) (ret := mR j) (n := n)
    ⟨⟨⟨rfl, rfl, hroom'.1, hroom'.2, cb1, List.mem_cons_self⟩, hok _ hcd.1 _, hok _ hcd.2.2.2 _, hcd.2.2.1, cb2, hok _ hl _⟩, hok _ hstt _, trivial⟩
    ⟨PcA_blind _ _ _ _ _ _ _, PcA_of hE as⟩ rfl (by rw [List.length_map]; exact hn) hE.2.2.1.1 (by rw [hs]; simp) (lv_room hcat) hd hE.cap
  exact wp_after hfl hE hrun kk kx
theorem wp_callI {idx j n a : Nat} {as : List AV} {Qj : Option AV → Hp → Prop} {Xj : String → Hp → Prop} (hd : decode (mB i) pc = .ok (.invokespecial idx, 3)) (hc : ciP i idx j n) (hret : mR j = none) (hmx : mX j = []) {st0 : List AV} (hs : st0 = as.reverse ++ vR (some a) :: st) (hn : as.length = n)
    (hsl : ((vR (some a) :: as).flatMap fun v => if cat2 v = true then [some v, none] else [some v]).length ≤ mL j) (hst : (st.map fun v => if cat2 v = true then 2 else 1).sum ≤ 8)
    (hb : wp j 0 (entL (vR (some a) :: as) (mL j)) [] h Qj Xj) (kk : ∀ v h', Qj v h' → wp i (pc + 3) ls (v.toList ++ st) h' Q X) (kx : ∀ E h', Xj E h' → xp i pc ls h' E Q X) : wp i pc ls st0 h Q X := by
  intro D DA B0 CN CS p l e R s m args below meth c H locs ls' hfl hE
  obtain ⟨hcd, hl, hin, hini, hlen, hroom⟩ := hc
  obtain ⟨hx, hbb, hml, -, -, hown, -, hok, hK, hA, hfr, hlo, -⟩ := hE.1
  have hroom' : mF j + 1 ≤ R.frames ∧ 8 + (mL j + 11) + mK j ≤ R.locals := ⟨by omega, by omega⟩
  obtain ⟨cb1, cb2⟩ := callB_A (args := args) (i := i) (idx := idx) (CN := CN) (CS := CS) hok hcd hlen hroom'
  have hM := wp_met hfl D DA B0 CN CS hcd hmx (by rw [lg_sl_le]; exact hsl) hb rfl
  have hcat : ((st.map conc).map fun v => v.category).sum ≤ 8 := by
    rw [List.map_map]
    have : (st.map ((fun v => v.category) ∘ conc)) = st.map fun v => if cat2 v = true then 2 else 1 := by
      apply List.map_congr_left
      intro v _
      exact conc_cat v
    rw [this]
    exact hst
  have hcode : Cond.code (mY j) (mB j) (mL j) none ∈ [Cond.code (mY j) (mB j) (mL j) (mR j)] := by rw [hret]; exact List.mem_cons_self
  have hrun := vx_runI (p := p) (l := l) (e := e) (R := R) (s := s) (m := m) (args := args) (below := below) (meth := meth) (c := c) (H := H) (locs := locs) (cells := H.size - s.heap.size) (slots := ssum H - ssum s.heap) (Ts := []) (own := (mY i).cls) (cc := mB i) (nL := mL i) (rest := st.map conc) (As := as.map conc) (b := a) (g := F0 m pc ls' (st0.map conc)) ⟨hx, hbb, hml, hown, fun _ h => by cases h⟩ hM (index := idx) (bytes := mB j) (maxL := mL j) (n := n)
    ⟨⟨rfl, rfl, hroom'.1, hroom'.2, cb1, hcode, by have := hok _ hcd.1 args; rw [hret] at this; exact this, hok _ hcd.2.2.2 _, hcd.2.2.1, cb2, hok _ hl _⟩, hini, hok _ hin _⟩
    ⟨PcA_blind _ _ _ _ _ _ _, PcA_of hE (vR (some a) :: as)⟩ rfl (by rw [List.length_map]; exact hn) hE.2.2.1.1 (by rw [hs]; simp [conc, va_rf]) (lv_room hcat) hd hE.cap
  exact wp_after hfl hE hrun kk kx
theorem wp_callIn {idx j n a : Nat} {as : List AV} {Qj : Option AV → Hp → Prop} {Xj : String → Hp → Prop} (hd : decode (mB i) pc = .ok (.invokespecial idx, 3)) (hc : cinP i idx j n) (hret : mR j = none) (hmx : mX j = []) {st0 : List AV} (hs : st0 = as.reverse ++ vR (some a) :: st) (hn : as.length = n)
    (hsl : ((vR (some a) :: as).flatMap fun v => if cat2 v = true then [some v, none] else [some v]).length ≤ mL j) (hst : (st.map fun v => if cat2 v = true then 2 else 1).sum ≤ 8)
    (hb : wp j 0 (entL (vR (some a) :: as) (mL j)) [] h Qj Xj) (kk : ∀ v h', Qj v h' → wp i (pc + 3) ls (v.toList ++ st) h' Q X) (kx : ∀ E h', Xj E h' → xp i pc ls h' E Q X) : wp i pc ls st0 h Q X := by
  intro D DA B0 CN CS p l e R s m args below meth c H locs ls' hfl hE
  obtain ⟨hcd, ⟨host, hl⟩, hin, hini, hlen, hroom⟩ := hc
  obtain ⟨hx, hbb, hml, -, -, hown, -, hok, hK, hA, hfr, hlo, -⟩ := hE.1
  have hroom' : mF j + 1 ≤ R.frames ∧ 8 + (mL j + 11) + mK j ≤ R.locals := ⟨by omega, by omega⟩
  obtain ⟨cb1, cb2⟩ := callB_A (args := args) (i := i) (idx := idx) (CN := CN) (CS := CS) hok hcd hlen hroom'
  have hM := wp_met hfl D DA B0 CN CS hcd hmx (by rw [lg_sl_le]; exact hsl) hb rfl
  have hcat : ((st.map conc).map fun v => v.category).sum ≤ 8 := by
    rw [List.map_map]
    have : (st.map ((fun v => v.category) ∘ conc)) = st.map fun v => if cat2 v = true then 2 else 1 := by
      apply List.map_congr_left
      intro v _
      exact conc_cat v
    rw [this]
    exact hst
  have hcode : Cond.code (mY j) (mB j) (mL j) none ∈ [Cond.code (mY j) (mB j) (mL j) (mR j)] := by rw [hret]; exact List.mem_cons_self
  have hrun := vx_runIN (p := p) (l := l) (e := e) (R := R) (s := s) (m := m) (args := args) (below := below) (meth := meth) (c := c) (H := H) (locs := locs) (cells := H.size - s.heap.size) (slots := ssum H - ssum s.heap) (Ts := []) (own := (mY i).cls) (host := host) (cc := mB i) (nL := mL i) (rest := st.map conc) (As := as.map conc) (b := a) (g := F0 m pc ls' (st0.map conc)) ⟨hx, hbb, hml, hown, fun _ h => by cases h⟩ hM (index := idx) (bytes := mB j) (maxL := mL j) (n := n)
    ⟨⟨⟨rfl, rfl, hroom'.1, hroom'.2, cb1, hcode⟩, by have := hok _ hcd.1 args; rw [hret] at this; exact this, hok _ hcd.2.2.2 _, hcd.2.2.1, cb2, hok _ hl _⟩, hini, hok _ hin _⟩
    ⟨PcA_blind _ _ _ _ _ _ _, PcA_of hE (vR (some a) :: as)⟩ rfl (by rw [List.length_map]; exact hn) hE.2.2.1.1 (by rw [hs]; simp [conc, va_rf]) (lv_room hcat) hd hE.cap
  exact wp_after hfl hE hrun kk kx
theorem wp_objInit {idx a : Nat} (hd : decode (mB i) pc = .ok (.invokespecial idx, 3)) (hl : okw (.methodLink (mY i).cls idx Lib.objectInit)) (hco : okw (.instanceMethod Lib.objectInit) ∧ okw (.code Lib.objectInit ⟨#[0xb1]⟩ 1 none)) (hfr : 1 ≤ mF i ∧ 12 ≤ mK i) (kk : wp i (pc + 3) ls [] h Q X) : wp i pc ls [vR (some a)] h Q X := by
  intro D DA B0 CN CS p l e R s m args below meth c H locs ls' hfl hE
  obtain ⟨hx, hbb, hml, -, -, hown, -, hok, hK, hA, hfr1, hlo, -⟩ := hE.1
  refine W.objInit hx hbb hown (hok _ hl _) (hok _ hco.1 _) (hok _ hco.2 _) rfl (by rw [hml]; exact hE.2.2.1.1) (a := a) (rest := []) rfl hd (by omega) (by show 2 * 0 + 0 + 12 ≤ _; omega) ?_
  exact kk D DA B0 CN CS p l e R s m args below meth c H locs ls' hfl hE
end HD
end
section
/-! ===== THE LOGIC, part 6: new int[n][k], copies of rows ===== -/
/-- new int[n][k]: the outer row at the next address, the inner ones behind it -/
def mkM (h : Hp) (n k : Int) : Hp :=
  (fun a => if a = nx h then 103 else if nx h < a ∧ a ≤ nx h + n.toNat then 100 else kd h a,
   fun a => if a = nx h then n else if nx h < a ∧ a ≤ nx h + n.toNat then k else ln h a,
   fun a => if nx h ≤ a ∧ a ≤ nx h + n.toNat then fun _ => 0 else hi h a,
   fun a => if a = nx h then fun j => if 0 ≤ j ∧ j < n then some (nx h + 1 + j.toNat) else none else if nx h < a ∧ a ≤ nx h + n.toNat then fun _ => none else hr h a,
   fun a => if nx h ≤ a ∧ a ≤ nx h + n.toNat then fun _ => 0 else hl h a,
   nx h + 1 + n.toNat, us h + n.toNat + n.toNat * k.toNat, cn h, cs h)
theorem kd_mkM (h : Hp) (n k : Int) (a : Nat) : kd (mkM h n k) a = if a = nx h then 103 else if nx h < a ∧ a ≤ nx h + n.toNat then 100 else kd h a := rfl
theorem ln_mkM (h : Hp) (n k : Int) (a : Nat) : ln (mkM h n k) a = if a = nx h then n else if nx h < a ∧ a ≤ nx h + n.toNat then k else ln h a := rfl
theorem hi_mkM (h : Hp) (n k : Int) (a : Nat) : hi (mkM h n k) a = if nx h ≤ a ∧ a ≤ nx h + n.toNat then fun _ => 0 else hi h a := rfl
theorem hr_mkM (h : Hp) (n k : Int) (a : Nat) : hr (mkM h n k) a = if a = nx h then fun j => if 0 ≤ j ∧ j < n then some (nx h + 1 + j.toNat) else none else if nx h < a ∧ a ≤ nx h + n.toNat then fun _ => none else hr h a := rfl
theorem hl_mkM (h : Hp) (n k : Int) (a : Nat) : hl (mkM h n k) a = if nx h ≤ a ∧ a ≤ nx h + n.toNat then fun _ => 0 else hl h a := rfl
theorem nx_mkM (h : Hp) (n k : Int) : nx (mkM h n k) = nx h + 1 + n.toNat := rfl
theorem us_mkM (h : Hp) (n k : Int) : us (mkM h n k) = us h + n.toNat + n.toNat * k.toNat := rfl
theorem cn_mkM (h : Hp) (n k : Int) : cn (mkM h n k) = cn h := rfl
theorem cs_mkM (h : Hp) (n k : Int) : cs (mkM h n k) = cs h := rfl
/-- a row's stretch copied -/
def cpI (h : Hp) (src : Nat) (sp : Int) (dst : Nat) (dp n : Int) : Hp :=
  (kd h, ln h, fun b j => if b = dst ∧ dp ≤ j ∧ j < dp + n then hi h src (sp + (j - dp)) else hi h b j, hr h, hl h, nx h, us h, cn h, cs h)
theorem kd_cpI (h : Hp) (a : Nat) (s : Int) (b : Nat) (d n : Int) : kd (cpI h a s b d n) = kd h := rfl
theorem ln_cpI (h : Hp) (a : Nat) (s : Int) (b : Nat) (d n : Int) : ln (cpI h a s b d n) = ln h := rfl
theorem hi_cpI (h : Hp) (a : Nat) (s : Int) (b : Nat) (d n : Int) : hi (cpI h a s b d n) = fun c j => if c = b ∧ d ≤ j ∧ j < d + n then hi h a (s + (j - d)) else hi h c j := rfl
theorem hr_cpI (h : Hp) (a : Nat) (s : Int) (b : Nat) (d n : Int) : hr (cpI h a s b d n) = hr h := rfl
theorem hl_cpI (h : Hp) (a : Nat) (s : Int) (b : Nat) (d n : Int) : hl (cpI h a s b d n) = hl h := rfl
theorem nx_cpI (h : Hp) (a : Nat) (s : Int) (b : Nat) (d n : Int) : nx (cpI h a s b d n) = nx h := rfl
theorem us_cpI (h : Hp) (a : Nat) (s : Int) (b : Nat) (d n : Int) : us (cpI h a s b d n) = us h := rfl
theorem cn_cpI (h : Hp) (a : Nat) (s : Int) (b : Nat) (d n : Int) : cn (cpI h a s b d n) = cn h := rfl
theorem cs_cpI (h : Hp) (a : Nat) (s : Int) (b : Nat) (d n : Int) : cs (cpI h a s b d n) = cs h := rfl
theorem mn_outer (c : ClassId) (N h0 : Nat) : ∀ i : Nat, Jvm.Free.Multi.outerC c N h0 i = arrV c N (fun j => va_rf (if j < i then some (h0 + 1 + j) else none))
  | 0 => by
    show ({ cls := c, slots := Array.replicate N .null, vm := .none } : Cell) = _
    rw [arrV_new]
    refine congrArg (arrV c N) (funext fun j => ?_)
    simp [va_rf]
  | i + 1 => by
    show (Jvm.Free.Multi.outerC c N h0 i).setSlot i (.ref (h0 + 1 + i)) = _
    rw [mn_outer c N h0 i, arrV_store]
    refine congrArg (arrV c N) (funext fun j => ?_)
    by_cases e : j = i
    · subst e
      simp [updV, va_rf]
    · by_cases h : j < i
      · simp [updV, e, h, Nat.lt_succ_of_lt h]
      · simp [updV, e, h, show ¬ j < i + 1 by omega]
theorem mn_sum {H F : Heap} {N K : Nat} (hz : F.size = H.size + 1 + N) (ho : ∀ x : Nat, x < H.size → F[x]? = H[x]?) {c0 : Cell} (h0 : F[H.size]? = some c0) (s0 : c0.slots.size = N) (hr : ∀ j : Nat, j < N → ∃ cj : Cell, F[H.size + 1 + j]? = some cj ∧ cj.slots.size = K) : ssum F = ssum H + N + N * K := by
  rw [ssum_split F H.size, ssum_same (by omega) (fun a c hc => ⟨c, by rw [ho a (Array.getElem?_eq_some_iff.mp hc).1]; exact hc, rfl⟩)]
  have e : (F.toList.drop H.size).map (fun c => c.slots.size) = N :: List.replicate N K := by
    apply List.ext_getElem?
    intro k
    rw [List.getElem?_map, List.getElem?_drop, Array.getElem?_toList]
    match k with
    | 0 =>
      rw [Nat.add_zero, h0]
      simp [s0]
    | k + 1 =>
      rw [List.getElem?_cons_succ]
      by_cases hk : k < N
      · obtain ⟨cj, g1, g2⟩ := hr k hk
        rw [show H.size + (k + 1) = H.size + 1 + k by omega, g1, List.getElem?_replicate_of_lt hk]
        simp [g2]
      · rw [Array.getElem?_eq_none (by omega), List.getElem?_eq_none (by simp; omega)]
        rfl
  rw [e]
  simp
  omega
section HM
variable {i pc : Nat} {ls : List (Option AV)} {st : List AV} {h : Hp} {Q : Option AV → Hp → Prop} {X : String → Hp → Prop}
theorem wp_mna {idx : Nat} {n k : Int} (hd : decode (mB i) pc = .ok (.multianewarray idx 2, 4)) (hcl : okw (.classLink (mY i).cls idx "[[I")) (hw : okw (.arrayOver (AT 103))) (hw2 : okw (.arrayClass (AT 100))) (h0 : 0 ≤ n) (h1 : n ≤ 10000000) (k0 : 0 ≤ k) (k1 : k ≤ 10000000) (r1 : nx h + 1 + n.toNat ≤ cn h) (r2 : us h + n.toNat + n.toNat * k.toNat ≤ cs h)
    (kk : wp i (pc + 4) ls (vR (some (nx h)) :: st) (mkM h n k) Q X) : wp i pc ls (vI k :: vI n :: st) h Q X := by
  intro D DA B0 CN CS p l e R s m args below meth c H locs ls' hfl hE
  obtain ⟨hx, hb, -, -, -, hown, -, hok, hK, hA, -⟩ := hE.1
  have hn : inR n := ⟨by omega, by omega⟩
  have hk : inR k := ⟨by omega, by omega⟩
  have hcn : (Int32.ofInt n).toNatClampNeg = n.toNat := i_clamp hn
  have hck : (Int32.ofInt k).toNatClampNeg = k.toNat := i_clamp hk
  have hrep := hE.2.1
  obtain ⟨b1, b2, b3, b4, b5, b6, b7, b8, b9⟩ := hE.2.1
  obtain ⟨a1, a2, a3, a4, a5, a6, a7, a8, a9⟩ := hE
  have a5' := a5
  have a6' := a6
  rw [b1] at a5'
  rw [b2] at a6'
  intro T hT XX
  obtain ⟨vm₁, cA, comp, -, fA, fC, hO, -, X', step⟩ := XX.multianewarray2F (ty := .int) hx hown (hok _ hcl _) (hok _ hw _) (hok _ hw2 _) (g := F0 m pc ls' ((vI k :: vI n :: st).map conc)) rfl (by rw [hb]; exact hd) (n := Int32.ofInt n) (k := Int32.ofInt k) (rest := st.map conc) rfl (by rw [i_neg hn]; omega) (by rw [i_neg hk]; omega) (by rw [hcn]; omega) (by rw [hck]; show k.toNat * 4 ≤ _; omega) (by rw [hck]; omega) rfl rfl (by rw [hcn, a7, b1]; omega) (by rw [hcn, hck, a8, b2]; omega)
  rw [hcn, hck] at X' step
  have hKA0 : 103 ∈ KA := by decide
  have hKA1 : 100 ∈ KA := by decide
  obtain ⟨-, kA', comp', w1, w2, w3, -⟩ := hA 103 hKA0
  obtain ⟨-, kB', compB', u1, u2, u3, -⟩ := hA 100 hKA1
  have ec : cA = DA 103 := Option.some.inj (fA.symm.trans w3)
  have ep : comp = DA 100 := Option.some.inj (fC.symm.trans u3)
  subst ec
  subst ep
  generalize hF : Jvm.Free.Multi.fill (T.setVm vm₁) (DA 103) (DA 100) n.toNat k.toNat (defaultValue .int) n.toNat = F at X' step
  have hTh : (T.setVm vm₁).heap = H := hT
  obtain ⟨f1, f2, -, -⟩ := Jvm.Free.Multi.fill_facts (T.setVm vm₁) (DA 103) (DA 100) n.toNat k.toNat (defaultValue .int) n.toNat
  rw [hF, hTh] at f1 f2
  have hold : ∀ x : Nat, x < H.size → F.heap[x]? = H[x]? := fun x hx => by
    have := Jvm.Free.Multi.fill_old (T.setVm vm₁) (DA 103) (DA 100) n.toNat k.toNat (defaultValue .int) (a := x) (by rw [hTh]; exact hx) n.toNat
    rw [hF, hTh] at this
    exact this
  have hrow : ∀ j : Nat, j < n.toNat → F.heap[H.size + 1 + j]? = some (arrV (DA 100) k.toNat (fun _ => defaultValue .int)) := fun j hj => by
    have := Jvm.Free.Multi.fill_inner (T.setVm vm₁) (DA 103) (DA 100) n.toNat k.toNat (defaultValue .int) n.toNat j hj
    rw [hF, hTh] at this
    rw [this]
    unfold Jvm.Free.Multi.innerC
    rw [arrV_new]
  rw [mn_outer] at f2
  have hsum := mn_sum (N := n.toNat) (K := k.toNat) f1 hold f2 (arrV_size _ _ _) (fun j hj => ⟨_, hrow j hj, arrV_size _ _ _⟩)
  have hlt := fun a (ha : kd h a ≠ 0) => hrep.lt ha
  have hnew : rep D DA B0 CN CS s F.heap (mkM h n k) := by
    refine ⟨by rw [f1, b1]; rfl, by rw [hsum, b2]; rfl, b3, b4, by rw [nx_mkM, ← b3]; exact r1, by rw [us_mkM, ← b4]; exact r2, by rw [nx_mkM]; omega, fun a j => ?_, fun a ha => ?_⟩
    · rw [hi_mkM]
      split
      · show inR 0
        exact ⟨by decide, by decide⟩
      · exact b8 a j
    · by_cases e0 : a = nx h
      · subst e0
        have ek : kd (mkM h n k) (nx h) = 103 := by rw [kd_mkM, if_pos rfl]
        have el : ln (mkM h n k) (nx h) = n := by rw [ln_mkM, if_pos rfl]
        refine ⟨Or.inr b7, Or.inr (Or.inr ?_)⟩
        rw [ek, el]
        refine ⟨hKA0, h0, hn, ?_⟩
        rw [← b1, f2]
        refine congrArg (fun f => some (arrV (DA 103) n.toNat f)) (funext fun j => ?_)
        rw [sv_R (by rfl), hr_mkM, b1, if_pos rfl]
        refine congrArg va_rf ?_
        by_cases hj : j < n.toNat
        · rw [if_pos hj, if_pos (by omega)]
          simp
        · rw [if_neg hj, if_neg (by omega)]
      · by_cases e1 : nx h < a ∧ a ≤ nx h + n.toNat
        · have ek : kd (mkM h n k) a = 100 := by rw [kd_mkM, if_neg e0, if_pos e1]
          have el : ln (mkM h n k) a = k := by rw [ln_mkM, if_neg e0, if_pos e1]
          refine ⟨Or.inr (by omega), Or.inr (Or.inr ?_)⟩
          rw [ek, el]
          refine ⟨hKA1, k0, hk, ?_⟩
          have := hrow (a - (nx h + 1)) (by omega)
          rw [b1, show nx h + 1 + (a - (nx h + 1)) = a by omega] at this
          rw [this]
          refine congrArg (fun f => some (arrV (DA 100) k.toNat f)) (funext fun j => ?_)
          rw [sv_I (by rfl), hi_mkM, if_pos (by omega)]
          rfl
        · have ek : kd (mkM h n k) a = kd h a := by rw [kd_mkM, if_neg e0, if_neg e1]
          have e2 : ¬ (nx h ≤ a ∧ a ≤ nx h + n.toNat) := fun q => e1 ⟨by omega, q.2⟩
          rw [ek] at ha ⊢
          have hal := hlt a ha
          refine ⟨(b9 a ha).1, (b9 a ha).2.kept (hold a (by omega)) ek ?_ (fun j => ?_) (fun j => ?_) (fun j => ?_)⟩
          · rw [ln_mkM, if_neg e0, if_neg e1]
          · rw [hi_mkM, if_neg e2]
          · rw [hr_mkM, if_neg e0, if_neg e1]
          · rw [hl_mkM, if_neg e2]
  have hE' : En i D DA B0 CN CS p R s m meth c F.heap locs ls' ls (mkM h n k) := ⟨a1, hnew, a3, a4, by rw [f1]; omega, by rw [hsum]; omega, a7, a8, a9⟩
  obtain ⟨t, g1, g2⟩ := (W_tight (kk D DA B0 CN CS p l e R s m args below meth c F.heap locs ls' hfl hE')) F rfl X'
  refine ⟨t, step t ?_, g2⟩
  have e : T.heap.size = nx h := by rw [hT]; exact b1
  rw [e]
  exact g1
theorem wp_copy {idx src dst : Nat} {sp dp n : Int} (hd : decode (mB i) pc = .ok (.invokestatic idx, 3)) (hl : okw (.methodLink (mY i).cls idx arraycopyName)) (hnat : okw (.native arraycopyName)) (hst : okw (.static arraycopyName)) (hini : okw (.initialized "java/lang/System"))
    (hk1 : kd h src = 100) (hk2 : kd h dst = 100) (s0 : 0 ≤ sp) (d0 : 0 ≤ dp) (n0 : 0 ≤ n) (s1 : sp + n ≤ ln h src) (d1 : dp + n ≤ ln h dst) (hfr : 1 ≤ mF i) (hlo : (st.map fun v => if cat2 v = true then 2 else 1).sum + (nativeFrameWords "java/lang/System" "arraycopy" 5 + 11) ≤ mK i)
    (kk : wp i (pc + 3) ls st (cpI h src sp dst dp n) Q X) : wp i pc ls (vI n :: vI dp :: vR (some dst) :: vI sp :: vR (some src) :: st) h Q X := by
  intro D DA B0 CN CS p l e R s m args below meth c H locs ls' hfl hE
  obtain ⟨hx, hb, hml, -, -, hown, -, hok, hK, hA, hfr1, hlo1, -⟩ := hE.1
  have hoks := hE.2.1.2.2.2.2.2.2.2.2 src (by omega)
  have hokd := hE.2.1.2.2.2.2.2.2.2.2 dst (by omega)
  obtain ⟨x1, x2, x3, x4⟩ := hoks.2.arr (by omega) (by omega)
  obtain ⟨y1, y2, y3, y4⟩ := hokd.2.arr (by omega) (by omega)
  have hin := hE.2.1.2.2.2.2.2.2.2.1
  have rs : inR sp := ⟨by omega, by have := x3.2; omega⟩
  have rd : inR dp := ⟨by omega, by have := y3.2; omega⟩
  have rn : inR n := ⟨by omega, by have := x3.2; omega⟩
  have cs1 : (Int32.ofInt sp).toNatClampNeg = sp.toNat := i_clamp rs
  have cs2 : (Int32.ofInt dp).toNatClampNeg = dp.toNat := i_clamp rd
  have cs3 : (Int32.ofInt n).toNatClampNeg = n.toNat := i_clamp rn
  have hcat : ((st.map conc).map fun v => v.category).sum = (st.map fun v => if cat2 v = true then 2 else 1).sum := by
    rw [List.map_map]
    refine congrArg List.sum (List.map_congr_left ?_)
    intro v _
    exact conc_cat v
  rw [hk1] at x4 x1
  rw [hk2] at y4 y1
  obtain ⟨hAO, kA, comp, w1, w2, w3, -⟩ := hA 100 x1
  intro T hT XX
  have hc0 : T.heap[src]? = some (arrV (DA 100) (ln h src).toNat (fun j => .int (Int32.ofInt (hi h src j)))) := by rw [hT]; exact x4
  have hc1 : T.heap[dst]? = some (arrV (DA 100) (ln h dst).toNat (fun j => .int (Int32.ofInt (hi h dst j)))) := by rw [hT]; exact y4
  obtain ⟨vm', X', step⟩ := XX.arraycopy hx hown (hok _ hl _) (hok _ hnat _) (hok _ hst _) (hok _ hini _) (src := src) (dst := dst) (srcPos := Int32.ofInt sp) (destPos := Int32.ofInt dp) (n := Int32.ofInt n) hc0 hc1
    (fun _ h => by cases h) (fun _ h => by cases h) (fun h => by cases h) (fun h => by cases h) w1 w1 w2 w2 (by decide) (by rw [i_neg rs]; omega) (by rw [i_neg rd]; omega) (by rw [i_neg rn]; omega)
    (by rw [i_toInt rs, i_toInt rn, arrV_size]; omega) (by rw [i_toInt rd, i_toInt rn, arrV_size]; omega)
    (fun vm₁ _ k hk => by
      rw [cs3] at hk
      have e : (arrV (DA 100) (ln h src).toNat (fun j => Value.int (Int32.ofInt (hi h src j)))).slots.getD ((Int32.ofInt sp).toNatClampNeg + k) .null = .int (Int32.ofInt (hi h src ((sp.toNat + k : Nat) : Int))) := by
        rw [cs1, Array.getD_eq_getD_getElem?, arrV_read _ _ (by omega)]
        rfl
      rw [e]
      exact ⟨rfl, trivial⟩)
    (g := F0 m pc ls' ((vI n :: vI dp :: vR (some dst) :: vI sp :: vR (some src) :: st).map conc)) rfl (by rw [hml]; exact hE.2.2.1.1) (rest := st.map conc) rfl (by rw [hb]; exact hd) (by omega) (by rw [hcat]; show 2 * 0 + _ + _ ≤ _; omega)
  have e1 : copied (arrV (DA 100) (ln h src).toNat (fun j => Value.int (Int32.ofInt (hi h src j)))) (arrV (DA 100) (ln h dst).toNat (fun j => Value.int (Int32.ofInt (hi h dst j)))) (Int32.ofInt sp) (Int32.ofInt dp) (Int32.ofInt n) = arrV (DA 100) (ln h dst).toNat (fun j => sv (AT 100) (cpI h src sp dst dp n) dst j) := by
    have h9 := va_copied (fun z => Value.int (Int32.ofInt z)) (DA 100) (DA 100) (n0 := (ln h src).toNat) (n1 := (ln h dst).toNat) (sp := sp.toNat) (dp := dp.toNat) (n := n.toNat) (fun j => hi h src j) (fun j => hi h dst j) (by omega)
    unfold copied
    rw [cs1, cs2, cs3]
    refine h9.trans (congrArg (arrV (DA 100) (ln h dst).toNat) (funext fun j => ?_))
    rw [sv_I (by rfl), hi_cpI]
    refine congrArg (fun z => Value.int (Int32.ofInt z)) ?_
    unfold va_cpy
    by_cases hj : dp.toNat ≤ j ∧ j < dp.toNat + n.toNat
    · rw [if_pos hj]
      dsimp only
      rw [if_pos ⟨rfl, by omega, by omega⟩]
      exact congrArg (hi h src) (by omega)
    · rw [if_neg hj]
      dsimp only
      rw [if_neg (by rintro ⟨-, q1, q2⟩; exact hj ⟨by omega, by omega⟩)]
  rw [e1] at X' step
  have hlt : dst < H.size := (Array.getElem?_eq_some_iff.mp y4).1
  have hheap : ((T.setVm vm').setCell dst (arrV (DA 100) (ln h dst).toNat (fun j => sv (AT 100) (cpI h src sp dst dp n) dst j))).heap = H.setIfInBounds dst (arrV (DA 100) (ln h dst).toNat (fun j => sv (AT 100) (cpI h src sp dst dp n) dst j)) := by rw [← hT]; rfl
  have oq : ∀ q : Nat, q ≠ dst → (H.setIfInBounds dst (arrV (DA 100) (ln h dst).toNat (fun j => sv (AT 100) (cpI h src sp dst dp n) dst j)))[q]? = H[q]? := fun q hq => by simp [Array.getElem?_setIfInBounds, Ne.symm hq]
  have ex : (H.setIfInBounds dst (arrV (DA 100) (ln h dst).toNat (fun j => sv (AT 100) (cpI h src sp dst dp n) dst j)))[dst]? = some (arrV (DA 100) (ln h dst).toNat (fun j => sv (AT 100) (cpI h src sp dst dp n) dst j)) := by simp [Array.getElem?_setIfInBounds, hlt]
  have hsame : ∀ c : Cell, H[dst]? = some c → (arrV (DA 100) (ln h dst).toNat (fun j => sv (AT 100) (cpI h src sp dst dp n) dst j)).slots.size = c.slots.size := fun c hc => by
    rw [y4] at hc
    cases hc
    rw [arrV_size, arrV_size]
  have z1 : (H.setIfInBounds dst (arrV (DA 100) (ln h dst).toNat (fun j => sv (AT 100) (cpI h src sp dst dp n) dst j))).size = H.size := by simp
  have hnew := hE.2.1.put (h1 := cpI h src sp dst dp n) (a := dst) (by omega) ex hsame z1 oq rfl rfl rfl rfl rfl rfl (fun b j => by
      rw [hi_cpI]
      dsimp only
      split
      · exact hin _ _
      · exact hin _ _) (fun b hb j => ⟨by rw [hi_cpI]; exact if_neg (fun q => hb q.1), rfl, rfl⟩) (Or.inr (Or.inr ⟨by rw [kd_cpI, hk2]; exact y1, y2, y3, by rw [kd_cpI, hk2, ln_cpI]; exact ex⟩))
  refine (W_tight (kk D DA B0 CN CS p l e R s m args below meth c _ _ ls' hfl ⟨hE.1, hnew, hE.2.2.1, ?_, by rw [z1]; exact hE.2.2.2.2.1, by rw [ssum_set z1 oq ex hsame]; exact hE.2.2.2.2.2.1, hE.2.2.2.2.2.2⟩)) _ hheap X' |>.elim (fun t ht => ⟨t, step t ht.1, ht.2⟩)
  intro z hz
  rcases List.mem_append.mp hz with h | h
  · exact hE.2.2.2.1 z h
  · obtain ⟨y, -, hy⟩ := List.mem_map.mp h
    rw [← hy]
    rcases hokd.1 with h3 | h3
    · omega
    · exact h3
end HM
end
section
/-! ===== rows of booleans ===== -/
section HZ
variable {i pc : Nat} {ls : List (Option AV)} {st : List AV} {h : Hp} {Q : Option AV → Hp → Prop} {X : String → Hp → Prop}
theorem wp_bald {a : Nat} {x : Int} (hd : decode (mB i) pc = .ok (.baload, 1)) (hk : kd h a = 102) (h0 : 0 ≤ x) (h1 : x < ln h a) (kk : ∀ y, y = hi h a x → inR y → wp i (pc + 1) ls (vI y :: st) h Q X) : wp i pc ls (vI x :: vR (some a) :: st) h Q X := by
  intro D DA B0 CN CS p l e R s m args below meth c H locs ls' hfl hE
  have k := kk _ rfl (hE.2.1.2.2.2.2.2.2.2.1 _ _) D DA B0 CN CS p l e R s m args below meth c H locs ls' hfl hE
  have hoka := (hE.2.1.2.2.2.2.2.2.2.2 a (by omega)).2
  have ht : (x.toNat : Int) = x := Int.toNat_of_nonneg h0
  obtain ⟨k1, k2, k3, k4⟩ := hoka.arr (by omega) (by omega)
  have hx : inR x := ⟨by omega, by have := k3.2; omega⟩
  rw [hk] at k4 k1
  refine W.zald hE.1.1 hE.1.2.1 k4 ((hE.1.2.2.2.2.2.2.2.2.2.1 _ k1).1 _ _) (fun q => by cases q) (by rw [arrV_size]; exact arr_in hx h0 h1) (v := .int (Int32.ofInt (hi h a x))) ?_ rfl rfl hd k
  rw [i_clamp hx, arrV_read _ _ (by omega), ht]
  rfl
theorem wp_bast {a : Nat} {x v : Int} (hd : decode (mB i) pc = .ok (.bastore, 1)) (hk : kd h a = 102) (h0 : 0 ≤ x) (h1 : x < ln h a) (hv01 : v = 0 ∨ v = 1) (kk : wp i (pc + 1) ls st (setI h a x v) Q X) : wp i pc ls (vI v :: vI x :: vR (some a) :: st) h Q X := by
  intro D DA B0 CN CS p l e R s m args below meth c H locs ls' hfl hE
  have hv : inR v := ⟨by omega, by omega⟩
  have hnar : narrow .boolean (.int (Int32.ofInt v)) = .int (Int32.ofInt v) := (fit_I (ty := .boolean) rfl (fun _ => hv01)).1
  have hoka := (hE.2.1.2.2.2.2.2.2.2.2 a (by omega)).2
  have ht : (x.toNat : Int) = x := Int.toNat_of_nonneg h0
  have hin := hE.2.1.2.2.2.2.2.2.2.1
  obtain ⟨k1, k2, k3, k4⟩ := hoka.arr (by omega) (by omega)
  have hx : inR x := ⟨by omega, by have := k3.2; omega⟩
  refine W.zast hE.1.1 hE.1.2.1 k4 (by have := (hE.1.2.2.2.2.2.2.2.2.2.1 _ k1).1 (ln h a).toNat (fun j => sv (AT (kd h a)) h a j); rw [hk] at this ⊢; exact this) (fun q => by cases q) (by rw [arrV_size]; exact arr_in hx h0 h1) rfl rfl hd (fun H1 e1 z1 o1 => ?_)
  rw [i_clamp hx, hnar] at e1
  rw [i_clamp hx]
  refine W_tight (kk D DA B0 CN CS p l e R s m args below meth c H1 _ ls' hfl (hE.arr (by omega) (by omega) e1 z1 o1 rfl rfl rfl rfl rfl rfl (fun b j => ?_) (fun b hb j => ⟨hi_ne (Or.inl hb), rfl, rfl⟩) ?_ (fun j hj => ?_)))
  · rw [hi_setI]
    unfold up2
    split
    · exact hv
    · exact hin b j
  · rw [hk, sv_I (by rfl), ht, hi_setI, up2_same]
  · unfold sv
    rw [hi_ne (Or.inr (by omega))]
    rfl
end HZ
def mkZ (h : Hp) (n k : Int) : Hp :=
  (fun a => if a = nx h then 108 else if nx h < a ∧ a ≤ nx h + n.toNat then 102 else kd h a,
   fun a => if a = nx h then n else if nx h < a ∧ a ≤ nx h + n.toNat then k else ln h a,
   fun a => if nx h ≤ a ∧ a ≤ nx h + n.toNat then fun _ => 0 else hi h a,
   fun a => if a = nx h then fun j => if 0 ≤ j ∧ j < n then some (nx h + 1 + j.toNat) else none else if nx h < a ∧ a ≤ nx h + n.toNat then fun _ => none else hr h a,
   fun a => if nx h ≤ a ∧ a ≤ nx h + n.toNat then fun _ => 0 else hl h a,
   nx h + 1 + n.toNat, us h + n.toNat + n.toNat * k.toNat, cn h, cs h)
theorem kd_mkZ (h : Hp) (n k : Int) (a : Nat) : kd (mkZ h n k) a = if a = nx h then 108 else if nx h < a ∧ a ≤ nx h + n.toNat then 102 else kd h a := rfl
theorem ln_mkZ (h : Hp) (n k : Int) (a : Nat) : ln (mkZ h n k) a = if a = nx h then n else if nx h < a ∧ a ≤ nx h + n.toNat then k else ln h a := rfl
theorem hi_mkZ (h : Hp) (n k : Int) (a : Nat) : hi (mkZ h n k) a = if nx h ≤ a ∧ a ≤ nx h + n.toNat then fun _ => 0 else hi h a := rfl
theorem hr_mkZ (h : Hp) (n k : Int) (a : Nat) : hr (mkZ h n k) a = if a = nx h then fun j => if 0 ≤ j ∧ j < n then some (nx h + 1 + j.toNat) else none else if nx h < a ∧ a ≤ nx h + n.toNat then fun _ => none else hr h a := rfl
theorem hl_mkZ (h : Hp) (n k : Int) (a : Nat) : hl (mkZ h n k) a = if nx h ≤ a ∧ a ≤ nx h + n.toNat then fun _ => 0 else hl h a := rfl
theorem nx_mkZ (h : Hp) (n k : Int) : nx (mkZ h n k) = nx h + 1 + n.toNat := rfl
theorem us_mkZ (h : Hp) (n k : Int) : us (mkZ h n k) = us h + n.toNat + n.toNat * k.toNat := rfl
theorem cn_mkZ (h : Hp) (n k : Int) : cn (mkZ h n k) = cn h := rfl
theorem cs_mkZ (h : Hp) (n k : Int) : cs (mkZ h n k) = cs h := rfl

section HZM
variable {i pc : Nat} {ls : List (Option AV)} {st : List AV} {h : Hp} {Q : Option AV → Hp → Prop} {X : String → Hp → Prop}
theorem wp_mnz {idx : Nat} {n k : Int} (hd : decode (mB i) pc = .ok (.multianewarray idx 2, 4)) (hcl : okw (.classLink (mY i).cls idx "[[Z")) (hw : okw (.arrayOver (AT 108))) (hw2 : okw (.arrayClass (AT 102))) (h0 : 0 ≤ n) (h1 : n ≤ 10000000) (k0 : 0 ≤ k) (k1 : k ≤ 10000000) (r1 : nx h + 1 + n.toNat ≤ cn h) (r2 : us h + n.toNat + n.toNat * k.toNat ≤ cs h)
    (kk : wp i (pc + 4) ls (vR (some (nx h)) :: st) (mkZ h n k) Q X) : wp i pc ls (vI k :: vI n :: st) h Q X := by
  intro D DA B0 CN CS p l e R s m args below meth c H locs ls' hfl hE
  obtain ⟨hx, hb, -, -, -, hown, -, hok, hK, hA, -⟩ := hE.1
  have hn : inR n := ⟨by omega, by omega⟩
  have hk : inR k := ⟨by omega, by omega⟩
  have hcn : (Int32.ofInt n).toNatClampNeg = n.toNat := i_clamp hn
  have hck : (Int32.ofInt k).toNatClampNeg = k.toNat := i_clamp hk
  have hrep := hE.2.1
  obtain ⟨b1, b2, b3, b4, b5, b6, b7, b8, b9⟩ := hE.2.1
  obtain ⟨a1, a2, a3, a4, a5, a6, a7, a8, a9⟩ := hE
  have a5' := a5
  have a6' := a6
  rw [b1] at a5'
  rw [b2] at a6'
  intro T hT XX
  obtain ⟨vm₁, cA, comp, -, fA, fC, hO, -, X', step⟩ := XX.multianewarray2F (ty := .boolean) hx hown (hok _ hcl _) (hok _ hw _) (hok _ hw2 _) (g := F0 m pc ls' ((vI k :: vI n :: st).map conc)) rfl (by rw [hb]; exact hd) (n := Int32.ofInt n) (k := Int32.ofInt k) (rest := st.map conc) rfl (by rw [i_neg hn]; omega) (by rw [i_neg hk]; omega) (by rw [hcn]; omega) (by rw [hck]; show k.toNat * 1 ≤ _; omega) (by rw [hck]; omega) rfl rfl (by rw [hcn, a7, b1]; omega) (by rw [hcn, hck, a8, b2]; omega)
  rw [hcn, hck] at X' step
  have hKA0 : 108 ∈ KA := by decide
  have hKA1 : 102 ∈ KA := by decide
  obtain ⟨-, kA', comp', w1, w2, w3, -⟩ := hA 108 hKA0
  obtain ⟨-, kB', compB', u1, u2, u3, -⟩ := hA 102 hKA1
  have ec : cA = DA 108 := Option.some.inj (fA.symm.trans w3)
  have ep : comp = DA 102 := Option.some.inj (fC.symm.trans u3)
  subst ec
  subst ep
  generalize hF : Jvm.Free.Multi.fill (T.setVm vm₁) (DA 108) (DA 102) n.toNat k.toNat (defaultValue .boolean) n.toNat = F at X' step
  have hTh : (T.setVm vm₁).heap = H := hT
  obtain ⟨f1, f2, -, -⟩ := Jvm.Free.Multi.fill_facts (T.setVm vm₁) (DA 108) (DA 102) n.toNat k.toNat (defaultValue .boolean) n.toNat
  rw [hF, hTh] at f1 f2
  have hold : ∀ x : Nat, x < H.size → F.heap[x]? = H[x]? := fun x hx => by
    have := Jvm.Free.Multi.fill_old (T.setVm vm₁) (DA 108) (DA 102) n.toNat k.toNat (defaultValue .boolean) (a := x) (by rw [hTh]; exact hx) n.toNat
    rw [hF, hTh] at this
    exact this
  have hrow : ∀ j : Nat, j < n.toNat → F.heap[H.size + 1 + j]? = some (arrV (DA 102) k.toNat (fun _ => defaultValue .boolean)) := fun j hj => by
    have := Jvm.Free.Multi.fill_inner (T.setVm vm₁) (DA 108) (DA 102) n.toNat k.toNat (defaultValue .boolean) n.toNat j hj
    rw [hF, hTh] at this
    rw [this]
    unfold Jvm.Free.Multi.innerC
    rw [arrV_new]
  rw [mn_outer] at f2
  have hsum := mn_sum (N := n.toNat) (K := k.toNat) f1 hold f2 (arrV_size _ _ _) (fun j hj => ⟨_, hrow j hj, arrV_size _ _ _⟩)
  have hlt := fun a (ha : kd h a ≠ 0) => hrep.lt ha
  have hnew : rep D DA B0 CN CS s F.heap (mkZ h n k) := by
    refine ⟨by rw [f1, b1]; rfl, by rw [hsum, b2]; rfl, b3, b4, by rw [nx_mkZ, ← b3]; exact r1, by rw [us_mkZ, ← b4]; exact r2, by rw [nx_mkZ]; omega, fun a j => ?_, fun a ha => ?_⟩
    · rw [hi_mkZ]
      split
      · show inR 0
        exact ⟨by decide, by decide⟩
      · exact b8 a j
    · by_cases e0 : a = nx h
      · subst e0
        have ek : kd (mkZ h n k) (nx h) = 108 := by rw [kd_mkZ, if_pos rfl]
        have el : ln (mkZ h n k) (nx h) = n := by rw [ln_mkZ, if_pos rfl]
        refine ⟨Or.inr b7, Or.inr (Or.inr ?_)⟩
        rw [ek, el]
        refine ⟨hKA0, h0, hn, ?_⟩
        rw [← b1, f2]
        refine congrArg (fun f => some (arrV (DA 108) n.toNat f)) (funext fun j => ?_)
        rw [sv_R (by rfl), hr_mkZ, b1, if_pos rfl]
        refine congrArg va_rf ?_
        by_cases hj : j < n.toNat
        · rw [if_pos hj, if_pos (by omega)]
          simp
        · rw [if_neg hj, if_neg (by omega)]
      · by_cases e1 : nx h < a ∧ a ≤ nx h + n.toNat
        · have ek : kd (mkZ h n k) a = 102 := by rw [kd_mkZ, if_neg e0, if_pos e1]
          have el : ln (mkZ h n k) a = k := by rw [ln_mkZ, if_neg e0, if_pos e1]
          refine ⟨Or.inr (by omega), Or.inr (Or.inr ?_)⟩
          rw [ek, el]
          refine ⟨hKA1, k0, hk, ?_⟩
          have := hrow (a - (nx h + 1)) (by omega)
          rw [b1, show nx h + 1 + (a - (nx h + 1)) = a by omega] at this
          rw [this]
          refine congrArg (fun f => some (arrV (DA 102) k.toNat f)) (funext fun j => ?_)
          rw [sv_I (by rfl), hi_mkZ, if_pos (by omega)]
          rfl
        · have ek : kd (mkZ h n k) a = kd h a := by rw [kd_mkZ, if_neg e0, if_neg e1]
          have e2 : ¬ (nx h ≤ a ∧ a ≤ nx h + n.toNat) := fun q => e1 ⟨by omega, q.2⟩
          rw [ek] at ha ⊢
          have hal := hlt a ha
          refine ⟨(b9 a ha).1, (b9 a ha).2.kept (hold a (by omega)) ek ?_ (fun j => ?_) (fun j => ?_) (fun j => ?_)⟩
          · rw [ln_mkZ, if_neg e0, if_neg e1]
          · rw [hi_mkZ, if_neg e2]
          · rw [hr_mkZ, if_neg e0, if_neg e1]
          · rw [hl_mkZ, if_neg e2]
  have hE' : En i D DA B0 CN CS p R s m meth c F.heap locs ls' ls (mkZ h n k) := ⟨a1, hnew, a3, a4, by rw [f1]; omega, by rw [hsum]; omega, a7, a8, a9⟩
  obtain ⟨t, g1, g2⟩ := (W_tight (kk D DA B0 CN CS p l e R s m args below meth c F.heap locs ls' hfl hE')) F rfl X'
  refine ⟨t, step t ?_, g2⟩
  have e : T.heap.size = nx h := by rw [hT]; exact b1
  rw [e]
  exact g1
end HZM
end
section
set_option maxRecDepth 100000 in
theorem cd_47 : cdP 47 := ⟨okr (k := 657) rfl (by decide +kernel), by decide +kernel, by decide +kernel, okk_w (k := 37) (by decide +kernel)⟩
set_option maxRecDepth 100000 in
theorem cd_48 : cdP 48 := ⟨okr (k := 625) rfl (by decide +kernel), by decide +kernel, by decide +kernel, okk_w (k := 35) (by decide +kernel)⟩
set_option maxRecDepth 100000 in
theorem cd_56 : cdP 56 := ⟨okr (k := 677) rfl (by decide +kernel), by decide +kernel, by decide +kernel, okk_w (k := 38) (by decide +kernel)⟩
set_option maxRecDepth 100000 in
theorem cd_73 : cdP 73 := ⟨okr (k := 715) rfl (by decide +kernel), by decide +kernel, by decide +kernel, okk_w (k := 40) (by decide +kernel)⟩
set_option maxRecDepth 100000 in
theorem cd_74 : cdP 74 := ⟨okr (k := 536) rfl (by decide +kernel), by decide +kernel, by decide +kernel, okk_w (k := 33) (by decide +kernel)⟩
set_option maxRecDepth 100000 in
theorem cd_79 : cdP 79 := ⟨okr (k := 683) rfl (by decide +kernel), by decide +kernel, by decide +kernel, okk_w (k := 39) (by decide +kernel)⟩
set_option maxRecDepth 100000 in
theorem cd_90 : cdP 90 := ⟨okr (k := 637) rfl (by decide +kernel), by decide +kernel, by decide +kernel, okk_w (k := 36) (by decide +kernel)⟩
set_option maxRecDepth 100000 in
theorem cd_93 : cdP 93 := ⟨okr (k := 592) rfl (by decide +kernel), by decide +kernel, by decide +kernel, okk_w (k := 34) (by decide +kernel)⟩
set_option maxRecDepth 100000 in
theorem fl_0_12 : flP "WhistleStop" 12 0 0 := ⟨_, rfl, by decide, okk_w (k := 768) (by decide +kernel)⟩
set_option maxRecDepth 100000 in
theorem fl_0_33 : flP "WhistleStop" 33 0 3 := ⟨_, rfl, by decide, okk_w (k := 771) (by decide +kernel)⟩
set_option maxRecDepth 100000 in
theorem fl_0_19 : flP "WhistleStop" 19 0 1 := ⟨_, rfl, by decide, okk_w (k := 769) (by decide +kernel)⟩
set_option maxRecDepth 100000 in
theorem fl_0_47 : flP "WhistleStop" 47 0 5 := ⟨_, rfl, by decide, okk_w (k := 773) (by decide +kernel)⟩
set_option maxRecDepth 100000 in
theorem fl_0_40 : flP "WhistleStop" 40 0 4 := ⟨_, rfl, by decide, okk_w (k := 772) (by decide +kernel)⟩
set_option maxRecDepth 100000 in
theorem fl_0_54 : flP "WhistleStop" 54 0 6 := ⟨_, rfl, by decide, okk_w (k := 774) (by decide +kernel)⟩
set_option maxRecDepth 100000 in
theorem oi_0 : okw (.methodLink "WhistleStop" 3 Lib.objectInit) := okk_w (k := 531) (by decide +kernel)
set_option maxRecDepth 100000 in
theorem cl_0_9 : okw (.classLink "WhistleStop" 9 "WhistleStop$Network") := okk_w (k := 532) (by decide +kernel)
set_option maxRecDepth 100000 in
theorem c_30_11 : cinP 30 11 74 0 := ⟨cd_74, ⟨"WhistleStop", okk_w (k := 534) (by decide +kernel)⟩, okk_w (k := 535) (by decide +kernel), by decide +kernel, by decide +kernel, by decide +kernel⟩
set_option maxRecDepth 100000 in
theorem cl_0_16 : okw (.classLink "WhistleStop" 16 "WhistleStop$Runs") := okk_w (k := 589) (by decide +kernel)
set_option maxRecDepth 100000 in
theorem c_30_18 : cinP 30 18 93 0 := ⟨cd_93, ⟨"WhistleStop", okk_w (k := 590) (by decide +kernel)⟩, okk_w (k := 591) (by decide +kernel), by decide +kernel, by decide +kernel, by decide +kernel⟩
set_option maxRecDepth 100000 in
theorem cl_0_23 : okw (.classLink "WhistleStop" 23 "WhistleStop$Board") := okk_w (k := 621) (by decide +kernel)
set_option maxRecDepth 100000 in
theorem c_30_25 : cinP 30 25 48 0 := ⟨cd_48, ⟨"WhistleStop", okk_w (k := 623) (by decide +kernel)⟩, okk_w (k := 624) (by decide +kernel), by decide +kernel, by decide +kernel, by decide +kernel⟩
set_option maxRecDepth 100000 in
theorem fl_0_26 : flP "WhistleStop" 26 0 2 := ⟨_, rfl, by decide, okk_w (k := 770) (by decide +kernel)⟩
set_option maxRecDepth 100000 in
theorem cl_0_30 : okw (.classLink "WhistleStop" 30 "WhistleStop$Onward") := okk_w (k := 634) (by decide +kernel)
set_option maxRecDepth 100000 in
theorem c_30_32 : cinP 30 32 90 0 := ⟨cd_90, ⟨"WhistleStop", okk_w (k := 635) (by decide +kernel)⟩, okk_w (k := 636) (by decide +kernel), by decide +kernel, by decide +kernel, by decide +kernel⟩
set_option maxRecDepth 100000 in
theorem cl_0_37 : okw (.classLink "WhistleStop" 37 "WhistleStop$Backward") := okk_w (k := 654) (by decide +kernel)
set_option maxRecDepth 100000 in
theorem c_30_39 : cinP 30 39 47 0 := ⟨cd_47, ⟨"WhistleStop", okk_w (k := 655) (by decide +kernel)⟩, okk_w (k := 656) (by decide +kernel), by decide +kernel, by decide +kernel, by decide +kernel⟩
set_option maxRecDepth 100000 in
theorem cl_0_44 : okw (.classLink "WhistleStop" 44 "WhistleStop$Fares") := okk_w (k := 674) (by decide +kernel)
set_option maxRecDepth 100000 in
theorem c_30_46 : ciP 30 46 56 0 := ⟨cd_56, okk_w (k := 675) (by decide +kernel), okk_w (k := 676) (by decide +kernel), by decide +kernel, by decide +kernel, by decide +kernel⟩
set_option maxRecDepth 100000 in
theorem cl_0_51 : okw (.classLink "WhistleStop" 51 "WhistleStop$Journey") := okk_w (k := 712) (by decide +kernel)
set_option maxRecDepth 100000 in
theorem c_30_53 : cinP 30 53 73 0 := ⟨cd_73, ⟨"WhistleStop", okk_w (k := 713) (by decide +kernel)⟩, okk_w (k := 714) (by decide +kernel), by decide +kernel, by decide +kernel, by decide +kernel⟩
set_option maxRecDepth 100000 in
theorem d_30_0 : decode (mB 30) 0 = .ok (.aload_n 0, 1) := by decide +kernel
set_option maxRecDepth 100000 in
theorem d_30_1 : decode (mB 30) 1 = .ok (.invokespecial 3, 3) := by decide +kernel
set_option maxRecDepth 100000 in
theorem d_30_4 : decode (mB 30) 4 = .ok (.aload_n 0, 1) := by decide +kernel
set_option maxRecDepth 100000 in
theorem d_30_5 : decode (mB 30) 5 = .ok (.new 9, 3) := by decide +kernel
set_option maxRecDepth 100000 in
theorem d_30_8 : decode (mB 30) 8 = .ok (.dup, 1) := by decide +kernel
set_option maxRecDepth 100000 in
theorem d_30_9 : decode (mB 30) 9 = .ok (.invokespecial 11, 3) := by decide +kernel
set_option maxRecDepth 100000 in
theorem d_30_12 : decode (mB 30) 12 = .ok (.putfield 12, 3) := by decide +kernel
set_option maxRecDepth 100000 in
theorem d_30_15 : decode (mB 30) 15 = .ok (.aload_n 0, 1) := by decide +kernel
set_option maxRecDepth 100000 in
theorem d_30_16 : decode (mB 30) 16 = .ok (.new 16, 3) := by decide +kernel
set_option maxRecDepth 100000 in
theorem d_30_19 : decode (mB 30) 19 = .ok (.dup, 1) := by decide +kernel
set_option maxRecDepth 100000 in
theorem d_30_20 : decode (mB 30) 20 = .ok (.invokespecial 18, 3) := by decide +kernel
set_option maxRecDepth 100000 in
theorem d_30_23 : decode (mB 30) 23 = .ok (.putfield 19, 3) := by decide +kernel
set_option maxRecDepth 100000 in
theorem d_30_26 : decode (mB 30) 26 = .ok (.aload_n 0, 1) := by decide +kernel
set_option maxRecDepth 100000 in
theorem d_30_27 : decode (mB 30) 27 = .ok (.new 23, 3) := by decide +kernel
set_option maxRecDepth 100000 in
theorem d_30_30 : decode (mB 30) 30 = .ok (.dup, 1) := by decide +kernel
set_option maxRecDepth 100000 in
theorem d_30_31 : decode (mB 30) 31 = .ok (.invokespecial 25, 3) := by decide +kernel
set_option maxRecDepth 100000 in
theorem d_30_34 : decode (mB 30) 34 = .ok (.putfield 26, 3) := by decide +kernel
set_option maxRecDepth 100000 in
theorem d_30_37 : decode (mB 30) 37 = .ok (.aload_n 0, 1) := by decide +kernel
set_option maxRecDepth 100000 in
theorem d_30_38 : decode (mB 30) 38 = .ok (.new 30, 3) := by decide +kernel
set_option maxRecDepth 100000 in
theorem d_30_41 : decode (mB 30) 41 = .ok (.dup, 1) := by decide +kernel
set_option maxRecDepth 100000 in
theorem d_30_42 : decode (mB 30) 42 = .ok (.invokespecial 32, 3) := by decide +kernel
set_option maxRecDepth 100000 in
theorem d_30_45 : decode (mB 30) 45 = .ok (.putfield 33, 3) := by decide +kernel
set_option maxRecDepth 100000 in
theorem d_30_48 : decode (mB 30) 48 = .ok (.aload_n 0, 1) := by decide +kernel
set_option maxRecDepth 100000 in
theorem d_30_49 : decode (mB 30) 49 = .ok (.new 37, 3) := by decide +kernel
set_option maxRecDepth 100000 in
theorem d_30_52 : decode (mB 30) 52 = .ok (.dup, 1) := by decide +kernel
set_option maxRecDepth 100000 in
theorem d_30_53 : decode (mB 30) 53 = .ok (.invokespecial 39, 3) := by decide +kernel
set_option maxRecDepth 100000 in
theorem d_30_56 : decode (mB 30) 56 = .ok (.putfield 40, 3) := by decide +kernel
set_option maxRecDepth 100000 in
theorem d_30_59 : decode (mB 30) 59 = .ok (.aload_n 0, 1) := by decide +kernel
set_option maxRecDepth 100000 in
theorem d_30_60 : decode (mB 30) 60 = .ok (.new 44, 3) := by decide +kernel
set_option maxRecDepth 100000 in
theorem d_30_63 : decode (mB 30) 63 = .ok (.dup, 1) := by decide +kernel
set_option maxRecDepth 100000 in
theorem d_30_64 : decode (mB 30) 64 = .ok (.invokespecial 46, 3) := by decide +kernel
set_option maxRecDepth 100000 in
theorem d_30_67 : decode (mB 30) 67 = .ok (.putfield 47, 3) := by decide +kernel
set_option maxRecDepth 100000 in
theorem d_30_70 : decode (mB 30) 70 = .ok (.aload_n 0, 1) := by decide +kernel
set_option maxRecDepth 100000 in
theorem d_30_71 : decode (mB 30) 71 = .ok (.new 51, 3) := by decide +kernel
set_option maxRecDepth 100000 in
theorem d_30_74 : decode (mB 30) 74 = .ok (.dup, 1) := by decide +kernel
set_option maxRecDepth 100000 in
theorem d_30_75 : decode (mB 30) 75 = .ok (.invokespecial 53, 3) := by decide +kernel
set_option maxRecDepth 100000 in
theorem d_30_78 : decode (mB 30) 78 = .ok (.putfield 54, 3) := by decide +kernel
set_option maxRecDepth 100000 in
theorem d_30_81 : decode (mB 30) 81 = .ok (.return_, 1) := by decide +kernel
set_option maxRecDepth 100000 in
theorem fl_1_11 : flP "WhistleStop$Backward" 11 1 0 := ⟨_, rfl, by decide, okk_w (k := 660) (by decide +kernel)⟩
set_option maxRecDepth 100000 in
theorem fl_1_16 : flP "WhistleStop$Backward" 16 1 1 := ⟨_, rfl, by decide, okk_w (k := 661) (by decide +kernel)⟩
set_option maxRecDepth 100000 in
theorem oi_1 : okw (.methodLink "WhistleStop$Backward" 3 Lib.objectInit) := okk_w (k := 658) (by decide +kernel)
set_option maxRecDepth 100000 in
theorem cl_1_9 : okw (.classLink "WhistleStop$Backward" 9 "[[I") := okk_w (k := 659) (by decide +kernel)
set_option maxRecDepth 100000 in
theorem d_47_0 : decode (mB 47) 0 = .ok (.aload_n 0, 1) := by decide +kernel
set_option maxRecDepth 100000 in
theorem d_47_1 : decode (mB 47) 1 = .ok (.invokespecial 3, 3) := by decide +kernel
set_option maxRecDepth 100000 in
theorem d_47_4 : decode (mB 47) 4 = .ok (.aload_n 0, 1) := by decide +kernel
set_option maxRecDepth 100000 in
theorem d_47_5 : decode (mB 47) 5 = .ok (.bipush 7, 2) := by decide +kernel
set_option maxRecDepth 100000 in
theorem d_47_7 : decode (mB 47) 7 = .ok (.bipush 16, 2) := by decide +kernel
set_option maxRecDepth 100000 in
theorem d_47_9 : decode (mB 47) 9 = .ok (.multianewarray 9 2, 4) := by decide +kernel
set_option maxRecDepth 100000 in
theorem d_47_13 : decode (mB 47) 13 = .ok (.putfield 11, 3) := by decide +kernel
set_option maxRecDepth 100000 in
theorem d_47_16 : decode (mB 47) 16 = .ok (.aload_n 0, 1) := by decide +kernel
set_option maxRecDepth 100000 in
theorem d_47_17 : decode (mB 47) 17 = .ok (.bipush 7, 2) := by decide +kernel
set_option maxRecDepth 100000 in
theorem d_47_19 : decode (mB 47) 19 = .ok (.bipush 16, 2) := by decide +kernel
set_option maxRecDepth 100000 in
theorem d_47_21 : decode (mB 47) 21 = .ok (.multianewarray 9 2, 4) := by decide +kernel
set_option maxRecDepth 100000 in
theorem d_47_25 : decode (mB 47) 25 = .ok (.putfield 16, 3) := by decide +kernel
set_option maxRecDepth 100000 in
theorem d_47_28 : decode (mB 47) 28 = .ok (.return_, 1) := by decide +kernel
set_option maxRecDepth 100000 in
theorem oi_2 : okw (.methodLink "WhistleStop$Board" 3 Lib.objectInit) := okk_w (k := 626) (by decide +kernel)
set_option maxRecDepth 100000 in
theorem fl_2_9 : flP "WhistleStop$Board" 9 2 0 := ⟨_, rfl, by decide, okk_w (k := 627) (by decide +kernel)⟩
set_option maxRecDepth 100000 in
theorem d_48_0 : decode (mB 48) 0 = .ok (.aload_n 0, 1) := by decide +kernel
set_option maxRecDepth 100000 in
theorem d_48_1 : decode (mB 48) 1 = .ok (.invokespecial 3, 3) := by decide +kernel
set_option maxRecDepth 100000 in
theorem d_48_4 : decode (mB 48) 4 = .ok (.aload_n 0, 1) := by decide +kernel
set_option maxRecDepth 100000 in
theorem d_48_5 : decode (mB 48) 5 = .ok (.sipush 1344, 3) := by decide +kernel
set_option maxRecDepth 100000 in
theorem d_48_8 : decode (mB 48) 8 = .ok (.newarray .long, 2) := by decide +kernel
set_option maxRecDepth 100000 in
theorem d_48_10 : decode (mB 48) 10 = .ok (.putfield 9, 3) := by decide +kernel
set_option maxRecDepth 100000 in
theorem d_48_13 : decode (mB 48) 13 = .ok (.return_, 1) := by decide +kernel
set_option maxRecDepth 100000 in
theorem fl_4_17 : flP "WhistleStop$Fares" 17 4 1 := ⟨_, rfl, by decide, okk_w (k := 697) (by decide +kernel)⟩
set_option maxRecDepth 100000 in
theorem fl_4_11 : flP "WhistleStop$Fares" 11 4 0 := ⟨_, rfl, by decide, okk_w (k := 696) (by decide +kernel)⟩
set_option maxRecDepth 100000 in
theorem oi_4 : okw (.methodLink "WhistleStop$Fares" 3 Lib.objectInit) := okk_w (k := 678) (by decide +kernel)
set_option maxRecDepth 100000 in
theorem cl_4_9 : okw (.classLink "WhistleStop$Fares" 9 "WhistleStop$Offers") := okk_w (k := 679) (by decide +kernel)
set_option maxRecDepth 100000 in
theorem c_56_20 : cinP 56 20 79 0 := ⟨cd_79, ⟨"WhistleStop", okk_w (k := 681) (by decide +kernel)⟩, okk_w (k := 682) (by decide +kernel), by decide +kernel, by decide +kernel, by decide +kernel⟩
set_option maxRecDepth 100000 in
theorem d_56_0 : decode (mB 56) 0 = .ok (.aload_n 0, 1) := by decide +kernel
set_option maxRecDepth 100000 in
theorem d_56_1 : decode (mB 56) 1 = .ok (.invokespecial 3, 3) := by decide +kernel
set_option maxRecDepth 100000 in
theorem d_56_4 : decode (mB 56) 4 = .ok (.aload_n 0, 1) := by decide +kernel
set_option maxRecDepth 100000 in
theorem d_56_5 : decode (mB 56) 5 = .ok (.bipush 16, 2) := by decide +kernel
set_option maxRecDepth 100000 in
theorem d_56_7 : decode (mB 56) 7 = .ok (.anewarray 9, 3) := by decide +kernel
set_option maxRecDepth 100000 in
theorem d_56_10 : decode (mB 56) 10 = .ok (.putfield 11, 3) := by decide +kernel
set_option maxRecDepth 100000 in
theorem d_56_13 : decode (mB 56) 13 = .ok (.aload_n 0, 1) := by decide +kernel
set_option maxRecDepth 100000 in
theorem d_56_14 : decode (mB 56) 14 = .ok (.bipush 16, 2) := by decide +kernel
set_option maxRecDepth 100000 in
theorem d_56_16 : decode (mB 56) 16 = .ok (.anewarray 9, 3) := by decide +kernel
set_option maxRecDepth 100000 in
theorem d_56_19 : decode (mB 56) 19 = .ok (.putfield 17, 3) := by decide +kernel
set_option maxRecDepth 100000 in
theorem d_56_22 : decode (mB 56) 22 = .ok (.iconst 0, 1) := by decide +kernel
set_option maxRecDepth 100000 in
theorem d_56_23 : decode (mB 56) 23 = .ok (.istore_n 1, 1) := by decide +kernel
set_option maxRecDepth 100000 in
theorem d_56_24 : decode (mB 56) 24 = .ok (.iload_n 1, 1) := by decide +kernel
set_option maxRecDepth 100000 in
theorem d_56_25 : decode (mB 56) 25 = .ok (.bipush 16, 2) := by decide +kernel
set_option maxRecDepth 100000 in
theorem d_56_27 : decode (mB 56) 27 = .ok (.if_icmp .ge 35, 3) := by decide +kernel
set_option maxRecDepth 100000 in
theorem d_56_30 : decode (mB 56) 30 = .ok (.aload_n 0, 1) := by decide +kernel
set_option maxRecDepth 100000 in
theorem d_56_31 : decode (mB 56) 31 = .ok (.getfield 11, 3) := by decide +kernel
set_option maxRecDepth 100000 in
theorem d_56_34 : decode (mB 56) 34 = .ok (.iload_n 1, 1) := by decide +kernel
set_option maxRecDepth 100000 in
theorem d_56_35 : decode (mB 56) 35 = .ok (.new 9, 3) := by decide +kernel
set_option maxRecDepth 100000 in
theorem d_56_38 : decode (mB 56) 38 = .ok (.dup, 1) := by decide +kernel
set_option maxRecDepth 100000 in
theorem d_56_39 : decode (mB 56) 39 = .ok (.invokespecial 20, 3) := by decide +kernel
set_option maxRecDepth 100000 in
theorem d_56_42 : decode (mB 56) 42 = .ok (.aastore, 1) := by decide +kernel
set_option maxRecDepth 100000 in
theorem d_56_43 : decode (mB 56) 43 = .ok (.aload_n 0, 1) := by decide +kernel
set_option maxRecDepth 100000 in
theorem d_56_44 : decode (mB 56) 44 = .ok (.getfield 17, 3) := by decide +kernel
set_option maxRecDepth 100000 in
theorem d_56_47 : decode (mB 56) 47 = .ok (.iload_n 1, 1) := by decide +kernel
set_option maxRecDepth 100000 in
theorem d_56_48 : decode (mB 56) 48 = .ok (.new 9, 3) := by decide +kernel
set_option maxRecDepth 100000 in
theorem d_56_51 : decode (mB 56) 51 = .ok (.dup, 1) := by decide +kernel
set_option maxRecDepth 100000 in
theorem d_56_52 : decode (mB 56) 52 = .ok (.invokespecial 20, 3) := by decide +kernel
set_option maxRecDepth 100000 in
theorem d_56_55 : decode (mB 56) 55 = .ok (.aastore, 1) := by decide +kernel
set_option maxRecDepth 100000 in
theorem d_56_56 : decode (mB 56) 56 = .ok (.iinc 1 1, 3) := by decide +kernel
set_option maxRecDepth 100000 in
theorem d_56_59 : decode (mB 56) 59 = .ok (.goto (-35), 3) := by decide +kernel
set_option maxRecDepth 100000 in
theorem d_56_62 : decode (mB 56) 62 = .ok (.return_, 1) := by decide +kernel
set_option maxRecDepth 100000 in
theorem fl_6_27 : flP "WhistleStop$Journey" 27 6 9 := ⟨_, rfl, by decide, okk_w (k := 729) (by decide +kernel)⟩
set_option maxRecDepth 100000 in
theorem fl_6_33 : flP "WhistleStop$Journey" 33 6 11 := ⟨_, rfl, by decide, okk_w (k := 733) (by decide +kernel)⟩
set_option maxRecDepth 100000 in
theorem fl_6_11 : flP "WhistleStop$Journey" 11 6 5 := ⟨_, rfl, by decide, okk_w (k := 725) (by decide +kernel)⟩
set_option maxRecDepth 100000 in
theorem fl_6_17 : flP "WhistleStop$Journey" 17 6 6 := ⟨_, rfl, by decide, okk_w (k := 726) (by decide +kernel)⟩
set_option maxRecDepth 100000 in
theorem fl_6_21 : flP "WhistleStop$Journey" 21 6 7 := ⟨_, rfl, by decide, okk_w (k := 727) (by decide +kernel)⟩
set_option maxRecDepth 100000 in
theorem fl_6_24 : flP "WhistleStop$Journey" 24 6 8 := ⟨_, rfl, by decide, okk_w (k := 728) (by decide +kernel)⟩
set_option maxRecDepth 100000 in
theorem fl_6_30 : flP "WhistleStop$Journey" 30 6 10 := ⟨_, rfl, by decide, okk_w (k := 731) (by decide +kernel)⟩
set_option maxRecDepth 100000 in
theorem oi_6 : okw (.methodLink "WhistleStop$Journey" 3 Lib.objectInit) := okk_w (k := 716) (by decide +kernel)
set_option maxRecDepth 100000 in
theorem cl_6_9 : okw (.classLink "WhistleStop$Journey" 9 "WhistleStop$Trip") := okk_w (k := 717) (by decide +kernel)
set_option maxRecDepth 100000 in
theorem d_73_0 : decode (mB 73) 0 = .ok (.aload_n 0, 1) := by decide +kernel
set_option maxRecDepth 100000 in
theorem d_73_1 : decode (mB 73) 1 = .ok (.invokespecial 3, 3) := by decide +kernel
set_option maxRecDepth 100000 in
theorem d_73_4 : decode (mB 73) 4 = .ok (.aload_n 0, 1) := by decide +kernel
set_option maxRecDepth 100000 in
theorem d_73_5 : decode (mB 73) 5 = .ok (.bipush 13, 2) := by decide +kernel
set_option maxRecDepth 100000 in
theorem d_73_7 : decode (mB 73) 7 = .ok (.anewarray 9, 3) := by decide +kernel
set_option maxRecDepth 100000 in
theorem d_73_10 : decode (mB 73) 10 = .ok (.putfield 11, 3) := by decide +kernel
set_option maxRecDepth 100000 in
theorem d_73_13 : decode (mB 73) 13 = .ok (.aload_n 0, 1) := by decide +kernel
set_option maxRecDepth 100000 in
theorem d_73_14 : decode (mB 73) 14 = .ok (.bipush 13, 2) := by decide +kernel
set_option maxRecDepth 100000 in
theorem d_73_16 : decode (mB 73) 16 = .ok (.newarray .int, 2) := by decide +kernel
set_option maxRecDepth 100000 in
theorem d_73_18 : decode (mB 73) 18 = .ok (.putfield 17, 3) := by decide +kernel
set_option maxRecDepth 100000 in
theorem d_73_21 : decode (mB 73) 21 = .ok (.aload_n 0, 1) := by decide +kernel
set_option maxRecDepth 100000 in
theorem d_73_22 : decode (mB 73) 22 = .ok (.bipush 13, 2) := by decide +kernel
set_option maxRecDepth 100000 in
theorem d_73_24 : decode (mB 73) 24 = .ok (.newarray .int, 2) := by decide +kernel
set_option maxRecDepth 100000 in
theorem d_73_26 : decode (mB 73) 26 = .ok (.putfield 21, 3) := by decide +kernel
set_option maxRecDepth 100000 in
theorem d_73_29 : decode (mB 73) 29 = .ok (.aload_n 0, 1) := by decide +kernel
set_option maxRecDepth 100000 in
theorem d_73_30 : decode (mB 73) 30 = .ok (.bipush 13, 2) := by decide +kernel
set_option maxRecDepth 100000 in
theorem d_73_32 : decode (mB 73) 32 = .ok (.newarray .int, 2) := by decide +kernel
set_option maxRecDepth 100000 in
theorem d_73_34 : decode (mB 73) 34 = .ok (.putfield 24, 3) := by decide +kernel
set_option maxRecDepth 100000 in
theorem d_73_37 : decode (mB 73) 37 = .ok (.aload_n 0, 1) := by decide +kernel
set_option maxRecDepth 100000 in
theorem d_73_38 : decode (mB 73) 38 = .ok (.bipush 13, 2) := by decide +kernel
set_option maxRecDepth 100000 in
theorem d_73_40 : decode (mB 73) 40 = .ok (.newarray .int, 2) := by decide +kernel
set_option maxRecDepth 100000 in
theorem d_73_42 : decode (mB 73) 42 = .ok (.putfield 27, 3) := by decide +kernel
set_option maxRecDepth 100000 in
theorem d_73_45 : decode (mB 73) 45 = .ok (.aload_n 0, 1) := by decide +kernel
set_option maxRecDepth 100000 in
theorem d_73_46 : decode (mB 73) 46 = .ok (.bipush 13, 2) := by decide +kernel
set_option maxRecDepth 100000 in
theorem d_73_48 : decode (mB 73) 48 = .ok (.newarray .int, 2) := by decide +kernel
set_option maxRecDepth 100000 in
theorem d_73_50 : decode (mB 73) 50 = .ok (.putfield 30, 3) := by decide +kernel
set_option maxRecDepth 100000 in
theorem d_73_53 : decode (mB 73) 53 = .ok (.aload_n 0, 1) := by decide +kernel
set_option maxRecDepth 100000 in
theorem d_73_54 : decode (mB 73) 54 = .ok (.bipush 13, 2) := by decide +kernel
set_option maxRecDepth 100000 in
theorem d_73_56 : decode (mB 73) 56 = .ok (.newarray .int, 2) := by decide +kernel
set_option maxRecDepth 100000 in
theorem d_73_58 : decode (mB 73) 58 = .ok (.putfield 33, 3) := by decide +kernel
set_option maxRecDepth 100000 in
theorem d_73_61 : decode (mB 73) 61 = .ok (.return_, 1) := by decide +kernel
set_option maxRecDepth 100000 in
theorem oi_7 : okw (.methodLink "WhistleStop$Network" 3 Lib.objectInit) := okk_w (k := 537) (by decide +kernel)
set_option maxRecDepth 100000 in
theorem fl_7_9 : flP "WhistleStop$Network" 9 7 0 := ⟨_, rfl, by decide, okk_w (k := 544) (by decide +kernel)⟩
set_option maxRecDepth 100000 in
theorem cl_7_15 : okw (.classLink "WhistleStop$Network" 15 "WhistleStop$Footway") := okk_w (k := 538) (by decide +kernel)
set_option maxRecDepth 100000 in
theorem fl_7_17 : flP "WhistleStop$Network" 17 7 1 := ⟨_, rfl, by decide, okk_w (k := 550) (by decide +kernel)⟩
set_option maxRecDepth 100000 in
theorem cl_7_21 : okw (.classLink "WhistleStop$Network" 21 "WhistleStop$Calendar") := okk_w (k := 540) (by decide +kernel)
set_option maxRecDepth 100000 in
theorem fl_7_23 : flP "WhistleStop$Network" 23 7 2 := ⟨_, rfl, by decide, okk_w (k := 556) (by decide +kernel)⟩
set_option maxRecDepth 100000 in
theorem cl_7_27 : okw (.classLink "WhistleStop$Network" 27 "WhistleStop$Trip") := okk_w (k := 542) (by decide +kernel)
set_option maxRecDepth 100000 in
theorem fl_7_29 : flP "WhistleStop$Network" 29 7 3 := ⟨_, rfl, by decide, okk_w (k := 558) (by decide +kernel)⟩
set_option maxRecDepth 100000 in
theorem d_74_0 : decode (mB 74) 0 = .ok (.aload_n 0, 1) := by decide +kernel
set_option maxRecDepth 100000 in
theorem d_74_1 : decode (mB 74) 1 = .ok (.invokespecial 3, 3) := by decide +kernel
set_option maxRecDepth 100000 in
theorem d_74_4 : decode (mB 74) 4 = .ok (.aload_n 0, 1) := by decide +kernel
set_option maxRecDepth 100000 in
theorem d_74_5 : decode (mB 74) 5 = .ok (.bipush 16, 2) := by decide +kernel
set_option maxRecDepth 100000 in
theorem d_74_7 : decode (mB 74) 7 = .ok (.newarray .int, 2) := by decide +kernel
set_option maxRecDepth 100000 in
theorem d_74_9 : decode (mB 74) 9 = .ok (.putfield 9, 3) := by decide +kernel
set_option maxRecDepth 100000 in
theorem d_74_12 : decode (mB 74) 12 = .ok (.aload_n 0, 1) := by decide +kernel
set_option maxRecDepth 100000 in
theorem d_74_13 : decode (mB 74) 13 = .ok (.bipush 20, 2) := by decide +kernel
set_option maxRecDepth 100000 in
theorem d_74_15 : decode (mB 74) 15 = .ok (.anewarray 15, 3) := by decide +kernel
set_option maxRecDepth 100000 in
theorem d_74_18 : decode (mB 74) 18 = .ok (.putfield 17, 3) := by decide +kernel
set_option maxRecDepth 100000 in
theorem d_74_21 : decode (mB 74) 21 = .ok (.aload_n 0, 1) := by decide +kernel
set_option maxRecDepth 100000 in
theorem d_74_22 : decode (mB 74) 22 = .ok (.bipush 6, 2) := by decide +kernel
set_option maxRecDepth 100000 in
theorem d_74_24 : decode (mB 74) 24 = .ok (.anewarray 21, 3) := by decide +kernel
set_option maxRecDepth 100000 in
theorem d_74_27 : decode (mB 74) 27 = .ok (.putfield 23, 3) := by decide +kernel
set_option maxRecDepth 100000 in
theorem d_74_30 : decode (mB 74) 30 = .ok (.aload_n 0, 1) := by decide +kernel
set_option maxRecDepth 100000 in
theorem d_74_31 : decode (mB 74) 31 = .ok (.bipush 24, 2) := by decide +kernel
set_option maxRecDepth 100000 in
theorem d_74_33 : decode (mB 74) 33 = .ok (.anewarray 27, 3) := by decide +kernel
set_option maxRecDepth 100000 in
theorem d_74_36 : decode (mB 74) 36 = .ok (.putfield 29, 3) := by decide +kernel
set_option maxRecDepth 100000 in
theorem d_74_39 : decode (mB 74) 39 = .ok (.return_, 1) := by decide +kernel
set_option maxRecDepth 100000 in
theorem fl_8_11 : flP "WhistleStop$Offers" 11 8 0 := ⟨_, rfl, by decide, okk_w (k := 685) (by decide +kernel)⟩
set_option maxRecDepth 100000 in
theorem fl_8_15 : flP "WhistleStop$Offers" 15 8 1 := ⟨_, rfl, by decide, okk_w (k := 686) (by decide +kernel)⟩
set_option maxRecDepth 100000 in
theorem oi_8 : okw (.methodLink "WhistleStop$Offers" 3 Lib.objectInit) := okk_w (k := 684) (by decide +kernel)
set_option maxRecDepth 100000 in
theorem d_79_0 : decode (mB 79) 0 = .ok (.aload_n 0, 1) := by decide +kernel
set_option maxRecDepth 100000 in
theorem d_79_1 : decode (mB 79) 1 = .ok (.invokespecial 3, 3) := by decide +kernel
set_option maxRecDepth 100000 in
theorem d_79_4 : decode (mB 79) 4 = .ok (.aload_n 0, 1) := by decide +kernel
set_option maxRecDepth 100000 in
theorem d_79_5 : decode (mB 79) 5 = .ok (.bipush 16, 2) := by decide +kernel
set_option maxRecDepth 100000 in
theorem d_79_7 : decode (mB 79) 7 = .ok (.newarray .int, 2) := by decide +kernel
set_option maxRecDepth 100000 in
theorem d_79_9 : decode (mB 79) 9 = .ok (.putfield 11, 3) := by decide +kernel
set_option maxRecDepth 100000 in
theorem d_79_12 : decode (mB 79) 12 = .ok (.aload_n 0, 1) := by decide +kernel
set_option maxRecDepth 100000 in
theorem d_79_13 : decode (mB 79) 13 = .ok (.bipush 16, 2) := by decide +kernel
set_option maxRecDepth 100000 in
theorem d_79_15 : decode (mB 79) 15 = .ok (.newarray .int, 2) := by decide +kernel
set_option maxRecDepth 100000 in
theorem d_79_17 : decode (mB 79) 17 = .ok (.putfield 15, 3) := by decide +kernel
set_option maxRecDepth 100000 in
theorem d_79_20 : decode (mB 79) 20 = .ok (.return_, 1) := by decide +kernel
set_option maxRecDepth 100000 in
theorem fl_9_11 : flP "WhistleStop$Onward" 11 9 0 := ⟨_, rfl, by decide, okk_w (k := 641) (by decide +kernel)⟩
set_option maxRecDepth 100000 in
theorem fl_9_16 : flP "WhistleStop$Onward" 16 9 1 := ⟨_, rfl, by decide, okk_w (k := 642) (by decide +kernel)⟩
set_option maxRecDepth 100000 in
theorem fl_9_19 : flP "WhistleStop$Onward" 19 9 2 := ⟨_, rfl, by decide, okk_w (k := 643) (by decide +kernel)⟩
set_option maxRecDepth 100000 in
theorem oi_9 : okw (.methodLink "WhistleStop$Onward" 3 Lib.objectInit) := okk_w (k := 638) (by decide +kernel)
set_option maxRecDepth 100000 in
theorem cl_9_9 : okw (.classLink "WhistleStop$Onward" 9 "[[I") := okk_w (k := 639) (by decide +kernel)
set_option maxRecDepth 100000 in
theorem d_90_0 : decode (mB 90) 0 = .ok (.aload_n 0, 1) := by decide +kernel
set_option maxRecDepth 100000 in
theorem d_90_1 : decode (mB 90) 1 = .ok (.invokespecial 3, 3) := by decide +kernel
set_option maxRecDepth 100000 in
theorem d_90_4 : decode (mB 90) 4 = .ok (.aload_n 0, 1) := by decide +kernel
set_option maxRecDepth 100000 in
theorem d_90_5 : decode (mB 90) 5 = .ok (.bipush 7, 2) := by decide +kernel
set_option maxRecDepth 100000 in
theorem d_90_7 : decode (mB 90) 7 = .ok (.bipush 16, 2) := by decide +kernel
set_option maxRecDepth 100000 in
theorem d_90_9 : decode (mB 90) 9 = .ok (.multianewarray 9 2, 4) := by decide +kernel
set_option maxRecDepth 100000 in
theorem d_90_13 : decode (mB 90) 13 = .ok (.putfield 11, 3) := by decide +kernel
set_option maxRecDepth 100000 in
theorem d_90_16 : decode (mB 90) 16 = .ok (.aload_n 0, 1) := by decide +kernel
set_option maxRecDepth 100000 in
theorem d_90_17 : decode (mB 90) 17 = .ok (.bipush 7, 2) := by decide +kernel
set_option maxRecDepth 100000 in
theorem d_90_19 : decode (mB 90) 19 = .ok (.bipush 16, 2) := by decide +kernel
set_option maxRecDepth 100000 in
theorem d_90_21 : decode (mB 90) 21 = .ok (.multianewarray 9 2, 4) := by decide +kernel
set_option maxRecDepth 100000 in
theorem d_90_25 : decode (mB 90) 25 = .ok (.putfield 16, 3) := by decide +kernel
set_option maxRecDepth 100000 in
theorem d_90_28 : decode (mB 90) 28 = .ok (.aload_n 0, 1) := by decide +kernel
set_option maxRecDepth 100000 in
theorem d_90_29 : decode (mB 90) 29 = .ok (.bipush 16, 2) := by decide +kernel
set_option maxRecDepth 100000 in
theorem d_90_31 : decode (mB 90) 31 = .ok (.newarray .int, 2) := by decide +kernel
set_option maxRecDepth 100000 in
theorem d_90_33 : decode (mB 90) 33 = .ok (.putfield 19, 3) := by decide +kernel
set_option maxRecDepth 100000 in
theorem d_90_36 : decode (mB 90) 36 = .ok (.return_, 1) := by decide +kernel
set_option maxRecDepth 100000 in
theorem fl_10_11 : flP "WhistleStop$Runs" 11 10 0 := ⟨_, rfl, by decide, okk_w (k := 595) (by decide +kernel)⟩
set_option maxRecDepth 100000 in
theorem fl_10_17 : flP "WhistleStop$Runs" 17 10 1 := ⟨_, rfl, by decide, okk_w (k := 600) (by decide +kernel)⟩
set_option maxRecDepth 100000 in
theorem fl_10_21 : flP "WhistleStop$Runs" 21 10 2 := ⟨_, rfl, by decide, okk_w (k := 602) (by decide +kernel)⟩
set_option maxRecDepth 100000 in
theorem oi_10 : okw (.methodLink "WhistleStop$Runs" 3 Lib.objectInit) := okk_w (k := 593) (by decide +kernel)
set_option maxRecDepth 100000 in
theorem cl_10_9 : okw (.classLink "WhistleStop$Runs" 9 "WhistleStop$Trip") := okk_w (k := 594) (by decide +kernel)
set_option maxRecDepth 100000 in
theorem d_93_0 : decode (mB 93) 0 = .ok (.aload_n 0, 1) := by decide +kernel
set_option maxRecDepth 100000 in
theorem d_93_1 : decode (mB 93) 1 = .ok (.invokespecial 3, 3) := by decide +kernel
set_option maxRecDepth 100000 in
theorem d_93_4 : decode (mB 93) 4 = .ok (.aload_n 0, 1) := by decide +kernel
set_option maxRecDepth 100000 in
theorem d_93_5 : decode (mB 93) 5 = .ok (.sipush 192, 3) := by decide +kernel
set_option maxRecDepth 100000 in
theorem d_93_8 : decode (mB 93) 8 = .ok (.anewarray 9, 3) := by decide +kernel
set_option maxRecDepth 100000 in
theorem d_93_11 : decode (mB 93) 11 = .ok (.putfield 11, 3) := by decide +kernel
set_option maxRecDepth 100000 in
theorem d_93_14 : decode (mB 93) 14 = .ok (.aload_n 0, 1) := by decide +kernel
set_option maxRecDepth 100000 in
theorem d_93_15 : decode (mB 93) 15 = .ok (.sipush 192, 3) := by decide +kernel
set_option maxRecDepth 100000 in
theorem d_93_18 : decode (mB 93) 18 = .ok (.newarray .int, 2) := by decide +kernel
set_option maxRecDepth 100000 in
theorem d_93_20 : decode (mB 93) 20 = .ok (.putfield 17, 3) := by decide +kernel
set_option maxRecDepth 100000 in
theorem d_93_23 : decode (mB 93) 23 = .ok (.aload_n 0, 1) := by decide +kernel
set_option maxRecDepth 100000 in
theorem d_93_24 : decode (mB 93) 24 = .ok (.sipush 192, 3) := by decide +kernel
set_option maxRecDepth 100000 in
theorem d_93_27 : decode (mB 93) 27 = .ok (.newarray .int, 2) := by decide +kernel
set_option maxRecDepth 100000 in
theorem d_93_29 : decode (mB 93) 29 = .ok (.putfield 21, 3) := by decide +kernel
set_option maxRecDepth 100000 in
theorem d_93_32 : decode (mB 93) 32 = .ok (.return_, 1) := by decide +kernel
set_option maxRecDepth 100000 in
theorem ca_100 : okw (.arrayClass (AT 100)) := okk_w (k := 329) (by decide +kernel)
set_option maxRecDepth 100000 in
theorem ca_101 : okw (.arrayClass (AT 101)) := okk_w (k := 633) (by decide +kernel)
set_option maxRecDepth 100000 in
theorem ca_104 : okw (.arrayOver (AT 104)) := okk_w (k := 539) (by decide +kernel)
set_option maxRecDepth 100000 in
theorem ca_105 : okw (.arrayOver (AT 105)) := okk_w (k := 541) (by decide +kernel)
set_option maxRecDepth 100000 in
theorem ca_106 : okw (.arrayOver (AT 106)) := okk_w (k := 543) (by decide +kernel)
set_option maxRecDepth 100000 in
theorem ca_103 : okw (.arrayOver (AT 103)) := okk_w (k := 640) (by decide +kernel)
set_option maxRecDepth 100000 in
theorem ca_107 : okw (.arrayOver (AT 107)) := okk_w (k := 680) (by decide +kernel)
set_option maxRecDepth 100000 in
theorem co_code : okw (.instanceMethod Lib.objectInit) ∧ okw (.code Lib.objectInit ⟨#[0xb1]⟩ 1 none) := ⟨okk_w (k := 91) (by decide +kernel), okk_w (k := 92) (by decide +kernel)⟩
end
section
/-! ===== the constructors: what a new object is ===== -/
/-- the cell a is as it was -/
def eqA (h h' : Hp) (a : Nat) : Prop := kd h' a = kd h a ∧ ln h' a = ln h a ∧ (∀ k, hi h' a k = hi h a k) ∧ (∀ k, hr h' a k = hr h a k) ∧ (∀ k, hl h' a k = hl h a k)
theorem eqA.trans {h h1 h2 : Hp} {a : Nat} (k1 : eqA h h1 a) (k2 : eqA h1 h2 a) : eqA h h2 a :=
  ⟨k2.1.trans k1.1, k2.2.1.trans k1.2.1, fun k => (k2.2.2.1 k).trans (k1.2.2.1 k), fun k => (k2.2.2.2.1 k).trans (k1.2.2.2.1 k), fun k => (k2.2.2.2.2 k).trans (k1.2.2.2.2 k)⟩
theorem eqA.rfl {h : Hp} {a : Nat} : eqA h h a := ⟨Eq.refl _, Eq.refl _, fun _ => Eq.refl _, fun _ => Eq.refl _, fun _ => Eq.refl _⟩
/-- an int array of zeros -/
def zA (h : Hp) (a : Nat) (n : Int) : Prop := kd h a = 100 ∧ ln h a = n ∧ ∀ k, hi h a k = 0
theorem zA.kept {h h' : Hp} {a : Nat} {n : Int} (k : zA h a n) (e : eqA h h' a) : zA h' a n := ⟨e.1.trans k.1, e.2.1.trans k.2.1, fun j => (e.2.2.1 j).trans (k.2.2 j)⟩
/-- an array of references, all null -/
def nA (h : Hp) (a K : Nat) (n : Int) : Prop := kd h a = K ∧ ln h a = n ∧ ∀ k, hr h a k = none
theorem nA.kept {h h' : Hp} {a K : Nat} {n : Int} (k : nA h a K n) (e : eqA h h' a) : nA h' a K n := ⟨e.1.trans k.1, e.2.1.trans k.2.1, fun j => (e.2.2.2.1 j).trans (k.2.2 j)⟩
/-- rows of zeros: the outer at a, the rows behind it -/
def mA (h : Hp) (a : Nat) (n k : Int) : Prop := kd h a = 103 ∧ ln h a = n ∧ (∀ j : Int, 0 ≤ j → j < n → hr h a j = some (a + 1 + j.toNat)) ∧ ∀ j : Nat, (j : Int) < n → zA h (a + 1 + j) k
theorem mA.kept {h h' : Hp} {a : Nat} {n k : Int} (q : mA h a n k) (e : ∀ b, a ≤ b → (b : Int) ≤ a + n → eqA h h' b) (hn : 0 ≤ n) : mA h' a n k :=
  ⟨(e a (Nat.le_refl _) (by omega)).1.trans q.1, (e a (Nat.le_refl _) (by omega)).2.1.trans q.2.1, fun j h0 h1 => ((e a (Nat.le_refl _) (by omega)).2.2.2.1 j).trans (q.2.2.1 j h0 h1), fun j hj => (q.2.2.2 j hj).kept (e _ (by omega) (by omega))⟩
theorem mA_of (h : Hp) (n k : Int) : mA (mkM h n k) (nx h) n k := by
  refine ⟨by rw [kd_mkM, if_pos rfl], by rw [ln_mkM, if_pos rfl], fun j h0 h1 => ?_, fun j hj => ⟨?_, ?_, fun q => ?_⟩⟩
  · rw [hr_mkM, if_pos rfl]
    show (if 0 ≤ j ∧ j < n then _ else _) = _
    rw [if_pos ⟨h0, h1⟩]
  · rw [kd_mkM, if_neg (by omega), if_pos (by omega)]
  · rw [ln_mkM, if_neg (by omega), if_pos (by omega)]
  · rw [hi_mkM, if_pos (by omega)]
theorem eqA_mkM {h : Hp} {n k : Int} {a : Nat} (ha : a < nx h) : eqA h (mkM h n k) a := by
  refine ⟨?_, ?_, fun q => ?_, fun q => ?_, fun q => ?_⟩
  · rw [kd_mkM, if_neg (by omega), if_neg (by omega)]
  · rw [ln_mkM, if_neg (by omega), if_neg (by omega)]
  · rw [hi_mkM, if_neg (by omega)]
  · rw [hr_mkM, if_neg (by omega), if_neg (by omega)]
  · rw [hl_mkM, if_neg (by omega)]
theorem eqA_mkO {h : Hp} {K : Nat} {n : Int} {a : Nat} (ha : a < nx h) : eqA h (mkO h K n) a := by
  have hne : ¬ a = nx h := by omega
  exact ⟨by rw [kd_mkO, up1_ne _ _ hne], by rw [ln_mkO, up1_ne _ _ hne], fun q => by rw [hi_mkO, up1_ne _ _ hne], fun q => by rw [hr_mkO, up1_ne _ _ hne], fun q => by rw [hl_mkO, up1_ne _ _ hne]⟩
theorem eqA_setR {h : Hp} {a b : Nat} {k : Int} {v : Option Nat} (hb : b ≠ a) : eqA h (setR h a k v) b := ⟨rfl, rfl, fun _ => rfl, fun _ => by rw [hr_setR, up2_ne _ _ (fun q => hb q.1)], fun _ => rfl⟩
theorem eqA_setI {h : Hp} {a b : Nat} {k v : Int} (hb : b ≠ a) : eqA h (setI h a k v) b := ⟨rfl, rfl, fun _ => by rw [hi_setI, up2_ne _ _ (fun q => hb q.1)], fun _ => rfl, fun _ => rfl⟩
theorem zA_mkO {h : Hp} {n : Int} : zA (mkO h 100 n) (nx h) n := ⟨by rw [kd_mkO, up1_same], by rw [ln_mkO, up1_same], fun k => by rw [hi_mkO, up1_same]⟩
theorem nA_mkO {h : Hp} {K : Nat} {n : Int} : nA (mkO h K n) (nx h) K n := ⟨by rw [kd_mkO, up1_same], by rw [ln_mkO, up1_same], fun k => by rw [hr_mkO, up1_same]⟩
theorem zA_setR {h : Hp} {a b : Nat} {n k : Int} {v : Option Nat} (q : zA h a n) : zA (setR h b k v) a n := q
theorem mA_setR {h : Hp} {a b : Nat} {n k j : Int} {v : Option Nat} (q : mA h a n k) (hb : a ≠ b) : mA (setR h b j v) a n k := ⟨q.1, q.2.1, fun i h0 h1 => by rw [hr_setR, up2_ne _ _ (fun z => hb z.1)]; exact q.2.2.1 i h0 h1, q.2.2.2⟩

/-- Offers at a: times, prices behind it -/
def OffN (h : Hp) (a : Nat) : Prop := kd h a = 9 ∧ hr h a 0 = some (a + 1) ∧ hr h a 1 = some (a + 2) ∧ hi h a 2 = 0 ∧ zA h (a + 1) 16 ∧ zA h (a + 2) 16
theorem OffN.kept {h h' : Hp} {a : Nat} (q : OffN h a) (e : ∀ b, a ≤ b → b ≤ a + 2 → eqA h h' b) : OffN h' a :=
  have e0 := e a (Nat.le_refl _) (by omega)
  ⟨e0.1.trans q.1, (e0.2.2.2.1 _).trans q.2.1, (e0.2.2.2.1 _).trans q.2.2.1, (e0.2.2.1 _).trans q.2.2.2.1, q.2.2.2.2.1.kept (e _ (by omega) (by omega)), q.2.2.2.2.2.kept (e _ (by omega) (by omega))⟩
set_option maxRecDepth 100000 in
set_option maxHeartbeats 4000000 in
theorem s_Offers {a : Nat} {h : Hp} (hk : kd h a = 9) (hz : ∀ k, hi h a k = 0) (hn : nx h = a + 1) (r1 : nx h + 2 ≤ cn h) (r2 : us h + 32 ≤ cs h) : wp 79 0 (entL [vR (some a)] (mL 79)) [] h (fun v h' => v = none ∧ OffN h' a ∧ nx h' = a + 3 ∧ us h' = us h + 32 ∧ cn h' = cn h ∧ cs h' = cs h ∧ ∀ b, b < a → eqA h h' b) noX := by
  refine wp_aload_n d_79_0 (by rfl) ?_
  refine wp_objInit d_79_1 oi_8 co_code ⟨Nat.le_of_ble_eq_true rfl, Nat.le_of_ble_eq_true rfl⟩ ?_
  refine wp_aload_n d_79_4 (by rfl) ?_
  refine wp_bipush d_79_5 (by decide) ?_
  refine wp_newa (K := 100) d_79_7 rfl (by decide) ca_100 rfl (by omega) (by omega) (by decide) (by first | omega | (simp [kd_setI, ln_setI, hi_setI, hr_setI, hl_setI, nx_setI, us_setI, cn_setI, cs_setI, kd_setR, ln_setR, hi_setR, hr_setR, hl_setR, nx_setR, us_setR, cn_setR, cs_setR, kd_setL, ln_setL, hi_setL, hr_setL, hl_setL, nx_setL, us_setL, cn_setL, cs_setL, kd_mkO, ln_mkO, hi_mkO, hr_mkO, hl_mkO, nx_mkO, us_mkO, cn_mkO, cs_mkO]; omega)) (by first | omega | (simp [kd_setI, ln_setI, hi_setI, hr_setI, hl_setI, nx_setI, us_setI, cn_setI, cs_setI, kd_setR, ln_setR, hi_setR, hr_setR, hl_setR, nx_setR, us_setR, cn_setR, cs_setR, kd_setL, ln_setL, hi_setL, hr_setL, hl_setL, nx_setL, us_setL, cn_setL, cs_setL, kd_mkO, ln_mkO, hi_mkO, hr_mkO, hl_mkO, nx_mkO, us_mkO, cn_mkO, cs_mkO]; omega)) ?_
  refine wp_putR (0) d_79_9 fl_8_11 rfl rfl (Or.inl (by rfl)) (by simp [kd_setI, ln_setI, hi_setI, hr_setI, hl_setI, nx_setI, us_setI, cn_setI, cs_setI, kd_setR, ln_setR, hi_setR, hr_setR, hl_setR, nx_setR, us_setR, cn_setR, cs_setR, kd_setL, ln_setL, hi_setL, hr_setL, hl_setL, nx_setL, us_setL, cn_setL, cs_setL, kd_mkO, ln_mkO, hi_mkO, hr_mkO, hl_mkO, nx_mkO, us_mkO, cn_mkO, cs_mkO, up1, up2, hn, hk, Nat.add_assoc]) ?_
  refine wp_aload_n d_79_12 (by rfl) ?_
  refine wp_bipush d_79_13 (by decide) ?_
  refine wp_newa (K := 100) d_79_15 rfl (by decide) ca_100 rfl (by omega) (by omega) (by decide) (by first | omega | (simp [kd_setI, ln_setI, hi_setI, hr_setI, hl_setI, nx_setI, us_setI, cn_setI, cs_setI, kd_setR, ln_setR, hi_setR, hr_setR, hl_setR, nx_setR, us_setR, cn_setR, cs_setR, kd_setL, ln_setL, hi_setL, hr_setL, hl_setL, nx_setL, us_setL, cn_setL, cs_setL, kd_mkO, ln_mkO, hi_mkO, hr_mkO, hl_mkO, nx_mkO, us_mkO, cn_mkO, cs_mkO]; omega)) (by first | omega | (simp [kd_setI, ln_setI, hi_setI, hr_setI, hl_setI, nx_setI, us_setI, cn_setI, cs_setI, kd_setR, ln_setR, hi_setR, hr_setR, hl_setR, nx_setR, us_setR, cn_setR, cs_setR, kd_setL, ln_setL, hi_setL, hr_setL, hl_setL, nx_setL, us_setL, cn_setL, cs_setL, kd_mkO, ln_mkO, hi_mkO, hr_mkO, hl_mkO, nx_mkO, us_mkO, cn_mkO, cs_mkO]; omega)) ?_
  refine wp_putR (1) d_79_17 fl_8_15 rfl rfl (Or.inl (by rfl)) (by simp [kd_setI, ln_setI, hi_setI, hr_setI, hl_setI, nx_setI, us_setI, cn_setI, cs_setI, kd_setR, ln_setR, hi_setR, hr_setR, hl_setR, nx_setR, us_setR, cn_setR, cs_setR, kd_setL, ln_setL, hi_setL, hr_setL, hl_setL, nx_setL, us_setL, cn_setL, cs_setL, kd_mkO, ln_mkO, hi_mkO, hr_mkO, hl_mkO, nx_mkO, us_mkO, cn_mkO, cs_mkO, up1, up2, hn, hk, Nat.add_assoc]) ?_
  refine wp_vret d_79_20 rfl ?_
  have hb0 : ∀ b : Nat, b < a → b ≠ a := fun b hb => by omega
  refine ⟨rfl, ?_, by simp [kd_setI, ln_setI, hi_setI, hr_setI, hl_setI, nx_setI, us_setI, cn_setI, cs_setI, kd_setR, ln_setR, hi_setR, hr_setR, hl_setR, nx_setR, us_setR, cn_setR, cs_setR, kd_setL, ln_setL, hi_setL, hr_setL, hl_setL, nx_setL, us_setL, cn_setL, cs_setL, kd_mkO, ln_mkO, hi_mkO, hr_mkO, hl_mkO, nx_mkO, us_mkO, cn_mkO, cs_mkO, hn, Nat.add_assoc], by simp [kd_setI, ln_setI, hi_setI, hr_setI, hl_setI, nx_setI, us_setI, cn_setI, cs_setI, kd_setR, ln_setR, hi_setR, hr_setR, hl_setR, nx_setR, us_setR, cn_setR, cs_setR, kd_setL, ln_setL, hi_setL, hr_setL, hl_setL, nx_setL, us_setL, cn_setL, cs_setL, kd_mkO, ln_mkO, hi_mkO, hr_mkO, hl_mkO, nx_mkO, us_mkO, cn_mkO, cs_mkO, Nat.add_assoc], rfl, rfl, fun b hb => ?_⟩
  · simp [OffN, zA, nA, kd_setI, ln_setI, hi_setI, hr_setI, hl_setI, nx_setI, us_setI, cn_setI, cs_setI, kd_setR, ln_setR, hi_setR, hr_setR, hl_setR, nx_setR, us_setR, cn_setR, cs_setR, kd_setL, ln_setL, hi_setL, hr_setL, hl_setL, nx_setL, us_setL, cn_setL, cs_setL, kd_mkO, ln_mkO, hi_mkO, hr_mkO, hl_mkO, nx_mkO, us_mkO, cn_mkO, cs_mkO, up1, up2, hn, hk, hz, Nat.add_assoc]
  · have h1 : b ≠ a := by omega
    unfold eqA
    simp [kd_setI, ln_setI, hi_setI, hr_setI, hl_setI, nx_setI, us_setI, cn_setI, cs_setI, kd_setR, ln_setR, hi_setR, hr_setR, hl_setR, nx_setR, us_setR, cn_setR, cs_setR, kd_setL, ln_setL, hi_setL, hr_setL, hl_setL, nx_setL, us_setL, cn_setL, cs_setL, kd_mkO, ln_mkO, hi_mkO, hr_mkO, hl_mkO, nx_mkO, us_mkO, cn_mkO, cs_mkO, up1, up2, hn, h1, Nat.add_assoc, show ∀ k, b ≠ a + k from fun k => by omega]
/-- Network at a -/
def NetN (h : Hp) (a : Nat) : Prop := kd h a = 8 ∧ hr h a 0 = some (a + 1) ∧ hr h a 1 = some (a + 2) ∧ hr h a 2 = some (a + 3) ∧ hr h a 3 = some (a + 4) ∧ (hi h a 4 = 0 ∧ hi h a 5 = 0 ∧ hi h a 6 = 0 ∧ hi h a 7 = 0) ∧ zA h (a + 1) 16 ∧ nA h (a + 2) 104 20 ∧ nA h (a + 3) 105 6 ∧ nA h (a + 4) 106 24
set_option maxRecDepth 100000 in
set_option maxHeartbeats 4000000 in
theorem s_Network {a : Nat} {h : Hp} (hk : kd h a = 8) (hz : ∀ k, hi h a k = 0) (hn : nx h = a + 1) (r1 : nx h + 4 ≤ cn h) (r2 : us h + 66 ≤ cs h) : wp 74 0 (entL [vR (some a)] (mL 74)) [] h (fun v h' => v = none ∧ NetN h' a ∧ nx h' = a + 5 ∧ us h' = us h + 66 ∧ cn h' = cn h ∧ cs h' = cs h ∧ ∀ b, b < a → eqA h h' b) noX := by
  refine wp_aload_n d_74_0 (by rfl) ?_
  refine wp_objInit d_74_1 oi_7 co_code ⟨Nat.le_of_ble_eq_true rfl, Nat.le_of_ble_eq_true rfl⟩ ?_
  refine wp_aload_n d_74_4 (by rfl) ?_
  refine wp_bipush d_74_5 (by decide) ?_
  refine wp_newa (K := 100) d_74_7 rfl (by decide) ca_100 rfl (by omega) (by omega) (by decide) (by first | omega | (simp [kd_setI, ln_setI, hi_setI, hr_setI, hl_setI, nx_setI, us_setI, cn_setI, cs_setI, kd_setR, ln_setR, hi_setR, hr_setR, hl_setR, nx_setR, us_setR, cn_setR, cs_setR, kd_setL, ln_setL, hi_setL, hr_setL, hl_setL, nx_setL, us_setL, cn_setL, cs_setL, kd_mkO, ln_mkO, hi_mkO, hr_mkO, hl_mkO, nx_mkO, us_mkO, cn_mkO, cs_mkO]; omega)) (by first | omega | (simp [kd_setI, ln_setI, hi_setI, hr_setI, hl_setI, nx_setI, us_setI, cn_setI, cs_setI, kd_setR, ln_setR, hi_setR, hr_setR, hl_setR, nx_setR, us_setR, cn_setR, cs_setR, kd_setL, ln_setL, hi_setL, hr_setL, hl_setL, nx_setL, us_setL, cn_setL, cs_setL, kd_mkO, ln_mkO, hi_mkO, hr_mkO, hl_mkO, nx_mkO, us_mkO, cn_mkO, cs_mkO]; omega)) ?_
  refine wp_putR (0) d_74_9 fl_7_9 rfl rfl (Or.inr ⟨by rfl, by rfl, by rfl⟩) (by simp [kd_setI, ln_setI, hi_setI, hr_setI, hl_setI, nx_setI, us_setI, cn_setI, cs_setI, kd_setR, ln_setR, hi_setR, hr_setR, hl_setR, nx_setR, us_setR, cn_setR, cs_setR, kd_setL, ln_setL, hi_setL, hr_setL, hl_setL, nx_setL, us_setL, cn_setL, cs_setL, kd_mkO, ln_mkO, hi_mkO, hr_mkO, hl_mkO, nx_mkO, us_mkO, cn_mkO, cs_mkO, up1, up2, hn, hk, Nat.add_assoc]) ?_
  refine wp_aload_n d_74_12 (by rfl) ?_
  refine wp_bipush d_74_13 (by decide) ?_
  refine wp_anew (K := 104) d_74_15 cl_7_15 rfl (by decide) ca_104 (by omega) (by omega) (by first | omega | (simp [kd_setI, ln_setI, hi_setI, hr_setI, hl_setI, nx_setI, us_setI, cn_setI, cs_setI, kd_setR, ln_setR, hi_setR, hr_setR, hl_setR, nx_setR, us_setR, cn_setR, cs_setR, kd_setL, ln_setL, hi_setL, hr_setL, hl_setL, nx_setL, us_setL, cn_setL, cs_setL, kd_mkO, ln_mkO, hi_mkO, hr_mkO, hl_mkO, nx_mkO, us_mkO, cn_mkO, cs_mkO]; omega)) (by first | omega | (simp [kd_setI, ln_setI, hi_setI, hr_setI, hl_setI, nx_setI, us_setI, cn_setI, cs_setI, kd_setR, ln_setR, hi_setR, hr_setR, hl_setR, nx_setR, us_setR, cn_setR, cs_setR, kd_setL, ln_setL, hi_setL, hr_setL, hl_setL, nx_setL, us_setL, cn_setL, cs_setL, kd_mkO, ln_mkO, hi_mkO, hr_mkO, hl_mkO, nx_mkO, us_mkO, cn_mkO, cs_mkO]; omega)) ?_
  refine wp_putR (1) d_74_18 fl_7_17 rfl rfl (Or.inr ⟨by rfl, by rfl, by rfl⟩) (by simp [kd_setI, ln_setI, hi_setI, hr_setI, hl_setI, nx_setI, us_setI, cn_setI, cs_setI, kd_setR, ln_setR, hi_setR, hr_setR, hl_setR, nx_setR, us_setR, cn_setR, cs_setR, kd_setL, ln_setL, hi_setL, hr_setL, hl_setL, nx_setL, us_setL, cn_setL, cs_setL, kd_mkO, ln_mkO, hi_mkO, hr_mkO, hl_mkO, nx_mkO, us_mkO, cn_mkO, cs_mkO, up1, up2, hn, hk, Nat.add_assoc]) ?_
  refine wp_aload_n d_74_21 (by rfl) ?_
  refine wp_bipush d_74_22 (by decide) ?_
  refine wp_anew (K := 105) d_74_24 cl_7_21 rfl (by decide) ca_105 (by omega) (by omega) (by first | omega | (simp [kd_setI, ln_setI, hi_setI, hr_setI, hl_setI, nx_setI, us_setI, cn_setI, cs_setI, kd_setR, ln_setR, hi_setR, hr_setR, hl_setR, nx_setR, us_setR, cn_setR, cs_setR, kd_setL, ln_setL, hi_setL, hr_setL, hl_setL, nx_setL, us_setL, cn_setL, cs_setL, kd_mkO, ln_mkO, hi_mkO, hr_mkO, hl_mkO, nx_mkO, us_mkO, cn_mkO, cs_mkO]; omega)) (by first | omega | (simp [kd_setI, ln_setI, hi_setI, hr_setI, hl_setI, nx_setI, us_setI, cn_setI, cs_setI, kd_setR, ln_setR, hi_setR, hr_setR, hl_setR, nx_setR, us_setR, cn_setR, cs_setR, kd_setL, ln_setL, hi_setL, hr_setL, hl_setL, nx_setL, us_setL, cn_setL, cs_setL, kd_mkO, ln_mkO, hi_mkO, hr_mkO, hl_mkO, nx_mkO, us_mkO, cn_mkO, cs_mkO]; omega)) ?_
  refine wp_putR (2) d_74_27 fl_7_23 rfl rfl (Or.inr ⟨by rfl, by rfl, by rfl⟩) (by simp [kd_setI, ln_setI, hi_setI, hr_setI, hl_setI, nx_setI, us_setI, cn_setI, cs_setI, kd_setR, ln_setR, hi_setR, hr_setR, hl_setR, nx_setR, us_setR, cn_setR, cs_setR, kd_setL, ln_setL, hi_setL, hr_setL, hl_setL, nx_setL, us_setL, cn_setL, cs_setL, kd_mkO, ln_mkO, hi_mkO, hr_mkO, hl_mkO, nx_mkO, us_mkO, cn_mkO, cs_mkO, up1, up2, hn, hk, Nat.add_assoc]) ?_
  refine wp_aload_n d_74_30 (by rfl) ?_
  refine wp_bipush d_74_31 (by decide) ?_
  refine wp_anew (K := 106) d_74_33 cl_7_27 rfl (by decide) ca_106 (by omega) (by omega) (by first | omega | (simp [kd_setI, ln_setI, hi_setI, hr_setI, hl_setI, nx_setI, us_setI, cn_setI, cs_setI, kd_setR, ln_setR, hi_setR, hr_setR, hl_setR, nx_setR, us_setR, cn_setR, cs_setR, kd_setL, ln_setL, hi_setL, hr_setL, hl_setL, nx_setL, us_setL, cn_setL, cs_setL, kd_mkO, ln_mkO, hi_mkO, hr_mkO, hl_mkO, nx_mkO, us_mkO, cn_mkO, cs_mkO]; omega)) (by first | omega | (simp [kd_setI, ln_setI, hi_setI, hr_setI, hl_setI, nx_setI, us_setI, cn_setI, cs_setI, kd_setR, ln_setR, hi_setR, hr_setR, hl_setR, nx_setR, us_setR, cn_setR, cs_setR, kd_setL, ln_setL, hi_setL, hr_setL, hl_setL, nx_setL, us_setL, cn_setL, cs_setL, kd_mkO, ln_mkO, hi_mkO, hr_mkO, hl_mkO, nx_mkO, us_mkO, cn_mkO, cs_mkO]; omega)) ?_
  refine wp_putR (3) d_74_36 fl_7_29 rfl rfl (Or.inr ⟨by rfl, by rfl, by rfl⟩) (by simp [kd_setI, ln_setI, hi_setI, hr_setI, hl_setI, nx_setI, us_setI, cn_setI, cs_setI, kd_setR, ln_setR, hi_setR, hr_setR, hl_setR, nx_setR, us_setR, cn_setR, cs_setR, kd_setL, ln_setL, hi_setL, hr_setL, hl_setL, nx_setL, us_setL, cn_setL, cs_setL, kd_mkO, ln_mkO, hi_mkO, hr_mkO, hl_mkO, nx_mkO, us_mkO, cn_mkO, cs_mkO, up1, up2, hn, hk, Nat.add_assoc]) ?_
  refine wp_vret d_74_39 rfl ?_
  have hb0 : ∀ b : Nat, b < a → b ≠ a := fun b hb => by omega
  refine ⟨rfl, ?_, by simp [kd_setI, ln_setI, hi_setI, hr_setI, hl_setI, nx_setI, us_setI, cn_setI, cs_setI, kd_setR, ln_setR, hi_setR, hr_setR, hl_setR, nx_setR, us_setR, cn_setR, cs_setR, kd_setL, ln_setL, hi_setL, hr_setL, hl_setL, nx_setL, us_setL, cn_setL, cs_setL, kd_mkO, ln_mkO, hi_mkO, hr_mkO, hl_mkO, nx_mkO, us_mkO, cn_mkO, cs_mkO, hn, Nat.add_assoc], by simp [kd_setI, ln_setI, hi_setI, hr_setI, hl_setI, nx_setI, us_setI, cn_setI, cs_setI, kd_setR, ln_setR, hi_setR, hr_setR, hl_setR, nx_setR, us_setR, cn_setR, cs_setR, kd_setL, ln_setL, hi_setL, hr_setL, hl_setL, nx_setL, us_setL, cn_setL, cs_setL, kd_mkO, ln_mkO, hi_mkO, hr_mkO, hl_mkO, nx_mkO, us_mkO, cn_mkO, cs_mkO, Nat.add_assoc], rfl, rfl, fun b hb => ?_⟩
  · simp [NetN, zA, nA, kd_setI, ln_setI, hi_setI, hr_setI, hl_setI, nx_setI, us_setI, cn_setI, cs_setI, kd_setR, ln_setR, hi_setR, hr_setR, hl_setR, nx_setR, us_setR, cn_setR, cs_setR, kd_setL, ln_setL, hi_setL, hr_setL, hl_setL, nx_setL, us_setL, cn_setL, cs_setL, kd_mkO, ln_mkO, hi_mkO, hr_mkO, hl_mkO, nx_mkO, us_mkO, cn_mkO, cs_mkO, up1, up2, hn, hk, hz, Nat.add_assoc]
  · have h1 : b ≠ a := by omega
    unfold eqA
    simp [kd_setI, ln_setI, hi_setI, hr_setI, hl_setI, nx_setI, us_setI, cn_setI, cs_setI, kd_setR, ln_setR, hi_setR, hr_setR, hl_setR, nx_setR, us_setR, cn_setR, cs_setR, kd_setL, ln_setL, hi_setL, hr_setL, hl_setL, nx_setL, us_setL, cn_setL, cs_setL, kd_mkO, ln_mkO, hi_mkO, hr_mkO, hl_mkO, nx_mkO, us_mkO, cn_mkO, cs_mkO, up1, up2, hn, h1, Nat.add_assoc, show ∀ k, b ≠ a + k from fun k => by omega]
/-- Runs at a -/
def RunN (h : Hp) (a : Nat) : Prop := kd h a = 11 ∧ hr h a 0 = some (a + 1) ∧ hr h a 1 = some (a + 2) ∧ hr h a 2 = some (a + 3) ∧ hi h a 3 = 0 ∧ nA h (a + 1) 106 192 ∧ zA h (a + 2) 192 ∧ zA h (a + 3) 192
set_option maxRecDepth 100000 in
set_option maxHeartbeats 4000000 in
theorem s_Runs {a : Nat} {h : Hp} (hk : kd h a = 11) (hz : ∀ k, hi h a k = 0) (hn : nx h = a + 1) (r1 : nx h + 3 ≤ cn h) (r2 : us h + 576 ≤ cs h) : wp 93 0 (entL [vR (some a)] (mL 93)) [] h (fun v h' => v = none ∧ RunN h' a ∧ nx h' = a + 4 ∧ us h' = us h + 576 ∧ cn h' = cn h ∧ cs h' = cs h ∧ ∀ b, b < a → eqA h h' b) noX := by
  refine wp_aload_n d_93_0 (by rfl) ?_
  refine wp_objInit d_93_1 oi_10 co_code ⟨Nat.le_of_ble_eq_true rfl, Nat.le_of_ble_eq_true rfl⟩ ?_
  refine wp_aload_n d_93_4 (by rfl) ?_
  refine wp_sipush d_93_5 (by decide) ?_
  refine wp_anew (K := 106) d_93_8 cl_10_9 rfl (by decide) ca_106 (by omega) (by omega) (by first | omega | (simp [kd_setI, ln_setI, hi_setI, hr_setI, hl_setI, nx_setI, us_setI, cn_setI, cs_setI, kd_setR, ln_setR, hi_setR, hr_setR, hl_setR, nx_setR, us_setR, cn_setR, cs_setR, kd_setL, ln_setL, hi_setL, hr_setL, hl_setL, nx_setL, us_setL, cn_setL, cs_setL, kd_mkO, ln_mkO, hi_mkO, hr_mkO, hl_mkO, nx_mkO, us_mkO, cn_mkO, cs_mkO]; omega)) (by first | omega | (simp [kd_setI, ln_setI, hi_setI, hr_setI, hl_setI, nx_setI, us_setI, cn_setI, cs_setI, kd_setR, ln_setR, hi_setR, hr_setR, hl_setR, nx_setR, us_setR, cn_setR, cs_setR, kd_setL, ln_setL, hi_setL, hr_setL, hl_setL, nx_setL, us_setL, cn_setL, cs_setL, kd_mkO, ln_mkO, hi_mkO, hr_mkO, hl_mkO, nx_mkO, us_mkO, cn_mkO, cs_mkO]; omega)) ?_
  refine wp_putR (0) d_93_11 fl_10_11 rfl rfl (Or.inr ⟨by rfl, by rfl, by rfl⟩) (by simp [kd_setI, ln_setI, hi_setI, hr_setI, hl_setI, nx_setI, us_setI, cn_setI, cs_setI, kd_setR, ln_setR, hi_setR, hr_setR, hl_setR, nx_setR, us_setR, cn_setR, cs_setR, kd_setL, ln_setL, hi_setL, hr_setL, hl_setL, nx_setL, us_setL, cn_setL, cs_setL, kd_mkO, ln_mkO, hi_mkO, hr_mkO, hl_mkO, nx_mkO, us_mkO, cn_mkO, cs_mkO, up1, up2, hn, hk, Nat.add_assoc]) ?_
  refine wp_aload_n d_93_14 (by rfl) ?_
  refine wp_sipush d_93_15 (by decide) ?_
  refine wp_newa (K := 100) d_93_18 rfl (by decide) ca_100 rfl (by omega) (by omega) (by decide) (by first | omega | (simp [kd_setI, ln_setI, hi_setI, hr_setI, hl_setI, nx_setI, us_setI, cn_setI, cs_setI, kd_setR, ln_setR, hi_setR, hr_setR, hl_setR, nx_setR, us_setR, cn_setR, cs_setR, kd_setL, ln_setL, hi_setL, hr_setL, hl_setL, nx_setL, us_setL, cn_setL, cs_setL, kd_mkO, ln_mkO, hi_mkO, hr_mkO, hl_mkO, nx_mkO, us_mkO, cn_mkO, cs_mkO]; omega)) (by first | omega | (simp [kd_setI, ln_setI, hi_setI, hr_setI, hl_setI, nx_setI, us_setI, cn_setI, cs_setI, kd_setR, ln_setR, hi_setR, hr_setR, hl_setR, nx_setR, us_setR, cn_setR, cs_setR, kd_setL, ln_setL, hi_setL, hr_setL, hl_setL, nx_setL, us_setL, cn_setL, cs_setL, kd_mkO, ln_mkO, hi_mkO, hr_mkO, hl_mkO, nx_mkO, us_mkO, cn_mkO, cs_mkO]; omega)) ?_
  refine wp_putR (1) d_93_20 fl_10_17 rfl rfl (Or.inr ⟨by rfl, by rfl, by rfl⟩) (by simp [kd_setI, ln_setI, hi_setI, hr_setI, hl_setI, nx_setI, us_setI, cn_setI, cs_setI, kd_setR, ln_setR, hi_setR, hr_setR, hl_setR, nx_setR, us_setR, cn_setR, cs_setR, kd_setL, ln_setL, hi_setL, hr_setL, hl_setL, nx_setL, us_setL, cn_setL, cs_setL, kd_mkO, ln_mkO, hi_mkO, hr_mkO, hl_mkO, nx_mkO, us_mkO, cn_mkO, cs_mkO, up1, up2, hn, hk, Nat.add_assoc]) ?_
  refine wp_aload_n d_93_23 (by rfl) ?_
  refine wp_sipush d_93_24 (by decide) ?_
  refine wp_newa (K := 100) d_93_27 rfl (by decide) ca_100 rfl (by omega) (by omega) (by decide) (by first | omega | (simp [kd_setI, ln_setI, hi_setI, hr_setI, hl_setI, nx_setI, us_setI, cn_setI, cs_setI, kd_setR, ln_setR, hi_setR, hr_setR, hl_setR, nx_setR, us_setR, cn_setR, cs_setR, kd_setL, ln_setL, hi_setL, hr_setL, hl_setL, nx_setL, us_setL, cn_setL, cs_setL, kd_mkO, ln_mkO, hi_mkO, hr_mkO, hl_mkO, nx_mkO, us_mkO, cn_mkO, cs_mkO]; omega)) (by first | omega | (simp [kd_setI, ln_setI, hi_setI, hr_setI, hl_setI, nx_setI, us_setI, cn_setI, cs_setI, kd_setR, ln_setR, hi_setR, hr_setR, hl_setR, nx_setR, us_setR, cn_setR, cs_setR, kd_setL, ln_setL, hi_setL, hr_setL, hl_setL, nx_setL, us_setL, cn_setL, cs_setL, kd_mkO, ln_mkO, hi_mkO, hr_mkO, hl_mkO, nx_mkO, us_mkO, cn_mkO, cs_mkO]; omega)) ?_
  refine wp_putR (2) d_93_29 fl_10_21 rfl rfl (Or.inr ⟨by rfl, by rfl, by rfl⟩) (by simp [kd_setI, ln_setI, hi_setI, hr_setI, hl_setI, nx_setI, us_setI, cn_setI, cs_setI, kd_setR, ln_setR, hi_setR, hr_setR, hl_setR, nx_setR, us_setR, cn_setR, cs_setR, kd_setL, ln_setL, hi_setL, hr_setL, hl_setL, nx_setL, us_setL, cn_setL, cs_setL, kd_mkO, ln_mkO, hi_mkO, hr_mkO, hl_mkO, nx_mkO, us_mkO, cn_mkO, cs_mkO, up1, up2, hn, hk, Nat.add_assoc]) ?_
  refine wp_vret d_93_32 rfl ?_
  have hb0 : ∀ b : Nat, b < a → b ≠ a := fun b hb => by omega
  refine ⟨rfl, ?_, by simp [kd_setI, ln_setI, hi_setI, hr_setI, hl_setI, nx_setI, us_setI, cn_setI, cs_setI, kd_setR, ln_setR, hi_setR, hr_setR, hl_setR, nx_setR, us_setR, cn_setR, cs_setR, kd_setL, ln_setL, hi_setL, hr_setL, hl_setL, nx_setL, us_setL, cn_setL, cs_setL, kd_mkO, ln_mkO, hi_mkO, hr_mkO, hl_mkO, nx_mkO, us_mkO, cn_mkO, cs_mkO, hn, Nat.add_assoc], by simp [kd_setI, ln_setI, hi_setI, hr_setI, hl_setI, nx_setI, us_setI, cn_setI, cs_setI, kd_setR, ln_setR, hi_setR, hr_setR, hl_setR, nx_setR, us_setR, cn_setR, cs_setR, kd_setL, ln_setL, hi_setL, hr_setL, hl_setL, nx_setL, us_setL, cn_setL, cs_setL, kd_mkO, ln_mkO, hi_mkO, hr_mkO, hl_mkO, nx_mkO, us_mkO, cn_mkO, cs_mkO, Nat.add_assoc], rfl, rfl, fun b hb => ?_⟩
  · simp [RunN, zA, nA, kd_setI, ln_setI, hi_setI, hr_setI, hl_setI, nx_setI, us_setI, cn_setI, cs_setI, kd_setR, ln_setR, hi_setR, hr_setR, hl_setR, nx_setR, us_setR, cn_setR, cs_setR, kd_setL, ln_setL, hi_setL, hr_setL, hl_setL, nx_setL, us_setL, cn_setL, cs_setL, kd_mkO, ln_mkO, hi_mkO, hr_mkO, hl_mkO, nx_mkO, us_mkO, cn_mkO, cs_mkO, up1, up2, hn, hk, hz, Nat.add_assoc]
  · have h1 : b ≠ a := by omega
    unfold eqA
    simp [kd_setI, ln_setI, hi_setI, hr_setI, hl_setI, nx_setI, us_setI, cn_setI, cs_setI, kd_setR, ln_setR, hi_setR, hr_setR, hl_setR, nx_setR, us_setR, cn_setR, cs_setR, kd_setL, ln_setL, hi_setL, hr_setL, hl_setL, nx_setL, us_setL, cn_setL, cs_setL, kd_mkO, ln_mkO, hi_mkO, hr_mkO, hl_mkO, nx_mkO, us_mkO, cn_mkO, cs_mkO, up1, up2, hn, h1, Nat.add_assoc, show ∀ k, b ≠ a + k from fun k => by omega]
/-- Board at a -/
def BoaN (h : Hp) (a : Nat) : Prop := kd h a = 3 ∧ hr h a 0 = some (a + 1) ∧ hi h a 1 = 0 ∧ kd h (a + 1) = 101 ∧ ln h (a + 1) = 1344
set_option maxRecDepth 100000 in
set_option maxHeartbeats 4000000 in
theorem s_Board {a : Nat} {h : Hp} (hk : kd h a = 3) (hz : ∀ k, hi h a k = 0) (hn : nx h = a + 1) (r1 : nx h + 1 ≤ cn h) (r2 : us h + 1344 ≤ cs h) : wp 48 0 (entL [vR (some a)] (mL 48)) [] h (fun v h' => v = none ∧ BoaN h' a ∧ nx h' = a + 2 ∧ us h' = us h + 1344 ∧ cn h' = cn h ∧ cs h' = cs h ∧ ∀ b, b < a → eqA h h' b) noX := by
  refine wp_aload_n d_48_0 (by rfl) ?_
  refine wp_objInit d_48_1 oi_2 co_code ⟨Nat.le_of_ble_eq_true rfl, Nat.le_of_ble_eq_true rfl⟩ ?_
  refine wp_aload_n d_48_4 (by rfl) ?_
  refine wp_sipush d_48_5 (by decide) ?_
  refine wp_newa (K := 101) d_48_8 rfl (by decide) ca_101 rfl (by omega) (by omega) (by decide) (by first | omega | (simp [kd_setI, ln_setI, hi_setI, hr_setI, hl_setI, nx_setI, us_setI, cn_setI, cs_setI, kd_setR, ln_setR, hi_setR, hr_setR, hl_setR, nx_setR, us_setR, cn_setR, cs_setR, kd_setL, ln_setL, hi_setL, hr_setL, hl_setL, nx_setL, us_setL, cn_setL, cs_setL, kd_mkO, ln_mkO, hi_mkO, hr_mkO, hl_mkO, nx_mkO, us_mkO, cn_mkO, cs_mkO]; omega)) (by first | omega | (simp [kd_setI, ln_setI, hi_setI, hr_setI, hl_setI, nx_setI, us_setI, cn_setI, cs_setI, kd_setR, ln_setR, hi_setR, hr_setR, hl_setR, nx_setR, us_setR, cn_setR, cs_setR, kd_setL, ln_setL, hi_setL, hr_setL, hl_setL, nx_setL, us_setL, cn_setL, cs_setL, kd_mkO, ln_mkO, hi_mkO, hr_mkO, hl_mkO, nx_mkO, us_mkO, cn_mkO, cs_mkO]; omega)) ?_
  refine wp_putR (0) d_48_10 fl_2_9 rfl rfl (Or.inr ⟨by rfl, by rfl, by rfl⟩) (by simp [kd_setI, ln_setI, hi_setI, hr_setI, hl_setI, nx_setI, us_setI, cn_setI, cs_setI, kd_setR, ln_setR, hi_setR, hr_setR, hl_setR, nx_setR, us_setR, cn_setR, cs_setR, kd_setL, ln_setL, hi_setL, hr_setL, hl_setL, nx_setL, us_setL, cn_setL, cs_setL, kd_mkO, ln_mkO, hi_mkO, hr_mkO, hl_mkO, nx_mkO, us_mkO, cn_mkO, cs_mkO, up1, up2, hn, hk, Nat.add_assoc]) ?_
  refine wp_vret d_48_13 rfl ?_
  have hb0 : ∀ b : Nat, b < a → b ≠ a := fun b hb => by omega
  refine ⟨rfl, ?_, by simp [kd_setI, ln_setI, hi_setI, hr_setI, hl_setI, nx_setI, us_setI, cn_setI, cs_setI, kd_setR, ln_setR, hi_setR, hr_setR, hl_setR, nx_setR, us_setR, cn_setR, cs_setR, kd_setL, ln_setL, hi_setL, hr_setL, hl_setL, nx_setL, us_setL, cn_setL, cs_setL, kd_mkO, ln_mkO, hi_mkO, hr_mkO, hl_mkO, nx_mkO, us_mkO, cn_mkO, cs_mkO, hn, Nat.add_assoc], by simp [kd_setI, ln_setI, hi_setI, hr_setI, hl_setI, nx_setI, us_setI, cn_setI, cs_setI, kd_setR, ln_setR, hi_setR, hr_setR, hl_setR, nx_setR, us_setR, cn_setR, cs_setR, kd_setL, ln_setL, hi_setL, hr_setL, hl_setL, nx_setL, us_setL, cn_setL, cs_setL, kd_mkO, ln_mkO, hi_mkO, hr_mkO, hl_mkO, nx_mkO, us_mkO, cn_mkO, cs_mkO, Nat.add_assoc], rfl, rfl, fun b hb => ?_⟩
  · simp [BoaN, zA, nA, kd_setI, ln_setI, hi_setI, hr_setI, hl_setI, nx_setI, us_setI, cn_setI, cs_setI, kd_setR, ln_setR, hi_setR, hr_setR, hl_setR, nx_setR, us_setR, cn_setR, cs_setR, kd_setL, ln_setL, hi_setL, hr_setL, hl_setL, nx_setL, us_setL, cn_setL, cs_setL, kd_mkO, ln_mkO, hi_mkO, hr_mkO, hl_mkO, nx_mkO, us_mkO, cn_mkO, cs_mkO, up1, up2, hn, hk, hz, Nat.add_assoc]
  · have h1 : b ≠ a := by omega
    unfold eqA
    simp [kd_setI, ln_setI, hi_setI, hr_setI, hl_setI, nx_setI, us_setI, cn_setI, cs_setI, kd_setR, ln_setR, hi_setR, hr_setR, hl_setR, nx_setR, us_setR, cn_setR, cs_setR, kd_setL, ln_setL, hi_setL, hr_setL, hl_setL, nx_setL, us_setL, cn_setL, cs_setL, kd_mkO, ln_mkO, hi_mkO, hr_mkO, hl_mkO, nx_mkO, us_mkO, cn_mkO, cs_mkO, up1, up2, hn, h1, Nat.add_assoc, show ∀ k, b ≠ a + k from fun k => by omega]
/-- Journey at a -/
def JouN (h : Hp) (a : Nat) : Prop := kd h a = 7 ∧ hr h a 5 = some (a + 1) ∧ hr h a 6 = some (a + 2) ∧ hr h a 7 = some (a + 3) ∧ hr h a 8 = some (a + 4) ∧ hr h a 9 = some (a + 5) ∧ hr h a 10 = some (a + 6) ∧ hr h a 11 = some (a + 7) ∧ (hi h a 0 = 0 ∧ hi h a 1 = 0 ∧ hi h a 2 = 0 ∧ hi h a 3 = 0 ∧ hi h a 4 = 0 ∧ hi h a 12 = 0 ∧ hi h a 13 = 0) ∧ nA h (a + 1) 106 13 ∧ zA h (a + 2) 13 ∧ zA h (a + 3) 13 ∧ zA h (a + 4) 13 ∧ zA h (a + 5) 13 ∧ zA h (a + 6) 13 ∧ zA h (a + 7) 13
set_option maxRecDepth 100000 in
set_option maxHeartbeats 4000000 in
theorem s_Journey {a : Nat} {h : Hp} (hk : kd h a = 7) (hz : ∀ k, hi h a k = 0) (hn : nx h = a + 1) (r1 : nx h + 7 ≤ cn h) (r2 : us h + 91 ≤ cs h) : wp 73 0 (entL [vR (some a)] (mL 73)) [] h (fun v h' => v = none ∧ JouN h' a ∧ nx h' = a + 8 ∧ us h' = us h + 91 ∧ cn h' = cn h ∧ cs h' = cs h ∧ ∀ b, b < a → eqA h h' b) noX := by
  refine wp_aload_n d_73_0 (by rfl) ?_
  refine wp_objInit d_73_1 oi_6 co_code ⟨Nat.le_of_ble_eq_true rfl, Nat.le_of_ble_eq_true rfl⟩ ?_
  refine wp_aload_n d_73_4 (by rfl) ?_
  refine wp_bipush d_73_5 (by decide) ?_
  refine wp_anew (K := 106) d_73_7 cl_6_9 rfl (by decide) ca_106 (by omega) (by omega) (by first | omega | (simp [kd_setI, ln_setI, hi_setI, hr_setI, hl_setI, nx_setI, us_setI, cn_setI, cs_setI, kd_setR, ln_setR, hi_setR, hr_setR, hl_setR, nx_setR, us_setR, cn_setR, cs_setR, kd_setL, ln_setL, hi_setL, hr_setL, hl_setL, nx_setL, us_setL, cn_setL, cs_setL, kd_mkO, ln_mkO, hi_mkO, hr_mkO, hl_mkO, nx_mkO, us_mkO, cn_mkO, cs_mkO]; omega)) (by first | omega | (simp [kd_setI, ln_setI, hi_setI, hr_setI, hl_setI, nx_setI, us_setI, cn_setI, cs_setI, kd_setR, ln_setR, hi_setR, hr_setR, hl_setR, nx_setR, us_setR, cn_setR, cs_setR, kd_setL, ln_setL, hi_setL, hr_setL, hl_setL, nx_setL, us_setL, cn_setL, cs_setL, kd_mkO, ln_mkO, hi_mkO, hr_mkO, hl_mkO, nx_mkO, us_mkO, cn_mkO, cs_mkO]; omega)) ?_
  refine wp_putR (5) d_73_10 fl_6_11 rfl rfl (Or.inr ⟨by rfl, by rfl, by rfl⟩) (by simp [kd_setI, ln_setI, hi_setI, hr_setI, hl_setI, nx_setI, us_setI, cn_setI, cs_setI, kd_setR, ln_setR, hi_setR, hr_setR, hl_setR, nx_setR, us_setR, cn_setR, cs_setR, kd_setL, ln_setL, hi_setL, hr_setL, hl_setL, nx_setL, us_setL, cn_setL, cs_setL, kd_mkO, ln_mkO, hi_mkO, hr_mkO, hl_mkO, nx_mkO, us_mkO, cn_mkO, cs_mkO, up1, up2, hn, hk, Nat.add_assoc]) ?_
  refine wp_aload_n d_73_13 (by rfl) ?_
  refine wp_bipush d_73_14 (by decide) ?_
  refine wp_newa (K := 100) d_73_16 rfl (by decide) ca_100 rfl (by omega) (by omega) (by decide) (by first | omega | (simp [kd_setI, ln_setI, hi_setI, hr_setI, hl_setI, nx_setI, us_setI, cn_setI, cs_setI, kd_setR, ln_setR, hi_setR, hr_setR, hl_setR, nx_setR, us_setR, cn_setR, cs_setR, kd_setL, ln_setL, hi_setL, hr_setL, hl_setL, nx_setL, us_setL, cn_setL, cs_setL, kd_mkO, ln_mkO, hi_mkO, hr_mkO, hl_mkO, nx_mkO, us_mkO, cn_mkO, cs_mkO]; omega)) (by first | omega | (simp [kd_setI, ln_setI, hi_setI, hr_setI, hl_setI, nx_setI, us_setI, cn_setI, cs_setI, kd_setR, ln_setR, hi_setR, hr_setR, hl_setR, nx_setR, us_setR, cn_setR, cs_setR, kd_setL, ln_setL, hi_setL, hr_setL, hl_setL, nx_setL, us_setL, cn_setL, cs_setL, kd_mkO, ln_mkO, hi_mkO, hr_mkO, hl_mkO, nx_mkO, us_mkO, cn_mkO, cs_mkO]; omega)) ?_
  refine wp_putR (6) d_73_18 fl_6_17 rfl rfl (Or.inr ⟨by rfl, by rfl, by rfl⟩) (by simp [kd_setI, ln_setI, hi_setI, hr_setI, hl_setI, nx_setI, us_setI, cn_setI, cs_setI, kd_setR, ln_setR, hi_setR, hr_setR, hl_setR, nx_setR, us_setR, cn_setR, cs_setR, kd_setL, ln_setL, hi_setL, hr_setL, hl_setL, nx_setL, us_setL, cn_setL, cs_setL, kd_mkO, ln_mkO, hi_mkO, hr_mkO, hl_mkO, nx_mkO, us_mkO, cn_mkO, cs_mkO, up1, up2, hn, hk, Nat.add_assoc]) ?_
  refine wp_aload_n d_73_21 (by rfl) ?_
  refine wp_bipush d_73_22 (by decide) ?_
  refine wp_newa (K := 100) d_73_24 rfl (by decide) ca_100 rfl (by omega) (by omega) (by decide) (by first | omega | (simp [kd_setI, ln_setI, hi_setI, hr_setI, hl_setI, nx_setI, us_setI, cn_setI, cs_setI, kd_setR, ln_setR, hi_setR, hr_setR, hl_setR, nx_setR, us_setR, cn_setR, cs_setR, kd_setL, ln_setL, hi_setL, hr_setL, hl_setL, nx_setL, us_setL, cn_setL, cs_setL, kd_mkO, ln_mkO, hi_mkO, hr_mkO, hl_mkO, nx_mkO, us_mkO, cn_mkO, cs_mkO]; omega)) (by first | omega | (simp [kd_setI, ln_setI, hi_setI, hr_setI, hl_setI, nx_setI, us_setI, cn_setI, cs_setI, kd_setR, ln_setR, hi_setR, hr_setR, hl_setR, nx_setR, us_setR, cn_setR, cs_setR, kd_setL, ln_setL, hi_setL, hr_setL, hl_setL, nx_setL, us_setL, cn_setL, cs_setL, kd_mkO, ln_mkO, hi_mkO, hr_mkO, hl_mkO, nx_mkO, us_mkO, cn_mkO, cs_mkO]; omega)) ?_
  refine wp_putR (7) d_73_26 fl_6_21 rfl rfl (Or.inr ⟨by rfl, by rfl, by rfl⟩) (by simp [kd_setI, ln_setI, hi_setI, hr_setI, hl_setI, nx_setI, us_setI, cn_setI, cs_setI, kd_setR, ln_setR, hi_setR, hr_setR, hl_setR, nx_setR, us_setR, cn_setR, cs_setR, kd_setL, ln_setL, hi_setL, hr_setL, hl_setL, nx_setL, us_setL, cn_setL, cs_setL, kd_mkO, ln_mkO, hi_mkO, hr_mkO, hl_mkO, nx_mkO, us_mkO, cn_mkO, cs_mkO, up1, up2, hn, hk, Nat.add_assoc]) ?_
  refine wp_aload_n d_73_29 (by rfl) ?_
  refine wp_bipush d_73_30 (by decide) ?_
  refine wp_newa (K := 100) d_73_32 rfl (by decide) ca_100 rfl (by omega) (by omega) (by decide) (by first | omega | (simp [kd_setI, ln_setI, hi_setI, hr_setI, hl_setI, nx_setI, us_setI, cn_setI, cs_setI, kd_setR, ln_setR, hi_setR, hr_setR, hl_setR, nx_setR, us_setR, cn_setR, cs_setR, kd_setL, ln_setL, hi_setL, hr_setL, hl_setL, nx_setL, us_setL, cn_setL, cs_setL, kd_mkO, ln_mkO, hi_mkO, hr_mkO, hl_mkO, nx_mkO, us_mkO, cn_mkO, cs_mkO]; omega)) (by first | omega | (simp [kd_setI, ln_setI, hi_setI, hr_setI, hl_setI, nx_setI, us_setI, cn_setI, cs_setI, kd_setR, ln_setR, hi_setR, hr_setR, hl_setR, nx_setR, us_setR, cn_setR, cs_setR, kd_setL, ln_setL, hi_setL, hr_setL, hl_setL, nx_setL, us_setL, cn_setL, cs_setL, kd_mkO, ln_mkO, hi_mkO, hr_mkO, hl_mkO, nx_mkO, us_mkO, cn_mkO, cs_mkO]; omega)) ?_
  refine wp_putR (8) d_73_34 fl_6_24 rfl rfl (Or.inr ⟨by rfl, by rfl, by rfl⟩) (by simp [kd_setI, ln_setI, hi_setI, hr_setI, hl_setI, nx_setI, us_setI, cn_setI, cs_setI, kd_setR, ln_setR, hi_setR, hr_setR, hl_setR, nx_setR, us_setR, cn_setR, cs_setR, kd_setL, ln_setL, hi_setL, hr_setL, hl_setL, nx_setL, us_setL, cn_setL, cs_setL, kd_mkO, ln_mkO, hi_mkO, hr_mkO, hl_mkO, nx_mkO, us_mkO, cn_mkO, cs_mkO, up1, up2, hn, hk, Nat.add_assoc]) ?_
  refine wp_aload_n d_73_37 (by rfl) ?_
  refine wp_bipush d_73_38 (by decide) ?_
  refine wp_newa (K := 100) d_73_40 rfl (by decide) ca_100 rfl (by omega) (by omega) (by decide) (by first | omega | (simp [kd_setI, ln_setI, hi_setI, hr_setI, hl_setI, nx_setI, us_setI, cn_setI, cs_setI, kd_setR, ln_setR, hi_setR, hr_setR, hl_setR, nx_setR, us_setR, cn_setR, cs_setR, kd_setL, ln_setL, hi_setL, hr_setL, hl_setL, nx_setL, us_setL, cn_setL, cs_setL, kd_mkO, ln_mkO, hi_mkO, hr_mkO, hl_mkO, nx_mkO, us_mkO, cn_mkO, cs_mkO]; omega)) (by first | omega | (simp [kd_setI, ln_setI, hi_setI, hr_setI, hl_setI, nx_setI, us_setI, cn_setI, cs_setI, kd_setR, ln_setR, hi_setR, hr_setR, hl_setR, nx_setR, us_setR, cn_setR, cs_setR, kd_setL, ln_setL, hi_setL, hr_setL, hl_setL, nx_setL, us_setL, cn_setL, cs_setL, kd_mkO, ln_mkO, hi_mkO, hr_mkO, hl_mkO, nx_mkO, us_mkO, cn_mkO, cs_mkO]; omega)) ?_
  refine wp_putR (9) d_73_42 fl_6_27 rfl rfl (Or.inr ⟨by rfl, by rfl, by rfl⟩) (by simp [kd_setI, ln_setI, hi_setI, hr_setI, hl_setI, nx_setI, us_setI, cn_setI, cs_setI, kd_setR, ln_setR, hi_setR, hr_setR, hl_setR, nx_setR, us_setR, cn_setR, cs_setR, kd_setL, ln_setL, hi_setL, hr_setL, hl_setL, nx_setL, us_setL, cn_setL, cs_setL, kd_mkO, ln_mkO, hi_mkO, hr_mkO, hl_mkO, nx_mkO, us_mkO, cn_mkO, cs_mkO, up1, up2, hn, hk, Nat.add_assoc]) ?_
  refine wp_aload_n d_73_45 (by rfl) ?_
  refine wp_bipush d_73_46 (by decide) ?_
  refine wp_newa (K := 100) d_73_48 rfl (by decide) ca_100 rfl (by omega) (by omega) (by decide) (by first | omega | (simp [kd_setI, ln_setI, hi_setI, hr_setI, hl_setI, nx_setI, us_setI, cn_setI, cs_setI, kd_setR, ln_setR, hi_setR, hr_setR, hl_setR, nx_setR, us_setR, cn_setR, cs_setR, kd_setL, ln_setL, hi_setL, hr_setL, hl_setL, nx_setL, us_setL, cn_setL, cs_setL, kd_mkO, ln_mkO, hi_mkO, hr_mkO, hl_mkO, nx_mkO, us_mkO, cn_mkO, cs_mkO]; omega)) (by first | omega | (simp [kd_setI, ln_setI, hi_setI, hr_setI, hl_setI, nx_setI, us_setI, cn_setI, cs_setI, kd_setR, ln_setR, hi_setR, hr_setR, hl_setR, nx_setR, us_setR, cn_setR, cs_setR, kd_setL, ln_setL, hi_setL, hr_setL, hl_setL, nx_setL, us_setL, cn_setL, cs_setL, kd_mkO, ln_mkO, hi_mkO, hr_mkO, hl_mkO, nx_mkO, us_mkO, cn_mkO, cs_mkO]; omega)) ?_
  refine wp_putR (10) d_73_50 fl_6_30 rfl rfl (Or.inr ⟨by rfl, by rfl, by rfl⟩) (by simp [kd_setI, ln_setI, hi_setI, hr_setI, hl_setI, nx_setI, us_setI, cn_setI, cs_setI, kd_setR, ln_setR, hi_setR, hr_setR, hl_setR, nx_setR, us_setR, cn_setR, cs_setR, kd_setL, ln_setL, hi_setL, hr_setL, hl_setL, nx_setL, us_setL, cn_setL, cs_setL, kd_mkO, ln_mkO, hi_mkO, hr_mkO, hl_mkO, nx_mkO, us_mkO, cn_mkO, cs_mkO, up1, up2, hn, hk, Nat.add_assoc]) ?_
  refine wp_aload_n d_73_53 (by rfl) ?_
  refine wp_bipush d_73_54 (by decide) ?_
  refine wp_newa (K := 100) d_73_56 rfl (by decide) ca_100 rfl (by omega) (by omega) (by decide) (by first | omega | (simp [kd_setI, ln_setI, hi_setI, hr_setI, hl_setI, nx_setI, us_setI, cn_setI, cs_setI, kd_setR, ln_setR, hi_setR, hr_setR, hl_setR, nx_setR, us_setR, cn_setR, cs_setR, kd_setL, ln_setL, hi_setL, hr_setL, hl_setL, nx_setL, us_setL, cn_setL, cs_setL, kd_mkO, ln_mkO, hi_mkO, hr_mkO, hl_mkO, nx_mkO, us_mkO, cn_mkO, cs_mkO]; omega)) (by first | omega | (simp [kd_setI, ln_setI, hi_setI, hr_setI, hl_setI, nx_setI, us_setI, cn_setI, cs_setI, kd_setR, ln_setR, hi_setR, hr_setR, hl_setR, nx_setR, us_setR, cn_setR, cs_setR, kd_setL, ln_setL, hi_setL, hr_setL, hl_setL, nx_setL, us_setL, cn_setL, cs_setL, kd_mkO, ln_mkO, hi_mkO, hr_mkO, hl_mkO, nx_mkO, us_mkO, cn_mkO, cs_mkO]; omega)) ?_
  refine wp_putR (11) d_73_58 fl_6_33 rfl rfl (Or.inr ⟨by rfl, by rfl, by rfl⟩) (by simp [kd_setI, ln_setI, hi_setI, hr_setI, hl_setI, nx_setI, us_setI, cn_setI, cs_setI, kd_setR, ln_setR, hi_setR, hr_setR, hl_setR, nx_setR, us_setR, cn_setR, cs_setR, kd_setL, ln_setL, hi_setL, hr_setL, hl_setL, nx_setL, us_setL, cn_setL, cs_setL, kd_mkO, ln_mkO, hi_mkO, hr_mkO, hl_mkO, nx_mkO, us_mkO, cn_mkO, cs_mkO, up1, up2, hn, hk, Nat.add_assoc]) ?_
  refine wp_vret d_73_61 rfl ?_
  have hb0 : ∀ b : Nat, b < a → b ≠ a := fun b hb => by omega
  refine ⟨rfl, ?_, by simp [kd_setI, ln_setI, hi_setI, hr_setI, hl_setI, nx_setI, us_setI, cn_setI, cs_setI, kd_setR, ln_setR, hi_setR, hr_setR, hl_setR, nx_setR, us_setR, cn_setR, cs_setR, kd_setL, ln_setL, hi_setL, hr_setL, hl_setL, nx_setL, us_setL, cn_setL, cs_setL, kd_mkO, ln_mkO, hi_mkO, hr_mkO, hl_mkO, nx_mkO, us_mkO, cn_mkO, cs_mkO, hn, Nat.add_assoc], by simp [kd_setI, ln_setI, hi_setI, hr_setI, hl_setI, nx_setI, us_setI, cn_setI, cs_setI, kd_setR, ln_setR, hi_setR, hr_setR, hl_setR, nx_setR, us_setR, cn_setR, cs_setR, kd_setL, ln_setL, hi_setL, hr_setL, hl_setL, nx_setL, us_setL, cn_setL, cs_setL, kd_mkO, ln_mkO, hi_mkO, hr_mkO, hl_mkO, nx_mkO, us_mkO, cn_mkO, cs_mkO, Nat.add_assoc], rfl, rfl, fun b hb => ?_⟩
  · simp [JouN, zA, nA, kd_setI, ln_setI, hi_setI, hr_setI, hl_setI, nx_setI, us_setI, cn_setI, cs_setI, kd_setR, ln_setR, hi_setR, hr_setR, hl_setR, nx_setR, us_setR, cn_setR, cs_setR, kd_setL, ln_setL, hi_setL, hr_setL, hl_setL, nx_setL, us_setL, cn_setL, cs_setL, kd_mkO, ln_mkO, hi_mkO, hr_mkO, hl_mkO, nx_mkO, us_mkO, cn_mkO, cs_mkO, up1, up2, hn, hk, hz, Nat.add_assoc]
  · have h1 : b ≠ a := by omega
    unfold eqA
    simp [kd_setI, ln_setI, hi_setI, hr_setI, hl_setI, nx_setI, us_setI, cn_setI, cs_setI, kd_setR, ln_setR, hi_setR, hr_setR, hl_setR, nx_setR, us_setR, cn_setR, cs_setR, kd_setL, ln_setL, hi_setL, hr_setL, hl_setL, nx_setL, us_setL, cn_setL, cs_setL, kd_mkO, ln_mkO, hi_mkO, hr_mkO, hl_mkO, nx_mkO, us_mkO, cn_mkO, cs_mkO, up1, up2, hn, h1, Nat.add_assoc, show ∀ k, b ≠ a + k from fun k => by omega]
/-- Onward at a -/
def OnwN (h : Hp) (a : Nat) : Prop := kd h a = 10 ∧ hr h a 0 = some (a + 1) ∧ hr h a 1 = some (a + 9) ∧ hr h a 2 = some (a + 17) ∧ mA h (a + 1) 7 16 ∧ mA h (a + 9) 7 16 ∧ zA h (a + 17) 16 ∧ hi h a 3 = 0
/-- Backward at a -/
def BacN (h : Hp) (a : Nat) : Prop := kd h a = 2 ∧ hr h a 0 = some (a + 1) ∧ hr h a 1 = some (a + 9) ∧ hi h a 2 = 0 ∧ hi h a 3 = 0 ∧ mA h (a + 1) 7 16 ∧ mA h (a + 9) 7 16
set_option maxRecDepth 100000 in
set_option maxHeartbeats 4000000 in
theorem s_Onward {a : Nat} {h : Hp} (hk : kd h a = 10) (hz : ∀ k, hi h a k = 0) (hn : nx h = a + 1) (r1 : nx h + 17 ≤ cn h) (r2 : us h + 254 ≤ cs h) : wp 90 0 (entL [vR (some a)] (mL 90)) [] h (fun v h' => v = none ∧ OnwN h' a ∧ nx h' = a + 18 ∧ us h' = us h + 254 ∧ cn h' = cn h ∧ cs h' = cs h ∧ ∀ b, b < a → eqA h h' b) noX := by
  refine wp_aload_n d_90_0 (by rfl) ?_
  refine wp_objInit d_90_1 oi_9 co_code ⟨Nat.le_of_ble_eq_true rfl, Nat.le_of_ble_eq_true rfl⟩ ?_
  refine wp_aload_n d_90_4 (by rfl) ?_
  refine wp_bipush d_90_5 (by decide) ?_
  refine wp_bipush d_90_7 (by decide) ?_
  refine wp_mna d_90_9 cl_9_9 ca_103 ca_100 (by decide) (by decide) (by decide) (by decide) (by first | (simp; omega) | omega) (by first | (simp; omega) | omega) ?_
  refine wp_putR (0) d_90_13 fl_9_11 rfl rfl (Or.inr ⟨by rfl, by rfl, by rfl⟩) (by first | exact hk | (rw [kd_mkM, if_neg (by omega), if_neg (by omega)]; assumption) | (rw [kd_mkO, up1_ne _ _ (by omega)]; assumption)) ?_
  have hne : ¬ a = nx h := by omega
  have k1 : kd (mkM h 7 16) a = 10 := by rw [kd_mkM, if_neg hne, if_neg (by omega)]; exact hk
  have n1 : nx (setR (mkM h 7 16) a 0 (some (nx h))) = a + 9 := by rw [nx_setR, nx_mkM, hn]; rfl
  have u1 : us (setR (mkM h 7 16) a 0 (some (nx h))) = us h + 119 := by rw [us_setR, us_mkM]; rfl
  have c1 : cn (setR (mkM h 7 16) a 0 (some (nx h))) = cn h := rfl
  have d1 : cs (setR (mkM h 7 16) a 0 (some (nx h))) = cs h := rfl
  have k1' : kd (setR (mkM h 7 16) a 0 (some (nx h))) a = 10 := k1
  have m1 : mA (setR (mkM h 7 16) a 0 (some (nx h))) (a + 1) 7 16 := mA_setR (by have := mA_of h 7 16; rw [hn] at this; exact this) (by omega)
  have v1 : hr (setR (mkM h 7 16) a 0 (some (nx h))) a 0 = some (a + 1) := by rw [hr_setR, up2_same, hn]
  have f1 : ∀ b, b < a → eqA h (setR (mkM h 7 16) a 0 (some (nx h))) b := fun b hb => (eqA_mkM (by omega)).trans (eqA_setR (by omega))
  have z1 : ∀ k, hi (setR (mkM h 7 16) a 0 (some (nx h))) a k = 0 := fun k => by rw [hi_setR, hi_mkM, if_neg (by omega)]; exact hz k
  generalize setR (mkM h 7 16) a 0 (some (nx h)) = h1 at *
  refine wp_aload_n d_90_16 (by rfl) ?_
  refine wp_bipush d_90_17 (by decide) ?_
  refine wp_bipush d_90_19 (by decide) ?_
  refine wp_mna d_90_21 cl_9_9 ca_103 ca_100 (by decide) (by decide) (by decide) (by decide) (by first | (simp; omega) | omega) (by first | (simp; omega) | omega) ?_
  refine wp_putR (1) d_90_25 fl_9_16 rfl rfl (Or.inr ⟨by rfl, by rfl, by rfl⟩) (by first | exact hk | (rw [kd_mkM, if_neg (by omega), if_neg (by omega)]; assumption) | (rw [kd_mkO, up1_ne _ _ (by omega)]; assumption)) ?_
  have k2 : kd (mkM h1 7 16) a = 10 := by rw [kd_mkM, if_neg (by omega), if_neg (by omega)]; exact k1'
  have n2 : nx (setR (mkM h1 7 16) a 1 (some (nx h1))) = a + 17 := by rw [nx_setR, nx_mkM, n1]; rfl
  have u2 : us (setR (mkM h1 7 16) a 1 (some (nx h1))) = us h + 238 := by rw [us_setR, us_mkM, u1]; rfl
  have c2 : cn (setR (mkM h1 7 16) a 1 (some (nx h1))) = cn h := c1
  have d2 : cs (setR (mkM h1 7 16) a 1 (some (nx h1))) = cs h := d1
  have k2' : kd (setR (mkM h1 7 16) a 1 (some (nx h1))) a = 10 := k2
  have m2 : mA (setR (mkM h1 7 16) a 1 (some (nx h1))) (a + 9) 7 16 := mA_setR (by have := mA_of h1 7 16; rw [n1] at this; exact this) (by omega)
  have m1' : mA (setR (mkM h1 7 16) a 1 (some (nx h1))) (a + 1) 7 16 := mA_setR (m1.kept (fun b h0 h1 => eqA_mkM (by omega)) (by omega)) (by omega)
  have v1' : hr (setR (mkM h1 7 16) a 1 (some (nx h1))) a 0 = some (a + 1) := by rw [hr_setR, up2_ne _ _ (fun q => absurd q.2 (by decide)), hr_mkM, if_neg (by omega), if_neg (by omega)]; exact v1
  have v2 : hr (setR (mkM h1 7 16) a 1 (some (nx h1))) a 1 = some (a + 9) := by rw [hr_setR, up2_same, n1]
  have f2 : ∀ b, b < a → eqA h (setR (mkM h1 7 16) a 1 (some (nx h1))) b := fun b hb => (f1 b hb).trans ((eqA_mkM (by omega)).trans (eqA_setR (by omega)))
  have z2 : ∀ k, hi (setR (mkM h1 7 16) a 1 (some (nx h1))) a k = 0 := fun k => by rw [hi_setR, hi_mkM, if_neg (by omega)]; exact z1 k
  generalize setR (mkM h1 7 16) a 1 (some (nx h1)) = h2 at *
  refine wp_aload_n d_90_28 (by rfl) ?_
  refine wp_bipush d_90_29 (by decide) ?_
  refine wp_newa (K := 100) d_90_31 rfl (by decide) ca_100 rfl (by omega) (by omega) (by decide) (by first | (simp; omega) | omega) (by first | (simp; omega) | omega) ?_
  refine wp_putR (2) d_90_33 fl_9_19 rfl rfl (Or.inr ⟨by rfl, by rfl, by rfl⟩) (by first | exact hk | (rw [kd_mkM, if_neg (by omega), if_neg (by omega)]; assumption) | (rw [kd_mkO, up1_ne _ _ (by omega)]; assumption)) ?_
  have k3 : kd (mkO h2 100 16) a = 10 := by rw [kd_mkO, up1_ne _ _ (by omega)]; exact k2'
  have e3 : ∀ b, b < a + 17 → eqA h2 (mkO h2 100 16) b := fun b hb => eqA_mkO (by omega)
  have q3 : OnwN (setR (mkO h2 100 16) a 2 (some (nx h2))) a := by
    refine ⟨k3, ?_, ?_, ?_, mA_setR (m1'.kept (fun b h0 h1 => e3 b (by omega)) (by omega)) (by omega), mA_setR (m2.kept (fun b h0 h1 => e3 b (by omega)) (by omega)) (by omega), ?_, ?_⟩
    · rw [hr_setR, up2_ne _ _ (fun q => absurd q.2 (by decide))]
      exact ((e3 a (by omega)).2.2.2.1 0).trans v1'
    · rw [hr_setR, up2_ne _ _ (fun q => absurd q.2 (by decide))]
      exact ((e3 a (by omega)).2.2.2.1 1).trans v2
    · rw [hr_setR, up2_same, n2]
    · have := zA_mkO (h := h2) (n := 16)
      rw [n2] at this
      exact this
    · exact ((e3 a (by omega)).2.2.1 3).trans (z2 3)
  refine wp_vret d_90_36 rfl ?_
  refine ⟨rfl, q3, by rw [nx_setR, nx_mkO, n2], by rw [us_setR, us_mkO, u2]; rfl, c2, d2, fun b hb => (f2 b hb).trans ((e3 b (by omega)).trans (eqA_setR (by omega)))⟩
set_option maxRecDepth 100000 in
set_option maxHeartbeats 4000000 in
theorem s_Backward {a : Nat} {h : Hp} (hk : kd h a = 2) (hz : ∀ k, hi h a k = 0) (hn : nx h = a + 1) (r1 : nx h + 16 ≤ cn h) (r2 : us h + 238 ≤ cs h) : wp 47 0 (entL [vR (some a)] (mL 47)) [] h (fun v h' => v = none ∧ BacN h' a ∧ nx h' = a + 17 ∧ us h' = us h + 238 ∧ cn h' = cn h ∧ cs h' = cs h ∧ ∀ b, b < a → eqA h h' b) noX := by
  refine wp_aload_n d_47_0 (by rfl) ?_
  refine wp_objInit d_47_1 oi_1 co_code ⟨Nat.le_of_ble_eq_true rfl, Nat.le_of_ble_eq_true rfl⟩ ?_
  refine wp_aload_n d_47_4 (by rfl) ?_
  refine wp_bipush d_47_5 (by decide) ?_
  refine wp_bipush d_47_7 (by decide) ?_
  refine wp_mna d_47_9 cl_1_9 ca_103 ca_100 (by decide) (by decide) (by decide) (by decide) (by first | (simp; omega) | omega) (by first | (simp; omega) | omega) ?_
  refine wp_putR (0) d_47_13 fl_1_11 rfl rfl (Or.inr ⟨by rfl, by rfl, by rfl⟩) (by first | exact hk | (rw [kd_mkM, if_neg (by omega), if_neg (by omega)]; assumption) | (rw [kd_mkO, up1_ne _ _ (by omega)]; assumption)) ?_
  have hne : ¬ a = nx h := by omega
  have k1 : kd (mkM h 7 16) a = 2 := by rw [kd_mkM, if_neg hne, if_neg (by omega)]; exact hk
  have n1 : nx (setR (mkM h 7 16) a 0 (some (nx h))) = a + 9 := by rw [nx_setR, nx_mkM, hn]; rfl
  have u1 : us (setR (mkM h 7 16) a 0 (some (nx h))) = us h + 119 := by rw [us_setR, us_mkM]; rfl
  have c1 : cn (setR (mkM h 7 16) a 0 (some (nx h))) = cn h := rfl
  have d1 : cs (setR (mkM h 7 16) a 0 (some (nx h))) = cs h := rfl
  have k1' : kd (setR (mkM h 7 16) a 0 (some (nx h))) a = 2 := k1
  have m1 : mA (setR (mkM h 7 16) a 0 (some (nx h))) (a + 1) 7 16 := mA_setR (by have := mA_of h 7 16; rw [hn] at this; exact this) (by omega)
  have v1 : hr (setR (mkM h 7 16) a 0 (some (nx h))) a 0 = some (a + 1) := by rw [hr_setR, up2_same, hn]
  have f1 : ∀ b, b < a → eqA h (setR (mkM h 7 16) a 0 (some (nx h))) b := fun b hb => (eqA_mkM (by omega)).trans (eqA_setR (by omega))
  have z1 : ∀ k, hi (setR (mkM h 7 16) a 0 (some (nx h))) a k = 0 := fun k => by rw [hi_setR, hi_mkM, if_neg (by omega)]; exact hz k
  generalize setR (mkM h 7 16) a 0 (some (nx h)) = h1 at *
  refine wp_aload_n d_47_16 (by rfl) ?_
  refine wp_bipush d_47_17 (by decide) ?_
  refine wp_bipush d_47_19 (by decide) ?_
  refine wp_mna d_47_21 cl_1_9 ca_103 ca_100 (by decide) (by decide) (by decide) (by decide) (by first | (simp; omega) | omega) (by first | (simp; omega) | omega) ?_
  refine wp_putR (1) d_47_25 fl_1_16 rfl rfl (Or.inr ⟨by rfl, by rfl, by rfl⟩) (by first | exact hk | (rw [kd_mkM, if_neg (by omega), if_neg (by omega)]; assumption) | (rw [kd_mkO, up1_ne _ _ (by omega)]; assumption)) ?_
  have k2 : kd (mkM h1 7 16) a = 2 := by rw [kd_mkM, if_neg (by omega), if_neg (by omega)]; exact k1'
  have n2 : nx (setR (mkM h1 7 16) a 1 (some (nx h1))) = a + 17 := by rw [nx_setR, nx_mkM, n1]; rfl
  have u2 : us (setR (mkM h1 7 16) a 1 (some (nx h1))) = us h + 238 := by rw [us_setR, us_mkM, u1]; rfl
  have c2 : cn (setR (mkM h1 7 16) a 1 (some (nx h1))) = cn h := c1
  have d2 : cs (setR (mkM h1 7 16) a 1 (some (nx h1))) = cs h := d1
  have k2' : kd (setR (mkM h1 7 16) a 1 (some (nx h1))) a = 2 := k2
  have m2 : mA (setR (mkM h1 7 16) a 1 (some (nx h1))) (a + 9) 7 16 := mA_setR (by have := mA_of h1 7 16; rw [n1] at this; exact this) (by omega)
  have m1' : mA (setR (mkM h1 7 16) a 1 (some (nx h1))) (a + 1) 7 16 := mA_setR (m1.kept (fun b h0 h1 => eqA_mkM (by omega)) (by omega)) (by omega)
  have v1' : hr (setR (mkM h1 7 16) a 1 (some (nx h1))) a 0 = some (a + 1) := by rw [hr_setR, up2_ne _ _ (fun q => absurd q.2 (by decide)), hr_mkM, if_neg (by omega), if_neg (by omega)]; exact v1
  have v2 : hr (setR (mkM h1 7 16) a 1 (some (nx h1))) a 1 = some (a + 9) := by rw [hr_setR, up2_same, n1]
  have f2 : ∀ b, b < a → eqA h (setR (mkM h1 7 16) a 1 (some (nx h1))) b := fun b hb => (f1 b hb).trans ((eqA_mkM (by omega)).trans (eqA_setR (by omega)))
  have z2 : ∀ k, hi (setR (mkM h1 7 16) a 1 (some (nx h1))) a k = 0 := fun k => by rw [hi_setR, hi_mkM, if_neg (by omega)]; exact z1 k
  refine wp_vret d_47_28 rfl ?_
  exact ⟨rfl, ⟨k2', v1', v2, z2 2, z2 3, m1', m2⟩, n2, u2, c2, d2, f2⟩
/-- Fares at f, its Offers of the stops below i made -/
def FarI (h : Hp) (f i : Nat) : Prop := kd h f = 5 ∧ hr h f 0 = some (f + 1) ∧ hr h f 1 = some (f + 2) ∧ (hi h f 2 = 0 ∧ hi h f 3 = 0 ∧ hi h f 4 = 0) ∧ (kd h (f + 1) = 107 ∧ ln h (f + 1) = 16) ∧ (kd h (f + 2) = 107 ∧ ln h (f + 2) = 16) ∧ ∀ s : Nat, s < i → hr h (f + 1) s = some (f + 3 + 6 * s) ∧ OffN h (f + 3 + 6 * s) ∧ hr h (f + 2) s = some (f + 6 + 6 * s) ∧ OffN h (f + 6 + 6 * s)
theorem FarI.kept {h h' : Hp} {f i : Nat} (q : FarI h f i) (e : ∀ b, f ≤ b → b < f + 3 + 6 * i → eqA h h' b) : FarI h' f i := by
  have e0 := e f (Nat.le_refl _) (by omega)
  have e1 := e (f + 1) (by omega) (by omega)
  have e2 := e (f + 2) (by omega) (by omega)
  obtain ⟨q1, q2, q3, ⟨q4, q5, q6⟩, ⟨q7, q8⟩, ⟨q9, q10⟩, q11⟩ := q
  refine ⟨e0.1.trans q1, (e0.2.2.2.1 _).trans q2, (e0.2.2.2.1 _).trans q3, ⟨(e0.2.2.1 _).trans q4, (e0.2.2.1 _).trans q5, (e0.2.2.1 _).trans q6⟩, ⟨e1.1.trans q7, e1.2.1.trans q8⟩, ⟨e2.1.trans q9, e2.2.1.trans q10⟩, fun s hs => ?_⟩
  obtain ⟨a1, a2, a3, a4⟩ := q11 s hs
  exact ⟨(e1.2.2.2.1 _).trans a1, a2.kept (fun b h0 h1 => e b (by omega) (by omega)), (e2.2.2.2.1 _).trans a3, a4.kept (fun b h0 h1 => e b (by omega) (by omega))⟩
set_option maxRecDepth 100000 in
set_option maxHeartbeats 4000000 in
theorem l_Fares {f : Nat} {Q : Option AV → Hp → Prop} : ∀ (n i : Nat) (h : Hp), i + n = 16 → FarI h f i → nx h = f + 3 + 6 * i → nx h + 6 * n ≤ cn h → us h + 70 * n ≤ cs h → (∀ h', FarI h' f 16 → nx h' = f + 99 → us h' = us h + 70 * n → cn h' = cn h → cs h' = cs h → (∀ b, b < f → eqA h h' b) → Q none h') → wp 56 24 [some (vR (some f)), some (vI (i : Int))] [] h Q noX := by
  intro n
  induction n with
  | zero =>
    intro i h hin hf hn r1 r2 hq
    have h16 : i = 16 := by omega
    subst h16
    refine wp_iload_n d_56_24 (by rfl) ?_
    refine wp_bipush d_56_25 (by decide) ?_
    refine wp_icmp_ge (tgt := 62) d_56_27 (by decide) (by omega) (by omega) (fun c_27 => ?_) (fun c_27 => ?_)
    · refine wp_vret d_56_62 rfl ?_
      exact hq h hf (by omega) (by omega) rfl rfl (fun _ _ => eqA.rfl)
    · exact absurd c_27 (by omega)
  | succ n ih =>
    intro i h hin hf hn r1 r2 hq
    obtain ⟨q1, q2, q3, q4, ⟨q7, q8⟩, ⟨q9, q10⟩, q11⟩ := hf
    refine wp_iload_n d_56_24 (by rfl) ?_
    refine wp_bipush d_56_25 (by decide) ?_
    refine wp_icmp_ge (tgt := 62) d_56_27 (by decide) (by omega) (by omega) (fun c_27 => ?_) (fun c_27 => ?_)
    · exact absurd c_27 (by omega)
    · refine wp_aload_n d_56_30 (by rfl) ?_
      refine wp_getR (0) d_56_31 fl_4_11 rfl rfl (by first | assumption | (rw [kd_mkO, up1_ne _ _ (by omega)]; assumption) | exact F1.1.trans q1) (by first | assumption | exact (F1.2.2.2.1 _).trans q3) ?_
      refine wp_iload_n d_56_34 (by rfl) ?_
      refine wp_new (ci := 8) d_56_35 cl_4_9 ci8 ⟨_, rfl⟩ (by decide) (by omega) (by omega) ?_
      refine wp_dup d_56_38 (by rfl) ?_
      refine wp_callIn d_56_39 c_56_20 rfl rfl (by rfl) (by rfl) (by exact Nat.le_of_ble_eq_true rfl) (by exact Nat.le_of_ble_eq_true rfl) (s_Offers (by rw [kd_mkO, up1_same]) (fun k => by rw [hi_mkO, up1_same]) rfl (by simp only [nx_mkO, cn_mkO]; omega) (by simp only [us_mkO, cs_mkO]; simp; omega)) (fun v_39 h_39 q_39 => ?_) (fun _ _ q => q.elim)
      obtain ⟨rfl, o1, n1, u1, c1, d1, g1⟩ := q_39
      have g1' : ∀ b, b < nx h → eqA h h_39 b := fun b hb => (eqA_mkO hb).trans (g1 b hb)
      have k1 : kd h_39 (f + 1) = 107 := (g1' (f + 1) (by omega)).1.trans q7
      have k1l : ln h_39 (f + 1) = 16 := (g1' (f + 1) (by omega)).2.1.trans q8
      have u1' : us h_39 = us h + 35 := by rw [u1, us_mkO]; rfl
      have c1' : cn h_39 = cn h := c1
      have d1' : cs h_39 = cs h := d1
      have ok1 : kd h_39 (nx h) = 8 + 1 := o1.1
      clear u1 c1 d1 g1
      refine wp_aastO (cb := 8) d_56_42 (by omega) (by omega) ok1 (by decide) (by rw [k1]; rfl) (by omega) (by omega) ?_
      have A1 : ∀ b, b < nx h → b ≠ f + 1 → eqA h (setR h_39 (f + 1) i (some (nx h))) b := fun b hb hb2 => (g1' b hb).trans (eqA_setR hb2)
      have B1 : ∀ s : Nat, s ≠ i → hr (setR h_39 (f + 1) i (some (nx h))) (f + 1) s = hr h (f + 1) s := fun s hs => by rw [hr_setR, up2_ne _ _ (fun q => hs (by omega))]; exact (g1' _ (by omega)).2.2.2.1 _
      have C1 : hr (setR h_39 (f + 1) i (some (nx h))) (f + 1) i = some (f + 3 + 6 * i) := by rw [hr_setR, up2_same, hn]
      have O1 : OffN (setR h_39 (f + 1) i (some (nx h))) (f + 3 + 6 * i) := by rw [← hn]; exact o1.kept (fun b h0 h1 => eqA_setR (by omega))
      have K1 : kd (setR h_39 (f + 1) i (some (nx h))) (f + 1) = 107 ∧ ln (setR h_39 (f + 1) i (some (nx h))) (f + 1) = 16 := ⟨k1, k1l⟩
      have N1 : nx (setR h_39 (f + 1) i (some (nx h))) = f + 6 + 6 * i := by rw [nx_setR, n1]; omega
      have U1 : us (setR h_39 (f + 1) i (some (nx h))) = us h + 35 := u1'
      have CC1 : cn (setR h_39 (f + 1) i (some (nx h))) = cn h := c1'
      have D1 : cs (setR h_39 (f + 1) i (some (nx h))) = cs h := d1'
      have H1 : ∀ k, hi (setR h_39 (f + 1) i (some (nx h))) (f + 1) k = hi h (f + 1) k := fun k => (g1' (f + 1) (by omega)).2.2.1 k
      have E1 : ∀ b, b < f → eqA h (setR h_39 (f + 1) i (some (nx h))) b := fun b hb => A1 b (by omega) (by omega)
      generalize setR h_39 (f + 1) i (some (nx h)) = j1 at *
      have F1 := A1 f (by omega) (by omega)
      have F2 := A1 (f + 2) (by omega) (by omega)
      refine wp_aload_n d_56_43 (by rfl) ?_
      refine wp_getR (1) d_56_44 fl_4_17 rfl rfl (by first | assumption | (rw [kd_mkO, up1_ne _ _ (by omega)]; assumption) | exact F1.1.trans q1) (by first | assumption | exact (F1.2.2.2.1 _).trans q3) ?_
      refine wp_iload_n d_56_47 (by rfl) ?_
      refine wp_new (ci := 8) d_56_48 cl_4_9 ci8 ⟨_, rfl⟩ (by decide) (by omega) (by omega) ?_
      refine wp_dup d_56_51 (by rfl) ?_
      refine wp_callIn d_56_52 c_56_20 rfl rfl (by rfl) (by rfl) (by exact Nat.le_of_ble_eq_true rfl) (by exact Nat.le_of_ble_eq_true rfl) (s_Offers (by rw [kd_mkO, up1_same]) (fun k => by rw [hi_mkO, up1_same]) rfl (by simp only [nx_mkO, cn_mkO]; omega) (by simp only [us_mkO, cs_mkO]; simp; omega)) (fun v_52 h_52 q_52 => ?_) (fun _ _ q => q.elim)
      obtain ⟨rfl, o2, n2, u2, c2, d2, g2⟩ := q_52
      have g2' : ∀ b, b < nx j1 → eqA j1 h_52 b := fun b hb => (eqA_mkO hb).trans (g2 b hb)
      have ok2 : kd h_52 (nx j1) = 8 + 1 := o2.1
      have k2 : kd h_52 (f + 2) = 107 := (g2' _ (by omega)).1.trans (F2.1.trans q9)
      have k2l : ln h_52 (f + 2) = 16 := (g2' _ (by omega)).2.1.trans (F2.2.1.trans q10)
      refine wp_aastO (cb := 8) d_56_55 (by omega) (by omega) ok2 (by decide) (by rw [k2]; rfl) (by omega) (by omega) ?_
      refine wp_iinc d_56_56 (by rfl) (by decide) ?_
      refine wp_goto (tgt := 24) d_56_59 (by decide) ?_
      refine wp_to [some (vR (some f)), some (vI ((i + 1 : Nat) : Int))] ⟨rfl, rfl, trivial⟩ ?_
      refine ih (i + 1) _ (by omega) ?_ ?_ ?_ ?_ (fun h' z1 z2 z3 z4 z5 z6 => hq h' z1 z2 ?_ (z4.trans (c2.trans CC1)) (z5.trans (d2.trans D1)) (fun b hb => ((E1 b hb).trans ((g2' b (by omega)).trans (eqA_setR (by omega)))).trans (z6 b hb)))
      · have A2 : ∀ b, b < nx j1 → b ≠ f + 2 → eqA j1 (setR h_52 (f + 2) i (some (nx j1))) b := fun b hb hb2 => (g2' b hb).trans (eqA_setR hb2)
        have E0 := F1.trans (A2 f (by omega) (by omega))
        have EB := A2 (f + 1) (by omega) (by omega)
        refine ⟨E0.1.trans q1, (E0.2.2.2.1 _).trans q2, (E0.2.2.2.1 _).trans q3, ⟨(E0.2.2.1 _).trans q4.1, (E0.2.2.1 _).trans q4.2.1, (E0.2.2.1 _).trans q4.2.2⟩, ⟨EB.1.trans K1.1, EB.2.1.trans K1.2⟩, ⟨k2, k2l⟩, fun s hs => ?_⟩
        by_cases hsi : s = i
        · subst hsi
          refine ⟨(EB.2.2.2.1 _).trans C1, O1.kept (fun b h0 h1 => A2 b (by omega) (by omega)), ?_, ?_⟩
          · rw [hr_setR, up2_same, N1]
          · rw [← N1]
            exact o2.kept (fun b h0 h1 => eqA_setR (by omega))
        · obtain ⟨a1, a2, a3, a4⟩ := q11 s (by omega)
          refine ⟨(EB.2.2.2.1 _).trans ((B1 s hsi).trans a1), a2.kept (fun b h0 h1 => (A1 b (by omega) (by omega)).trans (A2 b (by omega) (by omega))), ?_, a4.kept (fun b h0 h1 => (A1 b (by omega) (by omega)).trans (A2 b (by omega) (by omega)))⟩
          rw [hr_setR, up2_ne _ _ (fun q => hsi (by omega))]
          exact ((g2' _ (by omega)).2.2.2.1 _).trans ((F2.2.2.2.1 _).trans a3)
      · rw [nx_setR, n2]; omega
      · rw [nx_setR, cn_setR, n2, c2]
        show _ ≤ cn j1
        omega
      · rw [us_setR, cs_setR, u2, d2]
        simp only [us_mkO]
        show _ ≤ cs j1
        simp
        omega
      · rw [z3, us_setR, u2]
        simp only [us_mkO]
        simp
        omega
set_option maxRecDepth 100000 in
set_option maxHeartbeats 4000000 in
theorem s_Fares {a : Nat} {h : Hp} (hk : kd h a = 5) (hz : ∀ k, hi h a k = 0) (hn : nx h = a + 1) (r1 : nx h + 98 ≤ cn h) (r2 : us h + 1152 ≤ cs h) : wp 56 0 (entL [vR (some a)] (mL 56)) [] h (fun v h' => v = none ∧ FarI h' a 16 ∧ nx h' = a + 99 ∧ us h' = us h + 1152 ∧ cn h' = cn h ∧ cs h' = cs h ∧ ∀ b, b < a → eqA h h' b) noX := by
  refine wp_aload_n d_56_0 (by rfl) ?_
  refine wp_objInit d_56_1 oi_4 co_code ⟨Nat.le_of_ble_eq_true rfl, Nat.le_of_ble_eq_true rfl⟩ ?_
  refine wp_aload_n d_56_4 (by rfl) ?_
  refine wp_bipush d_56_5 (by decide) ?_
  refine wp_anew (K := 107) d_56_7 cl_4_9 rfl (by decide) ca_107 (by omega) (by omega) (by first | omega | (simp [kd_setI, ln_setI, hi_setI, hr_setI, hl_setI, nx_setI, us_setI, cn_setI, cs_setI, kd_setR, ln_setR, hi_setR, hr_setR, hl_setR, nx_setR, us_setR, cn_setR, cs_setR, kd_setL, ln_setL, hi_setL, hr_setL, hl_setL, nx_setL, us_setL, cn_setL, cs_setL, kd_mkO, ln_mkO, hi_mkO, hr_mkO, hl_mkO, nx_mkO, us_mkO, cn_mkO, cs_mkO]; omega)) (by first | omega | (simp [kd_setI, ln_setI, hi_setI, hr_setI, hl_setI, nx_setI, us_setI, cn_setI, cs_setI, kd_setR, ln_setR, hi_setR, hr_setR, hl_setR, nx_setR, us_setR, cn_setR, cs_setR, kd_setL, ln_setL, hi_setL, hr_setL, hl_setL, nx_setL, us_setL, cn_setL, cs_setL, kd_mkO, ln_mkO, hi_mkO, hr_mkO, hl_mkO, nx_mkO, us_mkO, cn_mkO, cs_mkO]; omega)) ?_
  refine wp_putR (0) d_56_10 fl_4_11 rfl rfl (Or.inl (by rfl)) (by simp [kd_setI, ln_setI, hi_setI, hr_setI, hl_setI, nx_setI, us_setI, cn_setI, cs_setI, kd_setR, ln_setR, hi_setR, hr_setR, hl_setR, nx_setR, us_setR, cn_setR, cs_setR, kd_setL, ln_setL, hi_setL, hr_setL, hl_setL, nx_setL, us_setL, cn_setL, cs_setL, kd_mkO, ln_mkO, hi_mkO, hr_mkO, hl_mkO, nx_mkO, us_mkO, cn_mkO, cs_mkO, up1, up2, hn, hk, Nat.add_assoc]) ?_
  refine wp_aload_n d_56_13 (by rfl) ?_
  refine wp_bipush d_56_14 (by decide) ?_
  refine wp_anew (K := 107) d_56_16 cl_4_9 rfl (by decide) ca_107 (by omega) (by omega) (by first | omega | (simp [kd_setI, ln_setI, hi_setI, hr_setI, hl_setI, nx_setI, us_setI, cn_setI, cs_setI, kd_setR, ln_setR, hi_setR, hr_setR, hl_setR, nx_setR, us_setR, cn_setR, cs_setR, kd_setL, ln_setL, hi_setL, hr_setL, hl_setL, nx_setL, us_setL, cn_setL, cs_setL, kd_mkO, ln_mkO, hi_mkO, hr_mkO, hl_mkO, nx_mkO, us_mkO, cn_mkO, cs_mkO]; omega)) (by first | omega | (simp [kd_setI, ln_setI, hi_setI, hr_setI, hl_setI, nx_setI, us_setI, cn_setI, cs_setI, kd_setR, ln_setR, hi_setR, hr_setR, hl_setR, nx_setR, us_setR, cn_setR, cs_setR, kd_setL, ln_setL, hi_setL, hr_setL, hl_setL, nx_setL, us_setL, cn_setL, cs_setL, kd_mkO, ln_mkO, hi_mkO, hr_mkO, hl_mkO, nx_mkO, us_mkO, cn_mkO, cs_mkO]; omega)) ?_
  refine wp_putR (1) d_56_19 fl_4_17 rfl rfl (Or.inl (by rfl)) (by simp [kd_setI, ln_setI, hi_setI, hr_setI, hl_setI, nx_setI, us_setI, cn_setI, cs_setI, kd_setR, ln_setR, hi_setR, hr_setR, hl_setR, nx_setR, us_setR, cn_setR, cs_setR, kd_setL, ln_setL, hi_setL, hr_setL, hl_setL, nx_setL, us_setL, cn_setL, cs_setL, kd_mkO, ln_mkO, hi_mkO, hr_mkO, hl_mkO, nx_mkO, us_mkO, cn_mkO, cs_mkO, up1, up2, hn, hk, Nat.add_assoc]) ?_
  refine wp_iconst d_56_22 ?_
  refine wp_istore_n d_56_23 (by decide) ?_
  refine wp_to [some (vR (some a)), some (vI ((0 : Nat) : Int))] ⟨rfl, rfl, trivial⟩ ?_
  refine l_Fares 16 0 _ rfl ?_ (by simp [nx_setR, nx_mkO, hn]) (by simp [nx_setR, nx_mkO, cn_setR, cn_mkO]; omega) (by simp [us_setR, us_mkO, cs_setR, cs_mkO]; omega) (fun h' z1 z2 z3 z4 z5 z6 => ⟨rfl, z1, z2, ?_, z4, z5, fun b hb => eqA.trans ?_ (z6 b hb)⟩)
  · refine ⟨?_, ?_, ?_, ⟨?_, ?_, ?_⟩, ⟨?_, ?_⟩, ⟨?_, ?_⟩, fun s hs => absurd hs (by omega)⟩ <;> simp [kd_setI, ln_setI, hi_setI, hr_setI, hl_setI, nx_setI, us_setI, cn_setI, cs_setI, kd_setR, ln_setR, hi_setR, hr_setR, hl_setR, nx_setR, us_setR, cn_setR, cs_setR, kd_setL, ln_setL, hi_setL, hr_setL, hl_setL, nx_setL, us_setL, cn_setL, cs_setL, kd_mkO, ln_mkO, hi_mkO, hr_mkO, hl_mkO, nx_mkO, us_mkO, cn_mkO, cs_mkO, up1, up2, hn, hk, hz, Nat.add_assoc]
  · rw [z3]; simp [us_setR, us_mkO, Nat.add_assoc]
  · exact ((eqA_mkO (by omega)).trans (eqA_setR (by omega))).trans ((eqA_mkO (by simp [nx_setR, nx_mkO]; omega)).trans (eqA_setR (by omega)))
theorem NetN.kept {h h' : Hp} {a : Nat} (q : NetN h a) (e : ∀ b, a ≤ b → b < a + 5 → eqA h h' b) : NetN h' a := by
  have e0 := e a (by omega) (by omega)
  obtain ⟨q1, q2, q3, q4, q5, ⟨q6, q7, q8, q9⟩, q10, q11, q12, q13⟩ := q
  exact ⟨e0.1.trans q1, (e0.2.2.2.1 _).trans q2, (e0.2.2.2.1 _).trans q3, (e0.2.2.2.1 _).trans q4, (e0.2.2.2.1 _).trans q5, ⟨(e0.2.2.1 _).trans q6, (e0.2.2.1 _).trans q7, (e0.2.2.1 _).trans q8, (e0.2.2.1 _).trans q9⟩, q10.kept (e _ (by omega) (by omega)), q11.kept (e _ (by omega) (by omega)), q12.kept (e _ (by omega) (by omega)), q13.kept (e _ (by omega) (by omega))⟩
theorem RunN.kept {h h' : Hp} {a : Nat} (q : RunN h a) (e : ∀ b, a ≤ b → b < a + 4 → eqA h h' b) : RunN h' a := by
  have e0 := e a (by omega) (by omega)
  obtain ⟨q1, q2, q3, q4, q5, q6, q7, q8⟩ := q
  exact ⟨e0.1.trans q1, (e0.2.2.2.1 _).trans q2, (e0.2.2.2.1 _).trans q3, (e0.2.2.2.1 _).trans q4, (e0.2.2.1 _).trans q5, q6.kept (e _ (by omega) (by omega)), q7.kept (e _ (by omega) (by omega)), q8.kept (e _ (by omega) (by omega))⟩
theorem BoaN.kept {h h' : Hp} {a : Nat} (q : BoaN h a) (e : ∀ b, a ≤ b → b < a + 2 → eqA h h' b) : BoaN h' a := by
  have e0 := e a (by omega) (by omega)
  have e1 := e (a + 1) (by omega) (by omega)
  obtain ⟨q1, q2, q3, q4, q5⟩ := q
  exact ⟨e0.1.trans q1, (e0.2.2.2.1 _).trans q2, (e0.2.2.1 _).trans q3, e1.1.trans q4, e1.2.1.trans q5⟩
theorem OnwN.kept {h h' : Hp} {a : Nat} (q : OnwN h a) (e : ∀ b, a ≤ b → b < a + 18 → eqA h h' b) : OnwN h' a := by
  have e0 := e a (by omega) (by omega)
  obtain ⟨q1, q2, q3, q4, q5, q6, q7, q8⟩ := q
  exact ⟨e0.1.trans q1, (e0.2.2.2.1 _).trans q2, (e0.2.2.2.1 _).trans q3, (e0.2.2.2.1 _).trans q4, q5.kept (fun b h0 h1 => e b (by omega) (by omega)) (by omega), q6.kept (fun b h0 h1 => e b (by omega) (by omega)) (by omega), q7.kept (e _ (by omega) (by omega)), (e0.2.2.1 _).trans q8⟩
theorem BacN.kept {h h' : Hp} {a : Nat} (q : BacN h a) (e : ∀ b, a ≤ b → b < a + 17 → eqA h h' b) : BacN h' a := by
  have e0 := e a (by omega) (by omega)
  obtain ⟨q1, q2, q3, q4, q5, q6, q7⟩ := q
  exact ⟨e0.1.trans q1, (e0.2.2.2.1 _).trans q2, (e0.2.2.2.1 _).trans q3, (e0.2.2.1 _).trans q4, (e0.2.2.1 _).trans q5, q6.kept (fun b h0 h1 => e b (by omega) (by omega)) (by omega), q7.kept (fun b h0 h1 => e b (by omega) (by omega)) (by omega)⟩
theorem JouN.kept {h h' : Hp} {a : Nat} (q : JouN h a) (e : ∀ b, a ≤ b → b < a + 8 → eqA h h' b) : JouN h' a := by
  have e0 := e a (by omega) (by omega)
  obtain ⟨q1, q2, q3, q4, q5, q6, q7, q8, ⟨i1, i2, i3, i4, i5, i6, i7⟩, q9, q10, q11, q12, q13, q14, q15⟩ := q
  exact ⟨e0.1.trans q1, (e0.2.2.2.1 _).trans q2, (e0.2.2.2.1 _).trans q3, (e0.2.2.2.1 _).trans q4, (e0.2.2.2.1 _).trans q5, (e0.2.2.2.1 _).trans q6, (e0.2.2.2.1 _).trans q7, (e0.2.2.2.1 _).trans q8, ⟨(e0.2.2.1 _).trans i1, (e0.2.2.1 _).trans i2, (e0.2.2.1 _).trans i3, (e0.2.2.1 _).trans i4, (e0.2.2.1 _).trans i5, (e0.2.2.1 _).trans i6, (e0.2.2.1 _).trans i7⟩, q9.kept (e _ (by omega) (by omega)), q10.kept (e _ (by omega) (by omega)), q11.kept (e _ (by omega) (by omega)), q12.kept (e _ (by omega) (by omega)), q13.kept (e _ (by omega) (by omega)), q14.kept (e _ (by omega) (by omega)), q15.kept (e _ (by omega) (by omega))⟩
/-- a new WhistleStop at w: its seven parts behind it -/
def WsN (h : Hp) (w : Nat) : Prop := kd h w = 1 ∧ (hr h w 0 = some (w + 1) ∧ hr h w 1 = some (w + 6) ∧ hr h w 2 = some (w + 10) ∧ hr h w 3 = some (w + 12) ∧ hr h w 4 = some (w + 30) ∧ hr h w 5 = some (w + 47) ∧ hr h w 6 = some (w + 146)) ∧ NetN h (w + 1) ∧ RunN h (w + 6) ∧ BoaN h (w + 10) ∧ OnwN h (w + 12) ∧ BacN h (w + 30) ∧ FarI h (w + 47) 16 ∧ JouN h (w + 146)
set_option maxRecDepth 100000 in
set_option maxHeartbeats 8000000 in
theorem s_WhistleStop {w : Nat} {h : Hp} (hk : kd h w = 1) (hn : nx h = w + 1) (r1 : nx h + 153 ≤ cn h) (r2 : us h + 3762 ≤ cs h) : wp 30 0 (entL [vR (some w)] (mL 30)) [] h (fun v h' => v = none ∧ WsN h' w ∧ nx h' = w + 154 ∧ us h' = us h + 3762 ∧ cn h' = cn h ∧ cs h' = cs h ∧ ∀ b, b < w → eqA h h' b) noX := by
  have R0 : us h = us h + 0 := rfl
  have C0 : cn h = cn h := rfl
  have D0 : cs h = cs h := rfl
  have F0 : ∀ b, b < w → eqA h h b := fun b hb => eqA.rfl
  have K0 : kd h w = 1 := hk
  have N0 : nx h = w + 1 := hn
  refine wp_aload_n d_30_0 (by rfl) ?_
  refine wp_objInit d_30_1 oi_0 co_code ⟨Nat.le_of_ble_eq_true rfl, Nat.le_of_ble_eq_true rfl⟩ ?_
  refine wp_aload_n d_30_4 (by rfl) ?_
  refine wp_new (ci := 7) d_30_5 cl_0_9 ci7 ⟨_, rfl⟩ (by decide) (by omega) (by omega) ?_
  refine wp_dup d_30_8 (by rfl) ?_
  rw [N0]
  refine wp_callIn d_30_9 c_30_11 rfl rfl (by rfl) (by rfl) (by exact Nat.le_of_ble_eq_true rfl) (by exact Nat.le_of_ble_eq_true rfl) (s_Network (a := w + 1) (by rw [kd_mkO, ← N0, up1_same]) (fun j => by rw [hi_mkO, ← N0, up1_same]) (by rw [nx_mkO, N0]) (by simp only [nx_mkO, cn_mkO]; omega) (by simp only [us_mkO, cs_mkO]; simp; omega)) (fun v_9 h_9 q_9 => ?_) (fun _ _ q => q.elim)
  obtain ⟨rfl, o, n, u, c, d, f⟩ := q_9
  have fr : ∀ b, b < w + 1 → eqA h h_9 b := fun b hb => (eqA_mkO (by omega)).trans (f b hb)
  have u2 : us h_9 = us h + 74 := by rw [u, us_mkO]; first | rfl | (simp; omega)
  have c2 : cn h_9 = cn h := c.trans C0
  have d2 : cs h_9 = cs h := d.trans D0
  have kw : kd h_9 w = 0 + 1 := (fr w (by omega)).1.trans K0
  clear u c d f
  refine wp_putR (0) d_30_12 fl_0_12 rfl rfl (Or.inr ⟨by rfl, by rfl, by rfl⟩) (by assumption) ?_
  have fr2 : ∀ b, b ≠ w → b < w + 1 → eqA h (setR h_9 w 0 (some (w + 1))) b := fun b hb hb2 => (fr b hb2).trans (eqA_setR hb)
  have K1 : kd (setR h_9 w 0 (some (w + 1))) w = 1 := kw
  have N1 : nx (setR h_9 w 0 (some (w + 1))) = w + 6 := by rw [nx_setR, n]
  have R1 : us (setR h_9 w 0 (some (w + 1))) = us h + 74 := u2
  have C1 : cn (setR h_9 w 0 (some (w + 1))) = cn h := c2
  have D1 : cs (setR h_9 w 0 (some (w + 1))) = cs h := d2
  have F1 : ∀ b, b < w → eqA h (setR h_9 w 0 (some (w + 1))) b := fun b hb => (F0 b hb).trans (fr2 b (by omega) (by omega))
  have V1_0 : hr (setR h_9 w 0 (some (w + 1))) w 0 = some (w + 1) := by rw [hr_setR, up2_same]
  have P1_0 : NetN (setR h_9 w 0 (some (w + 1))) (w + 1) := o.kept (fun b h0 h1 => eqA_setR (by omega))
  clear fr fr2 o kw u2 c2 d2 n
  generalize setR h_9 w 0 (some (w + 1)) = g1 at *
  refine wp_aload_n d_30_15 (by rfl) ?_
  refine wp_new (ci := 10) d_30_16 cl_0_16 ci10 ⟨_, rfl⟩ (by decide) (by omega) (by omega) ?_
  refine wp_dup d_30_19 (by rfl) ?_
  rw [N1]
  refine wp_callIn d_30_20 c_30_18 rfl rfl (by rfl) (by rfl) (by exact Nat.le_of_ble_eq_true rfl) (by exact Nat.le_of_ble_eq_true rfl) (s_Runs (a := w + 6) (by rw [kd_mkO, ← N1, up1_same]) (fun j => by rw [hi_mkO, ← N1, up1_same]) (by rw [nx_mkO, N1]) (by simp only [nx_mkO, cn_mkO]; omega) (by simp only [us_mkO, cs_mkO]; simp; omega)) (fun v_20 h_20 q_20 => ?_) (fun _ _ q => q.elim)
  obtain ⟨rfl, o, n, u, c, d, f⟩ := q_20
  have fr : ∀ b, b < w + 6 → eqA g1 h_20 b := fun b hb => (eqA_mkO (by omega)).trans (f b hb)
  have u2 : us h_20 = us h + 654 := by rw [u, us_mkO]; first | rfl | (simp; omega)
  have c2 : cn h_20 = cn h := c.trans C1
  have d2 : cs h_20 = cs h := d.trans D1
  have kw : kd h_20 w = 0 + 1 := (fr w (by omega)).1.trans K1
  clear u c d f
  refine wp_putR (1) d_30_23 fl_0_19 rfl rfl (Or.inr ⟨by rfl, by rfl, by rfl⟩) (by assumption) ?_
  have fr2 : ∀ b, b ≠ w → b < w + 6 → eqA g1 (setR h_20 w 1 (some (w + 6))) b := fun b hb hb2 => (fr b hb2).trans (eqA_setR hb)
  have K2 : kd (setR h_20 w 1 (some (w + 6))) w = 1 := kw
  have N2 : nx (setR h_20 w 1 (some (w + 6))) = w + 10 := by rw [nx_setR, n]
  have R2 : us (setR h_20 w 1 (some (w + 6))) = us h + 654 := u2
  have C2 : cn (setR h_20 w 1 (some (w + 6))) = cn h := c2
  have D2 : cs (setR h_20 w 1 (some (w + 6))) = cs h := d2
  have F2 : ∀ b, b < w → eqA h (setR h_20 w 1 (some (w + 6))) b := fun b hb => (F1 b hb).trans (fr2 b (by omega) (by omega))
  have V2_0 : hr (setR h_20 w 1 (some (w + 6))) w 0 = some (w + 1) := by rw [hr_setR, up2_ne _ _ (fun q => absurd q.2 (by decide))]; exact ((fr w (by omega)).2.2.2.1 _).trans V1_0
  have V2_1 : hr (setR h_20 w 1 (some (w + 6))) w 1 = some (w + 6) := by rw [hr_setR, up2_same]
  have P2_0 : NetN (setR h_20 w 1 (some (w + 6))) (w + 1) := P1_0.kept (fun b h0 h1 => fr2 b (by omega) (by omega))
  have P2_1 : RunN (setR h_20 w 1 (some (w + 6))) (w + 6) := o.kept (fun b h0 h1 => eqA_setR (by omega))
  clear fr fr2 o kw u2 c2 d2 n
  generalize setR h_20 w 1 (some (w + 6)) = g2 at *
  refine wp_aload_n d_30_26 (by rfl) ?_
  refine wp_new (ci := 2) d_30_27 cl_0_23 ci2 ⟨_, rfl⟩ (by decide) (by omega) (by omega) ?_
  refine wp_dup d_30_30 (by rfl) ?_
  rw [N2]
  refine wp_callIn d_30_31 c_30_25 rfl rfl (by rfl) (by rfl) (by exact Nat.le_of_ble_eq_true rfl) (by exact Nat.le_of_ble_eq_true rfl) (s_Board (a := w + 10) (by rw [kd_mkO, ← N2, up1_same]) (fun j => by rw [hi_mkO, ← N2, up1_same]) (by rw [nx_mkO, N2]) (by simp only [nx_mkO, cn_mkO]; omega) (by simp only [us_mkO, cs_mkO]; simp; omega)) (fun v_31 h_31 q_31 => ?_) (fun _ _ q => q.elim)
  obtain ⟨rfl, o, n, u, c, d, f⟩ := q_31
  have fr : ∀ b, b < w + 10 → eqA g2 h_31 b := fun b hb => (eqA_mkO (by omega)).trans (f b hb)
  have u2 : us h_31 = us h + 2000 := by rw [u, us_mkO]; first | rfl | (simp; omega)
  have c2 : cn h_31 = cn h := c.trans C2
  have d2 : cs h_31 = cs h := d.trans D2
  have kw : kd h_31 w = 0 + 1 := (fr w (by omega)).1.trans K2
  clear u c d f
  refine wp_putR (2) d_30_34 fl_0_26 rfl rfl (Or.inr ⟨by rfl, by rfl, by rfl⟩) (by assumption) ?_
  have fr2 : ∀ b, b ≠ w → b < w + 10 → eqA g2 (setR h_31 w 2 (some (w + 10))) b := fun b hb hb2 => (fr b hb2).trans (eqA_setR hb)
  have K3 : kd (setR h_31 w 2 (some (w + 10))) w = 1 := kw
  have N3 : nx (setR h_31 w 2 (some (w + 10))) = w + 12 := by rw [nx_setR, n]
  have R3 : us (setR h_31 w 2 (some (w + 10))) = us h + 2000 := u2
  have C3 : cn (setR h_31 w 2 (some (w + 10))) = cn h := c2
  have D3 : cs (setR h_31 w 2 (some (w + 10))) = cs h := d2
  have F3 : ∀ b, b < w → eqA h (setR h_31 w 2 (some (w + 10))) b := fun b hb => (F2 b hb).trans (fr2 b (by omega) (by omega))
  have V3_0 : hr (setR h_31 w 2 (some (w + 10))) w 0 = some (w + 1) := by rw [hr_setR, up2_ne _ _ (fun q => absurd q.2 (by decide))]; exact ((fr w (by omega)).2.2.2.1 _).trans V2_0
  have V3_1 : hr (setR h_31 w 2 (some (w + 10))) w 1 = some (w + 6) := by rw [hr_setR, up2_ne _ _ (fun q => absurd q.2 (by decide))]; exact ((fr w (by omega)).2.2.2.1 _).trans V2_1
  have V3_2 : hr (setR h_31 w 2 (some (w + 10))) w 2 = some (w + 10) := by rw [hr_setR, up2_same]
  have P3_0 : NetN (setR h_31 w 2 (some (w + 10))) (w + 1) := P2_0.kept (fun b h0 h1 => fr2 b (by omega) (by omega))
  have P3_1 : RunN (setR h_31 w 2 (some (w + 10))) (w + 6) := P2_1.kept (fun b h0 h1 => fr2 b (by omega) (by omega))
  have P3_2 : BoaN (setR h_31 w 2 (some (w + 10))) (w + 10) := o.kept (fun b h0 h1 => eqA_setR (by omega))
  clear fr fr2 o kw u2 c2 d2 n
  generalize setR h_31 w 2 (some (w + 10)) = g3 at *
  refine wp_aload_n d_30_37 (by rfl) ?_
  refine wp_new (ci := 9) d_30_38 cl_0_30 ci9 ⟨_, rfl⟩ (by decide) (by omega) (by omega) ?_
  refine wp_dup d_30_41 (by rfl) ?_
  rw [N3]
  refine wp_callIn d_30_42 c_30_32 rfl rfl (by rfl) (by rfl) (by exact Nat.le_of_ble_eq_true rfl) (by exact Nat.le_of_ble_eq_true rfl) (s_Onward (a := w + 12) (by rw [kd_mkO, ← N3, up1_same]) (fun j => by rw [hi_mkO, ← N3, up1_same]) (by rw [nx_mkO, N3]) (by simp only [nx_mkO, cn_mkO]; omega) (by simp only [us_mkO, cs_mkO]; simp; omega)) (fun v_42 h_42 q_42 => ?_) (fun _ _ q => q.elim)
  obtain ⟨rfl, o, n, u, c, d, f⟩ := q_42
  have fr : ∀ b, b < w + 12 → eqA g3 h_42 b := fun b hb => (eqA_mkO (by omega)).trans (f b hb)
  have u2 : us h_42 = us h + 2258 := by rw [u, us_mkO]; first | rfl | (simp; omega)
  have c2 : cn h_42 = cn h := c.trans C3
  have d2 : cs h_42 = cs h := d.trans D3
  have kw : kd h_42 w = 0 + 1 := (fr w (by omega)).1.trans K3
  clear u c d f
  refine wp_putR (3) d_30_45 fl_0_33 rfl rfl (Or.inr ⟨by rfl, by rfl, by rfl⟩) (by assumption) ?_
  have fr2 : ∀ b, b ≠ w → b < w + 12 → eqA g3 (setR h_42 w 3 (some (w + 12))) b := fun b hb hb2 => (fr b hb2).trans (eqA_setR hb)
  have K4 : kd (setR h_42 w 3 (some (w + 12))) w = 1 := kw
  have N4 : nx (setR h_42 w 3 (some (w + 12))) = w + 30 := by rw [nx_setR, n]
  have R4 : us (setR h_42 w 3 (some (w + 12))) = us h + 2258 := u2
  have C4 : cn (setR h_42 w 3 (some (w + 12))) = cn h := c2
  have D4 : cs (setR h_42 w 3 (some (w + 12))) = cs h := d2
  have F4 : ∀ b, b < w → eqA h (setR h_42 w 3 (some (w + 12))) b := fun b hb => (F3 b hb).trans (fr2 b (by omega) (by omega))
  have V4_0 : hr (setR h_42 w 3 (some (w + 12))) w 0 = some (w + 1) := by rw [hr_setR, up2_ne _ _ (fun q => absurd q.2 (by decide))]; exact ((fr w (by omega)).2.2.2.1 _).trans V3_0
  have V4_1 : hr (setR h_42 w 3 (some (w + 12))) w 1 = some (w + 6) := by rw [hr_setR, up2_ne _ _ (fun q => absurd q.2 (by decide))]; exact ((fr w (by omega)).2.2.2.1 _).trans V3_1
  have V4_2 : hr (setR h_42 w 3 (some (w + 12))) w 2 = some (w + 10) := by rw [hr_setR, up2_ne _ _ (fun q => absurd q.2 (by decide))]; exact ((fr w (by omega)).2.2.2.1 _).trans V3_2
  have V4_3 : hr (setR h_42 w 3 (some (w + 12))) w 3 = some (w + 12) := by rw [hr_setR, up2_same]
  have P4_0 : NetN (setR h_42 w 3 (some (w + 12))) (w + 1) := P3_0.kept (fun b h0 h1 => fr2 b (by omega) (by omega))
  have P4_1 : RunN (setR h_42 w 3 (some (w + 12))) (w + 6) := P3_1.kept (fun b h0 h1 => fr2 b (by omega) (by omega))
  have P4_2 : BoaN (setR h_42 w 3 (some (w + 12))) (w + 10) := P3_2.kept (fun b h0 h1 => fr2 b (by omega) (by omega))
  have P4_3 : OnwN (setR h_42 w 3 (some (w + 12))) (w + 12) := o.kept (fun b h0 h1 => eqA_setR (by omega))
  clear fr fr2 o kw u2 c2 d2 n
  generalize setR h_42 w 3 (some (w + 12)) = g4 at *
  refine wp_aload_n d_30_48 (by rfl) ?_
  refine wp_new (ci := 1) d_30_49 cl_0_37 ci1 ⟨_, rfl⟩ (by decide) (by omega) (by omega) ?_
  refine wp_dup d_30_52 (by rfl) ?_
  rw [N4]
  refine wp_callIn d_30_53 c_30_39 rfl rfl (by rfl) (by rfl) (by exact Nat.le_of_ble_eq_true rfl) (by exact Nat.le_of_ble_eq_true rfl) (s_Backward (a := w + 30) (by rw [kd_mkO, ← N4, up1_same]) (fun j => by rw [hi_mkO, ← N4, up1_same]) (by rw [nx_mkO, N4]) (by simp only [nx_mkO, cn_mkO]; omega) (by simp only [us_mkO, cs_mkO]; simp; omega)) (fun v_53 h_53 q_53 => ?_) (fun _ _ q => q.elim)
  obtain ⟨rfl, o, n, u, c, d, f⟩ := q_53
  have fr : ∀ b, b < w + 30 → eqA g4 h_53 b := fun b hb => (eqA_mkO (by omega)).trans (f b hb)
  have u2 : us h_53 = us h + 2500 := by rw [u, us_mkO]; first | rfl | (simp; omega)
  have c2 : cn h_53 = cn h := c.trans C4
  have d2 : cs h_53 = cs h := d.trans D4
  have kw : kd h_53 w = 0 + 1 := (fr w (by omega)).1.trans K4
  clear u c d f
  refine wp_putR (4) d_30_56 fl_0_40 rfl rfl (Or.inr ⟨by rfl, by rfl, by rfl⟩) (by assumption) ?_
  have fr2 : ∀ b, b ≠ w → b < w + 30 → eqA g4 (setR h_53 w 4 (some (w + 30))) b := fun b hb hb2 => (fr b hb2).trans (eqA_setR hb)
  have K5 : kd (setR h_53 w 4 (some (w + 30))) w = 1 := kw
  have N5 : nx (setR h_53 w 4 (some (w + 30))) = w + 47 := by rw [nx_setR, n]
  have R5 : us (setR h_53 w 4 (some (w + 30))) = us h + 2500 := u2
  have C5 : cn (setR h_53 w 4 (some (w + 30))) = cn h := c2
  have D5 : cs (setR h_53 w 4 (some (w + 30))) = cs h := d2
  have F5 : ∀ b, b < w → eqA h (setR h_53 w 4 (some (w + 30))) b := fun b hb => (F4 b hb).trans (fr2 b (by omega) (by omega))
  have V5_0 : hr (setR h_53 w 4 (some (w + 30))) w 0 = some (w + 1) := by rw [hr_setR, up2_ne _ _ (fun q => absurd q.2 (by decide))]; exact ((fr w (by omega)).2.2.2.1 _).trans V4_0
  have V5_1 : hr (setR h_53 w 4 (some (w + 30))) w 1 = some (w + 6) := by rw [hr_setR, up2_ne _ _ (fun q => absurd q.2 (by decide))]; exact ((fr w (by omega)).2.2.2.1 _).trans V4_1
  have V5_2 : hr (setR h_53 w 4 (some (w + 30))) w 2 = some (w + 10) := by rw [hr_setR, up2_ne _ _ (fun q => absurd q.2 (by decide))]; exact ((fr w (by omega)).2.2.2.1 _).trans V4_2
  have V5_3 : hr (setR h_53 w 4 (some (w + 30))) w 3 = some (w + 12) := by rw [hr_setR, up2_ne _ _ (fun q => absurd q.2 (by decide))]; exact ((fr w (by omega)).2.2.2.1 _).trans V4_3
  have V5_4 : hr (setR h_53 w 4 (some (w + 30))) w 4 = some (w + 30) := by rw [hr_setR, up2_same]
  have P5_0 : NetN (setR h_53 w 4 (some (w + 30))) (w + 1) := P4_0.kept (fun b h0 h1 => fr2 b (by omega) (by omega))
  have P5_1 : RunN (setR h_53 w 4 (some (w + 30))) (w + 6) := P4_1.kept (fun b h0 h1 => fr2 b (by omega) (by omega))
  have P5_2 : BoaN (setR h_53 w 4 (some (w + 30))) (w + 10) := P4_2.kept (fun b h0 h1 => fr2 b (by omega) (by omega))
  have P5_3 : OnwN (setR h_53 w 4 (some (w + 30))) (w + 12) := P4_3.kept (fun b h0 h1 => fr2 b (by omega) (by omega))
  have P5_4 : BacN (setR h_53 w 4 (some (w + 30))) (w + 30) := o.kept (fun b h0 h1 => eqA_setR (by omega))
  clear fr fr2 o kw u2 c2 d2 n
  generalize setR h_53 w 4 (some (w + 30)) = g5 at *
  refine wp_aload_n d_30_59 (by rfl) ?_
  refine wp_new (ci := 4) d_30_60 cl_0_44 ci4 ⟨_, rfl⟩ (by decide) (by omega) (by omega) ?_
  refine wp_dup d_30_63 (by rfl) ?_
  rw [N5]
  refine wp_callI d_30_64 c_30_46 rfl rfl (by rfl) (by rfl) (by exact Nat.le_of_ble_eq_true rfl) (by exact Nat.le_of_ble_eq_true rfl) (s_Fares (a := w + 47) (by rw [kd_mkO, ← N5, up1_same]) (fun j => by rw [hi_mkO, ← N5, up1_same]) (by rw [nx_mkO, N5]) (by simp only [nx_mkO, cn_mkO]; omega) (by simp only [us_mkO, cs_mkO]; simp; omega)) (fun v_64 h_64 q_64 => ?_) (fun _ _ q => q.elim)
  obtain ⟨rfl, o, n, u, c, d, f⟩ := q_64
  have fr : ∀ b, b < w + 47 → eqA g5 h_64 b := fun b hb => (eqA_mkO (by omega)).trans (f b hb)
  have u2 : us h_64 = us h + 3657 := by rw [u, us_mkO]; first | rfl | (simp; omega)
  have c2 : cn h_64 = cn h := c.trans C5
  have d2 : cs h_64 = cs h := d.trans D5
  have kw : kd h_64 w = 0 + 1 := (fr w (by omega)).1.trans K5
  clear u c d f
  refine wp_putR (5) d_30_67 fl_0_47 rfl rfl (Or.inr ⟨by rfl, by rfl, by rfl⟩) (by assumption) ?_
  have fr2 : ∀ b, b ≠ w → b < w + 47 → eqA g5 (setR h_64 w 5 (some (w + 47))) b := fun b hb hb2 => (fr b hb2).trans (eqA_setR hb)
  have K6 : kd (setR h_64 w 5 (some (w + 47))) w = 1 := kw
  have N6 : nx (setR h_64 w 5 (some (w + 47))) = w + 146 := by rw [nx_setR, n]
  have R6 : us (setR h_64 w 5 (some (w + 47))) = us h + 3657 := u2
  have C6 : cn (setR h_64 w 5 (some (w + 47))) = cn h := c2
  have D6 : cs (setR h_64 w 5 (some (w + 47))) = cs h := d2
  have F6 : ∀ b, b < w → eqA h (setR h_64 w 5 (some (w + 47))) b := fun b hb => (F5 b hb).trans (fr2 b (by omega) (by omega))
  have V6_0 : hr (setR h_64 w 5 (some (w + 47))) w 0 = some (w + 1) := by rw [hr_setR, up2_ne _ _ (fun q => absurd q.2 (by decide))]; exact ((fr w (by omega)).2.2.2.1 _).trans V5_0
  have V6_1 : hr (setR h_64 w 5 (some (w + 47))) w 1 = some (w + 6) := by rw [hr_setR, up2_ne _ _ (fun q => absurd q.2 (by decide))]; exact ((fr w (by omega)).2.2.2.1 _).trans V5_1
  have V6_2 : hr (setR h_64 w 5 (some (w + 47))) w 2 = some (w + 10) := by rw [hr_setR, up2_ne _ _ (fun q => absurd q.2 (by decide))]; exact ((fr w (by omega)).2.2.2.1 _).trans V5_2
  have V6_3 : hr (setR h_64 w 5 (some (w + 47))) w 3 = some (w + 12) := by rw [hr_setR, up2_ne _ _ (fun q => absurd q.2 (by decide))]; exact ((fr w (by omega)).2.2.2.1 _).trans V5_3
  have V6_4 : hr (setR h_64 w 5 (some (w + 47))) w 4 = some (w + 30) := by rw [hr_setR, up2_ne _ _ (fun q => absurd q.2 (by decide))]; exact ((fr w (by omega)).2.2.2.1 _).trans V5_4
  have V6_5 : hr (setR h_64 w 5 (some (w + 47))) w 5 = some (w + 47) := by rw [hr_setR, up2_same]
  have P6_0 : NetN (setR h_64 w 5 (some (w + 47))) (w + 1) := P5_0.kept (fun b h0 h1 => fr2 b (by omega) (by omega))
  have P6_1 : RunN (setR h_64 w 5 (some (w + 47))) (w + 6) := P5_1.kept (fun b h0 h1 => fr2 b (by omega) (by omega))
  have P6_2 : BoaN (setR h_64 w 5 (some (w + 47))) (w + 10) := P5_2.kept (fun b h0 h1 => fr2 b (by omega) (by omega))
  have P6_3 : OnwN (setR h_64 w 5 (some (w + 47))) (w + 12) := P5_3.kept (fun b h0 h1 => fr2 b (by omega) (by omega))
  have P6_4 : BacN (setR h_64 w 5 (some (w + 47))) (w + 30) := P5_4.kept (fun b h0 h1 => fr2 b (by omega) (by omega))
  have P6_5 : FarI (setR h_64 w 5 (some (w + 47))) (w + 47) 16 := o.kept (fun b h0 h1 => eqA_setR (by omega))
  clear fr fr2 o kw u2 c2 d2 n
  generalize setR h_64 w 5 (some (w + 47)) = g6 at *
  refine wp_aload_n d_30_70 (by rfl) ?_
  refine wp_new (ci := 6) d_30_71 cl_0_51 ci6 ⟨_, rfl⟩ (by decide) (by omega) (by omega) ?_
  refine wp_dup d_30_74 (by rfl) ?_
  rw [N6]
  refine wp_callIn d_30_75 c_30_53 rfl rfl (by rfl) (by rfl) (by exact Nat.le_of_ble_eq_true rfl) (by exact Nat.le_of_ble_eq_true rfl) (s_Journey (a := w + 146) (by rw [kd_mkO, ← N6, up1_same]) (fun j => by rw [hi_mkO, ← N6, up1_same]) (by rw [nx_mkO, N6]) (by simp only [nx_mkO, cn_mkO]; omega) (by simp only [us_mkO, cs_mkO]; simp; omega)) (fun v_75 h_75 q_75 => ?_) (fun _ _ q => q.elim)
  obtain ⟨rfl, o, n, u, c, d, f⟩ := q_75
  have fr : ∀ b, b < w + 146 → eqA g6 h_75 b := fun b hb => (eqA_mkO (by omega)).trans (f b hb)
  have u2 : us h_75 = us h + 3762 := by rw [u, us_mkO]; first | rfl | (simp; omega)
  have c2 : cn h_75 = cn h := c.trans C6
  have d2 : cs h_75 = cs h := d.trans D6
  have kw : kd h_75 w = 0 + 1 := (fr w (by omega)).1.trans K6
  clear u c d f
  refine wp_putR (6) d_30_78 fl_0_54 rfl rfl (Or.inr ⟨by rfl, by rfl, by rfl⟩) (by assumption) ?_
  have fr2 : ∀ b, b ≠ w → b < w + 146 → eqA g6 (setR h_75 w 6 (some (w + 146))) b := fun b hb hb2 => (fr b hb2).trans (eqA_setR hb)
  have K7 : kd (setR h_75 w 6 (some (w + 146))) w = 1 := kw
  have N7 : nx (setR h_75 w 6 (some (w + 146))) = w + 154 := by rw [nx_setR, n]
  have R7 : us (setR h_75 w 6 (some (w + 146))) = us h + 3762 := u2
  have C7 : cn (setR h_75 w 6 (some (w + 146))) = cn h := c2
  have D7 : cs (setR h_75 w 6 (some (w + 146))) = cs h := d2
  have F7 : ∀ b, b < w → eqA h (setR h_75 w 6 (some (w + 146))) b := fun b hb => (F6 b hb).trans (fr2 b (by omega) (by omega))
  have V7_0 : hr (setR h_75 w 6 (some (w + 146))) w 0 = some (w + 1) := by rw [hr_setR, up2_ne _ _ (fun q => absurd q.2 (by decide))]; exact ((fr w (by omega)).2.2.2.1 _).trans V6_0
  have V7_1 : hr (setR h_75 w 6 (some (w + 146))) w 1 = some (w + 6) := by rw [hr_setR, up2_ne _ _ (fun q => absurd q.2 (by decide))]; exact ((fr w (by omega)).2.2.2.1 _).trans V6_1
  have V7_2 : hr (setR h_75 w 6 (some (w + 146))) w 2 = some (w + 10) := by rw [hr_setR, up2_ne _ _ (fun q => absurd q.2 (by decide))]; exact ((fr w (by omega)).2.2.2.1 _).trans V6_2
  have V7_3 : hr (setR h_75 w 6 (some (w + 146))) w 3 = some (w + 12) := by rw [hr_setR, up2_ne _ _ (fun q => absurd q.2 (by decide))]; exact ((fr w (by omega)).2.2.2.1 _).trans V6_3
  have V7_4 : hr (setR h_75 w 6 (some (w + 146))) w 4 = some (w + 30) := by rw [hr_setR, up2_ne _ _ (fun q => absurd q.2 (by decide))]; exact ((fr w (by omega)).2.2.2.1 _).trans V6_4
  have V7_5 : hr (setR h_75 w 6 (some (w + 146))) w 5 = some (w + 47) := by rw [hr_setR, up2_ne _ _ (fun q => absurd q.2 (by decide))]; exact ((fr w (by omega)).2.2.2.1 _).trans V6_5
  have V7_6 : hr (setR h_75 w 6 (some (w + 146))) w 6 = some (w + 146) := by rw [hr_setR, up2_same]
  have P7_0 : NetN (setR h_75 w 6 (some (w + 146))) (w + 1) := P6_0.kept (fun b h0 h1 => fr2 b (by omega) (by omega))
  have P7_1 : RunN (setR h_75 w 6 (some (w + 146))) (w + 6) := P6_1.kept (fun b h0 h1 => fr2 b (by omega) (by omega))
  have P7_2 : BoaN (setR h_75 w 6 (some (w + 146))) (w + 10) := P6_2.kept (fun b h0 h1 => fr2 b (by omega) (by omega))
  have P7_3 : OnwN (setR h_75 w 6 (some (w + 146))) (w + 12) := P6_3.kept (fun b h0 h1 => fr2 b (by omega) (by omega))
  have P7_4 : BacN (setR h_75 w 6 (some (w + 146))) (w + 30) := P6_4.kept (fun b h0 h1 => fr2 b (by omega) (by omega))
  have P7_5 : FarI (setR h_75 w 6 (some (w + 146))) (w + 47) 16 := P6_5.kept (fun b h0 h1 => fr2 b (by omega) (by omega))
  have P7_6 : JouN (setR h_75 w 6 (some (w + 146))) (w + 146) := o.kept (fun b h0 h1 => eqA_setR (by omega))
  clear fr fr2 o kw u2 c2 d2 n
  generalize setR h_75 w 6 (some (w + 146)) = g7 at *
  refine wp_vret d_30_81 rfl ?_
  exact ⟨rfl, ⟨K7, ⟨V7_0, V7_1, V7_2, V7_3, V7_4, V7_5, V7_6⟩, P7_0, P7_1, P7_2, P7_3, P7_4, P7_5, P7_6⟩, N7, R7, C7, D7, F7⟩
end
section
/-! ===== journeys, as numbers (no machine here) ===== -/
/-- a run: how many calls, their stops, arrivals, departures, its price -/
abbrev Rn : Type := Int × (Int → Int) × (Int → Int) × (Int → Int) × Int
def rz (r : Rn) : Int := r.1
def rs (r : Rn) : Int → Int := r.2.1
def ra (r : Rn) : Int → Int := r.2.2.1
def rd (r : Rn) : Int → Int := r.2.2.2.1
def rp (r : Rn) : Int := r.2.2.2.2
/-- ready to ride: from an arrival (A) at that stop, its change added (not at the start), or on foot -/
def RDof (c : Int → Int) (W : Int → Int → Int → Prop) (L : Int) (k : Nat) (A : Int → Int → Int → Prop) (s t p : Int) : Prop := ∃ s' t', A s' t' p ∧ ((s = s' ∧ t = t' + (if k = 0 then 0 else c s')) ∨ ∃ m, W s' s m ∧ t = t' + m ∧ t ≤ L)
/-- at a stop behind k rides (not on foot) at a time, for a price; all by L -/
def JA (c : Int → Int) (W : Int → Int → Int → Prop) (R : Rn → Prop) (o T L : Int) : Nat → Int → Int → Int → Prop
  | 0 => fun s t p => s = o ∧ t = T ∧ p = 0
  | k + 1 => fun s t p => ∃ s0 t0 p0 r i j, RDof c W L k (JA c W R o T L k) s0 t0 p0 ∧ R r ∧ 0 ≤ i ∧ i < j ∧ j < rz r ∧ rs r i = s0 ∧ t0 ≤ rd r i ∧ rs r j = s ∧ ra r j = t ∧ t ≤ L ∧ p = p0 + rp r
abbrev JR (c : Int → Int) (W : Int → Int → Int → Prop) (R : Rn → Prop) (o T L : Int) (k : Nat) : Int → Int → Int → Prop := RDof c W L k (JA c W R o T L k)
/-- a journey with k rides ends there -/
def JE (c : Int → Int) (W : Int → Int → Int → Prop) (R : Rn → Prop) (o T L : Int) (k : Nat) (s t p : Int) : Prop := JA c W R o T L k s t p ∨ ∃ s' t' m, JA c W R o T L k s' t' p ∧ W s' s m ∧ t = t' + m ∧ t ≤ L
/-- what holds of every timetable: stops below n, changes 0 to 30, ways of a minute and more, runs in order -/
def Net (n : Int) (c : Int → Int) (W : Int → Int → Int → Prop) (R : Rn → Prop) : Prop :=
  (∀ s, 0 ≤ s → s < n → 0 ≤ c s ∧ c s ≤ 30) ∧ (∀ s s' m, W s s' m → (0 ≤ s ∧ s < n) ∧ (0 ≤ s' ∧ s' < n) ∧ 1 ≤ m ∧ m ≤ 60) ∧ (∀ s s' m, W s s' m → W s' s m) ∧
  (∀ r, R r → 0 ≤ rp r ∧ (∀ i, 0 ≤ i → i < rz r → (0 ≤ rs r i ∧ rs r i < n) ∧ 0 ≤ ra r i ∧ ra r i ≤ rd r i ∧ rd r i < 1000000) ∧ ∀ i j, 0 ≤ i → i < j → j < rz r → rd r i ≤ ra r j)
section ONW
variable {n : Int} {c : Int → Int} {W : Int → Int → Int → Prop} {R : Rn → Prop} {o T L : Int}
theorem JA.range (N : Net n c W R) (ho : 0 ≤ o ∧ o < n) : ∀ (k : Nat) (s t p : Int), JA c W R o T L k s t p → 0 ≤ s ∧ s < n := by
  intro k
  cases k with
  | zero => rintro s t p ⟨rfl, -, -⟩; exact ho
  | succ k =>
    rintro s t p ⟨s0, t0, p0, r, i, j, -, hr, h0, h1, h2, -, -, rfl, -⟩
    exact ((N.2.2.2 r hr).2.1 j (by omega) h2).1
theorem JR.range (N : Net n c W R) (ho : 0 ≤ o ∧ o < n) {k : Nat} {s t p : Int} (h : JR c W R o T L k s t p) : 0 ≤ s ∧ s < n := by
  obtain ⟨s', t', ha, ⟨rfl, -⟩ | ⟨m, hw, -⟩⟩ := h
  · exact JA.range N ho k _ _ _ ha
  · exact (N.2.1 _ _ _ hw).2.1
theorem JE.range (N : Net n c W R) (ho : 0 ≤ o ∧ o < n) {k : Nat} {s t p : Int} (h : JE c W R o T L k s t p) : 0 ≤ s ∧ s < n := by
  obtain ha | ⟨s', t', m, ha, hw, -⟩ := h
  · exact JA.range N ho k _ _ _ ha
  · exact (N.2.1 _ _ _ hw).2.1
/-- one never is anywhere ahead of T, and nothing costs less than nothing -/
theorem JA.ge (N : Net n c W R) (ho : 0 ≤ o ∧ o < n) : ∀ (k : Nat) (s t p : Int), JA c W R o T L k s t p → T ≤ t ∧ 0 ≤ p := by
  intro k
  induction k with
  | zero => rintro s t p ⟨-, rfl, rfl⟩; omega
  | succ k ih =>
    rintro s t p ⟨s0, t0, p0, r, i, j, ⟨s', t', ha, hb⟩, hr, h0, h1, h2, h3, h4, h5, h6, h7, h8⟩
    have a1 := ih _ _ _ ha
    have a2 := (N.2.2.2 r hr).2.2 i j h0 h1 h2
    have a3 := (N.2.2.2 r hr).1
    have a4 := N.1 s' (JA.range N ho k _ _ _ ha).1 (JA.range N ho k _ _ _ ha).2
    rcases hb with ⟨-, hb⟩ | ⟨m, hw, hb, -⟩
    · split at hb <;> omega
    · have := (N.2.1 _ _ _ hw).2.2.1
      omega
theorem JE.ge (N : Net n c W R) (ho : 0 ≤ o ∧ o < n) {k : Nat} {s t p : Int} (h : JE c W R o T L k s t p) : T ≤ t ∧ 0 ≤ p := by
  obtain ha | ⟨s', t', m, ha, hw, rfl, -⟩ := h
  · exact JA.ge N ho k _ _ _ ha
  · have := JA.ge N ho k _ _ _ ha
    have := (N.2.1 _ _ _ hw).2.2.1
    omega
theorem JA.le (hT : T ≤ L) {k : Nat} {s t p : Int} (h : JA c W R o T L k s t p) : t ≤ L := by
  cases k with
  | zero => obtain ⟨-, rfl, -⟩ := h; exact hT
  | succ k => obtain ⟨s0, t0, p0, r, i, j, -, -, -, -, -, -, -, -, -, h, -⟩ := h; exact h
theorem JE.le (hT : T ≤ L) {k : Nat} {s t p : Int} (h : JE c W R o T L k s t p) : t ≤ L := by
  obtain ha | ⟨s', t', m, ha, hw, -, h⟩ := h
  · exact JA.le hT ha
  · exact h
/-- what rounds make: by foot f, ready y, ended e, all of them exact up to k rides -/
def Exact (n : Int) (c : Int → Int) (W : Int → Int → Int → Prop) (R : Rn → Prop) (o T L : Int) (k : Nat) (f y e : Int → Int) : Prop :=
  (∀ s, 0 ≤ s → s < n → f s = 1000000000 ∨ ∃ j p, j ≤ k ∧ JA c W R o T L j s (f s) p) ∧ (∀ j s t p, j ≤ k → JA c W R o T L j s t p → f s ≤ t) ∧
  (∀ s, 0 ≤ s → s < n → 1000000000 ≤ y s ∨ ∃ j p, j ≤ k ∧ JR c W R o T L j s (y s) p) ∧ (∀ j s t p, j ≤ k → JR c W R o T L j s t p → y s ≤ t) ∧
  (∀ s, 0 ≤ s → s < n → e s = 1000000000 ∨ ∃ j p, j ≤ k ∧ JE c W R o T L j s (e s) p) ∧ (∀ j s t p, j ≤ k → JE c W R o T L j s t p → e s ≤ t) ∧
  (∀ s, 0 ≤ s → s < n → f s ≤ 1000000000 ∧ y s ≤ f s + c s) ∧ (∀ s s' m, W s s' m → f s + m ≤ L → y s' ≤ f s + m)
/-- a round of rides: y ready, f before, f' behind -/
def RideR (n : Int) (R : Rn → Prop) (L : Int) (y f f' : Int → Int) : Prop :=
  (∀ s, 0 ≤ s → s < n → f' s ≤ f s ∧ (f' s = f s ∨ ∃ r i j, R r ∧ 0 ≤ i ∧ i < j ∧ j < rz r ∧ y (rs r i) ≤ rd r i ∧ rs r j = s ∧ ra r j = f' s ∧ ra r j ≤ L)) ∧ ∀ r i j, R r → 0 ≤ i → i < j → j < rz r → y (rs r i) ≤ rd r i → ra r j ≤ L → f' (rs r j) ≤ ra r j
/-- least of z s and of what comes on foot -/
def WalkR (n : Int) (W : Int → Int → Int → Prop) (L : Int) (f z z' : Int → Int) : Prop :=
  (∀ s, 0 ≤ s → s < n → z' s ≤ z s ∧ (z' s = z s ∨ ∃ s' m, W s' s m ∧ f s' + m ≤ L ∧ z' s = f s' + m)) ∧ ∀ s' s m, W s' s m → f s' + m ≤ L → z' s ≤ f s' + m
def Closed (R : Rn → Prop) (L : Int) (f y : Int → Int) : Prop := ∀ r i j, R r → 0 ≤ i → i < j → j < rz r → y (rs r i) ≤ rd r i → ra r j ≤ L → f (rs r j) ≤ ra r j
theorem Exact.start (N : Net n c W R) (ho : 0 ≤ o ∧ o < n) (hT : T < 1000000) (hTL : T ≤ L) {f y0 e0 y e : Int → Int} (hf : ∀ s, 0 ≤ s → s < n → f s = if s = o then T else 1000000000) (hy : ∀ s, 0 ≤ s → s < n → y0 s = f s) (he : ∀ s, 0 ≤ s → s < n → e0 s = f s) (hL : L < 1000000) (w1 : WalkR n W L f y0 y) (w2 : WalkR n W L f e0 e) : Exact n c W R o T L 0 f y e := by
  have fo : ∀ s, 0 ≤ s → s < n → (s = o ∧ f s = T) ∨ f s = 1000000000 := fun s h0 h1 => by
    rw [hf s h0 h1]
    by_cases hs : s = o
    · exact Or.inl ⟨hs, if_pos hs⟩
    · exact Or.inr (if_neg hs)
  have foo : f o = T := by rw [hf o ho.1 ho.2, if_pos rfl]
  have a0 : JA c W R o T L 0 o T 0 := ⟨rfl, rfl, rfl⟩
  refine ⟨fun s h0 h1 => ?_, ?_, fun s h0 h1 => ?_, ?_, fun s h0 h1 => ?_, ?_, fun s h0 h1 => ?_, w1.2⟩
  · rcases fo s h0 h1 with ⟨rfl, h⟩ | h
    · exact Or.inr ⟨0, 0, Nat.le_refl _, by rw [h]; exact a0⟩
    · exact Or.inl h
  · intro j s t p hj h
    obtain rfl : j = 0 := by omega
    obtain ⟨rfl, rfl, -⟩ := h
    omega
  · rcases (w1.1 s h0 h1).2 with h | ⟨s', m, hw, hl, h⟩
    · rw [h, hy s h0 h1]
      rcases fo s h0 h1 with ⟨rfl, h⟩ | h
      · exact Or.inr ⟨0, 0, Nat.le_refl _, s, T, a0, Or.inl ⟨rfl, by rw [h]; simp⟩⟩
      · exact Or.inl (by rw [h]; decide)
    · have b := N.2.1 _ _ _ hw
      rcases fo s' b.1.1 b.1.2 with ⟨rfl, h9⟩ | h9
      · exact Or.inr ⟨0, 0, Nat.le_refl _, s', T, a0, Or.inr ⟨m, hw, by omega, by omega⟩⟩
      · rw [h9] at hl; omega
  · intro j s t p hj h
    obtain rfl : j = 0 := by omega
    obtain ⟨s', t', ⟨rfl, rfl, -⟩, ⟨rfl, h⟩ | ⟨m, hw, rfl, hl⟩⟩ := h
    · have := (w1.1 s ho.1 ho.2).1
      rw [hy s ho.1 ho.2, foo] at this
      simp at h
      omega
    · have := w1.2 _ _ _ hw (by omega)
      omega
  · rcases (w2.1 s h0 h1).2 with h | ⟨s', m, hw, hl, h⟩
    · rw [h, he s h0 h1]
      rcases fo s h0 h1 with ⟨rfl, h⟩ | h
      · exact Or.inr ⟨0, 0, Nat.le_refl _, Or.inl (by rw [h]; exact a0)⟩
      · exact Or.inl h
    · have b := N.2.1 _ _ _ hw
      rcases fo s' b.1.1 b.1.2 with ⟨rfl, h9⟩ | h9
      · exact Or.inr ⟨0, 0, Nat.le_refl _, Or.inr ⟨s', T, m, a0, hw, by omega, by omega⟩⟩
      · rw [h9] at hl; omega
  · intro j s t p hj h
    obtain rfl : j = 0 := by omega
    obtain ⟨rfl, rfl, -⟩ | ⟨s', t', m, ⟨rfl, rfl, -⟩, hw, rfl, hl⟩ := h
    · have := (w2.1 s ho.1 ho.2).1
      rw [he s ho.1 ho.2] at this
      omega
    · have := w2.2 _ _ _ hw (by omega)
      omega
  · have hc := (N.1 s h0 h1).1
    have := (w1.1 s h0 h1).1
    rw [hy s h0 h1] at this
    rcases fo s h0 h1 with ⟨-, h⟩ | h <;> omega
/-- a round more -/
theorem Exact.round (N : Net n c W R) (ho : 0 ≤ o ∧ o < n) (hL : L < 1000000) (hTL : T ≤ L) {k : Nat} {f y e f' y1 e1 y' e' : Int → Int} (E : Exact n c W R o T L k f y e) (rr : RideR n R L y f f') (hy : ∀ s, 0 ≤ s → s < n → y1 s = min (y s) (f' s + c s)) (he : ∀ s, 0 ≤ s → s < n → e1 s = min (e s) (f' s)) (w1 : WalkR n W L f' y1 y') (w2 : WalkR n W L f' e1 e') :
    Exact n c W R o T L (k + 1) f' y' e' ∧ ((∀ s, 0 ≤ s → s < n → f' s = f s) → Closed R L f' y') := by
  obtain ⟨s1, c1, s2, c2, s3, c3, i1, i2⟩ := E
  have C1 : ∀ j s t p, j ≤ k + 1 → JA c W R o T L j s t p → f' s ≤ t := by
    intro j s t p hj h
    have hr := JA.range N ho j _ _ _ h
    by_cases hk : j ≤ k
    · have := c1 j s t p hk h
      have := (rr.1 s hr.1 hr.2).1
      omega
    · obtain rfl : j = k + 1 := by omega
      obtain ⟨s0, t0, p0, r, i, j, hrd, hR, h0, h1, h2, rfl, h4, rfl, rfl, h6, -⟩ := h
      have := c2 k _ _ _ (Nat.le_refl _) hrd
      exact rr.2 r i j hR h0 h1 h2 (by omega) h6
  have S1 : ∀ s, 0 ≤ s → s < n → f' s = 1000000000 ∨ ∃ j p, j ≤ k + 1 ∧ JA c W R o T L j s (f' s) p := by
    intro s h0 h1
    rcases (rr.1 s h0 h1).2 with h | ⟨r, i, j, hR, i0, i1, i2, i3, i4, i5, i6⟩
    · rcases s1 s h0 h1 with h9 | ⟨j, p, hj, ha⟩
      · exact Or.inl (h.trans h9)
      · exact Or.inr ⟨j, p, by omega, by rw [h]; exact ha⟩
    · have b := (N.2.2.2 r hR).2.1 i i0 (by omega)
      rcases s2 (rs r i) b.1.1 b.1.2 with h9 | ⟨j9, p, hj, ha⟩
      · exfalso; omega
      · exact Or.inr ⟨j9 + 1, p + rp r, by omega, _, _, p, r, i, j, ha, hR, i0, i1, i2, rfl, i3, i4, i5, by omega, rfl⟩
  have F1 : ∀ s, 0 ≤ s → s < n → f' s ≤ 1000000000 := fun s h0 h1 => by
    have := (rr.1 s h0 h1).1
    have := (i1 s h0 h1).1
    omega
  have Y1 : ∀ s, 0 ≤ s → s < n → y' s ≤ y s ∧ y' s ≤ f' s + c s := fun s h0 h1 => by
    have h := (w1.1 s h0 h1).1
    rw [hy s h0 h1] at h
    omega
  have C2 : ∀ j s t p, j ≤ k + 1 → JR c W R o T L j s t p → y' s ≤ t := by
    intro j s t p hj h
    have hr := JR.range N ho h
    by_cases hk : j ≤ k
    · have := c2 j s t p hk h
      have := (Y1 s hr.1 hr.2).1
      omega
    · obtain rfl : j = k + 1 := by omega
      obtain ⟨s', t', ha, ⟨rfl, h9⟩ | ⟨m, hw, rfl, hl⟩⟩ := h
      · have := C1 _ _ _ _ (Nat.le_refl _) ha
        have := (Y1 s hr.1 hr.2).2
        rw [if_neg (by omega)] at h9
        omega
      · have := C1 _ _ _ _ (Nat.le_refl _) ha
        have := w1.2 _ _ _ hw (by omega)
        omega
  refine ⟨⟨S1, C1, fun s h0 h1 => ?_, C2, fun s h0 h1 => ?_, ?_, fun s h0 h1 => ⟨F1 s h0 h1, (Y1 s h0 h1).2⟩, w1.2⟩, fun hs r i j hR h0 h1 h2 h3 h4 => ?_⟩
  · rcases (w1.1 s h0 h1).2 with h | ⟨s', m, hw, hl, h⟩
    · have hyy := hy s h0 h1
      by_cases hm : y s ≤ f' s + c s
      · have e9 : y' s = y s := by omega
        rcases s2 s h0 h1 with h9 | ⟨j, p, hj, ha⟩
        · exact Or.inl (by omega)
        · exact Or.inr ⟨j, p, by omega, by rw [e9]; exact ha⟩
      · have e9 : y' s = f' s + c s := by omega
        rcases S1 s h0 h1 with h9 | ⟨j, p, hj, ha⟩
        · have := (N.1 s h0 h1).1
          exact Or.inl (by omega)
        · cases j with
          | zero =>
            exfalso
            obtain ⟨rfl, h8, -⟩ := ha
            have hz := (N.1 s h0 h1).1
            have := c2 0 s T 0 (Nat.zero_le _) ⟨s, T, ⟨rfl, rfl, rfl⟩, Or.inl ⟨rfl, by simp⟩⟩
            omega
          | succ j => exact Or.inr ⟨j + 1, p, hj, s, _, ha, Or.inl ⟨rfl, by rw [if_neg (by omega)]; exact e9⟩⟩
    · have b := N.2.1 _ _ _ hw
      rcases S1 s' b.1.1 b.1.2 with h9 | ⟨j, p, hj, ha⟩
      · exfalso; omega
      · exact Or.inr ⟨j, p, hj, s', _, ha, Or.inr ⟨m, hw, h, by omega⟩⟩
  · rcases (w2.1 s h0 h1).2 with h | ⟨s', m, hw, hl, h⟩
    · have hee := he s h0 h1
      by_cases hm : e s ≤ f' s
      · have e9 : e' s = e s := by omega
        rcases s3 s h0 h1 with h9 | ⟨j, p, hj, ha⟩
        · exact Or.inl (by omega)
        · exact Or.inr ⟨j, p, by omega, by rw [e9]; exact ha⟩
      · have e9 : e' s = f' s := by omega
        rcases S1 s h0 h1 with h9 | ⟨j, p, hj, ha⟩
        · exact Or.inl (by omega)
        · exact Or.inr ⟨j, p, hj, Or.inl (by rw [e9]; exact ha)⟩
    · have b := N.2.1 _ _ _ hw
      rcases S1 s' b.1.1 b.1.2 with h9 | ⟨j, p, hj, ha⟩
      · exfalso; omega
      · exact Or.inr ⟨j, p, hj, Or.inr ⟨s', _, m, ha, hw, h, by omega⟩⟩
  · intro j s t p hj h
    have hr := JE.range N ho h
    have h9 := (w2.1 s hr.1 hr.2).1
    have h8 := he s hr.1 hr.2
    by_cases hk : j ≤ k
    · have := c3 j s t p hk h
      omega
    · obtain ha | ⟨s', t', m, ha, hw, rfl, hl⟩ := h
      · have := C1 _ _ _ _ hj ha
        omega
      · have := C1 _ _ _ _ hj ha
        have := w2.2 _ _ _ hw (by omega)
        omega
  · -- nothing better: closed
    have b1 := (N.2.2.2 r hR).2.1 i h0 (by omega)
    refine rr.2 r i j hR h0 h1 h2 ?_ h4
    -- y' = y
    have hyy : y (rs r i) ≤ y' (rs r i) := by
      have g := i1 (rs r i) b1.1.1 b1.1.2
      have hy9 := hy (rs r i) b1.1.1 b1.1.2
      have hf9 := hs (rs r i) b1.1.1 b1.1.2
      rcases (w1.1 (rs r i) b1.1.1 b1.1.2).2 with h | ⟨s', m, hw, hl, h⟩
      · omega
      · have b := N.2.1 _ _ _ hw
        have hf8 := hs s' b.1.1 b.1.2
        have := i2 _ _ _ hw (by omega)
        omega
    omega
/-- closed: as many rides as one likes -/
theorem Closed.all (N : Net n c W R) (ho : 0 ≤ o ∧ o < n) {k : Nat} {f y e : Int → Int} (E : Exact n c W R o T L k f y e) (hc : Closed R L f y) : ∀ j s t p, (JA c W R o T L j s t p → f s ≤ t) ∧ (JR c W R o T L j s t p → y s ≤ t) := by
  obtain ⟨s1, c1, s2, c2, s3, c3, i1, i2⟩ := E
  have rd : ∀ j, (∀ s t p, JA c W R o T L j s t p → f s ≤ t) → ∀ s t p, JR c W R o T L j s t p → y s ≤ t := by
    intro j ha s t p h
    cases j with
    | zero => exact c2 0 s t p (Nat.zero_le _) h
    | succ j =>
      obtain ⟨s', t', hb, ⟨rfl, h9⟩ | ⟨m, hw, rfl, hl⟩⟩ := h
      · have hr := JA.range N ho _ _ _ _ hb
        have := ha _ _ _ hb
        have := (i1 s hr.1 hr.2).2
        rw [if_neg (by omega)] at h9
        omega
      · have := ha _ _ _ hb
        have := i2 _ _ _ hw (by omega)
        omega
  have at' : ∀ j s t p, JA c W R o T L j s t p → f s ≤ t := by
    intro j
    induction j with
    | zero => intro s t p h; exact c1 0 s t p (Nat.zero_le _) h
    | succ j ih =>
      rintro s t p ⟨s0, t0, p0, r, i, j9, hrd, hR, h0, h1, h2, rfl, h4, rfl, rfl, h6, -⟩
      have := rd j ih _ _ _ hrd
      exact hc r i j9 hR h0 h1 h2 (by omega) h6
  exact fun j s t p => ⟨at' j s t p, rd j (at' j) s t p⟩
theorem Exact.skip (N : Net n c W R) (ho : 0 ≤ o ∧ o < n) {k : Nat} {f y e : Int → Int} (E : Exact n c W R o T L k f y e) (hc : Closed R L f y) (he : ∀ s, 0 ≤ s → s < n → e s ≤ f s) (hw : ∀ s' s m, W s' s m → f s' + m ≤ L → e s ≤ f s' + m) : Exact n c W R o T L (k + 1) f y e := by
  have hall := Closed.all N ho E hc
  obtain ⟨s1, c1, s2, c2, s3, c3, i1, i2⟩ := E
  have up : ∀ {P : Nat → Int → Prop}, (∃ j p, j ≤ k ∧ P j p) → ∃ j p, j ≤ k + 1 ∧ P j p := fun ⟨j, p, h, h'⟩ => ⟨j, p, by omega, h'⟩
  refine ⟨fun s h0 h1 => (s1 s h0 h1).imp id up, fun j s t p _ h => (hall j s t p).1 h, fun s h0 h1 => (s2 s h0 h1).imp id up, fun j s t p _ h => (hall j s t p).2 h, fun s h0 h1 => (s3 s h0 h1).imp id up, fun j s t p _ h => ?_, i1, i2⟩
  have hr := JE.range N ho h
  obtain ha | ⟨s', t', m, ha, hw9, rfl, hl⟩ := h
  · have := (hall _ _ _ _).1 ha
    have := he s hr.1 hr.2
    omega
  · have := (hall _ _ _ _).1 ha
    have := hw _ _ _ hw9 (by omega)
    omega
end ONW
end
section
/-! ===== journeys seen from their end (no machine here) ===== -/
/-- arrived by a ride at s at a time, B tells from when one can ride on: in time at the goal by D -/
def OAof (c : Int → Int) (W : Int → Int → Int → Prop) (d D : Int) (B : Int → Int → Prop) (x : Int) (s t : Int) : Prop := (s = d ∧ t ≤ D) ∨ B s (t + x) ∨ ∃ s' m, W s s' m ∧ ((s' = d ∧ t + m ≤ D) ∨ B s' (t + m))
/-- ready to ride at s at a time: with k rides more at most one is at d by D -/
def OB (c : Int → Int) (W : Int → Int → Int → Prop) (R : Rn → Prop) (d D : Int) : Nat → Int → Int → Prop
  | 0 => fun _ _ => False
  | k + 1 => fun s t => ∃ r i j, R r ∧ 0 ≤ i ∧ i < j ∧ j < rz r ∧ rs r i = s ∧ t ≤ rd r i ∧ OAof c W d D (OB c W R d D k) (c (rs r j)) (rs r j) (ra r j)
abbrev OA (c : Int → Int) (W : Int → Int → Int → Prop) (R : Rn → Prop) (d D : Int) (k : Nat) (s t : Int) : Prop := OAof c W d D (OB c W R d D k) (c s) s t
/-- at the start: as behind a ride, without a change -/
abbrev OS (c : Int → Int) (W : Int → Int → Int → Prop) (R : Rn → Prop) (d D : Int) (k : Nat) (s t : Int) : Prop := OAof c W d D (OB c W R d D k) 0 s t
section BCK
variable {n : Int} {c : Int → Int} {W : Int → Int → Int → Prop} {R : Rn → Prop} {o T L d D : Int}
theorem OAof.mono {B B' : Int → Int → Prop} (hB : ∀ s t, B s t → B' s t) {x s t : Int} (h : OAof c W d D B x s t) : OAof c W d D B' x s t := by
  rcases h with h | h | ⟨s', m, hw, h | h⟩
  · exact Or.inl h
  · exact Or.inr (Or.inl (hB _ _ h))
  · exact Or.inr (Or.inr ⟨s', m, hw, Or.inl h⟩)
  · exact Or.inr (Or.inr ⟨s', m, hw, Or.inr (hB _ _ h)⟩)
theorem OB.step : ∀ (k : Nat) (s t : Int), OB c W R d D k s t → OB c W R d D (k + 1) s t := by
  intro k
  induction k with
  | zero => intro s t h; exact h.elim
  | succ k ih =>
    rintro s t ⟨r, i, j, hR, h0, h1, h2, h3, h4, h5⟩
    exact ⟨r, i, j, hR, h0, h1, h2, h3, h4, h5.mono ih⟩
theorem OB.mono {j k : Nat} (h : j ≤ k) {s t : Int} (q : OB c W R d D j s t) : OB c W R d D k s t := by
  induction k with
  | zero => obtain rfl : j = 0 := by omega
            exact q
  | succ k ih =>
    by_cases hj : j ≤ k
    · exact OB.step _ _ _ (ih hj)
    · obtain rfl : j = k + 1 := by omega
      exact q
theorem OB.early {k : Nat} {s t t' : Int} (h : t' ≤ t) (q : OB c W R d D k s t) : OB c W R d D k s t' := by
  cases k with
  | zero => exact q.elim
  | succ k =>
    obtain ⟨r, i, j, hR, h0, h1, h2, h3, h4, h5⟩ := q
    exact ⟨r, i, j, hR, h0, h1, h2, h3, by omega, h5⟩
theorem OB.range (N : Net n c W R) {k : Nat} {s t : Int} (q : OB c W R d D k s t) : 0 ≤ s ∧ s < n := by
  cases k with
  | zero => exact q.elim
  | succ k =>
    obtain ⟨r, i, j, hR, h0, h1, h2, rfl, h4, h5⟩ := q
    exact ((N.2.2.2 r hR).2.1 i h0 (by omega)).1
/-- who arrives in time arrives by D -/
theorem OA.le (N : Net n c W R) : ∀ (k : Nat) (x s t : Int), 0 ≤ x → OAof c W d D (OB c W R d D k) x s t → t ≤ D := by
  intro k
  induction k with
  | zero =>
    rintro x s t hx (⟨-, h⟩ | h | ⟨s', m, hw, ⟨-, h⟩ | h⟩)
    · exact h
    · exact h.elim
    · have := (N.2.1 _ _ _ hw).2.2.1
      omega
    · exact h.elim
  | succ k ih =>
    have hb : ∀ s t, OB c W R d D (k + 1) s t → t ≤ D := by
      rintro s t ⟨r, i, j, hR, h0, h1, h2, -, h4, h5⟩
      have b := (N.2.2.2 r hR).2.1 j (by omega) h2
      have := ih _ _ _ (N.1 _ b.1.1 b.1.2).1 h5
      have := (N.2.2.2 r hR).2.2 i j h0 h1 h2
      omega
    rintro x s t hx (⟨-, h⟩ | h | ⟨s', m, hw, ⟨-, h⟩ | h⟩)
    · exact h
    · have := hb _ _ h
      omega
    · have := (N.2.1 _ _ _ hw).2.2.1
      omega
    · have := (N.2.1 _ _ _ hw).2.2.1
      have := hb _ _ h
      omega
theorem OB.le (N : Net n c W R) {k : Nat} {s t : Int} (q : OB c W R d D k s t) : t ≤ D := by
  cases k with
  | zero => exact q.elim
  | succ k =>
    obtain ⟨r, i, j, hR, h0, h1, h2, -, h4, h5⟩ := q
    have b := (N.2.2.2 r hR).2.1 j (by omega) h2
    have := OA.le N _ _ _ _ (N.1 _ b.1.1 b.1.2).1 h5
    have := (N.2.2.2 r hR).2.2 i j h0 h1 h2
    omega
/-- from its start on, a journey that ends by D is one that is in time -/
theorem OS.of_AT : ∀ (k m : Nat) (s t p : Int), JA c W R o T L k s t p → OAof c W d D (OB c W R d D m) (if k = 0 then 0 else c s) s t → OS c W R d D (k + m) o T := by
  intro k
  induction k with
  | zero =>
    rintro m s t p ⟨rfl, rfl, -⟩ h
    rw [Nat.zero_add]
    exact h
  | succ k ih =>
    rintro m s t p ⟨s0, t0, p0, r, i, j, ⟨s', t', ha, hb⟩, hR, h0, h1, h2, rfl, h4, rfl, rfl, h6, -⟩ h
    rw [if_neg (by omega)] at h
    have hB : OB c W R d D (m + 1) (rs r i) t0 := ⟨r, i, j, hR, h0, h1, h2, rfl, h4, h⟩
    have := ih (m + 1) s' t' p0 ha (by
      rcases hb with ⟨rfl, rfl⟩ | ⟨q, hw, rfl, -⟩
      · exact Or.inr (Or.inl hB)
      · exact Or.inr (Or.inr ⟨_, q, hw, Or.inr hB⟩))
    rwa [show k + 1 + m = k + (m + 1) by omega]
theorem OS.of_EN {k : Nat} {t p : Int} (h : JE c W R o T L k d t p) (hD : t ≤ D) : OS c W R d D k o T := by
  rcases h with h | ⟨s', t', m, ha, hw, rfl, -⟩
  · have := OS.of_AT (d := d) (D := D) k 0 _ _ _ h (Or.inl ⟨rfl, hD⟩)
    rwa [Nat.add_zero] at this
  · have := OS.of_AT (d := d) (D := D) k 0 _ _ _ ha (Or.inr (Or.inr ⟨d, m, hw, Or.inl ⟨rfl, hD⟩⟩))
    rwa [Nat.add_zero] at this
/-- and back: who is in time has a journey -/
theorem JE.of_OA (N : Net n c W R) (hDL : D ≤ L) : ∀ (m k : Nat) (s t p : Int), JA c W R o T L k s t p → OAof c W d D (OB c W R d D m) (if k = 0 then 0 else c s) s t → ∃ j e q, j ≤ k + m ∧ JE c W R o T L j d e q ∧ e ≤ D := by
  intro m
  induction m with
  | zero =>
    rintro k s t p ha (⟨rfl, h⟩ | h | ⟨s', q, hw, ⟨rfl, h⟩ | h⟩)
    · exact ⟨k, t, p, by omega, Or.inl ha, h⟩
    · exact h.elim
    · exact ⟨k, t + q, p, by omega, Or.inr ⟨s, t, q, ha, hw, rfl, by omega⟩, h⟩
    · exact h.elim
  | succ m ih =>
    have go : ∀ k s t p, JR c W R o T L k s t p → OB c W R d D (m + 1) s t → ∃ j e q, j ≤ k + (m + 1) ∧ JE c W R o T L j d e q ∧ e ≤ D := by
      rintro k s t p hrd ⟨r, i, j, hR, h0, h1, h2, h3, h4, h5⟩
      have b := (N.2.2.2 r hR).2.1 j (by omega) h2
      have hl := OA.le N _ _ _ _ (N.1 _ b.1.1 b.1.2).1 h5
      obtain ⟨j9, e, q, g1, g2, g3⟩ := ih (k + 1) (rs r j) (ra r j) (p + rp r) ⟨s, t, p, r, i, j, hrd, hR, h0, h1, h2, h3, h4, rfl, rfl, by omega, rfl⟩ (by rw [if_neg (by omega)]; exact h5)
      exact ⟨j9, e, q, by omega, g2, g3⟩
    rintro k s t p ha (⟨rfl, h⟩ | h | ⟨s', q, hw, ⟨rfl, h⟩ | h⟩)
    · exact ⟨k, t, p, by omega, Or.inl ha, h⟩
    · exact go k s _ p ⟨s, t, ha, Or.inl ⟨rfl, rfl⟩⟩ h
    · exact ⟨k, t + q, p, by omega, Or.inr ⟨s, t, q, ha, hw, rfl, by omega⟩, h⟩
    · exact go k s' _ p ⟨s, t, ha, Or.inr ⟨q, hw, rfl, by have := OB.le N h; omega⟩⟩ h
theorem JE.of_OS (N : Net n c W R) (hDL : D ≤ L) {k : Nat} (h : OS c W R d D k o T) : ∃ j e q, j ≤ k ∧ JE c W R o T L j d e q ∧ e ≤ D := by
  obtain ⟨j, e, q, g1, g2, g3⟩ := JE.of_OA (o := o) (T := T) N hDL k 0 o T 0 ⟨rfl, rfl, rfl⟩ (by rw [if_pos rfl]; exact h)
  exact ⟨j, e, q, by omega, g2, g3⟩
/-! the search back -/
/-- b: the latest departures from which one is in time with k rides at most -/
def BEx (n : Int) (c : Int → Int) (W : Int → Int → Int → Prop) (R : Rn → Prop) (d D : Int) (k : Nat) (b : Int → Int) : Prop := ∀ s, 0 ≤ s → s < n → ∀ t, -1000000 ≤ t → (t ≤ b s ↔ OB c W R d D k s t)
/-- a: the latest arrivals from which one is in time with k rides more at most -/
def AEx (n : Int) (c : Int → Int) (W : Int → Int → Int → Prop) (R : Rn → Prop) (d D : Int) (k : Nat) (a : Int → Int) : Prop := ∀ s, 0 ≤ s → s < n → ∀ t, -900000 ≤ t → (t ≤ a s ↔ OA c W R d D k s t)
/-- how late one may be there on foot -/
def lat (d D : Int) (b : Int → Int) (s : Int) : Int := if s = d then D else b s
/-- what alight makes of b -/
def AliR (n : Int) (c : Int → Int) (W : Int → Int → Int → Prop) (d D : Int) (b a : Int → Int) : Prop := ∀ s, 0 ≤ s → s < n → (if s = d then D else b s - c s) ≤ a s ∧ (∀ s' m, W s s' m → lat d D b s' - m ≤ a s) ∧ (a s = (if s = d then D else b s - c s) ∨ ∃ s' m, W s s' m ∧ a s = lat d D b s' - m)
/-- a round of rides back -/
def BRide (n : Int) (R : Rn → Prop) (a b b' : Int → Int) : Prop :=
  (∀ s, 0 ≤ s → s < n → b s ≤ b' s ∧ (b' s = b s ∨ ∃ r i j, R r ∧ 0 ≤ i ∧ i < j ∧ j < rz r ∧ rs r i = s ∧ b' s = rd r i ∧ ra r j ≤ a (rs r j))) ∧ ∀ r i j, R r → 0 ≤ i → i < j → j < rz r → ra r j ≤ a (rs r j) → rd r i ≤ b' (rs r i)
theorem AEx.of (N : Net n c W R) (hd : 0 ≤ d ∧ d < n) {k : Nat} {b a : Int → Int} (hb : BEx n c W R d D k b) (ha : AliR n c W d D b a) : AEx n c W R d D k a := by
  intro s h0 h1 t ht
  obtain ⟨a1, a2, a3⟩ := ha s h0 h1
  have hc := N.1 s h0 h1
  constructor
  · intro h
    by_cases hsd : s = d
    · subst hsd
      by_cases htD : t ≤ D
      · exact Or.inl ⟨rfl, htD⟩
      · rw [if_pos rfl] at a3
        rcases a3 with e | ⟨s', m, hw, e⟩
        · omega
        · have b9 := N.2.1 _ _ _ hw
          unfold lat at e
          by_cases h9 : s' = s
          · rw [if_pos h9] at e; omega
          · rw [if_neg h9] at e
            exact Or.inr (Or.inr ⟨s', m, hw, Or.inr ((hb s' b9.2.1.1 b9.2.1.2 _ (by omega)).mp (by omega))⟩)
    · rw [if_neg hsd] at a3
      rcases a3 with e | ⟨s', m, hw, e⟩
      · exact Or.inr (Or.inl ((hb s h0 h1 _ (by omega)).mp (by omega)))
      · have b9 := N.2.1 _ _ _ hw
        unfold lat at e
        by_cases h9 : s' = d
        · rw [if_pos h9] at e
          exact Or.inr (Or.inr ⟨s', m, hw, Or.inl ⟨h9, by omega⟩⟩)
        · rw [if_neg h9] at e
          exact Or.inr (Or.inr ⟨s', m, hw, Or.inr ((hb s' b9.2.1.1 b9.2.1.2 _ (by omega)).mp (by omega))⟩)
  · rintro (⟨rfl, h⟩ | h | ⟨s', m, hw, ⟨rfl, h⟩ | h⟩)
    · rw [if_pos rfl] at a1
      omega
    · have h9 := (hb s h0 h1 (t + c s) (by omega)).mpr h
      by_cases hsd : s = d
      · rw [if_pos hsd] at a1
        have := OB.le N h
        omega
      · rw [if_neg hsd] at a1
        omega
    · have := a2 _ _ hw
      unfold lat at this
      rw [if_pos rfl] at this
      omega
    · have b9 := N.2.1 _ _ _ hw
      have h9 := (hb s' b9.2.1.1 b9.2.1.2 (t + m) (by omega)).mpr h
      have g := a2 _ _ hw
      unfold lat at g
      by_cases h8 : s' = d
      · rw [if_pos h8] at g
        have := OB.le N h
        omega
      · rw [if_neg h8] at g
        omega
theorem BEx.zero {b : Int → Int} (hb : ∀ s, 0 ≤ s → s < n → b s = -1000000000) : BEx n c W R d D 0 b := by
  intro s h0 h1 t ht
  rw [hb s h0 h1]
  exact ⟨fun h => by omega, fun h => h.elim⟩
theorem BEx.round (N : Net n c W R) {k : Nat} {a b b' : Int → Int} (hb : BEx n c W R d D k b) (ha : AEx n c W R d D k a) (hr : BRide n R a b b') : BEx n c W R d D (k + 1) b' := by
  intro s h0 h1 t ht
  obtain ⟨g1, g2⟩ := hr.1 s h0 h1
  constructor
  · intro h
    rcases g2 with e | ⟨r, i, j, hR, i0, i1, i2, i3, i4, i5⟩
    · exact OB.step _ _ _ ((hb s h0 h1 t ht).mp (by omega))
    · have b9 := (N.2.2.2 r hR).2.1 j (by omega) i2
      exact ⟨r, i, j, hR, i0, i1, i2, i3, by omega, (ha _ b9.1.1 b9.1.2 _ (by omega)).mp i5⟩
  · rintro ⟨r, i, j, hR, i0, i1, i2, rfl, i4, i5⟩
    have b9 := (N.2.2.2 r hR).2.1 j (by omega) i2
    have := hr.2 r i j hR i0 i1 i2 ((ha _ b9.1.1 b9.1.2 _ (by omega)).mpr i5)
    omega
/-- no better: the same for one more -/
theorem BEx.skip (N : Net n c W R) {k : Nat} {a b b' : Int → Int} (hb : BEx n c W R d D k b) (ha : AEx n c W R d D k a) (hr : BRide n R a b b') (hs : ∀ s, 0 ≤ s → s < n → b' s = b s) : ∀ m, k ≤ m → BEx n c W R d D m b ∧ ∀ s t, OB c W R d D m s t → -1000000 ≤ t → OB c W R d D k s t := by
  have key : ∀ m, k ≤ m → ∀ s t, OB c W R d D m s t → -1000000 ≤ t → OB c W R d D k s t := by
    intro m hm
    induction m with
    | zero => intro s t h _; obtain rfl : k = 0 := by omega
              exact h
    | succ m ih =>
      intro s t h ht
      by_cases hk : k = m + 1
      · subst hk; exact h
      have hm' : k ≤ m := by omega
      obtain ⟨r, i, j, hR, i0, i1, i2, rfl, i4, i5⟩ := h
      have b9 := (N.2.2.2 r hR).2.1 j (by omega) i2
      have b8 := (N.2.2.2 r hR).2.1 i i0 (by omega)
      have hc := N.1 _ b9.1.1 b9.1.2
      have i6 : OA c W R d D k (rs r j) (ra r j) := by
        rcases i5 with h | h | ⟨s', q, hw, h | h⟩
        · exact Or.inl h
        · exact Or.inr (Or.inl (ih hm' _ _ h (by omega)))
        · exact Or.inr (Or.inr ⟨s', q, hw, Or.inl h⟩)
        · have := (N.2.1 _ _ _ hw).2.2.1
          exact Or.inr (Or.inr ⟨s', q, hw, Or.inr (ih hm' _ _ h (by omega))⟩)
      have := hr.2 r i j hR i0 i1 i2 ((ha _ b9.1.1 b9.1.2 _ (by omega)).mpr i6)
      rw [hs _ b8.1.1 b8.1.2] at this
      exact OB.early i4 ((hb _ b8.1.1 b8.1.2 _ (by omega)).mp this)
  intro m hm
  exact ⟨fun s h0 h1 t ht => ⟨fun h => OB.mono hm ((hb s h0 h1 t ht).mp h), fun h => (hb s h0 h1 t ht).mpr (key m hm _ _ h ht)⟩, key m hm⟩
end BCK
end
section
/-! ===== what it costs (no machine here) ===== -/
section FAR
variable {n : Int} {c : Int → Int} {W : Int → Int → Int → Prop} {R : Rn → Prop} {o T L d : Int}
/-- exact up to k rides: f s x the least price to be ready to ride at s by x (but for ways through d), z the least price at d -/
def FEx (n : Int) (c : Int → Int) (W : Int → Int → Int → Prop) (R : Rn → Prop) (o T L d : Int) (k : Nat) (f : Int → Int → Int) (z : Int) : Prop :=
  (z ≤ 1000000000 ∧ (z = 1000000000 ∨ ∃ j t, j ≤ k ∧ JE c W R o T L j d t z)) ∧ (∀ s, 0 ≤ s → s < n → ∀ x, f s x = 1000000000 ∨ ∃ j t, j ≤ k ∧ t ≤ x ∧ JR c W R o T L j s t (f s x)) ∧
  (∀ j s t p, j ≤ k → JR c W R o T L j s t p → t ≤ L → z ≤ p ∨ f s t ≤ p) ∧ (∀ j t p, j ≤ k → JE c W R o T L j d t p → z ≤ p) ∧ (∀ s, 0 ≤ s → s < n → ∀ x x', x ≤ x' → f s x' ≤ f s x)
/-- what is made of a ride at the price P that ends at s at t -/
def Done (c : Int → Int) (W : Int → Int → Int → Prop) (L d : Int) (g : Int → Int → Int) (z s t P : Int) : Prop := z ≤ P ∨ (s ≠ d ∧ (t + c s ≤ L → g s (t + c s) ≤ P) ∧ ∀ s' m, W s s' m → t + m ≤ L → s' ≠ d ∧ g s' (t + m) ≤ P)
/-- from where a price may come -/
def From (n : Int) (R : Rn → Prop) (L : Int) (f : Int → Int → Int) (s t P : Int) : Prop := ∃ r i j, R r ∧ 0 ≤ i ∧ i < j ∧ j < rz r ∧ f (rs r i) (rd r i) < 1000000000 ∧ rs r j = s ∧ ra r j = t ∧ t ≤ L ∧ P = f (rs r i) (rd r i) + rp r
/-- a round: before f and z, behind it g and z' -/
def FRound (n : Int) (c : Int → Int) (W : Int → Int → Int → Prop) (R : Rn → Prop) (L d : Int) (f g : Int → Int → Int) (z z' : Int) : Prop :=
  (z' ≤ z ∧ (z' = z ∨ ∃ s t, From n R L f s t z' ∧ (s = d ∨ ∃ m, W s d m ∧ t + m ≤ L))) ∧
  (∀ s, 0 ≤ s → s < n → ∀ x, g s x ≤ f s x ∧ (g s x = f s x ∨ ∃ s' t, From n R L f s' t (g s x) ∧ ((s' = s ∧ t + c s ≤ x) ∨ ∃ m, W s' s m ∧ t + m ≤ x ∧ t + m ≤ L))) ∧
  (∀ s, 0 ≤ s → s < n → ∀ x x', x ≤ x' → g s x' ≤ g s x) ∧
  (∀ r i j, R r → 0 ≤ i → i < j → j < rz r → ra r j ≤ L → Done c W L d g z' (rs r j) (ra r j) (f (rs r i) (rd r i) + rp r))
theorem FEx.round (N : Net n c W R) (ho : 0 ≤ o ∧ o < n) (hTL : T ≤ L) {k : Nat} {f g : Int → Int → Int} {z z' : Int} (E : FEx n c W R o T L d k f z) (F : FRound n c W R L d f g z z') : FEx n c W R o T L d (k + 1) g z' := by
  obtain ⟨⟨e0, e1⟩, e2, e3, e4, e5⟩ := E
  obtain ⟨⟨f1, f2⟩, f3, f4, f5⟩ := F
  -- a price from a round is one of a ride
  have fr : ∀ s t P, From n R L f s t P → ∃ j, j ≤ k + 1 ∧ JA c W R o T L j s t P ∧ j ≠ 0 := by
    rintro s t P ⟨r, i, j, hR, h0, h1, h2, h3, rfl, rfl, h6, rfl⟩
    have b := (N.2.2.2 r hR).2.1 i h0 (by omega)
    rcases e2 (rs r i) b.1.1 b.1.2 (rd r i) with h | ⟨j9, t9, g1, g2, g3⟩
    · omega
    · exact ⟨j9 + 1, by omega, ⟨_, t9, _, r, i, j, g3, hR, h0, h1, h2, rfl, g2, rfl, rfl, h6, rfl⟩, by omega⟩
  -- a ride of one more
  have at1 : ∀ s t p, JA c W R o T L (k + 1) s t p → Done c W L d g z' s t p := by
    rintro s t p ⟨s0, t0, p0, r, i, j, hrd, hR, h0, h1, h2, rfl, h4, rfl, rfl, h6, rfl⟩
    have b := (N.2.2.2 r hR).2.1 i h0 (by omega)
    have hdd := (N.2.2.2 r hR).2.2 i j h0 h1 h2
    have hp := (N.2.2.2 r hR).1
    rcases e3 k _ _ _ (Nat.le_refl _) hrd (by omega) with h | h
    · exact Or.inl (by omega)
    · have h9 := e5 _ b.1.1 b.1.2 _ _ h4
      rcases f5 r i j hR h0 h1 h2 h6 with q | ⟨q1, q2, q3⟩
      · exact Or.inl (by omega)
      · exact Or.inr ⟨q1, fun hl => by have := q2 hl; omega, fun s' m hw hl => ⟨(q3 s' m hw hl).1, by have := (q3 s' m hw hl).2; omega⟩⟩
  refine ⟨⟨by omega, ?_⟩, fun s h0 h1 x => ?_, ?_, ?_, f4⟩
  · rcases f2 with h | ⟨s, t, hf, h⟩
    · rcases e1 with h9 | ⟨j, t, g1, g2⟩
      · exact Or.inl (by omega)
      · exact Or.inr ⟨j, t, by omega, by rw [h]; exact g2⟩
    · obtain ⟨j, g1, g2, -⟩ := fr _ _ _ hf
      rcases h with rfl | ⟨m, hw, hl⟩
      · exact Or.inr ⟨j, t, g1, Or.inl g2⟩
      · exact Or.inr ⟨j, t + m, g1, Or.inr ⟨s, t, m, g2, hw, rfl, hl⟩⟩
  · rcases (f3 s h0 h1 x).2 with h | ⟨s', t, hf, h⟩
    · rw [h]
      rcases e2 s h0 h1 x with h9 | ⟨j, t, g1, g2, g3⟩
      · exact Or.inl h9
      · exact Or.inr ⟨j, t, by omega, g2, g3⟩
    · obtain ⟨j, g1, g2, g3⟩ := fr _ _ _ hf
      rcases h with ⟨rfl, h⟩ | ⟨m, hw, h, hl⟩
      · exact Or.inr ⟨j, _, g1, h, s', t, g2, Or.inl ⟨rfl, by rw [if_neg g3]⟩⟩
      · exact Or.inr ⟨j, _, g1, h, s', t, g2, Or.inr ⟨m, hw, rfl, hl⟩⟩
  · intro j s t p hj h hl
    have hr := JR.range N ho h
    by_cases hjk : j ≤ k
    · rcases e3 j s t p hjk h hl with q | q
      · exact Or.inl (by omega)
      · exact Or.inr (by have := (f3 s hr.1 hr.2 t).1; omega)
    · obtain rfl : j = k + 1 := by omega
      obtain ⟨s', t', ha, hb⟩ := h
      rcases at1 _ _ _ ha with q | ⟨q1, q2, q3⟩
      · exact Or.inl q
      · rcases hb with ⟨rfl, rfl⟩ | ⟨m, hw, rfl, -⟩
        · rw [if_neg (by omega)] at hl ⊢
          exact Or.inr (q2 hl)
        · exact Or.inr (q3 _ _ hw hl).2
  · intro j t p hj h
    by_cases hjk : j ≤ k
    · have := e4 j t p hjk h
      omega
    · obtain rfl : j = k + 1 := by omega
      rcases h with ha | ⟨s', t', m, ha, hw, rfl, hl⟩
      · rcases at1 _ _ _ ha with q | ⟨q1, -, -⟩
        · exact q
        · exact absurd rfl q1
      · rcases at1 _ _ _ ha with q | ⟨-, -, q3⟩
        · exact q
        · exact absurd rfl (q3 _ _ hw hl).1
/-- a round that makes nothing better but at d itself: it is the last -/
theorem FEx.last (N : Net n c W R) (ho : 0 ≤ o ∧ o < n) {k : Nat} {f g : Int → Int → Int} {z z' : Int} (E : FEx n c W R o T L d k f z) (F : FRound n c W R L d f g z z') (hg : ∀ s, 0 ≤ s → s < n → ∀ x, g s x = f s x) : ∀ j t p, JE c W R o T L j d t p → z' ≤ p := by
  obtain ⟨-, e2, e3, e4, e5⟩ := E
  obtain ⟨⟨f1, -⟩, -, -, f5⟩ := F
  have key : ∀ j s t p, JA c W R o T L j s t p → (j ≤ k ∧ j = 0) ∨ Done c W L d f z' s t p ∨ j = 0 := fun j s t p h => by
    by_cases hj : j = 0
    · exact Or.inr (Or.inr hj)
    · exact Or.inr (Or.inl (by
        induction j generalizing s t p with
        | zero => exact absurd rfl hj
        | succ j ih =>
          obtain ⟨s0, t0, p0, r, i, j9, ⟨s', t', ha, hb⟩, hR, h0, h1, h2, rfl, h4, rfl, rfl, h6, rfl⟩ := h
          have b := (N.2.2.2 r hR).2.1 i h0 (by omega)
          have b9 := (N.2.2.2 r hR).2.1 j9 (by omega) h2
          have hdd := (N.2.2.2 r hR).2.2 i j9 h0 h1 h2
          have hp := (N.2.2.2 r hR).1
          have rdy : z' ≤ p0 ∨ f (rs r i) t0 ≤ p0 := by
            by_cases hj0 : j = 0
            · subst hj0
              rcases e3 0 (rs r i) t0 p0 (Nat.zero_le _) ⟨s', t', ha, hb⟩ (by omega) with q | q
              · exact Or.inl (by omega)
              · exact Or.inr q
            · rcases ih s' t' p0 ha hj0 with q | ⟨q1, q2, q3⟩
              · exact Or.inl q
              · rcases hb with ⟨h7, h8⟩ | ⟨m, hw, rfl, hl⟩
                · rw [if_neg hj0] at h8
                  subst h8
                  rw [← h7] at q2 h4 ⊢
                  exact Or.inr (q2 (by omega))
                · exact Or.inr (q3 _ _ hw hl).2
          rcases rdy with q | q
          · exact Or.inl (by omega)
          · have h9 := e5 _ b.1.1 b.1.2 _ _ h4
            rcases f5 r i j9 hR h0 h1 h2 h6 with q | ⟨q1, q2, q3⟩
            · exact Or.inl (by omega)
            · refine Or.inr ⟨q1, fun hl => ?_, fun s9 m hw hl => ⟨(q3 s9 m hw hl).1, ?_⟩⟩
              · have := q2 hl
                rw [hg _ b9.1.1 b9.1.2] at this
                omega
              · have := (q3 s9 m hw hl).2
                have b7 := (N.2.1 _ _ _ hw).2.1
                rw [hg _ b7.1 b7.2] at this
                omega))
  intro j t p h
  by_cases hj : j = 0
  · subst hj
    have := e4 0 t p (Nat.zero_le _) h
    omega
  · rcases h with ha | ⟨s', t', m, ha, hw, rfl, hl⟩
    · rcases key _ _ _ _ ha with q | (q | ⟨q1, -, -⟩) | q
      · exact absurd q.2 hj
      · exact q
      · exact absurd rfl q1
      · exact absurd q hj
    · rcases key _ _ _ _ ha with q | (q | ⟨-, -, q3⟩) | q
      · exact absurd q.2 hj
      · exact q
      · exact absurd rfl (q3 _ _ hw hl).1
      · exact absurd q hj
end FAR
end
section
/-! ===== begun earlier, ended earlier; fewer runs (no machine here) ===== -/
section SHF
variable {n : Int} {c : Int → Int} {W : Int → Int → Int → Prop} {R R' : Rn → Prop} {o T T' L L' d D : Int}
/-- begun at T' by L', it can be begun at T and be there by L -/
theorem JA.earlier (N : Net n c W R) (ho : 0 ≤ o ∧ o < n) (hT : T ≤ T') : ∀ (k : Nat) (s t p : Int), JA c W R o T' L' k s t p → t ≤ L → ∃ t1, t1 ≤ t ∧ JA c W R o T L k s t1 p := by
  intro k
  induction k with
  | zero => rintro s t p ⟨rfl, rfl, rfl⟩ h; exact ⟨T, hT, rfl, rfl, rfl⟩
  | succ k ih =>
    rintro s t p ⟨s0, t0, p0, r, i, j, ⟨s', t', ha, hb⟩, hR, h0, h1, h2, rfl, h4, rfl, rfl, h6, rfl⟩ hl
    have hdd := (N.2.2.2 r hR).2.2 i j h0 h1 h2
    have hc := N.1 s' (JA.range N ho _ _ _ _ ha).1 (JA.range N ho _ _ _ _ ha).2
    refine ⟨_, Int.le_refl _, ?_⟩
    rcases hb with ⟨h7, h8⟩ | ⟨m, hw, rfl, hl9⟩
    · obtain ⟨t1, g1, g2⟩ := ih s' t' p0 ha (by split at h8 <;> omega)
      exact ⟨_, t1 + (if k = 0 then 0 else c s'), p0, r, i, j, ⟨s', t1, g2, Or.inl ⟨h7, rfl⟩⟩, hR, h0, h1, h2, rfl, by omega, rfl, rfl, hl, rfl⟩
    · have := (N.2.1 _ _ _ hw).2.2.1
      obtain ⟨t1, g1, g2⟩ := ih s' t' p0 ha (by omega)
      exact ⟨_, t1 + m, p0, r, i, j, ⟨s', t1, g2, Or.inr ⟨m, hw, rfl, by omega⟩⟩, hR, h0, h1, h2, rfl, by omega, rfl, rfl, hl, rfl⟩
theorem JE.earlier (N : Net n c W R) (ho : 0 ≤ o ∧ o < n) (hT : T ≤ T') {k : Nat} {s t p : Int} (h : JE c W R o T' L' k s t p) (hl : t ≤ L) : ∃ t1, t1 ≤ t ∧ JE c W R o T L k s t1 p := by
  rcases h with h | ⟨s', t', m, ha, hw, rfl, -⟩
  · obtain ⟨t1, g1, g2⟩ := JA.earlier N ho hT k _ _ _ h hl
    exact ⟨t1, g1, Or.inl g2⟩
  · have := (N.2.1 _ _ _ hw).2.2.1
    obtain ⟨t1, g1, g2⟩ := JA.earlier (L := L) N ho hT k _ _ _ ha (by omega)
    exact ⟨t1 + m, by omega, Or.inr ⟨s', t1, m, g2, hw, rfl, by omega⟩⟩
/-- only runs between T and L are of use -/
theorem JA.runs (N : Net n c W R) (ho : 0 ≤ o ∧ o < n) (hc : ∀ r i j, R r → 0 ≤ i → i < j → j < rz r → T ≤ rd r i → ra r j ≤ L → R' r) : ∀ (k : Nat) (s t p : Int), JA c W R o T L k s t p → JA c W R' o T L k s t p := by
  intro k
  induction k with
  | zero => intro s t p h; exact h
  | succ k ih =>
    rintro s t p ⟨s0, t0, p0, r, i, j, ⟨s', t', ha, hb⟩, hR, h0, h1, h2, rfl, h4, rfl, rfl, h6, rfl⟩
    have hge := JA.ge N ho _ _ _ _ ha
    have hcc := N.1 s' (JA.range N ho _ _ _ _ ha).1 (JA.range N ho _ _ _ _ ha).2
    have h9 : T ≤ rd r i := by
      rcases hb with ⟨-, h8⟩ | ⟨m, hw, rfl, -⟩
      · split at h8 <;> omega
      · have := (N.2.1 _ _ _ hw).2.2.1
        omega
    exact ⟨_, t0, p0, r, i, j, ⟨s', t', ih _ _ _ ha, hb⟩, hc r i j hR h0 h1 h2 h9 h6, h0, h1, h2, rfl, h4, rfl, rfl, h6, rfl⟩
theorem JE.runs (N : Net n c W R) (ho : 0 ≤ o ∧ o < n) (hc : ∀ r i j, R r → 0 ≤ i → i < j → j < rz r → T ≤ rd r i → ra r j ≤ L → R' r) {k : Nat} {s t p : Int} (h : JE c W R o T L k s t p) : JE c W R' o T L k s t p := by
  rcases h with h | ⟨s', t', m, ha, hw, h1, h2⟩
  · exact Or.inl (JA.runs N ho hc k _ _ _ h)
  · exact Or.inr ⟨s', t', m, JA.runs N ho hc k _ _ _ ha, hw, h1, h2⟩
theorem JA.sub (hc : ∀ r, R' r → R r) : ∀ (k : Nat) (s t p : Int), JA c W R' o T L k s t p → JA c W R o T L k s t p := by
  intro k
  induction k with
  | zero => intro s t p h; exact h
  | succ k ih =>
    rintro s t p ⟨s0, t0, p0, r, i, j, ⟨s', t', ha, hb⟩, hR, h⟩
    exact ⟨s0, t0, p0, r, i, j, ⟨s', t', ih _ _ _ ha, hb⟩, hc r hR, h⟩
theorem JE.sub (hc : ∀ r, R' r → R r) {k : Nat} {s t p : Int} (h : JE c W R' o T L k s t p) : JE c W R o T L k s t p := by
  rcases h with h | ⟨s', t', m, ha, hw, h1, h2⟩
  · exact Or.inl (JA.sub hc k _ _ _ h)
  · exact Or.inr ⟨s', t', m, JA.sub hc k _ _ _ ha, hw, h1, h2⟩
/-- the least end of a journey with at most K rides: 1000000000 if there is none -/
def JL (c : Int → Int) (W : Int → Int → Int → Prop) (R : Rn → Prop) (o T L : Int) (K : Nat) (d e : Int) : Prop := (e = 1000000000 ∨ ∃ j p, j ≤ K ∧ JE c W R o T L j d e p) ∧ ∀ j t p, j ≤ K → JE c W R o T L j d t p → e ≤ t
theorem JL.uniq (hL : L < 1000000000) (hTL : T ≤ L) {K : Nat} {e e' : Int} (h : JL c W R o T L K d e) (h' : JL c W R o T L K d e') : e = e' := by
  obtain ⟨h1, h2⟩ := h
  obtain ⟨g1, g2⟩ := h'
  rcases h1 with rfl | ⟨j, p, hj, he⟩
  · rcases g1 with rfl | ⟨j', p', hj', he'⟩
    · rfl
    · have := h2 _ _ _ hj' he'
      have := JE.le hTL he'
      omega
  · have a := g2 _ _ _ hj he
    rcases g1 with rfl | ⟨j', p', hj', he'⟩
    · have := JE.le hTL he
      omega
    · have := h2 _ _ _ hj' he'
      omega
theorem Exact.le {k : Nat} {f y e : Int → Int} (E : Exact n c W R o T L k f y e) (hd : 0 ≤ d ∧ d < n) : JL c W R o T L k d (e d) := ⟨E.2.2.2.2.1 d hd.1 hd.2, fun j t p hj h => E.2.2.2.2.2.1 j d t p hj h⟩
theorem JL.runs (N : Net n c W R) (ho : 0 ≤ o ∧ o < n) (hs : ∀ r, R' r → R r) (hc : ∀ r i j, R r → 0 ≤ i → i < j → j < rz r → T ≤ rd r i → ra r j ≤ L → R' r) {K : Nat} {e : Int} (h : JL c W R' o T L K d e) : JL c W R o T L K d e := by
  refine ⟨h.1.imp id fun ⟨j, p, hj, he⟩ => ⟨j, p, hj, JE.sub hs he⟩, fun j t p hj he => h.2 j t p hj (JE.runs N ho hc he)⟩
end SHF
end
section
/-! ===== frames; what a timetable is in the heap ===== -/
/-- the same cells; whole numbers but at PI, references but at PR -/
def ch (PI PR : Nat → Prop) (h h' : Hp) : Prop := kd h' = kd h ∧ ln h' = ln h ∧ hl h' = hl h ∧ nx h' = nx h ∧ us h' = us h ∧ cn h' = cn h ∧ cs h' = cs h ∧ (∀ a k, ¬ PI a → hi h' a k = hi h a k) ∧ ∀ a k, ¬ PR a → hr h' a k = hr h a k
abbrev nP : Nat → Prop := fun _ => False
theorem ch.rfl {P R : Nat → Prop} {h : Hp} : ch P R h h := ⟨Eq.refl _, Eq.refl _, Eq.refl _, Eq.refl _, Eq.refl _, Eq.refl _, Eq.refl _, fun _ _ _ => Eq.refl _, fun _ _ _ => Eq.refl _⟩
theorem ch.trans {P R : Nat → Prop} {h h1 h2 : Hp} (a : ch P R h h1) (b : ch P R h1 h2) : ch P R h h2 := by
  obtain ⟨a1, a2, a3, a4, a5, a6, a7, a8, a9⟩ := a
  obtain ⟨b1, b2, b3, b4, b5, b6, b7, b8, b9⟩ := b
  exact ⟨b1.trans a1, b2.trans a2, b3.trans a3, b4.trans a4, b5.trans a5, b6.trans a6, b7.trans a7, fun x k n => (b8 x k n).trans (a8 x k n), fun x k n => (b9 x k n).trans (a9 x k n)⟩
theorem ch.mono {P P' R R' : Nat → Prop} {h h1 : Hp} (a : ch P R h h1) (q : ∀ x, P x → P' x) (q2 : ∀ x, R x → R' x) : ch P' R' h h1 := by
  obtain ⟨a1, a2, a3, a4, a5, a6, a7, a8, a9⟩ := a
  exact ⟨a1, a2, a3, a4, a5, a6, a7, fun x k n => a8 x k (fun z => n (q x z)), fun x k n => a9 x k (fun z => n (q2 x z))⟩
theorem ch_setI {P R : Nat → Prop} {h : Hp} {a : Nat} {k v : Int} (q : P a) : ch P R h (setI h a k v) := ⟨Eq.refl _, Eq.refl _, Eq.refl _, Eq.refl _, Eq.refl _, Eq.refl _, Eq.refl _, fun x j n => by
  rw [hi_setI]
  exact up2_ne _ _ (fun z => n (by rw [z.1]; exact q)), fun _ _ _ => Eq.refl _⟩
theorem ch_setR {P R : Nat → Prop} {h : Hp} {a : Nat} {k : Int} {v : Option Nat} (q : R a) : ch P R h (setR h a k v) := ⟨Eq.refl _, Eq.refl _, Eq.refl _, Eq.refl _, Eq.refl _, Eq.refl _, Eq.refl _, fun _ _ _ => Eq.refl _, fun x j n => by
  rw [hr_setR]
  exact up2_ne _ _ (fun z => n (by rw [z.1]; exact q))⟩
theorem ch_cpI {P R : Nat → Prop} {h : Hp} {a b : Nat} {s d n : Int} (q : P b) : ch P R h (cpI h a s b d n) := ⟨Eq.refl _, Eq.refl _, Eq.refl _, Eq.refl _, Eq.refl _, Eq.refl _, Eq.refl _, fun x j m => by
  rw [hi_cpI]
  exact if_neg (fun z => m (by rw [z.1]; exact q)), fun _ _ _ => Eq.refl _⟩
/-- one place of a row anew -/
def upF (f : Int → Int) (s v : Int) : Int → Int := fun j => if j = s then v else f j
theorem hi_upF (h : Hp) (a : Nat) (s v : Int) : hi (setI h a s v) a = upF (hi h a) s v := by
  funext j
  rw [hi_setI]
  unfold up2 upF
  by_cases c : j = s
  · rw [if_pos ⟨rfl, c⟩, if_pos c]
  · rw [if_neg (fun z => c z.2), if_neg c]
theorem hi_setI_ne {h : Hp} {a b : Nat} {k v : Int} (q : b ≠ a) : hi (setI h a k v) b = hi h b := by
  funext j
  rw [hi_setI, up2_ne _ _ (fun z => q z.1)]
theorem upF_same (f : Int → Int) (s v : Int) : upF f s v s = v := if_pos rfl
theorem upF_ne (f : Int → Int) {s v j : Int} (q : j ≠ s) : upF f s v j = f j := if_neg q
/-- seven rows of 16 behind the row o -/
def rowsAt (h : Hp) (o r : Nat) : Prop := kd h o = 103 ∧ ln h o = 7 ∧ ∀ k : Nat, k < 7 → hr h o (k : Int) = some (r + k) ∧ kd h (r + k) = 100 ∧ ln h (r + k) = 16
def SkT (h : Hp) (w : Nat) : Prop := kd h w = 1 ∧ hr h w 0 = some (w + 1) ∧ hr h w 1 = some (w + 6) ∧ hr h w 3 = some (w + 12) ∧ hr h w 4 = some (w + 30) ∧ hr h w 5 = some (w + 47) ∧ hr h w 6 = some (w + 146)
def SkN (h : Hp) (w : Nat) : Prop := kd h (w + 1) = 8 ∧ (hr h (w + 1) 0 = some (w + 2) ∧ hr h (w + 1) 1 = some (w + 3) ∧ hr h (w + 1) 2 = some (w + 4) ∧ hr h (w + 1) 3 = some (w + 5)) ∧ (kd h (w + 2) = 100 ∧ ln h (w + 2) = 16) ∧ (kd h (w + 3) = 104 ∧ ln h (w + 3) = 20) ∧ (kd h (w + 4) = 105 ∧ ln h (w + 4) = 6) ∧ kd h (w + 5) = 106 ∧ ln h (w + 5) = 24
def SkR (h : Hp) (w : Nat) : Prop := kd h (w + 6) = 11 ∧ (hr h (w + 6) 0 = some (w + 7) ∧ hr h (w + 6) 1 = some (w + 8) ∧ hr h (w + 6) 2 = some (w + 9)) ∧ (kd h (w + 7) = 106 ∧ ln h (w + 7) = 192) ∧ (kd h (w + 8) = 100 ∧ ln h (w + 8) = 192) ∧ kd h (w + 9) = 100 ∧ ln h (w + 9) = 192
def SkO (h : Hp) (w : Nat) : Prop := kd h (w + 12) = 10 ∧ (hr h (w + 12) 0 = some (w + 13) ∧ hr h (w + 12) 1 = some (w + 21) ∧ hr h (w + 12) 2 = some (w + 29)) ∧ rowsAt h (w + 13) (w + 14) ∧ rowsAt h (w + 21) (w + 22) ∧ kd h (w + 29) = 100 ∧ ln h (w + 29) = 16
def SkB (h : Hp) (w : Nat) : Prop := kd h (w + 30) = 2 ∧ (hr h (w + 30) 0 = some (w + 31) ∧ hr h (w + 30) 1 = some (w + 39)) ∧ rowsAt h (w + 31) (w + 32) ∧ rowsAt h (w + 39) (w + 40)
def SkJ (h : Hp) (w : Nat) : Prop := kd h (w + 146) = 7 ∧ (hr h (w + 146) 5 = some (w + 147) ∧ hr h (w + 146) 6 = some (w + 148) ∧ hr h (w + 146) 7 = some (w + 149) ∧ hr h (w + 146) 8 = some (w + 150) ∧ hr h (w + 146) 9 = some (w + 151) ∧ hr h (w + 146) 10 = some (w + 152) ∧ hr h (w + 146) 11 = some (w + 153)) ∧ (kd h (w + 147) = 106 ∧ ln h (w + 147) = 13) ∧ ∀ k : Nat, k < 6 → kd h (w + 148 + k) = 100 ∧ ln h (w + 148 + k) = 13
/-- the parts of the class stand where its constructor laid them -/
def Sk (h : Hp) (w : Nat) : Prop := SkT h w ∧ SkN h w ∧ SkR h w ∧ SkO h w ∧ SkB h w ∧ SkJ h w
/-- references at these places don't belong to the parts' own -/
def PRok (w : Nat) (R : Nat → Prop) : Prop := ∀ a, R a → a = w + 3 ∨ a = w + 4 ∨ a = w + 5 ∨ a = w + 7 ∨ a = w + 147 ∨ (w + 47 ≤ a ∧ a ≤ w + 145) ∨ w + 154 ≤ a ∨ a < w
/-- what may have been made meanwhile, and what changed -/
def fm (P R : Nat → Prop) (h h' : Hp) : Prop := nx h ≤ nx h' ∧ (∀ a, a < nx h → kd h' a = kd h a ∧ ln h' a = ln h a) ∧ (∀ a k, a < nx h → ¬ P a → hi h' a k = hi h a k) ∧ (∀ a k, a < nx h → ¬ R a → hr h' a k = hr h a k) ∧ cn h' = cn h ∧ cs h' = cs h
theorem ch.fm {P R : Nat → Prop} {h h' : Hp} (a : ch P R h h') : fm P R h h' := by
  obtain ⟨a1, a2, a3, a4, a5, a6, a7, a8, a9⟩ := a
  exact ⟨by omega, fun x _ => ⟨congrFun a1 x, congrFun a2 x⟩, fun x k _ n => a8 x k n, fun x k _ n => a9 x k n, a6, a7⟩
theorem fm.trans {P R : Nat → Prop} {h h1 h2 : Hp} (a : fm P R h h1) (b : fm P R h1 h2) : fm P R h h2 := by
  obtain ⟨a1, a2, a3, a4, a5, a6⟩ := a
  obtain ⟨b1, b2, b3, b4, b5, b6⟩ := b
  exact ⟨by omega, fun x q => ⟨(b2 x (by omega)).1.trans (a2 x q).1, (b2 x (by omega)).2.trans (a2 x q).2⟩, fun x k q n => (b3 x k (by omega) n).trans (a3 x k q n), fun x k q n => (b4 x k (by omega) n).trans (a4 x k q n), b5.trans a5, b6.trans a6⟩
theorem fm.mono {P P' R R' : Nat → Prop} {h h1 : Hp} (a : fm P R h h1) (q : ∀ x, P x → P' x) (q2 : ∀ x, R x → R' x) : fm P' R' h h1 := by
  obtain ⟨a1, a2, a3, a4, a5, a6⟩ := a
  exact ⟨a1, a2, fun x k z n => a3 x k z (fun m => n (q x m)), fun x k z n => a4 x k z (fun m => n (q2 x m)), a5, a6⟩
theorem fm.rfl {P R : Nat → Prop} {h : Hp} : fm P R h h := ch.rfl.fm
theorem rowsAt.kept {P R : Nat → Prop} {h h' : Hp} {o r : Nat} (q : rowsAt h o r) (e : fm P R h h') (hR : ¬ R o) (ho : o < nx h) (hr : r + 7 ≤ nx h) : rowsAt h' o r := by
  obtain ⟨q1, q2, q3⟩ := q
  obtain ⟨a1, a2, a3, a4, a5, a6⟩ := e
  exact ⟨(a2 o ho).1.trans q1, (a2 o ho).2.trans q2, fun k hk => ⟨(a4 o _ ho hR).trans (q3 k hk).1, (a2 _ (by omega)).1.trans (q3 k hk).2.1, (a2 _ (by omega)).2.trans (q3 k hk).2.2⟩⟩
theorem Sk.kept {P R : Nat → Prop} {h h' : Hp} {w : Nat} (q : Sk h w) (e : fm P R h h') (hR : PRok w R) (hw : w + 154 ≤ nx h) : Sk h' w := by
  obtain ⟨⟨t1, t2, t3, t4, t5, t6, t7⟩, ⟨n1, ⟨n2, n3, n4, n5⟩, ⟨n6, n7⟩, ⟨n8, n9⟩, ⟨n10, n11⟩, n12, n13⟩, ⟨r1, ⟨r2, r3, r4⟩, ⟨r5, r6⟩, ⟨r7, r8⟩, r9, r10⟩, ⟨o1, ⟨o2, o3, o4⟩, o5, o6, o7, o8⟩, ⟨b1, ⟨b2, b3⟩, b4, b5⟩, ⟨j1, ⟨j2, j3, j4, j5, j6, j7, j8⟩, ⟨j9, j10⟩, j11⟩⟩ := q
  have e0 := e
  obtain ⟨a1, a2, a3, a4, a5, a6⟩ := e
  have nr : ∀ a, w ≤ a → a ≤ w + 2 → ¬ R a := fun a g1 g2 z => by rcases hR a z with g | g | g | g | g | g | g | g <;> omega
  have nr6 : ¬ R (w + 6) := fun z => by rcases hR _ z with g | g | g | g | g | g | g | g <;> omega
  have nr2 : ∀ a, w + 12 ≤ a → a ≤ w + 46 → ¬ R a := fun a g1 g2 z => by rcases hR a z with g | g | g | g | g | g | g | g <;> omega
  have nrj : ¬ R (w + 146) := fun z => by rcases hR _ z with g | g | g | g | g | g | g | g <;> omega
  have K : ∀ {a K : Nat}, a < w + 154 → kd h a = K → kd h' a = K := fun g1 g2 => (a2 _ (by omega)).1.trans g2
  have N : ∀ {a : Nat} {K : Int}, a < w + 154 → ln h a = K → ln h' a = K := fun g1 g2 => (a2 _ (by omega)).2.trans g2
  have F : ∀ {a : Nat} {k : Int} {v : Option Nat}, ¬ R a → a < w + 154 → hr h a k = v → hr h' a k = v := fun g0 g1 g2 => (a4 _ _ (by omega) g0).trans g2
  refine ⟨⟨K (by omega) t1, F (nr _ (by omega) (by omega)) (by omega) t2, F (nr _ (by omega) (by omega)) (by omega) t3, F (nr _ (by omega) (by omega)) (by omega) t4, F (nr _ (by omega) (by omega)) (by omega) t5, F (nr _ (by omega) (by omega)) (by omega) t6, F (nr _ (by omega) (by omega)) (by omega) t7⟩,
    ⟨K (by omega) n1, ⟨F (nr _ (by omega) (by omega)) (by omega) n2, F (nr _ (by omega) (by omega)) (by omega) n3, F (nr _ (by omega) (by omega)) (by omega) n4, F (nr _ (by omega) (by omega)) (by omega) n5⟩, ⟨K (by omega) n6, N (by omega) n7⟩, ⟨K (by omega) n8, N (by omega) n9⟩, ⟨K (by omega) n10, N (by omega) n11⟩, K (by omega) n12, N (by omega) n13⟩,
    ⟨K (by omega) r1, ⟨F nr6 (by omega) r2, F nr6 (by omega) r3, F nr6 (by omega) r4⟩, ⟨K (by omega) r5, N (by omega) r6⟩, ⟨K (by omega) r7, N (by omega) r8⟩, K (by omega) r9, N (by omega) r10⟩,
    ⟨K (by omega) o1, ⟨F (nr2 _ (by omega) (by omega)) (by omega) o2, F (nr2 _ (by omega) (by omega)) (by omega) o3, F (nr2 _ (by omega) (by omega)) (by omega) o4⟩, o5.kept e0 (nr2 _ (by omega) (by omega)) (by omega) (by omega), o6.kept e0 (nr2 _ (by omega) (by omega)) (by omega) (by omega), K (by omega) o7, N (by omega) o8⟩,
    ⟨K (by omega) b1, ⟨F (nr2 _ (by omega) (by omega)) (by omega) b2, F (nr2 _ (by omega) (by omega)) (by omega) b3⟩, b4.kept e0 (nr2 _ (by omega) (by omega)) (by omega) (by omega), b5.kept e0 (nr2 _ (by omega) (by omega)) (by omega) (by omega)⟩,
    ⟨K (by omega) j1, ⟨F nrj (by omega) j2, F nrj (by omega) j3, F nrj (by omega) j4, F nrj (by omega) j5, F nrj (by omega) j6, F nrj (by omega) j7, F nrj (by omega) j8⟩, ⟨K (by omega) j9, N (by omega) j10⟩, fun k hk => ⟨K (by omega) (j11 k hk).1, N (by omega) (j11 k hk).2⟩⟩⟩
/-! the timetable -/
def CalOk (h : Hp) (a : Nat) : Prop := kd h a = 4 ∧ hr h a 3 = some (a + 1) ∧ kd h (a + 1) = 100 ∧ ln h (a + 1) = 366
/-- the calendar at a runs on the day d -/
def isRun (h : Hp) (a : Nat) (d : Int) : Prop := (0 ≤ d ∧ d ≤ 365) ∧ (hi h (a + 1) d = 1 ∨ (hi h (a + 1) d = 0 ∧ (hi h a 1 ≤ d ∧ d ≤ hi h a 2) ∧ vand (vshr (hi h a 0) (d.tmod 7)) 1 = 1))
/-- a trip at a with its rows behind it, of n stops -/
def TripOk (h : Hp) (n : Int) (a : Nat) : Prop := kd h a = 12 ∧ (hr h a 3 = some (a + 1) ∧ hr h a 4 = some (a + 2) ∧ hr h a 5 = some (a + 3) ∧ hr h a 6 = some (a + 4)) ∧ ((kd h (a + 1) = 100 ∧ ln h (a + 1) = 8) ∧ (kd h (a + 2) = 100 ∧ ln h (a + 2) = 8) ∧ (kd h (a + 3) = 100 ∧ ln h (a + 3) = 8) ∧ kd h (a + 4) = 100 ∧ ln h (a + 4) = 366) ∧ (1 ≤ hi h a 7 ∧ hi h a 7 ≤ 8) ∧
  (∀ i, 0 ≤ i → i < hi h a 7 → (0 ≤ hi h (a + 1) i ∧ hi h (a + 1) i < n) ∧ 0 ≤ hi h (a + 2) i ∧ hi h (a + 2) i ≤ hi h (a + 3) i ∧ hi h (a + 3) i ≤ 2879) ∧ (∀ i j, 0 ≤ i → i < j → j < hi h a 7 → hi h (a + 3) i ≤ hi h (a + 2) j) ∧ (∀ d, 0 ≤ d → d ≤ 365 → -1 ≤ hi h (a + 4) d ∧ hi h (a + 4) d ≤ 180) ∧ 0 ≤ hi h a 2 ∧ hi h a 2 ≤ 500
/-- the trip at a has a run on the day d -/
def hasRn (h : Hp) (a : Nat) (d : Int) : Prop := (0 ≤ d ∧ d ≤ 365) ∧ hi h (a + 4) d ≠ -1 ∧ ∃ c, hr h a 1 = some c ∧ isRun h c d
def rnB (h : Hp) (a : Nat) (b : Int) : Rn := (hi h a 7, hi h (a + 1), fun i => b + hi h (a + 2) i, fun i => b + hi h (a + 3) i, hi h a 2)
def baseOf (h : Hp) (a : Nat) (d : Int) : Int := 1440 * d + hi h (a + 4) d
/-- what was told: all of it lies between w + 154 and X -/
def TT (h : Hp) (w X : Nat) : Prop := (0 ≤ hi h (w + 1) 4 ∧ hi h (w + 1) 4 ≤ 16) ∧ (0 ≤ hi h (w + 1) 5 ∧ hi h (w + 1) 5 ≤ 20) ∧ (0 ≤ hi h (w + 1) 7 ∧ hi h (w + 1) 7 ≤ 24) ∧ (∀ k, 0 ≤ hi h (w + 2) k ∧ hi h (w + 2) k ≤ 30) ∧
  (∀ i, 0 ≤ i → i < hi h (w + 1) 5 → ∃ a, hr h (w + 3) i = some a ∧ w + 154 ≤ a ∧ a < X ∧ kd h a = 6 ∧ (0 ≤ hi h a 0 ∧ hi h a 0 < hi h (w + 1) 4) ∧ (0 ≤ hi h a 1 ∧ hi h a 1 < hi h (w + 1) 4) ∧ 1 ≤ hi h a 2 ∧ hi h a 2 ≤ 60) ∧
  (∀ t, 0 ≤ t → t < hi h (w + 1) 7 → ∃ a c, hr h (w + 5) t = some a ∧ w + 154 ≤ a ∧ a + 5 ≤ X ∧ TripOk h (hi h (w + 1) 4) a ∧ hi h a 0 = t ∧ hr h a 1 = some c ∧ w + 154 ≤ c ∧ c + 2 ≤ X ∧ CalOk h c) ∧ X ≤ nx h ∧ w + 154 ≤ X
/-- the footways -/
def Wy (h : Hp) (w : Nat) (s s' m : Int) : Prop := ∃ i a, 0 ≤ i ∧ i < hi h (w + 1) 5 ∧ hr h (w + 3) i = some a ∧ ((s = hi h a 0 ∧ s' = hi h a 1) ∨ (s = hi h a 1 ∧ s' = hi h a 0)) ∧ m = hi h a 2
/-- the runs -/
def Ra (h : Hp) (w : Nat) (r : Rn) : Prop := ∃ t a d, 0 ≤ t ∧ t < hi h (w + 1) 7 ∧ hr h (w + 5) t = some a ∧ hasRn h a d ∧ r = rnB h a (baseOf h a d)
/-- those that are collected -/
def Rc (h : Hp) (w : Nat) (r : Rn) : Prop := ∃ k a, 0 ≤ k ∧ k < hi h (w + 6) 3 ∧ hr h (w + 7) k = some a ∧ r = rnB h a (hi h (w + 9) k)
def RunsOk (h : Hp) (w : Nat) : Prop := (0 ≤ hi h (w + 6) 3 ∧ hi h (w + 6) 3 ≤ 192) ∧ ∀ k, 0 ≤ k → k < hi h (w + 6) 3 → ∃ t a, 0 ≤ t ∧ t < hi h (w + 1) 7 ∧ hr h (w + 5) t = some a ∧ hr h (w + 7) k = some a ∧ hasRn h a (hi h (w + 8) k) ∧ hi h (w + 9) k = baseOf h a (hi h (w + 8) k)
theorem RunsOk.sub {h : Hp} {w : Nat} (q : RunsOk h w) {r : Rn} (hr : Rc h w r) : Ra h w r := by
  obtain ⟨k, a, h0, h1, h2, rfl⟩ := hr
  obtain ⟨t, a', g1, g2, g3, g4, g5, g6⟩ := q.2 k h0 h1
  cases h2.symm.trans g4
  exact ⟨t, a, _, g1, g2, g3, g5, by rw [g6]⟩
theorem TT.net {h : Hp} {w X : Nat} (q : TT h w X) : Net (hi h (w + 1) 4) (hi h (w + 2)) (Wy h w) (Ra h w) := by
  obtain ⟨-, -, -, q4, q5, q6, -⟩ := q
  refine ⟨fun s _ _ => q4 s, ?_, ?_, ?_⟩
  · rintro s s' m ⟨i, a, h0, h1, h2, h3, rfl⟩
    obtain ⟨a', g1, g2, g3, g4, g5, g6, g7⟩ := q5 i h0 h1
    cases h2.symm.trans g1
    rcases h3 with ⟨rfl, rfl⟩ | ⟨rfl, rfl⟩
    · exact ⟨g5, g6, g7⟩
    · exact ⟨g6, g5, g7⟩
  · rintro s s' m ⟨i, a, h0, h1, h2, h3, rfl⟩
    exact ⟨i, a, h0, h1, h2, h3.symm.imp (fun z => ⟨z.2, z.1⟩) (fun z => ⟨z.2, z.1⟩), rfl⟩
  · rintro r ⟨t, a, d, h0, h1, h2, ⟨h3, h4, -⟩, rfl⟩
    obtain ⟨a', c, g1, g2, g3, ⟨t1, t2, t3, t4, t5, t6, t7, t8⟩, -⟩ := q6 t h0 h1
    cases h2.symm.trans g1
    have td := t7 d h3.1 h3.2
    have hb : 0 ≤ baseOf h a d ∧ baseOf h a d ≤ 600000 := by
      unfold baseOf
      omega
    refine ⟨t8.1, fun i i0 i1 => ?_, fun i j i0 i1 i2 => ?_⟩
    · have := t5 i i0 i1
      refine ⟨this.1, ?_, ?_, ?_⟩
      · show 0 ≤ baseOf h a d + hi h (a + 2) i
        omega
      · show baseOf h a d + hi h (a + 2) i ≤ baseOf h a d + hi h (a + 3) i
        omega
      · show baseOf h a d + hi h (a + 3) i < 1000000
        omega
    · have := t6 i j i0 i1 i2
      show baseOf h a d + hi h (a + 3) i ≤ baseOf h a d + hi h (a + 2) j
      omega
/-- what touches no number and no reference of the timetable -/
def Off (w X : Nat) (P R : Nat → Prop) : Prop := (∀ a, P a → (w + 6 ≤ a ∧ a ≤ w + 153) ∨ X ≤ a) ∧ ∀ a, R a → (a = w + 7 ∨ a = w + 147 ∨ (w + 47 ≤ a ∧ a ≤ w + 145)) ∨ X ≤ a
theorem Off.pr {w X : Nat} {P R : Nat → Prop} (o : Off w X P R) (hX : w + 154 ≤ X) : PRok w R := fun a z => by
  rcases o.2 a z with (g | g | g) | g <;> omega
theorem TripOk.kept {P R : Nat → Prop} {h h' : Hp} {n : Int} {a : Nat} (q : TripOk h n a) (e : fm P R h h') (h1 : ∀ b, a ≤ b → b ≤ a + 4 → ¬ P b) (h2 : ¬ R a) (ha : a + 5 ≤ nx h) : TripOk h' n a := by
  obtain ⟨t1, ⟨u1, u2, u3, u4⟩, ⟨⟨v1, v2⟩, ⟨v3, v4⟩, ⟨v5, v6⟩, v7, v8⟩, t4, t5, t6, t7, t8⟩ := q
  obtain ⟨a1, a2, a3, a4, a5, a6⟩ := e
  have F : ∀ b, a ≤ b → b ≤ a + 4 → hi h' b = hi h b := fun b g1 g2 => funext fun k => a3 b k (by omega) (h1 b g1 g2)
  unfold TripOk
  rw [F a (by omega) (by omega), F (a + 1) (by omega) (by omega), F (a + 2) (by omega) (by omega), F (a + 3) (by omega) (by omega), F (a + 4) (by omega) (by omega)]
  exact ⟨(a2 _ (by omega)).1.trans t1, ⟨(a4 _ _ (by omega) h2).trans u1, (a4 _ _ (by omega) h2).trans u2, (a4 _ _ (by omega) h2).trans u3, (a4 _ _ (by omega) h2).trans u4⟩, ⟨⟨(a2 _ (by omega)).1.trans v1, (a2 _ (by omega)).2.trans v2⟩, ⟨(a2 _ (by omega)).1.trans v3, (a2 _ (by omega)).2.trans v4⟩, ⟨(a2 _ (by omega)).1.trans v5, (a2 _ (by omega)).2.trans v6⟩, (a2 _ (by omega)).1.trans v7, (a2 _ (by omega)).2.trans v8⟩, t4, t5, t6, t7, t8⟩
theorem CalOk.kept {P R : Nat → Prop} {h h' : Hp} {a : Nat} (q : CalOk h a) (e : fm P R h h') (h2 : ¬ R a) (ha : a + 2 ≤ nx h) : CalOk h' a := by
  obtain ⟨q1, q2, q3, q4⟩ := q
  obtain ⟨a1, a2, a3, a4, a5, a6⟩ := e
  exact ⟨(a2 _ (by omega)).1.trans q1, (a4 _ _ (by omega) h2).trans q2, (a2 _ (by omega)).1.trans q3, (a2 _ (by omega)).2.trans q4⟩
section OFF
variable {P R : Nat → Prop} {h h' : Hp} {w X : Nat}
theorem Off.i (o : Off w X P R) (e : fm P R h h') (hX : X ≤ nx h) {a : Nat} (ha : a < w + 6 ∨ (w + 154 ≤ a ∧ a < X)) (hw : w + 154 ≤ X) : hi h' a = hi h a := funext fun k => e.2.2.1 a k (by omega) (fun z => by rcases o.1 a z with g | g <;> omega)
theorem Off.r (o : Off w X P R) (e : fm P R h h') (hX : X ≤ nx h) {a : Nat} (ha : a < w + 6 ∨ (w + 154 ≤ a ∧ a < X)) (hw : w + 154 ≤ X) : hr h' a = hr h a := funext fun k => e.2.2.2.1 a k (by omega) (fun z => by rcases o.2 a z with (g | g | g) | g <;> omega)
theorem TT.kept (q : TT h w X) (e : fm P R h h') (o : Off w X P R) : TT h' w X := by
  obtain ⟨q1, q2, q3, q4, q5, q6, q7, q8⟩ := q
  have e0 := e
  obtain ⟨a1, a2, a3, a4, a5, a6⟩ := e
  unfold TT
  rw [o.i e0 q7 (a := w + 1) (by omega) q8, o.i e0 q7 (a := w + 2) (by omega) q8, o.r e0 q7 (a := w + 3) (by omega) q8, o.r e0 q7 (a := w + 5) (by omega) q8]
  refine ⟨q1, q2, q3, q4, fun i i0 i1 => ?_, fun t i0 i1 => ?_, by omega, q8⟩
  · obtain ⟨a, g1, g2, g3, g4, g5⟩ := q5 i i0 i1
    rw [← o.i e0 q7 (a := a) (by omega) q8] at g5
    exact ⟨a, g1, g2, g3, (a2 a (by omega)).1.trans g4, g5⟩
  · obtain ⟨a, c, g1, g2, g3, g4, g5, g6, g7, g8, g9⟩ := q6 t i0 i1
    refine ⟨a, c, g1, g2, g3, g4.kept e0 (fun b b1 b2 z => ?_) (fun z => ?_) (by omega), ?_, ?_, g7, g8, g9.kept e0 (fun z => ?_) (by omega)⟩
    · rcases o.1 b z with g | g <;> omega
    · rcases o.2 a z with (g | g | g) | g <;> omega
    · rw [o.i e0 q7 (a := a) (by omega) q8]; exact g5
    · rw [o.r e0 q7 (a := a) (by omega) q8]; exact g6
    · rcases o.2 c z with (g | g | g) | g <;> omega
theorem Wy.kept (q : TT h w X) (e : fm P R h h') (o : Off w X P R) : Wy h' w = Wy h w := by
  obtain ⟨-, -, -, -, q5, -, q7, q8⟩ := q
  funext s s' m
  apply propext
  unfold Wy
  rw [o.i e q7 (a := w + 1) (by omega) q8, o.r e q7 (a := w + 3) (by omega) q8]
  constructor
  · rintro ⟨i, a, h0, h1, h2, h3⟩
    obtain ⟨a', g1, g2, g3, -⟩ := q5 i h0 h1
    cases h2.symm.trans g1
    rw [o.i e q7 (a := a) (by omega) q8] at h3
    exact ⟨i, a, h0, h1, h2, h3⟩
  · rintro ⟨i, a, h0, h1, h2, h3⟩
    obtain ⟨a', g1, g2, g3, -⟩ := q5 i h0 h1
    cases h2.symm.trans g1
    rw [← o.i e q7 (a := a) (by omega) q8] at h3
    exact ⟨i, a, h0, h1, h2, h3⟩
theorem hasRn.kept (q : TT h w X) (e : fm P R h h') (o : Off w X P R) {t d : Int} {a : Nat} (h0 : 0 ≤ t) (h1 : t < hi h (w + 1) 7) (h2 : hr h (w + 5) t = some a) : (hasRn h' a d ↔ hasRn h a d) ∧ rnB h' a = rnB h a ∧ baseOf h' a = baseOf h a := by
  obtain ⟨-, -, -, -, -, q6, q7, q8⟩ := q
  obtain ⟨a', c, g1, g2, g3, g4, g5, g6, g7, g8, g9⟩ := q6 t h0 h1
  cases h2.symm.trans g1
  have F : ∀ b, a ≤ b → b ≤ a + 4 → hi h' b = hi h b := fun b b1 b2 => o.i e q7 (by omega) q8
  have G : ∀ b, c ≤ b → b ≤ c + 1 → hi h' b = hi h b := fun b b1 b2 => o.i e q7 (by omega) q8
  have H : hr h' a = hr h a := o.r e q7 (by omega) q8
  refine ⟨?_, ?_, ?_⟩
  · unfold hasRn
    rw [F (a + 4) (by omega) (by omega), H]
    constructor
    · rintro ⟨z1, z2, c', z3, z4⟩
      cases z3.symm.trans g6
      unfold isRun at z4
      rw [G (c + 1) (by omega) (by omega), G c (by omega) (by omega)] at z4
      exact ⟨z1, z2, c, g6, z4⟩
    · rintro ⟨z1, z2, c', z3, z4⟩
      cases z3.symm.trans g6
      refine ⟨z1, z2, c, g6, ?_⟩
      unfold isRun
      rw [G (c + 1) (by omega) (by omega), G c (by omega) (by omega)]
      exact z4
  · funext b
    unfold rnB
    rw [F a (by omega) (by omega), F (a + 1) (by omega) (by omega), F (a + 2) (by omega) (by omega), F (a + 3) (by omega) (by omega)]
  · funext b
    unfold baseOf
    rw [F (a + 4) (by omega) (by omega)]
theorem Ra.kept (q : TT h w X) (e : fm P R h h') (o : Off w X P R) : Ra h' w = Ra h w := by
  have q0 := q
  obtain ⟨-, -, -, -, -, -, q7, q8⟩ := q
  funext r
  apply propext
  unfold Ra
  rw [o.i e q7 (a := w + 1) (by omega) q8, o.r e q7 (a := w + 5) (by omega) q8]
  constructor
  · rintro ⟨t, a, d, h0, h1, h2, h3, rfl⟩
    obtain ⟨k1, k2, k3⟩ := hasRn.kept q0 e o (d := d) h0 h1 h2
    exact ⟨t, a, d, h0, h1, h2, k1.mp h3, by rw [k2, k3]⟩
  · rintro ⟨t, a, d, h0, h1, h2, h3, rfl⟩
    obtain ⟨k1, k2, k3⟩ := hasRn.kept q0 e o (d := d) h0 h1 h2
    exact ⟨t, a, d, h0, h1, h2, k1.mpr h3, by rw [k2, k3]⟩
/-- what leaves the collected runs as well -/
theorem Rc.kept (q : TT h w X) (qr : RunsOk h w) (e : fm P R h h') (o : Off w X P R) (hP : ∀ a, P a → ¬ (w + 6 ≤ a ∧ a ≤ w + 9)) (hR : ∀ a, R a → ¬ (w + 6 ≤ a ∧ a ≤ w + 9)) : Rc h' w = Rc h w ∧ RunsOk h' w := by
  have q0 := q
  obtain ⟨-, -, -, -, -, -, q7, q8⟩ := q
  have F : ∀ b, w + 6 ≤ b → b ≤ w + 9 → hi h' b = hi h b := fun b b1 b2 => funext fun k => e.2.2.1 b k (by omega) (fun z => hP b z ⟨b1, b2⟩)
  have G : ∀ b, w + 6 ≤ b → b ≤ w + 9 → hr h' b = hr h b := fun b b1 b2 => funext fun k => e.2.2.2.1 b k (by omega) (fun z => hR b z ⟨b1, b2⟩)
  have T : ∀ k a, 0 ≤ k → k < hi h (w + 6) 3 → hr h (w + 7) k = some a → ∃ t, 0 ≤ t ∧ t < hi h (w + 1) 7 ∧ hr h (w + 5) t = some a := fun k a k0 k1 k2 => by
    obtain ⟨t, a', g1, g2, g3, g4, -⟩ := qr.2 k k0 k1
    cases k2.symm.trans g4
    exact ⟨t, g1, g2, g3⟩
  constructor
  · funext r
    apply propext
    unfold Rc
    rw [F (w + 6) (by omega) (by omega), F (w + 9) (by omega) (by omega), G (w + 7) (by omega) (by omega)]
    constructor
    · rintro ⟨k, a, k0, k1, k2, rfl⟩
      obtain ⟨t, g1, g2, g3⟩ := T k a k0 k1 k2
      exact ⟨k, a, k0, k1, k2, by rw [(hasRn.kept q0 e o (d := 0) g1 g2 g3).2.1]⟩
    · rintro ⟨k, a, k0, k1, k2, rfl⟩
      obtain ⟨t, g1, g2, g3⟩ := T k a k0 k1 k2
      exact ⟨k, a, k0, k1, k2, by rw [(hasRn.kept q0 e o (d := 0) g1 g2 g3).2.1]⟩
  · unfold RunsOk
    rw [F (w + 6) (by omega) (by omega), F (w + 8) (by omega) (by omega), F (w + 9) (by omega) (by omega), G (w + 7) (by omega) (by omega), o.i e q7 (a := w + 1) (by omega) q8, o.r e q7 (a := w + 5) (by omega) q8]
    refine ⟨qr.1, fun k k0 k1 => ?_⟩
    obtain ⟨t, a, g1, g2, g3, g4, g5, g6⟩ := qr.2 k k0 k1
    obtain ⟨z1, z2, z3⟩ := hasRn.kept q0 e o (d := hi h (w + 8) k) g1 g2 g3
    exact ⟨t, a, g1, g2, g3, g4, z1.mpr g5, by rw [z3]; exact g6⟩
end OFF
end
section
/-! ===== a ride along a run: what its loop keeps (no machine here) ===== -/
/-- along a run with places 0 to sz: arrivals are looked at below k1, departures below k2; g: one is aboard, b: something got better -/
def RRI (sz : Int) (st ar dp : Int → Int) (lim : Int) (y f f' : Int → Int) (k1 k2 g b : Int) : Prop :=
  (∀ s, f' s ≤ f s ∧ (f' s = f s ∨ ∃ i j, 0 ≤ i ∧ i < j ∧ j < sz ∧ y (st i) ≤ dp i ∧ st j = s ∧ ar j = f' s ∧ ar j ≤ lim)) ∧
  (∀ i j, 0 ≤ i → i < j → j < k1 → y (st i) ≤ dp i → ar j ≤ lim → f' (st j) ≤ ar j) ∧
  ((g = 1 ∧ ∃ i, 0 ≤ i ∧ i < k2 ∧ y (st i) ≤ dp i) ∨ (g = 0 ∧ ∀ i, 0 ≤ i → i < k2 → dp i < y (st i))) ∧ ((b = 0 ∧ ∀ s, f' s = f s) ∨ b = 1)
/-- .. and what comes of it -/
def RRun (sz : Int) (st ar dp : Int → Int) (lim : Int) (y f f' : Int → Int) (b : Int) : Prop :=
  (∀ s, f' s ≤ f s ∧ (f' s = f s ∨ ∃ i j, 0 ≤ i ∧ i < j ∧ j < sz ∧ y (st i) ≤ dp i ∧ st j = s ∧ ar j = f' s ∧ ar j ≤ lim)) ∧
  (∀ i j, 0 ≤ i → i < j → j < sz → y (st i) ≤ dp i → ar j ≤ lim → f' (st j) ≤ ar j) ∧ ((b = 0 ∧ ∀ s, f' s = f s) ∨ b = 1)
section RRS
variable {sz lim k g b : Int} {st ar dp y f f' : Int → Int}
theorem RRI.start : RRI sz st ar dp lim y f f 0 0 0 0 := ⟨fun s => ⟨Int.le_refl _, Or.inl rfl⟩, fun i j h0 h1 h2 => by omega, Or.inr ⟨rfl, fun i h0 h1 => by omega⟩, Or.inl ⟨rfl, fun _ => rfl⟩⟩
theorem RRI.write (q : RRI sz st ar dp lim y f f' k k g b) (hk : 0 ≤ k) (hs : k < sz) (hg : g ≠ 0) (hl : ar k ≤ lim) (hf : ar k < f' (st k)) : RRI sz st ar dp lim y f (upF f' (st k) (ar k)) (k + 1) k g 1 := by
  obtain ⟨q1, q2, q3, q4⟩ := q
  refine ⟨fun s => ?_, fun i j h0 h1 h2 h3 h4 => ?_, q3, Or.inr rfl⟩
  · by_cases hc : s = st k
    · subst hc
      rw [upF_same]
      rcases q3 with ⟨-, i, h0, h1, h2⟩ | ⟨h, -⟩
      · exact ⟨by have := (q1 (st k)).1; omega, Or.inr ⟨i, k, h0, h1, hs, h2, rfl, rfl, hl⟩⟩
      · exact absurd h hg
    · rw [upF_ne _ hc]
      exact q1 s
  · by_cases hc : st j = st k
    · rw [hc, upF_same]
      by_cases hj : j = k
      · subst hj; omega
      · have := q2 i j h0 h1 (by omega) h3 h4
        rw [hc] at this
        omega
    · rw [upF_ne _ hc]
      exact q2 i j h0 h1 (by by_cases hj : j = k; · subst hj; exact absurd rfl hc
                             · omega) h3 h4
theorem RRI.pass (q : RRI sz st ar dp lim y f f' k k g b) (hf : g = 0 ∨ f' (st k) ≤ ar k) : RRI sz st ar dp lim y f f' (k + 1) k g b := by
  obtain ⟨q1, q2, q3, q4⟩ := q
  refine ⟨q1, fun i j h0 h1 h2 h3 h4 => ?_, q3, q4⟩
  by_cases hj : j = k
  · subst hj
    rcases hf with hf | hf
    · rcases q3 with ⟨h, -⟩ | ⟨-, h⟩
      · omega
      · have := h i h0 h1
        omega
    · exact hf
  · exact q2 i j h0 h1 (by omega) h3 h4
theorem RRI.on (q : RRI sz st ar dp lim y f f' (k + 1) k g b) (hk : 0 ≤ k) (hg : g ≠ 0 ∨ y (st k) ≤ dp k) : RRI sz st ar dp lim y f f' (k + 1) (k + 1) 1 b := by
  obtain ⟨q1, q2, q3, q4⟩ := q
  refine ⟨q1, q2, Or.inl ⟨rfl, ?_⟩, q4⟩
  rcases hg with hg | hg
  · rcases q3 with ⟨-, i, h0, h1, h2⟩ | ⟨h, -⟩
    · exact ⟨i, h0, by omega, h2⟩
    · exact absurd h hg
  · exact ⟨k, hk, by omega, hg⟩
theorem RRI.off (q : RRI sz st ar dp lim y f f' (k + 1) k g b) (hg : g = 0) (hy : dp k < y (st k)) : RRI sz st ar dp lim y f f' (k + 1) (k + 1) 0 b := by
  obtain ⟨q1, q2, q3, q4⟩ := q
  refine ⟨q1, q2, Or.inr ⟨rfl, fun i h0 h1 => ?_⟩, q4⟩
  rcases q3 with ⟨h, -⟩ | ⟨-, h⟩
  · omega
  · by_cases hi : i = k
    · subst hi; exact hy
    · exact h i h0 (by omega)
theorem RRI.done (q : RRI sz st ar dp lim y f f' k k g b) (hk : k = sz ∨ (lim < ar k ∧ ∀ j, k ≤ j → j < sz → ar k ≤ ar j)) : RRun sz st ar dp lim y f f' b := by
  obtain ⟨q1, q2, q3, q4⟩ := q
  refine ⟨q1, fun i j h0 h1 h2 h3 h4 => ?_, q4⟩
  rcases hk with rfl | ⟨hk, hm⟩
  · exact q2 i j h0 h1 h2 h3 h4
  · by_cases hj : j < k
    · exact q2 i j h0 h1 hj h3 h4
    · have := hm j (by omega) h2
      omega
end RRS
/-- all runs of a list one behind the other: those below k -/
def RidI (n : Int) (C : Int → Rn → Prop) (L : Int) (y f f' : Int → Int) (k b : Int) : Prop :=
  (∀ s, 0 ≤ s → s < n → f' s ≤ f s ∧ (f' s = f s ∨ ∃ q r i j, q < k ∧ C q r ∧ 0 ≤ i ∧ i < j ∧ j < rz r ∧ y (rs r i) ≤ rd r i ∧ rs r j = s ∧ ra r j = f' s ∧ ra r j ≤ L)) ∧
  (∀ q r i j, q < k → C q r → 0 ≤ i → i < j → j < rz r → y (rs r i) ≤ rd r i → ra r j ≤ L → f' (rs r j) ≤ ra r j) ∧ ((b = 0 ∧ ∀ s, 0 ≤ s → s < n → f' s = f s) ∨ b = 1)
theorem RidI.start {n L : Int} {C : Int → Rn → Prop} {y f : Int → Int} (hC : ∀ q r, C q r → 0 ≤ q) : RidI n C L y f f 0 0 := ⟨fun s _ _ => ⟨Int.le_refl _, Or.inl rfl⟩, fun q r i j h0 h1 => by have := hC q r h1; omega, Or.inl ⟨rfl, fun _ _ _ => rfl⟩⟩
theorem RidI.step {n L k b b' b2 : Int} {C : Int → Rn → Prop} {y f f' f2 : Int → Int} {r0 : Rn} (q : RidI n C L y f f' k b) (hr : ∀ r, C k r → r = r0) (hc : C k r0) (hn : ∀ i, 0 ≤ i → i < rz r0 → 0 ≤ rs r0 i ∧ rs r0 i < n) (hs : ∀ q r i, q < k → C q r → 0 ≤ i → i < rz r → 0 ≤ rs r i ∧ rs r i < n) (h : RRun (rz r0) (rs r0) (ra r0) (rd r0) L y f' f2 b') (hb : (b2 = 0 ∧ b = 0 ∧ b' = 0) ∨ b2 = 1) : RidI n C L y f f2 (k + 1) b2 := by
  obtain ⟨q1, q2, q3⟩ := q
  obtain ⟨p1, p2, p3⟩ := h
  refine ⟨fun s s0 s1 => ?_, fun j r i j9 h0 h1 h2 h3 h4 h5 h6 => ?_, ?_⟩
  · have a1 := q1 s s0 s1
    have a2 := p1 s
    refine ⟨by omega, ?_⟩
    rcases a2.2 with e | ⟨i, j, g0, g1, g2, g3, g4, g5, g6⟩
    · rcases a1.2 with e2 | ⟨q9, r, i, j, g0, g1, g2, g3, g4, g5, g6, g7, g8⟩
      · exact Or.inl (e.trans e2)
      · exact Or.inr ⟨q9, r, i, j, by omega, g1, g2, g3, g4, g5, g6, by rw [e]; exact g7, g8⟩
    · exact Or.inr ⟨k, r0, i, j, by omega, hc, g0, g1, g2, g3, g4, g5, g6⟩
  · by_cases hj : j = k
    · subst hj
      obtain rfl := hr r h1
      exact p2 i j9 h2 h3 h4 h5 h6
    · have a1 := q2 j r i j9 (by omega) h1 h2 h3 h4 h5 h6
      have a2 := (p1 (rs r j9)).1
      omega
  · rcases hb with ⟨rfl, rfl, rfl⟩ | hb
    · rcases q3 with ⟨-, q3⟩ | q3
      · rcases p3 with ⟨-, p3⟩ | p3
        · exact Or.inl ⟨rfl, fun s s0 s1 => (p3 s).trans (q3 s s0 s1)⟩
        · omega
      · omega
    · exact Or.inr hb
theorem RidI.done {n L k b : Int} {C : Int → Rn → Prop} {R : Rn → Prop} {y f f' : Int → Int} (q : RidI n C L y f f' k b) (hC : ∀ r, R r ↔ ∃ j, j < k ∧ C j r) : RideR n R L y f f' ∧ ((b = 0 ∧ ∀ s, 0 ≤ s → s < n → f' s = f s) ∨ b = 1) := by
  obtain ⟨q1, q2, q3⟩ := q
  refine ⟨⟨fun s s0 s1 => ⟨(q1 s s0 s1).1, (q1 s s0 s1).2.imp id ?_⟩, fun r i j hR h0 h1 h2 h3 h4 => ?_⟩, q3⟩
  · rintro ⟨j, r, i, j9, g0, g1, g2⟩
    exact ⟨r, i, j9, (hC r).mpr ⟨j, g0, g1⟩, g2⟩
  · obtain ⟨j9, g0, g1⟩ := (hC r).mp hR
    exact q2 j9 r i j g0 g1 h0 h1 h2 h3 h4
/-! on foot: the ways below k -/
/-- one way across: at s' no later than f s + m, if that is in time -/
def crossF (L : Int) (f z : Int → Int) (s s' m : Int) : Int → Int := if f s + m ≤ L then upF z s' (min (z s') (f s + m)) else z
theorem crossF_le {L : Int} {f z : Int → Int} {s s' m x : Int} : crossF L f z s s' m x ≤ z x ∧ (crossF L f z s s' m x = z x ∨ (x = s' ∧ f s + m ≤ L ∧ crossF L f z s s' m x = f s + m)) ∧ (f s + m ≤ L → crossF L f z s s' m s' ≤ f s + m) := by
  unfold crossF
  by_cases h : f s + m ≤ L
  · rw [if_pos h]
    refine ⟨?_, ?_, fun _ => by rw [upF_same]; omega⟩
    · by_cases hx : x = s'
      · subst hx; rw [upF_same]; omega
      · rw [upF_ne _ hx]; omega
    · by_cases hx : x = s'
      · subst hx; rw [upF_same]; omega
      · rw [upF_ne _ hx]; exact Or.inl rfl
  · rw [if_neg h]
    exact ⟨Int.le_refl _, Or.inl rfl, fun z => absurd z h⟩
def WlkI (n : Int) (C : Int → Int → Int → Int → Prop) (L : Int) (f z z' : Int → Int) (k : Int) : Prop :=
  (∀ s, 0 ≤ s → s < n → z' s ≤ z s ∧ (z' s = z s ∨ ∃ q s' m, q < k ∧ C q s' s m ∧ f s' + m ≤ L ∧ z' s = f s' + m)) ∧ ∀ q s' s m, q < k → C q s' s m → f s' + m ≤ L → z' s ≤ f s' + m
theorem WlkI.start {n L : Int} {C : Int → Int → Int → Int → Prop} {f z : Int → Int} (hC : ∀ q s s' m, C q s s' m → 0 ≤ q) : WlkI n C L f z z 0 := ⟨fun s _ _ => ⟨Int.le_refl _, Or.inl rfl⟩, fun q s' s m h0 h1 => by have := hC _ _ _ _ h1; omega⟩
theorem WlkI.step {n L k a b m : Int} {C : Int → Int → Int → Int → Prop} {f z z' : Int → Int} (q : WlkI n C L f z z' k) (hc : ∀ s s' m', C k s s' m' ↔ ((s = a ∧ s' = b) ∨ (s = b ∧ s' = a)) ∧ m' = m) : WlkI n C L f z (crossF L f (crossF L f z' a b m) b a m) (k + 1) := by
  obtain ⟨q1, q2⟩ := q
  have A := fun x => crossF_le (L := L) (f := f) (z := z') (s := a) (s' := b) (m := m) (x := x)
  have B := fun x => crossF_le (L := L) (f := f) (z := crossF L f z' a b m) (s := b) (s' := a) (m := m) (x := x)
  refine ⟨fun s s0 s1 => ?_, fun j s' s m' h0 h1 h2 => ?_⟩
  · have a0 := q1 s s0 s1
    have a1 := A s
    have a2 := B s
    refine ⟨by omega, ?_⟩
    rcases a2.2.1 with e | ⟨e, g1, g2⟩
    · rcases a1.2.1 with e1 | ⟨e1, g1, g2⟩
      · rcases a0.2 with e0 | ⟨q9, s', m', g0, g1, g2, g3⟩
        · exact Or.inl (by omega)
        · exact Or.inr ⟨q9, s', m', by omega, g1, g2, by omega⟩
      · exact Or.inr ⟨k, a, m, by omega, (hc a s m).mpr ⟨Or.inl ⟨rfl, e1⟩, rfl⟩, g1, by omega⟩
    · exact Or.inr ⟨k, b, m, by omega, (hc b s m).mpr ⟨Or.inr ⟨rfl, e⟩, rfl⟩, g1, g2⟩
  · have a1 := A s
    have a2 := B s
    by_cases hj : j = k
    · subst hj
      obtain ⟨⟨rfl, rfl⟩ | ⟨rfl, rfl⟩, rfl⟩ := (hc s' s m').mp h1
      · have := a1.2.2 h2
        omega
      · exact a2.2.2 h2
    · have := q2 j s' s m' (by omega) h1 h2
      omega
theorem WlkI.done {n L k : Int} {C : Int → Int → Int → Int → Prop} {W : Int → Int → Int → Prop} {f z z' : Int → Int} (q : WlkI n C L f z z' k) (hC : ∀ s s' m, W s s' m ↔ ∃ j, j < k ∧ C j s s' m) : WalkR n W L f z z' := by
  obtain ⟨q1, q2⟩ := q
  refine ⟨fun s s0 s1 => ⟨(q1 s s0 s1).1, (q1 s s0 s1).2.imp id ?_⟩, fun s' s m hw hl => ?_⟩
  · rintro ⟨j, s', m, g0, g1, g2⟩
    exact ⟨s', m, (hC _ _ _).mpr ⟨j, g0, g1⟩, g2⟩
  · obtain ⟨j, g0, g1⟩ := (hC _ _ _).mp hw
    exact q2 j s' s m g0 g1 hl
end
section
set_option maxRecDepth 100000 in
theorem cd_4 : cdP 4 := ⟨okr (k := 141) rfl (by decide +kernel), by decide +kernel, by decide +kernel, okk_w (k := 32) (by decide +kernel)⟩
set_option maxRecDepth 100000 in
theorem cd_7 : cdP 7 := ⟨okr (k := 188) rfl (by decide +kernel), by decide +kernel, by decide +kernel, okk_w (k := 32) (by decide +kernel)⟩
set_option maxRecDepth 100000 in
theorem cd_49 : cdP 49 := ⟨okr (k := 192) rfl (by decide +kernel), by decide +kernel, by decide +kernel, okk_w (k := 48) (by decide +kernel)⟩
set_option maxRecDepth 100000 in
theorem d_4_0 : decode (mB 4) 0 = .ok (.iload_n 0, 1) := by decide +kernel
set_option maxRecDepth 100000 in
theorem d_4_1 : decode (mB 4) 1 = .ok (.iload_n 1, 1) := by decide +kernel
set_option maxRecDepth 100000 in
theorem d_4_2 : decode (mB 4) 2 = .ok (.if_icmp .lt 12, 3) := by decide +kernel
set_option maxRecDepth 100000 in
theorem d_4_5 : decode (mB 4) 5 = .ok (.iload_n 0, 1) := by decide +kernel
set_option maxRecDepth 100000 in
theorem d_4_6 : decode (mB 4) 6 = .ok (.iload_n 2, 1) := by decide +kernel
set_option maxRecDepth 100000 in
theorem d_4_7 : decode (mB 4) 7 = .ok (.if_icmp .gt 7, 3) := by decide +kernel
set_option maxRecDepth 100000 in
theorem d_4_10 : decode (mB 4) 10 = .ok (.iconst 1, 1) := by decide +kernel
set_option maxRecDepth 100000 in
theorem d_4_11 : decode (mB 4) 11 = .ok (.goto 4, 3) := by decide +kernel
set_option maxRecDepth 100000 in
theorem d_4_14 : decode (mB 4) 14 = .ok (.iconst 0, 1) := by decide +kernel
set_option maxRecDepth 100000 in
theorem d_4_15 : decode (mB 4) 15 = .ok (.ireturn, 1) := by decide +kernel
set_option maxRecDepth 100000 in
theorem c_7_58 : csP 7 58 4 3 := ⟨cd_4, okk_w (k := 139) (by decide +kernel), okk_w (k := 140) (by decide +kernel), by decide +kernel, by decide +kernel⟩
set_option maxRecDepth 100000 in
theorem d_7_0 : decode (mB 7) 0 = .ok (.iload_n 0, 1) := by decide +kernel
set_option maxRecDepth 100000 in
theorem d_7_1 : decode (mB 7) 1 = .ok (.iconst 0, 1) := by decide +kernel
set_option maxRecDepth 100000 in
theorem d_7_2 : decode (mB 7) 2 = .ok (.sipush 365, 3) := by decide +kernel
set_option maxRecDepth 100000 in
theorem d_7_5 : decode (mB 7) 5 = .ok (.invokestatic 58, 3) := by decide +kernel
set_option maxRecDepth 100000 in
theorem d_7_8 : decode (mB 7) 8 = .ok (.ireturn, 1) := by decide +kernel
set_option maxRecDepth 100000 in
theorem c_49_25 : csnP 49 25 7 1 := ⟨cd_7, ⟨"WhistleStop", okk_w (k := 193) (by decide +kernel)⟩, okk_w (k := 187) (by decide +kernel), by decide +kernel, by decide +kernel⟩
set_option maxRecDepth 100000 in
theorem fl_3_9 : flP "WhistleStop$Calendar" 9 3 3 := ⟨_, rfl, by decide, okk_w (k := 925) (by decide +kernel)⟩
set_option maxRecDepth 100000 in
theorem fl_3_19 : flP "WhistleStop$Calendar" 19 3 1 := ⟨_, rfl, by decide, okk_w (k := 923) (by decide +kernel)⟩
set_option maxRecDepth 100000 in
theorem fl_3_22 : flP "WhistleStop$Calendar" 22 3 2 := ⟨_, rfl, by decide, okk_w (k := 924) (by decide +kernel)⟩
set_option maxRecDepth 100000 in
theorem c_49_29 : csnP 49 29 4 3 := ⟨cd_4, ⟨"WhistleStop", okk_w (k := 194) (by decide +kernel)⟩, okk_w (k := 140) (by decide +kernel), by decide +kernel, by decide +kernel⟩
set_option maxRecDepth 100000 in
theorem fl_3_15 : flP "WhistleStop$Calendar" 15 3 0 := ⟨_, rfl, by decide, okk_w (k := 922) (by decide +kernel)⟩
set_option maxRecDepth 100000 in
theorem d_49_0 : decode (mB 49) 0 = .ok (.iload_n 1, 1) := by decide +kernel
set_option maxRecDepth 100000 in
theorem d_49_1 : decode (mB 49) 1 = .ok (.invokestatic 25, 3) := by decide +kernel
set_option maxRecDepth 100000 in
theorem d_49_4 : decode (mB 49) 4 = .ok (.ifCond .ne 5, 3) := by decide +kernel
set_option maxRecDepth 100000 in
theorem d_49_7 : decode (mB 49) 7 = .ok (.iconst 0, 1) := by decide +kernel
set_option maxRecDepth 100000 in
theorem d_49_8 : decode (mB 49) 8 = .ok (.ireturn, 1) := by decide +kernel
set_option maxRecDepth 100000 in
theorem d_49_9 : decode (mB 49) 9 = .ok (.aload_n 0, 1) := by decide +kernel
set_option maxRecDepth 100000 in
theorem d_49_10 : decode (mB 49) 10 = .ok (.getfield 9, 3) := by decide +kernel
set_option maxRecDepth 100000 in
theorem d_49_13 : decode (mB 49) 13 = .ok (.iload_n 1, 1) := by decide +kernel
set_option maxRecDepth 100000 in
theorem d_49_14 : decode (mB 49) 14 = .ok (.iaload, 1) := by decide +kernel
set_option maxRecDepth 100000 in
theorem d_49_15 : decode (mB 49) 15 = .ok (.ifCond .eq 19, 3) := by decide +kernel
set_option maxRecDepth 100000 in
theorem d_49_18 : decode (mB 49) 18 = .ok (.aload_n 0, 1) := by decide +kernel
set_option maxRecDepth 100000 in
theorem d_49_19 : decode (mB 49) 19 = .ok (.getfield 9, 3) := by decide +kernel
set_option maxRecDepth 100000 in
theorem d_49_22 : decode (mB 49) 22 = .ok (.iload_n 1, 1) := by decide +kernel
set_option maxRecDepth 100000 in
theorem d_49_23 : decode (mB 49) 23 = .ok (.iaload, 1) := by decide +kernel
set_option maxRecDepth 100000 in
theorem d_49_24 : decode (mB 49) 24 = .ok (.iconst 1, 1) := by decide +kernel
set_option maxRecDepth 100000 in
theorem d_49_25 : decode (mB 49) 25 = .ok (.if_icmp .ne 7, 3) := by decide +kernel
set_option maxRecDepth 100000 in
theorem d_49_28 : decode (mB 49) 28 = .ok (.iconst 1, 1) := by decide +kernel
set_option maxRecDepth 100000 in
theorem d_49_29 : decode (mB 49) 29 = .ok (.goto 4, 3) := by decide +kernel
set_option maxRecDepth 100000 in
theorem d_49_32 : decode (mB 49) 32 = .ok (.iconst 0, 1) := by decide +kernel
set_option maxRecDepth 100000 in
theorem d_49_33 : decode (mB 49) 33 = .ok (.ireturn, 1) := by decide +kernel
set_option maxRecDepth 100000 in
theorem d_49_34 : decode (mB 49) 34 = .ok (.iload_n 1, 1) := by decide +kernel
set_option maxRecDepth 100000 in
theorem d_49_35 : decode (mB 49) 35 = .ok (.aload_n 0, 1) := by decide +kernel
set_option maxRecDepth 100000 in
theorem d_49_36 : decode (mB 49) 36 = .ok (.getfield 19, 3) := by decide +kernel
set_option maxRecDepth 100000 in
theorem d_49_39 : decode (mB 49) 39 = .ok (.aload_n 0, 1) := by decide +kernel
set_option maxRecDepth 100000 in
theorem d_49_40 : decode (mB 49) 40 = .ok (.getfield 22, 3) := by decide +kernel
set_option maxRecDepth 100000 in
theorem d_49_43 : decode (mB 49) 43 = .ok (.invokestatic 29, 3) := by decide +kernel
set_option maxRecDepth 100000 in
theorem d_49_46 : decode (mB 49) 46 = .ok (.ifCond .eq 22, 3) := by decide +kernel
set_option maxRecDepth 100000 in
theorem d_49_49 : decode (mB 49) 49 = .ok (.aload_n 0, 1) := by decide +kernel
set_option maxRecDepth 100000 in
theorem d_49_50 : decode (mB 49) 50 = .ok (.getfield 15, 3) := by decide +kernel
set_option maxRecDepth 100000 in
theorem d_49_53 : decode (mB 49) 53 = .ok (.iload_n 1, 1) := by decide +kernel
set_option maxRecDepth 100000 in
theorem d_49_54 : decode (mB 49) 54 = .ok (.bipush 7, 2) := by decide +kernel
set_option maxRecDepth 100000 in
theorem d_49_56 : decode (mB 49) 56 = .ok (.irem, 1) := by decide +kernel
set_option maxRecDepth 100000 in
theorem d_49_57 : decode (mB 49) 57 = .ok (.ishr, 1) := by decide +kernel
set_option maxRecDepth 100000 in
theorem d_49_58 : decode (mB 49) 58 = .ok (.iconst 1, 1) := by decide +kernel
set_option maxRecDepth 100000 in
theorem d_49_59 : decode (mB 49) 59 = .ok (.iand, 1) := by decide +kernel
set_option maxRecDepth 100000 in
theorem d_49_60 : decode (mB 49) 60 = .ok (.iconst 1, 1) := by decide +kernel
set_option maxRecDepth 100000 in
theorem d_49_61 : decode (mB 49) 61 = .ok (.if_icmp .ne 7, 3) := by decide +kernel
set_option maxRecDepth 100000 in
theorem d_49_64 : decode (mB 49) 64 = .ok (.iconst 1, 1) := by decide +kernel
set_option maxRecDepth 100000 in
theorem d_49_65 : decode (mB 49) 65 = .ok (.goto 4, 3) := by decide +kernel
set_option maxRecDepth 100000 in
theorem d_49_68 : decode (mB 49) 68 = .ok (.iconst 0, 1) := by decide +kernel
set_option maxRecDepth 100000 in
theorem d_49_69 : decode (mB 49) 69 = .ok (.ireturn, 1) := by decide +kernel
set_option maxRecDepth 100000 in
theorem fl_5_9 : flP "WhistleStop$Footway" 9 5 0 := ⟨_, rfl, by decide, okk_w (k := 890) (by decide +kernel)⟩
set_option maxRecDepth 100000 in
theorem fl_5_15 : flP "WhistleStop$Footway" 15 5 1 := ⟨_, rfl, by decide, okk_w (k := 893) (by decide +kernel)⟩
set_option maxRecDepth 100000 in
theorem d_57_0 : decode (mB 57) 0 = .ok (.iload_n 1, 1) := by decide +kernel
set_option maxRecDepth 100000 in
theorem d_57_1 : decode (mB 57) 1 = .ok (.aload_n 0, 1) := by decide +kernel
set_option maxRecDepth 100000 in
theorem d_57_2 : decode (mB 57) 2 = .ok (.getfield 9, 3) := by decide +kernel
set_option maxRecDepth 100000 in
theorem d_57_5 : decode (mB 57) 5 = .ok (.if_icmp .ne 8, 3) := by decide +kernel
set_option maxRecDepth 100000 in
theorem d_57_8 : decode (mB 57) 8 = .ok (.aload_n 0, 1) := by decide +kernel
set_option maxRecDepth 100000 in
theorem d_57_9 : decode (mB 57) 9 = .ok (.getfield 15, 3) := by decide +kernel
set_option maxRecDepth 100000 in
theorem d_57_12 : decode (mB 57) 12 = .ok (.ireturn, 1) := by decide +kernel
set_option maxRecDepth 100000 in
theorem d_57_13 : decode (mB 57) 13 = .ok (.iload_n 1, 1) := by decide +kernel
set_option maxRecDepth 100000 in
theorem d_57_14 : decode (mB 57) 14 = .ok (.aload_n 0, 1) := by decide +kernel
set_option maxRecDepth 100000 in
theorem d_57_15 : decode (mB 57) 15 = .ok (.getfield 15, 3) := by decide +kernel
set_option maxRecDepth 100000 in
theorem d_57_18 : decode (mB 57) 18 = .ok (.if_icmp .ne 10, 3) := by decide +kernel
set_option maxRecDepth 100000 in
theorem d_57_21 : decode (mB 57) 21 = .ok (.aload_n 0, 1) := by decide +kernel
set_option maxRecDepth 100000 in
theorem d_57_22 : decode (mB 57) 22 = .ok (.getfield 9, 3) := by decide +kernel
set_option maxRecDepth 100000 in
theorem d_57_25 : decode (mB 57) 25 = .ok (.goto 4, 3) := by decide +kernel
set_option maxRecDepth 100000 in
theorem d_57_28 : decode (mB 57) 28 = .ok (.iconst (-1), 1) := by decide +kernel
set_option maxRecDepth 100000 in
theorem d_57_29 : decode (mB 57) 29 = .ok (.ireturn, 1) := by decide +kernel
set_option maxRecDepth 100000 in
theorem c_94_38 : csnP 94 38 7 1 := ⟨cd_7, ⟨"WhistleStop", okk_w (k := 186) (by decide +kernel)⟩, okk_w (k := 187) (by decide +kernel), by decide +kernel, by decide +kernel⟩
set_option maxRecDepth 100000 in
theorem fl_11_21 : flP "WhistleStop$Trip" 21 11 6 := ⟨_, rfl, by decide, okk_w (k := 976) (by decide +kernel)⟩
set_option maxRecDepth 100000 in
theorem fl_11_28 : flP "WhistleStop$Trip" 28 11 1 := ⟨_, rfl, by decide, okk_w (k := 955) (by decide +kernel)⟩
set_option maxRecDepth 100000 in
theorem c_94_42 : cvP 94 42 49 1 := ⟨cd_49, okk_w (k := 189) (by decide +kernel), okk_w (k := 190) (by decide +kernel), okk_w (k := 191) (by decide +kernel), by decide +kernel, by decide +kernel⟩
set_option maxRecDepth 100000 in
theorem d_94_0 : decode (mB 94) 0 = .ok (.iload_n 1, 1) := by decide +kernel
set_option maxRecDepth 100000 in
theorem d_94_1 : decode (mB 94) 1 = .ok (.invokestatic 38, 3) := by decide +kernel
set_option maxRecDepth 100000 in
theorem d_94_4 : decode (mB 94) 4 = .ok (.ifCond .eq 28, 3) := by decide +kernel
set_option maxRecDepth 100000 in
theorem d_94_7 : decode (mB 94) 7 = .ok (.aload_n 0, 1) := by decide +kernel
set_option maxRecDepth 100000 in
theorem d_94_8 : decode (mB 94) 8 = .ok (.getfield 21, 3) := by decide +kernel
set_option maxRecDepth 100000 in
theorem d_94_11 : decode (mB 94) 11 = .ok (.iload_n 1, 1) := by decide +kernel
set_option maxRecDepth 100000 in
theorem d_94_12 : decode (mB 94) 12 = .ok (.iaload, 1) := by decide +kernel
set_option maxRecDepth 100000 in
theorem d_94_13 : decode (mB 94) 13 = .ok (.iconst (-1), 1) := by decide +kernel
set_option maxRecDepth 100000 in
theorem d_94_14 : decode (mB 94) 14 = .ok (.if_icmp .eq 18, 3) := by decide +kernel
set_option maxRecDepth 100000 in
theorem d_94_17 : decode (mB 94) 17 = .ok (.aload_n 0, 1) := by decide +kernel
set_option maxRecDepth 100000 in
theorem d_94_18 : decode (mB 94) 18 = .ok (.getfield 28, 3) := by decide +kernel
set_option maxRecDepth 100000 in
theorem d_94_21 : decode (mB 94) 21 = .ok (.iload_n 1, 1) := by decide +kernel
set_option maxRecDepth 100000 in
theorem d_94_22 : decode (mB 94) 22 = .ok (.invokevirtual 42, 3) := by decide +kernel
set_option maxRecDepth 100000 in
theorem d_94_25 : decode (mB 94) 25 = .ok (.ifCond .eq 7, 3) := by decide +kernel
set_option maxRecDepth 100000 in
theorem d_94_28 : decode (mB 94) 28 = .ok (.iconst 1, 1) := by decide +kernel
set_option maxRecDepth 100000 in
theorem d_94_29 : decode (mB 94) 29 = .ok (.goto 4, 3) := by decide +kernel
set_option maxRecDepth 100000 in
theorem d_94_32 : decode (mB 94) 32 = .ok (.iconst 0, 1) := by decide +kernel
set_option maxRecDepth 100000 in
theorem d_94_33 : decode (mB 94) 33 = .ok (.ireturn, 1) := by decide +kernel
set_option maxRecDepth 100000 in
theorem c_95_38 : csnP 95 38 7 1 := ⟨cd_7, ⟨"WhistleStop", okk_w (k := 186) (by decide +kernel)⟩, okk_w (k := 187) (by decide +kernel), by decide +kernel, by decide +kernel⟩
set_option maxRecDepth 100000 in
theorem d_95_0 : decode (mB 95) 0 = .ok (.iload_n 1, 1) := by decide +kernel
set_option maxRecDepth 100000 in
theorem d_95_1 : decode (mB 95) 1 = .ok (.invokestatic 38, 3) := by decide +kernel
set_option maxRecDepth 100000 in
theorem d_95_4 : decode (mB 95) 4 = .ok (.ifCond .eq 18, 3) := by decide +kernel
set_option maxRecDepth 100000 in
theorem d_95_7 : decode (mB 95) 7 = .ok (.sipush 1440, 3) := by decide +kernel
set_option maxRecDepth 100000 in
theorem d_95_10 : decode (mB 95) 10 = .ok (.iload_n 1, 1) := by decide +kernel
set_option maxRecDepth 100000 in
theorem d_95_11 : decode (mB 95) 11 = .ok (.imul, 1) := by decide +kernel
set_option maxRecDepth 100000 in
theorem d_95_12 : decode (mB 95) 12 = .ok (.aload_n 0, 1) := by decide +kernel
set_option maxRecDepth 100000 in
theorem d_95_13 : decode (mB 95) 13 = .ok (.getfield 21, 3) := by decide +kernel
set_option maxRecDepth 100000 in
theorem d_95_16 : decode (mB 95) 16 = .ok (.iload_n 1, 1) := by decide +kernel
set_option maxRecDepth 100000 in
theorem d_95_17 : decode (mB 95) 17 = .ok (.iaload, 1) := by decide +kernel
set_option maxRecDepth 100000 in
theorem d_95_18 : decode (mB 95) 18 = .ok (.iadd, 1) := by decide +kernel
set_option maxRecDepth 100000 in
theorem d_95_19 : decode (mB 95) 19 = .ok (.goto 5, 3) := by decide +kernel
set_option maxRecDepth 100000 in
theorem d_95_24 : decode (mB 95) 24 = .ok (.ireturn, 1) := by decide +kernel
set_option maxRecDepth 100000 in
theorem fl_11_35 : flP "WhistleStop$Trip" 35 11 7 := ⟨_, rfl, by decide, okk_w (k := 978) (by decide +kernel)⟩
set_option maxRecDepth 100000 in
theorem fl_11_18 : flP "WhistleStop$Trip" 18 11 5 := ⟨_, rfl, by decide, okk_w (k := 970) (by decide +kernel)⟩
set_option maxRecDepth 100000 in
theorem d_96_0 : decode (mB 96) 0 = .ok (.aload_n 0, 1) := by decide +kernel
set_option maxRecDepth 100000 in
theorem d_96_1 : decode (mB 96) 1 = .ok (.getfield 35, 3) := by decide +kernel
set_option maxRecDepth 100000 in
theorem d_96_4 : decode (mB 96) 4 = .ok (.ifCond .le 17, 3) := by decide +kernel
set_option maxRecDepth 100000 in
theorem d_96_7 : decode (mB 96) 7 = .ok (.aload_n 0, 1) := by decide +kernel
set_option maxRecDepth 100000 in
theorem d_96_8 : decode (mB 96) 8 = .ok (.getfield 18, 3) := by decide +kernel
set_option maxRecDepth 100000 in
theorem d_96_11 : decode (mB 96) 11 = .ok (.aload_n 0, 1) := by decide +kernel
set_option maxRecDepth 100000 in
theorem d_96_12 : decode (mB 96) 12 = .ok (.getfield 35, 3) := by decide +kernel
set_option maxRecDepth 100000 in
theorem d_96_15 : decode (mB 96) 15 = .ok (.iconst 1, 1) := by decide +kernel
set_option maxRecDepth 100000 in
theorem d_96_16 : decode (mB 96) 16 = .ok (.isub, 1) := by decide +kernel
set_option maxRecDepth 100000 in
theorem d_96_17 : decode (mB 96) 17 = .ok (.iaload, 1) := by decide +kernel
set_option maxRecDepth 100000 in
theorem d_96_18 : decode (mB 96) 18 = .ok (.goto 4, 3) := by decide +kernel
set_option maxRecDepth 100000 in
theorem d_96_22 : decode (mB 96) 22 = .ok (.ireturn, 1) := by decide +kernel
set_option maxRecDepth 100000 in
theorem d_109_0 : decode (mB 109) 0 = .ok (.iload_n 0, 1) := by decide +kernel
set_option maxRecDepth 100000 in
theorem d_109_1 : decode (mB 109) 1 = .ok (.iload_n 1, 1) := by decide +kernel
set_option maxRecDepth 100000 in
theorem d_109_2 : decode (mB 109) 2 = .ok (.idiv, 1) := by decide +kernel
set_option maxRecDepth 100000 in
theorem d_109_3 : decode (mB 109) 3 = .ok (.istore_n 2, 1) := by decide +kernel
set_option maxRecDepth 100000 in
theorem d_109_4 : decode (mB 109) 4 = .ok (.iload_n 0, 1) := by decide +kernel
set_option maxRecDepth 100000 in
theorem d_109_5 : decode (mB 109) 5 = .ok (.iload_n 1, 1) := by decide +kernel
set_option maxRecDepth 100000 in
theorem d_109_6 : decode (mB 109) 6 = .ok (.ixor, 1) := by decide +kernel
set_option maxRecDepth 100000 in
theorem d_109_7 : decode (mB 109) 7 = .ok (.ifCond .ge 14, 3) := by decide +kernel
set_option maxRecDepth 100000 in
theorem d_109_10 : decode (mB 109) 10 = .ok (.iload_n 2, 1) := by decide +kernel
set_option maxRecDepth 100000 in
theorem d_109_11 : decode (mB 109) 11 = .ok (.iload_n 1, 1) := by decide +kernel
set_option maxRecDepth 100000 in
theorem d_109_12 : decode (mB 109) 12 = .ok (.imul, 1) := by decide +kernel
set_option maxRecDepth 100000 in
theorem d_109_13 : decode (mB 109) 13 = .ok (.iload_n 0, 1) := by decide +kernel
set_option maxRecDepth 100000 in
theorem d_109_14 : decode (mB 109) 14 = .ok (.if_icmp .eq 7, 3) := by decide +kernel
set_option maxRecDepth 100000 in
theorem d_109_17 : decode (mB 109) 17 = .ok (.iload_n 2, 1) := by decide +kernel
set_option maxRecDepth 100000 in
theorem d_109_18 : decode (mB 109) 18 = .ok (.iconst 1, 1) := by decide +kernel
set_option maxRecDepth 100000 in
theorem d_109_19 : decode (mB 109) 19 = .ok (.isub, 1) := by decide +kernel
set_option maxRecDepth 100000 in
theorem d_109_20 : decode (mB 109) 20 = .ok (.ireturn, 1) := by decide +kernel
set_option maxRecDepth 100000 in
theorem d_109_21 : decode (mB 109) 21 = .ok (.iload_n 2, 1) := by decide +kernel
set_option maxRecDepth 100000 in
theorem d_109_22 : decode (mB 109) 22 = .ok (.ireturn, 1) := by decide +kernel
set_option maxRecDepth 100000 in
theorem d_110_0 : decode (mB 110) 0 = .ok (.iload_n 0, 1) := by decide +kernel
set_option maxRecDepth 100000 in
theorem d_110_1 : decode (mB 110) 1 = .ok (.iload_n 1, 1) := by decide +kernel
set_option maxRecDepth 100000 in
theorem d_110_2 : decode (mB 110) 2 = .ok (.if_icmp .lt 7, 3) := by decide +kernel
set_option maxRecDepth 100000 in
theorem d_110_5 : decode (mB 110) 5 = .ok (.iload_n 0, 1) := by decide +kernel
set_option maxRecDepth 100000 in
theorem d_110_6 : decode (mB 110) 6 = .ok (.goto 4, 3) := by decide +kernel
set_option maxRecDepth 100000 in
theorem d_110_9 : decode (mB 110) 9 = .ok (.iload_n 1, 1) := by decide +kernel
set_option maxRecDepth 100000 in
theorem d_110_10 : decode (mB 110) 10 = .ok (.ireturn, 1) := by decide +kernel
set_option maxRecDepth 100000 in
theorem d_111_0 : decode (mB 111) 0 = .ok (.iload_n 0, 1) := by decide +kernel
set_option maxRecDepth 100000 in
theorem d_111_1 : decode (mB 111) 1 = .ok (.iload_n 1, 1) := by decide +kernel
set_option maxRecDepth 100000 in
theorem d_111_2 : decode (mB 111) 2 = .ok (.if_icmp .gt 7, 3) := by decide +kernel
set_option maxRecDepth 100000 in
theorem d_111_5 : decode (mB 111) 5 = .ok (.iload_n 0, 1) := by decide +kernel
set_option maxRecDepth 100000 in
theorem d_111_6 : decode (mB 111) 6 = .ok (.goto 4, 3) := by decide +kernel
set_option maxRecDepth 100000 in
theorem d_111_9 : decode (mB 111) 9 = .ok (.iload_n 1, 1) := by decide +kernel
set_option maxRecDepth 100000 in
theorem d_111_10 : decode (mB 111) 10 = .ok (.ireturn, 1) := by decide +kernel
set_option maxRecDepth 100000 in
theorem d_112_0 : decode (mB 112) 0 = .ok (.iconst 0, 1) := by decide +kernel
set_option maxRecDepth 100000 in
theorem d_112_1 : decode (mB 112) 1 = .ok (.istore_n 2, 1) := by decide +kernel
set_option maxRecDepth 100000 in
theorem d_112_2 : decode (mB 112) 2 = .ok (.aload_n 0, 1) := by decide +kernel
set_option maxRecDepth 100000 in
theorem d_112_3 : decode (mB 112) 3 = .ok (.arraylength, 1) := by decide +kernel
set_option maxRecDepth 100000 in
theorem d_112_4 : decode (mB 112) 4 = .ok (.istore_n 3, 1) := by decide +kernel
set_option maxRecDepth 100000 in
theorem d_112_5 : decode (mB 112) 5 = .ok (.iload_n 2, 1) := by decide +kernel
set_option maxRecDepth 100000 in
theorem d_112_6 : decode (mB 112) 6 = .ok (.iload_n 3, 1) := by decide +kernel
set_option maxRecDepth 100000 in
theorem d_112_7 : decode (mB 112) 7 = .ok (.if_icmp .ge 13, 3) := by decide +kernel
set_option maxRecDepth 100000 in
theorem d_112_10 : decode (mB 112) 10 = .ok (.aload_n 0, 1) := by decide +kernel
set_option maxRecDepth 100000 in
theorem d_112_11 : decode (mB 112) 11 = .ok (.iload_n 2, 1) := by decide +kernel
set_option maxRecDepth 100000 in
theorem d_112_12 : decode (mB 112) 12 = .ok (.iload_n 1, 1) := by decide +kernel
set_option maxRecDepth 100000 in
theorem d_112_13 : decode (mB 112) 13 = .ok (.iastore, 1) := by decide +kernel
set_option maxRecDepth 100000 in
theorem d_112_14 : decode (mB 112) 14 = .ok (.iinc 2 1, 3) := by decide +kernel
set_option maxRecDepth 100000 in
theorem d_112_17 : decode (mB 112) 17 = .ok (.goto (-12), 3) := by decide +kernel
set_option maxRecDepth 100000 in
theorem d_112_20 : decode (mB 112) 20 = .ok (.return_, 1) := by decide +kernel
end
section
/-! ===== leaves ===== -/
theorem isRf_of {h : Hp} {a K : Nat} (hk : kd h a = K) (hr : isRf (AT K) = true) : isRf (AT (kd h a)) = true := by rw [hk]; exact hr
theorem vand_in (x y : Int) : inR (vand x y) := ⟨Int32.le_toInt _, by have := Int32.toInt_lt (Int32.ofInt x &&& Int32.ofInt y); unfold vand; omega⟩
theorem vshr_in (x y : Int) : inR (vshr x y) := ⟨Int32.le_toInt _, by have := Int32.toInt_lt (Int32.ofInt x >>> (Int32.ofInt y &&& 31)); unfold vshr; omega⟩
set_option maxRecDepth 100000 in
set_option maxHeartbeats 4000000 in
theorem s_max {x y : Int} {h : Hp} (hx : inR x) (hy : inR y) : wp 110 0 (entL [vI x, vI y] (mL 110)) [] h (fun v h' => v = some (vI (max x y)) ∧ h' = h) noX := by
  refine wp_iload_n d_110_0 (by rfl) ?_
  refine wp_iload_n d_110_1 (by rfl) ?_
  refine wp_icmp_lt (tgt := 9) d_110_2 (by decide) (by omega) (by omega) (fun c_2 => ?_) (fun c_2 => ?_)
  · refine wp_iload_n d_110_9 (by rfl) ?_
    refine wp_iret d_110_10 rfl ?_
    exact ⟨congrArg (fun z => some (vI z)) (by omega), rfl⟩
  · refine wp_iload_n d_110_5 (by rfl) ?_
    refine wp_goto (tgt := 10) d_110_6 (by decide) ?_
    refine wp_iret d_110_10 rfl ?_
    exact ⟨congrArg (fun z => some (vI z)) (by omega), rfl⟩
set_option maxRecDepth 100000 in
set_option maxHeartbeats 4000000 in
theorem s_min {x y : Int} {h : Hp} (hx : inR x) (hy : inR y) : wp 111 0 (entL [vI x, vI y] (mL 111)) [] h (fun v h' => v = some (vI (min x y)) ∧ h' = h) noX := by
  refine wp_iload_n d_111_0 (by rfl) ?_
  refine wp_iload_n d_111_1 (by rfl) ?_
  refine wp_icmp_gt (tgt := 9) d_111_2 (by decide) (by omega) (by omega) (fun c_2 => ?_) (fun c_2 => ?_)
  · refine wp_iload_n d_111_9 (by rfl) ?_
    refine wp_iret d_111_10 rfl ?_
    exact ⟨congrArg (fun z => some (vI z)) (by omega), rfl⟩
  · refine wp_iload_n d_111_5 (by rfl) ?_
    refine wp_goto (tgt := 10) d_111_6 (by decide) ?_
    refine wp_iret d_111_10 rfl ?_
    exact ⟨congrArg (fun z => some (vI z)) (by omega), rfl⟩
set_option maxRecDepth 100000 in
set_option maxHeartbeats 4000000 in
theorem s_isW {x a b : Int} {h : Hp} (hx : inR x) (ha : inR a) (hb : inR b) : wp 4 0 (entL [vI x, vI a, vI b] (mL 4)) [] h (fun v h' => ∃ z, v = some (vI z) ∧ h' = h ∧ ((a ≤ x ∧ x ≤ b ∧ z = 1) ∨ (¬ (a ≤ x ∧ x ≤ b) ∧ z = 0))) noX := by
  refine wp_iload_n d_4_0 (by rfl) ?_
  refine wp_iload_n d_4_1 (by rfl) ?_
  refine wp_icmp_lt (tgt := 14) d_4_2 (by decide) (by omega) (by omega) (fun c_2 => ?_) (fun c_2 => ?_)
  · refine wp_iconst d_4_14 ?_
    refine wp_zret d_4_15 rfl (by omega) ?_
    exact ⟨_, rfl, rfl, by omega⟩
  · refine wp_iload_n d_4_5 (by rfl) ?_
    refine wp_iload_n d_4_6 (by rfl) ?_
    refine wp_icmp_gt (tgt := 14) d_4_7 (by decide) (by omega) (by omega) (fun c_7 => ?_) (fun c_7 => ?_)
    · refine wp_iconst d_4_14 ?_
      refine wp_zret d_4_15 rfl (by omega) ?_
      exact ⟨_, rfl, rfl, by omega⟩
    · refine wp_iconst d_4_10 ?_
      refine wp_goto (tgt := 15) d_4_11 (by decide) ?_
      refine wp_zret d_4_15 rfl (by omega) ?_
      exact ⟨_, rfl, rfl, by omega⟩
set_option maxRecDepth 100000 in
set_option maxHeartbeats 4000000 in
theorem s_isD {x : Int} {h : Hp} (hx : inR x) : wp 7 0 (entL [vI x] (mL 7)) [] h (fun v h' => ∃ z, v = some (vI z) ∧ h' = h ∧ ((0 ≤ x ∧ x ≤ 365 ∧ z = 1) ∨ (¬ (0 ≤ x ∧ x ≤ 365) ∧ z = 0))) noX := by
  refine wp_iload_n d_7_0 (by rfl) ?_
  refine wp_iconst d_7_1 ?_
  refine wp_sipush d_7_2 (by decide) ?_
  refine wp_callS d_7_5 c_7_58 rfl (by rfl) (by rfl) (by exact Nat.le_of_ble_eq_true rfl) (by exact Nat.le_of_ble_eq_true rfl) (s_isW hx (by omega) (by omega)) (fun v_5 h_5 q_5 => ?_) (fun _ _ q => q.elim)
  obtain ⟨z_5, rfl, y_5, u_5⟩ := q_5
  replace y_5 := y_5.symm
  subst y_5
  refine wp_zret d_7_8 rfl (by omega) ?_
  exact ⟨_, rfl, rfl, by omega⟩
theorem vxor_neg {x y : Int} (hx : inR x) (hy : inR y) (h0 : 0 ≤ y) : vxor x y < 0 ↔ x < 0 := by
  have hm : ∀ z : Int32, z.toInt < 0 ↔ z.toBitVec.msb = true := fun z => by
    rw [BitVec.msb_eq_toInt]
    simp
  unfold vxor
  rw [hm]
  have e : (Int32.ofInt x ^^^ Int32.ofInt y).toBitVec = (Int32.ofInt x).toBitVec ^^^ (Int32.ofInt y).toBitVec := rfl
  rw [e, BitVec.msb_xor]
  have h1 := hm (Int32.ofInt x)
  have h2 := hm (Int32.ofInt y)
  rw [i_toInt hx] at h1
  rw [i_toInt hy] at h2
  have h3 : (Int32.ofInt y).toBitVec.msb = false := by
    cases h : (Int32.ofInt y).toBitVec.msb with
    | false => rfl
    | true => exact absurd (h2.mpr h) (by omega)
  rw [h3, Bool.xor_false]
  exact h1.symm
theorem fdiv_case {x y : Int} (hy : 0 < y) : (x < 0 → x.tdiv y * y ≠ x → x.tdiv y - 1 = x / y) ∧ ((0 ≤ x ∨ x.tdiv y * y = x) → x.tdiv y = x / y) := by
  have h1 := Int.tmod_add_mul_tdiv x y
  have h2 := Int.emod_add_mul_ediv x y
  have h3 := Int.emod_nonneg x (by omega : y ≠ 0)
  have h4 := Int.emod_lt_of_pos x hy
  have e : x.tdiv y * y = y * x.tdiv y := Int.mul_comm _ _
  rcases Int.lt_or_le x 0 with hx | hx
  · have h5 : x.tmod y ≤ 0 := by
      have : 0 ≤ (-x).tmod y := Int.tmod_nonneg y (by omega)
      rw [Int.neg_tmod] at this
      omega
    have h6 := Int.lt_tmod_of_pos x hy
    have h7 : y * (x.tdiv y - x / y) = x % y - x.tmod y := by rw [Int.mul_sub]; omega
    constructor
    · intro _ hne
      have h8 : x.tmod y ≠ 0 := by omega
      have : x.tdiv y - x / y = 1 := by
        have a1 : 0 < y * (x.tdiv y - x / y) := by omega
        have a2 : y * (x.tdiv y - x / y) < y * 2 := by omega
        have a3 : 0 < x.tdiv y - x / y := Int.pos_of_mul_pos_right a1 (by omega) |> fun h => h
        have a4 : x.tdiv y - x / y < 2 := Int.lt_of_mul_lt_mul_left a2 (by omega)
        omega
      omega
    · rintro (h | h)
      · omega
      · have h8 : x.tmod y = 0 := by omega
        have a2 : y * (x.tdiv y - x / y) < y * 1 := by omega
        have a1 : y * 0 ≤ y * (x.tdiv y - x / y) := by omega
        have a4 : x.tdiv y - x / y < 1 := Int.lt_of_mul_lt_mul_left a2 (by omega)
        have a3 : 0 ≤ x.tdiv y - x / y := Int.le_of_mul_le_mul_left a1 hy
        omega
  · constructor
    · intro h _
      omega
    · intro _
      exact Int.tdiv_eq_ediv_of_nonneg hx
set_option maxRecDepth 100000 in
set_option maxHeartbeats 4000000 in
theorem s_floorDiv {x y : Int} {h : Hp} (hx : inR x) (hy : inR y) (h0 : 0 < y) : wp 109 0 (entL [vI x, vI y] (mL 109)) [] h (fun v h' => v = some (vI (x / y)) ∧ h' = h) noX := by
  have hfd := fdiv_case (x := x) h0
  have hdv : x < 0 → x ≤ x.tdiv y * y ∧ x.tdiv y * y ≤ y := by
    intro hx0
    have g1 := Int.tmod_add_mul_tdiv x y
    have e : x.tdiv y * y = y * x.tdiv y := Int.mul_comm _ _
    have g2 : 0 ≤ (-x).tmod y := Int.tmod_nonneg y (by omega)
    rw [Int.neg_tmod] at g2
    have g3 := Int.lt_tmod_of_pos x h0
    omega
  have hvn := vxor_neg hx hy (by omega)
  have hvr : inR (vxor x y) := ⟨Int32.le_toInt _, by have := Int32.toInt_lt (Int32.ofInt x ^^^ Int32.ofInt y); unfold vxor; omega⟩
  refine wp_iload_n d_109_0 (by rfl) ?_
  refine wp_iload_n d_109_1 (by rfl) ?_
  refine wp_idiv d_109_2 (by first | omega | (refine ⟨?_, ?_⟩ <;> omega)) (by first | omega | (refine ⟨?_, ?_⟩ <;> omega)) (by omega) ?_
  refine wp_istore_n d_109_3 (by decide) ?_
  refine wp_iload_n d_109_4 (by rfl) ?_
  refine wp_iload_n d_109_5 (by rfl) ?_
  refine wp_ixor d_109_6 ?_
  refine wp_if_ge (tgt := 21) d_109_7 (by decide) (by first | omega | (refine ⟨?_, ?_⟩ <;> omega)) (fun c_7 => ?_) (fun c_7 => ?_)
  · refine wp_iload_n d_109_21 (by rfl) ?_
    refine wp_iret d_109_22 rfl ?_
    refine ⟨congrArg (fun z => some (vI z)) ?_, rfl⟩
    first | (exact hfd.2 (by omega)) | (exact hfd.1 (by omega) (by omega))
  · refine wp_iload_n d_109_10 (by rfl) ?_
    refine wp_iload_n d_109_11 (by rfl) ?_
    refine wp_imul d_109_12 ?_
    refine wp_iload_n d_109_13 (by rfl) ?_
    refine wp_icmp_eq (tgt := 21) d_109_14 (by decide) (by first | omega | (refine ⟨?_, ?_⟩ <;> omega)) (by first | omega | (refine ⟨?_, ?_⟩ <;> omega)) (fun c_14 => ?_) (fun c_14 => ?_)
    · refine wp_iload_n d_109_21 (by rfl) ?_
      refine wp_iret d_109_22 rfl ?_
      refine ⟨congrArg (fun z => some (vI z)) ?_, rfl⟩
      first | (exact hfd.2 (by omega)) | (exact hfd.1 (by omega) (by omega))
    · refine wp_iload_n d_109_17 (by rfl) ?_
      refine wp_iconst d_109_18 ?_
      refine wp_isub d_109_19 ?_
      refine wp_iret d_109_20 rfl ?_
      refine ⟨congrArg (fun z => some (vI z)) ?_, rfl⟩
      first | (exact hfd.2 (by omega)) | (exact hfd.1 (by omega) (by omega))
set_option maxRecDepth 100000 in
set_option maxHeartbeats 4000000 in
theorem l_fill {a : Nat} {x N : Int} (hx : inR x) (hN : 0 ≤ N ∧ N ≤ 1000000) {Q : Option AV → Hp → Prop} : ∀ (n : Nat) (j : Int) (h : Hp), j + n = N → 0 ≤ j → kd h a = 100 → ln h a = N → (∀ h', ch (· = a) nP h h' → (∀ k, 0 ≤ k → k < N → hi h' a k = if j ≤ k then x else hi h a k) → Q none h') → wp 112 5 [some (vR (some a)), some (vI x), some (vI j), some (vI N)] [] h Q noX := by
  intro n
  induction n with
  | zero =>
    intro j h e0 e1 hk hl k
    refine wp_iload_n d_112_5 (by rfl) ?_
    refine wp_iload_n d_112_6 (by rfl) ?_
    refine wp_icmp_ge (tgt := 20) d_112_7 (by decide) (by omega) (by omega) (fun c_7 => ?_) (fun c_7 => absurd c_7 (by omega))
    refine wp_vret d_112_20 rfl ?_
    exact k h ch.rfl (fun k h0 h1 => (if_neg (by omega)).symm)
  | succ n ih =>
    intro j h e0 e1 hk hl k
    refine wp_iload_n d_112_5 (by rfl) ?_
    refine wp_iload_n d_112_6 (by rfl) ?_
    refine wp_icmp_ge (tgt := 20) d_112_7 (by decide) (by omega) (by omega) (fun c_7 => ?_) (fun c_7 => ?_)
    · refine wp_vret d_112_20 rfl ?_
      exact absurd c_7 (by omega)
    · refine wp_aload_n d_112_10 (by rfl) ?_
      refine wp_iload_n d_112_11 (by rfl) ?_
      refine wp_iload_n d_112_12 (by rfl) ?_
      refine wp_iast d_112_13 (by assumption) (by omega) (by omega) (by omega) ?_
      refine wp_iinc d_112_14 (by rfl) (by decide) ?_
      refine wp_goto (tgt := 5) d_112_17 (by decide) ?_
      refine ih (j + 1) (setI h a j x) (by omega) (by omega) hk hl (fun h' e e2 => ?_)
      refine k h' ((ch_setI (P := (· = a)) rfl).trans e) (fun k h0 h1 => ?_)
      rw [e2 k h0 h1, hi_setI]
      unfold up2
      by_cases c : j + 1 ≤ k
      · rw [if_pos c, if_pos (by omega)]
      · rw [if_neg c]
        by_cases c2 : k = j
        · rw [if_pos ⟨rfl, c2⟩, if_pos (by omega)]
        · rw [if_neg (fun z => c2 z.2), if_neg (by omega)]
set_option maxRecDepth 100000 in
set_option maxHeartbeats 4000000 in
theorem s_fill {a : Nat} {x N : Int} {h : Hp} (hx : inR x) (hN : 0 ≤ N ∧ N ≤ 1000000) (hk : kd h a = 100) (hl : ln h a = N) : wp 112 0 (entL [vR (some a), vI x] (mL 112)) [] h (fun v h' => v = none ∧ ch (· = a) nP h h' ∧ ∀ k, 0 ≤ k → k < N → hi h' a k = x) noX := by
  refine wp_iconst d_112_0 ?_
  refine wp_istore_n d_112_1 (by decide) ?_
  refine wp_aload_n d_112_2 (by rfl) ?_
  refine wp_alen d_112_3 (by omega) ?_
  refine wp_istore_n d_112_4 (by decide) ?_
  rw [hl]
  refine wp_to [some (vR (some a)), some (vI x), some (vI 0), some (vI N)] ⟨rfl, rfl, rfl, rfl, trivial⟩ ?_
  exact l_fill hx hN N.toNat 0 h (by omega) (by omega) hk hl (fun h' e e2 => ⟨rfl, e, fun k h0 h1 => by rw [e2 k h0 h1, if_pos h0]⟩)
set_option maxRecDepth 100000 in
set_option maxHeartbeats 4000000 in
theorem s_across {a : Nat} {s : Int} {h : Hp} (hk : kd h a = 6) (hs : inR s) : wp 57 0 (entL [vR (some a), vI s] (mL 57)) [] h (fun v h' => ∃ z, v = some (vI z) ∧ h' = h ∧ ((s = hi h a 0 ∧ z = hi h a 1) ∨ (s ≠ hi h a 0 ∧ s = hi h a 1 ∧ z = hi h a 0) ∨ (s ≠ hi h a 0 ∧ s ≠ hi h a 1 ∧ z = -1))) noX := by
  refine wp_iload_n d_57_0 (by rfl) ?_
  refine wp_aload_n d_57_1 (by rfl) ?_
  refine wp_getI (0) d_57_2 fl_5_9 rfl rfl (by assumption) (fun x_2 e_2 r_2 => ?_)
  refine wp_icmp_ne (tgt := 13) d_57_5 (by decide) (by omega) (by omega) (fun c_5 => ?_) (fun c_5 => ?_)
  · refine wp_iload_n d_57_13 (by rfl) ?_
    refine wp_aload_n d_57_14 (by rfl) ?_
    refine wp_getI (1) d_57_15 fl_5_15 rfl rfl (by assumption) (fun x_15 e_15 r_15 => ?_)
    refine wp_icmp_ne (tgt := 28) d_57_18 (by decide) (by omega) (by omega) (fun c_18 => ?_) (fun c_18 => ?_)
    · refine wp_iconst d_57_28 ?_
      refine wp_iret d_57_29 rfl ?_
      exact ⟨_, rfl, rfl, by omega⟩
    · refine wp_aload_n d_57_21 (by rfl) ?_
      refine wp_getI (0) d_57_22 fl_5_9 rfl rfl (by assumption) (fun x_22 e_22 r_22 => ?_)
      refine wp_goto (tgt := 29) d_57_25 (by decide) ?_
      refine wp_iret d_57_29 rfl ?_
      exact ⟨_, rfl, rfl, by omega⟩
  · refine wp_aload_n d_57_8 (by rfl) ?_
    refine wp_getI (1) d_57_9 fl_5_15 rfl rfl (by assumption) (fun x_9 e_9 r_9 => ?_)
    refine wp_iret d_57_12 rfl ?_
    exact ⟨_, rfl, rfl, by omega⟩
set_option maxRecDepth 100000 in
set_option maxHeartbeats 4000000 in
theorem s_isRunning {a : Nat} {d : Int} {h : Hp} (hc : CalOk h a) (hd : inR d) : wp 49 0 (entL [vR (some a), vI d] (mL 49)) [] h (fun v h' => ∃ z, v = some (vI z) ∧ h' = h ∧ ((z = 1 ∧ isRun h a d) ∨ (z = 0 ∧ ¬ isRun h a d))) noX := by
  obtain ⟨c1, c2, c3, c4⟩ := hc
  have v1 := vand_in (vshr (hi h a 0) (d.tmod 7)) 1
  have dm : 0 ≤ d → 0 ≤ d.tmod 7 ∧ d.tmod 7 < 7 := fun q => ⟨Int.tmod_nonneg 7 q, Int.tmod_lt_of_pos d (by decide)⟩
  refine wp_iload_n d_49_0 (by rfl) ?_
  refine wp_callSn d_49_1 c_49_25 rfl (by rfl) (by rfl) (by exact Nat.le_of_ble_eq_true rfl) (by exact Nat.le_of_ble_eq_true rfl) (s_isD hd) (fun v_1 h_1 q_1 => ?_) (fun _ _ q => q.elim)
  obtain ⟨z_1, rfl, y_1, u_1⟩ := q_1
  replace y_1 := y_1.symm
  subst y_1
  refine wp_if_ne (tgt := 9) d_49_4 (by decide) (by first | omega | assumption | decide) (fun c_4 => ?_) (fun c_4 => ?_)
  · refine wp_aload_n d_49_9 (by rfl) ?_
    refine wp_getR (3) d_49_10 fl_3_9 rfl rfl (by assumption) (by assumption) ?_
    refine wp_iload_n d_49_13 (by rfl) ?_
    refine wp_iald d_49_14 (Or.inl (by assumption)) (by first | omega | assumption | decide) (by first | omega | assumption | decide) (fun x_14 e_14 r_14 => ?_)
    refine wp_if_eq (tgt := 34) d_49_15 (by decide) (by first | omega | assumption | decide) (fun c_15 => ?_) (fun c_15 => ?_)
    · refine wp_iload_n d_49_34 (by rfl) ?_
      refine wp_aload_n d_49_35 (by rfl) ?_
      refine wp_getI (1) d_49_36 fl_3_19 rfl rfl (by assumption) (fun x_36 e_36 r_36 => ?_)
      refine wp_aload_n d_49_39 (by rfl) ?_
      refine wp_getI (2) d_49_40 fl_3_22 rfl rfl (by assumption) (fun x_40 e_40 r_40 => ?_)
      refine wp_callSn d_49_43 c_49_29 rfl (by rfl) (by rfl) (by exact Nat.le_of_ble_eq_true rfl) (by exact Nat.le_of_ble_eq_true rfl) (s_isW hd (by omega) (by omega)) (fun v_43 h_43 q_43 => ?_) (fun _ _ q => q.elim)
      obtain ⟨z_43, rfl, y_43, u_43⟩ := q_43
      replace y_43 := y_43.symm
      subst y_43
      refine wp_if_eq (tgt := 68) d_49_46 (by decide) (by first | omega | assumption | decide) (fun c_46 => ?_) (fun c_46 => ?_)
      · refine wp_iconst d_49_68 ?_
        refine wp_zret d_49_69 rfl (by omega) ?_
        refine ⟨_, rfl, rfl, ?_⟩
        unfold isRun
        first | (refine Or.inl ⟨rfl, ?_⟩; omega) | (refine Or.inr ⟨rfl, ?_⟩; omega)
      · refine wp_aload_n d_49_49 (by rfl) ?_
        refine wp_getI (0) d_49_50 fl_3_15 rfl rfl (by assumption) (fun x_50 e_50 r_50 => ?_)
        refine wp_iload_n d_49_53 (by rfl) ?_
        refine wp_bipush d_49_54 (by decide) ?_
        refine wp_irem d_49_56 (by first | omega | assumption | decide) (by first | omega | assumption | decide) (by omega) ?_
        have dm2 := dm (by omega)
        refine wp_ishr d_49_57 ?_
        refine wp_iconst d_49_58 ?_
        rw [e_50]
        refine wp_iand d_49_59 ?_
        refine wp_iconst d_49_60 ?_
        refine wp_icmp_ne (tgt := 68) d_49_61 (by decide) (by first | omega | assumption | decide) (by first | omega | assumption | decide) (fun c_61 => ?_) (fun c_61 => ?_)
        · refine wp_iconst d_49_68 ?_
          refine wp_zret d_49_69 rfl (by omega) ?_
          refine ⟨_, rfl, rfl, ?_⟩
          unfold isRun
          first | (refine Or.inl ⟨rfl, ?_⟩; omega) | (refine Or.inr ⟨rfl, ?_⟩; omega)
        · refine wp_iconst d_49_64 ?_
          refine wp_goto (tgt := 69) d_49_65 (by decide) ?_
          refine wp_zret d_49_69 rfl (by omega) ?_
          refine ⟨_, rfl, rfl, ?_⟩
          unfold isRun
          first | (refine Or.inl ⟨rfl, ?_⟩; omega) | (refine Or.inr ⟨rfl, ?_⟩; omega)
    · refine wp_aload_n d_49_18 (by rfl) ?_
      refine wp_getR (3) d_49_19 fl_3_9 rfl rfl (by assumption) (by assumption) ?_
      refine wp_iload_n d_49_22 (by rfl) ?_
      refine wp_iald d_49_23 (Or.inl (by assumption)) (by first | omega | assumption | decide) (by first | omega | assumption | decide) (fun x_23 e_23 r_23 => ?_)
      refine wp_iconst d_49_24 ?_
      refine wp_icmp_ne (tgt := 32) d_49_25 (by decide) (by first | omega | assumption | decide) (by first | omega | assumption | decide) (fun c_25 => ?_) (fun c_25 => ?_)
      · refine wp_iconst d_49_32 ?_
        refine wp_zret d_49_33 rfl (by omega) ?_
        refine ⟨_, rfl, rfl, ?_⟩
        unfold isRun
        first | (refine Or.inl ⟨rfl, ?_⟩; omega) | (refine Or.inr ⟨rfl, ?_⟩; omega)
      · refine wp_iconst d_49_28 ?_
        refine wp_goto (tgt := 33) d_49_29 (by decide) ?_
        refine wp_zret d_49_33 rfl (by omega) ?_
        refine ⟨_, rfl, rfl, ?_⟩
        unfold isRun
        first | (refine Or.inl ⟨rfl, ?_⟩; omega) | (refine Or.inr ⟨rfl, ?_⟩; omega)
  · refine wp_iconst d_49_7 ?_
    refine wp_zret d_49_8 rfl (by omega) ?_
    refine ⟨_, rfl, rfl, ?_⟩
    unfold isRun
    first | (refine Or.inl ⟨rfl, ?_⟩; omega) | (refine Or.inr ⟨rfl, ?_⟩; omega)
set_option maxRecDepth 100000 in
set_option maxHeartbeats 4000000 in
theorem s_baseOf {a : Nat} {d n : Int} {h : Hp} (hT : TripOk h n a) (hd : 0 ≤ d ∧ d ≤ 365) : wp 95 0 (entL [vR (some a), vI d] (mL 95)) [] h (fun v h' => v = some (vI (baseOf h a d)) ∧ h' = h) noX := by
  obtain ⟨t1, ⟨u1, u2, u3, u4⟩, ⟨⟨v1, v2⟩, ⟨v3, v4⟩, ⟨v5, v6⟩, v7, v8⟩, t4, t5, t6, t7, t8⟩ := hT
  refine wp_iload_n d_95_0 (by rfl) ?_
  refine wp_callSn d_95_1 c_95_38 rfl (by rfl) (by rfl) (by exact Nat.le_of_ble_eq_true rfl) (by exact Nat.le_of_ble_eq_true rfl) (s_isD (by omega)) (fun v_1 h_1 q_1 => ?_) (fun _ _ q => q.elim)
  obtain ⟨z_1, rfl, y_1, u_1⟩ := q_1
  replace y_1 := y_1.symm
  subst y_1
  refine wp_if_eq (tgt := 22) d_95_4 (by decide) (by omega) (fun c_4 => ?_) (fun c_4 => ?_)
  · exact absurd c_4 (by omega)
  refine wp_sipush d_95_7 (by decide) ?_
  refine wp_iload_n d_95_10 (by rfl) ?_
  refine wp_imul d_95_11 ?_
  refine wp_aload_n d_95_12 (by rfl) ?_
  refine wp_getR (6) d_95_13 fl_11_21 rfl rfl (by assumption) (by assumption) ?_
  refine wp_iload_n d_95_16 (by rfl) ?_
  refine wp_iald d_95_17 (Or.inl (by assumption)) (by omega) (by omega) (fun x_17 e_17 r_17 => ?_)
  refine wp_iadd d_95_18 ?_
  refine wp_goto (tgt := 24) d_95_19 (by decide) ?_
  refine wp_iret d_95_24 rfl ?_
  exact ⟨congrArg (fun z => some (vI z)) (by unfold baseOf; omega), rfl⟩
set_option maxRecDepth 100000 in
set_option maxHeartbeats 4000000 in
theorem s_lastDeparts {a : Nat} {n : Int} {h : Hp} (hT : TripOk h n a) : wp 96 0 (entL [vR (some a)] (mL 96)) [] h (fun v h' => v = some (vI (hi h (a + 3) (hi h a 7 - 1))) ∧ h' = h) noX := by
  obtain ⟨t1, ⟨u1, u2, u3, u4⟩, ⟨⟨v1, v2⟩, ⟨v3, v4⟩, ⟨v5, v6⟩, v7, v8⟩, t4, t5, t6, t7, t8⟩ := hT
  refine wp_aload_n d_96_0 (by rfl) ?_
  refine wp_getI (7) d_96_1 fl_11_35 rfl rfl (by assumption) (fun x_1 e_1 r_1 => ?_)
  refine wp_if_le (tgt := 21) d_96_4 (by decide) (by omega) (fun c_4 => ?_) (fun c_4 => ?_)
  · exact absurd c_4 (by omega)
  refine wp_aload_n d_96_7 (by rfl) ?_
  refine wp_getR (5) d_96_8 fl_11_18 rfl rfl (by assumption) (by assumption) ?_
  refine wp_aload_n d_96_11 (by rfl) ?_
  refine wp_getI (7) d_96_12 fl_11_35 rfl rfl (by assumption) (fun x_12 e_12 r_12 => ?_)
  refine wp_iconst d_96_15 ?_
  refine wp_isub d_96_16 ?_
  refine wp_iald d_96_17 (Or.inl (by assumption)) (by omega) (by omega) (fun x_17 e_17 r_17 => ?_)
  refine wp_goto (tgt := 22) d_96_18 (by decide) ?_
  refine wp_iret d_96_22 rfl ?_
  exact ⟨congrArg (fun z => some (vI z)) (by rw [e_17, e_12]), rfl⟩
set_option maxRecDepth 100000 in
set_option maxHeartbeats 4000000 in
theorem s_hasRun {a c : Nat} {d n : Int} {h : Hp} (hT : TripOk h n a) (hc : hr h a 1 = some c) (hC : CalOk h c) (hd : inR d) : wp 94 0 (entL [vR (some a), vI d] (mL 94)) [] h (fun v h' => ∃ z, v = some (vI z) ∧ h' = h ∧ ((z = 1 ∧ hasRn h a d) ∨ (z = 0 ∧ ¬ hasRn h a d))) noX := by
  obtain ⟨t1, ⟨u1, u2, u3, u4⟩, ⟨⟨v1, v2⟩, ⟨v3, v4⟩, ⟨v5, v6⟩, v7, v8⟩, t4, t5, t6, t7, t8⟩ := hT
  refine wp_iload_n d_94_0 (by rfl) ?_
  refine wp_callSn d_94_1 c_94_38 rfl (by rfl) (by rfl) (by exact Nat.le_of_ble_eq_true rfl) (by exact Nat.le_of_ble_eq_true rfl) (s_isD hd) (fun v_1 h_1 q_1 => ?_) (fun _ _ q => q.elim)
  obtain ⟨z_1, rfl, y_1, u_1⟩ := q_1
  replace y_1 := y_1.symm
  subst y_1
  refine wp_if_eq (tgt := 32) d_94_4 (by decide) (by omega) (fun c_4 => ?_) (fun c_4 => ?_)
  · refine wp_iconst d_94_32 ?_
    refine wp_zret d_94_33 rfl (by omega) ?_
    refine ⟨_, rfl, rfl, ?_⟩
    first
      | (refine Or.inr ⟨rfl, fun q => ?_⟩
         obtain ⟨q1, q2, c', q3, q4⟩ := q
         first
           | omega
           | (rcases u_22 with ⟨z1, z2⟩ | ⟨z1, z2⟩
              · omega
              · cases q3.symm.trans hc; exact z2 q4))
      | (refine Or.inl ⟨rfl, ⟨by omega, by omega⟩, by omega, c, hc, ?_⟩
         rcases u_22 with ⟨z1, z2⟩ | ⟨z1, z2⟩
         · exact z2
         · omega)
  · refine wp_aload_n d_94_7 (by rfl) ?_
    refine wp_getR (6) d_94_8 fl_11_21 rfl rfl (by first | assumption | exact hC.1) (by assumption) ?_
    refine wp_iload_n d_94_11 (by rfl) ?_
    refine wp_iald d_94_12 (Or.inl (by first | assumption | exact hC.1)) (by omega) (by omega) (fun x_12 e_12 r_12 => ?_)
    refine wp_iconst d_94_13 ?_
    refine wp_icmp_eq (tgt := 32) d_94_14 (by decide) (by omega) (by omega) (fun c_14 => ?_) (fun c_14 => ?_)
    · refine wp_iconst d_94_32 ?_
      refine wp_zret d_94_33 rfl (by omega) ?_
      refine ⟨_, rfl, rfl, ?_⟩
      first
        | (refine Or.inr ⟨rfl, fun q => ?_⟩
           obtain ⟨q1, q2, c', q3, q4⟩ := q
           first
             | omega
             | (rcases u_22 with ⟨z1, z2⟩ | ⟨z1, z2⟩
                · omega
                · cases q3.symm.trans hc; exact z2 q4))
        | (refine Or.inl ⟨rfl, ⟨by omega, by omega⟩, by omega, c, hc, ?_⟩
           rcases u_22 with ⟨z1, z2⟩ | ⟨z1, z2⟩
           · exact z2
           · omega)
    · refine wp_aload_n d_94_17 (by rfl) ?_
      refine wp_getR (1) d_94_18 fl_11_28 rfl rfl (by first | assumption | exact hC.1) (by assumption) ?_
      refine wp_iload_n d_94_21 (by rfl) ?_
      refine wp_callV d_94_22 c_94_42 rfl (by rfl) (by rfl) ⟨3, rfl, rfl, by decide⟩ (by first | assumption | exact hC.1) (by exact Nat.le_of_ble_eq_true rfl) (by exact Nat.le_of_ble_eq_true rfl) (s_isRunning hC hd) (fun v_22 h_22 q_22 => ?_) (fun _ _ q => q.elim)
      obtain ⟨z_22, rfl, y_22, u_22⟩ := q_22
      replace y_22 := y_22.symm
      subst y_22
      refine wp_if_eq (tgt := 32) d_94_25 (by decide) (by omega) (fun c_25 => ?_) (fun c_25 => ?_)
      · refine wp_iconst d_94_32 ?_
        refine wp_zret d_94_33 rfl (by omega) ?_
        refine ⟨_, rfl, rfl, ?_⟩
        first
          | (refine Or.inr ⟨rfl, fun q => ?_⟩
             obtain ⟨q1, q2, c', q3, q4⟩ := q
             first
               | omega
               | (rcases u_22 with ⟨z1, z2⟩ | ⟨z1, z2⟩
                  · omega
                  · cases q3.symm.trans hc; exact z2 q4))
          | (refine Or.inl ⟨rfl, ⟨by omega, by omega⟩, by omega, c, hc, ?_⟩
             rcases u_22 with ⟨z1, z2⟩ | ⟨z1, z2⟩
             · exact z2
             · omega)
      · refine wp_iconst d_94_28 ?_
        refine wp_goto (tgt := 33) d_94_29 (by decide) ?_
        refine wp_zret d_94_33 rfl (by omega) ?_
        refine ⟨_, rfl, rfl, ?_⟩
        first
          | (refine Or.inr ⟨rfl, fun q => ?_⟩
             obtain ⟨q1, q2, c', q3, q4⟩ := q
             first
               | omega
               | (rcases u_22 with ⟨z1, z2⟩ | ⟨z1, z2⟩
                  · omega
                  · cases q3.symm.trans hc; exact z2 q4))
          | (refine Or.inl ⟨rfl, ⟨by omega, by omega⟩, by omega, c, hc, ?_⟩
             rcases u_22 with ⟨z1, z2⟩ | ⟨z1, z2⟩
             · exact z2
             · omega)
end
section
set_option maxRecDepth 100000 in
theorem cd_83 : cdP 83 := ⟨okr (k := 225) rfl (by decide +kernel), by decide +kernel, by decide +kernel, okk_w (k := 36) (by decide +kernel)⟩
set_option maxRecDepth 100000 in
theorem cd_111 : cdP 111 := ⟨okr (k := 181) rfl (by decide +kernel), by decide +kernel, by decide +kernel, okk_w (k := 49) (by decide +kernel)⟩
set_option maxRecDepth 100000 in
theorem fl_9_28 : flP "WhistleStop$Onward" 28 9 3 := ⟨_, rfl, by decide, okk_w (k := 644) (by decide +kernel)⟩
set_option maxRecDepth 100000 in
theorem fl_9_105 : flP "WhistleStop$Onward" 105 7 5 := ⟨_, rfl, by decide, okk_w (k := 567) (by decide +kernel)⟩
set_option maxRecDepth 100000 in
theorem fl_9_108 : flP "WhistleStop$Onward" 108 7 1 := ⟨_, rfl, by decide, okk_w (k := 554) (by decide +kernel)⟩
set_option maxRecDepth 100000 in
theorem fl_9_112 : flP "WhistleStop$Onward" 112 5 0 := ⟨_, rfl, by decide, okk_w (k := 892) (by decide +kernel)⟩
set_option maxRecDepth 100000 in
theorem fl_9_117 : flP "WhistleStop$Onward" 117 5 1 := ⟨_, rfl, by decide, okk_w (k := 895) (by decide +kernel)⟩
set_option maxRecDepth 100000 in
theorem fl_9_120 : flP "WhistleStop$Onward" 120 5 2 := ⟨_, rfl, by decide, okk_w (k := 899) (by decide +kernel)⟩
set_option maxRecDepth 100000 in
theorem c_82_123 : cvP 82 123 83 4 := ⟨cd_83, okk_w (k := 222) (by decide +kernel), okk_w (k := 224) (by decide +kernel), okk_w (k := 6) (by decide +kernel), by decide +kernel, by decide +kernel⟩
set_option maxRecDepth 100000 in
theorem d_82_0 : decode (mB 82) 0 = .ok (.iconst 0, 1) := by decide +kernel
set_option maxRecDepth 100000 in
theorem d_82_1 : decode (mB 82) 1 = .ok (.istore_n 3, 1) := by decide +kernel
set_option maxRecDepth 100000 in
theorem d_82_2 : decode (mB 82) 2 = .ok (.iload_n 3, 1) := by decide +kernel
set_option maxRecDepth 100000 in
theorem d_82_3 : decode (mB 82) 3 = .ok (.aload_n 1, 1) := by decide +kernel
set_option maxRecDepth 100000 in
theorem d_82_4 : decode (mB 82) 4 = .ok (.getfield 105, 3) := by decide +kernel
set_option maxRecDepth 100000 in
theorem d_82_7 : decode (mB 82) 7 = .ok (.if_icmp .ge 57, 3) := by decide +kernel
set_option maxRecDepth 100000 in
theorem d_82_10 : decode (mB 82) 10 = .ok (.aload_n 1, 1) := by decide +kernel
set_option maxRecDepth 100000 in
theorem d_82_11 : decode (mB 82) 11 = .ok (.getfield 108, 3) := by decide +kernel
set_option maxRecDepth 100000 in
theorem d_82_14 : decode (mB 82) 14 = .ok (.iload_n 3, 1) := by decide +kernel
set_option maxRecDepth 100000 in
theorem d_82_15 : decode (mB 82) 15 = .ok (.aaload, 1) := by decide +kernel
set_option maxRecDepth 100000 in
theorem d_82_16 : decode (mB 82) 16 = .ok (.astore 4, 2) := by decide +kernel
set_option maxRecDepth 100000 in
theorem d_82_18 : decode (mB 82) 18 = .ok (.aload_n 0, 1) := by decide +kernel
set_option maxRecDepth 100000 in
theorem d_82_19 : decode (mB 82) 19 = .ok (.iload_n 2, 1) := by decide +kernel
set_option maxRecDepth 100000 in
theorem d_82_20 : decode (mB 82) 20 = .ok (.aload 4, 2) := by decide +kernel
set_option maxRecDepth 100000 in
theorem d_82_22 : decode (mB 82) 22 = .ok (.getfield 112, 3) := by decide +kernel
set_option maxRecDepth 100000 in
theorem d_82_25 : decode (mB 82) 25 = .ok (.aload 4, 2) := by decide +kernel
set_option maxRecDepth 100000 in
theorem d_82_27 : decode (mB 82) 27 = .ok (.getfield 117, 3) := by decide +kernel
set_option maxRecDepth 100000 in
theorem d_82_30 : decode (mB 82) 30 = .ok (.aload 4, 2) := by decide +kernel
set_option maxRecDepth 100000 in
theorem d_82_32 : decode (mB 82) 32 = .ok (.getfield 120, 3) := by decide +kernel
set_option maxRecDepth 100000 in
theorem d_82_35 : decode (mB 82) 35 = .ok (.invokevirtual 123, 3) := by decide +kernel
set_option maxRecDepth 100000 in
theorem d_82_38 : decode (mB 82) 38 = .ok (.aload_n 0, 1) := by decide +kernel
set_option maxRecDepth 100000 in
theorem d_82_39 : decode (mB 82) 39 = .ok (.iload_n 2, 1) := by decide +kernel
set_option maxRecDepth 100000 in
theorem d_82_40 : decode (mB 82) 40 = .ok (.aload 4, 2) := by decide +kernel
set_option maxRecDepth 100000 in
theorem d_82_42 : decode (mB 82) 42 = .ok (.getfield 117, 3) := by decide +kernel
set_option maxRecDepth 100000 in
theorem d_82_45 : decode (mB 82) 45 = .ok (.aload 4, 2) := by decide +kernel
set_option maxRecDepth 100000 in
theorem d_82_47 : decode (mB 82) 47 = .ok (.getfield 112, 3) := by decide +kernel
set_option maxRecDepth 100000 in
theorem d_82_50 : decode (mB 82) 50 = .ok (.aload 4, 2) := by decide +kernel
set_option maxRecDepth 100000 in
theorem d_82_52 : decode (mB 82) 52 = .ok (.getfield 120, 3) := by decide +kernel
set_option maxRecDepth 100000 in
theorem d_82_55 : decode (mB 82) 55 = .ok (.invokevirtual 123, 3) := by decide +kernel
set_option maxRecDepth 100000 in
theorem d_82_58 : decode (mB 82) 58 = .ok (.iinc 3 1, 3) := by decide +kernel
set_option maxRecDepth 100000 in
theorem d_82_61 : decode (mB 82) 61 = .ok (.goto (-59), 3) := by decide +kernel
set_option maxRecDepth 100000 in
theorem d_82_64 : decode (mB 82) 64 = .ok (.return_, 1) := by decide +kernel
set_option maxRecDepth 100000 in
theorem c_83_96 : csP 83 96 111 2 := ⟨cd_111, okk_w (k := 226) (by decide +kernel), okk_w (k := 180) (by decide +kernel), by decide +kernel, by decide +kernel⟩
set_option maxRecDepth 100000 in
theorem d_83_0 : decode (mB 83) 0 = .ok (.aload_n 0, 1) := by decide +kernel
set_option maxRecDepth 100000 in
theorem d_83_1 : decode (mB 83) 1 = .ok (.getfield 19, 3) := by decide +kernel
set_option maxRecDepth 100000 in
theorem d_83_4 : decode (mB 83) 4 = .ok (.iload_n 2, 1) := by decide +kernel
set_option maxRecDepth 100000 in
theorem d_83_5 : decode (mB 83) 5 = .ok (.iaload, 1) := by decide +kernel
set_option maxRecDepth 100000 in
theorem d_83_6 : decode (mB 83) 6 = .ok (.iload 4, 2) := by decide +kernel
set_option maxRecDepth 100000 in
theorem d_83_8 : decode (mB 83) 8 = .ok (.iadd, 1) := by decide +kernel
set_option maxRecDepth 100000 in
theorem d_83_9 : decode (mB 83) 9 = .ok (.istore 5, 2) := by decide +kernel
set_option maxRecDepth 100000 in
theorem d_83_11 : decode (mB 83) 11 = .ok (.iload 5, 2) := by decide +kernel
set_option maxRecDepth 100000 in
theorem d_83_13 : decode (mB 83) 13 = .ok (.aload_n 0, 1) := by decide +kernel
set_option maxRecDepth 100000 in
theorem d_83_14 : decode (mB 83) 14 = .ok (.getfield 28, 3) := by decide +kernel
set_option maxRecDepth 100000 in
theorem d_83_17 : decode (mB 83) 17 = .ok (.if_icmp .gt 45, 3) := by decide +kernel
set_option maxRecDepth 100000 in
theorem d_83_20 : decode (mB 83) 20 = .ok (.aload_n 0, 1) := by decide +kernel
set_option maxRecDepth 100000 in
theorem d_83_21 : decode (mB 83) 21 = .ok (.getfield 11, 3) := by decide +kernel
set_option maxRecDepth 100000 in
theorem d_83_24 : decode (mB 83) 24 = .ok (.iload_n 1, 1) := by decide +kernel
set_option maxRecDepth 100000 in
theorem d_83_25 : decode (mB 83) 25 = .ok (.aaload, 1) := by decide +kernel
set_option maxRecDepth 100000 in
theorem d_83_26 : decode (mB 83) 26 = .ok (.iload_n 3, 1) := by decide +kernel
set_option maxRecDepth 100000 in
theorem d_83_27 : decode (mB 83) 27 = .ok (.aload_n 0, 1) := by decide +kernel
set_option maxRecDepth 100000 in
theorem d_83_28 : decode (mB 83) 28 = .ok (.getfield 11, 3) := by decide +kernel
set_option maxRecDepth 100000 in
theorem d_83_31 : decode (mB 83) 31 = .ok (.iload_n 1, 1) := by decide +kernel
set_option maxRecDepth 100000 in
theorem d_83_32 : decode (mB 83) 32 = .ok (.aaload, 1) := by decide +kernel
set_option maxRecDepth 100000 in
theorem d_83_33 : decode (mB 83) 33 = .ok (.iload_n 3, 1) := by decide +kernel
set_option maxRecDepth 100000 in
theorem d_83_34 : decode (mB 83) 34 = .ok (.iaload, 1) := by decide +kernel
set_option maxRecDepth 100000 in
theorem d_83_35 : decode (mB 83) 35 = .ok (.iload 5, 2) := by decide +kernel
set_option maxRecDepth 100000 in
theorem d_83_37 : decode (mB 83) 37 = .ok (.invokestatic 96, 3) := by decide +kernel
set_option maxRecDepth 100000 in
theorem d_83_40 : decode (mB 83) 40 = .ok (.iastore, 1) := by decide +kernel
set_option maxRecDepth 100000 in
theorem d_83_41 : decode (mB 83) 41 = .ok (.aload_n 0, 1) := by decide +kernel
set_option maxRecDepth 100000 in
theorem d_83_42 : decode (mB 83) 42 = .ok (.getfield 16, 3) := by decide +kernel
set_option maxRecDepth 100000 in
theorem d_83_45 : decode (mB 83) 45 = .ok (.iload_n 1, 1) := by decide +kernel
set_option maxRecDepth 100000 in
theorem d_83_46 : decode (mB 83) 46 = .ok (.aaload, 1) := by decide +kernel
set_option maxRecDepth 100000 in
theorem d_83_47 : decode (mB 83) 47 = .ok (.iload_n 3, 1) := by decide +kernel
set_option maxRecDepth 100000 in
theorem d_83_48 : decode (mB 83) 48 = .ok (.aload_n 0, 1) := by decide +kernel
set_option maxRecDepth 100000 in
theorem d_83_49 : decode (mB 83) 49 = .ok (.getfield 16, 3) := by decide +kernel
set_option maxRecDepth 100000 in
theorem d_83_52 : decode (mB 83) 52 = .ok (.iload_n 1, 1) := by decide +kernel
set_option maxRecDepth 100000 in
theorem d_83_53 : decode (mB 83) 53 = .ok (.aaload, 1) := by decide +kernel
set_option maxRecDepth 100000 in
theorem d_83_54 : decode (mB 83) 54 = .ok (.iload_n 3, 1) := by decide +kernel
set_option maxRecDepth 100000 in
theorem d_83_55 : decode (mB 83) 55 = .ok (.iaload, 1) := by decide +kernel
set_option maxRecDepth 100000 in
theorem d_83_56 : decode (mB 83) 56 = .ok (.iload 5, 2) := by decide +kernel
set_option maxRecDepth 100000 in
theorem d_83_58 : decode (mB 83) 58 = .ok (.invokestatic 96, 3) := by decide +kernel
set_option maxRecDepth 100000 in
theorem d_83_61 : decode (mB 83) 61 = .ok (.iastore, 1) := by decide +kernel
set_option maxRecDepth 100000 in
theorem d_83_62 : decode (mB 83) 62 = .ok (.return_, 1) := by decide +kernel
end
section
/-! ===== the search onwards: its rows ===== -/
/-- rows of times, so far off that nothing wraps around -/
def Bd (n : Int) (f : Int → Int) : Prop := ∀ s, 0 ≤ s → s < n → 0 ≤ f s ∧ f s ≤ 1000000030
/-- the rows K of ended and ready -/
def PW (w K : Nat) : Nat → Prop := fun a => a = w + 14 + K ∨ a = w + 22 + K
/-- one footway -/
def WyI (h : Hp) (w : Nat) (i s s' m : Int) : Prop := 0 ≤ i ∧ ∃ a, hr h (w + 3) i = some a ∧ ((s = hi h a 0 ∧ s' = hi h a 1) ∨ (s = hi h a 1 ∧ s' = hi h a 0)) ∧ m = hi h a 2
theorem Wy_iff {h : Hp} {w : Nat} {s s' m : Int} : Wy h w s s' m ↔ ∃ i, i < hi h (w + 1) 5 ∧ WyI h w i s s' m := by
  constructor
  · rintro ⟨i, a, h0, h1, h2, h3⟩
    exact ⟨i, h1, h0, a, h2, h3⟩
  · rintro ⟨i, h1, h0, a, h2, h3⟩
    exact ⟨i, a, h0, h1, h2, h3⟩
theorem PRok_nP {w : Nat} : PRok w nP := fun a z => z.elim
theorem Sk.ch {P : Nat → Prop} {h h' : Hp} {w X : Nat} (q : Sk h w) (e : ch P nP h h') (hT : TT h w X) : Sk h' w := q.kept e.fm PRok_nP (by have := hT.2.2.2.2.2.2; omega)
set_option maxRecDepth 100000 in
set_option maxHeartbeats 4000000 in
theorem s_cross {w K : Nat} {s s' m : Int} {h : Hp} (hS : Sk h w) (hK : K < 7) (h0 : 0 ≤ s ∧ s < 16) (h1 : 0 ≤ s' ∧ s' < 16) (hm : 0 ≤ m ∧ m ≤ 60) (hf : 0 ≤ hi h (w + 29) s ∧ hi h (w + 29) s ≤ 1000000030) : wp 83 0 (entL [vR (some (w + 12)), vI (K : Int), vI s, vI s', vI m] (mL 83)) [] h (fun v h' => v = none ∧ ch (PW w K) nP h h' ∧ hi h' (w + 14 + K) = crossF (hi h (w + 12) 3) (hi h (w + 29)) (hi h (w + 14 + K)) s s' m ∧ hi h' (w + 22 + K) = crossF (hi h (w + 12) 3) (hi h (w + 29)) (hi h (w + 22 + K)) s s' m) noX := by
  obtain ⟨⟨k1, k2, k3, k4, k5, k6, k7⟩, ⟨n1, ⟨n2, n3, n4, n5⟩, ⟨n6, n7⟩, ⟨n8, n9⟩, ⟨n10, n11⟩, n12, n13⟩, ⟨m1, ⟨m2, m3, m4⟩, ⟨m5, m6⟩, ⟨m7, m8⟩, m9, m10⟩, ⟨o1, ⟨o2, o3, o4⟩, ⟨o5, o6, o7⟩, ⟨o8, o9, o10⟩, o11, o12⟩, ⟨b1, ⟨b2, b3⟩, ⟨b4, b5, b6⟩, b7, b8, b9⟩, ⟨j1, ⟨j2, j3, j4, j5, j6, j7, j8⟩, ⟨j9, j10⟩, j11⟩⟩ := hS
  obtain ⟨r1, r2, r3⟩ := o7 K hK
  obtain ⟨r4, r5, r6⟩ := o10 K hK
  refine wp_aload_n d_83_0 (by rfl) ?_
  refine wp_getR (2) d_83_1 fl_9_19 rfl rfl (by first | assumption | (simp only [kd_setI]; assumption)) (by first | assumption | (simp only [hr_setI]; assumption)) ?_
  refine wp_iload_n d_83_4 (by rfl) ?_
  refine wp_iald d_83_5 (Or.inl (by first | assumption | (simp only [kd_setI]; assumption))) (by first | omega | (simp only [ln_setI]; omega)) (by first | omega | (simp only [ln_setI]; omega)) (fun x_5 e_5 r_5 => ?_)
  refine wp_iload d_83_6 (by rfl) ?_
  refine wp_iadd d_83_8 ?_
  refine wp_istore d_83_9 (by decide) ?_
  refine wp_iload d_83_11 (by rfl) ?_
  refine wp_aload_n d_83_13 (by rfl) ?_
  refine wp_getI (3) d_83_14 fl_9_28 rfl rfl (by first | assumption | (simp only [kd_setI]; assumption)) (fun x_14 e_14 r_14 => ?_)
  refine wp_icmp_gt (tgt := 62) d_83_17 (by decide) (by first | omega | (simp only [ln_setI]; omega)) (by first | omega | (simp only [ln_setI]; omega)) (fun c_17 => ?_) (fun c_17 => ?_)
  · refine wp_vret d_83_62 rfl ?_
    first
      | (refine ⟨rfl, ch.rfl, ?_, ?_⟩ <;> (unfold crossF; rw [if_neg (by omega)]))
      | (refine ⟨rfl, (ch_setI (Or.inl rfl)).trans (ch_setI (Or.inr rfl)), ?_, ?_⟩
         · rw [hi_setI]
           unfold crossF
           rw [if_pos (by omega)]
           funext q
           unfold up2 upF
           rw [if_neg (fun z => absurd z.1 (by omega)), hi_setI]
           unfold up2
           by_cases hq : q = s'
           · rw [if_pos ⟨rfl, hq⟩, if_pos hq, e_34, e_5]
           · rw [if_neg (fun z => hq z.2), if_neg hq]
         · rw [hi_upF]
           unfold crossF
           rw [if_pos (by omega), e_55, e_5, hi_setI_ne (by omega)])
  · refine wp_aload_n d_83_20 (by rfl) ?_
    refine wp_getR (0) d_83_21 fl_9_11 rfl rfl (by first | assumption | (simp only [kd_setI]; assumption)) (by first | assumption | (simp only [hr_setI]; assumption)) ?_
    refine wp_iload_n d_83_24 (by rfl) ?_
    refine wp_aald d_83_25 (by first | omega | (simp only [kd_setI, kd_cpI]; omega)) (by first | omega | (simp only [kd_setI, kd_cpI]; omega)) (by apply isRf_of; assumption; rfl) (by first | omega | (simp only [ln_setI]; omega)) (by first | omega | (simp only [ln_setI]; omega)) (by first | assumption | (simp only [hr_setI]; assumption)) ?_
    refine wp_iload_n d_83_26 (by rfl) ?_
    refine wp_aload_n d_83_27 (by rfl) ?_
    refine wp_getR (0) d_83_28 fl_9_11 rfl rfl (by first | assumption | (simp only [kd_setI]; assumption)) (by first | assumption | (simp only [hr_setI]; assumption)) ?_
    refine wp_iload_n d_83_31 (by rfl) ?_
    refine wp_aald d_83_32 (by first | omega | (simp only [kd_setI, kd_cpI]; omega)) (by first | omega | (simp only [kd_setI, kd_cpI]; omega)) (by apply isRf_of; assumption; rfl) (by first | omega | (simp only [ln_setI]; omega)) (by first | omega | (simp only [ln_setI]; omega)) (by first | assumption | (simp only [hr_setI]; assumption)) ?_
    refine wp_iload_n d_83_33 (by rfl) ?_
    refine wp_iald d_83_34 (Or.inl (by first | assumption | (simp only [kd_setI]; assumption))) (by first | omega | (simp only [ln_setI]; omega)) (by first | omega | (simp only [ln_setI]; omega)) (fun x_34 e_34 r_34 => ?_)
    refine wp_iload d_83_35 (by rfl) ?_
    refine wp_callS d_83_37 c_83_96 rfl (by rfl) (by rfl) (by exact Nat.le_of_ble_eq_true rfl) (by exact Nat.le_of_ble_eq_true rfl) (s_min (by omega) (by omega)) (fun v_37 h_37 q_37 => ?_) (fun _ _ q => q.elim)
    obtain ⟨rfl, z_37⟩ := q_37
    replace z_37 := z_37.symm
    subst z_37
    refine wp_iast d_83_40 (by first | assumption | (simp only [kd_setI]; assumption)) (by first | omega | (simp only [ln_setI]; omega)) (by first | omega | (simp only [ln_setI]; omega)) (by first | omega | (simp only [ln_setI]; omega)) ?_
    refine wp_aload_n d_83_41 (by rfl) ?_
    refine wp_getR (1) d_83_42 fl_9_16 rfl rfl (by first | assumption | (simp only [kd_setI]; assumption)) (by first | assumption | (simp only [hr_setI]; assumption)) ?_
    refine wp_iload_n d_83_45 (by rfl) ?_
    refine wp_aald d_83_46 (by first | omega | (simp only [kd_setI, kd_cpI]; omega)) (by first | omega | (simp only [kd_setI, kd_cpI]; omega)) (by apply isRf_of; assumption; rfl) (by first | omega | (simp only [ln_setI]; omega)) (by first | omega | (simp only [ln_setI]; omega)) (by first | assumption | (simp only [hr_setI]; assumption)) ?_
    refine wp_iload_n d_83_47 (by rfl) ?_
    refine wp_aload_n d_83_48 (by rfl) ?_
    refine wp_getR (1) d_83_49 fl_9_16 rfl rfl (by first | assumption | (simp only [kd_setI]; assumption)) (by first | assumption | (simp only [hr_setI]; assumption)) ?_
    refine wp_iload_n d_83_52 (by rfl) ?_
    refine wp_aald d_83_53 (by first | omega | (simp only [kd_setI, kd_cpI]; omega)) (by first | omega | (simp only [kd_setI, kd_cpI]; omega)) (by apply isRf_of; assumption; rfl) (by first | omega | (simp only [ln_setI]; omega)) (by first | omega | (simp only [ln_setI]; omega)) (by first | assumption | (simp only [hr_setI]; assumption)) ?_
    refine wp_iload_n d_83_54 (by rfl) ?_
    refine wp_iald d_83_55 (Or.inl (by first | assumption | (simp only [kd_setI]; assumption))) (by first | omega | (simp only [ln_setI]; omega)) (by first | omega | (simp only [ln_setI]; omega)) (fun x_55 e_55 r_55 => ?_)
    rw [hi_setI, up2_ne _ _ (by omega)] at e_55
    refine wp_iload d_83_56 (by rfl) ?_
    refine wp_callS d_83_58 c_83_96 rfl (by rfl) (by rfl) (by exact Nat.le_of_ble_eq_true rfl) (by exact Nat.le_of_ble_eq_true rfl) (s_min (by omega) (by omega)) (fun v_58 h_58 q_58 => ?_) (fun _ _ q => q.elim)
    obtain ⟨rfl, z_58⟩ := q_58
    replace z_58 := z_58.symm
    subst z_58
    refine wp_iast d_83_61 (by first | assumption | (simp only [kd_setI]; assumption)) (by first | omega | (simp only [ln_setI]; omega)) (by first | omega | (simp only [ln_setI]; omega)) (by first | omega | (simp only [ln_setI]; omega)) ?_
    refine wp_vret d_83_62 rfl ?_
    first
      | (refine ⟨rfl, ch.rfl, ?_, ?_⟩ <;> (unfold crossF; rw [if_neg (by omega)]))
      | (refine ⟨rfl, (ch_setI (Or.inl rfl)).trans (ch_setI (Or.inr rfl)), ?_, ?_⟩
         · rw [hi_setI]
           unfold crossF
           rw [if_pos (by omega)]
           funext q
           unfold up2 upF
           rw [if_neg (fun z => absurd z.1 (by omega)), hi_setI]
           unfold up2
           by_cases hq : q = s'
           · rw [if_pos ⟨rfl, hq⟩, if_pos hq, e_34, e_5]
           · rw [if_neg (fun z => hq z.2), if_neg hq]
         · rw [hi_upF]
           unfold crossF
           rw [if_pos (by omega), e_55, e_5, hi_setI_ne (by omega)])
set_option maxRecDepth 100000 in
set_option maxHeartbeats 4000000 in
theorem l_walk {w X K : Nat} {h0 : Hp} (hS0 : Sk h0 w) (hT0 : TT h0 w X) (hK : K < 7) (hf : Bd (hi h0 (w + 1) 4) (hi h0 (w + 29))) {Q : Option AV → Hp → Prop} : ∀ (m : Nat) (i : Int) (h : Hp), i + m = hi h0 (w + 1) 5 → 0 ≤ i → ch (PW w K) nP h0 h → WlkI (hi h0 (w + 1) 4) (WyI h0 w) (hi h0 (w + 12) 3) (hi h0 (w + 29)) (hi h0 (w + 14 + K)) (hi h (w + 14 + K)) i → WlkI (hi h0 (w + 1) 4) (WyI h0 w) (hi h0 (w + 12) 3) (hi h0 (w + 29)) (hi h0 (w + 22 + K)) (hi h (w + 22 + K)) i → (∀ h', ch (PW w K) nP h0 h' → WlkI (hi h0 (w + 1) 4) (WyI h0 w) (hi h0 (w + 12) 3) (hi h0 (w + 29)) (hi h0 (w + 14 + K)) (hi h' (w + 14 + K)) (hi h0 (w + 1) 5) → WlkI (hi h0 (w + 1) 4) (WyI h0 w) (hi h0 (w + 12) 3) (hi h0 (w + 29)) (hi h0 (w + 22 + K)) (hi h' (w + 22 + K)) (hi h0 (w + 1) 5) → Q none h') → wp 82 2 [some (vR (some (w + 12))), some (vR (some (w + 1))), some (vI (K : Int)), some (vI i), none] [] h Q noX := by
  intro m
  have hn := hT0.1
  have hn5 := hT0.2.1
  have hT5 := hT0.2.2.2.2.1
  induction m with
  | zero =>
    intro i h e0 e1 E I1 I2 k
    obtain rfl : i = hi h0 (w + 1) 5 := by omega
    have hS := hS0.ch E hT0
    have E8 := E.2.2.2.2.2.2.2.1
    have pw : ¬ PW w K (w + 1) := fun z => by unfold PW at z; omega
    obtain ⟨⟨k1, k2, k3, k4, k5, k6, k7⟩, ⟨n1, ⟨n2, n3, n4, n5⟩, ⟨n6, n7⟩, ⟨n8, n9⟩, ⟨n10, n11⟩, n12, n13⟩, ⟨m1, ⟨m2, m3, m4⟩, ⟨m5, m6⟩, ⟨m7, m8⟩, m9, m10⟩, ⟨o1, ⟨o2, o3, o4⟩, ⟨o5, o6, o7⟩, ⟨o8, o9, o10⟩, o11, o12⟩, ⟨b1, ⟨b2, b3⟩, ⟨b4, b5, b6⟩, b7, b8, b9⟩, ⟨j1, ⟨j2, j3, j4, j5, j6, j7, j8⟩, ⟨j9, j10⟩, j11⟩⟩ := hS
    refine wp_iload_n d_82_2 (by rfl) ?_
    refine wp_aload_n d_82_3 (by rfl) ?_
    refine wp_getI (5) d_82_4 fl_9_105 rfl rfl (by assumption) (fun x_4 e_4 r_4 => ?_)
    rw [E8 _ _ pw] at e_4
    refine wp_icmp_ge (tgt := 64) d_82_7 (by decide) (by omega) (by omega) (fun c_7 => ?_) (fun c_7 => ?_)
    rotate_left
    · exact absurd c_7 (by omega)
    refine wp_vret d_82_64 rfl ?_
    exact k h E I1 I2
  | succ m ih =>
    intro i h e0 e1 E I1 I2 k
    have hS := hS0.ch E hT0
    have E8 := E.2.2.2.2.2.2.2.1
    have pw : ¬ PW w K (w + 1) := fun z => by unfold PW at z; omega
    have hS9 := hS
    obtain ⟨⟨k1, k2, k3, k4, k5, k6, k7⟩, ⟨n1, ⟨n2, n3, n4, n5⟩, ⟨n6, n7⟩, ⟨n8, n9⟩, ⟨n10, n11⟩, n12, n13⟩, ⟨m1, ⟨m2, m3, m4⟩, ⟨m5, m6⟩, ⟨m7, m8⟩, m9, m10⟩, ⟨o1, ⟨o2, o3, o4⟩, ⟨o5, o6, o7⟩, ⟨o8, o9, o10⟩, o11, o12⟩, ⟨b1, ⟨b2, b3⟩, ⟨b4, b5, b6⟩, b7, b8, b9⟩, ⟨j1, ⟨j2, j3, j4, j5, j6, j7, j8⟩, ⟨j9, j10⟩, j11⟩⟩ := hS
    obtain ⟨a, g1, g2, g3, g4, g5, g6, g7⟩ := hT5 i e1 (by omega)
    have pa : ¬ PW w K a := fun z => by unfold PW at z; omega
    have pf : ¬ PW w K (w + 29) := fun z => by unfold PW at z; omega
    have pl : ¬ PW w K (w + 12) := fun z => by unfold PW at z; omega
    have f1 : hr h (w + 3) i = some a := (E.2.2.2.2.2.2.2.2 _ _ id).trans g1
    have ka : kd h a = 6 := (congrFun E.1 a).trans g4
    have ef : hi h (w + 29) = hi h0 (w + 29) := funext fun q => E8 _ q pf
    have el : hi h (w + 12) 3 = hi h0 (w + 12) 3 := E8 _ _ pl
    have bf0 := hf (hi h0 a 0) (by omega) (by omega)
    have bf1 := hf (hi h0 a 1) (by omega) (by omega)
    refine wp_iload_n d_82_2 (by rfl) ?_
    refine wp_aload_n d_82_3 (by rfl) ?_
    refine wp_getI (5) d_82_4 fl_9_105 rfl rfl (by first | assumption) (fun x_4 e_4 r_4 => ?_)
    (try rw [E8 _ _ pa] at e_4)
    (try rw [E8b _ _ pa] at e_4)
    rw [E8 _ _ pw] at e_4
    refine wp_icmp_ge (tgt := 64) d_82_7 (by decide) (by omega) (by omega) (fun c_7 => ?_) (fun c_7 => ?_)
    · exact absurd c_7 (by omega)
    refine wp_aload_n d_82_10 (by rfl) ?_
    refine wp_getR (1) d_82_11 fl_9_108 rfl rfl (by first | assumption) (by assumption) ?_
    refine wp_iload_n d_82_14 (by rfl) ?_
    refine wp_aald d_82_15 (by first | omega | (simp only [kd_setI, kd_cpI]; omega)) (by first | omega | (simp only [kd_setI, kd_cpI]; omega)) (by apply isRf_of; assumption; rfl) (by omega) (by omega) (by assumption) ?_
    refine wp_astore d_82_16 (by decide) ?_
    refine wp_aload_n d_82_18 (by rfl) ?_
    refine wp_iload_n d_82_19 (by rfl) ?_
    refine wp_aload d_82_20 (by rfl) ?_
    refine wp_getI (0) d_82_22 fl_9_112 rfl rfl (by first | assumption) (fun x_22 e_22 r_22 => ?_)
    (try rw [E8 _ _ pa] at e_22)
    (try rw [E8b _ _ pa] at e_22)
    refine wp_aload d_82_25 (by rfl) ?_
    refine wp_getI (1) d_82_27 fl_9_117 rfl rfl (by first | assumption) (fun x_27 e_27 r_27 => ?_)
    (try rw [E8 _ _ pa] at e_27)
    (try rw [E8b _ _ pa] at e_27)
    refine wp_aload d_82_30 (by rfl) ?_
    refine wp_getI (2) d_82_32 fl_9_120 rfl rfl (by first | assumption) (fun x_32 e_32 r_32 => ?_)
    (try rw [E8 _ _ pa] at e_32)
    (try rw [E8b _ _ pa] at e_32)
    refine wp_callV d_82_35 c_82_123 rfl (by rfl) (by rfl) ⟨9, rfl, rfl, by decide⟩ (by first | assumption) (by exact Nat.le_of_ble_eq_true rfl) (by exact Nat.le_of_ble_eq_true rfl) (s_cross hS9 hK (by omega) (by omega) (by omega) (by rw [ef, e_22]; exact bf0)) (fun v_35 h_35 q_35 => ?_) (fun _ _ q => q.elim)
    obtain ⟨rfl, E1, R1, R2⟩ := q_35
    have E8b := (E.trans E1).2.2.2.2.2.2.2.1
    have hS1 := hS0.ch (E.trans E1) hT0
    have ka1 : kd h_35 a = 6 := (congrFun (E.trans E1).1 a).trans g4
    have ko1 : kd h_35 (w + 12) = 10 := hS1.2.2.2.1.1
    have ef1 : hi h_35 (w + 29) = hi h0 (w + 29) := funext fun q => E8b _ q pf
    have el1 : hi h_35 (w + 12) 3 = hi h0 (w + 12) 3 := E8b _ _ pl
    refine wp_aload_n d_82_38 (by rfl) ?_
    refine wp_iload_n d_82_39 (by rfl) ?_
    refine wp_aload d_82_40 (by rfl) ?_
    refine wp_getI (1) d_82_42 fl_9_117 rfl rfl (by first | assumption) (fun x_42 e_42 r_42 => ?_)
    (try rw [E8 _ _ pa] at e_42)
    (try rw [E8b _ _ pa] at e_42)
    refine wp_aload d_82_45 (by rfl) ?_
    refine wp_getI (0) d_82_47 fl_9_112 rfl rfl (by first | assumption) (fun x_47 e_47 r_47 => ?_)
    (try rw [E8 _ _ pa] at e_47)
    (try rw [E8b _ _ pa] at e_47)
    refine wp_aload d_82_50 (by rfl) ?_
    refine wp_getI (2) d_82_52 fl_9_120 rfl rfl (by first | assumption) (fun x_52 e_52 r_52 => ?_)
    (try rw [E8 _ _ pa] at e_52)
    (try rw [E8b _ _ pa] at e_52)
    refine wp_callV d_82_55 c_82_123 rfl (by rfl) (by rfl) ⟨9, rfl, rfl, by decide⟩ (by first | assumption) (by exact Nat.le_of_ble_eq_true rfl) (by exact Nat.le_of_ble_eq_true rfl) (s_cross hS1 hK (by omega) (by omega) (by omega) (by rw [ef1, e_42]; exact bf1)) (fun v_55 h_55 q_55 => ?_) (fun _ _ q => q.elim)
    obtain ⟨rfl, E2, R3, R4⟩ := q_55
    refine wp_iinc d_82_58 (by rfl) (by decide) ?_
    refine wp_goto (tgt := 2) d_82_61 (by decide) ?_
    refine wp_to [some (vR (some (w + 12))), some (vR (some (w + 1))), some (vI (K : Int)), some (vI (i + 1)), none] ⟨rfl, rfl, rfl, rfl, trivial⟩ ?_
    refine ih (i + 1) _ (by omega) (by omega) ((E.trans E1).trans E2) ?_ ?_ k
    · rw [R3, R1, ef, el, ef1, el1, e_22, e_27, e_32, e_42, e_47, e_52]
      exact I1.step (fun s s' m' => ⟨fun ⟨_, a', z1, z2, z3⟩ => by cases z1.symm.trans g1; exact ⟨z2, z3⟩, fun ⟨z2, z3⟩ => ⟨e1, a, g1, z2, z3⟩⟩)
    · rw [R4, R2, ef, el, ef1, el1, e_22, e_27, e_32, e_42, e_47, e_52]
      exact I2.step (fun s s' m' => ⟨fun ⟨_, a', z1, z2, z3⟩ => by cases z1.symm.trans g1; exact ⟨z2, z3⟩, fun ⟨z2, z3⟩ => ⟨e1, a, g1, z2, z3⟩⟩)
set_option maxRecDepth 100000 in
set_option maxHeartbeats 4000000 in
theorem s_walk {w X K : Nat} {h0 : Hp} (hS0 : Sk h0 w) (hT0 : TT h0 w X) (hK : K < 7) (hf : Bd (hi h0 (w + 1) 4) (hi h0 (w + 29))) : wp 82 0 (entL [vR (some (w + 12)), vR (some (w + 1)), vI (K : Int)] (mL 82)) [] h0 (fun v h' => v = none ∧ ch (PW w K) nP h0 h' ∧ WalkR (hi h0 (w + 1) 4) (Wy h0 w) (hi h0 (w + 12) 3) (hi h0 (w + 29)) (hi h0 (w + 14 + K)) (hi h' (w + 14 + K)) ∧ WalkR (hi h0 (w + 1) 4) (Wy h0 w) (hi h0 (w + 12) 3) (hi h0 (w + 29)) (hi h0 (w + 22 + K)) (hi h' (w + 22 + K))) noX := by
  refine wp_iconst d_82_0 ?_
  refine wp_istore_n d_82_1 (by decide) ?_
  refine wp_to [some (vR (some (w + 12))), some (vR (some (w + 1))), some (vI (K : Int)), some (vI 0), none] ⟨rfl, rfl, rfl, rfl, trivial⟩ ?_
  have hn5 := hT0.2.1
  exact l_walk hS0 hT0 hK hf (hi h0 (w + 1) 5).toNat 0 h0 (by omega) (by omega) ch.rfl (WlkI.start fun q s s' m z => z.1) (WlkI.start fun q s s' m z => z.1) (fun h' E I1 I2 => ⟨rfl, E, I1.done (fun s s' m => Wy_iff), I2.done (fun s s' m => Wy_iff)⟩)
end
section
set_option maxRecDepth 100000 in
theorem fl_9_79 : flP "WhistleStop$Onward" 79 11 7 := ⟨_, rfl, by decide, okk_w (k := 983) (by decide +kernel)⟩
set_option maxRecDepth 100000 in
theorem fl_9_82 : flP "WhistleStop$Onward" 82 11 3 := ⟨_, rfl, by decide, okk_w (k := 963) (by decide +kernel)⟩
set_option maxRecDepth 100000 in
theorem fl_9_85 : flP "WhistleStop$Onward" 85 11 4 := ⟨_, rfl, by decide, okk_w (k := 969) (by decide +kernel)⟩
set_option maxRecDepth 100000 in
theorem fl_9_88 : flP "WhistleStop$Onward" 88 11 5 := ⟨_, rfl, by decide, okk_w (k := 975) (by decide +kernel)⟩
set_option maxRecDepth 100000 in
theorem d_85_0 : decode (mB 85) 0 = .ok (.iconst 0, 1) := by decide +kernel
set_option maxRecDepth 100000 in
theorem d_85_1 : decode (mB 85) 1 = .ok (.istore 4, 2) := by decide +kernel
set_option maxRecDepth 100000 in
theorem d_85_3 : decode (mB 85) 3 = .ok (.iconst 0, 1) := by decide +kernel
set_option maxRecDepth 100000 in
theorem d_85_4 : decode (mB 85) 4 = .ok (.istore 5, 2) := by decide +kernel
set_option maxRecDepth 100000 in
theorem d_85_6 : decode (mB 85) 6 = .ok (.iconst 0, 1) := by decide +kernel
set_option maxRecDepth 100000 in
theorem d_85_7 : decode (mB 85) 7 = .ok (.istore 6, 2) := by decide +kernel
set_option maxRecDepth 100000 in
theorem d_85_9 : decode (mB 85) 9 = .ok (.iload 6, 2) := by decide +kernel
set_option maxRecDepth 100000 in
theorem d_85_11 : decode (mB 85) 11 = .ok (.aload_n 1, 1) := by decide +kernel
set_option maxRecDepth 100000 in
theorem d_85_12 : decode (mB 85) 12 = .ok (.getfield 79, 3) := by decide +kernel
set_option maxRecDepth 100000 in
theorem d_85_15 : decode (mB 85) 15 = .ok (.if_icmp .ge 98, 3) := by decide +kernel
set_option maxRecDepth 100000 in
theorem d_85_18 : decode (mB 85) 18 = .ok (.aload_n 1, 1) := by decide +kernel
set_option maxRecDepth 100000 in
theorem d_85_19 : decode (mB 85) 19 = .ok (.getfield 82, 3) := by decide +kernel
set_option maxRecDepth 100000 in
theorem d_85_22 : decode (mB 85) 22 = .ok (.iload 6, 2) := by decide +kernel
set_option maxRecDepth 100000 in
theorem d_85_24 : decode (mB 85) 24 = .ok (.iaload, 1) := by decide +kernel
set_option maxRecDepth 100000 in
theorem d_85_25 : decode (mB 85) 25 = .ok (.istore 7, 2) := by decide +kernel
set_option maxRecDepth 100000 in
theorem d_85_27 : decode (mB 85) 27 = .ok (.iload_n 2, 1) := by decide +kernel
set_option maxRecDepth 100000 in
theorem d_85_28 : decode (mB 85) 28 = .ok (.aload_n 1, 1) := by decide +kernel
set_option maxRecDepth 100000 in
theorem d_85_29 : decode (mB 85) 29 = .ok (.getfield 85, 3) := by decide +kernel
set_option maxRecDepth 100000 in
theorem d_85_32 : decode (mB 85) 32 = .ok (.iload 6, 2) := by decide +kernel
set_option maxRecDepth 100000 in
theorem d_85_34 : decode (mB 85) 34 = .ok (.iaload, 1) := by decide +kernel
set_option maxRecDepth 100000 in
theorem d_85_35 : decode (mB 85) 35 = .ok (.iadd, 1) := by decide +kernel
set_option maxRecDepth 100000 in
theorem d_85_36 : decode (mB 85) 36 = .ok (.istore 8, 2) := by decide +kernel
set_option maxRecDepth 100000 in
theorem d_85_38 : decode (mB 85) 38 = .ok (.iload 8, 2) := by decide +kernel
set_option maxRecDepth 100000 in
theorem d_85_40 : decode (mB 85) 40 = .ok (.aload_n 0, 1) := by decide +kernel
set_option maxRecDepth 100000 in
theorem d_85_41 : decode (mB 85) 41 = .ok (.getfield 28, 3) := by decide +kernel
set_option maxRecDepth 100000 in
theorem d_85_44 : decode (mB 85) 44 = .ok (.if_icmp .le 6, 3) := by decide +kernel
set_option maxRecDepth 100000 in
theorem d_85_47 : decode (mB 85) 47 = .ok (.goto 66, 3) := by decide +kernel
set_option maxRecDepth 100000 in
theorem d_85_50 : decode (mB 85) 50 = .ok (.iload 5, 2) := by decide +kernel
set_option maxRecDepth 100000 in
theorem d_85_52 : decode (mB 85) 52 = .ok (.ifCond .eq 27, 3) := by decide +kernel
set_option maxRecDepth 100000 in
theorem d_85_55 : decode (mB 85) 55 = .ok (.iload 8, 2) := by decide +kernel
set_option maxRecDepth 100000 in
theorem d_85_57 : decode (mB 85) 57 = .ok (.aload_n 0, 1) := by decide +kernel
set_option maxRecDepth 100000 in
theorem d_85_58 : decode (mB 85) 58 = .ok (.getfield 19, 3) := by decide +kernel
set_option maxRecDepth 100000 in
theorem d_85_61 : decode (mB 85) 61 = .ok (.iload 7, 2) := by decide +kernel
set_option maxRecDepth 100000 in
theorem d_85_63 : decode (mB 85) 63 = .ok (.iaload, 1) := by decide +kernel
set_option maxRecDepth 100000 in
theorem d_85_64 : decode (mB 85) 64 = .ok (.if_icmp .ge 15, 3) := by decide +kernel
set_option maxRecDepth 100000 in
theorem d_85_67 : decode (mB 85) 67 = .ok (.aload_n 0, 1) := by decide +kernel
set_option maxRecDepth 100000 in
theorem d_85_68 : decode (mB 85) 68 = .ok (.getfield 19, 3) := by decide +kernel
set_option maxRecDepth 100000 in
theorem d_85_71 : decode (mB 85) 71 = .ok (.iload 7, 2) := by decide +kernel
set_option maxRecDepth 100000 in
theorem d_85_73 : decode (mB 85) 73 = .ok (.iload 8, 2) := by decide +kernel
set_option maxRecDepth 100000 in
theorem d_85_75 : decode (mB 85) 75 = .ok (.iastore, 1) := by decide +kernel
set_option maxRecDepth 100000 in
theorem d_85_76 : decode (mB 85) 76 = .ok (.iconst 1, 1) := by decide +kernel
set_option maxRecDepth 100000 in
theorem d_85_77 : decode (mB 85) 77 = .ok (.istore 4, 2) := by decide +kernel
set_option maxRecDepth 100000 in
theorem d_85_79 : decode (mB 85) 79 = .ok (.iload 5, 2) := by decide +kernel
set_option maxRecDepth 100000 in
theorem d_85_81 : decode (mB 85) 81 = .ok (.ifCond .ne 19, 3) := by decide +kernel
set_option maxRecDepth 100000 in
theorem d_85_84 : decode (mB 85) 84 = .ok (.iload_n 2, 1) := by decide +kernel
set_option maxRecDepth 100000 in
theorem d_85_85 : decode (mB 85) 85 = .ok (.aload_n 1, 1) := by decide +kernel
set_option maxRecDepth 100000 in
theorem d_85_86 : decode (mB 85) 86 = .ok (.getfield 88, 3) := by decide +kernel
set_option maxRecDepth 100000 in
theorem d_85_89 : decode (mB 85) 89 = .ok (.iload 6, 2) := by decide +kernel
set_option maxRecDepth 100000 in
theorem d_85_91 : decode (mB 85) 91 = .ok (.iaload, 1) := by decide +kernel
set_option maxRecDepth 100000 in
theorem d_85_92 : decode (mB 85) 92 = .ok (.iadd, 1) := by decide +kernel
set_option maxRecDepth 100000 in
theorem d_85_93 : decode (mB 85) 93 = .ok (.aload_n 3, 1) := by decide +kernel
set_option maxRecDepth 100000 in
theorem d_85_94 : decode (mB 85) 94 = .ok (.iload 7, 2) := by decide +kernel
set_option maxRecDepth 100000 in
theorem d_85_96 : decode (mB 85) 96 = .ok (.iaload, 1) := by decide +kernel
set_option maxRecDepth 100000 in
theorem d_85_97 : decode (mB 85) 97 = .ok (.if_icmp .lt 7, 3) := by decide +kernel
set_option maxRecDepth 100000 in
theorem d_85_100 : decode (mB 85) 100 = .ok (.iconst 1, 1) := by decide +kernel
set_option maxRecDepth 100000 in
theorem d_85_101 : decode (mB 85) 101 = .ok (.goto 4, 3) := by decide +kernel
set_option maxRecDepth 100000 in
theorem d_85_104 : decode (mB 85) 104 = .ok (.iconst 0, 1) := by decide +kernel
set_option maxRecDepth 100000 in
theorem d_85_105 : decode (mB 85) 105 = .ok (.istore 5, 2) := by decide +kernel
set_option maxRecDepth 100000 in
theorem d_85_107 : decode (mB 85) 107 = .ok (.iinc 6 1, 3) := by decide +kernel
set_option maxRecDepth 100000 in
theorem d_85_110 : decode (mB 85) 110 = .ok (.goto (-101), 3) := by decide +kernel
set_option maxRecDepth 100000 in
theorem d_85_113 : decode (mB 85) 113 = .ok (.iload 4, 2) := by decide +kernel
set_option maxRecDepth 100000 in
theorem d_85_115 : decode (mB 85) 115 = .ok (.ireturn, 1) := by decide +kernel
end
section
/-! ===== the search onwards: rides ===== -/
set_option maxRecDepth 100000 in
set_option maxHeartbeats 4000000 in
theorem l_rideRun {w a r : Nat} {n b0 : Int} {h0 : Hp} (hS0 : Sk h0 w) (hT0 : TripOk h0 n a) (ha : w + 154 ≤ a) (hn : n ≤ 16) (kr : kd h0 r = 100) (lr : ln h0 r = 16) (hr29 : r ≠ w + 29) (hw : w + 154 ≤ nx h0) (han : a + 5 ≤ nx h0) (hb0 : 0 ≤ b0 ∧ b0 ≤ 600000) (hlim : 0 ≤ hi h0 (w + 12) 3 ∧ hi h0 (w + 12) 3 ≤ 1000000) {Q : Option AV → Hp → Prop} : ∀ (m : Nat) (k g b : Int) (h : Hp), k + m = hi h0 a 7 → 0 ≤ k → ch (· = w + 29) nP h0 h → RRI (hi h0 a 7) (hi h0 (a + 1)) (fun i => b0 + hi h0 (a + 2) i) (fun i => b0 + hi h0 (a + 3) i) (hi h0 (w + 12) 3) (hi h0 r) (hi h0 (w + 29)) (hi h (w + 29)) k k g b → (∀ h' b', ch (· = w + 29) nP h0 h' → RRun (hi h0 a 7) (hi h0 (a + 1)) (fun i => b0 + hi h0 (a + 2) i) (fun i => b0 + hi h0 (a + 3) i) (hi h0 (w + 12) 3) (hi h0 r) (hi h0 (w + 29)) (hi h' (w + 29)) b' → Q (some (vI b')) h') → wp 85 9 [some (vR (some (w + 12))), some (vR (some a)), some (vI b0), some (vR (some r)), some (vI b), some (vI g), some (vI k), none, none] [] h Q noX := by
  intro m
  have t40 := hT0.2.2.2.1
  have t50 := hT0.2.2.2.2.1
  have t60 := hT0.2.2.2.2.2.1
  induction m with
  | zero =>
    intro k g b h e0 e1 E I kq
    have hS := hS0.kept E.fm PRok_nP hw
    have hT := hT0.kept E.fm (fun q z1 z2 z3 => by omega) id han
    have E8 := E.2.2.2.2.2.2.2.1
    have pa : ∀ q, a ≤ q → ¬ q = w + 29 := fun q z => by omega
    have pl : ¬ w + 12 = w + 29 := by omega
    have gb : (g = 0 ∨ g = 1) ∧ (b = 0 ∨ b = 1) := ⟨by rcases I.2.2.1 with z | z <;> omega, by rcases I.2.2.2 with z | z <;> omega⟩
    have kr1 : kd h r = 100 := (congrFun E.1 r).trans kr
    have lr1 : ln h r = 16 := (congrFun E.2.1 r).trans lr
    obtain ⟨⟨k1, k2, k3, k4, k5, k6, k7⟩, ⟨n1, ⟨n2, n3, n4, n5⟩, ⟨n6, n7⟩, ⟨n8, n9⟩, ⟨n10, n11⟩, n12, n13⟩, ⟨m1, ⟨m2, m3, m4⟩, ⟨m5, m6⟩, ⟨m7, m8⟩, m9, m10⟩, ⟨o1, ⟨o2, o3, o4⟩, ⟨o5, o6, o7⟩, ⟨o8, o9, o10⟩, o11, o12⟩, ⟨b1, ⟨b2, b3⟩, ⟨b4, b5, b6⟩, b7, b8, b9⟩, ⟨j1, ⟨j2, j3, j4, j5, j6, j7, j8⟩, ⟨j9, j10⟩, j11⟩⟩ := hS
    obtain ⟨t1, ⟨u1, u2, u3, u4⟩, ⟨⟨v1, v2⟩, ⟨v3, v4⟩, ⟨v5, v6⟩, v7, v8⟩, t4, t5, t6, t7, t8⟩ := hT
    refine wp_iload d_85_9 (by rfl) ?_
    refine wp_aload_n d_85_11 (by rfl) ?_
    refine wp_getI (7) d_85_12 fl_9_79 rfl rfl (by assumption) (fun x_12 e_12 r_12 => ?_)
    (try rw [E8 _ _ (pa _ (by omega))] at e_12)
    (try rw [E8 _ _ pl] at e_12)
    (try rw [E8 _ _ hr29] at e_12)
    refine wp_icmp_ge (tgt := 113) d_85_15 (by decide) (by omega) (by omega) (fun c_15 => ?_) (fun c_15 => ?_)
    rotate_left
    · exact absurd c_15 (by omega)
    refine wp_iload d_85_113 (by rfl) ?_
    refine wp_zret d_85_115 rfl (by omega) ?_
    exact kq h b E (I.done (Or.inl (by omega)))
  | succ m ih =>
    intro k g b h e0 e1 E I kq
    have hS := hS0.kept E.fm PRok_nP hw
    have hT := hT0.kept E.fm (fun q z1 z2 z3 => by omega) id han
    have E8 := E.2.2.2.2.2.2.2.1
    have pa : ∀ q, a ≤ q → ¬ q = w + 29 := fun q z => by omega
    have pl : ¬ w + 12 = w + 29 := by omega
    have gb : (g = 0 ∨ g = 1) ∧ (b = 0 ∨ b = 1) := ⟨by rcases I.2.2.1 with z | z <;> omega, by rcases I.2.2.2 with z | z <;> omega⟩
    have kr1 : kd h r = 100 := (congrFun E.1 r).trans kr
    have lr1 : ln h r = 16 := (congrFun E.2.1 r).trans lr
    obtain ⟨⟨k1, k2, k3, k4, k5, k6, k7⟩, ⟨n1, ⟨n2, n3, n4, n5⟩, ⟨n6, n7⟩, ⟨n8, n9⟩, ⟨n10, n11⟩, n12, n13⟩, ⟨m1, ⟨m2, m3, m4⟩, ⟨m5, m6⟩, ⟨m7, m8⟩, m9, m10⟩, ⟨o1, ⟨o2, o3, o4⟩, ⟨o5, o6, o7⟩, ⟨o8, o9, o10⟩, o11, o12⟩, ⟨b1, ⟨b2, b3⟩, ⟨b4, b5, b6⟩, b7, b8, b9⟩, ⟨j1, ⟨j2, j3, j4, j5, j6, j7, j8⟩, ⟨j9, j10⟩, j11⟩⟩ := hS
    obtain ⟨t1, ⟨u1, u2, u3, u4⟩, ⟨⟨v1, v2⟩, ⟨v3, v4⟩, ⟨v5, v6⟩, v7, v8⟩, t4, t5, t6, t7, t8⟩ := hT
    have kk := t50 k e1 (by omega)
    have mono : ∀ j, k ≤ j → j < hi h0 a 7 → b0 + hi h0 (a + 2) k ≤ b0 + hi h0 (a + 2) j := fun j z1 z2 => by
      by_cases z : j = k
      · subst z; omega
      · have := t60 k j e1 (by omega) z2
        omega
    refine wp_iload d_85_9 (by rfl) ?_
    refine wp_aload_n d_85_11 (by rfl) ?_
    refine wp_getI (7) d_85_12 fl_9_79 rfl rfl (by first | assumption | (simp only [kd_setI]; assumption)) (fun x_12 e_12 r_12 => ?_)
    (try rw [E8 _ _ (pa _ (by omega))] at e_12)
    (try rw [E8 _ _ pl] at e_12)
    (try rw [E8 _ _ hr29] at e_12)
    refine wp_icmp_ge (tgt := 113) d_85_15 (by decide) (by first | omega | (simp only [ln_setI]; omega)) (by first | omega | (simp only [ln_setI]; omega)) (fun c_15 => ?_) (fun c_15 => ?_)
    · refine wp_iload d_85_113 (by rfl) ?_
      refine wp_zret d_85_115 rfl (by omega) ?_
      first | exact absurd c_15 (by omega) | exact kq h b E (I.done (Or.inr ⟨by show _ < b0 + hi h0 (a + 2) k; omega, mono⟩))
    · refine wp_aload_n d_85_18 (by rfl) ?_
      refine wp_getR (3) d_85_19 fl_9_82 rfl rfl (by first | assumption | (simp only [kd_setI]; assumption)) (by first | assumption | (simp only [hr_setI]; assumption)) ?_
      refine wp_iload d_85_22 (by rfl) ?_
      refine wp_iald d_85_24 (Or.inl (by first | assumption | (simp only [kd_setI]; assumption))) (by first | omega | (simp only [ln_setI]; omega)) (by first | omega | (simp only [ln_setI]; omega)) (fun x_24 e_24 r_24 => ?_)
      (try rw [E8 _ _ (pa _ (by omega))] at e_24)
      (try rw [E8 _ _ pl] at e_24)
      (try rw [E8 _ _ hr29] at e_24)
      refine wp_istore d_85_25 (by decide) ?_
      refine wp_iload_n d_85_27 (by rfl) ?_
      refine wp_aload_n d_85_28 (by rfl) ?_
      refine wp_getR (4) d_85_29 fl_9_85 rfl rfl (by first | assumption | (simp only [kd_setI]; assumption)) (by first | assumption | (simp only [hr_setI]; assumption)) ?_
      refine wp_iload d_85_32 (by rfl) ?_
      refine wp_iald d_85_34 (Or.inl (by first | assumption | (simp only [kd_setI]; assumption))) (by first | omega | (simp only [ln_setI]; omega)) (by first | omega | (simp only [ln_setI]; omega)) (fun x_34 e_34 r_34 => ?_)
      (try rw [E8 _ _ (pa _ (by omega))] at e_34)
      (try rw [E8 _ _ pl] at e_34)
      (try rw [E8 _ _ hr29] at e_34)
      refine wp_iadd d_85_35 ?_
      refine wp_istore d_85_36 (by decide) ?_
      refine wp_iload d_85_38 (by rfl) ?_
      refine wp_aload_n d_85_40 (by rfl) ?_
      refine wp_getI (3) d_85_41 fl_9_28 rfl rfl (by first | assumption | (simp only [kd_setI]; assumption)) (fun x_41 e_41 r_41 => ?_)
      (try rw [E8 _ _ (pa _ (by omega))] at e_41)
      (try rw [E8 _ _ pl] at e_41)
      (try rw [E8 _ _ hr29] at e_41)
      refine wp_icmp_le (tgt := 50) d_85_44 (by decide) (by first | omega | (simp only [ln_setI]; omega)) (by first | omega | (simp only [ln_setI]; omega)) (fun c_44 => ?_) (fun c_44 => ?_)
      · refine wp_iload d_85_50 (by rfl) ?_
        refine wp_if_eq (tgt := 79) d_85_52 (by decide) (by first | omega | (simp only [ln_setI]; omega)) (fun c_52 => ?_) (fun c_52 => ?_)
        · refine wp_iload d_85_79 (by rfl) ?_
          refine wp_if_ne (tgt := 100) d_85_81 (by decide) (by first | omega | (simp only [ln_setI]; omega)) (fun c_81 => ?_) (fun c_81 => ?_)
          · refine wp_iconst d_85_100 ?_
            refine wp_goto (tgt := 105) d_85_101 (by decide) ?_
            refine wp_istore d_85_105 (by decide) ?_
            refine wp_iinc d_85_107 (by rfl) (by decide) ?_
            refine wp_goto (tgt := 9) d_85_110 (by decide) ?_
            first
              | (exfalso; omega)
              | (refine wp_to [some (vR (some (w + 12))), some (vR (some a)), some (vI b0), some (vR (some r)), some (vI 1), some (vI 1), some (vI (k + 1)), none, none] ⟨rfl, rfl, rfl, rfl, rfl, rfl, rfl, trivial⟩ ?_
                 refine ih (k + 1) 1 1 _ (by omega) (by omega) (E.trans (ch_setI rfl)) ?_ kq
                 rw [hi_upF]
                 have J := I.write e1 (by omega) (by omega) (by show b0 + hi h0 (a + 2) k ≤ _; omega) (by show b0 + hi h0 (a + 2) k < _; rw [← e_24]; omega)
                 rw [e_24, show b0 + x_34 = b0 + hi h0 (a + 2) k by omega]
                 exact J.on e1 (Or.inl (by omega)))
              | (refine wp_to [some (vR (some (w + 12))), some (vR (some a)), some (vI b0), some (vR (some r)), some (vI b), some (vI 1), some (vI (k + 1)), none, none] ⟨rfl, rfl, rfl, rfl, rfl, rfl, rfl, trivial⟩ ?_
                 refine ih (k + 1) 1 b _ (by omega) (by omega) E ?_ kq
                 have J := I.pass (by first | exact Or.inl (by omega) | exact Or.inr (by show _ ≤ b0 + hi h0 (a + 2) k; rw [← e_24]; omega))
                 exact J.on e1 (by first | exact Or.inl (by omega) | exact Or.inr (by show _ ≤ b0 + hi h0 (a + 3) k; rw [← e_24]; omega)))
              | (refine wp_to [some (vR (some (w + 12))), some (vR (some a)), some (vI b0), some (vR (some r)), some (vI b), some (vI 0), some (vI (k + 1)), none, none] ⟨rfl, rfl, rfl, rfl, rfl, rfl, rfl, trivial⟩ ?_
                 refine ih (k + 1) 0 b _ (by omega) (by omega) E ?_ kq
                 have J := I.pass (Or.inl (by omega))
                 exact J.off (by omega) (by show b0 + hi h0 (a + 3) k < _; rw [← e_24]; omega))
          · refine wp_iload_n d_85_84 (by rfl) ?_
            refine wp_aload_n d_85_85 (by rfl) ?_
            refine wp_getR (5) d_85_86 fl_9_88 rfl rfl (by first | assumption | (simp only [kd_setI]; assumption)) (by first | assumption | (simp only [hr_setI]; assumption)) ?_
            refine wp_iload d_85_89 (by rfl) ?_
            refine wp_iald d_85_91 (Or.inl (by first | assumption | (simp only [kd_setI]; assumption))) (by first | omega | (simp only [ln_setI]; omega)) (by first | omega | (simp only [ln_setI]; omega)) (fun x_91 e_91 r_91 => ?_)
            (try rw [E8 _ _ (pa _ (by omega))] at e_91)
            (try rw [E8 _ _ pl] at e_91)
            (try rw [E8 _ _ hr29] at e_91)
            refine wp_iadd d_85_92 ?_
            refine wp_aload_n d_85_93 (by rfl) ?_
            refine wp_iload d_85_94 (by rfl) ?_
            refine wp_iald d_85_96 (Or.inl (by first | assumption | (simp only [kd_setI]; assumption))) (by first | omega | (simp only [ln_setI]; omega)) (by first | omega | (simp only [ln_setI]; omega)) (fun x_96 e_96 r_96 => ?_)
            (try rw [E8 _ _ (pa _ (by omega))] at e_96)
            (try rw [E8 _ _ pl] at e_96)
            (try rw [E8 _ _ hr29] at e_96)
            refine wp_icmp_lt (tgt := 104) d_85_97 (by decide) (by first | omega | (simp only [ln_setI]; omega)) (by first | omega | (simp only [ln_setI]; omega)) (fun c_97 => ?_) (fun c_97 => ?_)
            · refine wp_iconst d_85_104 ?_
              refine wp_istore d_85_105 (by decide) ?_
              refine wp_iinc d_85_107 (by rfl) (by decide) ?_
              refine wp_goto (tgt := 9) d_85_110 (by decide) ?_
              first
                | (exfalso; omega)
                | (refine wp_to [some (vR (some (w + 12))), some (vR (some a)), some (vI b0), some (vR (some r)), some (vI 1), some (vI 1), some (vI (k + 1)), none, none] ⟨rfl, rfl, rfl, rfl, rfl, rfl, rfl, trivial⟩ ?_
                   refine ih (k + 1) 1 1 _ (by omega) (by omega) (E.trans (ch_setI rfl)) ?_ kq
                   rw [hi_upF]
                   have J := I.write e1 (by omega) (by omega) (by show b0 + hi h0 (a + 2) k ≤ _; omega) (by show b0 + hi h0 (a + 2) k < _; rw [← e_24]; omega)
                   rw [e_24, show b0 + x_34 = b0 + hi h0 (a + 2) k by omega]
                   exact J.on e1 (Or.inl (by omega)))
                | (refine wp_to [some (vR (some (w + 12))), some (vR (some a)), some (vI b0), some (vR (some r)), some (vI b), some (vI 1), some (vI (k + 1)), none, none] ⟨rfl, rfl, rfl, rfl, rfl, rfl, rfl, trivial⟩ ?_
                   refine ih (k + 1) 1 b _ (by omega) (by omega) E ?_ kq
                   have J := I.pass (by first | exact Or.inl (by omega) | exact Or.inr (by show _ ≤ b0 + hi h0 (a + 2) k; rw [← e_24]; omega))
                   exact J.on e1 (by first | exact Or.inl (by omega) | exact Or.inr (by show _ ≤ b0 + hi h0 (a + 3) k; rw [← e_24]; omega)))
                | (refine wp_to [some (vR (some (w + 12))), some (vR (some a)), some (vI b0), some (vR (some r)), some (vI b), some (vI 0), some (vI (k + 1)), none, none] ⟨rfl, rfl, rfl, rfl, rfl, rfl, rfl, trivial⟩ ?_
                   refine ih (k + 1) 0 b _ (by omega) (by omega) E ?_ kq
                   have J := I.pass (Or.inl (by omega))
                   exact J.off (by omega) (by show b0 + hi h0 (a + 3) k < _; rw [← e_24]; omega))
            · refine wp_iconst d_85_100 ?_
              refine wp_goto (tgt := 105) d_85_101 (by decide) ?_
              refine wp_istore d_85_105 (by decide) ?_
              refine wp_iinc d_85_107 (by rfl) (by decide) ?_
              refine wp_goto (tgt := 9) d_85_110 (by decide) ?_
              first
                | (exfalso; omega)
                | (refine wp_to [some (vR (some (w + 12))), some (vR (some a)), some (vI b0), some (vR (some r)), some (vI 1), some (vI 1), some (vI (k + 1)), none, none] ⟨rfl, rfl, rfl, rfl, rfl, rfl, rfl, trivial⟩ ?_
                   refine ih (k + 1) 1 1 _ (by omega) (by omega) (E.trans (ch_setI rfl)) ?_ kq
                   rw [hi_upF]
                   have J := I.write e1 (by omega) (by omega) (by show b0 + hi h0 (a + 2) k ≤ _; omega) (by show b0 + hi h0 (a + 2) k < _; rw [← e_24]; omega)
                   rw [e_24, show b0 + x_34 = b0 + hi h0 (a + 2) k by omega]
                   exact J.on e1 (Or.inl (by omega)))
                | (refine wp_to [some (vR (some (w + 12))), some (vR (some a)), some (vI b0), some (vR (some r)), some (vI b), some (vI 1), some (vI (k + 1)), none, none] ⟨rfl, rfl, rfl, rfl, rfl, rfl, rfl, trivial⟩ ?_
                   refine ih (k + 1) 1 b _ (by omega) (by omega) E ?_ kq
                   have J := I.pass (by first | exact Or.inl (by omega) | exact Or.inr (by show _ ≤ b0 + hi h0 (a + 2) k; rw [← e_24]; omega))
                   exact J.on e1 (by first | exact Or.inl (by omega) | exact Or.inr (by show _ ≤ b0 + hi h0 (a + 3) k; rw [← e_24]; omega)))
                | (refine wp_to [some (vR (some (w + 12))), some (vR (some a)), some (vI b0), some (vR (some r)), some (vI b), some (vI 0), some (vI (k + 1)), none, none] ⟨rfl, rfl, rfl, rfl, rfl, rfl, rfl, trivial⟩ ?_
                   refine ih (k + 1) 0 b _ (by omega) (by omega) E ?_ kq
                   have J := I.pass (Or.inl (by omega))
                   exact J.off (by omega) (by show b0 + hi h0 (a + 3) k < _; rw [← e_24]; omega))
        · refine wp_iload d_85_55 (by rfl) ?_
          refine wp_aload_n d_85_57 (by rfl) ?_
          refine wp_getR (2) d_85_58 fl_9_19 rfl rfl (by first | assumption | (simp only [kd_setI]; assumption)) (by first | assumption | (simp only [hr_setI]; assumption)) ?_
          refine wp_iload d_85_61 (by rfl) ?_
          refine wp_iald d_85_63 (Or.inl (by first | assumption | (simp only [kd_setI]; assumption))) (by first | omega | (simp only [ln_setI]; omega)) (by first | omega | (simp only [ln_setI]; omega)) (fun x_63 e_63 r_63 => ?_)
          (try rw [E8 _ _ (pa _ (by omega))] at e_63)
          (try rw [E8 _ _ pl] at e_63)
          (try rw [E8 _ _ hr29] at e_63)
          refine wp_icmp_ge (tgt := 79) d_85_64 (by decide) (by first | omega | (simp only [ln_setI]; omega)) (by first | omega | (simp only [ln_setI]; omega)) (fun c_64 => ?_) (fun c_64 => ?_)
          · refine wp_iload d_85_79 (by rfl) ?_
            refine wp_if_ne (tgt := 100) d_85_81 (by decide) (by first | omega | (simp only [ln_setI]; omega)) (fun c_81 => ?_) (fun c_81 => ?_)
            · refine wp_iconst d_85_100 ?_
              refine wp_goto (tgt := 105) d_85_101 (by decide) ?_
              refine wp_istore d_85_105 (by decide) ?_
              refine wp_iinc d_85_107 (by rfl) (by decide) ?_
              refine wp_goto (tgt := 9) d_85_110 (by decide) ?_
              first
                | (exfalso; omega)
                | (refine wp_to [some (vR (some (w + 12))), some (vR (some a)), some (vI b0), some (vR (some r)), some (vI 1), some (vI 1), some (vI (k + 1)), none, none] ⟨rfl, rfl, rfl, rfl, rfl, rfl, rfl, trivial⟩ ?_
                   refine ih (k + 1) 1 1 _ (by omega) (by omega) (E.trans (ch_setI rfl)) ?_ kq
                   rw [hi_upF]
                   have J := I.write e1 (by omega) (by omega) (by show b0 + hi h0 (a + 2) k ≤ _; omega) (by show b0 + hi h0 (a + 2) k < _; rw [← e_24]; omega)
                   rw [e_24, show b0 + x_34 = b0 + hi h0 (a + 2) k by omega]
                   exact J.on e1 (Or.inl (by omega)))
                | (refine wp_to [some (vR (some (w + 12))), some (vR (some a)), some (vI b0), some (vR (some r)), some (vI b), some (vI 1), some (vI (k + 1)), none, none] ⟨rfl, rfl, rfl, rfl, rfl, rfl, rfl, trivial⟩ ?_
                   refine ih (k + 1) 1 b _ (by omega) (by omega) E ?_ kq
                   have J := I.pass (by first | exact Or.inl (by omega) | exact Or.inr (by show _ ≤ b0 + hi h0 (a + 2) k; rw [← e_24]; omega))
                   exact J.on e1 (by first | exact Or.inl (by omega) | exact Or.inr (by show _ ≤ b0 + hi h0 (a + 3) k; rw [← e_24]; omega)))
                | (refine wp_to [some (vR (some (w + 12))), some (vR (some a)), some (vI b0), some (vR (some r)), some (vI b), some (vI 0), some (vI (k + 1)), none, none] ⟨rfl, rfl, rfl, rfl, rfl, rfl, rfl, trivial⟩ ?_
                   refine ih (k + 1) 0 b _ (by omega) (by omega) E ?_ kq
                   have J := I.pass (Or.inl (by omega))
                   exact J.off (by omega) (by show b0 + hi h0 (a + 3) k < _; rw [← e_24]; omega))
            · refine wp_iload_n d_85_84 (by rfl) ?_
              refine wp_aload_n d_85_85 (by rfl) ?_
              refine wp_getR (5) d_85_86 fl_9_88 rfl rfl (by first | assumption | (simp only [kd_setI]; assumption)) (by first | assumption | (simp only [hr_setI]; assumption)) ?_
              refine wp_iload d_85_89 (by rfl) ?_
              refine wp_iald d_85_91 (Or.inl (by first | assumption | (simp only [kd_setI]; assumption))) (by first | omega | (simp only [ln_setI]; omega)) (by first | omega | (simp only [ln_setI]; omega)) (fun x_91 e_91 r_91 => ?_)
              (try rw [E8 _ _ (pa _ (by omega))] at e_91)
              (try rw [E8 _ _ pl] at e_91)
              (try rw [E8 _ _ hr29] at e_91)
              refine wp_iadd d_85_92 ?_
              refine wp_aload_n d_85_93 (by rfl) ?_
              refine wp_iload d_85_94 (by rfl) ?_
              refine wp_iald d_85_96 (Or.inl (by first | assumption | (simp only [kd_setI]; assumption))) (by first | omega | (simp only [ln_setI]; omega)) (by first | omega | (simp only [ln_setI]; omega)) (fun x_96 e_96 r_96 => ?_)
              (try rw [E8 _ _ (pa _ (by omega))] at e_96)
              (try rw [E8 _ _ pl] at e_96)
              (try rw [E8 _ _ hr29] at e_96)
              refine wp_icmp_lt (tgt := 104) d_85_97 (by decide) (by first | omega | (simp only [ln_setI]; omega)) (by first | omega | (simp only [ln_setI]; omega)) (fun c_97 => ?_) (fun c_97 => ?_)
              · refine wp_iconst d_85_104 ?_
                refine wp_istore d_85_105 (by decide) ?_
                refine wp_iinc d_85_107 (by rfl) (by decide) ?_
                refine wp_goto (tgt := 9) d_85_110 (by decide) ?_
                first
                  | (exfalso; omega)
                  | (refine wp_to [some (vR (some (w + 12))), some (vR (some a)), some (vI b0), some (vR (some r)), some (vI 1), some (vI 1), some (vI (k + 1)), none, none] ⟨rfl, rfl, rfl, rfl, rfl, rfl, rfl, trivial⟩ ?_
                     refine ih (k + 1) 1 1 _ (by omega) (by omega) (E.trans (ch_setI rfl)) ?_ kq
                     rw [hi_upF]
                     have J := I.write e1 (by omega) (by omega) (by show b0 + hi h0 (a + 2) k ≤ _; omega) (by show b0 + hi h0 (a + 2) k < _; rw [← e_24]; omega)
                     rw [e_24, show b0 + x_34 = b0 + hi h0 (a + 2) k by omega]
                     exact J.on e1 (Or.inl (by omega)))
                  | (refine wp_to [some (vR (some (w + 12))), some (vR (some a)), some (vI b0), some (vR (some r)), some (vI b), some (vI 1), some (vI (k + 1)), none, none] ⟨rfl, rfl, rfl, rfl, rfl, rfl, rfl, trivial⟩ ?_
                     refine ih (k + 1) 1 b _ (by omega) (by omega) E ?_ kq
                     have J := I.pass (by first | exact Or.inl (by omega) | exact Or.inr (by show _ ≤ b0 + hi h0 (a + 2) k; rw [← e_24]; omega))
                     exact J.on e1 (by first | exact Or.inl (by omega) | exact Or.inr (by show _ ≤ b0 + hi h0 (a + 3) k; rw [← e_24]; omega)))
                  | (refine wp_to [some (vR (some (w + 12))), some (vR (some a)), some (vI b0), some (vR (some r)), some (vI b), some (vI 0), some (vI (k + 1)), none, none] ⟨rfl, rfl, rfl, rfl, rfl, rfl, rfl, trivial⟩ ?_
                     refine ih (k + 1) 0 b _ (by omega) (by omega) E ?_ kq
                     have J := I.pass (Or.inl (by omega))
                     exact J.off (by omega) (by show b0 + hi h0 (a + 3) k < _; rw [← e_24]; omega))
              · refine wp_iconst d_85_100 ?_
                refine wp_goto (tgt := 105) d_85_101 (by decide) ?_
                refine wp_istore d_85_105 (by decide) ?_
                refine wp_iinc d_85_107 (by rfl) (by decide) ?_
                refine wp_goto (tgt := 9) d_85_110 (by decide) ?_
                first
                  | (exfalso; omega)
                  | (refine wp_to [some (vR (some (w + 12))), some (vR (some a)), some (vI b0), some (vR (some r)), some (vI 1), some (vI 1), some (vI (k + 1)), none, none] ⟨rfl, rfl, rfl, rfl, rfl, rfl, rfl, trivial⟩ ?_
                     refine ih (k + 1) 1 1 _ (by omega) (by omega) (E.trans (ch_setI rfl)) ?_ kq
                     rw [hi_upF]
                     have J := I.write e1 (by omega) (by omega) (by show b0 + hi h0 (a + 2) k ≤ _; omega) (by show b0 + hi h0 (a + 2) k < _; rw [← e_24]; omega)
                     rw [e_24, show b0 + x_34 = b0 + hi h0 (a + 2) k by omega]
                     exact J.on e1 (Or.inl (by omega)))
                  | (refine wp_to [some (vR (some (w + 12))), some (vR (some a)), some (vI b0), some (vR (some r)), some (vI b), some (vI 1), some (vI (k + 1)), none, none] ⟨rfl, rfl, rfl, rfl, rfl, rfl, rfl, trivial⟩ ?_
                     refine ih (k + 1) 1 b _ (by omega) (by omega) E ?_ kq
                     have J := I.pass (by first | exact Or.inl (by omega) | exact Or.inr (by show _ ≤ b0 + hi h0 (a + 2) k; rw [← e_24]; omega))
                     exact J.on e1 (by first | exact Or.inl (by omega) | exact Or.inr (by show _ ≤ b0 + hi h0 (a + 3) k; rw [← e_24]; omega)))
                  | (refine wp_to [some (vR (some (w + 12))), some (vR (some a)), some (vI b0), some (vR (some r)), some (vI b), some (vI 0), some (vI (k + 1)), none, none] ⟨rfl, rfl, rfl, rfl, rfl, rfl, rfl, trivial⟩ ?_
                     refine ih (k + 1) 0 b _ (by omega) (by omega) E ?_ kq
                     have J := I.pass (Or.inl (by omega))
                     exact J.off (by omega) (by show b0 + hi h0 (a + 3) k < _; rw [← e_24]; omega))
          · refine wp_aload_n d_85_67 (by rfl) ?_
            refine wp_getR (2) d_85_68 fl_9_19 rfl rfl (by first | assumption | (simp only [kd_setI]; assumption)) (by first | assumption | (simp only [hr_setI]; assumption)) ?_
            refine wp_iload d_85_71 (by rfl) ?_
            refine wp_iload d_85_73 (by rfl) ?_
            refine wp_iast d_85_75 (by first | assumption | (simp only [kd_setI]; assumption)) (by first | omega | (simp only [ln_setI]; omega)) (by first | omega | (simp only [ln_setI]; omega)) (by first | omega | (simp only [ln_setI]; omega)) ?_
            refine wp_iconst d_85_76 ?_
            refine wp_istore d_85_77 (by decide) ?_
            refine wp_iload d_85_79 (by rfl) ?_
            refine wp_if_ne (tgt := 100) d_85_81 (by decide) (by first | omega | (simp only [ln_setI]; omega)) (fun c_81 => ?_) (fun c_81 => ?_)
            · refine wp_iconst d_85_100 ?_
              refine wp_goto (tgt := 105) d_85_101 (by decide) ?_
              refine wp_istore d_85_105 (by decide) ?_
              refine wp_iinc d_85_107 (by rfl) (by decide) ?_
              refine wp_goto (tgt := 9) d_85_110 (by decide) ?_
              first
                | (exfalso; omega)
                | (refine wp_to [some (vR (some (w + 12))), some (vR (some a)), some (vI b0), some (vR (some r)), some (vI 1), some (vI 1), some (vI (k + 1)), none, none] ⟨rfl, rfl, rfl, rfl, rfl, rfl, rfl, trivial⟩ ?_
                   refine ih (k + 1) 1 1 _ (by omega) (by omega) (E.trans (ch_setI rfl)) ?_ kq
                   rw [hi_upF]
                   have J := I.write e1 (by omega) (by omega) (by show b0 + hi h0 (a + 2) k ≤ _; omega) (by show b0 + hi h0 (a + 2) k < _; rw [← e_24]; omega)
                   rw [e_24, show b0 + x_34 = b0 + hi h0 (a + 2) k by omega]
                   exact J.on e1 (Or.inl (by omega)))
                | (refine wp_to [some (vR (some (w + 12))), some (vR (some a)), some (vI b0), some (vR (some r)), some (vI b), some (vI 1), some (vI (k + 1)), none, none] ⟨rfl, rfl, rfl, rfl, rfl, rfl, rfl, trivial⟩ ?_
                   refine ih (k + 1) 1 b _ (by omega) (by omega) E ?_ kq
                   have J := I.pass (by first | exact Or.inl (by omega) | exact Or.inr (by show _ ≤ b0 + hi h0 (a + 2) k; rw [← e_24]; omega))
                   exact J.on e1 (by first | exact Or.inl (by omega) | exact Or.inr (by show _ ≤ b0 + hi h0 (a + 3) k; rw [← e_24]; omega)))
                | (refine wp_to [some (vR (some (w + 12))), some (vR (some a)), some (vI b0), some (vR (some r)), some (vI b), some (vI 0), some (vI (k + 1)), none, none] ⟨rfl, rfl, rfl, rfl, rfl, rfl, rfl, trivial⟩ ?_
                   refine ih (k + 1) 0 b _ (by omega) (by omega) E ?_ kq
                   have J := I.pass (Or.inl (by omega))
                   exact J.off (by omega) (by show b0 + hi h0 (a + 3) k < _; rw [← e_24]; omega))
            · refine wp_iload_n d_85_84 (by rfl) ?_
              refine wp_aload_n d_85_85 (by rfl) ?_
              refine wp_getR (5) d_85_86 fl_9_88 rfl rfl (by first | assumption | (simp only [kd_setI]; assumption)) (by first | assumption | (simp only [hr_setI]; assumption)) ?_
              refine wp_iload d_85_89 (by rfl) ?_
              refine wp_iald d_85_91 (Or.inl (by first | assumption | (simp only [kd_setI]; assumption))) (by first | omega | (simp only [ln_setI]; omega)) (by first | omega | (simp only [ln_setI]; omega)) (fun x_91 e_91 r_91 => ?_)
              (try rw [E8 _ _ (pa _ (by omega))] at e_91)
              (try rw [E8 _ _ pl] at e_91)
              (try rw [E8 _ _ hr29] at e_91)
              refine wp_iadd d_85_92 ?_
              refine wp_aload_n d_85_93 (by rfl) ?_
              refine wp_iload d_85_94 (by rfl) ?_
              refine wp_iald d_85_96 (Or.inl (by first | assumption | (simp only [kd_setI]; assumption))) (by first | omega | (simp only [ln_setI]; omega)) (by first | omega | (simp only [ln_setI]; omega)) (fun x_96 e_96 r_96 => ?_)
              (try rw [E8 _ _ (pa _ (by omega))] at e_96)
              (try rw [E8 _ _ pl] at e_96)
              (try rw [E8 _ _ hr29] at e_96)
              refine wp_icmp_lt (tgt := 104) d_85_97 (by decide) (by first | omega | (simp only [ln_setI]; omega)) (by first | omega | (simp only [ln_setI]; omega)) (fun c_97 => ?_) (fun c_97 => ?_)
              · refine wp_iconst d_85_104 ?_
                refine wp_istore d_85_105 (by decide) ?_
                refine wp_iinc d_85_107 (by rfl) (by decide) ?_
                refine wp_goto (tgt := 9) d_85_110 (by decide) ?_
                first
                  | (exfalso; omega)
                  | (refine wp_to [some (vR (some (w + 12))), some (vR (some a)), some (vI b0), some (vR (some r)), some (vI 1), some (vI 1), some (vI (k + 1)), none, none] ⟨rfl, rfl, rfl, rfl, rfl, rfl, rfl, trivial⟩ ?_
                     refine ih (k + 1) 1 1 _ (by omega) (by omega) (E.trans (ch_setI rfl)) ?_ kq
                     rw [hi_upF]
                     have J := I.write e1 (by omega) (by omega) (by show b0 + hi h0 (a + 2) k ≤ _; omega) (by show b0 + hi h0 (a + 2) k < _; rw [← e_24]; omega)
                     rw [e_24, show b0 + x_34 = b0 + hi h0 (a + 2) k by omega]
                     exact J.on e1 (Or.inl (by omega)))
                  | (refine wp_to [some (vR (some (w + 12))), some (vR (some a)), some (vI b0), some (vR (some r)), some (vI b), some (vI 1), some (vI (k + 1)), none, none] ⟨rfl, rfl, rfl, rfl, rfl, rfl, rfl, trivial⟩ ?_
                     refine ih (k + 1) 1 b _ (by omega) (by omega) E ?_ kq
                     have J := I.pass (by first | exact Or.inl (by omega) | exact Or.inr (by show _ ≤ b0 + hi h0 (a + 2) k; rw [← e_24]; omega))
                     exact J.on e1 (by first | exact Or.inl (by omega) | exact Or.inr (by show _ ≤ b0 + hi h0 (a + 3) k; rw [← e_24]; omega)))
                  | (refine wp_to [some (vR (some (w + 12))), some (vR (some a)), some (vI b0), some (vR (some r)), some (vI b), some (vI 0), some (vI (k + 1)), none, none] ⟨rfl, rfl, rfl, rfl, rfl, rfl, rfl, trivial⟩ ?_
                     refine ih (k + 1) 0 b _ (by omega) (by omega) E ?_ kq
                     have J := I.pass (Or.inl (by omega))
                     exact J.off (by omega) (by show b0 + hi h0 (a + 3) k < _; rw [← e_24]; omega))
              · refine wp_iconst d_85_100 ?_
                refine wp_goto (tgt := 105) d_85_101 (by decide) ?_
                refine wp_istore d_85_105 (by decide) ?_
                refine wp_iinc d_85_107 (by rfl) (by decide) ?_
                refine wp_goto (tgt := 9) d_85_110 (by decide) ?_
                first
                  | (exfalso; omega)
                  | (refine wp_to [some (vR (some (w + 12))), some (vR (some a)), some (vI b0), some (vR (some r)), some (vI 1), some (vI 1), some (vI (k + 1)), none, none] ⟨rfl, rfl, rfl, rfl, rfl, rfl, rfl, trivial⟩ ?_
                     refine ih (k + 1) 1 1 _ (by omega) (by omega) (E.trans (ch_setI rfl)) ?_ kq
                     rw [hi_upF]
                     have J := I.write e1 (by omega) (by omega) (by show b0 + hi h0 (a + 2) k ≤ _; omega) (by show b0 + hi h0 (a + 2) k < _; rw [← e_24]; omega)
                     rw [e_24, show b0 + x_34 = b0 + hi h0 (a + 2) k by omega]
                     exact J.on e1 (Or.inl (by omega)))
                  | (refine wp_to [some (vR (some (w + 12))), some (vR (some a)), some (vI b0), some (vR (some r)), some (vI b), some (vI 1), some (vI (k + 1)), none, none] ⟨rfl, rfl, rfl, rfl, rfl, rfl, rfl, trivial⟩ ?_
                     refine ih (k + 1) 1 b _ (by omega) (by omega) E ?_ kq
                     have J := I.pass (by first | exact Or.inl (by omega) | exact Or.inr (by show _ ≤ b0 + hi h0 (a + 2) k; rw [← e_24]; omega))
                     exact J.on e1 (by first | exact Or.inl (by omega) | exact Or.inr (by show _ ≤ b0 + hi h0 (a + 3) k; rw [← e_24]; omega)))
                  | (refine wp_to [some (vR (some (w + 12))), some (vR (some a)), some (vI b0), some (vR (some r)), some (vI b), some (vI 0), some (vI (k + 1)), none, none] ⟨rfl, rfl, rfl, rfl, rfl, rfl, rfl, trivial⟩ ?_
                     refine ih (k + 1) 0 b _ (by omega) (by omega) E ?_ kq
                     have J := I.pass (Or.inl (by omega))
                     exact J.off (by omega) (by show b0 + hi h0 (a + 3) k < _; rw [← e_24]; omega))
      · refine wp_goto (tgt := 113) d_85_47 (by decide) ?_
        refine wp_iload d_85_113 (by rfl) ?_
        refine wp_zret d_85_115 rfl (by omega) ?_
        first | exact absurd c_15 (by omega) | exact kq h b E (I.done (Or.inr ⟨by show _ < b0 + hi h0 (a + 2) k; omega, mono⟩))
set_option maxRecDepth 100000 in
set_option maxHeartbeats 4000000 in
theorem s_rideRun {w a r : Nat} {n b0 : Int} {h0 : Hp} (hS0 : Sk h0 w) (hT0 : TripOk h0 n a) (ha : w + 154 ≤ a) (hn : n ≤ 16) (kr : kd h0 r = 100) (lr : ln h0 r = 16) (hr29 : r ≠ w + 29) (hw : w + 154 ≤ nx h0) (han : a + 5 ≤ nx h0) (hb0 : 0 ≤ b0 ∧ b0 ≤ 600000) (hlim : 0 ≤ hi h0 (w + 12) 3 ∧ hi h0 (w + 12) 3 ≤ 1000000) : wp 85 0 (entL [vR (some (w + 12)), vR (some a), vI b0, vR (some r)] (mL 85)) [] h0 (fun v h' => ∃ b', v = some (vI b') ∧ ch (· = w + 29) nP h0 h' ∧ RRun (hi h0 a 7) (hi h0 (a + 1)) (fun i => b0 + hi h0 (a + 2) i) (fun i => b0 + hi h0 (a + 3) i) (hi h0 (w + 12) 3) (hi h0 r) (hi h0 (w + 29)) (hi h' (w + 29)) b') noX := by
  refine wp_iconst d_85_0 ?_
  refine wp_istore d_85_1 (by decide) ?_
  refine wp_iconst d_85_3 ?_
  refine wp_istore d_85_4 (by decide) ?_
  refine wp_iconst d_85_6 ?_
  refine wp_istore d_85_7 (by decide) ?_
  refine wp_to [some (vR (some (w + 12))), some (vR (some a)), some (vI b0), some (vR (some r)), some (vI 0), some (vI 0), some (vI 0), none, none] ⟨rfl, rfl, rfl, rfl, rfl, rfl, rfl, trivial⟩ ?_
  have t4 := hT0.2.2.2.1
  exact l_rideRun hS0 hT0 ha hn kr lr hr29 hw han hb0 hlim (hi h0 a 7).toNat 0 0 0 h0 (by omega) (by omega) ch.rfl RRI.start (fun h' b' E I => ⟨b', rfl, E, I⟩)
end
section
set_option maxRecDepth 100000 in
theorem cd_85 : cdP 85 := ⟨okr (k := 237) rfl (by decide +kernel), by decide +kernel, by decide +kernel, okk_w (k := 36) (by decide +kernel)⟩
set_option maxRecDepth 100000 in
theorem cd_112 : cdP 112 := ⟨okr (k := 217) rfl (by decide +kernel), by decide +kernel, by decide +kernel, okk_w (k := 51) (by decide +kernel)⟩
set_option maxRecDepth 100000 in
theorem ck_9_23 : okw (.constant "WhistleStop$Onward" 23 (1000000000)) := okk_w (k := 214) (by decide +kernel)
set_option maxRecDepth 100000 in
theorem c_81_59 : csP 81 59 112 2 := ⟨cd_112, okk_w (k := 215) (by decide +kernel), okk_w (k := 216) (by decide +kernel), by decide +kernel, by decide +kernel⟩
set_option maxRecDepth 100000 in
theorem d_81_0 : decode (mB 81) 0 = .ok (.aload_n 0, 1) := by decide +kernel
set_option maxRecDepth 100000 in
theorem d_81_1 : decode (mB 81) 1 = .ok (.getfield 11, 3) := by decide +kernel
set_option maxRecDepth 100000 in
theorem d_81_4 : decode (mB 81) 4 = .ok (.iconst 0, 1) := by decide +kernel
set_option maxRecDepth 100000 in
theorem d_81_5 : decode (mB 81) 5 = .ok (.aaload, 1) := by decide +kernel
set_option maxRecDepth 100000 in
theorem d_81_6 : decode (mB 81) 6 = .ok (.ldc 23, 2) := by decide +kernel
set_option maxRecDepth 100000 in
theorem d_81_8 : decode (mB 81) 8 = .ok (.invokestatic 59, 3) := by decide +kernel
set_option maxRecDepth 100000 in
theorem d_81_11 : decode (mB 81) 11 = .ok (.aload_n 0, 1) := by decide +kernel
set_option maxRecDepth 100000 in
theorem d_81_12 : decode (mB 81) 12 = .ok (.getfield 16, 3) := by decide +kernel
set_option maxRecDepth 100000 in
theorem d_81_15 : decode (mB 81) 15 = .ok (.iconst 0, 1) := by decide +kernel
set_option maxRecDepth 100000 in
theorem d_81_16 : decode (mB 81) 16 = .ok (.aaload, 1) := by decide +kernel
set_option maxRecDepth 100000 in
theorem d_81_17 : decode (mB 81) 17 = .ok (.ldc 23, 2) := by decide +kernel
set_option maxRecDepth 100000 in
theorem d_81_19 : decode (mB 81) 19 = .ok (.invokestatic 59, 3) := by decide +kernel
set_option maxRecDepth 100000 in
theorem d_81_22 : decode (mB 81) 22 = .ok (.aload_n 0, 1) := by decide +kernel
set_option maxRecDepth 100000 in
theorem d_81_23 : decode (mB 81) 23 = .ok (.getfield 19, 3) := by decide +kernel
set_option maxRecDepth 100000 in
theorem d_81_26 : decode (mB 81) 26 = .ok (.ldc 23, 2) := by decide +kernel
set_option maxRecDepth 100000 in
theorem d_81_28 : decode (mB 81) 28 = .ok (.invokestatic 59, 3) := by decide +kernel
set_option maxRecDepth 100000 in
theorem d_81_31 : decode (mB 81) 31 = .ok (.aload_n 0, 1) := by decide +kernel
set_option maxRecDepth 100000 in
theorem d_81_32 : decode (mB 81) 32 = .ok (.getfield 11, 3) := by decide +kernel
set_option maxRecDepth 100000 in
theorem d_81_35 : decode (mB 81) 35 = .ok (.iconst 0, 1) := by decide +kernel
set_option maxRecDepth 100000 in
theorem d_81_36 : decode (mB 81) 36 = .ok (.aaload, 1) := by decide +kernel
set_option maxRecDepth 100000 in
theorem d_81_37 : decode (mB 81) 37 = .ok (.iload_n 1, 1) := by decide +kernel
set_option maxRecDepth 100000 in
theorem d_81_38 : decode (mB 81) 38 = .ok (.iload_n 2, 1) := by decide +kernel
set_option maxRecDepth 100000 in
theorem d_81_39 : decode (mB 81) 39 = .ok (.iastore, 1) := by decide +kernel
set_option maxRecDepth 100000 in
theorem d_81_40 : decode (mB 81) 40 = .ok (.aload_n 0, 1) := by decide +kernel
set_option maxRecDepth 100000 in
theorem d_81_41 : decode (mB 81) 41 = .ok (.getfield 16, 3) := by decide +kernel
set_option maxRecDepth 100000 in
theorem d_81_44 : decode (mB 81) 44 = .ok (.iconst 0, 1) := by decide +kernel
set_option maxRecDepth 100000 in
theorem d_81_45 : decode (mB 81) 45 = .ok (.aaload, 1) := by decide +kernel
set_option maxRecDepth 100000 in
theorem d_81_46 : decode (mB 81) 46 = .ok (.iload_n 1, 1) := by decide +kernel
set_option maxRecDepth 100000 in
theorem d_81_47 : decode (mB 81) 47 = .ok (.iload_n 2, 1) := by decide +kernel
set_option maxRecDepth 100000 in
theorem d_81_48 : decode (mB 81) 48 = .ok (.iastore, 1) := by decide +kernel
set_option maxRecDepth 100000 in
theorem d_81_49 : decode (mB 81) 49 = .ok (.aload_n 0, 1) := by decide +kernel
set_option maxRecDepth 100000 in
theorem d_81_50 : decode (mB 81) 50 = .ok (.getfield 19, 3) := by decide +kernel
set_option maxRecDepth 100000 in
theorem d_81_53 : decode (mB 81) 53 = .ok (.iload_n 1, 1) := by decide +kernel
set_option maxRecDepth 100000 in
theorem d_81_54 : decode (mB 81) 54 = .ok (.iload_n 2, 1) := by decide +kernel
set_option maxRecDepth 100000 in
theorem d_81_55 : decode (mB 81) 55 = .ok (.iastore, 1) := by decide +kernel
set_option maxRecDepth 100000 in
theorem d_81_56 : decode (mB 81) 56 = .ok (.return_, 1) := by decide +kernel
set_option maxRecDepth 100000 in
theorem fl_9_65 : flP "WhistleStop$Onward" 65 10 3 := ⟨_, rfl, by decide, okk_w (k := 610) (by decide +kernel)⟩
set_option maxRecDepth 100000 in
theorem fl_9_68 : flP "WhistleStop$Onward" 68 10 0 := ⟨_, rfl, by decide, okk_w (k := 598) (by decide +kernel)⟩
set_option maxRecDepth 100000 in
theorem fl_9_72 : flP "WhistleStop$Onward" 72 10 2 := ⟨_, rfl, by decide, okk_w (k := 605) (by decide +kernel)⟩
set_option maxRecDepth 100000 in
theorem c_84_75 : cvP 84 75 85 3 := ⟨cd_85, okk_w (k := 234) (by decide +kernel), okk_w (k := 236) (by decide +kernel), okk_w (k := 8) (by decide +kernel), by decide +kernel, by decide +kernel⟩
set_option maxRecDepth 100000 in
theorem d_84_0 : decode (mB 84) 0 = .ok (.iconst 0, 1) := by decide +kernel
set_option maxRecDepth 100000 in
theorem d_84_1 : decode (mB 84) 1 = .ok (.istore_n 3, 1) := by decide +kernel
set_option maxRecDepth 100000 in
theorem d_84_2 : decode (mB 84) 2 = .ok (.iconst 0, 1) := by decide +kernel
set_option maxRecDepth 100000 in
theorem d_84_3 : decode (mB 84) 3 = .ok (.istore 4, 2) := by decide +kernel
set_option maxRecDepth 100000 in
theorem d_84_5 : decode (mB 84) 5 = .ok (.iload 4, 2) := by decide +kernel
set_option maxRecDepth 100000 in
theorem d_84_7 : decode (mB 84) 7 = .ok (.aload_n 1, 1) := by decide +kernel
set_option maxRecDepth 100000 in
theorem d_84_8 : decode (mB 84) 8 = .ok (.getfield 65, 3) := by decide +kernel
set_option maxRecDepth 100000 in
theorem d_84_11 : decode (mB 84) 11 = .ok (.if_icmp .ge 41, 3) := by decide +kernel
set_option maxRecDepth 100000 in
theorem d_84_14 : decode (mB 84) 14 = .ok (.aload_n 0, 1) := by decide +kernel
set_option maxRecDepth 100000 in
theorem d_84_15 : decode (mB 84) 15 = .ok (.aload_n 1, 1) := by decide +kernel
set_option maxRecDepth 100000 in
theorem d_84_16 : decode (mB 84) 16 = .ok (.getfield 68, 3) := by decide +kernel
set_option maxRecDepth 100000 in
theorem d_84_19 : decode (mB 84) 19 = .ok (.iload 4, 2) := by decide +kernel
set_option maxRecDepth 100000 in
theorem d_84_21 : decode (mB 84) 21 = .ok (.aaload, 1) := by decide +kernel
set_option maxRecDepth 100000 in
theorem d_84_22 : decode (mB 84) 22 = .ok (.aload_n 1, 1) := by decide +kernel
set_option maxRecDepth 100000 in
theorem d_84_23 : decode (mB 84) 23 = .ok (.getfield 72, 3) := by decide +kernel
set_option maxRecDepth 100000 in
theorem d_84_26 : decode (mB 84) 26 = .ok (.iload 4, 2) := by decide +kernel
set_option maxRecDepth 100000 in
theorem d_84_28 : decode (mB 84) 28 = .ok (.iaload, 1) := by decide +kernel
set_option maxRecDepth 100000 in
theorem d_84_29 : decode (mB 84) 29 = .ok (.aload_n 2, 1) := by decide +kernel
set_option maxRecDepth 100000 in
theorem d_84_30 : decode (mB 84) 30 = .ok (.invokevirtual 75, 3) := by decide +kernel
set_option maxRecDepth 100000 in
theorem d_84_33 : decode (mB 84) 33 = .ok (.ifCond .ne 7, 3) := by decide +kernel
set_option maxRecDepth 100000 in
theorem d_84_36 : decode (mB 84) 36 = .ok (.iload_n 3, 1) := by decide +kernel
set_option maxRecDepth 100000 in
theorem d_84_37 : decode (mB 84) 37 = .ok (.ifCond .eq 7, 3) := by decide +kernel
set_option maxRecDepth 100000 in
theorem d_84_40 : decode (mB 84) 40 = .ok (.iconst 1, 1) := by decide +kernel
set_option maxRecDepth 100000 in
theorem d_84_41 : decode (mB 84) 41 = .ok (.goto 4, 3) := by decide +kernel
set_option maxRecDepth 100000 in
theorem d_84_44 : decode (mB 84) 44 = .ok (.iconst 0, 1) := by decide +kernel
set_option maxRecDepth 100000 in
theorem d_84_45 : decode (mB 84) 45 = .ok (.istore_n 3, 1) := by decide +kernel
set_option maxRecDepth 100000 in
theorem d_84_46 : decode (mB 84) 46 = .ok (.iinc 4 1, 3) := by decide +kernel
set_option maxRecDepth 100000 in
theorem d_84_49 : decode (mB 84) 49 = .ok (.goto (-44), 3) := by decide +kernel
set_option maxRecDepth 100000 in
theorem d_84_52 : decode (mB 84) 52 = .ok (.iload_n 3, 1) := by decide +kernel
set_option maxRecDepth 100000 in
theorem d_84_53 : decode (mB 84) 53 = .ok (.ireturn, 1) := by decide +kernel
set_option maxRecDepth 100000 in
theorem fl_9_91 : flP "WhistleStop$Onward" 91 7 4 := ⟨_, rfl, by decide, okk_w (k := 563) (by decide +kernel)⟩
set_option maxRecDepth 100000 in
theorem c_86_96 : csP 86 96 111 2 := ⟨cd_111, okk_w (k := 226) (by decide +kernel), okk_w (k := 180) (by decide +kernel), by decide +kernel, by decide +kernel⟩
set_option maxRecDepth 100000 in
theorem fl_9_102 : flP "WhistleStop$Onward" 102 7 0 := ⟨_, rfl, by decide, okk_w (k := 549) (by decide +kernel)⟩
set_option maxRecDepth 100000 in
theorem d_86_0 : decode (mB 86) 0 = .ok (.iconst 0, 1) := by decide +kernel
set_option maxRecDepth 100000 in
theorem d_86_1 : decode (mB 86) 1 = .ok (.istore_n 3, 1) := by decide +kernel
set_option maxRecDepth 100000 in
theorem d_86_2 : decode (mB 86) 2 = .ok (.iload_n 3, 1) := by decide +kernel
set_option maxRecDepth 100000 in
theorem d_86_3 : decode (mB 86) 3 = .ok (.aload_n 1, 1) := by decide +kernel
set_option maxRecDepth 100000 in
theorem d_86_4 : decode (mB 86) 4 = .ok (.getfield 91, 3) := by decide +kernel
set_option maxRecDepth 100000 in
theorem d_86_7 : decode (mB 86) 7 = .ok (.if_icmp .ge 66, 3) := by decide +kernel
set_option maxRecDepth 100000 in
theorem d_86_10 : decode (mB 86) 10 = .ok (.aload_n 0, 1) := by decide +kernel
set_option maxRecDepth 100000 in
theorem d_86_11 : decode (mB 86) 11 = .ok (.getfield 11, 3) := by decide +kernel
set_option maxRecDepth 100000 in
theorem d_86_14 : decode (mB 86) 14 = .ok (.iload_n 2, 1) := by decide +kernel
set_option maxRecDepth 100000 in
theorem d_86_15 : decode (mB 86) 15 = .ok (.aaload, 1) := by decide +kernel
set_option maxRecDepth 100000 in
theorem d_86_16 : decode (mB 86) 16 = .ok (.iload_n 3, 1) := by decide +kernel
set_option maxRecDepth 100000 in
theorem d_86_17 : decode (mB 86) 17 = .ok (.aload_n 0, 1) := by decide +kernel
set_option maxRecDepth 100000 in
theorem d_86_18 : decode (mB 86) 18 = .ok (.getfield 11, 3) := by decide +kernel
set_option maxRecDepth 100000 in
theorem d_86_21 : decode (mB 86) 21 = .ok (.iload_n 2, 1) := by decide +kernel
set_option maxRecDepth 100000 in
theorem d_86_22 : decode (mB 86) 22 = .ok (.aaload, 1) := by decide +kernel
set_option maxRecDepth 100000 in
theorem d_86_23 : decode (mB 86) 23 = .ok (.iload_n 3, 1) := by decide +kernel
set_option maxRecDepth 100000 in
theorem d_86_24 : decode (mB 86) 24 = .ok (.iaload, 1) := by decide +kernel
set_option maxRecDepth 100000 in
theorem d_86_25 : decode (mB 86) 25 = .ok (.aload_n 0, 1) := by decide +kernel
set_option maxRecDepth 100000 in
theorem d_86_26 : decode (mB 86) 26 = .ok (.getfield 19, 3) := by decide +kernel
set_option maxRecDepth 100000 in
theorem d_86_29 : decode (mB 86) 29 = .ok (.iload_n 3, 1) := by decide +kernel
set_option maxRecDepth 100000 in
theorem d_86_30 : decode (mB 86) 30 = .ok (.iaload, 1) := by decide +kernel
set_option maxRecDepth 100000 in
theorem d_86_31 : decode (mB 86) 31 = .ok (.invokestatic 96, 3) := by decide +kernel
set_option maxRecDepth 100000 in
theorem d_86_34 : decode (mB 86) 34 = .ok (.iastore, 1) := by decide +kernel
set_option maxRecDepth 100000 in
theorem d_86_35 : decode (mB 86) 35 = .ok (.aload_n 0, 1) := by decide +kernel
set_option maxRecDepth 100000 in
theorem d_86_36 : decode (mB 86) 36 = .ok (.getfield 16, 3) := by decide +kernel
set_option maxRecDepth 100000 in
theorem d_86_39 : decode (mB 86) 39 = .ok (.iload_n 2, 1) := by decide +kernel
set_option maxRecDepth 100000 in
theorem d_86_40 : decode (mB 86) 40 = .ok (.aaload, 1) := by decide +kernel
set_option maxRecDepth 100000 in
theorem d_86_41 : decode (mB 86) 41 = .ok (.iload_n 3, 1) := by decide +kernel
set_option maxRecDepth 100000 in
theorem d_86_42 : decode (mB 86) 42 = .ok (.aload_n 0, 1) := by decide +kernel
set_option maxRecDepth 100000 in
theorem d_86_43 : decode (mB 86) 43 = .ok (.getfield 16, 3) := by decide +kernel
set_option maxRecDepth 100000 in
theorem d_86_46 : decode (mB 86) 46 = .ok (.iload_n 2, 1) := by decide +kernel
set_option maxRecDepth 100000 in
theorem d_86_47 : decode (mB 86) 47 = .ok (.aaload, 1) := by decide +kernel
set_option maxRecDepth 100000 in
theorem d_86_48 : decode (mB 86) 48 = .ok (.iload_n 3, 1) := by decide +kernel
set_option maxRecDepth 100000 in
theorem d_86_49 : decode (mB 86) 49 = .ok (.iaload, 1) := by decide +kernel
set_option maxRecDepth 100000 in
theorem d_86_50 : decode (mB 86) 50 = .ok (.aload_n 0, 1) := by decide +kernel
set_option maxRecDepth 100000 in
theorem d_86_51 : decode (mB 86) 51 = .ok (.getfield 19, 3) := by decide +kernel
set_option maxRecDepth 100000 in
theorem d_86_54 : decode (mB 86) 54 = .ok (.iload_n 3, 1) := by decide +kernel
set_option maxRecDepth 100000 in
theorem d_86_55 : decode (mB 86) 55 = .ok (.iaload, 1) := by decide +kernel
set_option maxRecDepth 100000 in
theorem d_86_56 : decode (mB 86) 56 = .ok (.aload_n 1, 1) := by decide +kernel
set_option maxRecDepth 100000 in
theorem d_86_57 : decode (mB 86) 57 = .ok (.getfield 102, 3) := by decide +kernel
set_option maxRecDepth 100000 in
theorem d_86_60 : decode (mB 86) 60 = .ok (.iload_n 3, 1) := by decide +kernel
set_option maxRecDepth 100000 in
theorem d_86_61 : decode (mB 86) 61 = .ok (.iaload, 1) := by decide +kernel
set_option maxRecDepth 100000 in
theorem d_86_62 : decode (mB 86) 62 = .ok (.iadd, 1) := by decide +kernel
set_option maxRecDepth 100000 in
theorem d_86_63 : decode (mB 86) 63 = .ok (.invokestatic 96, 3) := by decide +kernel
set_option maxRecDepth 100000 in
theorem d_86_66 : decode (mB 86) 66 = .ok (.iastore, 1) := by decide +kernel
set_option maxRecDepth 100000 in
theorem d_86_67 : decode (mB 86) 67 = .ok (.iinc 3 1, 3) := by decide +kernel
set_option maxRecDepth 100000 in
theorem d_86_70 : decode (mB 86) 70 = .ok (.goto (-68), 3) := by decide +kernel
set_option maxRecDepth 100000 in
theorem d_86_73 : decode (mB 86) 73 = .ok (.return_, 1) := by decide +kernel
end
section
/-! ===== the search onwards: all runs, arriving, beginning ===== -/
/-- the run at a place of the list -/
def RcI (h : Hp) (w : Nat) (q : Int) (r : Rn) : Prop := 0 ≤ q ∧ ∃ a, hr h (w + 7) q = some a ∧ r = rnB h a (hi h (w + 9) q)
theorem Rc_iff {h : Hp} {w : Nat} {r : Rn} : Rc h w r ↔ ∃ q, q < hi h (w + 6) 3 ∧ RcI h w q r := by
  constructor
  · rintro ⟨k, a, h0, h1, h2, h3⟩
    exact ⟨k, h1, h0, a, h2, h3⟩
  · rintro ⟨k, h1, h0, a, h2, h3⟩
    exact ⟨k, a, h0, h1, h2, h3⟩
/-- what is known of a collected run -/
theorem RunsOk.at {h : Hp} {w X : Nat} (qr : RunsOk h w) (q : TT h w X) {k : Int} (h0 : 0 ≤ k) (h1 : k < hi h (w + 6) 3) : ∃ a, hr h (w + 7) k = some a ∧ w + 154 ≤ a ∧ a + 5 ≤ X ∧ TripOk h (hi h (w + 1) 4) a ∧ 0 ≤ hi h (w + 9) k ∧ hi h (w + 9) k ≤ 600000 := by
  obtain ⟨t, a, g1, g2, g3, g4, ⟨g5, g6, -⟩, g7⟩ := qr.2 k h0 h1
  obtain ⟨a', c, z1, z2, z3, z4, -⟩ := q.2.2.2.2.2.1 t g1 g2
  cases g3.symm.trans z1
  have := z4.2.2.2.2.2.2.1 _ g5.1 g5.2
  refine ⟨a, g4, z2, z3, z4, ?_, ?_⟩ <;> (rw [g7]; unfold baseOf; omega)
set_option maxRecDepth 100000 in
set_option maxHeartbeats 4000000 in
theorem l_ride {w X K : Nat} {h0 : Hp} (hS0 : Sk h0 w) (hT0 : TT h0 w X) (hR0 : RunsOk h0 w) (hK : K < 7) (hlim : 0 ≤ hi h0 (w + 12) 3 ∧ hi h0 (w + 12) 3 ≤ 1000000) {Q : Option AV → Hp → Prop} : ∀ (m : Nat) (q b : Int) (h : Hp), q + m = hi h0 (w + 6) 3 → 0 ≤ q → ch (· = w + 29) nP h0 h → RidI (hi h0 (w + 1) 4) (RcI h0 w) (hi h0 (w + 12) 3) (hi h0 (w + 22 + K)) (hi h0 (w + 29)) (hi h (w + 29)) q b → (∀ h' b', ch (· = w + 29) nP h0 h' → RidI (hi h0 (w + 1) 4) (RcI h0 w) (hi h0 (w + 12) 3) (hi h0 (w + 22 + K)) (hi h0 (w + 29)) (hi h' (w + 29)) (hi h0 (w + 6) 3) b' → Q (some (vI b')) h') → wp 84 5 [some (vR (some (w + 12))), some (vR (some (w + 6))), some (vR (some (w + 22 + K))), some (vI b), some (vI q)] [] h Q noX := by
  intro m
  have hX := hT0.2.2.2.2.2.2
  have hn := hT0.1
  have hrc := hR0.1
  induction m with
  | zero =>
    intro q b h e0 e1 E I kq
    have hS := hS0.ch E hT0
    have hS9 := hS
    have E8 := E.2.2.2.2.2.2.2.1
    have p6 : ¬ w + 6 = w + 29 := by omega
    have p9 : ¬ w + 9 = w + 29 := by omega
    have gb : b = 0 ∨ b = 1 := by rcases I.2.2 with z | z <;> omega
    obtain ⟨⟨k1, k2, k3, k4, k5, k6, k7⟩, ⟨n1, ⟨n2, n3, n4, n5⟩, ⟨n6, n7⟩, ⟨n8, n9⟩, ⟨n10, n11⟩, n12, n13⟩, ⟨m1, ⟨m2, m3, m4⟩, ⟨m5, m6⟩, ⟨m7, m8⟩, m9, m10⟩, ⟨o1, ⟨o2, o3, o4⟩, ⟨o5, o6, o7⟩, ⟨o8, o9, o10⟩, o11, o12⟩, ⟨b1, ⟨b2, b3⟩, ⟨b4, b5, b6⟩, b7, b8, b9⟩, ⟨j1, ⟨j2, j3, j4, j5, j6, j7, j8⟩, ⟨j9, j10⟩, j11⟩⟩ := hS
    obtain ⟨r4, r5, r6⟩ := o10 K hK
    refine wp_iload d_84_5 (by rfl) ?_
    refine wp_aload_n d_84_7 (by rfl) ?_
    refine wp_getI (3) d_84_8 fl_9_65 rfl rfl (by assumption) (fun x_8 e_8 r_8 => ?_)
    (try rw [E8 _ _ p6] at e_8)
    (try rw [E8 _ _ p9] at e_8)
    refine wp_icmp_ge (tgt := 52) d_84_11 (by decide) (by omega) (by omega) (fun c_11 => ?_) (fun c_11 => ?_)
    rotate_left
    · exact absurd c_11 (by omega)
    refine wp_iload_n d_84_52 (by rfl) ?_
    refine wp_zret d_84_53 rfl (by omega) ?_
    obtain rfl : q = hi h0 (w + 6) 3 := by omega
    exact kq h b E I
  | succ m ih =>
    intro q b h e0 e1 E I kq
    have hS := hS0.ch E hT0
    have hS9 := hS
    have E8 := E.2.2.2.2.2.2.2.1
    have p6 : ¬ w + 6 = w + 29 := by omega
    have p9 : ¬ w + 9 = w + 29 := by omega
    have gb : b = 0 ∨ b = 1 := by rcases I.2.2 with z | z <;> omega
    obtain ⟨⟨k1, k2, k3, k4, k5, k6, k7⟩, ⟨n1, ⟨n2, n3, n4, n5⟩, ⟨n6, n7⟩, ⟨n8, n9⟩, ⟨n10, n11⟩, n12, n13⟩, ⟨m1, ⟨m2, m3, m4⟩, ⟨m5, m6⟩, ⟨m7, m8⟩, m9, m10⟩, ⟨o1, ⟨o2, o3, o4⟩, ⟨o5, o6, o7⟩, ⟨o8, o9, o10⟩, o11, o12⟩, ⟨b1, ⟨b2, b3⟩, ⟨b4, b5, b6⟩, b7, b8, b9⟩, ⟨j1, ⟨j2, j3, j4, j5, j6, j7, j8⟩, ⟨j9, j10⟩, j11⟩⟩ := hS
    obtain ⟨r4, r5, r6⟩ := o10 K hK
    obtain ⟨a, g1, g2, g3, g4, g5, g6⟩ := hR0.at hT0 e1 (by omega)
    have f1 : hr h (w + 7) q = some a := (E.2.2.2.2.2.2.2.2 _ _ id).trans g1
    have ka : kd h a = 12 := (congrFun E.1 a).trans g4.1
    have hT := g4.kept E.fm (fun z z1 z2 z3 => by omega) id (by omega)
    have ea : hi h a = hi h0 a := funext fun z => E8 a z (by omega)
    have ea1 : hi h (a + 1) = hi h0 (a + 1) := funext fun z => E8 (a + 1) z (by omega)
    have ea2 : hi h (a + 2) = hi h0 (a + 2) := funext fun z => E8 (a + 2) z (by omega)
    have ea3 : hi h (a + 3) = hi h0 (a + 3) := funext fun z => E8 (a + 3) z (by omega)
    have el : hi h (w + 12) 3 = hi h0 (w + 12) 3 := E8 (w + 12) 3 (by omega)
    have ey : hi h (w + 22 + K) = hi h0 (w + 22 + K) := funext fun z => E8 (w + 22 + K) z (by omega)
    have enx : nx h = nx h0 := E.2.2.2.1
    refine wp_iload d_84_5 (by rfl) ?_
    refine wp_aload_n d_84_7 (by rfl) ?_
    refine wp_getI (3) d_84_8 fl_9_65 rfl rfl (by assumption) (fun x_8 e_8 r_8 => ?_)
    (try rw [E8 _ _ p6] at e_8)
    (try rw [E8 _ _ p9] at e_8)
    refine wp_icmp_ge (tgt := 52) d_84_11 (by decide) (by omega) (by omega) (fun c_11 => ?_) (fun c_11 => ?_)
    · refine wp_iload_n d_84_52 (by rfl) ?_
      refine wp_zret d_84_53 rfl (by omega) ?_
      exact absurd c_11 (by omega)
    · refine wp_aload_n d_84_14 (by rfl) ?_
      refine wp_aload_n d_84_15 (by rfl) ?_
      refine wp_getR (0) d_84_16 fl_9_68 rfl rfl (by assumption) (by assumption) ?_
      refine wp_iload d_84_19 (by rfl) ?_
      refine wp_aald d_84_21 (by first | omega | (simp only [kd_setI, kd_cpI]; omega)) (by first | omega | (simp only [kd_setI, kd_cpI]; omega)) (by apply isRf_of; assumption; rfl) (by omega) (by omega) (by assumption) ?_
      refine wp_aload_n d_84_22 (by rfl) ?_
      refine wp_getR (2) d_84_23 fl_9_72 rfl rfl (by assumption) (by assumption) ?_
      refine wp_iload d_84_26 (by rfl) ?_
      refine wp_iald d_84_28 (Or.inl (by assumption)) (by omega) (by omega) (fun x_28 e_28 r_28 => ?_)
      (try rw [E8 _ _ p6] at e_28)
      (try rw [E8 _ _ p9] at e_28)
      refine wp_aload_n d_84_29 (by rfl) ?_
      refine wp_callV d_84_30 c_84_75 rfl (by rfl) (by rfl) ⟨9, rfl, rfl, by decide⟩ (by assumption) (by exact Nat.le_of_ble_eq_true rfl) (by exact Nat.le_of_ble_eq_true rfl) (s_rideRun hS9 hT g2 hn.2 r5 r6 (by omega) (by omega) (by omega) (by rw [e_28]; exact ⟨g5, g6⟩) (by rw [el]; exact hlim)) (fun v_30 h_30 q_30 => ?_) (fun _ _ q => q.elim)
      obtain ⟨b1, rfl, E1, I1⟩ := q_30
      rw [ea, ea1, ea2, ea3, el, ey, e_28] at I1
      have gb1 : b1 = 0 ∨ b1 = 1 := by rcases I1.2.2 with z | z <;> omega
      refine wp_if_ne (tgt := 40) d_84_33 (by decide) (by omega) (fun c_33 => ?_) (fun c_33 => ?_)
      · refine wp_iconst d_84_40 ?_
        refine wp_goto (tgt := 45) d_84_41 (by decide) ?_
        refine wp_istore_n d_84_45 (by decide) ?_
        refine wp_iinc d_84_46 (by rfl) (by decide) ?_
        refine wp_goto (tgt := 5) d_84_49 (by decide) ?_
        first
          | (refine wp_to [some (vR (some (w + 12))), some (vR (some (w + 6))), some (vR (some (w + 22 + K))), some (vI 1), some (vI (q + 1))] ⟨rfl, rfl, rfl, rfl, rfl, trivial⟩ ?_
             exact ih (q + 1) 1 _ (by omega) (by omega) (E.trans E1) (I.step (r0 := rnB h0 a (hi h0 (w + 9) q)) (fun r z => by obtain ⟨-, a', z1, z2⟩ := z; cases z1.symm.trans g1; exact z2) ⟨e1, a, g1, rfl⟩ (fun z z0 z1 => (g4.2.2.2.2.1 z z0 z1).1) (fun q' r z z1 z2 z3 z4 => by obtain ⟨z5, a', z6, z7⟩ := z2; subst z7; obtain ⟨a9, y1, y2, y3, y4, -⟩ := hR0.at hT0 z5 (by omega); cases z6.symm.trans y1; exact (y4.2.2.2.2.1 z z3 z4).1) I1 (Or.inr rfl)) kq)
          | (refine wp_to [some (vR (some (w + 12))), some (vR (some (w + 6))), some (vR (some (w + 22 + K))), some (vI 0), some (vI (q + 1))] ⟨rfl, rfl, rfl, rfl, rfl, trivial⟩ ?_
             exact ih (q + 1) 0 _ (by omega) (by omega) (E.trans E1) (I.step (r0 := rnB h0 a (hi h0 (w + 9) q)) (fun r z => by obtain ⟨-, a', z1, z2⟩ := z; cases z1.symm.trans g1; exact z2) ⟨e1, a, g1, rfl⟩ (fun z z0 z1 => (g4.2.2.2.2.1 z z0 z1).1) (fun q' r z z1 z2 z3 z4 => by obtain ⟨z5, a', z6, z7⟩ := z2; subst z7; obtain ⟨a9, y1, y2, y3, y4, -⟩ := hR0.at hT0 z5 (by omega); cases z6.symm.trans y1; exact (y4.2.2.2.2.1 z z3 z4).1) I1 (Or.inl ⟨rfl, by omega, by omega⟩)) kq)
      · refine wp_iload_n d_84_36 (by rfl) ?_
        refine wp_if_eq (tgt := 44) d_84_37 (by decide) (by omega) (fun c_37 => ?_) (fun c_37 => ?_)
        · refine wp_iconst d_84_44 ?_
          refine wp_istore_n d_84_45 (by decide) ?_
          refine wp_iinc d_84_46 (by rfl) (by decide) ?_
          refine wp_goto (tgt := 5) d_84_49 (by decide) ?_
          first
            | (refine wp_to [some (vR (some (w + 12))), some (vR (some (w + 6))), some (vR (some (w + 22 + K))), some (vI 1), some (vI (q + 1))] ⟨rfl, rfl, rfl, rfl, rfl, trivial⟩ ?_
               exact ih (q + 1) 1 _ (by omega) (by omega) (E.trans E1) (I.step (r0 := rnB h0 a (hi h0 (w + 9) q)) (fun r z => by obtain ⟨-, a', z1, z2⟩ := z; cases z1.symm.trans g1; exact z2) ⟨e1, a, g1, rfl⟩ (fun z z0 z1 => (g4.2.2.2.2.1 z z0 z1).1) (fun q' r z z1 z2 z3 z4 => by obtain ⟨z5, a', z6, z7⟩ := z2; subst z7; obtain ⟨a9, y1, y2, y3, y4, -⟩ := hR0.at hT0 z5 (by omega); cases z6.symm.trans y1; exact (y4.2.2.2.2.1 z z3 z4).1) I1 (Or.inr rfl)) kq)
            | (refine wp_to [some (vR (some (w + 12))), some (vR (some (w + 6))), some (vR (some (w + 22 + K))), some (vI 0), some (vI (q + 1))] ⟨rfl, rfl, rfl, rfl, rfl, trivial⟩ ?_
               exact ih (q + 1) 0 _ (by omega) (by omega) (E.trans E1) (I.step (r0 := rnB h0 a (hi h0 (w + 9) q)) (fun r z => by obtain ⟨-, a', z1, z2⟩ := z; cases z1.symm.trans g1; exact z2) ⟨e1, a, g1, rfl⟩ (fun z z0 z1 => (g4.2.2.2.2.1 z z0 z1).1) (fun q' r z z1 z2 z3 z4 => by obtain ⟨z5, a', z6, z7⟩ := z2; subst z7; obtain ⟨a9, y1, y2, y3, y4, -⟩ := hR0.at hT0 z5 (by omega); cases z6.symm.trans y1; exact (y4.2.2.2.2.1 z z3 z4).1) I1 (Or.inl ⟨rfl, by omega, by omega⟩)) kq)
        · refine wp_iconst d_84_40 ?_
          refine wp_goto (tgt := 45) d_84_41 (by decide) ?_
          refine wp_istore_n d_84_45 (by decide) ?_
          refine wp_iinc d_84_46 (by rfl) (by decide) ?_
          refine wp_goto (tgt := 5) d_84_49 (by decide) ?_
          first
            | (refine wp_to [some (vR (some (w + 12))), some (vR (some (w + 6))), some (vR (some (w + 22 + K))), some (vI 1), some (vI (q + 1))] ⟨rfl, rfl, rfl, rfl, rfl, trivial⟩ ?_
               exact ih (q + 1) 1 _ (by omega) (by omega) (E.trans E1) (I.step (r0 := rnB h0 a (hi h0 (w + 9) q)) (fun r z => by obtain ⟨-, a', z1, z2⟩ := z; cases z1.symm.trans g1; exact z2) ⟨e1, a, g1, rfl⟩ (fun z z0 z1 => (g4.2.2.2.2.1 z z0 z1).1) (fun q' r z z1 z2 z3 z4 => by obtain ⟨z5, a', z6, z7⟩ := z2; subst z7; obtain ⟨a9, y1, y2, y3, y4, -⟩ := hR0.at hT0 z5 (by omega); cases z6.symm.trans y1; exact (y4.2.2.2.2.1 z z3 z4).1) I1 (Or.inr rfl)) kq)
            | (refine wp_to [some (vR (some (w + 12))), some (vR (some (w + 6))), some (vR (some (w + 22 + K))), some (vI 0), some (vI (q + 1))] ⟨rfl, rfl, rfl, rfl, rfl, trivial⟩ ?_
               exact ih (q + 1) 0 _ (by omega) (by omega) (E.trans E1) (I.step (r0 := rnB h0 a (hi h0 (w + 9) q)) (fun r z => by obtain ⟨-, a', z1, z2⟩ := z; cases z1.symm.trans g1; exact z2) ⟨e1, a, g1, rfl⟩ (fun z z0 z1 => (g4.2.2.2.2.1 z z0 z1).1) (fun q' r z z1 z2 z3 z4 => by obtain ⟨z5, a', z6, z7⟩ := z2; subst z7; obtain ⟨a9, y1, y2, y3, y4, -⟩ := hR0.at hT0 z5 (by omega); cases z6.symm.trans y1; exact (y4.2.2.2.2.1 z z3 z4).1) I1 (Or.inl ⟨rfl, by omega, by omega⟩)) kq)
set_option maxRecDepth 100000 in
set_option maxHeartbeats 4000000 in
theorem s_ride {w X K : Nat} {h0 : Hp} (hS0 : Sk h0 w) (hT0 : TT h0 w X) (hR0 : RunsOk h0 w) (hK : K < 7) (hlim : 0 ≤ hi h0 (w + 12) 3 ∧ hi h0 (w + 12) 3 ≤ 1000000) : wp 84 0 (entL [vR (some (w + 12)), vR (some (w + 6)), vR (some (w + 22 + K))] (mL 84)) [] h0 (fun v h' => ∃ b, v = some (vI b) ∧ ch (· = w + 29) nP h0 h' ∧ RideR (hi h0 (w + 1) 4) (Rc h0 w) (hi h0 (w + 12) 3) (hi h0 (w + 22 + K)) (hi h0 (w + 29)) (hi h' (w + 29)) ∧ ((b = 0 ∧ ∀ s, 0 ≤ s → s < hi h0 (w + 1) 4 → hi h' (w + 29) s = hi h0 (w + 29) s) ∨ b = 1)) noX := by
  refine wp_iconst d_84_0 ?_
  refine wp_istore_n d_84_1 (by decide) ?_
  refine wp_iconst d_84_2 ?_
  refine wp_istore d_84_3 (by decide) ?_
  refine wp_to [some (vR (some (w + 12))), some (vR (some (w + 6))), some (vR (some (w + 22 + K))), some (vI 0), some (vI 0)] ⟨rfl, rfl, rfl, rfl, rfl, trivial⟩ ?_
  have hrc := hR0.1
  refine l_ride hS0 hT0 hR0 hK hlim (hi h0 (w + 6) 3).toNat 0 0 h0 (by omega) (by omega) ch.rfl (RidI.start fun q r z => z.1) (fun h' b' E I => ?_)
  obtain ⟨d1, d2⟩ := I.done (R := Rc h0 w) (fun r => Rc_iff)
  exact ⟨b', rfl, E, d1, d2⟩
set_option maxRecDepth 100000 in
set_option maxHeartbeats 4000000 in
theorem l_alight {w X K : Nat} {h0 : Hp} (hS0 : Sk h0 w) (hT0 : TT h0 w X) (hK : K < 7) (hf : Bd (hi h0 (w + 1) 4) (hi h0 (w + 29))) {Q : Option AV → Hp → Prop} : ∀ (m : Nat) (j : Int) (h : Hp), j + m = hi h0 (w + 1) 4 → 0 ≤ j → ch (PW w K) nP h0 h → (∀ s, 0 ≤ s → s < 16 → hi h (w + 14 + K) s = (if s < j then min (hi h0 (w + 14 + K) s) (hi h0 (w + 29) s) else hi h0 (w + 14 + K) s) ∧ hi h (w + 22 + K) s = (if s < j then min (hi h0 (w + 22 + K) s) (hi h0 (w + 29) s + hi h0 (w + 2) s) else hi h0 (w + 22 + K) s)) → (∀ h', ch (PW w K) nP h0 h' → (∀ s, 0 ≤ s → s < 16 → hi h' (w + 14 + K) s = (if s < hi h0 (w + 1) 4 then min (hi h0 (w + 14 + K) s) (hi h0 (w + 29) s) else hi h0 (w + 14 + K) s) ∧ hi h' (w + 22 + K) s = (if s < hi h0 (w + 1) 4 then min (hi h0 (w + 22 + K) s) (hi h0 (w + 29) s + hi h0 (w + 2) s) else hi h0 (w + 22 + K) s)) → Q none h') → wp 86 2 [some (vR (some (w + 12))), some (vR (some (w + 1))), some (vI (K : Int)), some (vI j)] [] h Q noX := by
  intro m
  have hn := hT0.1
  have hc := hT0.2.2.2.1
  induction m with
  | zero =>
    intro j h e0 e1 E I kq
    have hS := hS0.ch E hT0
    have E8 := E.2.2.2.2.2.2.2.1
    have p1 : ¬ PW w K (w + 1) := fun z => by unfold PW at z; omega
    have p2 : ¬ PW w K (w + 2) := fun z => by unfold PW at z; omega
    have pf : ¬ PW w K (w + 29) := fun z => by unfold PW at z; omega
    obtain ⟨⟨k1, k2, k3, k4, k5, k6, k7⟩, ⟨n1, ⟨n2, n3, n4, n5⟩, ⟨n6, n7⟩, ⟨n8, n9⟩, ⟨n10, n11⟩, n12, n13⟩, ⟨m1, ⟨m2, m3, m4⟩, ⟨m5, m6⟩, ⟨m7, m8⟩, m9, m10⟩, ⟨o1, ⟨o2, o3, o4⟩, ⟨o5, o6, o7⟩, ⟨o8, o9, o10⟩, o11, o12⟩, ⟨b1, ⟨b2, b3⟩, ⟨b4, b5, b6⟩, b7, b8, b9⟩, ⟨j1, ⟨j2, j3, j4, j5, j6, j7, j8⟩, ⟨j9, j10⟩, j11⟩⟩ := hS
    obtain ⟨r1, r2, r3⟩ := o7 K hK
    obtain ⟨r4, r5, r6⟩ := o10 K hK
    refine wp_iload_n d_86_2 (by rfl) ?_
    refine wp_aload_n d_86_3 (by rfl) ?_
    refine wp_getI (4) d_86_4 fl_9_91 rfl rfl (by assumption) (fun x_4 e_4 r_4 => ?_)
    (try rw [E8 _ _ p1] at e_4)
    (try rw [E8 _ _ p2] at e_4)
    (try rw [E8 _ _ pf] at e_4)
    (try rw [hi_setI_ne (by omega), E8 _ _ p1] at e_4)
    (try rw [hi_setI_ne (by omega), E8 _ _ p2] at e_4)
    (try rw [hi_setI_ne (by omega), E8 _ _ pf] at e_4)
    refine wp_icmp_ge (tgt := 73) d_86_7 (by decide) (by omega) (by omega) (fun c_7 => ?_) (fun c_7 => ?_)
    rotate_left
    · exact absurd c_7 (by omega)
    refine wp_vret d_86_73 rfl ?_
    obtain rfl : j = hi h0 (w + 1) 4 := by omega
    exact kq h E I
  | succ m ih =>
    intro j h e0 e1 E I kq
    have hS := hS0.ch E hT0
    have E8 := E.2.2.2.2.2.2.2.1
    have p1 : ¬ PW w K (w + 1) := fun z => by unfold PW at z; omega
    have p2 : ¬ PW w K (w + 2) := fun z => by unfold PW at z; omega
    have pf : ¬ PW w K (w + 29) := fun z => by unfold PW at z; omega
    obtain ⟨⟨k1, k2, k3, k4, k5, k6, k7⟩, ⟨n1, ⟨n2, n3, n4, n5⟩, ⟨n6, n7⟩, ⟨n8, n9⟩, ⟨n10, n11⟩, n12, n13⟩, ⟨m1, ⟨m2, m3, m4⟩, ⟨m5, m6⟩, ⟨m7, m8⟩, m9, m10⟩, ⟨o1, ⟨o2, o3, o4⟩, ⟨o5, o6, o7⟩, ⟨o8, o9, o10⟩, o11, o12⟩, ⟨b1, ⟨b2, b3⟩, ⟨b4, b5, b6⟩, b7, b8, b9⟩, ⟨j1, ⟨j2, j3, j4, j5, j6, j7, j8⟩, ⟨j9, j10⟩, j11⟩⟩ := hS
    obtain ⟨r1, r2, r3⟩ := o7 K hK
    obtain ⟨r4, r5, r6⟩ := o10 K hK
    have I0 := I j e1 (by omega)
    rw [if_neg (by omega), if_neg (by omega)] at I0
    have fj := hf j e1 (by omega)
    have cj := hc j
    refine wp_iload_n d_86_2 (by rfl) ?_
    refine wp_aload_n d_86_3 (by rfl) ?_
    refine wp_getI (4) d_86_4 fl_9_91 rfl rfl (by first | assumption | (simp only [kd_setI]; assumption)) (fun x_4 e_4 r_4 => ?_)
    (try rw [E8 _ _ p1] at e_4)
    (try rw [E8 _ _ p2] at e_4)
    (try rw [E8 _ _ pf] at e_4)
    (try rw [hi_setI_ne (by omega), E8 _ _ p1] at e_4)
    (try rw [hi_setI_ne (by omega), E8 _ _ p2] at e_4)
    (try rw [hi_setI_ne (by omega), E8 _ _ pf] at e_4)
    refine wp_icmp_ge (tgt := 73) d_86_7 (by decide) (by first | omega | (simp only [ln_setI]; omega)) (by first | omega | (simp only [ln_setI]; omega)) (fun c_7 => ?_) (fun c_7 => ?_)
    · exact absurd c_7 (by omega)
    refine wp_aload_n d_86_10 (by rfl) ?_
    refine wp_getR (0) d_86_11 fl_9_11 rfl rfl (by first | assumption | (simp only [kd_setI]; assumption)) (by first | assumption | (simp only [hr_setI]; assumption)) ?_
    refine wp_iload_n d_86_14 (by rfl) ?_
    refine wp_aald d_86_15 (by first | omega | (simp only [kd_setI, kd_cpI]; omega)) (by first | omega | (simp only [kd_setI, kd_cpI]; omega)) (by apply isRf_of; assumption; rfl) (by first | omega | (simp only [ln_setI]; omega)) (by first | omega | (simp only [ln_setI]; omega)) (by first | assumption | (simp only [hr_setI]; assumption)) ?_
    refine wp_iload_n d_86_16 (by rfl) ?_
    refine wp_aload_n d_86_17 (by rfl) ?_
    refine wp_getR (0) d_86_18 fl_9_11 rfl rfl (by first | assumption | (simp only [kd_setI]; assumption)) (by first | assumption | (simp only [hr_setI]; assumption)) ?_
    refine wp_iload_n d_86_21 (by rfl) ?_
    refine wp_aald d_86_22 (by first | omega | (simp only [kd_setI, kd_cpI]; omega)) (by first | omega | (simp only [kd_setI, kd_cpI]; omega)) (by apply isRf_of; assumption; rfl) (by first | omega | (simp only [ln_setI]; omega)) (by first | omega | (simp only [ln_setI]; omega)) (by first | assumption | (simp only [hr_setI]; assumption)) ?_
    refine wp_iload_n d_86_23 (by rfl) ?_
    refine wp_iald d_86_24 (Or.inl (by first | assumption | (simp only [kd_setI]; assumption))) (by first | omega | (simp only [ln_setI]; omega)) (by first | omega | (simp only [ln_setI]; omega)) (fun x_24 e_24 r_24 => ?_)
    (try rw [E8 _ _ p1] at e_24)
    (try rw [E8 _ _ p2] at e_24)
    (try rw [E8 _ _ pf] at e_24)
    (try rw [hi_setI_ne (by omega), E8 _ _ p1] at e_24)
    (try rw [hi_setI_ne (by omega), E8 _ _ p2] at e_24)
    (try rw [hi_setI_ne (by omega), E8 _ _ pf] at e_24)
    refine wp_aload_n d_86_25 (by rfl) ?_
    refine wp_getR (2) d_86_26 fl_9_19 rfl rfl (by first | assumption | (simp only [kd_setI]; assumption)) (by first | assumption | (simp only [hr_setI]; assumption)) ?_
    refine wp_iload_n d_86_29 (by rfl) ?_
    refine wp_iald d_86_30 (Or.inl (by first | assumption | (simp only [kd_setI]; assumption))) (by first | omega | (simp only [ln_setI]; omega)) (by first | omega | (simp only [ln_setI]; omega)) (fun x_30 e_30 r_30 => ?_)
    (try rw [E8 _ _ p1] at e_30)
    (try rw [E8 _ _ p2] at e_30)
    (try rw [E8 _ _ pf] at e_30)
    (try rw [hi_setI_ne (by omega), E8 _ _ p1] at e_30)
    (try rw [hi_setI_ne (by omega), E8 _ _ p2] at e_30)
    (try rw [hi_setI_ne (by omega), E8 _ _ pf] at e_30)
    refine wp_callS d_86_31 c_86_96 rfl (by rfl) (by rfl) (by exact Nat.le_of_ble_eq_true rfl) (by exact Nat.le_of_ble_eq_true rfl) (s_min (by omega) (by omega)) (fun v_31 h_31 q_31 => ?_) (fun _ _ q => q.elim)
    obtain ⟨rfl, z_31⟩ := q_31
    replace z_31 := z_31.symm
    subst z_31
    refine wp_iast d_86_34 (by first | assumption | (simp only [kd_setI]; assumption)) (by first | omega | (simp only [ln_setI]; omega)) (by first | omega | (simp only [ln_setI]; omega)) (by first | omega | (simp only [ln_setI]; omega)) ?_
    refine wp_aload_n d_86_35 (by rfl) ?_
    refine wp_getR (1) d_86_36 fl_9_16 rfl rfl (by first | assumption | (simp only [kd_setI]; assumption)) (by first | assumption | (simp only [hr_setI]; assumption)) ?_
    refine wp_iload_n d_86_39 (by rfl) ?_
    refine wp_aald d_86_40 (by first | omega | (simp only [kd_setI, kd_cpI]; omega)) (by first | omega | (simp only [kd_setI, kd_cpI]; omega)) (by apply isRf_of; assumption; rfl) (by first | omega | (simp only [ln_setI]; omega)) (by first | omega | (simp only [ln_setI]; omega)) (by first | assumption | (simp only [hr_setI]; assumption)) ?_
    refine wp_iload_n d_86_41 (by rfl) ?_
    refine wp_aload_n d_86_42 (by rfl) ?_
    refine wp_getR (1) d_86_43 fl_9_16 rfl rfl (by first | assumption | (simp only [kd_setI]; assumption)) (by first | assumption | (simp only [hr_setI]; assumption)) ?_
    refine wp_iload_n d_86_46 (by rfl) ?_
    refine wp_aald d_86_47 (by first | omega | (simp only [kd_setI, kd_cpI]; omega)) (by first | omega | (simp only [kd_setI, kd_cpI]; omega)) (by apply isRf_of; assumption; rfl) (by first | omega | (simp only [ln_setI]; omega)) (by first | omega | (simp only [ln_setI]; omega)) (by first | assumption | (simp only [hr_setI]; assumption)) ?_
    refine wp_iload_n d_86_48 (by rfl) ?_
    refine wp_iald d_86_49 (Or.inl (by first | assumption | (simp only [kd_setI]; assumption))) (by first | omega | (simp only [ln_setI]; omega)) (by first | omega | (simp only [ln_setI]; omega)) (fun x_49 e_49 r_49 => ?_)
    (try rw [E8 _ _ p1] at e_49)
    (try rw [E8 _ _ p2] at e_49)
    (try rw [E8 _ _ pf] at e_49)
    (try rw [hi_setI_ne (by omega), E8 _ _ p1] at e_49)
    (try rw [hi_setI_ne (by omega), E8 _ _ p2] at e_49)
    (try rw [hi_setI_ne (by omega), E8 _ _ pf] at e_49)
    (try rw [hi_setI_ne (by omega)] at e_49)
    refine wp_aload_n d_86_50 (by rfl) ?_
    refine wp_getR (2) d_86_51 fl_9_19 rfl rfl (by first | assumption | (simp only [kd_setI]; assumption)) (by first | assumption | (simp only [hr_setI]; assumption)) ?_
    refine wp_iload_n d_86_54 (by rfl) ?_
    refine wp_iald d_86_55 (Or.inl (by first | assumption | (simp only [kd_setI]; assumption))) (by first | omega | (simp only [ln_setI]; omega)) (by first | omega | (simp only [ln_setI]; omega)) (fun x_55 e_55 r_55 => ?_)
    (try rw [E8 _ _ p1] at e_55)
    (try rw [E8 _ _ p2] at e_55)
    (try rw [E8 _ _ pf] at e_55)
    (try rw [hi_setI_ne (by omega), E8 _ _ p1] at e_55)
    (try rw [hi_setI_ne (by omega), E8 _ _ p2] at e_55)
    (try rw [hi_setI_ne (by omega), E8 _ _ pf] at e_55)
    refine wp_aload_n d_86_56 (by rfl) ?_
    refine wp_getR (0) d_86_57 fl_9_102 rfl rfl (by first | assumption | (simp only [kd_setI]; assumption)) (by first | assumption | (simp only [hr_setI]; assumption)) ?_
    refine wp_iload_n d_86_60 (by rfl) ?_
    refine wp_iald d_86_61 (Or.inl (by first | assumption | (simp only [kd_setI]; assumption))) (by first | omega | (simp only [ln_setI]; omega)) (by first | omega | (simp only [ln_setI]; omega)) (fun x_61 e_61 r_61 => ?_)
    (try rw [E8 _ _ p1] at e_61)
    (try rw [E8 _ _ p2] at e_61)
    (try rw [E8 _ _ pf] at e_61)
    (try rw [hi_setI_ne (by omega), E8 _ _ p1] at e_61)
    (try rw [hi_setI_ne (by omega), E8 _ _ p2] at e_61)
    (try rw [hi_setI_ne (by omega), E8 _ _ pf] at e_61)
    refine wp_iadd d_86_62 ?_
    refine wp_callS d_86_63 c_86_96 rfl (by rfl) (by rfl) (by exact Nat.le_of_ble_eq_true rfl) (by exact Nat.le_of_ble_eq_true rfl) (s_min (by omega) (by omega)) (fun v_63 h_63 q_63 => ?_) (fun _ _ q => q.elim)
    obtain ⟨rfl, z_63⟩ := q_63
    replace z_63 := z_63.symm
    subst z_63
    refine wp_iast d_86_66 (by first | assumption | (simp only [kd_setI]; assumption)) (by first | omega | (simp only [ln_setI]; omega)) (by first | omega | (simp only [ln_setI]; omega)) (by first | omega | (simp only [ln_setI]; omega)) ?_
    refine wp_iinc d_86_67 (by rfl) (by decide) ?_
    refine wp_goto (tgt := 2) d_86_70 (by decide) ?_
    refine wp_to [some (vR (some (w + 12))), some (vR (some (w + 1))), some (vI (K : Int)), some (vI (j + 1))] ⟨rfl, rfl, rfl, rfl, trivial⟩ ?_
    refine ih (j + 1) _ (by omega) (by omega) (E.trans ((ch_setI (Or.inl rfl)).trans (ch_setI (Or.inr rfl)))) (fun s s0 s1 => ?_) kq
    have Is := I s s0 s1
    rw [hi_setI_ne (by omega), hi_upF, hi_upF, hi_setI_ne (by omega)]
    by_cases hsj : s = j
    · subst hsj
      rw [upF_same, upF_same, if_pos (by omega), if_pos (by omega)]
      exact ⟨by omega, by omega⟩
    · rw [upF_ne _ hsj, upF_ne _ hsj, Is.1, Is.2]
      by_cases hlt : s < j
      · rw [if_pos hlt, if_pos hlt, if_pos (by omega), if_pos (by omega)]
        exact ⟨rfl, rfl⟩
      · rw [if_neg hlt, if_neg hlt, if_neg (by omega), if_neg (by omega)]
        exact ⟨rfl, rfl⟩
set_option maxRecDepth 100000 in
set_option maxHeartbeats 4000000 in
theorem s_alight {w X K : Nat} {h0 : Hp} (hS0 : Sk h0 w) (hT0 : TT h0 w X) (hK : K < 7) (hf : Bd (hi h0 (w + 1) 4) (hi h0 (w + 29))) : wp 86 0 (entL [vR (some (w + 12)), vR (some (w + 1)), vI (K : Int)] (mL 86)) [] h0 (fun v h' => v = none ∧ ch (PW w K) nP h0 h' ∧ (∀ s, 0 ≤ s → s < 16 → hi h' (w + 14 + K) s = (if s < hi h0 (w + 1) 4 then min (hi h0 (w + 14 + K) s) (hi h0 (w + 29) s) else hi h0 (w + 14 + K) s) ∧ hi h' (w + 22 + K) s = (if s < hi h0 (w + 1) 4 then min (hi h0 (w + 22 + K) s) (hi h0 (w + 29) s + hi h0 (w + 2) s) else hi h0 (w + 22 + K) s))) noX := by
  refine wp_iconst d_86_0 ?_
  refine wp_istore_n d_86_1 (by decide) ?_
  refine wp_to [some (vR (some (w + 12))), some (vR (some (w + 1))), some (vI (K : Int)), some (vI 0)] ⟨rfl, rfl, rfl, rfl, trivial⟩ ?_
  have hn := hT0.1
  exact l_alight hS0 hT0 hK hf (hi h0 (w + 1) 4).toNat 0 h0 (by omega) (by omega) ch.rfl (fun s s0 s1 => ⟨(if_neg (by omega)).symm, (if_neg (by omega)).symm⟩) (fun h' E I => ⟨rfl, E, I⟩)
set_option maxRecDepth 100000 in
set_option maxHeartbeats 4000000 in
theorem s_begin {w : Nat} {o t : Int} {h : Hp} (hS0 : Sk h w) (hw : w + 154 ≤ nx h) (ho : 0 ≤ o ∧ o < 16) (ht : 0 ≤ t ∧ t ≤ 1000000) : wp 81 0 (entL [vR (some (w + 12)), vI o, vI t] (mL 81)) [] h (fun v h' => v = none ∧ ch (fun a => a = w + 14 ∨ a = w + 22 ∨ a = w + 29) nP h h' ∧ ∀ s, 0 ≤ s → s < 16 → hi h' (w + 29) s = (if s = o then t else 1000000000) ∧ hi h' (w + 14) s = (if s = o then t else 1000000000) ∧ hi h' (w + 22) s = (if s = o then t else 1000000000)) noX := by
  have hS := hS0
  obtain ⟨⟨k1, k2, k3, k4, k5, k6, k7⟩, ⟨n1, ⟨n2, n3, n4, n5⟩, ⟨n6, n7⟩, ⟨n8, n9⟩, ⟨n10, n11⟩, n12, n13⟩, ⟨m1, ⟨m2, m3, m4⟩, ⟨m5, m6⟩, ⟨m7, m8⟩, m9, m10⟩, ⟨o1, ⟨o2, o3, o4⟩, ⟨o5, o6, o7⟩, ⟨o8, o9, o10⟩, o11, o12⟩, ⟨b1, ⟨b2, b3⟩, ⟨b4, b5, b6⟩, b7, b8, b9⟩, ⟨j1, ⟨j2, j3, j4, j5, j6, j7, j8⟩, ⟨j9, j10⟩, j11⟩⟩ := hS
  obtain ⟨r1, r2, r3⟩ := o7 0 (by decide)
  obtain ⟨r4, r5, r6⟩ := o10 0 (by decide)
  rw [Nat.add_zero] at r1 r2 r3 r4 r5 r6
  have r1' : hr h (w + 13) 0 = some (w + 14) := r1
  have r4' : hr h (w + 21) 0 = some (w + 22) := r4
  refine wp_aload_n d_81_0 (by rfl) ?_
  refine wp_getR (0) d_81_1 fl_9_11 rfl rfl (by first | assumption | (simp only [kd_setI]; assumption) | (rw [E3.1, E2.1, E1.1]; assumption) | (rw [E2.1, E1.1]; assumption) | (rw [E1.1]; assumption) | (simp only [kd_setI]; rw [E3.1, E2.1, E1.1]; assumption)) (by first | assumption | (simp only [hr_setI]; assumption) | exact ((E3.2.2.2.2.2.2.2.2 _ _ id).trans ((E2.2.2.2.2.2.2.2.2 _ _ id).trans ((E1.2.2.2.2.2.2.2.2 _ _ id).trans (by assumption)))) | exact ((E2.2.2.2.2.2.2.2.2 _ _ id).trans ((E1.2.2.2.2.2.2.2.2 _ _ id).trans (by assumption))) | exact ((E1.2.2.2.2.2.2.2.2 _ _ id).trans (by assumption))) ?_
  refine wp_iconst d_81_4 ?_
  refine wp_aald d_81_5 (by first | omega | (simp only [kd_setI, kd_cpI]; omega)) (by first | omega | (simp only [kd_setI, kd_cpI]; omega)) (by apply isRf_of; assumption; rfl) (by first | omega | (simp only [ln_setI]; rw [E3.2.1, E2.2.1, E1.2.1]; omega) | (rw [E3.2.1, E2.2.1, E1.2.1]; omega) | (rw [E2.2.1, E1.2.1]; omega) | (rw [E1.2.1]; omega) | decide) (by first | omega | (simp only [ln_setI]; rw [E3.2.1, E2.2.1, E1.2.1]; omega) | (rw [E3.2.1, E2.2.1, E1.2.1]; omega) | (rw [E2.2.1, E1.2.1]; omega) | (rw [E1.2.1]; omega) | decide) (by first | assumption | (simp only [hr_setI]; assumption) | exact ((E3.2.2.2.2.2.2.2.2 _ _ id).trans ((E2.2.2.2.2.2.2.2.2 _ _ id).trans ((E1.2.2.2.2.2.2.2.2 _ _ id).trans (by assumption)))) | exact ((E2.2.2.2.2.2.2.2.2 _ _ id).trans ((E1.2.2.2.2.2.2.2.2 _ _ id).trans (by assumption))) | exact ((E1.2.2.2.2.2.2.2.2 _ _ id).trans (by assumption))) ?_
  refine wp_ldc (1000000000) d_81_6 ck_9_23 (by decide) ?_
  refine wp_callS d_81_8 c_81_59 rfl (by rfl) (by rfl) (by exact Nat.le_of_ble_eq_true rfl) (by exact Nat.le_of_ble_eq_true rfl) (s_fill (N := 16) (by decide) (by decide) (by assumption) (by assumption)) (fun v_8 h_8 q_8 => ?_) (fun _ _ q => q.elim)
  obtain ⟨rfl, E1, V1⟩ := q_8
  have G1 : Sk h_8 w := hS0.kept E1.fm PRok_nP hw
  have hS := G1
  obtain ⟨⟨k1, k2, k3, k4, k5, k6, k7⟩, ⟨n1, ⟨n2, n3, n4, n5⟩, ⟨n6, n7⟩, ⟨n8, n9⟩, ⟨n10, n11⟩, n12, n13⟩, ⟨m1, ⟨m2, m3, m4⟩, ⟨m5, m6⟩, ⟨m7, m8⟩, m9, m10⟩, ⟨o1, ⟨o2, o3, o4⟩, ⟨o5, o6, o7⟩, ⟨o8, o9, o10⟩, o11, o12⟩, ⟨b1, ⟨b2, b3⟩, ⟨b4, b5, b6⟩, b7, b8, b9⟩, ⟨j1, ⟨j2, j3, j4, j5, j6, j7, j8⟩, ⟨j9, j10⟩, j11⟩⟩ := hS
  obtain ⟨r1, r2, r3⟩ := o7 0 (by decide)
  obtain ⟨r4, r5, r6⟩ := o10 0 (by decide)
  rw [Nat.add_zero] at r1 r2 r3 r4 r5 r6
  have r1' : hr h_8 (w + 13) 0 = some (w + 14) := r1
  have r4' : hr h_8 (w + 21) 0 = some (w + 22) := r4
  refine wp_aload_n d_81_11 (by rfl) ?_
  refine wp_getR (1) d_81_12 fl_9_16 rfl rfl (by first | assumption | (simp only [kd_setI]; assumption) | (rw [E3.1, E2.1, E1.1]; assumption) | (rw [E2.1, E1.1]; assumption) | (rw [E1.1]; assumption) | (simp only [kd_setI]; rw [E3.1, E2.1, E1.1]; assumption)) (by first | assumption | (simp only [hr_setI]; assumption) | exact ((E3.2.2.2.2.2.2.2.2 _ _ id).trans ((E2.2.2.2.2.2.2.2.2 _ _ id).trans ((E1.2.2.2.2.2.2.2.2 _ _ id).trans (by assumption)))) | exact ((E2.2.2.2.2.2.2.2.2 _ _ id).trans ((E1.2.2.2.2.2.2.2.2 _ _ id).trans (by assumption))) | exact ((E1.2.2.2.2.2.2.2.2 _ _ id).trans (by assumption))) ?_
  refine wp_iconst d_81_15 ?_
  refine wp_aald d_81_16 (by first | omega | (simp only [kd_setI, kd_cpI]; omega)) (by first | omega | (simp only [kd_setI, kd_cpI]; omega)) (by apply isRf_of; assumption; rfl) (by first | omega | (simp only [ln_setI]; rw [E3.2.1, E2.2.1, E1.2.1]; omega) | (rw [E3.2.1, E2.2.1, E1.2.1]; omega) | (rw [E2.2.1, E1.2.1]; omega) | (rw [E1.2.1]; omega) | decide) (by first | omega | (simp only [ln_setI]; rw [E3.2.1, E2.2.1, E1.2.1]; omega) | (rw [E3.2.1, E2.2.1, E1.2.1]; omega) | (rw [E2.2.1, E1.2.1]; omega) | (rw [E1.2.1]; omega) | decide) (by first | assumption | (simp only [hr_setI]; assumption) | exact ((E3.2.2.2.2.2.2.2.2 _ _ id).trans ((E2.2.2.2.2.2.2.2.2 _ _ id).trans ((E1.2.2.2.2.2.2.2.2 _ _ id).trans (by assumption)))) | exact ((E2.2.2.2.2.2.2.2.2 _ _ id).trans ((E1.2.2.2.2.2.2.2.2 _ _ id).trans (by assumption))) | exact ((E1.2.2.2.2.2.2.2.2 _ _ id).trans (by assumption))) ?_
  refine wp_ldc (1000000000) d_81_17 ck_9_23 (by decide) ?_
  refine wp_callS d_81_19 c_81_59 rfl (by rfl) (by rfl) (by exact Nat.le_of_ble_eq_true rfl) (by exact Nat.le_of_ble_eq_true rfl) (s_fill (N := 16) (by decide) (by decide) (by assumption) (by assumption)) (fun v_19 h_19 q_19 => ?_) (fun _ _ q => q.elim)
  obtain ⟨rfl, E2, V2⟩ := q_19
  have G2 : Sk h_19 w := G1.kept E2.fm PRok_nP (by have := E1.2.2.2.1; omega)
  have hS := G2
  obtain ⟨⟨k1, k2, k3, k4, k5, k6, k7⟩, ⟨n1, ⟨n2, n3, n4, n5⟩, ⟨n6, n7⟩, ⟨n8, n9⟩, ⟨n10, n11⟩, n12, n13⟩, ⟨m1, ⟨m2, m3, m4⟩, ⟨m5, m6⟩, ⟨m7, m8⟩, m9, m10⟩, ⟨o1, ⟨o2, o3, o4⟩, ⟨o5, o6, o7⟩, ⟨o8, o9, o10⟩, o11, o12⟩, ⟨b1, ⟨b2, b3⟩, ⟨b4, b5, b6⟩, b7, b8, b9⟩, ⟨j1, ⟨j2, j3, j4, j5, j6, j7, j8⟩, ⟨j9, j10⟩, j11⟩⟩ := hS
  obtain ⟨r1, r2, r3⟩ := o7 0 (by decide)
  obtain ⟨r4, r5, r6⟩ := o10 0 (by decide)
  rw [Nat.add_zero] at r1 r2 r3 r4 r5 r6
  have r1' : hr h_19 (w + 13) 0 = some (w + 14) := r1
  have r4' : hr h_19 (w + 21) 0 = some (w + 22) := r4
  refine wp_aload_n d_81_22 (by rfl) ?_
  refine wp_getR (2) d_81_23 fl_9_19 rfl rfl (by first | assumption | (simp only [kd_setI]; assumption) | (rw [E3.1, E2.1, E1.1]; assumption) | (rw [E2.1, E1.1]; assumption) | (rw [E1.1]; assumption) | (simp only [kd_setI]; rw [E3.1, E2.1, E1.1]; assumption)) (by first | assumption | (simp only [hr_setI]; assumption) | exact ((E3.2.2.2.2.2.2.2.2 _ _ id).trans ((E2.2.2.2.2.2.2.2.2 _ _ id).trans ((E1.2.2.2.2.2.2.2.2 _ _ id).trans (by assumption)))) | exact ((E2.2.2.2.2.2.2.2.2 _ _ id).trans ((E1.2.2.2.2.2.2.2.2 _ _ id).trans (by assumption))) | exact ((E1.2.2.2.2.2.2.2.2 _ _ id).trans (by assumption))) ?_
  refine wp_ldc (1000000000) d_81_26 ck_9_23 (by decide) ?_
  refine wp_callS d_81_28 c_81_59 rfl (by rfl) (by rfl) (by exact Nat.le_of_ble_eq_true rfl) (by exact Nat.le_of_ble_eq_true rfl) (s_fill (N := 16) (by decide) (by decide) (by assumption) (by assumption)) (fun v_28 h_28 q_28 => ?_) (fun _ _ q => q.elim)
  obtain ⟨rfl, E3, V3⟩ := q_28
  have G3 : Sk h_28 w := G2.kept E3.fm PRok_nP (by have := E1.2.2.2.1; have := E2.2.2.2.1; omega)
  have hS := G3
  obtain ⟨⟨k1, k2, k3, k4, k5, k6, k7⟩, ⟨n1, ⟨n2, n3, n4, n5⟩, ⟨n6, n7⟩, ⟨n8, n9⟩, ⟨n10, n11⟩, n12, n13⟩, ⟨m1, ⟨m2, m3, m4⟩, ⟨m5, m6⟩, ⟨m7, m8⟩, m9, m10⟩, ⟨o1, ⟨o2, o3, o4⟩, ⟨o5, o6, o7⟩, ⟨o8, o9, o10⟩, o11, o12⟩, ⟨b1, ⟨b2, b3⟩, ⟨b4, b5, b6⟩, b7, b8, b9⟩, ⟨j1, ⟨j2, j3, j4, j5, j6, j7, j8⟩, ⟨j9, j10⟩, j11⟩⟩ := hS
  obtain ⟨r1, r2, r3⟩ := o7 0 (by decide)
  obtain ⟨r4, r5, r6⟩ := o10 0 (by decide)
  rw [Nat.add_zero] at r1 r2 r3 r4 r5 r6
  have r1' : hr h_28 (w + 13) 0 = some (w + 14) := r1
  have r4' : hr h_28 (w + 21) 0 = some (w + 22) := r4
  refine wp_aload_n d_81_31 (by rfl) ?_
  refine wp_getR (0) d_81_32 fl_9_11 rfl rfl (by first | assumption | (simp only [kd_setI]; assumption) | (rw [E3.1, E2.1, E1.1]; assumption) | (rw [E2.1, E1.1]; assumption) | (rw [E1.1]; assumption) | (simp only [kd_setI]; rw [E3.1, E2.1, E1.1]; assumption)) (by first | assumption | (simp only [hr_setI]; assumption) | exact ((E3.2.2.2.2.2.2.2.2 _ _ id).trans ((E2.2.2.2.2.2.2.2.2 _ _ id).trans ((E1.2.2.2.2.2.2.2.2 _ _ id).trans (by assumption)))) | exact ((E2.2.2.2.2.2.2.2.2 _ _ id).trans ((E1.2.2.2.2.2.2.2.2 _ _ id).trans (by assumption))) | exact ((E1.2.2.2.2.2.2.2.2 _ _ id).trans (by assumption))) ?_
  refine wp_iconst d_81_35 ?_
  refine wp_aald d_81_36 (by first | omega | (simp only [kd_setI, kd_cpI]; omega)) (by first | omega | (simp only [kd_setI, kd_cpI]; omega)) (by apply isRf_of; assumption; rfl) (by first | omega | (simp only [ln_setI]; rw [E3.2.1, E2.2.1, E1.2.1]; omega) | (rw [E3.2.1, E2.2.1, E1.2.1]; omega) | (rw [E2.2.1, E1.2.1]; omega) | (rw [E1.2.1]; omega) | decide) (by first | omega | (simp only [ln_setI]; rw [E3.2.1, E2.2.1, E1.2.1]; omega) | (rw [E3.2.1, E2.2.1, E1.2.1]; omega) | (rw [E2.2.1, E1.2.1]; omega) | (rw [E1.2.1]; omega) | decide) (by first | assumption | (simp only [hr_setI]; assumption) | exact ((E3.2.2.2.2.2.2.2.2 _ _ id).trans ((E2.2.2.2.2.2.2.2.2 _ _ id).trans ((E1.2.2.2.2.2.2.2.2 _ _ id).trans (by assumption)))) | exact ((E2.2.2.2.2.2.2.2.2 _ _ id).trans ((E1.2.2.2.2.2.2.2.2 _ _ id).trans (by assumption))) | exact ((E1.2.2.2.2.2.2.2.2 _ _ id).trans (by assumption))) ?_
  refine wp_iload_n d_81_37 (by rfl) ?_
  refine wp_iload_n d_81_38 (by rfl) ?_
  refine wp_iast d_81_39 (by first | assumption | (simp only [kd_setI]; assumption) | (rw [E3.1, E2.1, E1.1]; assumption) | (rw [E2.1, E1.1]; assumption) | (rw [E1.1]; assumption) | (simp only [kd_setI]; rw [E3.1, E2.1, E1.1]; assumption)) (by first | omega | (simp only [ln_setI]; rw [E3.2.1, E2.2.1, E1.2.1]; omega) | (rw [E3.2.1, E2.2.1, E1.2.1]; omega) | (rw [E2.2.1, E1.2.1]; omega) | (rw [E1.2.1]; omega) | decide) (by first | omega | (simp only [ln_setI]; rw [E3.2.1, E2.2.1, E1.2.1]; omega) | (rw [E3.2.1, E2.2.1, E1.2.1]; omega) | (rw [E2.2.1, E1.2.1]; omega) | (rw [E1.2.1]; omega) | decide) (by first | omega | (simp only [ln_setI]; rw [E3.2.1, E2.2.1, E1.2.1]; omega) | (rw [E3.2.1, E2.2.1, E1.2.1]; omega) | (rw [E2.2.1, E1.2.1]; omega) | (rw [E1.2.1]; omega) | decide) ?_
  refine wp_aload_n d_81_40 (by rfl) ?_
  refine wp_getR (1) d_81_41 fl_9_16 rfl rfl (by first | assumption | (simp only [kd_setI]; assumption) | (rw [E3.1, E2.1, E1.1]; assumption) | (rw [E2.1, E1.1]; assumption) | (rw [E1.1]; assumption) | (simp only [kd_setI]; rw [E3.1, E2.1, E1.1]; assumption)) (by first | assumption | (simp only [hr_setI]; assumption) | exact ((E3.2.2.2.2.2.2.2.2 _ _ id).trans ((E2.2.2.2.2.2.2.2.2 _ _ id).trans ((E1.2.2.2.2.2.2.2.2 _ _ id).trans (by assumption)))) | exact ((E2.2.2.2.2.2.2.2.2 _ _ id).trans ((E1.2.2.2.2.2.2.2.2 _ _ id).trans (by assumption))) | exact ((E1.2.2.2.2.2.2.2.2 _ _ id).trans (by assumption))) ?_
  refine wp_iconst d_81_44 ?_
  refine wp_aald d_81_45 (by first | omega | (simp only [kd_setI, kd_cpI]; omega)) (by first | omega | (simp only [kd_setI, kd_cpI]; omega)) (by apply isRf_of; assumption; rfl) (by first | omega | (simp only [ln_setI]; rw [E3.2.1, E2.2.1, E1.2.1]; omega) | (rw [E3.2.1, E2.2.1, E1.2.1]; omega) | (rw [E2.2.1, E1.2.1]; omega) | (rw [E1.2.1]; omega) | decide) (by first | omega | (simp only [ln_setI]; rw [E3.2.1, E2.2.1, E1.2.1]; omega) | (rw [E3.2.1, E2.2.1, E1.2.1]; omega) | (rw [E2.2.1, E1.2.1]; omega) | (rw [E1.2.1]; omega) | decide) (by first | assumption | (simp only [hr_setI]; assumption) | exact ((E3.2.2.2.2.2.2.2.2 _ _ id).trans ((E2.2.2.2.2.2.2.2.2 _ _ id).trans ((E1.2.2.2.2.2.2.2.2 _ _ id).trans (by assumption)))) | exact ((E2.2.2.2.2.2.2.2.2 _ _ id).trans ((E1.2.2.2.2.2.2.2.2 _ _ id).trans (by assumption))) | exact ((E1.2.2.2.2.2.2.2.2 _ _ id).trans (by assumption))) ?_
  refine wp_iload_n d_81_46 (by rfl) ?_
  refine wp_iload_n d_81_47 (by rfl) ?_
  refine wp_iast d_81_48 (by first | assumption | (simp only [kd_setI]; assumption) | (rw [E3.1, E2.1, E1.1]; assumption) | (rw [E2.1, E1.1]; assumption) | (rw [E1.1]; assumption) | (simp only [kd_setI]; rw [E3.1, E2.1, E1.1]; assumption)) (by first | omega | (simp only [ln_setI]; rw [E3.2.1, E2.2.1, E1.2.1]; omega) | (rw [E3.2.1, E2.2.1, E1.2.1]; omega) | (rw [E2.2.1, E1.2.1]; omega) | (rw [E1.2.1]; omega) | decide) (by first | omega | (simp only [ln_setI]; rw [E3.2.1, E2.2.1, E1.2.1]; omega) | (rw [E3.2.1, E2.2.1, E1.2.1]; omega) | (rw [E2.2.1, E1.2.1]; omega) | (rw [E1.2.1]; omega) | decide) (by first | omega | (simp only [ln_setI]; rw [E3.2.1, E2.2.1, E1.2.1]; omega) | (rw [E3.2.1, E2.2.1, E1.2.1]; omega) | (rw [E2.2.1, E1.2.1]; omega) | (rw [E1.2.1]; omega) | decide) ?_
  refine wp_aload_n d_81_49 (by rfl) ?_
  refine wp_getR (2) d_81_50 fl_9_19 rfl rfl (by first | assumption | (simp only [kd_setI]; assumption) | (rw [E3.1, E2.1, E1.1]; assumption) | (rw [E2.1, E1.1]; assumption) | (rw [E1.1]; assumption) | (simp only [kd_setI]; rw [E3.1, E2.1, E1.1]; assumption)) (by first | assumption | (simp only [hr_setI]; assumption) | exact ((E3.2.2.2.2.2.2.2.2 _ _ id).trans ((E2.2.2.2.2.2.2.2.2 _ _ id).trans ((E1.2.2.2.2.2.2.2.2 _ _ id).trans (by assumption)))) | exact ((E2.2.2.2.2.2.2.2.2 _ _ id).trans ((E1.2.2.2.2.2.2.2.2 _ _ id).trans (by assumption))) | exact ((E1.2.2.2.2.2.2.2.2 _ _ id).trans (by assumption))) ?_
  refine wp_iload_n d_81_53 (by rfl) ?_
  refine wp_iload_n d_81_54 (by rfl) ?_
  refine wp_iast d_81_55 (by first | assumption | (simp only [kd_setI]; assumption) | (rw [E3.1, E2.1, E1.1]; assumption) | (rw [E2.1, E1.1]; assumption) | (rw [E1.1]; assumption) | (simp only [kd_setI]; rw [E3.1, E2.1, E1.1]; assumption)) (by first | omega | (simp only [ln_setI]; rw [E3.2.1, E2.2.1, E1.2.1]; omega) | (rw [E3.2.1, E2.2.1, E1.2.1]; omega) | (rw [E2.2.1, E1.2.1]; omega) | (rw [E1.2.1]; omega) | decide) (by first | omega | (simp only [ln_setI]; rw [E3.2.1, E2.2.1, E1.2.1]; omega) | (rw [E3.2.1, E2.2.1, E1.2.1]; omega) | (rw [E2.2.1, E1.2.1]; omega) | (rw [E1.2.1]; omega) | decide) (by first | omega | (simp only [ln_setI]; rw [E3.2.1, E2.2.1, E1.2.1]; omega) | (rw [E3.2.1, E2.2.1, E1.2.1]; omega) | (rw [E2.2.1, E1.2.1]; omega) | (rw [E1.2.1]; omega) | decide) ?_
  refine wp_vret d_81_56 rfl ?_
  refine ⟨rfl, ?_, fun s s0 s1 => ?_⟩
  · exact (E1.mono (fun x z => Or.inl z) (fun x z => z)).trans ((E2.mono (fun x z => Or.inr (Or.inl z)) (fun x z => z)).trans ((E3.mono (fun x z => Or.inr (Or.inr z)) (fun x z => z)).trans ((ch_setI (Or.inl rfl)).trans ((ch_setI (Or.inr (Or.inl rfl))).trans (ch_setI (Or.inr (Or.inr rfl)))))))
  · have a1 := V1 s s0 s1
    have a2 := V2 s s0 s1
    have a3 := V3 s s0 s1
    have b1 := E2.2.2.2.2.2.2.2.1 (w + 14) s (by omega)
    have b2 := E3.2.2.2.2.2.2.2.1 (w + 14) s (by omega)
    have b3 := E3.2.2.2.2.2.2.2.1 (w + 22) s (by omega)
    rw [hi_upF, hi_setI_ne (by omega), hi_setI_ne (by omega), hi_setI_ne (by omega), hi_setI_ne (by omega), hi_upF, hi_setI_ne (by omega), hi_upF, hi_setI_ne (by omega)]
    unfold upF
    by_cases hs : s = o
    · rw [if_pos hs, if_pos hs, if_pos hs, if_pos hs]
      exact ⟨rfl, rfl, rfl⟩
    · rw [if_neg hs, if_neg hs, if_neg hs, if_neg hs]
      exact ⟨by omega, by omega, by omega⟩
end
section
set_option maxRecDepth 100000 in
theorem cd_95 : cdP 95 := ⟨okr (k := 203) rfl (by decide +kernel), by decide +kernel, by decide +kernel, okk_w (k := 50) (by decide +kernel)⟩
set_option maxRecDepth 100000 in
theorem cd_96 : cdP 96 := ⟨okr (k := 208) rfl (by decide +kernel), by decide +kernel, by decide +kernel, okk_w (k := 50) (by decide +kernel)⟩
set_option maxRecDepth 100000 in
theorem fl_10_24 : flP "WhistleStop$Runs" 24 10 3 := ⟨_, rfl, by decide, okk_w (k := 607) (by decide +kernel)⟩
set_option maxRecDepth 100000 in
theorem c_92_55 : cvP 92 55 95 1 := ⟨cd_95, okk_w (k := 200) (by decide +kernel), okk_w (k := 201) (by decide +kernel), okk_w (k := 202) (by decide +kernel), by decide +kernel, by decide +kernel⟩
set_option maxRecDepth 100000 in
theorem fl_10_59 : flP "WhistleStop$Runs" 59 11 5 := ⟨_, rfl, by decide, okk_w (k := 971) (by decide +kernel)⟩
set_option maxRecDepth 100000 in
theorem c_92_62 : cvP 92 62 96 0 := ⟨cd_96, okk_w (k := 205) (by decide +kernel), okk_w (k := 206) (by decide +kernel), okk_w (k := 207) (by decide +kernel), by decide +kernel, by decide +kernel⟩
set_option maxRecDepth 100000 in
theorem d_92_0 : decode (mB 92) 0 = .ok (.aload_n 1, 1) := by decide +kernel
set_option maxRecDepth 100000 in
theorem d_92_1 : decode (mB 92) 1 = .ok (.iload_n 2, 1) := by decide +kernel
set_option maxRecDepth 100000 in
theorem d_92_2 : decode (mB 92) 2 = .ok (.invokevirtual 55, 3) := by decide +kernel
set_option maxRecDepth 100000 in
theorem d_92_5 : decode (mB 92) 5 = .ok (.istore 5, 2) := by decide +kernel
set_option maxRecDepth 100000 in
theorem d_92_7 : decode (mB 92) 7 = .ok (.iload 5, 2) := by decide +kernel
set_option maxRecDepth 100000 in
theorem d_92_9 : decode (mB 92) 9 = .ok (.aload_n 1, 1) := by decide +kernel
set_option maxRecDepth 100000 in
theorem d_92_10 : decode (mB 92) 10 = .ok (.getfield 59, 3) := by decide +kernel
set_option maxRecDepth 100000 in
theorem d_92_13 : decode (mB 92) 13 = .ok (.iconst 0, 1) := by decide +kernel
set_option maxRecDepth 100000 in
theorem d_92_14 : decode (mB 92) 14 = .ok (.iaload, 1) := by decide +kernel
set_option maxRecDepth 100000 in
theorem d_92_15 : decode (mB 92) 15 = .ok (.iadd, 1) := by decide +kernel
set_option maxRecDepth 100000 in
theorem d_92_16 : decode (mB 92) 16 = .ok (.iload 4, 2) := by decide +kernel
set_option maxRecDepth 100000 in
theorem d_92_18 : decode (mB 92) 18 = .ok (.if_icmp .gt 18, 3) := by decide +kernel
set_option maxRecDepth 100000 in
theorem d_92_21 : decode (mB 92) 21 = .ok (.iload 5, 2) := by decide +kernel
set_option maxRecDepth 100000 in
theorem d_92_23 : decode (mB 92) 23 = .ok (.aload_n 1, 1) := by decide +kernel
set_option maxRecDepth 100000 in
theorem d_92_24 : decode (mB 92) 24 = .ok (.invokevirtual 62, 3) := by decide +kernel
set_option maxRecDepth 100000 in
theorem d_92_27 : decode (mB 92) 27 = .ok (.iadd, 1) := by decide +kernel
set_option maxRecDepth 100000 in
theorem d_92_28 : decode (mB 92) 28 = .ok (.iload_n 3, 1) := by decide +kernel
set_option maxRecDepth 100000 in
theorem d_92_29 : decode (mB 92) 29 = .ok (.if_icmp .lt 7, 3) := by decide +kernel
set_option maxRecDepth 100000 in
theorem d_92_32 : decode (mB 92) 32 = .ok (.iconst 1, 1) := by decide +kernel
set_option maxRecDepth 100000 in
theorem d_92_33 : decode (mB 92) 33 = .ok (.goto 4, 3) := by decide +kernel
set_option maxRecDepth 100000 in
theorem d_92_36 : decode (mB 92) 36 = .ok (.iconst 0, 1) := by decide +kernel
set_option maxRecDepth 100000 in
theorem d_92_37 : decode (mB 92) 37 = .ok (.istore 6, 2) := by decide +kernel
set_option maxRecDepth 100000 in
theorem d_92_39 : decode (mB 92) 39 = .ok (.iload 6, 2) := by decide +kernel
set_option maxRecDepth 100000 in
theorem d_92_41 : decode (mB 92) 41 = .ok (.ifCond .eq 54, 3) := by decide +kernel
set_option maxRecDepth 100000 in
theorem d_92_44 : decode (mB 92) 44 = .ok (.aload_n 0, 1) := by decide +kernel
set_option maxRecDepth 100000 in
theorem d_92_45 : decode (mB 92) 45 = .ok (.getfield 24, 3) := by decide +kernel
set_option maxRecDepth 100000 in
theorem d_92_48 : decode (mB 92) 48 = .ok (.sipush 192, 3) := by decide +kernel
set_option maxRecDepth 100000 in
theorem d_92_51 : decode (mB 92) 51 = .ok (.if_icmp .ge 44, 3) := by decide +kernel
set_option maxRecDepth 100000 in
theorem d_92_54 : decode (mB 92) 54 = .ok (.aload_n 0, 1) := by decide +kernel
set_option maxRecDepth 100000 in
theorem d_92_55 : decode (mB 92) 55 = .ok (.getfield 11, 3) := by decide +kernel
set_option maxRecDepth 100000 in
theorem d_92_58 : decode (mB 92) 58 = .ok (.aload_n 0, 1) := by decide +kernel
set_option maxRecDepth 100000 in
theorem d_92_59 : decode (mB 92) 59 = .ok (.getfield 24, 3) := by decide +kernel
set_option maxRecDepth 100000 in
theorem d_92_62 : decode (mB 92) 62 = .ok (.aload_n 1, 1) := by decide +kernel
set_option maxRecDepth 100000 in
theorem d_92_63 : decode (mB 92) 63 = .ok (.aastore, 1) := by decide +kernel
set_option maxRecDepth 100000 in
theorem d_92_64 : decode (mB 92) 64 = .ok (.aload_n 0, 1) := by decide +kernel
set_option maxRecDepth 100000 in
theorem d_92_65 : decode (mB 92) 65 = .ok (.getfield 17, 3) := by decide +kernel
set_option maxRecDepth 100000 in
theorem d_92_68 : decode (mB 92) 68 = .ok (.aload_n 0, 1) := by decide +kernel
set_option maxRecDepth 100000 in
theorem d_92_69 : decode (mB 92) 69 = .ok (.getfield 24, 3) := by decide +kernel
set_option maxRecDepth 100000 in
theorem d_92_72 : decode (mB 92) 72 = .ok (.iload_n 2, 1) := by decide +kernel
set_option maxRecDepth 100000 in
theorem d_92_73 : decode (mB 92) 73 = .ok (.iastore, 1) := by decide +kernel
set_option maxRecDepth 100000 in
theorem d_92_74 : decode (mB 92) 74 = .ok (.aload_n 0, 1) := by decide +kernel
set_option maxRecDepth 100000 in
theorem d_92_75 : decode (mB 92) 75 = .ok (.getfield 21, 3) := by decide +kernel
set_option maxRecDepth 100000 in
theorem d_92_78 : decode (mB 92) 78 = .ok (.aload_n 0, 1) := by decide +kernel
set_option maxRecDepth 100000 in
theorem d_92_79 : decode (mB 92) 79 = .ok (.getfield 24, 3) := by decide +kernel
set_option maxRecDepth 100000 in
theorem d_92_82 : decode (mB 92) 82 = .ok (.iload 5, 2) := by decide +kernel
set_option maxRecDepth 100000 in
theorem d_92_84 : decode (mB 92) 84 = .ok (.iastore, 1) := by decide +kernel
set_option maxRecDepth 100000 in
theorem d_92_85 : decode (mB 92) 85 = .ok (.aload_n 0, 1) := by decide +kernel
set_option maxRecDepth 100000 in
theorem d_92_86 : decode (mB 92) 86 = .ok (.dup, 1) := by decide +kernel
set_option maxRecDepth 100000 in
theorem d_92_87 : decode (mB 92) 87 = .ok (.getfield 24, 3) := by decide +kernel
set_option maxRecDepth 100000 in
theorem d_92_90 : decode (mB 92) 90 = .ok (.iconst 1, 1) := by decide +kernel
set_option maxRecDepth 100000 in
theorem d_92_91 : decode (mB 92) 91 = .ok (.iadd, 1) := by decide +kernel
set_option maxRecDepth 100000 in
theorem d_92_92 : decode (mB 92) 92 = .ok (.putfield 24, 3) := by decide +kernel
set_option maxRecDepth 100000 in
theorem d_92_95 : decode (mB 92) 95 = .ok (.return_, 1) := by decide +kernel
end
section
/-! ===== the runs between two times ===== -/
def PC (w : Nat) : Nat → Prop := fun a => a = w + 6 ∨ a = w + 8 ∨ a = w + 9
def PQ (w : Nat) : Nat → Prop := fun a => a = w + 7
/-- a run of the trip at a (number t) on the day d that is under way between S and U -/
def Cd (h : Hp) (w : Nat) (S U t d : Int) (a : Nat) : Prop := hr h (w + 5) t = some a ∧ hasRn h a d ∧ 1 < hi h a 7 ∧ baseOf h a d + hi h (a + 3) 0 ≤ U ∧ S ≤ baseOf h a d + hi h (a + 3) (hi h a 7 - 1)
def CoI (h0 h : Hp) (w : Nat) (S U A B N D : Int) : Prop := (0 ≤ hi h (w + 6) 3 ∧ hi h (w + 6) 3 ≤ 8 * N + (D - A)) ∧
  (∀ k, 0 ≤ k → k < hi h (w + 6) 3 → ∃ t a, 0 ≤ t ∧ t < hi h0 (w + 1) 7 ∧ Cd h0 w S U t (hi h (w + 8) k) a ∧ hr h (w + 7) k = some a ∧ hi h (w + 9) k = baseOf h0 a (hi h (w + 8) k)) ∧
  (∀ t d a, 0 ≤ t → t < hi h0 (w + 1) 7 → (t < N ∨ (t = N ∧ d < D)) → A ≤ d → d ≤ B → Cd h0 w S U t d a → ∃ k, 0 ≤ k ∧ k < hi h (w + 6) 3 ∧ hr h (w + 7) k = some a ∧ hi h (w + 9) k = baseOf h0 a d)
theorem CoI.next {h0 h : Hp} {w : Nat} {S U A B N D : Int} (q : CoI h0 h w S U A B N D) (hD : D ≤ B + 1 ∨ D = A) (hB : B < D) (hAB : B - A ≤ 7) : CoI h0 h w S U A B (N + 1) A := by
  obtain ⟨q1, q2, q3⟩ := q
  exact ⟨⟨q1.1, by omega⟩, q2, fun t d a h1 h2 h3 h4 h5 h6 => q3 t d a h1 h2 (by omega) h4 h5 h6⟩
theorem CoI.skip {h0 h : Hp} {w : Nat} {S U A B N D : Int} (q : CoI h0 h w S U A B N D) (hn : ∀ a, ¬ Cd h0 w S U N D a) : CoI h0 h w S U A B N (D + 1) := by
  obtain ⟨q1, q2, q3⟩ := q
  refine ⟨⟨q1.1, by omega⟩, q2, fun t d a h1 h2 h3 h4 h5 h6 => ?_⟩
  by_cases hc : t = N ∧ d = D
  · obtain ⟨rfl, rfl⟩ := hc
    exact absurd h6 (hn a)
  · exact q3 t d a h1 h2 (by omega) h4 h5 h6
theorem CoI.put {h0 h : Hp} {w : Nat} {S U A B N D : Int} {a : Nat} (q : CoI h0 h w S U A B N D) (hN : 0 ≤ N ∧ N < hi h0 (w + 1) 7) (hc : Cd h0 w S U N D a) : CoI h0 (setI (setI (setI (setR h (w + 7) (hi h (w + 6) 3) (some a)) (w + 8) (hi h (w + 6) 3) D) (w + 9) (hi h (w + 6) 3) (baseOf h0 a D)) (w + 6) 3 (hi h (w + 6) 3 + 1)) w S U A B N (D + 1) := by
  obtain ⟨q1, q2, q3⟩ := q
  generalize hz : hi h (w + 6) 3 = z at *
  have g6 : hi (setI (setI (setI (setR h (w + 7) z (some a)) (w + 8) z D) (w + 9) z (baseOf h0 a D)) (w + 6) 3 (z + 1)) (w + 6) 3 = z + 1 := by rw [hi_upF, upF_same]
  have g8 : hi (setI (setI (setI (setR h (w + 7) z (some a)) (w + 8) z D) (w + 9) z (baseOf h0 a D)) (w + 6) 3 (z + 1)) (w + 8) = upF (hi h (w + 8)) z D := by rw [hi_setI_ne (by omega), hi_setI_ne (by omega), hi_upF]; rfl
  have g9 : hi (setI (setI (setI (setR h (w + 7) z (some a)) (w + 8) z D) (w + 9) z (baseOf h0 a D)) (w + 6) 3 (z + 1)) (w + 9) = upF (hi h (w + 9)) z (baseOf h0 a D) := by rw [hi_setI_ne (by omega), hi_upF, hi_setI_ne (by omega)]; rfl
  have g7 : ∀ k, hr (setI (setI (setI (setR h (w + 7) z (some a)) (w + 8) z D) (w + 9) z (baseOf h0 a D)) (w + 6) 3 (z + 1)) (w + 7) k = if k = z then some a else hr h (w + 7) k := fun k => by
    show hr (setR h (w + 7) z (some a)) (w + 7) k = _
    rw [hr_setR]
    unfold up2
    by_cases hk : k = z
    · rw [if_pos ⟨rfl, hk⟩, if_pos hk]
    · rw [if_neg (fun y => hk y.2), if_neg hk]
  generalize setI (setI (setI (setR h (w + 7) z (some a)) (w + 8) z D) (w + 9) z (baseOf h0 a D)) (w + 6) 3 (z + 1) = g at *
  unfold CoI
  rw [g6]
  refine ⟨by omega, fun k k0 k1 => ?_, fun t d a' h1 h2 h3 h4 h5 h6 => ?_⟩
  · by_cases hk : k = z
    · subst hk
      refine ⟨N, a, hN.1, hN.2, ?_, by rw [g7, if_pos rfl], ?_⟩
      · rw [g8, upF_same]; exact hc
      · rw [g8, g9, upF_same, upF_same]
    · obtain ⟨t, a', y1, y2, y3, y4, y5⟩ := q2 k k0 (by omega)
      refine ⟨t, a', y1, y2, ?_, by rw [g7, if_neg hk]; exact y4, ?_⟩
      · rw [g8, upF_ne _ hk]; exact y3
      · rw [g8, g9, upF_ne _ hk, upF_ne _ hk]; exact y5
  · by_cases hc9 : t = N ∧ d = D
    · obtain ⟨rfl, rfl⟩ := hc9
      cases hc.1.symm.trans h6.1
      exact ⟨z, q1.1, by omega, by rw [g7, if_pos rfl], by rw [g9, upF_same]⟩
    · obtain ⟨k, y1, y2, y3, y4⟩ := q3 t d a' h1 h2 (by omega) h4 h5 h6
      exact ⟨k, y1, by omega, by rw [g7, if_neg (by omega)]; exact y3, by rw [g9, upF_ne _ (by omega)]; exact y4⟩
theorem hr_ne_setR {h : Hp} {a b : Nat} {k j : Int} {v : Option Nat} (q : b ≠ a) : hr (setR h a k v) b j = hr h b j := by rw [hr_setR, up2_ne _ _ (fun z => q z.1)]
set_option maxRecDepth 100000 in
set_option maxHeartbeats 4000000 in
theorem s_add {w a : Nat} {n d S U : Int} {h : Hp} (hS : Sk h w) (hT : TripOk h n a) (ha : w + 154 ≤ a) (hd : 0 ≤ d ∧ d ≤ 365) (hz : 0 ≤ hi h (w + 6) 3 ∧ hi h (w + 6) 3 < 192) (hSU : inR S ∧ inR U) : wp 92 0 (entL [vR (some (w + 6)), vR (some a), vI d, vI S, vI U] (mL 92)) [] h (fun v h' => v = none ∧ (((baseOf h a d + hi h (a + 3) 0 ≤ U ∧ S ≤ baseOf h a d + hi h (a + 3) (hi h a 7 - 1)) ∧ h' = setI (setI (setI (setR h (w + 7) (hi h (w + 6) 3) (some a)) (w + 8) (hi h (w + 6) 3) d) (w + 9) (hi h (w + 6) 3) (baseOf h a d)) (w + 6) 3 (hi h (w + 6) 3 + 1)) ∨ (¬ (baseOf h a d + hi h (a + 3) 0 ≤ U ∧ S ≤ baseOf h a d + hi h (a + 3) (hi h a 7 - 1)) ∧ h' = h))) noX := by
  have hT0 := hT
  obtain ⟨⟨k1, k2, k3, k4, k5, k6, k7⟩, ⟨n1, ⟨n2, n3, n4, n5⟩, ⟨n6, n7⟩, ⟨n8, n9⟩, ⟨n10, n11⟩, n12, n13⟩, ⟨m1, ⟨m2, m3, m4⟩, ⟨m5, m6⟩, ⟨m7, m8⟩, m9, m10⟩, ⟨o1, ⟨o2, o3, o4⟩, ⟨o5, o6, o7⟩, ⟨o8, o9, o10⟩, o11, o12⟩, ⟨b1, ⟨b2, b3⟩, ⟨b4, b5, b6⟩, b7, b8, b9⟩, ⟨j1, ⟨j2, j3, j4, j5, j6, j7, j8⟩, ⟨j9, j10⟩, j11⟩⟩ := hS
  obtain ⟨t1, ⟨u1, u2, u3, u4⟩, ⟨⟨v1, v2⟩, ⟨v3, v4⟩, ⟨v5, v6⟩, v7, v8⟩, t4, t5, t6, t7, t8⟩ := hT
  have tz := t5 0 (by decide) (by omega)
  have tl := t5 (hi h a 7 - 1) (by omega) (by omega)
  have td := t7 d hd.1 hd.2
  have bb : -1 ≤ baseOf h a d ∧ baseOf h a d ≤ 600000 := by unfold baseOf; omega
  refine wp_aload_n d_92_0 (by rfl) ?_
  refine wp_iload_n d_92_1 (by rfl) ?_
  refine wp_callV d_92_2 c_92_55 rfl (by rfl) (by rfl) ⟨11, rfl, rfl, by decide⟩ (by first | assumption | (simp only [kd_setI, kd_setR]; assumption)) (by exact Nat.le_of_ble_eq_true rfl) (by exact Nat.le_of_ble_eq_true rfl) (s_baseOf hT0 hd) (fun v_2 h_2 q_2 => ?_) (fun _ _ q => q.elim)
  obtain ⟨rfl, z_2⟩ := q_2
  replace z_2 := z_2.symm
  subst z_2
  refine wp_istore d_92_5 (by decide) ?_
  refine wp_iload d_92_7 (by rfl) ?_
  refine wp_aload_n d_92_9 (by rfl) ?_
  refine wp_getR (5) d_92_10 fl_10_59 rfl rfl (by first | assumption | (simp only [kd_setI, kd_setR]; assumption)) (by first | assumption | exact rb _ | exact rc _) ?_
  refine wp_iconst d_92_13 ?_
  refine wp_iald d_92_14 (Or.inl (by first | assumption | (simp only [kd_setI, kd_setR]; assumption))) (by first | omega | (simp only [ln_setI, ln_setR]; omega)) (by first | omega | (simp only [ln_setI, ln_setR]; omega)) (fun x_14 e_14 r_14 => ?_)
  refine wp_iadd d_92_15 ?_
  refine wp_iload d_92_16 (by rfl) ?_
  refine wp_icmp_gt (tgt := 36) d_92_18 (by decide) (by first | omega | (simp only [ln_setI, ln_setR]; omega)) (by first | omega | (simp only [ln_setI, ln_setR]; omega)) (fun c_18 => ?_) (fun c_18 => ?_)
  · refine wp_iconst d_92_36 ?_
    refine wp_istore d_92_37 (by decide) ?_
    refine wp_iload d_92_39 (by rfl) ?_
    refine wp_if_eq (tgt := 95) d_92_41 (by decide) (by first | omega | (simp only [ln_setI, ln_setR]; omega)) (fun c_41 => ?_) (fun c_41 => ?_)
    · refine wp_vret d_92_95 rfl ?_
      first
        | (refine ⟨rfl, Or.inr ⟨?_, rfl⟩⟩; intro z; omega)
        | (refine ⟨rfl, Or.inl ⟨⟨by omega, by omega⟩, ?_⟩⟩
           simp only [*])
    · refine wp_aload_n d_92_44 (by rfl) ?_
      refine wp_getI (3) d_92_45 fl_10_24 rfl rfl (by first | assumption | (simp only [kd_setI, kd_setR]; assumption)) (fun x_45 e_45 r_45 => ?_)
      (try rw [hi_setI_ne (by omega)] at e_45)
      (try rw [hi_setI_ne (by omega)] at e_45)
      (try rw [hi_setR] at e_45)
      refine wp_sipush d_92_48 (by decide) ?_
      refine wp_icmp_ge (tgt := 95) d_92_51 (by decide) (by first | omega | (simp only [ln_setI, ln_setR]; omega)) (by first | omega | (simp only [ln_setI, ln_setR]; omega)) (fun c_51 => ?_) (fun c_51 => ?_)
      · refine wp_vret d_92_95 rfl ?_
        first
          | (refine ⟨rfl, Or.inr ⟨?_, rfl⟩⟩; intro z; omega)
          | (refine ⟨rfl, Or.inl ⟨⟨by omega, by omega⟩, ?_⟩⟩
             simp only [*])
      · refine wp_aload_n d_92_54 (by rfl) ?_
        refine wp_getR (0) d_92_55 fl_10_11 rfl rfl (by first | assumption | (simp only [kd_setI, kd_setR]; assumption)) (by first | assumption | exact rb _ | exact rc _) ?_
        refine wp_aload_n d_92_58 (by rfl) ?_
        refine wp_getI (3) d_92_59 fl_10_24 rfl rfl (by first | assumption | (simp only [kd_setI, kd_setR]; assumption)) (fun x_59 e_59 r_59 => ?_)
        (try rw [hi_setI_ne (by omega)] at e_59)
        (try rw [hi_setI_ne (by omega)] at e_59)
        (try rw [hi_setR] at e_59)
        refine wp_aload_n d_92_62 (by rfl) ?_
        refine wp_aastO (cb := 11) d_92_63 (by omega) (by omega) t1 (by decide) (by rw [m5]; rfl) (by omega) (by omega) ?_
        have rb : ∀ z : Int, hr (setR h (w + 7) z (some a)) (w + 6) 1 = some (w + 8) := fun z => by rw [hr_ne_setR (by omega)]; exact m3
        have rc : ∀ z : Int, hr (setR h (w + 7) z (some a)) (w + 6) 2 = some (w + 9) := fun z => by rw [hr_ne_setR (by omega)]; exact m4
        refine wp_aload_n d_92_64 (by rfl) ?_
        refine wp_getR (1) d_92_65 fl_10_17 rfl rfl (by first | assumption | (simp only [kd_setI, kd_setR]; assumption)) (by first | assumption | exact rb _ | exact rc _) ?_
        refine wp_aload_n d_92_68 (by rfl) ?_
        refine wp_getI (3) d_92_69 fl_10_24 rfl rfl (by first | assumption | (simp only [kd_setI, kd_setR]; assumption)) (fun x_69 e_69 r_69 => ?_)
        (try rw [hi_setI_ne (by omega)] at e_69)
        (try rw [hi_setI_ne (by omega)] at e_69)
        (try rw [hi_setR] at e_69)
        refine wp_iload_n d_92_72 (by rfl) ?_
        refine wp_iast d_92_73 (by first | assumption | (simp only [kd_setI, kd_setR]; assumption)) (by first | omega | (simp only [ln_setI, ln_setR]; omega)) (by first | omega | (simp only [ln_setI, ln_setR]; omega)) (by first | omega | (simp only [ln_setI, ln_setR]; omega)) ?_
        refine wp_aload_n d_92_74 (by rfl) ?_
        refine wp_getR (2) d_92_75 fl_10_21 rfl rfl (by first | assumption | (simp only [kd_setI, kd_setR]; assumption)) (by first | assumption | exact rb _ | exact rc _) ?_
        refine wp_aload_n d_92_78 (by rfl) ?_
        refine wp_getI (3) d_92_79 fl_10_24 rfl rfl (by first | assumption | (simp only [kd_setI, kd_setR]; assumption)) (fun x_79 e_79 r_79 => ?_)
        (try rw [hi_setI_ne (by omega)] at e_79)
        (try rw [hi_setI_ne (by omega)] at e_79)
        (try rw [hi_setR] at e_79)
        refine wp_iload d_92_82 (by rfl) ?_
        refine wp_iast d_92_84 (by first | assumption | (simp only [kd_setI, kd_setR]; assumption)) (by first | omega | (simp only [ln_setI, ln_setR]; omega)) (by first | omega | (simp only [ln_setI, ln_setR]; omega)) (by first | omega | (simp only [ln_setI, ln_setR]; omega)) ?_
        refine wp_aload_n d_92_85 (by rfl) ?_
        refine wp_dup d_92_86 (by rfl) ?_
        refine wp_getI (3) d_92_87 fl_10_24 rfl rfl (by first | assumption | (simp only [kd_setI, kd_setR]; assumption)) (fun x_87 e_87 r_87 => ?_)
        (try rw [hi_setI_ne (by omega)] at e_87)
        (try rw [hi_setI_ne (by omega)] at e_87)
        (try rw [hi_setR] at e_87)
        refine wp_iconst d_92_90 ?_
        refine wp_iadd d_92_91 ?_
        refine wp_putI (3) d_92_92 fl_10_24 rfl rfl (Or.inl (by rfl)) (by first | assumption | (simp only [kd_setI, kd_setR]; assumption)) (by first | omega | (simp only [ln_setI, ln_setR]; omega)) (fun q => nomatch q) ?_
        refine wp_vret d_92_95 rfl ?_
        first
          | (refine ⟨rfl, Or.inr ⟨?_, rfl⟩⟩; intro z; omega)
          | (refine ⟨rfl, Or.inl ⟨⟨by omega, by omega⟩, ?_⟩⟩
             simp only [*])
  · refine wp_iload d_92_21 (by rfl) ?_
    refine wp_aload_n d_92_23 (by rfl) ?_
    refine wp_callV d_92_24 c_92_62 rfl (by rfl) (by rfl) ⟨11, rfl, rfl, by decide⟩ (by first | assumption | (simp only [kd_setI, kd_setR]; assumption)) (by exact Nat.le_of_ble_eq_true rfl) (by exact Nat.le_of_ble_eq_true rfl) (s_lastDeparts hT0) (fun v_24 h_24 q_24 => ?_) (fun _ _ q => q.elim)
    obtain ⟨rfl, z_24⟩ := q_24
    replace z_24 := z_24.symm
    subst z_24
    refine wp_iadd d_92_27 ?_
    refine wp_iload_n d_92_28 (by rfl) ?_
    refine wp_icmp_lt (tgt := 36) d_92_29 (by decide) (by first | omega | (simp only [ln_setI, ln_setR]; omega)) (by first | omega | (simp only [ln_setI, ln_setR]; omega)) (fun c_29 => ?_) (fun c_29 => ?_)
    · refine wp_iconst d_92_36 ?_
      refine wp_istore d_92_37 (by decide) ?_
      refine wp_iload d_92_39 (by rfl) ?_
      refine wp_if_eq (tgt := 95) d_92_41 (by decide) (by first | omega | (simp only [ln_setI, ln_setR]; omega)) (fun c_41 => ?_) (fun c_41 => ?_)
      · refine wp_vret d_92_95 rfl ?_
        first
          | (refine ⟨rfl, Or.inr ⟨?_, rfl⟩⟩; intro z; omega)
          | (refine ⟨rfl, Or.inl ⟨⟨by omega, by omega⟩, ?_⟩⟩
             simp only [*])
      · refine wp_aload_n d_92_44 (by rfl) ?_
        refine wp_getI (3) d_92_45 fl_10_24 rfl rfl (by first | assumption | (simp only [kd_setI, kd_setR]; assumption)) (fun x_45 e_45 r_45 => ?_)
        (try rw [hi_setI_ne (by omega)] at e_45)
        (try rw [hi_setI_ne (by omega)] at e_45)
        (try rw [hi_setR] at e_45)
        refine wp_sipush d_92_48 (by decide) ?_
        refine wp_icmp_ge (tgt := 95) d_92_51 (by decide) (by first | omega | (simp only [ln_setI, ln_setR]; omega)) (by first | omega | (simp only [ln_setI, ln_setR]; omega)) (fun c_51 => ?_) (fun c_51 => ?_)
        · refine wp_vret d_92_95 rfl ?_
          first
            | (refine ⟨rfl, Or.inr ⟨?_, rfl⟩⟩; intro z; omega)
            | (refine ⟨rfl, Or.inl ⟨⟨by omega, by omega⟩, ?_⟩⟩
               simp only [*])
        · refine wp_aload_n d_92_54 (by rfl) ?_
          refine wp_getR (0) d_92_55 fl_10_11 rfl rfl (by first | assumption | (simp only [kd_setI, kd_setR]; assumption)) (by first | assumption | exact rb _ | exact rc _) ?_
          refine wp_aload_n d_92_58 (by rfl) ?_
          refine wp_getI (3) d_92_59 fl_10_24 rfl rfl (by first | assumption | (simp only [kd_setI, kd_setR]; assumption)) (fun x_59 e_59 r_59 => ?_)
          (try rw [hi_setI_ne (by omega)] at e_59)
          (try rw [hi_setI_ne (by omega)] at e_59)
          (try rw [hi_setR] at e_59)
          refine wp_aload_n d_92_62 (by rfl) ?_
          refine wp_aastO (cb := 11) d_92_63 (by omega) (by omega) t1 (by decide) (by rw [m5]; rfl) (by omega) (by omega) ?_
          have rb : ∀ z : Int, hr (setR h (w + 7) z (some a)) (w + 6) 1 = some (w + 8) := fun z => by rw [hr_ne_setR (by omega)]; exact m3
          have rc : ∀ z : Int, hr (setR h (w + 7) z (some a)) (w + 6) 2 = some (w + 9) := fun z => by rw [hr_ne_setR (by omega)]; exact m4
          refine wp_aload_n d_92_64 (by rfl) ?_
          refine wp_getR (1) d_92_65 fl_10_17 rfl rfl (by first | assumption | (simp only [kd_setI, kd_setR]; assumption)) (by first | assumption | exact rb _ | exact rc _) ?_
          refine wp_aload_n d_92_68 (by rfl) ?_
          refine wp_getI (3) d_92_69 fl_10_24 rfl rfl (by first | assumption | (simp only [kd_setI, kd_setR]; assumption)) (fun x_69 e_69 r_69 => ?_)
          (try rw [hi_setI_ne (by omega)] at e_69)
          (try rw [hi_setI_ne (by omega)] at e_69)
          (try rw [hi_setR] at e_69)
          refine wp_iload_n d_92_72 (by rfl) ?_
          refine wp_iast d_92_73 (by first | assumption | (simp only [kd_setI, kd_setR]; assumption)) (by first | omega | (simp only [ln_setI, ln_setR]; omega)) (by first | omega | (simp only [ln_setI, ln_setR]; omega)) (by first | omega | (simp only [ln_setI, ln_setR]; omega)) ?_
          refine wp_aload_n d_92_74 (by rfl) ?_
          refine wp_getR (2) d_92_75 fl_10_21 rfl rfl (by first | assumption | (simp only [kd_setI, kd_setR]; assumption)) (by first | assumption | exact rb _ | exact rc _) ?_
          refine wp_aload_n d_92_78 (by rfl) ?_
          refine wp_getI (3) d_92_79 fl_10_24 rfl rfl (by first | assumption | (simp only [kd_setI, kd_setR]; assumption)) (fun x_79 e_79 r_79 => ?_)
          (try rw [hi_setI_ne (by omega)] at e_79)
          (try rw [hi_setI_ne (by omega)] at e_79)
          (try rw [hi_setR] at e_79)
          refine wp_iload d_92_82 (by rfl) ?_
          refine wp_iast d_92_84 (by first | assumption | (simp only [kd_setI, kd_setR]; assumption)) (by first | omega | (simp only [ln_setI, ln_setR]; omega)) (by first | omega | (simp only [ln_setI, ln_setR]; omega)) (by first | omega | (simp only [ln_setI, ln_setR]; omega)) ?_
          refine wp_aload_n d_92_85 (by rfl) ?_
          refine wp_dup d_92_86 (by rfl) ?_
          refine wp_getI (3) d_92_87 fl_10_24 rfl rfl (by first | assumption | (simp only [kd_setI, kd_setR]; assumption)) (fun x_87 e_87 r_87 => ?_)
          (try rw [hi_setI_ne (by omega)] at e_87)
          (try rw [hi_setI_ne (by omega)] at e_87)
          (try rw [hi_setR] at e_87)
          refine wp_iconst d_92_90 ?_
          refine wp_iadd d_92_91 ?_
          refine wp_putI (3) d_92_92 fl_10_24 rfl rfl (Or.inl (by rfl)) (by first | assumption | (simp only [kd_setI, kd_setR]; assumption)) (by first | omega | (simp only [ln_setI, ln_setR]; omega)) (fun q => nomatch q) ?_
          refine wp_vret d_92_95 rfl ?_
          first
            | (refine ⟨rfl, Or.inr ⟨?_, rfl⟩⟩; intro z; omega)
            | (refine ⟨rfl, Or.inl ⟨⟨by omega, by omega⟩, ?_⟩⟩
               simp only [*])
    · refine wp_iconst d_92_32 ?_
      refine wp_goto (tgt := 37) d_92_33 (by decide) ?_
      refine wp_istore d_92_37 (by decide) ?_
      refine wp_iload d_92_39 (by rfl) ?_
      refine wp_if_eq (tgt := 95) d_92_41 (by decide) (by first | omega | (simp only [ln_setI, ln_setR]; omega)) (fun c_41 => ?_) (fun c_41 => ?_)
      · refine wp_vret d_92_95 rfl ?_
        first
          | (refine ⟨rfl, Or.inr ⟨?_, rfl⟩⟩; intro z; omega)
          | (refine ⟨rfl, Or.inl ⟨⟨by omega, by omega⟩, ?_⟩⟩
             simp only [*])
      · refine wp_aload_n d_92_44 (by rfl) ?_
        refine wp_getI (3) d_92_45 fl_10_24 rfl rfl (by first | assumption | (simp only [kd_setI, kd_setR]; assumption)) (fun x_45 e_45 r_45 => ?_)
        (try rw [hi_setI_ne (by omega)] at e_45)
        (try rw [hi_setI_ne (by omega)] at e_45)
        (try rw [hi_setR] at e_45)
        refine wp_sipush d_92_48 (by decide) ?_
        refine wp_icmp_ge (tgt := 95) d_92_51 (by decide) (by first | omega | (simp only [ln_setI, ln_setR]; omega)) (by first | omega | (simp only [ln_setI, ln_setR]; omega)) (fun c_51 => ?_) (fun c_51 => ?_)
        · refine wp_vret d_92_95 rfl ?_
          first
            | (refine ⟨rfl, Or.inr ⟨?_, rfl⟩⟩; intro z; omega)
            | (refine ⟨rfl, Or.inl ⟨⟨by omega, by omega⟩, ?_⟩⟩
               simp only [*])
        · refine wp_aload_n d_92_54 (by rfl) ?_
          refine wp_getR (0) d_92_55 fl_10_11 rfl rfl (by first | assumption | (simp only [kd_setI, kd_setR]; assumption)) (by first | assumption | exact rb _ | exact rc _) ?_
          refine wp_aload_n d_92_58 (by rfl) ?_
          refine wp_getI (3) d_92_59 fl_10_24 rfl rfl (by first | assumption | (simp only [kd_setI, kd_setR]; assumption)) (fun x_59 e_59 r_59 => ?_)
          (try rw [hi_setI_ne (by omega)] at e_59)
          (try rw [hi_setI_ne (by omega)] at e_59)
          (try rw [hi_setR] at e_59)
          refine wp_aload_n d_92_62 (by rfl) ?_
          refine wp_aastO (cb := 11) d_92_63 (by omega) (by omega) t1 (by decide) (by rw [m5]; rfl) (by omega) (by omega) ?_
          have rb : ∀ z : Int, hr (setR h (w + 7) z (some a)) (w + 6) 1 = some (w + 8) := fun z => by rw [hr_ne_setR (by omega)]; exact m3
          have rc : ∀ z : Int, hr (setR h (w + 7) z (some a)) (w + 6) 2 = some (w + 9) := fun z => by rw [hr_ne_setR (by omega)]; exact m4
          refine wp_aload_n d_92_64 (by rfl) ?_
          refine wp_getR (1) d_92_65 fl_10_17 rfl rfl (by first | assumption | (simp only [kd_setI, kd_setR]; assumption)) (by first | assumption | exact rb _ | exact rc _) ?_
          refine wp_aload_n d_92_68 (by rfl) ?_
          refine wp_getI (3) d_92_69 fl_10_24 rfl rfl (by first | assumption | (simp only [kd_setI, kd_setR]; assumption)) (fun x_69 e_69 r_69 => ?_)
          (try rw [hi_setI_ne (by omega)] at e_69)
          (try rw [hi_setI_ne (by omega)] at e_69)
          (try rw [hi_setR] at e_69)
          refine wp_iload_n d_92_72 (by rfl) ?_
          refine wp_iast d_92_73 (by first | assumption | (simp only [kd_setI, kd_setR]; assumption)) (by first | omega | (simp only [ln_setI, ln_setR]; omega)) (by first | omega | (simp only [ln_setI, ln_setR]; omega)) (by first | omega | (simp only [ln_setI, ln_setR]; omega)) ?_
          refine wp_aload_n d_92_74 (by rfl) ?_
          refine wp_getR (2) d_92_75 fl_10_21 rfl rfl (by first | assumption | (simp only [kd_setI, kd_setR]; assumption)) (by first | assumption | exact rb _ | exact rc _) ?_
          refine wp_aload_n d_92_78 (by rfl) ?_
          refine wp_getI (3) d_92_79 fl_10_24 rfl rfl (by first | assumption | (simp only [kd_setI, kd_setR]; assumption)) (fun x_79 e_79 r_79 => ?_)
          (try rw [hi_setI_ne (by omega)] at e_79)
          (try rw [hi_setI_ne (by omega)] at e_79)
          (try rw [hi_setR] at e_79)
          refine wp_iload d_92_82 (by rfl) ?_
          refine wp_iast d_92_84 (by first | assumption | (simp only [kd_setI, kd_setR]; assumption)) (by first | omega | (simp only [ln_setI, ln_setR]; omega)) (by first | omega | (simp only [ln_setI, ln_setR]; omega)) (by first | omega | (simp only [ln_setI, ln_setR]; omega)) ?_
          refine wp_aload_n d_92_85 (by rfl) ?_
          refine wp_dup d_92_86 (by rfl) ?_
          refine wp_getI (3) d_92_87 fl_10_24 rfl rfl (by first | assumption | (simp only [kd_setI, kd_setR]; assumption)) (fun x_87 e_87 r_87 => ?_)
          (try rw [hi_setI_ne (by omega)] at e_87)
          (try rw [hi_setI_ne (by omega)] at e_87)
          (try rw [hi_setR] at e_87)
          refine wp_iconst d_92_90 ?_
          refine wp_iadd d_92_91 ?_
          refine wp_putI (3) d_92_92 fl_10_24 rfl rfl (Or.inl (by rfl)) (by first | assumption | (simp only [kd_setI, kd_setR]; assumption)) (by first | omega | (simp only [ln_setI, ln_setR]; omega)) (fun q => nomatch q) ?_
          refine wp_vret d_92_95 rfl ?_
          first
            | (refine ⟨rfl, Or.inr ⟨?_, rfl⟩⟩; intro z; omega)
            | (refine ⟨rfl, Or.inl ⟨⟨by omega, by omega⟩, ?_⟩⟩
               simp only [*])
end
section
set_option maxRecDepth 100000 in
theorem cd_92 : cdP 92 := ⟨okr (k := 199) rfl (by decide +kernel), by decide +kernel, by decide +kernel, okk_w (k := 34) (by decide +kernel)⟩
set_option maxRecDepth 100000 in
theorem cd_94 : cdP 94 := ⟨okr (k := 185) rfl (by decide +kernel), by decide +kernel, by decide +kernel, okk_w (k := 50) (by decide +kernel)⟩
set_option maxRecDepth 100000 in
theorem cd_109 : cdP 109 := ⟨okr (k := 175) rfl (by decide +kernel), by decide +kernel, by decide +kernel, okk_w (k := 49) (by decide +kernel)⟩
set_option maxRecDepth 100000 in
theorem cd_110 : cdP 110 := ⟨okr (k := 178) rfl (by decide +kernel), by decide +kernel, by decide +kernel, okk_w (k := 49) (by decide +kernel)⟩
set_option maxRecDepth 100000 in
theorem c_91_28 : csP 91 28 109 2 := ⟨cd_109, okk_w (k := 173) (by decide +kernel), okk_w (k := 174) (by decide +kernel), by decide +kernel, by decide +kernel⟩
set_option maxRecDepth 100000 in
theorem c_91_34 : csP 91 34 110 2 := ⟨cd_110, okk_w (k := 176) (by decide +kernel), okk_w (k := 177) (by decide +kernel), by decide +kernel, by decide +kernel⟩
set_option maxRecDepth 100000 in
theorem c_91_37 : csP 91 37 111 2 := ⟨cd_111, okk_w (k := 179) (by decide +kernel), okk_w (k := 180) (by decide +kernel), by decide +kernel, by decide +kernel⟩
set_option maxRecDepth 100000 in
theorem fl_10_40 : flP "WhistleStop$Runs" 40 7 7 := ⟨_, rfl, by decide, okk_w (k := 570) (by decide +kernel)⟩
set_option maxRecDepth 100000 in
theorem fl_10_45 : flP "WhistleStop$Runs" 45 7 3 := ⟨_, rfl, by decide, okk_w (k := 559) (by decide +kernel)⟩
set_option maxRecDepth 100000 in
theorem fl_10_46 : flP "WhistleStop$Runs" 46 11 7 := ⟨_, rfl, by decide, okk_w (k := 979) (by decide +kernel)⟩
set_option maxRecDepth 100000 in
theorem c_91_47 : cvP 91 47 94 1 := ⟨cd_94, okk_w (k := 182) (by decide +kernel), okk_w (k := 183) (by decide +kernel), okk_w (k := 184) (by decide +kernel), by decide +kernel, by decide +kernel⟩
set_option maxRecDepth 100000 in
theorem c_91_51 : cvP 91 51 92 4 := ⟨cd_92, okk_w (k := 195) (by decide +kernel), okk_w (k := 197) (by decide +kernel), okk_w (k := 3) (by decide +kernel), by decide +kernel, by decide +kernel⟩
set_option maxRecDepth 100000 in
theorem d_91_0 : decode (mB 91) 0 = .ok (.aload_n 0, 1) := by decide +kernel
set_option maxRecDepth 100000 in
theorem d_91_1 : decode (mB 91) 1 = .ok (.iconst 0, 1) := by decide +kernel
set_option maxRecDepth 100000 in
theorem d_91_2 : decode (mB 91) 2 = .ok (.putfield 24, 3) := by decide +kernel
set_option maxRecDepth 100000 in
theorem d_91_5 : decode (mB 91) 5 = .ok (.iconst 0, 1) := by decide +kernel
set_option maxRecDepth 100000 in
theorem d_91_6 : decode (mB 91) 6 = .ok (.iload_n 2, 1) := by decide +kernel
set_option maxRecDepth 100000 in
theorem d_91_7 : decode (mB 91) 7 = .ok (.sipush 2879, 3) := by decide +kernel
set_option maxRecDepth 100000 in
theorem d_91_10 : decode (mB 91) 10 = .ok (.isub, 1) := by decide +kernel
set_option maxRecDepth 100000 in
theorem d_91_11 : decode (mB 91) 11 = .ok (.sipush 180, 3) := by decide +kernel
set_option maxRecDepth 100000 in
theorem d_91_14 : decode (mB 91) 14 = .ok (.isub, 1) := by decide +kernel
set_option maxRecDepth 100000 in
theorem d_91_15 : decode (mB 91) 15 = .ok (.sipush 1440, 3) := by decide +kernel
set_option maxRecDepth 100000 in
theorem d_91_18 : decode (mB 91) 18 = .ok (.invokestatic 28, 3) := by decide +kernel
set_option maxRecDepth 100000 in
theorem d_91_21 : decode (mB 91) 21 = .ok (.invokestatic 34, 3) := by decide +kernel
set_option maxRecDepth 100000 in
theorem d_91_24 : decode (mB 91) 24 = .ok (.istore 4, 2) := by decide +kernel
set_option maxRecDepth 100000 in
theorem d_91_26 : decode (mB 91) 26 = .ok (.sipush 365, 3) := by decide +kernel
set_option maxRecDepth 100000 in
theorem d_91_29 : decode (mB 91) 29 = .ok (.iload_n 3, 1) := by decide +kernel
set_option maxRecDepth 100000 in
theorem d_91_30 : decode (mB 91) 30 = .ok (.sipush 1440, 3) := by decide +kernel
set_option maxRecDepth 100000 in
theorem d_91_33 : decode (mB 91) 33 = .ok (.invokestatic 28, 3) := by decide +kernel
set_option maxRecDepth 100000 in
theorem d_91_36 : decode (mB 91) 36 = .ok (.invokestatic 37, 3) := by decide +kernel
set_option maxRecDepth 100000 in
theorem d_91_39 : decode (mB 91) 39 = .ok (.istore 5, 2) := by decide +kernel
set_option maxRecDepth 100000 in
theorem d_91_41 : decode (mB 91) 41 = .ok (.iconst 0, 1) := by decide +kernel
set_option maxRecDepth 100000 in
theorem d_91_42 : decode (mB 91) 42 = .ok (.istore 6, 2) := by decide +kernel
set_option maxRecDepth 100000 in
theorem d_91_44 : decode (mB 91) 44 = .ok (.iload 6, 2) := by decide +kernel
set_option maxRecDepth 100000 in
theorem d_91_46 : decode (mB 91) 46 = .ok (.aload_n 1, 1) := by decide +kernel
set_option maxRecDepth 100000 in
theorem d_91_47 : decode (mB 91) 47 = .ok (.getfield 40, 3) := by decide +kernel
set_option maxRecDepth 100000 in
theorem d_91_50 : decode (mB 91) 50 = .ok (.if_icmp .ge 64, 3) := by decide +kernel
set_option maxRecDepth 100000 in
theorem d_91_53 : decode (mB 91) 53 = .ok (.aload_n 1, 1) := by decide +kernel
set_option maxRecDepth 100000 in
theorem d_91_54 : decode (mB 91) 54 = .ok (.getfield 45, 3) := by decide +kernel
set_option maxRecDepth 100000 in
theorem d_91_57 : decode (mB 91) 57 = .ok (.iload 6, 2) := by decide +kernel
set_option maxRecDepth 100000 in
theorem d_91_59 : decode (mB 91) 59 = .ok (.aaload, 1) := by decide +kernel
set_option maxRecDepth 100000 in
theorem d_91_60 : decode (mB 91) 60 = .ok (.astore 7, 2) := by decide +kernel
set_option maxRecDepth 100000 in
theorem d_91_62 : decode (mB 91) 62 = .ok (.iload 4, 2) := by decide +kernel
set_option maxRecDepth 100000 in
theorem d_91_64 : decode (mB 91) 64 = .ok (.istore 8, 2) := by decide +kernel
set_option maxRecDepth 100000 in
theorem d_91_66 : decode (mB 91) 66 = .ok (.iload 8, 2) := by decide +kernel
set_option maxRecDepth 100000 in
theorem d_91_68 : decode (mB 91) 68 = .ok (.iload 5, 2) := by decide +kernel
set_option maxRecDepth 100000 in
theorem d_91_70 : decode (mB 91) 70 = .ok (.if_icmp .gt 38, 3) := by decide +kernel
set_option maxRecDepth 100000 in
theorem d_91_73 : decode (mB 91) 73 = .ok (.aload 7, 2) := by decide +kernel
set_option maxRecDepth 100000 in
theorem d_91_75 : decode (mB 91) 75 = .ok (.getfield 46, 3) := by decide +kernel
set_option maxRecDepth 100000 in
theorem d_91_78 : decode (mB 91) 78 = .ok (.iconst 1, 1) := by decide +kernel
set_option maxRecDepth 100000 in
theorem d_91_79 : decode (mB 91) 79 = .ok (.if_icmp .le 23, 3) := by decide +kernel
set_option maxRecDepth 100000 in
theorem d_91_82 : decode (mB 91) 82 = .ok (.aload 7, 2) := by decide +kernel
set_option maxRecDepth 100000 in
theorem d_91_84 : decode (mB 91) 84 = .ok (.iload 8, 2) := by decide +kernel
set_option maxRecDepth 100000 in
theorem d_91_86 : decode (mB 91) 86 = .ok (.invokevirtual 47, 3) := by decide +kernel
set_option maxRecDepth 100000 in
theorem d_91_89 : decode (mB 91) 89 = .ok (.ifCond .eq 13, 3) := by decide +kernel
set_option maxRecDepth 100000 in
theorem d_91_92 : decode (mB 91) 92 = .ok (.aload_n 0, 1) := by decide +kernel
set_option maxRecDepth 100000 in
theorem d_91_93 : decode (mB 91) 93 = .ok (.aload 7, 2) := by decide +kernel
set_option maxRecDepth 100000 in
theorem d_91_95 : decode (mB 91) 95 = .ok (.iload 8, 2) := by decide +kernel
set_option maxRecDepth 100000 in
theorem d_91_97 : decode (mB 91) 97 = .ok (.iload_n 2, 1) := by decide +kernel
set_option maxRecDepth 100000 in
theorem d_91_98 : decode (mB 91) 98 = .ok (.iload_n 3, 1) := by decide +kernel
set_option maxRecDepth 100000 in
theorem d_91_99 : decode (mB 91) 99 = .ok (.invokevirtual 51, 3) := by decide +kernel
set_option maxRecDepth 100000 in
theorem d_91_102 : decode (mB 91) 102 = .ok (.iinc 8 1, 3) := by decide +kernel
set_option maxRecDepth 100000 in
theorem d_91_105 : decode (mB 91) 105 = .ok (.goto (-39), 3) := by decide +kernel
set_option maxRecDepth 100000 in
theorem d_91_108 : decode (mB 91) 108 = .ok (.iinc 6 1, 3) := by decide +kernel
set_option maxRecDepth 100000 in
theorem d_91_111 : decode (mB 91) 111 = .ok (.goto (-67), 3) := by decide +kernel
set_option maxRecDepth 100000 in
theorem d_91_114 : decode (mB 91) 114 = .ok (.return_, 1) := by decide +kernel
end
section
/-! ===== collect ===== -/
theorem PCoff {w X : Nat} : Off w X (PC w) (PQ w) := ⟨fun a z => by unfold PC at z; omega, fun a z => by unfold PQ at z; omega⟩
set_option maxRecDepth 100000 in
set_option maxHeartbeats 4000000 in
theorem l_colI {w X a c : Nat} {S U A B N : Int} {h0 : Hp} (hS0 : Sk h0 w) (hT0 : TT h0 w X) (hSU : inR S ∧ inR U) (hA : 0 ≤ A ∧ A ≤ 1000000) (hB : B ≤ 365) (hAB : B - A ≤ 7) (hBr : inR B) (hN : 0 ≤ N ∧ N < hi h0 (w + 1) 7) (ga : hr h0 (w + 5) N = some a) (gT : TripOk h0 (hi h0 (w + 1) 4) a) (gr : w + 154 ≤ a ∧ a + 5 ≤ X) (gc : hr h0 a 1 = some c) (gC : CalOk h0 c) (gcr : w + 154 ≤ c ∧ c + 2 ≤ X) {Q : Option AV → Hp → Prop} : ∀ (m : Nat) (D : Int) (h : Hp), B + 1 - D ≤ m → A ≤ D → D ≤ B + 1 ∨ D = A → ch (PC w) (PQ w) h0 h → CoI h0 h w S U A B N D → (∀ h', ch (PC w) (PQ w) h0 h' → CoI h0 h' w S U A B (N + 1) A → wp 91 108 [some (vR (some (w + 6))), some (vR (some (w + 1))), some (vI S), some (vI U), some (vI A), some (vI B), some (vI N), none, none] [] h' Q noX) → wp 91 66 [some (vR (some (w + 6))), some (vR (some (w + 1))), some (vI S), some (vI U), some (vI A), some (vI B), some (vI N), some (vR (some a)), some (vI D)] [] h Q noX := by
  intro m
  have h24 := hT0.2.2.1
  have kt := hasRn.kept hT0 (h' := h0) (ch.rfl (P := PC w) (R := PQ w)).fm PCoff (d := 0) hN.1 hN.2 ga
  induction m with
  | zero =>
    intro D h e0 e1 eD E I kq
    have hX := hT0.2.2.2.2.2.2
    have hS := hS0.kept E.fm ((PCoff (X := X)).pr hX.2) (by omega)
    have hS9 := hS
    have E8 := E.2.2.2.2.2.2.2.1
    have E9 := E.2.2.2.2.2.2.2.2
    have pa : ∀ q, a ≤ q → ¬ PC w q := fun q z y => by unfold PC at y; omega
    have hT := gT.kept E.fm (fun q z1 z2 z3 => by unfold PC at z3; omega) (fun z => by unfold PQ at z; omega) (by omega)
    have hT9 := hT
    have gC9 := gC.kept E.fm (fun z => by unfold PQ at z; omega) (by omega)
    have gc9 : hr h a 1 = some c := (E9 _ _ (fun z => by unfold PQ at z; omega)).trans gc
    have enx : nx h = nx h0 := E.2.2.2.1
    obtain ⟨t1, ⟨u1, u2, u3, u4⟩, ⟨⟨v1, v2⟩, ⟨v3, v4⟩, ⟨v5, v6⟩, v7, v8⟩, t4, t5, t6, t7, t8⟩ := hT
    refine wp_iload d_91_66 (by rfl) ?_
    refine wp_iload d_91_68 (by rfl) ?_
    refine wp_icmp_gt (tgt := 108) d_91_70 (by decide) (by omega) (by omega) (fun c_70 => ?_) (fun c_70 => ?_)
    rotate_left
    · exact absurd c_70 (by omega)
    refine wp_to [some (vR (some (w + 6))), some (vR (some (w + 1))), some (vI S), some (vI U), some (vI A), some (vI B), some (vI N), none, none] ⟨rfl, rfl, rfl, rfl, rfl, rfl, rfl, trivial⟩ ?_
    exact kq h E (I.next eD (by omega) hAB)
  | succ m ih =>
    intro D h e0 e1 eD E I kq
    have hX := hT0.2.2.2.2.2.2
    have hS := hS0.kept E.fm ((PCoff (X := X)).pr hX.2) (by omega)
    have hS9 := hS
    have E8 := E.2.2.2.2.2.2.2.1
    have E9 := E.2.2.2.2.2.2.2.2
    have pa : ∀ q, a ≤ q → ¬ PC w q := fun q z y => by unfold PC at y; omega
    have hT := gT.kept E.fm (fun q z1 z2 z3 => by unfold PC at z3; omega) (fun z => by unfold PQ at z; omega) (by omega)
    have hT9 := hT
    have gC9 := gC.kept E.fm (fun z => by unfold PQ at z; omega) (by omega)
    have gc9 : hr h a 1 = some c := (E9 _ _ (fun z => by unfold PQ at z; omega)).trans gc
    have enx : nx h = nx h0 := E.2.2.2.1
    obtain ⟨t1, ⟨u1, u2, u3, u4⟩, ⟨⟨v1, v2⟩, ⟨v3, v4⟩, ⟨v5, v6⟩, v7, v8⟩, t4, t5, t6, t7, t8⟩ := hT
    have kh := hasRn.kept hT0 E.fm PCoff (d := D) hN.1 hN.2 ga
    have ea : hi h a = hi h0 a := funext fun z => E8 a z (pa a (by omega))
    have ea3 : hi h (a + 3) = hi h0 (a + 3) := funext fun z => E8 (a + 3) z (pa _ (by omega))
    have hz := I.1
    have g5 : hr h (w + 5) N = some a := (E9 _ _ (fun z => by unfold PQ at z; omega)).trans ga
    refine wp_iload d_91_66 (by rfl) ?_
    refine wp_iload d_91_68 (by rfl) ?_
    refine wp_icmp_gt (tgt := 108) d_91_70 (by decide) (by omega) (by omega) (fun c_70 => ?_) (fun c_70 => ?_)
    · refine wp_to [some (vR (some (w + 6))), some (vR (some (w + 1))), some (vI S), some (vI U), some (vI A), some (vI B), some (vI N), none, none] ⟨rfl, rfl, rfl, rfl, rfl, rfl, rfl, trivial⟩ ?_
      exact kq h E (I.next eD (by omega) hAB)
    · refine wp_aload d_91_73 (by rfl) ?_
      refine wp_getI (7) d_91_75 fl_10_46 rfl rfl (by first | assumption | exact hS9.2.2.1.1) (fun x_75 e_75 r_75 => ?_)
      (try rw [E8 _ _ (pa _ (by omega))] at e_75)
      refine wp_iconst d_91_78 ?_
      refine wp_icmp_le (tgt := 102) d_91_79 (by decide) (by omega) (by omega) (fun c_79 => ?_) (fun c_79 => ?_)
      · refine wp_iinc d_91_102 (by rfl) (by decide) ?_
        refine wp_goto (tgt := 66) d_91_105 (by decide) ?_
        refine wp_to [some (vR (some (w + 6))), some (vR (some (w + 1))), some (vI S), some (vI U), some (vI A), some (vI B), some (vI N), some (vR (some a)), some (vI (D + 1))] ⟨rfl, rfl, rfl, rfl, rfl, rfl, rfl, rfl, rfl, trivial⟩ ?_
        first
          | (refine ih (D + 1) _ (by omega) (by omega) (by omega) E (I.skip fun a' y => ?_) kq
             cases ga.symm.trans y.1
             first
               | (have y9 := y.2.2.1; omega)
               | (rcases u_86 with ⟨y1, y2⟩ | ⟨y1, y2⟩
                  · omega
                  · exact y2 (kh.1.mpr y.2.1)))
          | (rcases q_99 with ⟨z1, z2⟩ | ⟨z1, z2⟩
             · subst z2
               rw [kh.2.2, ea3, ea] at z1
               refine ih (D + 1) _ (by omega) (by omega) (by omega) (E.trans ?_) ?_ kq
               · exact ((ch_setR (P := PC w) (R := PQ w) rfl).trans (ch_setI (P := PC w) (R := PQ w) (Or.inr (Or.inl rfl)))).trans ((ch_setI (P := PC w) (R := PQ w) (Or.inr (Or.inr rfl))).trans (ch_setI (P := PC w) (R := PQ w) (Or.inl rfl)))
               · rw [kh.2.2]
                 rcases u_86 with ⟨y1, y2⟩ | ⟨y1, y2⟩
                 · exact I.put hN ⟨ga, kh.1.mp y2, by first | omega | (rw [← ea]; omega), z1.1, z1.2⟩
                 · omega
             · subst z2
               rw [kh.2.2, ea3, ea] at z1
               exact ih (D + 1) _ (by omega) (by omega) (by omega) E (I.skip fun a' y => by cases ga.symm.trans y.1; exact z1 ⟨y.2.2.2.1, y.2.2.2.2⟩) kq)
      · refine wp_aload d_91_82 (by rfl) ?_
        refine wp_iload d_91_84 (by rfl) ?_
        refine wp_callV d_91_86 c_91_47 rfl (by rfl) (by rfl) ⟨11, rfl, rfl, by decide⟩ (by first | assumption | exact hS9.2.2.1.1) (by exact Nat.le_of_ble_eq_true rfl) (by exact Nat.le_of_ble_eq_true rfl) (s_hasRun hT9 gc9 gC9 ⟨by omega, by omega⟩) (fun v_86 h_86 q_86 => ?_) (fun _ _ q => q.elim)
        obtain ⟨z_86, rfl, y_86, u_86⟩ := q_86
        replace y_86 := y_86.symm
        subst y_86
        refine wp_if_eq (tgt := 102) d_91_89 (by decide) (by omega) (fun c_89 => ?_) (fun c_89 => ?_)
        · refine wp_iinc d_91_102 (by rfl) (by decide) ?_
          refine wp_goto (tgt := 66) d_91_105 (by decide) ?_
          refine wp_to [some (vR (some (w + 6))), some (vR (some (w + 1))), some (vI S), some (vI U), some (vI A), some (vI B), some (vI N), some (vR (some a)), some (vI (D + 1))] ⟨rfl, rfl, rfl, rfl, rfl, rfl, rfl, rfl, rfl, trivial⟩ ?_
          first
            | (refine ih (D + 1) _ (by omega) (by omega) (by omega) E (I.skip fun a' y => ?_) kq
               cases ga.symm.trans y.1
               first
                 | (have y9 := y.2.2.1; omega)
                 | (rcases u_86 with ⟨y1, y2⟩ | ⟨y1, y2⟩
                    · omega
                    · exact y2 (kh.1.mpr y.2.1)))
            | (rcases q_99 with ⟨z1, z2⟩ | ⟨z1, z2⟩
               · subst z2
                 rw [kh.2.2, ea3, ea] at z1
                 refine ih (D + 1) _ (by omega) (by omega) (by omega) (E.trans ?_) ?_ kq
                 · exact ((ch_setR (P := PC w) (R := PQ w) rfl).trans (ch_setI (P := PC w) (R := PQ w) (Or.inr (Or.inl rfl)))).trans ((ch_setI (P := PC w) (R := PQ w) (Or.inr (Or.inr rfl))).trans (ch_setI (P := PC w) (R := PQ w) (Or.inl rfl)))
                 · rw [kh.2.2]
                   rcases u_86 with ⟨y1, y2⟩ | ⟨y1, y2⟩
                   · exact I.put hN ⟨ga, kh.1.mp y2, by first | omega | (rw [← ea]; omega), z1.1, z1.2⟩
                   · omega
               · subst z2
                 rw [kh.2.2, ea3, ea] at z1
                 exact ih (D + 1) _ (by omega) (by omega) (by omega) E (I.skip fun a' y => by cases ga.symm.trans y.1; exact z1 ⟨y.2.2.2.1, y.2.2.2.2⟩) kq)
        · refine wp_aload_n d_91_92 (by rfl) ?_
          refine wp_aload d_91_93 (by rfl) ?_
          refine wp_iload d_91_95 (by rfl) ?_
          refine wp_iload_n d_91_97 (by rfl) ?_
          refine wp_iload_n d_91_98 (by rfl) ?_
          refine wp_callV d_91_99 c_91_51 rfl (by rfl) (by rfl) ⟨10, rfl, rfl, by decide⟩ (by first | assumption | exact hS9.2.2.1.1) (by exact Nat.le_of_ble_eq_true rfl) (by exact Nat.le_of_ble_eq_true rfl) (s_add hS9 hT9 gr.1 ⟨by omega, by omega⟩ ⟨by omega, by omega⟩ hSU) (fun v_99 h_99 q_99 => ?_) (fun _ _ q => q.elim)
          obtain ⟨rfl, q_99⟩ := q_99
          refine wp_iinc d_91_102 (by rfl) (by decide) ?_
          refine wp_goto (tgt := 66) d_91_105 (by decide) ?_
          refine wp_to [some (vR (some (w + 6))), some (vR (some (w + 1))), some (vI S), some (vI U), some (vI A), some (vI B), some (vI N), some (vR (some a)), some (vI (D + 1))] ⟨rfl, rfl, rfl, rfl, rfl, rfl, rfl, rfl, rfl, trivial⟩ ?_
          first
            | (refine ih (D + 1) _ (by omega) (by omega) (by omega) E (I.skip fun a' y => ?_) kq
               cases ga.symm.trans y.1
               first
                 | (have y9 := y.2.2.1; omega)
                 | (rcases u_86 with ⟨y1, y2⟩ | ⟨y1, y2⟩
                    · omega
                    · exact y2 (kh.1.mpr y.2.1)))
            | (rcases q_99 with ⟨z1, z2⟩ | ⟨z1, z2⟩
               · subst z2
                 rw [kh.2.2, ea3, ea] at z1
                 refine ih (D + 1) _ (by omega) (by omega) (by omega) (E.trans ?_) ?_ kq
                 · exact ((ch_setR (P := PC w) (R := PQ w) rfl).trans (ch_setI (P := PC w) (R := PQ w) (Or.inr (Or.inl rfl)))).trans ((ch_setI (P := PC w) (R := PQ w) (Or.inr (Or.inr rfl))).trans (ch_setI (P := PC w) (R := PQ w) (Or.inl rfl)))
                 · rw [kh.2.2]
                   rcases u_86 with ⟨y1, y2⟩ | ⟨y1, y2⟩
                   · exact I.put hN ⟨ga, kh.1.mp y2, by first | omega | (rw [← ea]; omega), z1.1, z1.2⟩
                   · omega
               · subst z2
                 rw [kh.2.2, ea3, ea] at z1
                 exact ih (D + 1) _ (by omega) (by omega) (by omega) E (I.skip fun a' y => by cases ga.symm.trans y.1; exact z1 ⟨y.2.2.2.1, y.2.2.2.2⟩) kq)
set_option maxRecDepth 100000 in
set_option maxHeartbeats 4000000 in
theorem l_colO {w X : Nat} {S U A B : Int} {h0 : Hp} (hS0 : Sk h0 w) (hT0 : TT h0 w X) (hSU : inR S ∧ inR U) (hA : 0 ≤ A ∧ A ≤ 1000000) (hB : B ≤ 365) (hAB : B - A ≤ 7) (hBr : inR B) {Q : Option AV → Hp → Prop} : ∀ (m : Nat) (N : Int) (h : Hp), N + m = hi h0 (w + 1) 7 → 0 ≤ N → ch (PC w) (PQ w) h0 h → CoI h0 h w S U A B N A → (∀ h', ch (PC w) (PQ w) h0 h' → CoI h0 h' w S U A B (hi h0 (w + 1) 7) A → Q none h') → wp 91 44 [some (vR (some (w + 6))), some (vR (some (w + 1))), some (vI S), some (vI U), some (vI A), some (vI B), some (vI N), none, none] [] h Q noX := by
  intro m
  have h24 := hT0.2.2.1
  induction m with
  | zero =>
    intro N h e0 e1 E I kq
    have hX := hT0.2.2.2.2.2.2
    have hS := hS0.kept E.fm ((PCoff (X := X)).pr hX.2) (by omega)
    have E8 := E.2.2.2.2.2.2.2.1
    have E9 := E.2.2.2.2.2.2.2.2
    have p1 : ¬ PC w (w + 1) := fun z => by unfold PC at z; omega
    obtain ⟨⟨k1, k2, k3, k4, k5, k6, k7⟩, ⟨n1, ⟨n2, n3, n4, n5⟩, ⟨n6, n7⟩, ⟨n8, n9⟩, ⟨n10, n11⟩, n12, n13⟩, ⟨m1, ⟨m2, m3, m4⟩, ⟨m5, m6⟩, ⟨m7, m8⟩, m9, m10⟩, ⟨o1, ⟨o2, o3, o4⟩, ⟨o5, o6, o7⟩, ⟨o8, o9, o10⟩, o11, o12⟩, ⟨b1, ⟨b2, b3⟩, ⟨b4, b5, b6⟩, b7, b8, b9⟩, ⟨j1, ⟨j2, j3, j4, j5, j6, j7, j8⟩, ⟨j9, j10⟩, j11⟩⟩ := hS
    refine wp_iload d_91_44 (by rfl) ?_
    refine wp_aload_n d_91_46 (by rfl) ?_
    refine wp_getI (7) d_91_47 fl_10_40 rfl rfl (by assumption) (fun x_47 e_47 r_47 => ?_)
    (try rw [E8 _ _ p1] at e_47)
    refine wp_icmp_ge (tgt := 114) d_91_50 (by decide) (by omega) (by omega) (fun c_50 => ?_) (fun c_50 => ?_)
    rotate_left
    · exact absurd c_50 (by omega)
    refine wp_vret d_91_114 rfl ?_
    obtain rfl : N = hi h0 (w + 1) 7 := by omega
    exact kq h E I
  | succ m ih =>
    intro N h e0 e1 E I kq
    have hX := hT0.2.2.2.2.2.2
    have hS := hS0.kept E.fm ((PCoff (X := X)).pr hX.2) (by omega)
    have E8 := E.2.2.2.2.2.2.2.1
    have E9 := E.2.2.2.2.2.2.2.2
    have p1 : ¬ PC w (w + 1) := fun z => by unfold PC at z; omega
    obtain ⟨⟨k1, k2, k3, k4, k5, k6, k7⟩, ⟨n1, ⟨n2, n3, n4, n5⟩, ⟨n6, n7⟩, ⟨n8, n9⟩, ⟨n10, n11⟩, n12, n13⟩, ⟨m1, ⟨m2, m3, m4⟩, ⟨m5, m6⟩, ⟨m7, m8⟩, m9, m10⟩, ⟨o1, ⟨o2, o3, o4⟩, ⟨o5, o6, o7⟩, ⟨o8, o9, o10⟩, o11, o12⟩, ⟨b1, ⟨b2, b3⟩, ⟨b4, b5, b6⟩, b7, b8, b9⟩, ⟨j1, ⟨j2, j3, j4, j5, j6, j7, j8⟩, ⟨j9, j10⟩, j11⟩⟩ := hS
    obtain ⟨a, c, g1, g2, g3, g4, g5, g6, g7, g8, g9⟩ := hT0.2.2.2.2.2.1 N e1 (by omega)
    have f1 : hr h (w + 5) N = some a := (E9 _ _ (fun z => by unfold PQ at z; omega)).trans g1
    refine wp_iload d_91_44 (by rfl) ?_
    refine wp_aload_n d_91_46 (by rfl) ?_
    refine wp_getI (7) d_91_47 fl_10_40 rfl rfl (by assumption) (fun x_47 e_47 r_47 => ?_)
    (try rw [E8 _ _ p1] at e_47)
    refine wp_icmp_ge (tgt := 114) d_91_50 (by decide) (by omega) (by omega) (fun c_50 => ?_) (fun c_50 => ?_)
    · exact absurd c_50 (by omega)
    refine wp_aload_n d_91_53 (by rfl) ?_
    refine wp_getR (3) d_91_54 fl_10_45 rfl rfl (by assumption) (by assumption) ?_
    refine wp_iload d_91_57 (by rfl) ?_
    refine wp_aald d_91_59 (by first | omega | (simp only [kd_setI, kd_cpI]; omega)) (by first | omega | (simp only [kd_setI, kd_cpI]; omega)) (by apply isRf_of; assumption; rfl) (by omega) (by omega) (by assumption) ?_
    refine wp_astore d_91_60 (by decide) ?_
    refine wp_iload d_91_62 (by rfl) ?_
    refine wp_istore d_91_64 (by decide) ?_
    refine wp_to [some (vR (some (w + 6))), some (vR (some (w + 1))), some (vI S), some (vI U), some (vI A), some (vI B), some (vI N), some (vR (some a)), some (vI A)] ⟨rfl, rfl, rfl, rfl, rfl, rfl, rfl, rfl, rfl, trivial⟩ ?_
    refine l_colI hS0 hT0 hSU hA hB hAB hBr ⟨e1, by omega⟩ g1 g4 ⟨g2, g3⟩ g6 g9 ⟨g7, g8⟩ (B + 1 - A).toNat A h (by omega) (by omega) (Or.inr rfl) E I (fun h' E' I' => ?_)
    refine wp_iinc d_91_108 (by rfl) (by decide) ?_
    refine wp_goto (tgt := 44) d_91_111 (by decide) ?_
    refine wp_to [some (vR (some (w + 6))), some (vR (some (w + 1))), some (vI S), some (vI U), some (vI A), some (vI B), some (vI (N + 1)), none, none] ⟨rfl, rfl, rfl, rfl, rfl, rfl, rfl, trivial⟩ ?_
    exact ih (N + 1) h' (by omega) (by omega) E' I' kq
set_option maxRecDepth 100000 in
set_option maxHeartbeats 4000000 in
theorem s_collect {w X : Nat} {S U : Int} {h0 : Hp} (hS0 : Sk h0 w) (hT0 : TT h0 w X) (hSr : -10000 ≤ S ∧ S ≤ U) (hUr : U ≤ 1000000) (hSU : U - S ≤ 5760) : wp 91 0 (entL [vR (some (w + 6)), vR (some (w + 1)), vI S, vI U] (mL 91)) [] h0 (fun v h' => v = none ∧ ch (PC w) (PQ w) h0 h' ∧ RunsOk h' w ∧ ∀ t d a, 0 ≤ t → t < hi h0 (w + 1) 7 → Cd h0 w S U t d a → Rc h' w (rnB h0 a (baseOf h0 a d))) noX := by
  have hS := hS0
  obtain ⟨⟨k1, k2, k3, k4, k5, k6, k7⟩, ⟨n1, ⟨n2, n3, n4, n5⟩, ⟨n6, n7⟩, ⟨n8, n9⟩, ⟨n10, n11⟩, n12, n13⟩, ⟨m1, ⟨m2, m3, m4⟩, ⟨m5, m6⟩, ⟨m7, m8⟩, m9, m10⟩, ⟨o1, ⟨o2, o3, o4⟩, ⟨o5, o6, o7⟩, ⟨o8, o9, o10⟩, o11, o12⟩, ⟨b1, ⟨b2, b3⟩, ⟨b4, b5, b6⟩, b7, b8, b9⟩, ⟨j1, ⟨j2, j3, j4, j5, j6, j7, j8⟩, ⟨j9, j10⟩, j11⟩⟩ := hS
  have hX := hT0.2.2.2.2.2.2
  have hS1 : Sk (setI h0 (w + 6) 3 0) w := hS0.kept (ch_setI (P := PC w) (R := PQ w) (Or.inl rfl)).fm ((PCoff (X := X)).pr hX.2) (by omega)
  have hT1 : TT (setI h0 (w + 6) 3 0) w X := hT0.kept (ch_setI (P := PC w) (R := PQ w) (Or.inl rfl)).fm PCoff
  refine wp_aload_n d_91_0 (by rfl) ?_
  refine wp_iconst d_91_1 ?_
  refine wp_putI (3) d_91_2 fl_10_24 rfl rfl (Or.inl (by rfl)) (by assumption) (by omega) (fun q => nomatch q) ?_
  refine wp_iconst d_91_5 ?_
  refine wp_iload_n d_91_6 (by rfl) ?_
  refine wp_sipush d_91_7 (by decide) ?_
  refine wp_isub d_91_10 ?_
  refine wp_sipush d_91_11 (by decide) ?_
  refine wp_isub d_91_14 ?_
  refine wp_sipush d_91_15 (by decide) ?_
  refine wp_callS d_91_18 c_91_28 rfl (by rfl) (by rfl) (by exact Nat.le_of_ble_eq_true rfl) (by exact Nat.le_of_ble_eq_true rfl) (s_floorDiv (by omega) (by omega) (by omega)) (fun v_18 h_18 q_18 => ?_) (fun _ _ q => q.elim)
  obtain ⟨rfl, z_18⟩ := q_18
  replace z_18 := z_18.symm
  subst z_18
  refine wp_callS d_91_21 c_91_34 rfl (by rfl) (by rfl) (by exact Nat.le_of_ble_eq_true rfl) (by exact Nat.le_of_ble_eq_true rfl) (s_max (by omega) (by omega)) (fun v_21 h_21 q_21 => ?_) (fun _ _ q => q.elim)
  obtain ⟨rfl, z_21⟩ := q_21
  replace z_21 := z_21.symm
  subst z_21
  refine wp_istore d_91_24 (by decide) ?_
  refine wp_sipush d_91_26 (by decide) ?_
  refine wp_iload_n d_91_29 (by rfl) ?_
  refine wp_sipush d_91_30 (by decide) ?_
  refine wp_callS d_91_33 c_91_28 rfl (by rfl) (by rfl) (by exact Nat.le_of_ble_eq_true rfl) (by exact Nat.le_of_ble_eq_true rfl) (s_floorDiv (by omega) (by omega) (by omega)) (fun v_33 h_33 q_33 => ?_) (fun _ _ q => q.elim)
  obtain ⟨rfl, z_33⟩ := q_33
  replace z_33 := z_33.symm
  subst z_33
  refine wp_callS d_91_36 c_91_37 rfl (by rfl) (by rfl) (by exact Nat.le_of_ble_eq_true rfl) (by exact Nat.le_of_ble_eq_true rfl) (s_min (by omega) (by omega)) (fun v_36 h_36 q_36 => ?_) (fun _ _ q => q.elim)
  obtain ⟨rfl, z_36⟩ := q_36
  replace z_36 := z_36.symm
  subst z_36
  refine wp_istore d_91_39 (by decide) ?_
  refine wp_iconst d_91_41 ?_
  refine wp_istore d_91_42 (by decide) ?_
  refine wp_to [some (vR (some (w + 6))), some (vR (some (w + 1))), some (vI S), some (vI U), some (vI (max 0 ((S - 2879 - 180) / 1440))), some (vI (min 365 (U / 1440))), some (vI 0), none, none] ⟨rfl, rfl, rfl, rfl, rfl, rfl, rfl, trivial⟩ ?_
  have e1 : hi (setI h0 (w + 6) 3 0) (w + 1) = hi h0 (w + 1) := hi_setI_ne (by omega)
  have t3 := hT1.2.2.1
  have t30 := hT0.2.2.1
  refine l_colO hS1 hT1 ⟨⟨by omega, by omega⟩, ⟨by omega, by omega⟩⟩ ⟨by omega, by omega⟩ (by omega) (by omega) ⟨by omega, by omega⟩ (hi (setI h0 (w + 6) 3 0) (w + 1) 7).toNat 0 _ (by omega) (by omega) ch.rfl ⟨⟨by rw [hi_upF, upF_same]; omega, by rw [hi_upF, upF_same]; omega⟩, fun k k0 k1 => by rw [hi_upF, upF_same] at k1; omega, fun t d a z1 z2 z3 => by omega⟩ (fun h' E I => ?_)
  have E0 : ch (PC w) (PQ w) h0 h' := (ch_setI (Or.inl rfl)).trans E
  obtain ⟨I1, I2, I3⟩ := I
  have kk : ∀ {t d : Int} {a : Nat}, 0 ≤ t → t < hi h0 (w + 1) 7 → hr h0 (w + 5) t = some a → (hasRn (setI h0 (w + 6) 3 0) a d ↔ hasRn h0 a d) ∧ rnB (setI h0 (w + 6) 3 0) a = rnB h0 a ∧ baseOf (setI h0 (w + 6) 3 0) a = baseOf h0 a := fun z0 z1 z2 => hasRn.kept hT0 (ch_setI (P := PC w) (R := PQ w) (Or.inl rfl)).fm PCoff z0 z1 z2
  rw [e1] at I1 I2 I3
  have cdE : ∀ t d a, 0 ≤ t → t < hi h0 (w + 1) 7 → (Cd (setI h0 (w + 6) 3 0) w S U t d a ↔ Cd h0 w S U t d a) := fun t d a z0 z1 => by
    have hne : ∀ {y : Nat}, hr h0 (w + 5) t = some y → w + 154 ≤ y := fun q => by
      obtain ⟨a', c, g1, g2, -⟩ := hT0.2.2.2.2.2.1 t z0 z1
      cases q.symm.trans g1
      exact g2
    unfold Cd
    constructor
    · rintro ⟨y1, y2, y3, y4, y5⟩
      have k9 := kk (d := d) z0 z1 y1
      have h9 := hne y1
      rw [k9.2.2, hi_setI_ne (by omega)] at y4
      rw [k9.2.2, hi_setI_ne (by omega), hi_setI_ne (by omega)] at y5
      rw [hi_setI_ne (by omega)] at y3
      exact ⟨y1, k9.1.mp y2, y3, y4, y5⟩
    · rintro ⟨y1, y2, y3, y4, y5⟩
      have k9 := kk (d := d) z0 z1 y1
      have h9 := hne y1
      refine ⟨y1, k9.1.mpr y2, ?_, ?_, ?_⟩
      · rw [hi_setI_ne (by omega)]; exact y3
      · rw [k9.2.2, hi_setI_ne (by omega)]; exact y4
      · rw [k9.2.2, hi_setI_ne (by omega), hi_setI_ne (by omega)]; exact y5
  have q1 : hi h' (w + 1) = hi h0 (w + 1) := funext fun z => E0.2.2.2.2.2.2.2.1 _ z (fun y => by unfold PC at y; omega)
  have q5 : hr h' (w + 5) = hr h0 (w + 5) := funext fun z => E0.2.2.2.2.2.2.2.2 _ z (fun y => by unfold PQ at y; omega)
  refine ⟨rfl, E0, ⟨⟨I1.1, by omega⟩, fun k k0 k1 => ?_⟩, fun t d a z0 z1 z2 => ?_⟩
  · obtain ⟨t, a, y1, y2, y3, y4, y5⟩ := I2 k k0 k1
    have y6 := (cdE _ _ _ y1 y2).mp y3
    have k9 := hasRn.kept hT0 E0.fm PCoff (d := hi h' (w + 8) k) y1 y2 y6.1
    refine ⟨t, a, y1, by rw [q1]; exact y2, by rw [q5]; exact y6.1, y4, k9.1.mpr y6.2.1, ?_⟩
    rw [k9.2.2, y5]
    exact congrFun (kk (d := 0) y1 y2 y6.1).2.2 _
  · obtain ⟨a', c, g1, g2, g3, g4, -⟩ := hT0.2.2.2.2.2.1 t z0 z1
    have y9 := z2
    obtain ⟨y1, ⟨y2, y3, -⟩, y4, y5, y6⟩ := z2
    cases y1.symm.trans g1
    have g7 := g4.2.2.2.2.2.2.1 d y2.1 y2.2
    have b0 := g4.2.2.2.2.1 0 (by decide) (by omega)
    have bl := g4.2.2.2.2.1 (hi h0 a 7 - 1) (by omega) (by omega)
    unfold baseOf at y5 y6
    obtain ⟨k, k0, k1, k2, k3⟩ := I3 t d a z0 z1 (Or.inl z1) (by omega) (by omega) ((cdE _ _ _ z0 z1).mpr y9)
    refine ⟨k, a, k0, k1, k2, ?_⟩
    rw [k3, (hasRn.kept hT0 E0.fm PCoff (d := d) z0 z1 y1).2.1]
    exact (congrArg (rnB h0 a) (congrFun (kk (d := d) z0 z1 y1).2.2 d)).symm
end
section
set_option maxRecDepth 100000 in
theorem cd_82 : cdP 82 := ⟨okr (k := 221) rfl (by decide +kernel), by decide +kernel, by decide +kernel, okk_w (k := 36) (by decide +kernel)⟩
set_option maxRecDepth 100000 in
theorem cd_84 : cdP 84 := ⟨okr (k := 233) rfl (by decide +kernel), by decide +kernel, by decide +kernel, okk_w (k := 36) (by decide +kernel)⟩
set_option maxRecDepth 100000 in
theorem cd_86 : cdP 86 := ⟨okr (k := 241) rfl (by decide +kernel), by decide +kernel, by decide +kernel, okk_w (k := 36) (by decide +kernel)⟩
set_option maxRecDepth 100000 in
theorem c_80_42 : cvP 80 42 82 2 := ⟨cd_82, okk_w (k := 218) (by decide +kernel), okk_w (k := 220) (by decide +kernel), okk_w (k := 5) (by decide +kernel), by decide +kernel, by decide +kernel⟩
set_option maxRecDepth 100000 in
theorem c_80_52 : cvP 80 52 84 2 := ⟨cd_84, okk_w (k := 230) (by decide +kernel), okk_w (k := 232) (by decide +kernel), okk_w (k := 7) (by decide +kernel), by decide +kernel, by decide +kernel⟩
set_option maxRecDepth 100000 in
theorem c_80_56 : cvP 80 56 86 2 := ⟨cd_86, okk_w (k := 238) (by decide +kernel), okk_w (k := 240) (by decide +kernel), okk_w (k := 9) (by decide +kernel), by decide +kernel, by decide +kernel⟩
set_option maxRecDepth 100000 in
theorem d_80_39 : decode (mB 80) 39 = .ok (.iload 7, 2) := by decide +kernel
set_option maxRecDepth 100000 in
theorem d_80_41 : decode (mB 80) 41 = .ok (.bipush 6, 2) := by decide +kernel
set_option maxRecDepth 100000 in
theorem d_80_43 : decode (mB 80) 43 = .ok (.if_icmp .gt 90, 3) := by decide +kernel
set_option maxRecDepth 100000 in
theorem d_80_46 : decode (mB 80) 46 = .ok (.aload_n 0, 1) := by decide +kernel
set_option maxRecDepth 100000 in
theorem d_80_47 : decode (mB 80) 47 = .ok (.getfield 11, 3) := by decide +kernel
set_option maxRecDepth 100000 in
theorem d_80_50 : decode (mB 80) 50 = .ok (.iload 7, 2) := by decide +kernel
set_option maxRecDepth 100000 in
theorem d_80_52 : decode (mB 80) 52 = .ok (.iconst 1, 1) := by decide +kernel
set_option maxRecDepth 100000 in
theorem d_80_53 : decode (mB 80) 53 = .ok (.isub, 1) := by decide +kernel
set_option maxRecDepth 100000 in
theorem d_80_54 : decode (mB 80) 54 = .ok (.aaload, 1) := by decide +kernel
set_option maxRecDepth 100000 in
theorem d_80_55 : decode (mB 80) 55 = .ok (.iconst 0, 1) := by decide +kernel
set_option maxRecDepth 100000 in
theorem d_80_56 : decode (mB 80) 56 = .ok (.aload_n 0, 1) := by decide +kernel
set_option maxRecDepth 100000 in
theorem d_80_57 : decode (mB 80) 57 = .ok (.getfield 11, 3) := by decide +kernel
set_option maxRecDepth 100000 in
theorem d_80_60 : decode (mB 80) 60 = .ok (.iload 7, 2) := by decide +kernel
set_option maxRecDepth 100000 in
theorem d_80_62 : decode (mB 80) 62 = .ok (.aaload, 1) := by decide +kernel
set_option maxRecDepth 100000 in
theorem d_80_63 : decode (mB 80) 63 = .ok (.iconst 0, 1) := by decide +kernel
set_option maxRecDepth 100000 in
theorem d_80_64 : decode (mB 80) 64 = .ok (.bipush 16, 2) := by decide +kernel
set_option maxRecDepth 100000 in
theorem d_80_66 : decode (mB 80) 66 = .ok (.invokestatic 46, 3) := by decide +kernel
set_option maxRecDepth 100000 in
theorem d_80_69 : decode (mB 80) 69 = .ok (.aload_n 0, 1) := by decide +kernel
set_option maxRecDepth 100000 in
theorem d_80_70 : decode (mB 80) 70 = .ok (.getfield 16, 3) := by decide +kernel
set_option maxRecDepth 100000 in
theorem d_80_73 : decode (mB 80) 73 = .ok (.iload 7, 2) := by decide +kernel
set_option maxRecDepth 100000 in
theorem d_80_75 : decode (mB 80) 75 = .ok (.iconst 1, 1) := by decide +kernel
set_option maxRecDepth 100000 in
theorem d_80_76 : decode (mB 80) 76 = .ok (.isub, 1) := by decide +kernel
set_option maxRecDepth 100000 in
theorem d_80_77 : decode (mB 80) 77 = .ok (.aaload, 1) := by decide +kernel
set_option maxRecDepth 100000 in
theorem d_80_78 : decode (mB 80) 78 = .ok (.iconst 0, 1) := by decide +kernel
set_option maxRecDepth 100000 in
theorem d_80_79 : decode (mB 80) 79 = .ok (.aload_n 0, 1) := by decide +kernel
set_option maxRecDepth 100000 in
theorem d_80_80 : decode (mB 80) 80 = .ok (.getfield 16, 3) := by decide +kernel
set_option maxRecDepth 100000 in
theorem d_80_83 : decode (mB 80) 83 = .ok (.iload 7, 2) := by decide +kernel
set_option maxRecDepth 100000 in
theorem d_80_85 : decode (mB 80) 85 = .ok (.aaload, 1) := by decide +kernel
set_option maxRecDepth 100000 in
theorem d_80_86 : decode (mB 80) 86 = .ok (.iconst 0, 1) := by decide +kernel
set_option maxRecDepth 100000 in
theorem d_80_87 : decode (mB 80) 87 = .ok (.bipush 16, 2) := by decide +kernel
set_option maxRecDepth 100000 in
theorem d_80_89 : decode (mB 80) 89 = .ok (.invokestatic 46, 3) := by decide +kernel
set_option maxRecDepth 100000 in
theorem d_80_92 : decode (mB 80) 92 = .ok (.iload 6, 2) := by decide +kernel
set_option maxRecDepth 100000 in
theorem d_80_94 : decode (mB 80) 94 = .ok (.ifCond .eq 33, 3) := by decide +kernel
set_option maxRecDepth 100000 in
theorem d_80_97 : decode (mB 80) 97 = .ok (.aload_n 0, 1) := by decide +kernel
set_option maxRecDepth 100000 in
theorem d_80_98 : decode (mB 80) 98 = .ok (.aload_n 2, 1) := by decide +kernel
set_option maxRecDepth 100000 in
theorem d_80_99 : decode (mB 80) 99 = .ok (.aload_n 0, 1) := by decide +kernel
set_option maxRecDepth 100000 in
theorem d_80_100 : decode (mB 80) 100 = .ok (.getfield 16, 3) := by decide +kernel
set_option maxRecDepth 100000 in
theorem d_80_103 : decode (mB 80) 103 = .ok (.iload 7, 2) := by decide +kernel
set_option maxRecDepth 100000 in
theorem d_80_105 : decode (mB 80) 105 = .ok (.iconst 1, 1) := by decide +kernel
set_option maxRecDepth 100000 in
theorem d_80_106 : decode (mB 80) 106 = .ok (.isub, 1) := by decide +kernel
set_option maxRecDepth 100000 in
theorem d_80_107 : decode (mB 80) 107 = .ok (.aaload, 1) := by decide +kernel
set_option maxRecDepth 100000 in
theorem d_80_108 : decode (mB 80) 108 = .ok (.invokevirtual 52, 3) := by decide +kernel
set_option maxRecDepth 100000 in
theorem d_80_111 : decode (mB 80) 111 = .ok (.istore 6, 2) := by decide +kernel
set_option maxRecDepth 100000 in
theorem d_80_113 : decode (mB 80) 113 = .ok (.aload_n 0, 1) := by decide +kernel
set_option maxRecDepth 100000 in
theorem d_80_114 : decode (mB 80) 114 = .ok (.aload_n 1, 1) := by decide +kernel
set_option maxRecDepth 100000 in
theorem d_80_115 : decode (mB 80) 115 = .ok (.iload 7, 2) := by decide +kernel
set_option maxRecDepth 100000 in
theorem d_80_117 : decode (mB 80) 117 = .ok (.invokevirtual 56, 3) := by decide +kernel
set_option maxRecDepth 100000 in
theorem d_80_120 : decode (mB 80) 120 = .ok (.aload_n 0, 1) := by decide +kernel
set_option maxRecDepth 100000 in
theorem d_80_121 : decode (mB 80) 121 = .ok (.aload_n 1, 1) := by decide +kernel
set_option maxRecDepth 100000 in
theorem d_80_122 : decode (mB 80) 122 = .ok (.iload 7, 2) := by decide +kernel
set_option maxRecDepth 100000 in
theorem d_80_124 : decode (mB 80) 124 = .ok (.invokevirtual 42, 3) := by decide +kernel
set_option maxRecDepth 100000 in
theorem d_80_127 : decode (mB 80) 127 = .ok (.iinc 7 1, 3) := by decide +kernel
set_option maxRecDepth 100000 in
theorem d_80_130 : decode (mB 80) 130 = .ok (.goto (-91), 3) := by decide +kernel
set_option maxRecDepth 100000 in
theorem d_80_133 : decode (mB 80) 133 = .ok (.return_, 1) := by decide +kernel
end
section
/-! ===== seek onwards ===== -/
theorem cp_nat : okw (.native arraycopyName) := okk_w (k := 229) (by decide +kernel)
theorem cp_sta : okw (.static arraycopyName) := okk_w (k := 228) (by decide +kernel)
theorem cp_ini : okw (.initialized "java/lang/System") := okk_w (k := 52) (by decide +kernel)
theorem cp_WhistleStopOnward_46 : okw (.methodLink "WhistleStop$Onward" 46 arraycopyName) := okk_w (k := 227) (by decide +kernel)
theorem cp_javautilArrays_150 : okw (.methodLink "java/util/Arrays" 150 arraycopyName) := okk_w (k := 300) (by decide +kernel)
theorem cp_WhistleStopOffers_31 : okw (.methodLink "WhistleStop$Offers" 31 arraycopyName) := okk_w (k := 301) (by decide +kernel)
theorem cp_WhistleStopBackward_43 : okw (.methodLink "WhistleStop$Backward" 43 arraycopyName) := okk_w (k := 355) (by decide +kernel)
theorem JR.ge {n : Int} {c : Int → Int} {W : Int → Int → Int → Prop} {R : Rn → Prop} {o T L : Int} (N : Net n c W R) (ho : 0 ≤ o ∧ o < n) {k : Nat} {s t p : Int} (h : JR c W R o T L k s t p) : T ≤ t := by
  obtain ⟨s', t', ha, hb⟩ := h
  have a1 := JA.ge N ho _ _ _ _ ha
  have a2 := N.1 s' (JA.range N ho _ _ _ _ ha).1 (JA.range N ho _ _ _ _ ha).2
  rcases hb with ⟨-, hb⟩ | ⟨m, hw, hb, -⟩
  · split at hb <;> omega
  · have := (N.2.1 _ _ _ hw).2.2.1
    omega
theorem Exact.bd {n : Int} {c : Int → Int} {W : Int → Int → Int → Prop} {R : Rn → Prop} {o T L : Int} (N : Net n c W R) (ho : 0 ≤ o ∧ o < n) (hT : 0 ≤ T) (hTL : T ≤ L) (hL : L ≤ 1000000) {k : Nat} {f y e : Int → Int} (E : Exact n c W R o T L k f y e) : Bd n f ∧ Bd n y ∧ Bd n e := by
  obtain ⟨s1, c1, s2, c2, s3, c3, i1, i2⟩ := E
  have F : Bd n f := fun s h0 h1 => by
    have := (i1 s h0 h1).1
    rcases s1 s h0 h1 with h | ⟨j, p, -, h⟩
    · omega
    · have := (JA.ge N ho _ _ _ _ h).1
      omega
  refine ⟨F, fun s h0 h1 => ?_, fun s h0 h1 => ?_⟩
  · have a1 := F s h0 h1
    have a2 := i1 s h0 h1
    have a3 := N.1 s h0 h1
    rcases s2 s h0 h1 with h | ⟨j, p, -, h⟩
    · omega
    · have := JR.ge N ho h
      omega
  · rcases s3 s h0 h1 with h | ⟨j, p, -, h⟩
    · omega
    · have := (JE.ge N ho h).1
      have := JE.le hTL h
      omega
theorem RideR.bd {n : Int} {c : Int → Int} {W : Int → Int → Int → Prop} {R : Rn → Prop} {L : Int} {y f f' : Int → Int} (N : Net n c W R) (hf : Bd n f) (h : RideR n R L y f f') : Bd n f' := fun s h0 h1 => by
  have a1 := hf s h0 h1
  obtain ⟨a2, a3⟩ := h.1 s h0 h1
  rcases a3 with e | ⟨r, i, j, hR, g0, g1, g2, -, -, g5, -⟩
  · omega
  · have := ((N.2.2.2 r hR).2.1 j (by omega) g2).2.1
    omega
theorem Exact.congr {n : Int} {c : Int → Int} {W : Int → Int → Int → Prop} {R : Rn → Prop} {o T L : Int} (N : Net n c W R) (ho : 0 ≤ o ∧ o < n) {k : Nat} {f y e f' y' e' : Int → Int} (E : Exact n c W R o T L k f y e) (hf : ∀ s, 0 ≤ s → s < n → f' s = f s) (hy : ∀ s, 0 ≤ s → s < n → y' s = y s) (he : ∀ s, 0 ≤ s → s < n → e' s = e s) : Exact n c W R o T L k f' y' e' := by
  obtain ⟨s1, c1, s2, c2, s3, c3, i1, i2⟩ := E
  refine ⟨fun s h0 h1 => by rw [hf s h0 h1]; exact s1 s h0 h1, fun j s t p hj h => ?_, fun s h0 h1 => by rw [hy s h0 h1]; exact s2 s h0 h1, fun j s t p hj h => ?_, fun s h0 h1 => by rw [he s h0 h1]; exact s3 s h0 h1, fun j s t p hj h => ?_, fun s h0 h1 => by rw [hf s h0 h1, hy s h0 h1]; exact i1 s h0 h1, fun s s' m hw hl => ?_⟩
  · have hr := JA.range N ho _ _ _ _ h
    rw [hf s hr.1 hr.2]; exact c1 j s t p hj h
  · have hr := JR.range N ho h
    rw [hy s hr.1 hr.2]; exact c2 j s t p hj h
  · have hr := JE.range N ho h
    rw [he s hr.1 hr.2]; exact c3 j s t p hj h
  · have b := N.2.1 _ _ _ hw
    rw [hf s b.1.1 b.1.2] at hl ⊢
    rw [hy s' b.2.1.1 b.2.1.2]
    exact i2 _ _ _ hw hl
theorem Closed.congr {n : Int} {c : Int → Int} {W : Int → Int → Int → Prop} {R : Rn → Prop} {L : Int} (N : Net n c W R) {f y f' y' : Int → Int} (h : Closed R L f y) (hf : ∀ s, 0 ≤ s → s < n → f' s = f s) (hy : ∀ s, 0 ≤ s → s < n → y' s = y s) : Closed R L f' y' := by
  intro r i j hR h0 h1 h2 h3 h4
  have b1 := ((N.2.2.2 r hR).2.1 i h0 (by omega)).1
  have b2 := ((N.2.2.2 r hR).2.1 j (by omega) h2).1
  rw [hy _ b1.1 b1.2] at h3
  rw [hf _ b2.1 b2.2]
  exact h r i j hR h0 h1 h2 h3 h4
/-- the rows of the search onwards -/
def PS (w : Nat) : Nat → Prop := fun a => w + 14 ≤ a ∧ a ≤ w + 29
theorem PSoff {w X : Nat} : Off w X (PS w) nP := ⟨fun a z => by unfold PS at z; omega, fun a z => z.elim⟩
/-- behind K rounds -/
def SkI (hc h : Hp) (w : Nat) (o T : Int) (K : Nat) (b : Int) : Prop := ch (PS w) nP hc h ∧
  (∀ k : Nat, k ≤ K → ∃ f y, Exact (hi hc (w + 1) 4) (hi hc (w + 2)) (Wy hc w) (Rc hc w) o T (hi hc (w + 12) 3) k f y (hi h (w + 14 + k))) ∧
  Exact (hi hc (w + 1) 4) (hi hc (w + 2)) (Wy hc w) (Rc hc w) o T (hi hc (w + 12) 3) K (hi h (w + 29)) (hi h (w + 22 + K)) (hi h (w + 14 + K)) ∧
  ((∀ s, 0 ≤ s → s < hi hc (w + 1) 4 → hi h (w + 14 + K) s ≤ hi h (w + 29) s) ∧ ∀ s' s m, Wy hc w s' s m → hi h (w + 29) s' + m ≤ hi hc (w + 12) 3 → hi h (w + 14 + K) s ≤ hi h (w + 29) s' + m) ∧
  (b = 1 ∨ (b = 0 ∧ Closed (Rc hc w) (hi hc (w + 12) 3) (hi h (w + 29)) (hi h (w + 22 + K))))
set_option maxRecDepth 100000 in
set_option maxHeartbeats 4000000 in
theorem l_seek {w X : Nat} {o T : Int} {hc : Hp} (hS0 : Sk hc w) (hT0 : TT hc w X) (hR0 : RunsOk hc w) (ho : 0 ≤ o ∧ o < hi hc (w + 1) 4) (hT : 0 ≤ T ∧ T ≤ hi hc (w + 12) 3) (hL : hi hc (w + 12) 3 ≤ 999999) {Q : Option AV → Hp → Prop} : ∀ (m K : Nat) (b : Int) (h : Hp), K + m = 6 → SkI hc h w o T K b → (∀ h' b', SkI hc h' w o T 6 b' → Q none h') → wp 80 39 [some (vR (some (w + 12))), some (vR (some (w + 1))), some (vR (some (w + 6))), none, none, none, some (vI b), some (vI ((K : Int) + 1))] [] h Q noX := by
  intro m
  have N := hT0.net
  have hn := hT0.1
  have hX := hT0.2.2.2.2.2.2
  have NR : Net (hi hc (w + 1) 4) (hi hc (w + 2)) (Wy hc w) (Rc hc w) := ⟨N.1, N.2.1, N.2.2.1, fun r z => N.2.2.2 r (hR0.sub z)⟩
  induction m with
  | zero =>
    intro K b h e0 I kq
    obtain rfl : K = 6 := by omega
    have gb : b = 0 ∨ b = 1 := by rcases I.2.2.2.2 with z | z <;> omega
    refine wp_iload d_80_39 (by rfl) ?_
    refine wp_bipush d_80_41 (by decide) ?_
    refine wp_icmp_gt (tgt := 133) d_80_43 (by decide) (by omega) (by omega) (fun c_43 => ?_) (fun c_43 => ?_)
    rotate_left
    · exact absurd c_43 (by omega)
    refine wp_vret d_80_133 rfl ?_
    exact kq h b I
  | succ m ih =>
    intro K b h e0 I kq
    obtain ⟨E, I1, I2, I3, I4⟩ := I
    have gb : b = 0 ∨ b = 1 := by rcases I4 with z | z <;> omega
    have hS := hS0.ch E hT0
    have hS9 := hS
    obtain ⟨⟨k1, k2, k3, k4, k5, k6, k7⟩, ⟨n1, ⟨n2, n3, n4, n5⟩, ⟨n6, n7⟩, ⟨n8, n9⟩, ⟨n10, n11⟩, n12, n13⟩, ⟨m1, ⟨m2, m3, m4⟩, ⟨m5, m6⟩, ⟨m7, m8⟩, m9, m10⟩, ⟨o1, ⟨o2, o3, o4⟩, ⟨o5, o6, o7⟩, ⟨o8, o9, o10⟩, o11, o12⟩, ⟨b1, ⟨b2, b3⟩, ⟨b4, b5, b6⟩, b7, b8, b9⟩, ⟨j1, ⟨j2, j3, j4, j5, j6, j7, j8⟩, ⟨j9, j10⟩, j11⟩⟩ := hS
    have c1 : (K : Int) + 1 - 1 = (K : Int) := by omega
    obtain ⟨r1, r2, r3⟩ := o7 K (by omega)
    obtain ⟨r4, r5, r6⟩ := o10 K (by omega)
    obtain ⟨r7, r8, r9⟩ := o7 (K + 1) (by omega)
    obtain ⟨r10, r11, r12⟩ := o10 (K + 1) (by omega)
    have r1' : hr h (w + 13) ((K : Int) + 1 - 1) = some (w + 14 + K) := by rw [c1]; exact r1
    have r4' : hr h (w + 21) ((K : Int) + 1 - 1) = some (w + 22 + K) := by rw [c1]; exact r4
    have r7' : hr h (w + 13) ((K : Int) + 1) = some (w + 14 + (K + 1)) := r7
    have r10' : hr h (w + 21) ((K : Int) + 1) = some (w + 22 + (K + 1)) := r10
    refine wp_iload d_80_39 (by rfl) ?_
    refine wp_bipush d_80_41 (by decide) ?_
    refine wp_icmp_gt (tgt := 133) d_80_43 (by decide) (by first | omega | (simp only [ln_cpI]; omega)) (by first | omega | (simp only [ln_cpI]; omega)) (fun c_43 => ?_) (fun c_43 => ?_)
    · refine wp_vret d_80_133 rfl ?_
      exact absurd c_43 (by omega)
    · refine wp_aload_n d_80_46 (by rfl) ?_
      refine wp_getR (0) d_80_47 fl_9_11 rfl rfl (by first | assumption | (simp only [kd_cpI]; assumption)) (by first | assumption | (simp only [hr_cpI]; assumption)) ?_
      refine wp_iload d_80_50 (by rfl) ?_
      refine wp_iconst d_80_52 ?_
      refine wp_isub d_80_53 ?_
      refine wp_aald d_80_54 (by first | omega | (simp only [kd_setI, kd_cpI]; omega)) (by first | omega | (simp only [kd_setI, kd_cpI]; omega)) (by apply isRf_of; assumption; rfl) (by first | omega | (simp only [ln_cpI]; omega)) (by first | omega | (simp only [ln_cpI]; omega)) (by first | assumption | (simp only [hr_cpI]; assumption)) ?_
      refine wp_iconst d_80_55 ?_
      refine wp_aload_n d_80_56 (by rfl) ?_
      refine wp_getR (0) d_80_57 fl_9_11 rfl rfl (by first | assumption | (simp only [kd_cpI]; assumption)) (by first | assumption | (simp only [hr_cpI]; assumption)) ?_
      refine wp_iload d_80_60 (by rfl) ?_
      refine wp_aald d_80_62 (by first | omega | (simp only [kd_setI, kd_cpI]; omega)) (by first | omega | (simp only [kd_setI, kd_cpI]; omega)) (by apply isRf_of; assumption; rfl) (by first | omega | (simp only [ln_cpI]; omega)) (by first | omega | (simp only [ln_cpI]; omega)) (by first | assumption | (simp only [hr_cpI]; assumption)) ?_
      refine wp_iconst d_80_63 ?_
      refine wp_bipush d_80_64 (by decide) ?_
      refine wp_copy d_80_66 cp_WhistleStopOnward_46 cp_nat cp_sta cp_ini (by first | assumption | (simp only [kd_cpI]; assumption)) (by first | assumption | (simp only [kd_cpI]; assumption)) (by first | omega | (simp only [ln_cpI]; omega)) (by first | omega | (simp only [ln_cpI]; omega)) (by first | omega | (simp only [ln_cpI]; omega)) (by first | omega | (simp only [ln_cpI]; omega)) (by first | omega | (simp only [ln_cpI]; omega)) (by decide) (by decide) ?_
      refine wp_aload_n d_80_69 (by rfl) ?_
      refine wp_getR (1) d_80_70 fl_9_16 rfl rfl (by first | assumption | (simp only [kd_cpI]; assumption)) (by first | assumption | (simp only [hr_cpI]; assumption)) ?_
      refine wp_iload d_80_73 (by rfl) ?_
      refine wp_iconst d_80_75 ?_
      refine wp_isub d_80_76 ?_
      refine wp_aald d_80_77 (by first | omega | (simp only [kd_setI, kd_cpI]; omega)) (by first | omega | (simp only [kd_setI, kd_cpI]; omega)) (by apply isRf_of; assumption; rfl) (by first | omega | (simp only [ln_cpI]; omega)) (by first | omega | (simp only [ln_cpI]; omega)) (by first | assumption | (simp only [hr_cpI]; assumption)) ?_
      refine wp_iconst d_80_78 ?_
      refine wp_aload_n d_80_79 (by rfl) ?_
      refine wp_getR (1) d_80_80 fl_9_16 rfl rfl (by first | assumption | (simp only [kd_cpI]; assumption)) (by first | assumption | (simp only [hr_cpI]; assumption)) ?_
      refine wp_iload d_80_83 (by rfl) ?_
      refine wp_aald d_80_85 (by first | omega | (simp only [kd_setI, kd_cpI]; omega)) (by first | omega | (simp only [kd_setI, kd_cpI]; omega)) (by apply isRf_of; assumption; rfl) (by first | omega | (simp only [ln_cpI]; omega)) (by first | omega | (simp only [ln_cpI]; omega)) (by first | assumption | (simp only [hr_cpI]; assumption)) ?_
      refine wp_iconst d_80_86 ?_
      refine wp_bipush d_80_87 (by decide) ?_
      refine wp_copy d_80_89 cp_WhistleStopOnward_46 cp_nat cp_sta cp_ini (by first | assumption | (simp only [kd_cpI]; assumption)) (by first | assumption | (simp only [kd_cpI]; assumption)) (by first | omega | (simp only [ln_cpI]; omega)) (by first | omega | (simp only [ln_cpI]; omega)) (by first | omega | (simp only [ln_cpI]; omega)) (by first | omega | (simp only [ln_cpI]; omega)) (by first | omega | (simp only [ln_cpI]; omega)) (by decide) (by decide) ?_
      have E1 : ch (PS w) nP h (cpI (cpI h (w + 14 + K) 0 (w + 14 + (K + 1)) 0 16) (w + 22 + K) 0 (w + 22 + (K + 1)) 0 16) := (ch_cpI (P := PS w) (by unfold PS; omega)).trans (ch_cpI (P := PS w) (by unfold PS; omega))
      have u14 : ∀ q : Nat, q ≤ 6 → q ≠ K + 1 → hi (cpI (cpI h (w + 14 + K) 0 (w + 14 + (K + 1)) 0 16) (w + 22 + K) 0 (w + 22 + (K + 1)) 0 16) (w + 14 + q) = hi h (w + 14 + q) := fun q z1 z2 => funext fun x => by
        rw [hi_cpI]
        show (if _ then _ else _) = _
        rw [if_neg (fun y => absurd y.1 (by omega)), hi_cpI]
        show (if _ then _ else _) = _
        rw [if_neg (fun y => absurd y.1 (by omega))]
      have u22 : hi (cpI (cpI h (w + 14 + K) 0 (w + 14 + (K + 1)) 0 16) (w + 22 + K) 0 (w + 22 + (K + 1)) 0 16) (w + 22 + K) = hi h (w + 22 + K) := funext fun x => by
        rw [hi_cpI]
        show (if _ then _ else _) = _
        rw [if_neg (fun y => absurd y.1 (by omega)), hi_cpI]
        show (if _ then _ else _) = _
        rw [if_neg (fun y => absurd y.1 (by omega))]
      have u29 : hi (cpI (cpI h (w + 14 + K) 0 (w + 14 + (K + 1)) 0 16) (w + 22 + K) 0 (w + 22 + (K + 1)) 0 16) (w + 29) = hi h (w + 29) := funext fun x => by
        rw [hi_cpI]
        show (if _ then _ else _) = _
        rw [if_neg (fun y => absurd y.1 (by omega)), hi_cpI]
        show (if _ then _ else _) = _
        rw [if_neg (fun y => absurd y.1 (by omega))]
      have v14 : ∀ s, 0 ≤ s → s < 16 → hi (cpI (cpI h (w + 14 + K) 0 (w + 14 + (K + 1)) 0 16) (w + 22 + K) 0 (w + 22 + (K + 1)) 0 16) (w + 14 + (K + 1)) s = hi h (w + 14 + K) s := fun s z1 z2 => by
        rw [hi_cpI]
        show (if _ then _ else _) = _
        rw [if_neg (fun y => absurd y.1 (by omega)), hi_cpI]
        show (if _ then _ else _) = _
        rw [if_pos ⟨rfl, by omega, by omega⟩, show (0 : Int) + (s - 0) = s by omega]
      have v22 : ∀ s, 0 ≤ s → s < 16 → hi (cpI (cpI h (w + 14 + K) 0 (w + 14 + (K + 1)) 0 16) (w + 22 + K) 0 (w + 22 + (K + 1)) 0 16) (w + 22 + (K + 1)) s = hi h (w + 22 + K) s := fun s z1 z2 => by
        rw [hi_cpI]
        show (if _ then _ else _) = _
        rw [if_pos ⟨rfl, by omega, by omega⟩, hi_cpI, show (0 : Int) + (s - 0) = s by omega]
        show (if _ then _ else _) = _
        rw [if_neg (fun y => absurd y.1 (by omega))]
      have hS1 := hS9.ch E1 (hT0.kept E.fm PSoff)
      have E2 := E.trans E1
      have r4b : hr (cpI (cpI h (w + 14 + K) 0 (w + 14 + (K + 1)) 0 16) (w + 22 + K) 0 (w + 22 + (K + 1)) 0 16) (w + 21) ((K : Int) + 1 - 1) = some (w + 22 + K) := r4'
      have kob : kd (cpI (cpI h (w + 14 + K) 0 (w + 14 + (K + 1)) 0 16) (w + 22 + K) 0 (w + 22 + (K + 1)) 0 16) (w + 12) = 10 := o1
      have k21b : kd (cpI (cpI h (w + 14 + K) 0 (w + 14 + (K + 1)) 0 16) (w + 22 + K) 0 (w + 22 + (K + 1)) 0 16) (w + 21) = 103 := o8
      have l21b : ln (cpI (cpI h (w + 14 + K) 0 (w + 14 + (K + 1)) 0 16) (w + 22 + K) 0 (w + 22 + (K + 1)) 0 16) (w + 21) = 7 := o9
      have o3b : hr (cpI (cpI h (w + 14 + K) 0 (w + 14 + (K + 1)) 0 16) (w + 22 + K) 0 (w + 22 + (K + 1)) 0 16) (w + 12) 1 = some (w + 21) := o3
      generalize (cpI (cpI h (w + 14 + K) 0 (w + 14 + (K + 1)) 0 16) (w + 22 + K) 0 (w + 22 + (K + 1)) 0 16) = g at *
      refine wp_iload d_80_92 (by rfl) ?_
      refine wp_if_eq (tgt := 127) d_80_94 (by decide) (by first | omega | (simp only [ln_cpI]; omega)) (fun c_94 => ?_) (fun c_94 => ?_)
      · refine wp_iinc d_80_127 (by rfl) (by decide) ?_
        refine wp_goto (tgt := 39) d_80_130 (by decide) ?_
        first
          | (have gb1 : b1 = 0 ∨ b1 = 1 := by rcases J2 with z | z <;> omega
             refine wp_to [some (vR (some (w + 12))), some (vR (some (w + 1))), some (vR (some (w + 6))), none, none, none, some (vI b1), some (vI (((K + 1 : Nat) : Int) + 1))] ⟨rfl, rfl, rfl, rfl, rfl, trivial⟩ ?_
             refine ih (K + 1) b1 _ (by omega) ⟨gE5, fun k hk => ?_, ?_, ⟨fun s z0 z1 => ?_, fun s' s m hw hl => ?_⟩, ?_⟩ kq
             · by_cases hkk : k = K + 1
               · subst hkk
                 exact ⟨_, _, X9.1⟩
               · obtain ⟨f, y, z⟩ := I1 k (by omega)
                 have zz : hi h_124 (w + 14 + k) = hi h (w + 14 + k) := funext fun x => (E5.2.2.2.2.2.2.2.1 _ _ (by unfold PW; omega)).trans ((E4.2.2.2.2.2.2.2.1 _ _ (by unfold PW; omega)).trans ((E3.2.2.2.2.2.2.2.1 _ _ (by omega)).trans (congrFun (u14 k (by omega) hkk) x)))
                 exact ⟨f, y, by rw [zz]; exact z⟩
             · rw [f5]; exact X9.1
             · rw [f5]
               have := (J4.1 s z0 z1).1
               rw [(J3 s z0 (by omega)).1, if_pos z1] at this
               omega
             · rw [f5] at hl ⊢
               exact J4.2 _ _ _ hw hl
             · rcases J2 with ⟨z1, z2⟩ | z1
               · exact Or.inr ⟨z1, by rw [f5]; exact X9.2 z2⟩
               · exact Or.inl z1)
          | (refine wp_to [some (vR (some (w + 12))), some (vR (some (w + 1))), some (vR (some (w + 6))), none, none, none, some (vI b), some (vI (((K + 1 : Nat) : Int) + 1))] ⟨rfl, rfl, rfl, rfl, rfl, trivial⟩ ?_
             have I4' : Closed (Rc hc w) (hi hc (w + 12) 3) (hi h (w + 29)) (hi h (w + 22 + K)) := by
               rcases I4 with z | z
               · omega
               · exact z.2
             refine ih (K + 1) b _ (by omega) ⟨E2, fun k hk => ?_, ?_, ⟨fun s z0 z1 => ?_, fun s' s m hw hl => ?_⟩, Or.inr ⟨by omega, ?_⟩⟩ kq
             · by_cases hkk : k = K + 1
               · subst hkk
                 exact ⟨_, _, (I2.skip NR ho I4' I3.1 I3.2).congr NR ho (fun _ _ _ => rfl) (fun _ _ _ => rfl) (fun s z0 z1 => v14 s z0 (by omega))⟩
               · obtain ⟨f, y, z⟩ := I1 k (by omega)
                 exact ⟨f, y, by rw [u14 k (by omega) hkk]; exact z⟩
             · exact (I2.skip NR ho I4' I3.1 I3.2).congr NR ho (fun s _ _ => congrFun u29 s) (fun s z0 z1 => v22 s z0 (by omega)) (fun s z0 z1 => v14 s z0 (by omega))
             · rw [v14 s z0 (by omega), u29]; exact I3.1 s z0 z1
             · have b9 := N.2.1 _ _ _ hw
               rw [u29] at hl ⊢
               rw [v14 s b9.2.1.1 (by omega)]
               exact I3.2 _ _ _ hw hl
             · exact I4'.congr NR (fun s _ _ => congrFun u29 s) (fun s z0 z1 => v22 s z0 (by omega)))
      · refine wp_aload_n d_80_97 (by rfl) ?_
        refine wp_aload_n d_80_98 (by rfl) ?_
        refine wp_aload_n d_80_99 (by rfl) ?_
        refine wp_getR (1) d_80_100 fl_9_16 rfl rfl (by first | assumption | (simp only [kd_cpI]; assumption)) (by first | assumption | (simp only [hr_cpI]; assumption)) ?_
        refine wp_iload d_80_103 (by rfl) ?_
        refine wp_iconst d_80_105 ?_
        refine wp_isub d_80_106 ?_
        refine wp_aald d_80_107 (by first | omega | (simp only [kd_setI, kd_cpI]; omega)) (by first | omega | (simp only [kd_setI, kd_cpI]; omega)) (by apply isRf_of; assumption; rfl) (by first | omega | (simp only [ln_cpI]; omega)) (by first | omega | (simp only [ln_cpI]; omega)) (by first | assumption | (simp only [hr_cpI]; assumption)) ?_
        refine wp_callV d_80_108 c_80_52 rfl (by rfl) (by rfl) ⟨9, rfl, rfl, by decide⟩ (by first | assumption | (simp only [kd_cpI]; assumption)) (by exact Nat.le_of_ble_eq_true rfl) (by exact Nat.le_of_ble_eq_true rfl) (s_ride hS1 (hT0.kept E2.fm PSoff) (Rc.kept hT0 hR0 E2.fm PSoff (fun a z y => by unfold PS at z; omega) (fun a z => z.elim)).2 (by omega) (by rw [E2.2.2.2.2.2.2.2.1 _ _ (by unfold PS; omega)]; omega)) (fun v_108 h_108 q_108 => ?_) (fun _ _ q => q.elim)
        obtain ⟨b1, rfl, E3, J1, J2⟩ := q_108
        have gE : ch (PS w) nP hc h_108 := E2.trans (E3.mono (fun x z => by unfold PS; omega) (fun x z => z))
        have hS2 := hS0.ch gE hT0
        have hT2 := hT0.kept gE.fm PSoff
        have rcK := (Rc.kept hT0 hR0 E2.fm PSoff (fun a z y => by unfold PS at z; omega) (fun a z => z.elim)).1
        have nK : hi g (w + 1) 4 = hi hc (w + 1) 4 := E2.2.2.2.2.2.2.2.1 _ _ (by unfold PS; omega)
        have lK : hi g (w + 12) 3 = hi hc (w + 12) 3 := E2.2.2.2.2.2.2.2.1 _ _ (by unfold PS; omega)
        rw [rcK, nK, lK, u22, u29] at J1
        rw [nK, u29] at J2
        have bE := I2.bd NR ho hT.1 hT.2 (by omega)
        have bF : Bd (hi hc (w + 1) 4) (hi h_108 (w + 29)) := J1.bd NR bE.1
        have nK2 : hi h_108 (w + 1) 4 = hi hc (w + 1) 4 := gE.2.2.2.2.2.2.2.1 _ _ (by unfold PS; omega)
        have cK2 : hi h_108 (w + 2) = hi hc (w + 2) := funext fun x => gE.2.2.2.2.2.2.2.1 _ _ (by unfold PS; omega)
        have w14 : ∀ s, 0 ≤ s → s < 16 → hi h_108 (w + 14 + (K + 1)) s = hi h (w + 14 + K) s := fun s z1 z2 => (E3.2.2.2.2.2.2.2.1 _ _ (by omega)).trans (v14 s z1 z2)
        have w22 : ∀ s, 0 ≤ s → s < 16 → hi h_108 (w + 22 + (K + 1)) s = hi h (w + 22 + K) s := fun s z1 z2 => (E3.2.2.2.2.2.2.2.1 _ _ (by omega)).trans (v22 s z1 z2)
        have kob2 : kd h_108 (w + 12) = 10 := hS2.2.2.2.1.1
        refine wp_istore d_80_111 (by decide) ?_
        refine wp_aload_n d_80_113 (by rfl) ?_
        refine wp_aload_n d_80_114 (by rfl) ?_
        refine wp_iload d_80_115 (by rfl) ?_
        refine wp_callV d_80_117 c_80_56 rfl (by rfl) (by rfl) ⟨9, rfl, rfl, by decide⟩ (by first | assumption | (simp only [kd_cpI]; assumption)) (by exact Nat.le_of_ble_eq_true rfl) (by exact Nat.le_of_ble_eq_true rfl) (s_alight (K := K + 1) hS2 hT2 (by omega) (by rw [nK2]; exact bF)) (fun v_117 h_117 q_117 => ?_) (fun _ _ q => q.elim)
        obtain ⟨rfl, E4, J3⟩ := q_117
        have E4p : ch (PS w) nP h_108 h_117 := E4.mono (fun x z => by unfold PW at z; unfold PS; omega) (fun x z => z)
        have gE4 := gE.trans E4p
        have hS3 := hS0.ch gE4 hT0
        have hT3 := hT0.kept gE4.fm PSoff
        have f4 : hi h_117 (w + 29) = hi h_108 (w + 29) := funext fun x => E4.2.2.2.2.2.2.2.1 _ _ (by unfold PW; omega)
        have nK3 : hi h_117 (w + 1) 4 = hi hc (w + 1) 4 := gE4.2.2.2.2.2.2.2.1 _ _ (by unfold PS; omega)
        have lK3 : hi h_117 (w + 12) 3 = hi hc (w + 12) 3 := gE4.2.2.2.2.2.2.2.1 _ _ (by unfold PS; omega)
        have wyK3 := Wy.kept hT0 gE4.fm PSoff
        have kob3 : kd h_117 (w + 12) = 10 := hS3.2.2.2.1.1
        rw [nK2, cK2] at J3
        refine wp_aload_n d_80_120 (by rfl) ?_
        refine wp_aload_n d_80_121 (by rfl) ?_
        refine wp_iload d_80_122 (by rfl) ?_
        refine wp_callV d_80_124 c_80_42 rfl (by rfl) (by rfl) ⟨9, rfl, rfl, by decide⟩ (by first | assumption | (simp only [kd_cpI]; assumption)) (by exact Nat.le_of_ble_eq_true rfl) (by exact Nat.le_of_ble_eq_true rfl) (s_walk (K := K + 1) hS3 hT3 (by omega) (by rw [nK3, f4]; exact bF)) (fun v_124 h_124 q_124 => ?_) (fun _ _ q => q.elim)
        obtain ⟨rfl, E5, J4, J5⟩ := q_124
        have E5p : ch (PS w) nP h_117 h_124 := E5.mono (fun x z => by unfold PW at z; unfold PS; omega) (fun x z => z)
        have gE5 := gE4.trans E5p
        rw [nK3, lK3, wyK3, f4] at J4 J5
        have f5 : hi h_124 (w + 29) = hi h_108 (w + 29) := (funext fun x => E5.2.2.2.2.2.2.2.1 _ _ (by unfold PW; omega)).trans f4
        have X9 := I2.round NR ho (by omega) hT.2 J1 (fun s z0 z1 => by rw [(J3 s z0 (by omega)).2, if_pos z1, w22 s z0 (by omega)]) (fun s z0 z1 => by rw [(J3 s z0 (by omega)).1, if_pos z1, w14 s z0 (by omega)]) J5 J4
        refine wp_iinc d_80_127 (by rfl) (by decide) ?_
        refine wp_goto (tgt := 39) d_80_130 (by decide) ?_
        first
          | (have gb1 : b1 = 0 ∨ b1 = 1 := by rcases J2 with z | z <;> omega
             refine wp_to [some (vR (some (w + 12))), some (vR (some (w + 1))), some (vR (some (w + 6))), none, none, none, some (vI b1), some (vI (((K + 1 : Nat) : Int) + 1))] ⟨rfl, rfl, rfl, rfl, rfl, trivial⟩ ?_
             refine ih (K + 1) b1 _ (by omega) ⟨gE5, fun k hk => ?_, ?_, ⟨fun s z0 z1 => ?_, fun s' s m hw hl => ?_⟩, ?_⟩ kq
             · by_cases hkk : k = K + 1
               · subst hkk
                 exact ⟨_, _, X9.1⟩
               · obtain ⟨f, y, z⟩ := I1 k (by omega)
                 have zz : hi h_124 (w + 14 + k) = hi h (w + 14 + k) := funext fun x => (E5.2.2.2.2.2.2.2.1 _ _ (by unfold PW; omega)).trans ((E4.2.2.2.2.2.2.2.1 _ _ (by unfold PW; omega)).trans ((E3.2.2.2.2.2.2.2.1 _ _ (by omega)).trans (congrFun (u14 k (by omega) hkk) x)))
                 exact ⟨f, y, by rw [zz]; exact z⟩
             · rw [f5]; exact X9.1
             · rw [f5]
               have := (J4.1 s z0 z1).1
               rw [(J3 s z0 (by omega)).1, if_pos z1] at this
               omega
             · rw [f5] at hl ⊢
               exact J4.2 _ _ _ hw hl
             · rcases J2 with ⟨z1, z2⟩ | z1
               · exact Or.inr ⟨z1, by rw [f5]; exact X9.2 z2⟩
               · exact Or.inl z1)
          | (refine wp_to [some (vR (some (w + 12))), some (vR (some (w + 1))), some (vR (some (w + 6))), none, none, none, some (vI b), some (vI (((K + 1 : Nat) : Int) + 1))] ⟨rfl, rfl, rfl, rfl, rfl, trivial⟩ ?_
             have I4' : Closed (Rc hc w) (hi hc (w + 12) 3) (hi h (w + 29)) (hi h (w + 22 + K)) := by
               rcases I4 with z | z
               · omega
               · exact z.2
             refine ih (K + 1) b _ (by omega) ⟨E2, fun k hk => ?_, ?_, ⟨fun s z0 z1 => ?_, fun s' s m hw hl => ?_⟩, Or.inr ⟨by omega, ?_⟩⟩ kq
             · by_cases hkk : k = K + 1
               · subst hkk
                 exact ⟨_, _, (I2.skip NR ho I4' I3.1 I3.2).congr NR ho (fun _ _ _ => rfl) (fun _ _ _ => rfl) (fun s z0 z1 => v14 s z0 (by omega))⟩
               · obtain ⟨f, y, z⟩ := I1 k (by omega)
                 exact ⟨f, y, by rw [u14 k (by omega) hkk]; exact z⟩
             · exact (I2.skip NR ho I4' I3.1 I3.2).congr NR ho (fun s _ _ => congrFun u29 s) (fun s z0 z1 => v22 s z0 (by omega)) (fun s z0 z1 => v14 s z0 (by omega))
             · rw [v14 s z0 (by omega), u29]; exact I3.1 s z0 z1
             · have b9 := N.2.1 _ _ _ hw
               rw [u29] at hl ⊢
               rw [v14 s b9.2.1.1 (by omega)]
               exact I3.2 _ _ _ hw hl
             · exact I4'.congr NR (fun s _ _ => congrFun u29 s) (fun s z0 z1 => v22 s z0 (by omega)))
end
section
set_option maxRecDepth 100000 in
theorem cd_81 : cdP 81 := ⟨okr (k := 213) rfl (by decide +kernel), by decide +kernel, by decide +kernel, okk_w (k := 36) (by decide +kernel)⟩
set_option maxRecDepth 100000 in
theorem cd_91 : cdP 91 := ⟨okr (k := 172) rfl (by decide +kernel), by decide +kernel, by decide +kernel, okk_w (k := 34) (by decide +kernel)⟩
set_option maxRecDepth 100000 in
theorem c_80_32 : cvP 80 32 91 3 := ⟨cd_91, okk_w (k := 169) (by decide +kernel), okk_w (k := 170) (by decide +kernel), okk_w (k := 171) (by decide +kernel), by decide +kernel, by decide +kernel⟩
set_option maxRecDepth 100000 in
theorem c_80_38 : cvP 80 38 81 2 := ⟨cd_81, okk_w (k := 209) (by decide +kernel), okk_w (k := 211) (by decide +kernel), okk_w (k := 4) (by decide +kernel), by decide +kernel, by decide +kernel⟩
set_option maxRecDepth 100000 in
theorem d_80_0 : decode (mB 80) 0 = .ok (.aload_n 0, 1) := by decide +kernel
set_option maxRecDepth 100000 in
theorem d_80_1 : decode (mB 80) 1 = .ok (.iload 4, 2) := by decide +kernel
set_option maxRecDepth 100000 in
theorem d_80_3 : decode (mB 80) 3 = .ok (.iload 5, 2) := by decide +kernel
set_option maxRecDepth 100000 in
theorem d_80_5 : decode (mB 80) 5 = .ok (.iadd, 1) := by decide +kernel
set_option maxRecDepth 100000 in
theorem d_80_6 : decode (mB 80) 6 = .ok (.putfield 28, 3) := by decide +kernel
set_option maxRecDepth 100000 in
theorem d_80_9 : decode (mB 80) 9 = .ok (.aload_n 2, 1) := by decide +kernel
set_option maxRecDepth 100000 in
theorem d_80_10 : decode (mB 80) 10 = .ok (.aload_n 1, 1) := by decide +kernel
set_option maxRecDepth 100000 in
theorem d_80_11 : decode (mB 80) 11 = .ok (.iload 4, 2) := by decide +kernel
set_option maxRecDepth 100000 in
theorem d_80_13 : decode (mB 80) 13 = .ok (.aload_n 0, 1) := by decide +kernel
set_option maxRecDepth 100000 in
theorem d_80_14 : decode (mB 80) 14 = .ok (.getfield 28, 3) := by decide +kernel
set_option maxRecDepth 100000 in
theorem d_80_17 : decode (mB 80) 17 = .ok (.invokevirtual 32, 3) := by decide +kernel
set_option maxRecDepth 100000 in
theorem d_80_20 : decode (mB 80) 20 = .ok (.aload_n 0, 1) := by decide +kernel
set_option maxRecDepth 100000 in
theorem d_80_21 : decode (mB 80) 21 = .ok (.iload_n 3, 1) := by decide +kernel
set_option maxRecDepth 100000 in
theorem d_80_22 : decode (mB 80) 22 = .ok (.iload 4, 2) := by decide +kernel
set_option maxRecDepth 100000 in
theorem d_80_24 : decode (mB 80) 24 = .ok (.invokevirtual 38, 3) := by decide +kernel
set_option maxRecDepth 100000 in
theorem d_80_27 : decode (mB 80) 27 = .ok (.aload_n 0, 1) := by decide +kernel
set_option maxRecDepth 100000 in
theorem d_80_28 : decode (mB 80) 28 = .ok (.aload_n 1, 1) := by decide +kernel
set_option maxRecDepth 100000 in
theorem d_80_29 : decode (mB 80) 29 = .ok (.iconst 0, 1) := by decide +kernel
set_option maxRecDepth 100000 in
theorem d_80_30 : decode (mB 80) 30 = .ok (.invokevirtual 42, 3) := by decide +kernel
set_option maxRecDepth 100000 in
theorem d_80_33 : decode (mB 80) 33 = .ok (.iconst 1, 1) := by decide +kernel
set_option maxRecDepth 100000 in
theorem d_80_34 : decode (mB 80) 34 = .ok (.istore 6, 2) := by decide +kernel
set_option maxRecDepth 100000 in
theorem d_80_36 : decode (mB 80) 36 = .ok (.iconst 1, 1) := by decide +kernel
set_option maxRecDepth 100000 in
theorem d_80_37 : decode (mB 80) 37 = .ok (.istore 7, 2) := by decide +kernel
end
section
/-! ===== seek onwards, whole ===== -/
/-- what seek onwards changes -/
def PO (w : Nat) : Nat → Prop := fun a => a = w + 6 ∨ a = w + 8 ∨ a = w + 9 ∨ (w + 12 ≤ a ∧ a ≤ w + 29)
theorem POoff {w X : Nat} : Off w X (PO w) (PQ w) := ⟨fun a z => by unfold PO at z; omega, fun a z => by unfold PQ at z; omega⟩
/-- what is known behind a search onwards from o at T by L -/
def OnW (h0 h : Hp) (w : Nat) (o T L : Int) : Prop := RunsOk h w ∧ (∀ t d a, 0 ≤ t → t < hi h0 (w + 1) 7 → Cd h0 w T L t d a → Rc h w (rnB h0 a (baseOf h0 a d))) ∧
  ∀ k : Nat, k ≤ 6 → ∃ f y, Exact (hi h0 (w + 1) 4) (hi h0 (w + 2)) (Wy h0 w) (Rc h w) o T L k f y (hi h (w + 14 + k))
set_option maxRecDepth 100000 in
set_option maxHeartbeats 4000000 in
theorem s_seek {w X : Nat} {o T V : Int} {h0 : Hp} (hS0 : Sk h0 w) (hT0 : TT h0 w X) (ho : 0 ≤ o ∧ o < hi h0 (w + 1) 4) (hT : 0 ≤ T ∧ T ≤ 500000) (hV : 0 ≤ V ∧ V ≤ 2880) : wp 80 0 (entL [vR (some (w + 12)), vR (some (w + 1)), vR (some (w + 6)), vI o, vI T, vI V] (mL 80)) [] h0 (fun v h' => v = none ∧ ch (PO w) (PQ w) h0 h' ∧ OnW h0 h' w o T (T + V)) noX := by
  have hS := hS0
  obtain ⟨⟨k1, k2, k3, k4, k5, k6, k7⟩, ⟨n1, ⟨n2, n3, n4, n5⟩, ⟨n6, n7⟩, ⟨n8, n9⟩, ⟨n10, n11⟩, n12, n13⟩, ⟨m1, ⟨m2, m3, m4⟩, ⟨m5, m6⟩, ⟨m7, m8⟩, m9, m10⟩, ⟨o1, ⟨o2, o3, o4⟩, ⟨o5, o6, o7⟩, ⟨o8, o9, o10⟩, o11, o12⟩, ⟨b1, ⟨b2, b3⟩, ⟨b4, b5, b6⟩, b7, b8, b9⟩, ⟨j1, ⟨j2, j3, j4, j5, j6, j7, j8⟩, ⟨j9, j10⟩, j11⟩⟩ := hS
  have hX := hT0.2.2.2.2.2.2
  have hn := hT0.1
  have M1 : ch (PO w) (PQ w) h0 (setI h0 (w + 12) 3 (T + V)) := ch_setI (by unfold PO; omega)
  have hS1 : Sk (setI h0 (w + 12) 3 (T + V)) w := hS0.kept M1.fm ((POoff (X := X)).pr hX.2) (by omega)
  have hT1 : TT (setI h0 (w + 12) 3 (T + V)) w X := hT0.kept M1.fm POoff
  refine wp_aload_n d_80_0 (by rfl) ?_
  refine wp_iload d_80_1 (by rfl) ?_
  refine wp_iload d_80_3 (by rfl) ?_
  refine wp_iadd d_80_5 ?_
  refine wp_putI (3) d_80_6 fl_9_28 rfl rfl (Or.inl (by rfl)) (by first | assumption | exact hS2.2.2.2.1.1 | exact hS3.2.2.2.1.1) (by omega) (fun q => nomatch q) ?_
  refine wp_aload_n d_80_9 (by rfl) ?_
  refine wp_aload_n d_80_10 (by rfl) ?_
  refine wp_iload d_80_11 (by rfl) ?_
  refine wp_aload_n d_80_13 (by rfl) ?_
  refine wp_getI (3) d_80_14 fl_9_28 rfl rfl (by first | assumption | exact hS2.2.2.2.1.1 | exact hS3.2.2.2.1.1) (fun x_14 e_14 r_14 => ?_)
  obtain rfl : x_14 = T + V := by rw [e_14, hi_upF, upF_same]
  refine wp_callV d_80_17 c_80_32 rfl (by rfl) (by rfl) ⟨10, rfl, rfl, by decide⟩ (by first | assumption | exact hS2.2.2.2.1.1 | exact hS3.2.2.2.1.1) (by exact Nat.le_of_ble_eq_true rfl) (by exact Nat.le_of_ble_eq_true rfl) (s_collect (X := X) hS1 hT1 ⟨by omega, by omega⟩ (by omega) (by omega)) (fun v_17 h_17 q_17 => ?_) (fun _ _ q => q.elim)
  obtain ⟨rfl, E2, R2, C2⟩ := q_17
  have M2 : ch (PO w) (PQ w) h0 h_17 := M1.trans (E2.mono (fun x z => by unfold PC at z; unfold PO; omega) (fun x z => z))
  have hS2 : Sk h_17 w := hS0.kept M2.fm ((POoff (X := X)).pr hX.2) (by omega)
  have hT2 := hT0.kept M2.fm POoff
  have l2 : hi h_17 (w + 12) 3 = T + V := (E2.2.2.2.2.2.2.2.1 _ _ (by unfold PC; omega)).trans (by rw [hi_upF, upF_same])
  have nx2 : nx h_17 = nx h0 := M2.2.2.2.1
  refine wp_aload_n d_80_20 (by rfl) ?_
  refine wp_iload_n d_80_21 (by rfl) ?_
  refine wp_iload d_80_22 (by rfl) ?_
  refine wp_callV d_80_24 c_80_38 rfl (by rfl) (by rfl) ⟨9, rfl, rfl, by decide⟩ (by first | assumption | exact hS2.2.2.2.1.1 | exact hS3.2.2.2.1.1) (by exact Nat.le_of_ble_eq_true rfl) (by exact Nat.le_of_ble_eq_true rfl) (s_begin hS2 (by omega) ⟨ho.1, by omega⟩ ⟨by omega, by omega⟩) (fun v_24 h_24 q_24 => ?_) (fun _ _ q => q.elim)
  obtain ⟨rfl, E3, V3⟩ := q_24
  have E3p : ch (PS w) nP h_17 h_24 := E3.mono (fun x z => by unfold PS; omega) (fun x z => z)
  have M3 : ch (PO w) (PQ w) h0 h_24 := M2.trans (E3p.mono (fun x z => by unfold PS at z; unfold PO; omega) (fun x z => z.elim))
  have hS3 : Sk h_24 w := hS0.kept M3.fm ((POoff (X := X)).pr hX.2) (by omega)
  have hT3 := hT0.kept M3.fm POoff
  have n3 : hi h_24 (w + 1) 4 = hi h0 (w + 1) 4 := M3.2.2.2.2.2.2.2.1 _ _ (by unfold PO; omega)
  have bF : Bd (hi h_24 (w + 1) 4) (hi h_24 (w + 29)) := fun s z0 z1 => by
    rw [n3] at z1
    rw [(V3 s z0 (by omega)).1]
    split <;> omega
  refine wp_aload_n d_80_27 (by rfl) ?_
  refine wp_aload_n d_80_28 (by rfl) ?_
  refine wp_iconst d_80_29 ?_
  refine wp_callV d_80_30 c_80_42 rfl (by rfl) (by rfl) ⟨9, rfl, rfl, by decide⟩ (by first | assumption | exact hS2.2.2.2.1.1 | exact hS3.2.2.2.1.1) (by exact Nat.le_of_ble_eq_true rfl) (by exact Nat.le_of_ble_eq_true rfl) (s_walk (K := 0) hS3 hT3 (by decide) bF) (fun v_30 h_30 q_30 => ?_) (fun _ _ q => q.elim)
  obtain ⟨rfl, E4, J4, J5⟩ := q_30
  have E4p : ch (PS w) nP h_24 h_30 := E4.mono (fun x z => by unfold PW at z; unfold PS; omega) (fun x z => z)
  have M4 : ch (PO w) (PQ w) h0 h_30 := M3.trans (E4p.mono (fun x z => by unfold PS at z; unfold PO; omega) (fun x z => z.elim))
  have hS4 : Sk h_30 w := hS0.kept M4.fm ((POoff (X := X)).pr hX.2) (by omega)
  have hT4 := hT0.kept M4.fm POoff
  have E34 := E3p.trans E4p
  have R4 := Rc.kept hT2 R2 E34.fm PSoff (fun a z y => by unfold PS at z; omega) (fun a z => z.elim)
  have n4 : hi h_30 (w + 1) 4 = hi h0 (w + 1) 4 := M4.2.2.2.2.2.2.2.1 _ _ (by unfold PO; omega)
  have c4 : hi h_30 (w + 2) = hi h0 (w + 2) := funext fun x => M4.2.2.2.2.2.2.2.1 _ _ (by unfold PO; omega)
  have l4 : hi h_30 (w + 12) 3 = T + V := (E34.2.2.2.2.2.2.2.1 _ _ (by unfold PS; omega)).trans l2
  have l3 : hi h_24 (w + 12) 3 = T + V := (E3p.2.2.2.2.2.2.2.1 _ _ (by unfold PS; omega)).trans l2
  have w4 : Wy h_30 w = Wy h0 w := Wy.kept hT0 M4.fm POoff
  have w3 : Wy h_24 w = Wy h0 w := Wy.kept hT0 M3.fm POoff
  have f4 : hi h_30 (w + 29) = hi h_24 (w + 29) := funext fun x => E4.2.2.2.2.2.2.2.1 _ _ (by unfold PW; omega)
  rw [n3, w3, l3] at J4 J5
  have N0 := hT0.net
  have N4 : Net (hi h0 (w + 1) 4) (hi h0 (w + 2)) (Wy h0 w) (Rc h_30 w) := ⟨N0.1, N0.2.1, N0.2.2.1, fun r z => by
    have z9 := R4.2.sub z
    rw [Ra.kept hT0 M4.fm POoff] at z9
    exact N0.2.2.2 r z9⟩
  have X0 := Exact.start N4 ho (by omega) (by omega) (fun s z0 z1 => (V3 s z0 (by omega)).1) (fun s z0 z1 => (V3 s z0 (by omega)).2.2.trans (V3 s z0 (by omega)).1.symm) (fun s z0 z1 => (V3 s z0 (by omega)).2.1.trans (V3 s z0 (by omega)).1.symm) (by omega) J5 J4
  refine wp_iconst d_80_33 ?_
  refine wp_istore d_80_34 (by decide) ?_
  refine wp_iconst d_80_36 ?_
  refine wp_istore d_80_37 (by decide) ?_
  refine wp_to [some (vR (some (w + 12))), some (vR (some (w + 1))), some (vR (some (w + 6))), none, none, none, some (vI 1), some (vI (((0 : Nat) : Int) + 1))] ⟨rfl, rfl, rfl, rfl, rfl, trivial⟩ ?_
  refine l_seek (o := o) (T := T) hS4 hT4 R4.2 (by rw [n4]; exact ho) (by rw [l4]; omega) (by rw [l4]; omega) 6 0 1 _ rfl ⟨ch.rfl, fun k hk => ?_, ?_, ⟨fun s z0 z1 => ?_, fun s' s m hw hl => ?_⟩, Or.inl rfl⟩ (fun h' b' I => ?_)
  · obtain rfl : k = 0 := by omega
    rw [n4, c4, w4, l4]
    exact ⟨_, _, X0⟩
  · rw [n4, c4, w4, l4, f4]
    exact X0
  · rw [n4] at z1
    rw [f4]
    have := (J4.1 s z0 z1).1
    have := (V3 s z0 (by omega)).1
    have := (V3 s z0 (by omega)).2.1
    have e9 : hi h_24 (w + 14 + 0) s = hi h_24 (w + 14) s := rfl
    omega
  · rw [w4] at hw
    rw [f4, l4] at hl
    rw [f4]
    exact J4.2 _ _ _ hw hl
  · obtain ⟨E5, I1, -⟩ := I
    have R5 := Rc.kept hT4 R4.2 E5.fm PSoff (fun a z y => by unfold PS at z; omega) (fun a z => z.elim)
    have M5 : ch (PO w) (PQ w) h0 h' := M4.trans (E5.mono (fun x z => by unfold PS at z; unfold PO; omega) (fun x z => z.elim))
    rw [n4, c4, w4, l4] at I1
    refine ⟨rfl, M5, R5.2, fun t d a z0 z1 z2 => ?_, fun k hk => ?_⟩
    · rw [R5.1, R4.1]
      obtain ⟨a', c, g1, g2, -⟩ := hT0.2.2.2.2.2.1 t z0 z1
      have z2' := z2
      obtain ⟨y1, y2, y3, y4, y5⟩ := z2'
      cases y1.symm.trans g1
      have k9 := hasRn.kept hT0 M1.fm POoff (d := d) z0 z1 y1
      have q := C2 t d a z0 (by rw [hi_setI_ne (by omega)]; exact z1) ⟨y1, k9.1.mpr y2, by rw [hi_setI_ne (by omega)]; exact y3, by rw [k9.2.2, hi_setI_ne (by omega)]; exact y4, by rw [k9.2.2, hi_setI_ne (by omega), hi_setI_ne (by omega)]; exact y5⟩
      rw [k9.2.1, k9.2.2] at q
      exact q
    · rw [R5.1]; exact I1 k hk
end
