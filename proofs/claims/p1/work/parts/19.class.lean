/-! ===== the class on a fresh object ===== -/
theorem at_ok {ws : List Cond} {ks : List Nat} (h : (ws.all fun w => decide (w ∈ ks.filterMap (fun k => lw_tbl[k]?)) && mw w) = true) : ∀ w ∈ ws, okw w := by
  intro w hw
  have h1 := List.all_eq_true.mp h w hw
  rw [Bool.and_eq_true, decide_eq_true_eq] at h1
  obtain ⟨k, -, hk⟩ := List.mem_filterMap.mp h1.1
  exact ⟨List.mem_of_getElem? hk, h1.2⟩
set_option maxRecDepth 100000 in
theorem at_9 : ∀ w ∈ vx_atS (mY 9).cls 281 "java/lang/IndexOutOfBoundsException" ["java/lang/RuntimeException", "java/lang/Exception"], okw w := at_ok (ks := [2, 68, 69, 70, 73, 85, 86, 87, 93, 151, 188, 203, 224, 245, 252, 285, 410, 411, 412, 413, 414, 415, 416, 417, 418, 419, 420, 421, 422, 423, 424, 425, 426, 427, 428, 429, 430, 431, 432, 433, 434, 435, 436, 437, 438, 439, 440, 441, 442, 443, 444, 445, 446, 447, 448, 449, 450, 452, 453, 454, 455, 456, 457, 458, 459, 460, 461, 462, 463, 464, 465, 466, 467, 468, 469, 470, 471, 472, 473, 474, 475, 476, 528, 529, 530, 531, 532, 533, 538, 539, 540, 547, 548, 549, 550, 551, 552, 557, 558, 559, 563, 584, 616, 658, 1129, 1525]) (by decide +kernel)
set_option maxRecDepth 100000 in
theorem ag_9 : ∀ w ∈ Cond.classLink (mY 9).cls 277 "java/lang/IndexOutOfBoundsException" :: Cond.initialized "java/lang/IndexOutOfBoundsException" :: vx_atS (mY 9).cls 281 "java/lang/IndexOutOfBoundsException" ["java/lang/RuntimeException", "java/lang/Exception"], vx_ot w = true := by decide +kernel
set_option maxRecDepth 100000 in
theorem aw_9 : okw (.classLink (mY 9).cls 277 "java/lang/IndexOutOfBoundsException") ∧ okw (.initialized "java/lang/IndexOutOfBoundsException") ∧ okw (.stringRef (mY 9).cls 279 "there is no such number") := ⟨okk_w (k := 410) (by decide +kernel), okk_w (k := 73) (by decide +kernel), okk_w (k := 451) (by decide +kernel)⟩
set_option maxRecDepth 100000 in
set_option maxHeartbeats 4000000 in
theorem t_needIndex {x y : Int} {h : Hp} (hx : inR x) (hy : inR y) (r1 : nx h + 1 ≤ cn h) (r2 : us h + 6 ≤ cs h) : wp 9 0 (entL [vI x, vI y] (mL 9)) [] h (fun v h' => (0 ≤ x ∧ x < y) ∧ v = none ∧ h' = h) (fun E h' => ¬ (0 ≤ x ∧ x < y) ∧ XE "java/lang/IndexOutOfBoundsException" h E h') := by
  refine wp_iload_n d_9_0 (by rfl) ?_
  refine wp_if_lt (tgt := 9) d_9_1 (by decide) (by omega) (fun c_1 => ?_) (fun c_1 => ?_)
  · refine wp_throwSW (pc := 9) d_9_9 d_9_12 d_9_13 d_9_16 d_9_19 aw_9.1 aw_9.2.1 aw_9.2.2 at_9 ag_9 (by decide +kernel) (by decide +kernel) rfl (by decide) (by decide) r1 r2 (fun h' q => ⟨by omega, q⟩)
  · refine wp_iload_n d_9_4 (by rfl) ?_
    refine wp_iload_n d_9_5 (by rfl) ?_
    refine wp_icmp_lt (tgt := 20) d_9_6 (by decide) (by omega) (by omega) (fun c_6 => ?_) (fun c_6 => ?_)
    · refine wp_vret d_9_20 rfl ?_
      exact ⟨by omega, rfl, rfl⟩
    · refine wp_throwSW (pc := 9) d_9_9 d_9_12 d_9_13 d_9_16 d_9_19 aw_9.1 aw_9.2.1 aw_9.2.2 at_9 ag_9 (by decide +kernel) (by decide +kernel) rfl (by decide) (by decide) r1 r2 (fun h' q => ⟨by omega, q⟩)
set_option maxRecDepth 100000 in
theorem at_14 : ∀ w ∈ vx_atS (mY 14).cls 288 "java/lang/IllegalArgumentException" ["java/lang/RuntimeException", "java/lang/Exception"], okw w := at_ok (ks := [2, 68, 69, 70, 71, 85, 86, 87, 93, 151, 188, 203, 224, 245, 252, 285, 413, 414, 415, 416, 417, 418, 419, 420, 421, 422, 423, 424, 425, 426, 427, 428, 429, 430, 431, 432, 433, 434, 435, 436, 437, 438, 439, 440, 441, 442, 443, 444, 445, 446, 447, 448, 449, 450, 455, 456, 457, 458, 459, 460, 461, 462, 463, 464, 465, 466, 467, 468, 469, 470, 471, 472, 473, 474, 475, 476, 516, 525, 526, 527, 528, 529, 530, 531, 532, 533, 535, 536, 537, 538, 539, 540, 547, 548, 549, 550, 551, 552, 557, 558, 559, 584, 616, 658, 1129, 1525]) (by decide +kernel)
set_option maxRecDepth 100000 in
theorem ag_14 : ∀ w ∈ Cond.classLink (mY 14).cls 284 "java/lang/IllegalArgumentException" :: Cond.initialized "java/lang/IllegalArgumentException" :: vx_atS (mY 14).cls 288 "java/lang/IllegalArgumentException" ["java/lang/RuntimeException", "java/lang/Exception"], vx_ot w = true := by decide +kernel
set_option maxRecDepth 100000 in
theorem aw_14 : okw (.classLink (mY 14).cls 284 "java/lang/IllegalArgumentException") ∧ okw (.initialized "java/lang/IllegalArgumentException") ∧ okw (.stringRef (mY 14).cls 286 "an argument is outside its range") := ⟨okk_w (k := 525) (by decide +kernel), okk_w (k := 71) (by decide +kernel), okk_w (k := 534) (by decide +kernel)⟩
set_option maxRecDepth 100000 in
set_option maxHeartbeats 4000000 in
theorem t_needArgument {x : Int} {h : Hp} (hx : x = 0 ∨ x = 1) (r1 : nx h + 1 ≤ cn h) (r2 : us h + 6 ≤ cs h) : wp 14 0 (entL [vI x] (mL 14)) [] h (fun v h' => (x = 1) ∧ v = none ∧ h' = h) (fun E h' => ¬ (x = 1) ∧ XE "java/lang/IllegalArgumentException" h E h') := by
  refine wp_iload_n d_14_0 (by rfl) ?_
  refine wp_if_ne (tgt := 15) d_14_1 (by decide) (by omega) (fun c_1 => ?_) (fun c_1 => ?_)
  · refine wp_vret d_14_15 rfl ?_
    exact ⟨by omega, rfl, rfl⟩
  · refine wp_throwSW (pc := 4) d_14_4 d_14_7 d_14_8 d_14_11 d_14_14 aw_14.1 aw_14.2.1 aw_14.2.2 at_14 ag_14 (by decide +kernel) (by decide +kernel) rfl (by decide) (by decide) r1 r2 (fun h' q => ⟨by omega, q⟩)
set_option maxRecDepth 100000 in
theorem at_15 : ∀ w ∈ vx_atS (mY 15).cls 293 "java/lang/IllegalStateException" ["java/lang/RuntimeException", "java/lang/Exception"], okw w := at_ok (ks := [2, 68, 69, 70, 72, 85, 86, 87, 93, 151, 188, 203, 224, 245, 252, 285, 413, 414, 415, 416, 417, 418, 419, 420, 421, 422, 423, 424, 425, 426, 427, 428, 429, 430, 431, 432, 433, 434, 435, 436, 437, 438, 439, 440, 441, 442, 443, 444, 445, 446, 447, 448, 449, 450, 455, 456, 457, 458, 459, 460, 461, 462, 463, 464, 465, 466, 467, 468, 469, 470, 471, 472, 473, 474, 475, 476, 517, 528, 529, 530, 531, 532, 533, 538, 539, 540, 544, 545, 546, 547, 548, 549, 550, 551, 552, 554, 555, 556, 557, 558, 559, 584, 616, 658, 1129, 1525]) (by decide +kernel)
set_option maxRecDepth 100000 in
theorem ag_15 : ∀ w ∈ Cond.classLink (mY 15).cls 289 "java/lang/IllegalStateException" :: Cond.initialized "java/lang/IllegalStateException" :: vx_atS (mY 15).cls 293 "java/lang/IllegalStateException" ["java/lang/RuntimeException", "java/lang/Exception"], vx_ot w = true := by decide +kernel
set_option maxRecDepth 100000 in
theorem aw_15 : okw (.classLink (mY 15).cls 289 "java/lang/IllegalStateException") ∧ okw (.initialized "java/lang/IllegalStateException") ∧ okw (.stringRef (mY 15).cls 291 "there is no room, or no journey is kept") := ⟨okk_w (k := 544) (by decide +kernel), okk_w (k := 72) (by decide +kernel), okk_w (k := 553) (by decide +kernel)⟩
set_option maxRecDepth 100000 in
set_option maxHeartbeats 4000000 in
theorem t_needState {x : Int} {h : Hp} (hx : x = 0 ∨ x = 1) (r1 : nx h + 1 ≤ cn h) (r2 : us h + 6 ≤ cs h) : wp 15 0 (entL [vI x] (mL 15)) [] h (fun v h' => (x = 1) ∧ v = none ∧ h' = h) (fun E h' => ¬ (x = 1) ∧ XE "java/lang/IllegalStateException" h E h') := by
  refine wp_iload_n d_15_0 (by rfl) ?_
  refine wp_if_ne (tgt := 15) d_15_1 (by decide) (by omega) (fun c_1 => ?_) (fun c_1 => ?_)
  · refine wp_vret d_15_15 rfl ?_
    exact ⟨by omega, rfl, rfl⟩
  · refine wp_throwSW (pc := 4) d_15_4 d_15_7 d_15_8 d_15_11 d_15_14 aw_15.1 aw_15.2.1 aw_15.2.2 at_15 ag_15 (by decide +kernel) (by decide +kernel) rfl (by decide) (by decide) r1 r2 (fun h' q => ⟨by omega, q⟩)
set_option maxRecDepth 100000 in
set_option maxHeartbeats 4000000 in
theorem t_needStop {w : Nat} {x : Int} {h : Hp} (hF : Fr h w) (i_x : inR x) (r1 : nx h + 1 ≤ cn h) (r2 : us h + 6 ≤ cs h) : wp 17 0 (entL [vR (some w), vI x] (mL 17)) [] h (fun _ _ => False) (XE "java/lang/IndexOutOfBoundsException" h) := by
  have hF0 := hF
  obtain ⟨q1, q2, q3, q4, ⟨a1, a2, a3, a4⟩, ⟨b1, b2, b3⟩, ⟨c1, c2, c3⟩, q5, q6⟩ := hF
  refine wp_iload_n d_17_0 (by rfl) ?_
  refine wp_aload_n d_17_1 (by rfl) ?_
  refine wp_getR (0) d_17_2 fl_0_12 rfl rfl (by assumption) (by assumption) ?_
  refine wp_getI (4) d_17_5 fl_0_66 rfl rfl (by assumption) (fun x_5 e_5 r_5 => ?_)
  refine wp_callS d_17_8 c_17_107 rfl (by rfl) (by rfl) (by exact Nat.le_of_ble_eq_true rfl) (by exact Nat.le_of_ble_eq_true rfl) (t_needIndex (by first | assumption | omega) (by omega) r1 r2) (fun v_8 h_8 q_8 => ?_) (fun E_8 h_8 q_8 => ?_)
  rotate_left
  · exact xp_out rfl q_8.2
  obtain ⟨q, -⟩ := q_8
  exact absurd q (by omega)
set_option maxRecDepth 100000 in
set_option maxHeartbeats 4000000 in
theorem t_needTrip {w : Nat} {x : Int} {h : Hp} (hF : Fr h w) (i_x : inR x) (r1 : nx h + 1 ≤ cn h) (r2 : us h + 6 ≤ cs h) : wp 8 0 (entL [vR (some w), vI x] (mL 8)) [] h (fun _ _ => False) (XE "java/lang/IndexOutOfBoundsException" h) := by
  have hF0 := hF
  obtain ⟨q1, q2, q3, q4, ⟨a1, a2, a3, a4⟩, ⟨b1, b2, b3⟩, ⟨c1, c2, c3⟩, q5, q6⟩ := hF
  refine wp_iload_n d_8_0 (by rfl) ?_
  refine wp_aload_n d_8_1 (by rfl) ?_
  refine wp_getR (0) d_8_2 fl_0_12 rfl rfl (by assumption) (by assumption) ?_
  refine wp_getI (7) d_8_5 fl_0_117 rfl rfl (by assumption) (fun x_5 e_5 r_5 => ?_)
  refine wp_callS d_8_8 c_8_107 rfl (by rfl) (by rfl) (by exact Nat.le_of_ble_eq_true rfl) (by exact Nat.le_of_ble_eq_true rfl) (t_needIndex (by first | assumption | omega) (by omega) r1 r2) (fun v_8 h_8 q_8 => ?_) (fun E_8 h_8 q_8 => ?_)
  rotate_left
  · exact xp_out rfl q_8.2
  obtain ⟨q, -⟩ := q_8
  exact absurd q (by omega)
set_option maxRecDepth 100000 in
set_option maxHeartbeats 4000000 in
theorem t_needLeg {w : Nat} {x : Int} {h : Hp} (hF : Fr h w) (i_x : inR x) (r1 : nx h + 1 ≤ cn h) (r2 : us h + 6 ≤ cs h) : wp 41 0 (entL [vR (some w), vI x] (mL 41)) [] h (fun _ _ => False) (XE "java/lang/IllegalStateException" h) := by
  have hF0 := hF
  obtain ⟨q1, q2, q3, q4, ⟨a1, a2, a3, a4⟩, ⟨b1, b2, b3⟩, ⟨c1, c2, c3⟩, q5, q6⟩ := hF
  refine wp_aload_n d_41_0 (by rfl) ?_
  refine wp_getR (6) d_41_1 fl_0_54 rfl rfl (by assumption) (by assumption) ?_
  refine wp_getI (0) d_41_4 fl_0_219 rfl rfl (by assumption) (fun x_4 e_4 r_4 => ?_)
  refine wp_callS d_41_7 c_41_70 rfl (by rfl) (by rfl) (by exact Nat.le_of_ble_eq_true rfl) (by exact Nat.le_of_ble_eq_true rfl) (t_needState (by omega) r1 r2) (fun v_7 h_7 q_7 => ?_) (fun E_7 h_7 q_7 => ?_)
  rotate_left
  · exact xp_out rfl q_7.2
  obtain ⟨q, -⟩ := q_7
  exact absurd q (by omega)
set_option maxRecDepth 100000 in
set_option maxHeartbeats 4000000 in
theorem t_setChange {w : Nat} {p0 p1 : Int} {h : Hp} (hF : Fr h w) (i_p0 : inR p0) (i_p1 : inR p1) (r1 : nx h + 1 ≤ cn h) (r2 : us h + 6 ≤ cs h) : wp 16 0 (entL [vR (some w), vI p0, vI p1] (mL 16)) [] h (fun _ _ => False) (XE "java/lang/IndexOutOfBoundsException" h) := by
  have hF0 := hF
  obtain ⟨q1, q2, q3, q4, ⟨a1, a2, a3, a4⟩, ⟨b1, b2, b3⟩, ⟨c1, c2, c3⟩, q5, q6⟩ := hF
  refine wp_aload_n d_16_0 (by rfl) ?_
  refine wp_iload_n d_16_1 (by rfl) ?_
  refine wp_callV d_16_2 c_16_77 rfl (by rfl) (by rfl) ⟨0, rfl, rfl, by decide⟩ (by assumption) (by exact Nat.le_of_ble_eq_true rfl) (by exact Nat.le_of_ble_eq_true rfl) (t_needStop hF0 (by assumption) r1 r2) (fun _ _ q => q.elim) (fun E_2 h_2 q_2 => ?_)
  exact xp_out rfl q_2
set_option maxRecDepth 100000 in
set_option maxHeartbeats 4000000 in
theorem t_addFootway {w : Nat} {p0 p1 p2 : Int} {h : Hp} (hF : Fr h w) (i_p0 : inR p0) (i_p1 : inR p1) (i_p2 : inR p2) (r1 : nx h + 1 ≤ cn h) (r2 : us h + 6 ≤ cs h) : wp 18 0 (entL [vR (some w), vI p0, vI p1, vI p2] (mL 18)) [] h (fun _ _ => False) (XE "java/lang/IndexOutOfBoundsException" h) := by
  have hF0 := hF
  obtain ⟨q1, q2, q3, q4, ⟨a1, a2, a3, a4⟩, ⟨b1, b2, b3⟩, ⟨c1, c2, c3⟩, q5, q6⟩ := hF
  refine wp_aload_n d_18_0 (by rfl) ?_
  refine wp_iload_n d_18_1 (by rfl) ?_
  refine wp_callV d_18_2 c_18_77 rfl (by rfl) (by rfl) ⟨0, rfl, rfl, by decide⟩ (by assumption) (by exact Nat.le_of_ble_eq_true rfl) (by exact Nat.le_of_ble_eq_true rfl) (t_needStop hF0 (by assumption) r1 r2) (fun _ _ q => q.elim) (fun E_2 h_2 q_2 => ?_)
  exact xp_out rfl q_2
set_option maxRecDepth 100000 in
set_option maxHeartbeats 4000000 in
theorem t_except {w : Nat} {p0 p1 p2 : Int} {h : Hp} (hF : Fr h w) (i_p0 : inR p0) (i_p1 : inR p1) (i_p2 : inR p2) (r1 : nx h + 1 ≤ cn h) (r2 : us h + 6 ≤ cs h) : wp 20 0 (entL [vR (some w), vI p0, vI p1, vI p2] (mL 20)) [] h (fun _ _ => False) (XE "java/lang/IndexOutOfBoundsException" h) := by
  have hF0 := hF
  obtain ⟨q1, q2, q3, q4, ⟨a1, a2, a3, a4⟩, ⟨b1, b2, b3⟩, ⟨c1, c2, c3⟩, q5, q6⟩ := hF
  refine wp_iload_n d_20_0 (by rfl) ?_
  refine wp_aload_n d_20_1 (by rfl) ?_
  refine wp_getR (0) d_20_2 fl_0_12 rfl rfl (by assumption) (by assumption) ?_
  refine wp_getI (6) d_20_5 fl_0_97 rfl rfl (by assumption) (fun x_5 e_5 r_5 => ?_)
  refine wp_callS d_20_8 c_20_107 rfl (by rfl) (by rfl) (by exact Nat.le_of_ble_eq_true rfl) (by exact Nat.le_of_ble_eq_true rfl) (t_needIndex (by first | assumption | omega) (by omega) r1 r2) (fun v_8 h_8 q_8 => ?_) (fun E_8 h_8 q_8 => ?_)
  rotate_left
  · exact xp_out rfl q_8.2
  obtain ⟨q, -⟩ := q_8
  exact absurd q (by omega)
set_option maxRecDepth 100000 in
set_option maxHeartbeats 4000000 in
theorem t_runsOn {w : Nat} {p0 p1 : Int} {h : Hp} (hF : Fr h w) (i_p0 : inR p0) (i_p1 : inR p1) (r1 : nx h + 1 ≤ cn h) (r2 : us h + 6 ≤ cs h) : wp 21 0 (entL [vR (some w), vI p0, vI p1] (mL 21)) [] h (fun _ _ => False) (XE "java/lang/IndexOutOfBoundsException" h) := by
  have hF0 := hF
  obtain ⟨q1, q2, q3, q4, ⟨a1, a2, a3, a4⟩, ⟨b1, b2, b3⟩, ⟨c1, c2, c3⟩, q5, q6⟩ := hF
  refine wp_iload_n d_21_0 (by rfl) ?_
  refine wp_aload_n d_21_1 (by rfl) ?_
  refine wp_getR (0) d_21_2 fl_0_12 rfl rfl (by assumption) (by assumption) ?_
  refine wp_getI (6) d_21_5 fl_0_97 rfl rfl (by assumption) (fun x_5 e_5 r_5 => ?_)
  refine wp_callS d_21_8 c_21_107 rfl (by rfl) (by rfl) (by exact Nat.le_of_ble_eq_true rfl) (by exact Nat.le_of_ble_eq_true rfl) (t_needIndex (by first | assumption | omega) (by omega) r1 r2) (fun v_8 h_8 q_8 => ?_) (fun E_8 h_8 q_8 => ?_)
  rotate_left
  · exact xp_out rfl q_8.2
  obtain ⟨q, -⟩ := q_8
  exact absurd q (by omega)
set_option maxRecDepth 100000 in
set_option maxHeartbeats 4000000 in
theorem t_addTrip {w : Nat} {p0 p1 p2 p3 : Int} {h : Hp} (hF : Fr h w) (i_p0 : inR p0) (i_p1 : inR p1) (i_p2 : inR p2) (i_p3 : inR p3) (r1 : nx h + 1 ≤ cn h) (r2 : us h + 6 ≤ cs h) : wp 22 0 (entL [vR (some w), vI p0, vI p1, vI p2, vI p3] (mL 22)) [] h (fun _ _ => False) (XE "java/lang/IndexOutOfBoundsException" h) := by
  have hF0 := hF
  obtain ⟨q1, q2, q3, q4, ⟨a1, a2, a3, a4⟩, ⟨b1, b2, b3⟩, ⟨c1, c2, c3⟩, q5, q6⟩ := hF
  refine wp_iload_n d_22_0 (by rfl) ?_
  refine wp_aload_n d_22_1 (by rfl) ?_
  refine wp_getR (0) d_22_2 fl_0_12 rfl rfl (by assumption) (by assumption) ?_
  refine wp_getI (6) d_22_5 fl_0_97 rfl rfl (by assumption) (fun x_5 e_5 r_5 => ?_)
  refine wp_callS d_22_8 c_22_107 rfl (by rfl) (by rfl) (by exact Nat.le_of_ble_eq_true rfl) (by exact Nat.le_of_ble_eq_true rfl) (t_needIndex (by first | assumption | omega) (by omega) r1 r2) (fun v_8 h_8 q_8 => ?_) (fun E_8 h_8 q_8 => ?_)
  rotate_left
  · exact xp_out rfl q_8.2
  obtain ⟨q, -⟩ := q_8
  exact absurd q (by omega)
set_option maxRecDepth 100000 in
set_option maxHeartbeats 4000000 in
theorem t_addCall {w : Nat} {p0 p1 p2 p3 : Int} {h : Hp} (hF : Fr h w) (i_p0 : inR p0) (i_p1 : inR p1) (i_p2 : inR p2) (i_p3 : inR p3) (r1 : nx h + 1 ≤ cn h) (r2 : us h + 6 ≤ cs h) : wp 23 0 (entL [vR (some w), vI p0, vI p1, vI p2, vI p3] (mL 23)) [] h (fun _ _ => False) (XE "java/lang/IndexOutOfBoundsException" h) := by
  have hF0 := hF
  obtain ⟨q1, q2, q3, q4, ⟨a1, a2, a3, a4⟩, ⟨b1, b2, b3⟩, ⟨c1, c2, c3⟩, q5, q6⟩ := hF
  refine wp_aload_n d_23_0 (by rfl) ?_
  refine wp_iload_n d_23_1 (by rfl) ?_
  refine wp_callV d_23_2 c_23_135 rfl (by rfl) (by rfl) ⟨0, rfl, rfl, by decide⟩ (by assumption) (by exact Nat.le_of_ble_eq_true rfl) (by exact Nat.le_of_ble_eq_true rfl) (t_needTrip hF0 (by assumption) r1 r2) (fun _ _ q => q.elim) (fun E_2 h_2 q_2 => ?_)
  exact xp_out rfl q_2
set_option maxRecDepth 100000 in
set_option maxHeartbeats 4000000 in
theorem t_calls {w : Nat} {p0 : Int} {h : Hp} (hF : Fr h w) (i_p0 : inR p0) (r1 : nx h + 1 ≤ cn h) (r2 : us h + 6 ≤ cs h) : wp 24 0 (entL [vR (some w), vI p0] (mL 24)) [] h (fun _ _ => False) (XE "java/lang/IndexOutOfBoundsException" h) := by
  have hF0 := hF
  obtain ⟨q1, q2, q3, q4, ⟨a1, a2, a3, a4⟩, ⟨b1, b2, b3⟩, ⟨c1, c2, c3⟩, q5, q6⟩ := hF
  refine wp_aload_n d_24_0 (by rfl) ?_
  refine wp_iload_n d_24_1 (by rfl) ?_
  refine wp_callV d_24_2 c_24_135 rfl (by rfl) (by rfl) ⟨0, rfl, rfl, by decide⟩ (by assumption) (by exact Nat.le_of_ble_eq_true rfl) (by exact Nat.le_of_ble_eq_true rfl) (t_needTrip hF0 (by assumption) r1 r2) (fun _ _ q => q.elim) (fun E_2 h_2 q_2 => ?_)
  exact xp_out rfl q_2
set_option maxRecDepth 100000 in
set_option maxHeartbeats 4000000 in
theorem t_stopOf {w : Nat} {p0 p1 : Int} {h : Hp} (hF : Fr h w) (i_p0 : inR p0) (i_p1 : inR p1) (r1 : nx h + 1 ≤ cn h) (r2 : us h + 6 ≤ cs h) : wp 25 0 (entL [vR (some w), vI p0, vI p1] (mL 25)) [] h (fun _ _ => False) (XE "java/lang/IndexOutOfBoundsException" h) := by
  have hF0 := hF
  obtain ⟨q1, q2, q3, q4, ⟨a1, a2, a3, a4⟩, ⟨b1, b2, b3⟩, ⟨c1, c2, c3⟩, q5, q6⟩ := hF
  refine wp_aload_n d_25_0 (by rfl) ?_
  refine wp_iload_n d_25_1 (by rfl) ?_
  refine wp_callV d_25_2 c_25_135 rfl (by rfl) (by rfl) ⟨0, rfl, rfl, by decide⟩ (by assumption) (by exact Nat.le_of_ble_eq_true rfl) (by exact Nat.le_of_ble_eq_true rfl) (t_needTrip hF0 (by assumption) r1 r2) (fun _ _ q => q.elim) (fun E_2 h_2 q_2 => ?_)
  exact xp_out rfl q_2
set_option maxRecDepth 100000 in
set_option maxHeartbeats 4000000 in
theorem t_late {w : Nat} {p0 p1 p2 : Int} {h : Hp} (hF : Fr h w) (i_p0 : inR p0) (i_p1 : inR p1) (i_p2 : inR p2) (r1 : nx h + 1 ≤ cn h) (r2 : us h + 6 ≤ cs h) : wp 26 0 (entL [vR (some w), vI p0, vI p1, vI p2] (mL 26)) [] h (fun _ _ => False) (XE "java/lang/IndexOutOfBoundsException" h) := by
  have hF0 := hF
  obtain ⟨q1, q2, q3, q4, ⟨a1, a2, a3, a4⟩, ⟨b1, b2, b3⟩, ⟨c1, c2, c3⟩, q5, q6⟩ := hF
  refine wp_aload_n d_26_0 (by rfl) ?_
  refine wp_iload_n d_26_1 (by rfl) ?_
  refine wp_callV d_26_2 c_26_135 rfl (by rfl) (by rfl) ⟨0, rfl, rfl, by decide⟩ (by assumption) (by exact Nat.le_of_ble_eq_true rfl) (by exact Nat.le_of_ble_eq_true rfl) (t_needTrip hF0 (by assumption) r1 r2) (fun _ _ q => q.elim) (fun E_2 h_2 q_2 => ?_)
  exact xp_out rfl q_2
set_option maxRecDepth 100000 in
set_option maxHeartbeats 4000000 in
theorem t_cancel {w : Nat} {p0 p1 : Int} {h : Hp} (hF : Fr h w) (i_p0 : inR p0) (i_p1 : inR p1) (r1 : nx h + 1 ≤ cn h) (r2 : us h + 6 ≤ cs h) : wp 27 0 (entL [vR (some w), vI p0, vI p1] (mL 27)) [] h (fun _ _ => False) (XE "java/lang/IndexOutOfBoundsException" h) := by
  have hF0 := hF
  obtain ⟨q1, q2, q3, q4, ⟨a1, a2, a3, a4⟩, ⟨b1, b2, b3⟩, ⟨c1, c2, c3⟩, q5, q6⟩ := hF
  refine wp_aload_n d_27_0 (by rfl) ?_
  refine wp_iload_n d_27_1 (by rfl) ?_
  refine wp_callV d_27_2 c_27_135 rfl (by rfl) (by rfl) ⟨0, rfl, rfl, by decide⟩ (by assumption) (by exact Nat.le_of_ble_eq_true rfl) (by exact Nat.le_of_ble_eq_true rfl) (t_needTrip hF0 (by assumption) r1 r2) (fun _ _ q => q.elim) (fun E_2 h_2 q_2 => ?_)
  exact xp_out rfl q_2
set_option maxRecDepth 100000 in
set_option maxHeartbeats 4000000 in
theorem t_lateOf {w : Nat} {p0 p1 : Int} {h : Hp} (hF : Fr h w) (i_p0 : inR p0) (i_p1 : inR p1) (r1 : nx h + 1 ≤ cn h) (r2 : us h + 6 ≤ cs h) : wp 7 0 (entL [vR (some w), vI p0, vI p1] (mL 7)) [] h (fun _ _ => False) (XE "java/lang/IndexOutOfBoundsException" h) := by
  have hF0 := hF
  obtain ⟨q1, q2, q3, q4, ⟨a1, a2, a3, a4⟩, ⟨b1, b2, b3⟩, ⟨c1, c2, c3⟩, q5, q6⟩ := hF
  refine wp_aload_n d_7_0 (by rfl) ?_
  refine wp_iload_n d_7_1 (by rfl) ?_
  refine wp_callV d_7_2 c_7_135 rfl (by rfl) (by rfl) ⟨0, rfl, rfl, by decide⟩ (by assumption) (by exact Nat.le_of_ble_eq_true rfl) (by exact Nat.le_of_ble_eq_true rfl) (t_needTrip hF0 (by assumption) r1 r2) (fun _ _ q => q.elim) (fun E_2 h_2 q_2 => ?_)
  exact xp_out rfl q_2
set_option maxRecDepth 100000 in
set_option maxHeartbeats 4000000 in
theorem t_departures {w : Nat} {p0 p1 : Int} {h : Hp} (hF : Fr h w) (i_p0 : inR p0) (i_p1 : inR p1) (r1 : nx h + 1 ≤ cn h) (r2 : us h + 6 ≤ cs h) : wp 28 0 (entL [vR (some w), vI p0, vI p1] (mL 28)) [] h (fun _ _ => False) (XE "java/lang/IndexOutOfBoundsException" h) := by
  have hF0 := hF
  obtain ⟨q1, q2, q3, q4, ⟨a1, a2, a3, a4⟩, ⟨b1, b2, b3⟩, ⟨c1, c2, c3⟩, q5, q6⟩ := hF
  refine wp_aload_n d_28_0 (by rfl) ?_
  refine wp_iload_n d_28_1 (by rfl) ?_
  refine wp_callV d_28_2 c_28_77 rfl (by rfl) (by rfl) ⟨0, rfl, rfl, by decide⟩ (by assumption) (by exact Nat.le_of_ble_eq_true rfl) (by exact Nat.le_of_ble_eq_true rfl) (t_needStop hF0 (by assumption) r1 r2) (fun _ _ q => q.elim) (fun E_2 h_2 q_2 => ?_)
  exact xp_out rfl q_2
set_option maxRecDepth 100000 in
set_option maxHeartbeats 4000000 in
theorem t_departsAt {w : Nat} {p0 p1 p2 : Int} {h : Hp} (hF : Fr h w) (i_p0 : inR p0) (i_p1 : inR p1) (i_p2 : inR p2) (r1 : nx h + 1 ≤ cn h) (r2 : us h + 6 ≤ cs h) : wp 30 0 (entL [vR (some w), vI p0, vI p1, vI p2] (mL 30)) [] h (fun _ _ => False) (XE "java/lang/IndexOutOfBoundsException" h) := by
  have hF0 := hF
  obtain ⟨q1, q2, q3, q4, ⟨a1, a2, a3, a4⟩, ⟨b1, b2, b3⟩, ⟨c1, c2, c3⟩, q5, q6⟩ := hF
  refine wp_aload_n d_30_0 (by rfl) ?_
  refine wp_iload_n d_30_1 (by rfl) ?_
  refine wp_callV d_30_2 c_30_77 rfl (by rfl) (by rfl) ⟨0, rfl, rfl, by decide⟩ (by assumption) (by exact Nat.le_of_ble_eq_true rfl) (by exact Nat.le_of_ble_eq_true rfl) (t_needStop hF0 (by assumption) r1 r2) (fun _ _ q => q.elim) (fun E_2 h_2 q_2 => ?_)
  exact xp_out rfl q_2
set_option maxRecDepth 100000 in
set_option maxHeartbeats 4000000 in
theorem t_tripAt {w : Nat} {p0 p1 p2 : Int} {h : Hp} (hF : Fr h w) (i_p0 : inR p0) (i_p1 : inR p1) (i_p2 : inR p2) (r1 : nx h + 1 ≤ cn h) (r2 : us h + 6 ≤ cs h) : wp 31 0 (entL [vR (some w), vI p0, vI p1, vI p2] (mL 31)) [] h (fun _ _ => False) (XE "java/lang/IndexOutOfBoundsException" h) := by
  have hF0 := hF
  obtain ⟨q1, q2, q3, q4, ⟨a1, a2, a3, a4⟩, ⟨b1, b2, b3⟩, ⟨c1, c2, c3⟩, q5, q6⟩ := hF
  refine wp_aload_n d_31_0 (by rfl) ?_
  refine wp_iload_n d_31_1 (by rfl) ?_
  refine wp_callV d_31_2 c_31_77 rfl (by rfl) (by rfl) ⟨0, rfl, rfl, by decide⟩ (by assumption) (by exact Nat.le_of_ble_eq_true rfl) (by exact Nat.le_of_ble_eq_true rfl) (t_needStop hF0 (by assumption) r1 r2) (fun _ _ q => q.elim) (fun E_2 h_2 q_2 => ?_)
  exact xp_out rfl q_2
set_option maxRecDepth 100000 in
set_option maxHeartbeats 4000000 in
theorem t_earliest {w : Nat} {p0 p1 p2 : Int} {h : Hp} (hF : Fr h w) (i_p0 : inR p0) (i_p1 : inR p1) (i_p2 : inR p2) (r1 : nx h + 1 ≤ cn h) (r2 : us h + 6 ≤ cs h) : wp 32 0 (entL [vR (some w), vI p0, vI p1, vI p2] (mL 32)) [] h (fun _ _ => False) (XE "java/lang/IndexOutOfBoundsException" h) := by
  have hF0 := hF
  obtain ⟨q1, q2, q3, q4, ⟨a1, a2, a3, a4⟩, ⟨b1, b2, b3⟩, ⟨c1, c2, c3⟩, q5, q6⟩ := hF
  refine wp_aload_n d_32_0 (by rfl) ?_
  refine wp_iload_n d_32_1 (by rfl) ?_
  refine wp_callV d_32_2 c_32_77 rfl (by rfl) (by rfl) ⟨0, rfl, rfl, by decide⟩ (by assumption) (by exact Nat.le_of_ble_eq_true rfl) (by exact Nat.le_of_ble_eq_true rfl) (t_needStop hF0 (by assumption) r1 r2) (fun _ _ q => q.elim) (fun E_2 h_2 q_2 => ?_)
  exact xp_out rfl q_2
set_option maxRecDepth 100000 in
set_option maxHeartbeats 4000000 in
theorem t_withRides {w : Nat} {p0 p1 p2 p3 : Int} {h : Hp} (hF : Fr h w) (i_p0 : inR p0) (i_p1 : inR p1) (i_p2 : inR p2) (i_p3 : inR p3) (r1 : nx h + 1 ≤ cn h) (r2 : us h + 6 ≤ cs h) : wp 34 0 (entL [vR (some w), vI p0, vI p1, vI p2, vI p3] (mL 34)) [] h (fun _ _ => False) (XE "java/lang/IndexOutOfBoundsException" h) := by
  have hF0 := hF
  obtain ⟨q1, q2, q3, q4, ⟨a1, a2, a3, a4⟩, ⟨b1, b2, b3⟩, ⟨c1, c2, c3⟩, q5, q6⟩ := hF
  refine wp_aload_n d_34_0 (by rfl) ?_
  refine wp_iload_n d_34_1 (by rfl) ?_
  refine wp_callV d_34_2 c_34_77 rfl (by rfl) (by rfl) ⟨0, rfl, rfl, by decide⟩ (by assumption) (by exact Nat.le_of_ble_eq_true rfl) (by exact Nat.le_of_ble_eq_true rfl) (t_needStop hF0 (by assumption) r1 r2) (fun _ _ q => q.elim) (fun E_2 h_2 q_2 => ?_)
  exact xp_out rfl q_2
set_option maxRecDepth 100000 in
set_option maxHeartbeats 4000000 in
theorem t_rides {w : Nat} {p0 p1 p2 : Int} {h : Hp} (hF : Fr h w) (i_p0 : inR p0) (i_p1 : inR p1) (i_p2 : inR p2) (r1 : nx h + 1 ≤ cn h) (r2 : us h + 6 ≤ cs h) : wp 35 0 (entL [vR (some w), vI p0, vI p1, vI p2] (mL 35)) [] h (fun _ _ => False) (XE "java/lang/IndexOutOfBoundsException" h) := by
  have hF0 := hF
  obtain ⟨q1, q2, q3, q4, ⟨a1, a2, a3, a4⟩, ⟨b1, b2, b3⟩, ⟨c1, c2, c3⟩, q5, q6⟩ := hF
  refine wp_aload_n d_35_0 (by rfl) ?_
  refine wp_iload_n d_35_1 (by rfl) ?_
  refine wp_callV d_35_2 c_35_77 rfl (by rfl) (by rfl) ⟨0, rfl, rfl, by decide⟩ (by assumption) (by exact Nat.le_of_ble_eq_true rfl) (by exact Nat.le_of_ble_eq_true rfl) (t_needStop hF0 (by assumption) r1 r2) (fun _ _ q => q.elim) (fun E_2 h_2 q_2 => ?_)
  exact xp_out rfl q_2
set_option maxRecDepth 100000 in
set_option maxHeartbeats 4000000 in
theorem t_cheapest {w : Nat} {p0 p1 p2 p3 : Int} {h : Hp} (hF : Fr h w) (i_p0 : inR p0) (i_p1 : inR p1) (i_p2 : inR p2) (i_p3 : inR p3) (r1 : nx h + 1 ≤ cn h) (r2 : us h + 6 ≤ cs h) : wp 36 0 (entL [vR (some w), vI p0, vI p1, vI p2, vI p3] (mL 36)) [] h (fun _ _ => False) (XE "java/lang/IndexOutOfBoundsException" h) := by
  have hF0 := hF
  obtain ⟨q1, q2, q3, q4, ⟨a1, a2, a3, a4⟩, ⟨b1, b2, b3⟩, ⟨c1, c2, c3⟩, q5, q6⟩ := hF
  refine wp_aload_n d_36_0 (by rfl) ?_
  refine wp_iload_n d_36_1 (by rfl) ?_
  refine wp_callV d_36_2 c_36_77 rfl (by rfl) (by rfl) ⟨0, rfl, rfl, by decide⟩ (by assumption) (by exact Nat.le_of_ble_eq_true rfl) (by exact Nat.le_of_ble_eq_true rfl) (t_needStop hF0 (by assumption) r1 r2) (fun _ _ q => q.elim) (fun E_2 h_2 q_2 => ?_)
  exact xp_out rfl q_2
set_option maxRecDepth 100000 in
set_option maxHeartbeats 4000000 in
theorem t_latest {w : Nat} {p0 p1 p2 : Int} {h : Hp} (hF : Fr h w) (i_p0 : inR p0) (i_p1 : inR p1) (i_p2 : inR p2) (r1 : nx h + 1 ≤ cn h) (r2 : us h + 6 ≤ cs h) : wp 37 0 (entL [vR (some w), vI p0, vI p1, vI p2] (mL 37)) [] h (fun _ _ => False) (XE "java/lang/IndexOutOfBoundsException" h) := by
  have hF0 := hF
  obtain ⟨q1, q2, q3, q4, ⟨a1, a2, a3, a4⟩, ⟨b1, b2, b3⟩, ⟨c1, c2, c3⟩, q5, q6⟩ := hF
  refine wp_aload_n d_37_0 (by rfl) ?_
  refine wp_iload_n d_37_1 (by rfl) ?_
  refine wp_callV d_37_2 c_37_77 rfl (by rfl) (by rfl) ⟨0, rfl, rfl, by decide⟩ (by assumption) (by exact Nat.le_of_ble_eq_true rfl) (by exact Nat.le_of_ble_eq_true rfl) (t_needStop hF0 (by assumption) r1 r2) (fun _ _ q => q.elim) (fun E_2 h_2 q_2 => ?_)
  exact xp_out rfl q_2
set_option maxRecDepth 100000 in
set_option maxHeartbeats 4000000 in
theorem t_reached {w : Nat} {p0 p1 p2 : Int} {h : Hp} (hF : Fr h w) (i_p0 : inR p0) (i_p1 : inR p1) (i_p2 : inR p2) (r1 : nx h + 1 ≤ cn h) (r2 : us h + 6 ≤ cs h) : wp 38 0 (entL [vR (some w), vI p0, vI p1, vI p2] (mL 38)) [] h (fun _ _ => False) (XE "java/lang/IndexOutOfBoundsException" h) := by
  have hF0 := hF
  obtain ⟨q1, q2, q3, q4, ⟨a1, a2, a3, a4⟩, ⟨b1, b2, b3⟩, ⟨c1, c2, c3⟩, q5, q6⟩ := hF
  refine wp_aload_n d_38_0 (by rfl) ?_
  refine wp_iload_n d_38_1 (by rfl) ?_
  refine wp_callV d_38_2 c_38_77 rfl (by rfl) (by rfl) ⟨0, rfl, rfl, by decide⟩ (by assumption) (by exact Nat.le_of_ble_eq_true rfl) (by exact Nat.le_of_ble_eq_true rfl) (t_needStop hF0 (by assumption) r1 r2) (fun _ _ q => q.elim) (fun E_2 h_2 q_2 => ?_)
  exact xp_out rfl q_2
set_option maxRecDepth 100000 in
set_option maxHeartbeats 4000000 in
theorem t_find {w : Nat} {p0 p1 p2 : Int} {h : Hp} (hF : Fr h w) (i_p0 : inR p0) (i_p1 : inR p1) (i_p2 : inR p2) (r1 : nx h + 1 ≤ cn h) (r2 : us h + 6 ≤ cs h) : wp 39 0 (entL [vR (some w), vI p0, vI p1, vI p2] (mL 39)) [] h (fun _ _ => False) (XE "java/lang/IndexOutOfBoundsException" h) := by
  have hF0 := hF
  obtain ⟨q1, q2, q3, q4, ⟨a1, a2, a3, a4⟩, ⟨b1, b2, b3⟩, ⟨c1, c2, c3⟩, q5, q6⟩ := hF
  refine wp_aload_n d_39_0 (by rfl) ?_
  refine wp_iload_n d_39_1 (by rfl) ?_
  refine wp_callV d_39_2 c_39_77 rfl (by rfl) (by rfl) ⟨0, rfl, rfl, by decide⟩ (by assumption) (by exact Nat.le_of_ble_eq_true rfl) (by exact Nat.le_of_ble_eq_true rfl) (t_needStop hF0 (by assumption) r1 r2) (fun _ _ q => q.elim) (fun E_2 h_2 q_2 => ?_)
  exact xp_out rfl q_2
set_option maxRecDepth 100000 in
set_option maxHeartbeats 4000000 in
theorem t_legTrip {w : Nat} {p0 : Int} {h : Hp} (hF : Fr h w) (i_p0 : inR p0) (r1 : nx h + 1 ≤ cn h) (r2 : us h + 6 ≤ cs h) : wp 40 0 (entL [vR (some w), vI p0] (mL 40)) [] h (fun _ _ => False) (XE "java/lang/IllegalStateException" h) := by
  have hF0 := hF
  obtain ⟨q1, q2, q3, q4, ⟨a1, a2, a3, a4⟩, ⟨b1, b2, b3⟩, ⟨c1, c2, c3⟩, q5, q6⟩ := hF
  refine wp_aload_n d_40_0 (by rfl) ?_
  refine wp_iload_n d_40_1 (by rfl) ?_
  refine wp_callV d_40_2 c_40_224 rfl (by rfl) (by rfl) ⟨0, rfl, rfl, by decide⟩ (by assumption) (by exact Nat.le_of_ble_eq_true rfl) (by exact Nat.le_of_ble_eq_true rfl) (t_needLeg hF0 (by assumption) r1 r2) (fun _ _ q => q.elim) (fun E_2 h_2 q_2 => ?_)
  exact xp_out rfl q_2
set_option maxRecDepth 100000 in
set_option maxHeartbeats 4000000 in
theorem t_legTo {w : Nat} {p0 : Int} {h : Hp} (hF : Fr h w) (i_p0 : inR p0) (r1 : nx h + 1 ≤ cn h) (r2 : us h + 6 ≤ cs h) : wp 42 0 (entL [vR (some w), vI p0] (mL 42)) [] h (fun _ _ => False) (XE "java/lang/IllegalStateException" h) := by
  have hF0 := hF
  obtain ⟨q1, q2, q3, q4, ⟨a1, a2, a3, a4⟩, ⟨b1, b2, b3⟩, ⟨c1, c2, c3⟩, q5, q6⟩ := hF
  refine wp_aload_n d_42_0 (by rfl) ?_
  refine wp_iload_n d_42_1 (by rfl) ?_
  refine wp_callV d_42_2 c_42_224 rfl (by rfl) (by rfl) ⟨0, rfl, rfl, by decide⟩ (by assumption) (by exact Nat.le_of_ble_eq_true rfl) (by exact Nat.le_of_ble_eq_true rfl) (t_needLeg hF0 (by assumption) r1 r2) (fun _ _ q => q.elim) (fun E_2 h_2 q_2 => ?_)
  exact xp_out rfl q_2
set_option maxRecDepth 100000 in
set_option maxHeartbeats 4000000 in
theorem t_legBegin {w : Nat} {p0 : Int} {h : Hp} (hF : Fr h w) (i_p0 : inR p0) (r1 : nx h + 1 ≤ cn h) (r2 : us h + 6 ≤ cs h) : wp 43 0 (entL [vR (some w), vI p0] (mL 43)) [] h (fun _ _ => False) (XE "java/lang/IllegalStateException" h) := by
  have hF0 := hF
  obtain ⟨q1, q2, q3, q4, ⟨a1, a2, a3, a4⟩, ⟨b1, b2, b3⟩, ⟨c1, c2, c3⟩, q5, q6⟩ := hF
  refine wp_aload_n d_43_0 (by rfl) ?_
  refine wp_iload_n d_43_1 (by rfl) ?_
  refine wp_callV d_43_2 c_43_224 rfl (by rfl) (by rfl) ⟨0, rfl, rfl, by decide⟩ (by assumption) (by exact Nat.le_of_ble_eq_true rfl) (by exact Nat.le_of_ble_eq_true rfl) (t_needLeg hF0 (by assumption) r1 r2) (fun _ _ q => q.elim) (fun E_2 h_2 q_2 => ?_)
  exact xp_out rfl q_2
set_option maxRecDepth 100000 in
set_option maxHeartbeats 4000000 in
theorem t_legEnd {w : Nat} {p0 : Int} {h : Hp} (hF : Fr h w) (i_p0 : inR p0) (r1 : nx h + 1 ≤ cn h) (r2 : us h + 6 ≤ cs h) : wp 44 0 (entL [vR (some w), vI p0] (mL 44)) [] h (fun _ _ => False) (XE "java/lang/IllegalStateException" h) := by
  have hF0 := hF
  obtain ⟨q1, q2, q3, q4, ⟨a1, a2, a3, a4⟩, ⟨b1, b2, b3⟩, ⟨c1, c2, c3⟩, q5, q6⟩ := hF
  refine wp_aload_n d_44_0 (by rfl) ?_
  refine wp_iload_n d_44_1 (by rfl) ?_
  refine wp_callV d_44_2 c_44_224 rfl (by rfl) (by rfl) ⟨0, rfl, rfl, by decide⟩ (by assumption) (by exact Nat.le_of_ble_eq_true rfl) (by exact Nat.le_of_ble_eq_true rfl) (t_needLeg hF0 (by assumption) r1 r2) (fun _ _ q => q.elim) (fun E_2 h_2 q_2 => ?_)
  exact xp_out rfl q_2
set_option maxRecDepth 100000 in
set_option maxHeartbeats 4000000 in
theorem t_slack {w : Nat}  {h : Hp} (hF : Fr h w)  (r1 : nx h + 1 ≤ cn h) (r2 : us h + 6 ≤ cs h) : wp 45 0 (entL [vR (some w)] (mL 45)) [] h (fun _ _ => False) (XE "java/lang/IllegalStateException" h) := by
  have hF0 := hF
  obtain ⟨q1, q2, q3, q4, ⟨a1, a2, a3, a4⟩, ⟨b1, b2, b3⟩, ⟨c1, c2, c3⟩, q5, q6⟩ := hF
  refine wp_aload_n d_45_0 (by rfl) ?_
  refine wp_getR (6) d_45_1 fl_0_54 rfl rfl (by assumption) (by assumption) ?_
  refine wp_getI (0) d_45_4 fl_0_219 rfl rfl (by assumption) (fun x_4 e_4 r_4 => ?_)
  refine wp_callS d_45_7 c_45_70 rfl (by rfl) (by rfl) (by exact Nat.le_of_ble_eq_true rfl) (by exact Nat.le_of_ble_eq_true rfl) (t_needState (by omega) r1 r2) (fun v_7 h_7 q_7 => ?_) (fun E_7 h_7 q_7 => ?_)
  rotate_left
  · exact xp_out rfl q_7.2
  obtain ⟨q, -⟩ := q_7
  exact absurd q (by omega)
set_option maxRecDepth 100000 in
set_option maxHeartbeats 4000000 in
theorem t_price {w : Nat}  {h : Hp} (hF : Fr h w)  (r1 : nx h + 1 ≤ cn h) (r2 : us h + 6 ≤ cs h) : wp 46 0 (entL [vR (some w)] (mL 46)) [] h (fun _ _ => False) (XE "java/lang/IllegalStateException" h) := by
  have hF0 := hF
  obtain ⟨q1, q2, q3, q4, ⟨a1, a2, a3, a4⟩, ⟨b1, b2, b3⟩, ⟨c1, c2, c3⟩, q5, q6⟩ := hF
  refine wp_aload_n d_46_0 (by rfl) ?_
  refine wp_getR (6) d_46_1 fl_0_54 rfl rfl (by assumption) (by assumption) ?_
  refine wp_getI (0) d_46_4 fl_0_219 rfl rfl (by assumption) (fun x_4 e_4 r_4 => ?_)
  refine wp_callS d_46_7 c_46_70 rfl (by rfl) (by rfl) (by exact Nat.le_of_ble_eq_true rfl) (by exact Nat.le_of_ble_eq_true rfl) (t_needState (by omega) r1 r2) (fun v_7 h_7 q_7 => ?_) (fun E_7 h_7 q_7 => ?_)
  rotate_left
  · exact xp_out rfl q_7.2
  obtain ⟨q, -⟩ := q_7
  exact absurd q (by omega)
set_option maxRecDepth 100000 in
set_option maxHeartbeats 4000000 in
theorem t_holds {w : Nat}  {h : Hp} (hF : Fr h w)  (r1 : nx h + 1 ≤ cn h) (r2 : us h + 6 ≤ cs h) : wp 47 0 (entL [vR (some w)] (mL 47)) [] h (fun _ _ => False) (XE "java/lang/IllegalStateException" h) := by
  have hF0 := hF
  obtain ⟨q1, q2, q3, q4, ⟨a1, a2, a3, a4⟩, ⟨b1, b2, b3⟩, ⟨c1, c2, c3⟩, q5, q6⟩ := hF
  refine wp_aload_n d_47_0 (by rfl) ?_
  refine wp_getR (6) d_47_1 fl_0_54 rfl rfl (by assumption) (by assumption) ?_
  refine wp_getI (0) d_47_4 fl_0_219 rfl rfl (by assumption) (fun x_4 e_4 r_4 => ?_)
  refine wp_callS d_47_7 c_47_70 rfl (by rfl) (by rfl) (by exact Nat.le_of_ble_eq_true rfl) (by exact Nat.le_of_ble_eq_true rfl) (t_needState (by omega) r1 r2) (fun v_7 h_7 q_7 => ?_) (fun E_7 h_7 q_7 => ?_)
  rotate_left
  · exact xp_out rfl q_7.2
  obtain ⟨q, -⟩ := q_7
  exact absurd q (by omega)
set_option maxRecDepth 100000 in
set_option maxHeartbeats 4000000 in
theorem t_earliestIf {w : Nat} {p0 p1 p2 : Int} {h : Hp} (hF : Fr h w) (i_p0 : inR p0) (i_p1 : inR p1) (i_p2 : inR p2) (r1 : nx h + 1 ≤ cn h) (r2 : us h + 6 ≤ cs h) : wp 48 0 (entL [vR (some w), vI p0, vI p1, vI p2] (mL 48)) [] h (fun _ _ => False) (XE "java/lang/IllegalStateException" h) := by
  have hF0 := hF
  obtain ⟨q1, q2, q3, q4, ⟨a1, a2, a3, a4⟩, ⟨b1, b2, b3⟩, ⟨c1, c2, c3⟩, q5, q6⟩ := hF
  refine wp_aload_n d_48_0 (by rfl) ?_
  refine wp_getR (6) d_48_1 fl_0_54 rfl rfl (by assumption) (by assumption) ?_
  refine wp_getI (0) d_48_4 fl_0_219 rfl rfl (by assumption) (fun x_4 e_4 r_4 => ?_)
  refine wp_callS d_48_7 c_48_70 rfl (by rfl) (by rfl) (by exact Nat.le_of_ble_eq_true rfl) (by exact Nat.le_of_ble_eq_true rfl) (t_needState (by omega) r1 r2) (fun v_7 h_7 q_7 => ?_) (fun E_7 h_7 q_7 => ?_)
  rotate_left
  · exact xp_out rfl q_7.2
  obtain ⟨q, -⟩ := q_7
  exact absurd q (by omega)
set_option maxRecDepth 100000 in
set_option maxHeartbeats 4000000 in
theorem t_stops {w : Nat} {h : Hp} (hF : Fr h w) : wp 1 0 (entL [vR (some w)] (mL 1)) [] h (fun v h' => v = some (vI 0) ∧ h' = h) noX := by
  have hF0 := hF
  obtain ⟨q1, q2, q3, q4, ⟨a1, a2, a3, a4⟩, ⟨b1, b2, b3⟩, ⟨c1, c2, c3⟩, q5, q6⟩ := hF
  refine wp_aload_n d_1_0 (by rfl) ?_
  refine wp_getR (0) d_1_1 fl_0_12 rfl rfl (by assumption) (by assumption) ?_
  refine wp_getI (4) d_1_4 fl_0_66 rfl rfl (by assumption) (fun x_4 e_4 r_4 => ?_)
  refine wp_iret d_1_7 rfl ?_
  exact ⟨congrArg (fun z => some z) (by first | rfl | (congr 1; omega) | (congr 3; omega)), rfl⟩
set_option maxRecDepth 100000 in
set_option maxHeartbeats 4000000 in
theorem t_trips {w : Nat} {h : Hp} (hF : Fr h w) : wp 2 0 (entL [vR (some w)] (mL 2)) [] h (fun v h' => v = some (vI 0) ∧ h' = h) noX := by
  have hF0 := hF
  obtain ⟨q1, q2, q3, q4, ⟨a1, a2, a3, a4⟩, ⟨b1, b2, b3⟩, ⟨c1, c2, c3⟩, q5, q6⟩ := hF
  refine wp_aload_n d_2_0 (by rfl) ?_
  refine wp_getR (0) d_2_1 fl_0_12 rfl rfl (by assumption) (by assumption) ?_
  refine wp_getI (7) d_2_4 fl_0_117 rfl rfl (by assumption) (fun x_4 e_4 r_4 => ?_)
  refine wp_iret d_2_7 rfl ?_
  exact ⟨congrArg (fun z => some z) (by first | rfl | (congr 1; omega) | (congr 3; omega)), rfl⟩
set_option maxRecDepth 100000 in
set_option maxHeartbeats 4000000 in
theorem t_legs {w : Nat} {h : Hp} (hF : Fr h w) : wp 3 0 (entL [vR (some w)] (mL 3)) [] h (fun v h' => v = some (vI (-1)) ∧ h' = h) noX := by
  have hF0 := hF
  obtain ⟨q1, q2, q3, q4, ⟨a1, a2, a3, a4⟩, ⟨b1, b2, b3⟩, ⟨c1, c2, c3⟩, q5, q6⟩ := hF
  refine wp_aload_n d_3_0 (by rfl) ?_
  refine wp_getR (6) d_3_1 fl_0_54 rfl rfl (by assumption) (by assumption) ?_
  refine wp_getI (0) d_3_4 fl_0_219 rfl rfl (by assumption) (fun x_4 e_4 r_4 => ?_)
  refine wp_if_eq (tgt := 20) d_3_7 (by decide) (by omega) (fun c_7 => ?_) (fun c_7 => ?_)
  · refine wp_iconst d_3_20 ?_
    refine wp_iret d_3_21 rfl ?_
    exact ⟨congrArg (fun z => some z) (by first | rfl | (congr 1; omega) | (congr 3; omega)), rfl⟩
  · refine wp_aload_n d_3_10 (by rfl) ?_
    refine wp_getR (6) d_3_11 fl_0_54 rfl rfl (by assumption) (by assumption) ?_
    refine wp_getI (4) d_3_14 fl_0_223 rfl rfl (by assumption) (fun x_14 e_14 r_14 => ?_)
    refine wp_goto (tgt := 21) d_3_17 (by decide) ?_
    refine wp_iret d_3_21 rfl ?_
    exact ⟨congrArg (fun z => some z) (by first | rfl | (congr 1; omega) | (congr 3; omega)), rfl⟩
set_option maxRecDepth 100000 in
set_option maxHeartbeats 4000000 in
theorem t_mix {x y : Int} {h : Hp} (hy : inR y) : wp 6 0 (entL [vL x, vI y] (mL 6)) [] h (fun v h' => v = some (vL (x * 31 + y)) ∧ h' = h) noX := by
  refine wp_lload_n d_6_0 (by rfl) ?_
  refine wp_ldc2 (31) d_6_1 ck_0_275 (by decide) ?_
  refine wp_lmul d_6_4 ?_
  refine wp_iload_n d_6_5 (by rfl) ?_
  refine wp_i2l d_6_6 (by omega) ?_
  refine wp_ladd d_6_7 ?_
  refine wp_lret d_6_8 rfl ?_
  exact ⟨rfl, rfl⟩
set_option maxRecDepth 100000 in
set_option maxHeartbeats 4000000 in
theorem t_isW {x a b z : Int} {h : Hp} (hx : inR x) (ha : inR a) (hb : inR b) (hz : (a ≤ x ∧ x ≤ b ∧ z = 1) ∨ (¬ (a ≤ x ∧ x ≤ b) ∧ z = 0)) : wp 11 0 (entL [vI x, vI a, vI b] (mL 11)) [] h (fun v h' => v = some (vI z) ∧ h' = h) noX := by
  refine wp_iload_n d_11_0 (by rfl) ?_
  refine wp_iload_n d_11_1 (by rfl) ?_
  refine wp_icmp_lt (tgt := 14) d_11_2 (by decide) (by omega) (by omega) (fun c_2 => ?_) (fun c_2 => ?_)
  · refine wp_iconst d_11_14 ?_
    refine wp_zret d_11_15 rfl (by omega) ?_
    exact ⟨congrArg (fun q => some (vI q)) (by omega), rfl⟩
  · refine wp_iload_n d_11_5 (by rfl) ?_
    refine wp_iload_n d_11_6 (by rfl) ?_
    refine wp_icmp_gt (tgt := 14) d_11_7 (by decide) (by omega) (by omega) (fun c_7 => ?_) (fun c_7 => ?_)
    · refine wp_iconst d_11_14 ?_
      refine wp_zret d_11_15 rfl (by omega) ?_
      exact ⟨congrArg (fun q => some (vI q)) (by omega), rfl⟩
    · refine wp_iconst d_11_10 ?_
      refine wp_goto (tgt := 15) d_11_11 (by decide) ?_
      refine wp_zret d_11_15 rfl (by omega) ?_
      exact ⟨congrArg (fun q => some (vI q)) (by omega), rfl⟩
set_option maxRecDepth 100000 in
set_option maxHeartbeats 4000000 in
theorem t_isD {x z : Int} {h : Hp} (hx : inR x) (hz : (0 ≤ x ∧ x ≤ 365 ∧ z = 1) ∨ (¬ (0 ≤ x ∧ x ≤ 365) ∧ z = 0)) : wp 10 0 (entL [vI x] (mL 10)) [] h (fun v h' => v = some (vI z) ∧ h' = h) noX := by
  refine wp_iload_n d_10_0 (by rfl) ?_
  refine wp_iconst d_10_1 ?_
  refine wp_sipush d_10_2 (by decide) ?_
  refine wp_callS d_10_5 c_10_58 rfl (by rfl) (by rfl) (by exact Nat.le_of_ble_eq_true rfl) (by exact Nat.le_of_ble_eq_true rfl) (t_isW (z := z) hx (by omega) (by omega) hz) (fun v_5 h_5 q_5 => ?_) (fun _ _ q => q.elim)
  obtain ⟨rfl, rfl⟩ := q_5
  refine wp_zret d_10_8 rfl (by omega) ?_
  exact ⟨rfl, rfl⟩
set_option maxRecDepth 100000 in
set_option maxHeartbeats 4000000 in
theorem t_arg1 {h : Hp} : wp 14 0 (entL [vI 1] (mL 14)) [] h (fun v h' => v = none ∧ h' = h) noX := by
  refine wp_iload_n d_14_0 (by rfl) ?_
  refine wp_if_ne (tgt := 15) d_14_1 (by decide) (by omega) (fun c_1 => ?_) (fun c_1 => ?_)
  rotate_left
  · exact absurd c_1 (by omega)
  refine wp_vret d_14_15 rfl ?_
  exact ⟨rfl, rfl⟩
set_option maxRecDepth 100000 in
set_option maxHeartbeats 4000000 in
theorem t_sta1 {h : Hp} : wp 15 0 (entL [vI 1] (mL 15)) [] h (fun v h' => v = none ∧ h' = h) noX := by
  refine wp_iload_n d_15_0 (by rfl) ?_
  refine wp_if_ne (tgt := 15) d_15_1 (by decide) (by omega) (fun c_1 => ?_) (fun c_1 => ?_)
  rotate_left
  · exact absurd c_1 (by omega)
  refine wp_vret d_15_15 rfl ?_
  exact ⟨rfl, rfl⟩
set_option maxRecDepth 100000 in
set_option maxHeartbeats 4000000 in
theorem t_addStop1 {w : Nat} {c : Int} {h : Hp} (hF : Fr h w) (hc : 0 ≤ c ∧ c ≤ 30) : wp 13 0 (entL [vR (some w), vI c] (mL 13)) [] h (fun v h' => v = some (vI 0) ∧ h' = setI (setI h (w + 2) 0 c) (w + 1) 4 1) noX := by
  have hF0 := hF
  obtain ⟨q1, q2, q3, q4, ⟨a1, a2, a3, a4⟩, ⟨b1, b2, b3⟩, ⟨c1, c2, c3⟩, q5, q6⟩ := hF
  refine wp_iload_n d_13_0 (by rfl) ?_
  refine wp_iconst d_13_1 ?_
  refine wp_bipush d_13_2 (by decide) ?_
  refine wp_callS d_13_4 c_13_58 rfl (by rfl) (by rfl) (by exact Nat.le_of_ble_eq_true rfl) (by exact Nat.le_of_ble_eq_true rfl) (t_isW (z := 1) (by omega) (by omega) (by omega) (Or.inl ⟨by omega, by omega, rfl⟩)) (fun v_4 h_4 q_4 => ?_) (fun _ _ q => q.elim)
  obtain ⟨rfl, z_4⟩ := q_4
  replace z_4 := z_4.symm
  subst z_4
  refine wp_callS d_13_7 c_13_62 rfl (by rfl) (by rfl) (by exact Nat.le_of_ble_eq_true rfl) (by exact Nat.le_of_ble_eq_true rfl) (t_arg1) (fun v_7 h_7 q_7 => ?_) (fun _ _ q => q.elim)
  obtain ⟨rfl, z_7⟩ := q_7
  replace z_7 := z_7.symm
  subst z_7
  refine wp_aload_n d_13_10 (by rfl) ?_
  refine wp_getR (0) d_13_11 fl_0_12 rfl rfl (by assumption) (by assumption) ?_
  refine wp_getI (4) d_13_14 fl_0_66 rfl rfl (by assumption) (fun x_14 e_14 r_14 => ?_)
  refine wp_bipush d_13_17 (by decide) ?_
  refine wp_icmp_ge (tgt := 26) d_13_19 (by decide) (by omega) (by omega) (fun c_19 => ?_) (fun c_19 => ?_)
  · exact absurd c_19 (by omega)
  refine wp_iconst d_13_22 ?_
  refine wp_goto (tgt := 27) d_13_23 (by decide) ?_
  refine wp_callS d_13_27 c_13_70 rfl (by rfl) (by rfl) (by exact Nat.le_of_ble_eq_true rfl) (by exact Nat.le_of_ble_eq_true rfl) (t_sta1) (fun v_27 h_27 q_27 => ?_) (fun _ _ q => q.elim)
  obtain ⟨rfl, z_27⟩ := q_27
  replace z_27 := z_27.symm
  subst z_27
  refine wp_aload_n d_13_30 (by rfl) ?_
  refine wp_getR (0) d_13_31 fl_0_12 rfl rfl (by assumption) (by assumption) ?_
  refine wp_getR (0) d_13_34 fl_0_73 rfl rfl (by assumption) (by assumption) ?_
  refine wp_aload_n d_13_37 (by rfl) ?_
  refine wp_getR (0) d_13_38 fl_0_12 rfl rfl (by assumption) (by assumption) ?_
  refine wp_getI (4) d_13_41 fl_0_66 rfl rfl (by assumption) (fun x_41 e_41 r_41 => ?_)
  obtain rfl : x_41 = 0 := e_41.trans a1
  refine wp_iload_n d_13_44 (by rfl) ?_
  refine wp_iast d_13_45 (by assumption) (by omega) (by omega) (by omega) ?_
  refine wp_aload_n d_13_46 (by rfl) ?_
  refine wp_getR (0) d_13_47 fl_0_12 rfl rfl (by assumption) (by assumption) ?_
  refine wp_dup d_13_50 (by rfl) ?_
  refine wp_getI (4) d_13_51 fl_0_66 rfl rfl (by assumption) (fun x_51 e_51 r_51 => ?_)
  obtain rfl : x_51 = 0 := by rw [e_51, hi_setI, up2_ne _ _ (by omega)]; exact a1
  refine wp_iconst d_13_54 ?_
  refine wp_iadd d_13_55 ?_
  refine wp_putI (4) d_13_56 fl_0_66 rfl rfl (Or.inl (by rfl)) (by assumption) (by omega) (fun q => nomatch q) ?_
  refine wp_aload_n d_13_59 (by rfl) ?_
  refine wp_getR (0) d_13_60 fl_0_12 rfl rfl (by assumption) (by assumption) ?_
  refine wp_getI (4) d_13_63 fl_0_66 rfl rfl (by assumption) (fun x_63 e_63 r_63 => ?_)
  obtain rfl : x_63 = 0 + 1 := by rw [e_63, hi_setI, up2_same]
  refine wp_iconst d_13_66 ?_
  refine wp_isub d_13_67 ?_
  refine wp_iret d_13_68 rfl ?_
  exact ⟨rfl, rfl⟩
set_option maxRecDepth 100000 in
set_option maxHeartbeats 4000000 in
theorem t_addStop0 {w : Nat} {c : Int} {h : Hp} (hr : inR c) (hc : ¬ (0 ≤ c ∧ c ≤ 30)) (r1 : nx h + 1 ≤ cn h) (r2 : us h + 6 ≤ cs h) : wp 13 0 (entL [vR (some w), vI c] (mL 13)) [] h (fun _ _ => False) (XE "java/lang/IllegalArgumentException" h) := by
  refine wp_iload_n d_13_0 (by rfl) ?_
  refine wp_iconst d_13_1 ?_
  refine wp_bipush d_13_2 (by decide) ?_
  refine wp_callS d_13_4 c_13_58 rfl (by rfl) (by rfl) (by exact Nat.le_of_ble_eq_true rfl) (by exact Nat.le_of_ble_eq_true rfl) (t_isW (z := 0) (by omega) (by omega) (by omega) (Or.inr ⟨by omega, rfl⟩)) (fun v_4 h_4 q_4 => ?_) (fun _ _ q => q.elim)
  obtain ⟨rfl, z_4⟩ := q_4
  replace z_4 := z_4.symm
  subst z_4
  refine wp_callS d_13_7 c_13_62 rfl (by rfl) (by rfl) (by exact Nat.le_of_ble_eq_true rfl) (by exact Nat.le_of_ble_eq_true rfl) (t_needArgument (x := 0) (Or.inl rfl) r1 r2) (fun v_7 h_7 q_7 => ?_) (fun E_7 h_7 q_7 => ?_)
  rotate_left
  · exact xp_out rfl q_7.2
  exact absurd q_7.1 (by omega)
set_option maxRecDepth 100000 in
set_option maxHeartbeats 4000000 in
theorem t_addCal0a {w : Nat} {a b c : Int} {h : Hp} (i_a : inR a) (i_b : inR b) (i_c : inR c) (hc : ¬ (0 ≤ a ∧ a ≤ 127)) (r1 : nx h + 1 ≤ cn h) (r2 : us h + 6 ≤ cs h) : wp 19 0 (entL [vR (some w), vI a, vI b, vI c] (mL 19)) [] h (fun _ _ => False) (XE "java/lang/IllegalArgumentException" h) := by
  refine wp_iload_n d_19_0 (by rfl) ?_
  refine wp_iconst d_19_1 ?_
  refine wp_bipush d_19_2 (by decide) ?_
  refine wp_callS d_19_4 c_19_58 rfl (by rfl) (by rfl) (by exact Nat.le_of_ble_eq_true rfl) (by exact Nat.le_of_ble_eq_true rfl) (t_isW (z := 0) (by omega) (by omega) (by omega) (Or.inr ⟨by omega, rfl⟩)) (fun v_4 h_4 q_4 => ?_) (fun _ _ q => q.elim)
  obtain ⟨rfl, z_4⟩ := q_4
  replace z_4 := z_4.symm
  subst z_4
  refine wp_if_eq (tgt := 33) d_19_7 (by decide) (by omega) (fun c_7 => ?_) (fun c_7 => ?_)
  rotate_left
  · exact absurd c_7 (by omega)
  refine wp_iconst d_19_33 ?_
  refine wp_callS d_19_34 c_19_62 rfl (by rfl) (by rfl) (by exact Nat.le_of_ble_eq_true rfl) (by exact Nat.le_of_ble_eq_true rfl) (t_needArgument (x := 0) (Or.inl rfl) r1 r2) (fun v_34 h_34 q_34 => ?_) (fun E_34 h_34 q_34 => ?_)
  rotate_left
  · exact xp_out rfl q_34.2
  exact absurd q_34.1 (by omega)
set_option maxRecDepth 100000 in
set_option maxHeartbeats 4000000 in
theorem t_addCal0b {w : Nat} {a b c : Int} {h : Hp} (i_a : inR a) (i_b : inR b) (i_c : inR c) (ha : 0 ≤ a ∧ a ≤ 127) (hc : ¬ (0 ≤ b ∧ b ≤ 365)) (r1 : nx h + 1 ≤ cn h) (r2 : us h + 6 ≤ cs h) : wp 19 0 (entL [vR (some w), vI a, vI b, vI c] (mL 19)) [] h (fun _ _ => False) (XE "java/lang/IllegalArgumentException" h) := by
  refine wp_iload_n d_19_0 (by rfl) ?_
  refine wp_iconst d_19_1 ?_
  refine wp_bipush d_19_2 (by decide) ?_
  refine wp_callS d_19_4 c_19_58 rfl (by rfl) (by rfl) (by exact Nat.le_of_ble_eq_true rfl) (by exact Nat.le_of_ble_eq_true rfl) (t_isW (z := 1) (by omega) (by omega) (by omega) (Or.inl ⟨by omega, by omega, rfl⟩)) (fun v_4 h_4 q_4 => ?_) (fun _ _ q => q.elim)
  obtain ⟨rfl, z_4⟩ := q_4
  replace z_4 := z_4.symm
  subst z_4
  refine wp_if_eq (tgt := 33) d_19_7 (by decide) (by omega) (fun c_7 => ?_) (fun c_7 => ?_)
  · exact absurd c_7 (by omega)
  refine wp_iload_n d_19_10 (by rfl) ?_
  refine wp_callS d_19_11 c_19_93 rfl (by rfl) (by rfl) (by exact Nat.le_of_ble_eq_true rfl) (by exact Nat.le_of_ble_eq_true rfl) (t_isD (z := 0) (by omega) (Or.inr ⟨by omega, rfl⟩)) (fun v_11 h_11 q_11 => ?_) (fun _ _ q => q.elim)
  obtain ⟨rfl, z_11⟩ := q_11
  replace z_11 := z_11.symm
  subst z_11
  refine wp_if_eq (tgt := 33) d_19_14 (by decide) (by omega) (fun c_14 => ?_) (fun c_14 => ?_)
  rotate_left
  · exact absurd c_14 (by omega)
  refine wp_iconst d_19_33 ?_
  refine wp_callS d_19_34 c_19_62 rfl (by rfl) (by rfl) (by exact Nat.le_of_ble_eq_true rfl) (by exact Nat.le_of_ble_eq_true rfl) (t_needArgument (x := 0) (Or.inl rfl) r1 r2) (fun v_34 h_34 q_34 => ?_) (fun E_34 h_34 q_34 => ?_)
  rotate_left
  · exact xp_out rfl q_34.2
  exact absurd q_34.1 (by omega)
set_option maxRecDepth 100000 in
set_option maxHeartbeats 4000000 in
theorem t_addCal0c {w : Nat} {a b c : Int} {h : Hp} (i_a : inR a) (i_b : inR b) (i_c : inR c) (ha : 0 ≤ a ∧ a ≤ 127) (hb : 0 ≤ b ∧ b ≤ 365) (hc : ¬ (0 ≤ c ∧ c ≤ 365)) (r1 : nx h + 1 ≤ cn h) (r2 : us h + 6 ≤ cs h) : wp 19 0 (entL [vR (some w), vI a, vI b, vI c] (mL 19)) [] h (fun _ _ => False) (XE "java/lang/IllegalArgumentException" h) := by
  refine wp_iload_n d_19_0 (by rfl) ?_
  refine wp_iconst d_19_1 ?_
  refine wp_bipush d_19_2 (by decide) ?_
  refine wp_callS d_19_4 c_19_58 rfl (by rfl) (by rfl) (by exact Nat.le_of_ble_eq_true rfl) (by exact Nat.le_of_ble_eq_true rfl) (t_isW (z := 1) (by omega) (by omega) (by omega) (Or.inl ⟨by omega, by omega, rfl⟩)) (fun v_4 h_4 q_4 => ?_) (fun _ _ q => q.elim)
  obtain ⟨rfl, z_4⟩ := q_4
  replace z_4 := z_4.symm
  subst z_4
  refine wp_if_eq (tgt := 33) d_19_7 (by decide) (by omega) (fun c_7 => ?_) (fun c_7 => ?_)
  · exact absurd c_7 (by omega)
  refine wp_iload_n d_19_10 (by rfl) ?_
  refine wp_callS d_19_11 c_19_93 rfl (by rfl) (by rfl) (by exact Nat.le_of_ble_eq_true rfl) (by exact Nat.le_of_ble_eq_true rfl) (t_isD (z := 1) (by omega) (Or.inl ⟨by omega, by omega, rfl⟩)) (fun v_11 h_11 q_11 => ?_) (fun _ _ q => q.elim)
  obtain ⟨rfl, z_11⟩ := q_11
  replace z_11 := z_11.symm
  subst z_11
  refine wp_if_eq (tgt := 33) d_19_14 (by decide) (by omega) (fun c_14 => ?_) (fun c_14 => ?_)
  · exact absurd c_14 (by omega)
  refine wp_iload_n d_19_17 (by rfl) ?_
  refine wp_callS d_19_18 c_19_93 rfl (by rfl) (by rfl) (by exact Nat.le_of_ble_eq_true rfl) (by exact Nat.le_of_ble_eq_true rfl) (t_isD (z := 0) (by omega) (Or.inr ⟨by omega, rfl⟩)) (fun v_18 h_18 q_18 => ?_) (fun _ _ q => q.elim)
  obtain ⟨rfl, z_18⟩ := q_18
  replace z_18 := z_18.symm
  subst z_18
  refine wp_if_eq (tgt := 33) d_19_21 (by decide) (by omega) (fun c_21 => ?_) (fun c_21 => ?_)
  rotate_left
  · exact absurd c_21 (by omega)
  refine wp_iconst d_19_33 ?_
  refine wp_callS d_19_34 c_19_62 rfl (by rfl) (by rfl) (by exact Nat.le_of_ble_eq_true rfl) (by exact Nat.le_of_ble_eq_true rfl) (t_needArgument (x := 0) (Or.inl rfl) r1 r2) (fun v_34 h_34 q_34 => ?_) (fun E_34 h_34 q_34 => ?_)
  rotate_left
  · exact xp_out rfl q_34.2
  exact absurd q_34.1 (by omega)
set_option maxRecDepth 100000 in
set_option maxHeartbeats 4000000 in
theorem t_addCal0d {w : Nat} {a b c : Int} {h : Hp} (i_a : inR a) (i_b : inR b) (i_c : inR c) (ha : 0 ≤ a ∧ a ≤ 127) (hb : 0 ≤ b ∧ b ≤ 365) (hc : 0 ≤ c ∧ c ≤ 365) (hd : ¬ b ≤ c) (r1 : nx h + 1 ≤ cn h) (r2 : us h + 6 ≤ cs h) : wp 19 0 (entL [vR (some w), vI a, vI b, vI c] (mL 19)) [] h (fun _ _ => False) (XE "java/lang/IllegalArgumentException" h) := by
  refine wp_iload_n d_19_0 (by rfl) ?_
  refine wp_iconst d_19_1 ?_
  refine wp_bipush d_19_2 (by decide) ?_
  refine wp_callS d_19_4 c_19_58 rfl (by rfl) (by rfl) (by exact Nat.le_of_ble_eq_true rfl) (by exact Nat.le_of_ble_eq_true rfl) (t_isW (z := 1) (by omega) (by omega) (by omega) (Or.inl ⟨by omega, by omega, rfl⟩)) (fun v_4 h_4 q_4 => ?_) (fun _ _ q => q.elim)
  obtain ⟨rfl, z_4⟩ := q_4
  replace z_4 := z_4.symm
  subst z_4
  refine wp_if_eq (tgt := 33) d_19_7 (by decide) (by omega) (fun c_7 => ?_) (fun c_7 => ?_)
  · exact absurd c_7 (by omega)
  refine wp_iload_n d_19_10 (by rfl) ?_
  refine wp_callS d_19_11 c_19_93 rfl (by rfl) (by rfl) (by exact Nat.le_of_ble_eq_true rfl) (by exact Nat.le_of_ble_eq_true rfl) (t_isD (z := 1) (by omega) (Or.inl ⟨by omega, by omega, rfl⟩)) (fun v_11 h_11 q_11 => ?_) (fun _ _ q => q.elim)
  obtain ⟨rfl, z_11⟩ := q_11
  replace z_11 := z_11.symm
  subst z_11
  refine wp_if_eq (tgt := 33) d_19_14 (by decide) (by omega) (fun c_14 => ?_) (fun c_14 => ?_)
  · exact absurd c_14 (by omega)
  refine wp_iload_n d_19_17 (by rfl) ?_
  refine wp_callS d_19_18 c_19_93 rfl (by rfl) (by rfl) (by exact Nat.le_of_ble_eq_true rfl) (by exact Nat.le_of_ble_eq_true rfl) (t_isD (z := 1) (by omega) (Or.inl ⟨by omega, by omega, rfl⟩)) (fun v_18 h_18 q_18 => ?_) (fun _ _ q => q.elim)
  obtain ⟨rfl, z_18⟩ := q_18
  replace z_18 := z_18.symm
  subst z_18
  refine wp_if_eq (tgt := 33) d_19_21 (by decide) (by omega) (fun c_21 => ?_) (fun c_21 => ?_)
  · exact absurd c_21 (by omega)
  refine wp_iload_n d_19_24 (by rfl) ?_
  refine wp_iload_n d_19_25 (by rfl) ?_
  refine wp_icmp_gt (tgt := 33) d_19_26 (by decide) (by omega) (by omega) (fun c_26 => ?_) (fun c_26 => ?_)
  rotate_left
  · exact absurd c_26 (by omega)
  refine wp_iconst d_19_33 ?_
  refine wp_callS d_19_34 c_19_62 rfl (by rfl) (by rfl) (by exact Nat.le_of_ble_eq_true rfl) (by exact Nat.le_of_ble_eq_true rfl) (t_needArgument (x := 0) (Or.inl rfl) r1 r2) (fun v_34 h_34 q_34 => ?_) (fun E_34 h_34 q_34 => ?_)
  rotate_left
  · exact xp_out rfl q_34.2
  exact absurd q_34.1 (by omega)
set_option maxRecDepth 100000 in
set_option maxHeartbeats 4000000 in
theorem t_Cal {a : Nat} {x y z : Int} {h : Hp} (i_x : inR x) (i_y : inR y) (i_z : inR z) (hk : kd h a = 5) (hn : nx h = a + 1) (r1 : nx h + 1 ≤ cn h) (r2 : us h + 366 ≤ cs h) : wp 132 0 (entL [vR (some a), vI x, vI y, vI z] (mL 132)) [] h (fun v h' => v = none ∧ kd h' a = 5 ∧ ∀ b, b < a → eqA h h' b) noX := by
  refine wp_aload_n d_132_0 (by rfl) ?_
  refine wp_objInit d_132_1 oi_4 co_code ⟨Nat.le_of_ble_eq_true rfl, Nat.le_of_ble_eq_true rfl⟩ ?_
  refine wp_aload_n d_132_4 (by rfl) ?_
  refine wp_sipush d_132_5 (by decide) ?_
  refine wp_newa (K := 100) d_132_8 rfl (by decide) ca_100 rfl (by omega) (by omega) (by decide) (by first | omega | (simp [kd_setI, ln_setI, hi_setI, hr_setI, hl_setI, nx_setI, us_setI, cn_setI, cs_setI, kd_setR, ln_setR, hi_setR, hr_setR, hl_setR, nx_setR, us_setR, cn_setR, cs_setR, kd_setL, ln_setL, hi_setL, hr_setL, hl_setL, nx_setL, us_setL, cn_setL, cs_setL, kd_mkO, ln_mkO, hi_mkO, hr_mkO, hl_mkO, nx_mkO, us_mkO, cn_mkO, cs_mkO, up1, up2]; omega)) (by first | omega | (simp [kd_setI, ln_setI, hi_setI, hr_setI, hl_setI, nx_setI, us_setI, cn_setI, cs_setI, kd_setR, ln_setR, hi_setR, hr_setR, hl_setR, nx_setR, us_setR, cn_setR, cs_setR, kd_setL, ln_setL, hi_setL, hr_setL, hl_setL, nx_setL, us_setL, cn_setL, cs_setL, kd_mkO, ln_mkO, hi_mkO, hr_mkO, hl_mkO, nx_mkO, us_mkO, cn_mkO, cs_mkO, up1, up2]; omega)) ?_
  refine wp_putR (3) d_132_10 fl_4_9 rfl rfl (Or.inr ⟨by rfl, by rfl, by rfl⟩) (by simp [kd_setI, ln_setI, hi_setI, hr_setI, hl_setI, nx_setI, us_setI, cn_setI, cs_setI, kd_setR, ln_setR, hi_setR, hr_setR, hl_setR, nx_setR, us_setR, cn_setR, cs_setR, kd_setL, ln_setL, hi_setL, hr_setL, hl_setL, nx_setL, us_setL, cn_setL, cs_setL, kd_mkO, ln_mkO, hi_mkO, hr_mkO, hl_mkO, nx_mkO, us_mkO, cn_mkO, cs_mkO, up1, up2, hn, hk]) ?_
  refine wp_aload_n d_132_13 (by rfl) ?_
  refine wp_iload_n d_132_14 (by rfl) ?_
  refine wp_putI (0) d_132_15 fl_4_15 rfl rfl (Or.inr ⟨by rfl, by rfl, by rfl⟩) (by simp [kd_setI, ln_setI, hi_setI, hr_setI, hl_setI, nx_setI, us_setI, cn_setI, cs_setI, kd_setR, ln_setR, hi_setR, hr_setR, hl_setR, nx_setR, us_setR, cn_setR, cs_setR, kd_setL, ln_setL, hi_setL, hr_setL, hl_setL, nx_setL, us_setL, cn_setL, cs_setL, kd_mkO, ln_mkO, hi_mkO, hr_mkO, hl_mkO, nx_mkO, us_mkO, cn_mkO, cs_mkO, up1, up2, hn, hk]) (by omega) (fun q => nomatch q) ?_
  refine wp_aload_n d_132_18 (by rfl) ?_
  refine wp_iload_n d_132_19 (by rfl) ?_
  refine wp_putI (1) d_132_20 fl_4_19 rfl rfl (Or.inr ⟨by rfl, by rfl, by rfl⟩) (by simp [kd_setI, ln_setI, hi_setI, hr_setI, hl_setI, nx_setI, us_setI, cn_setI, cs_setI, kd_setR, ln_setR, hi_setR, hr_setR, hl_setR, nx_setR, us_setR, cn_setR, cs_setR, kd_setL, ln_setL, hi_setL, hr_setL, hl_setL, nx_setL, us_setL, cn_setL, cs_setL, kd_mkO, ln_mkO, hi_mkO, hr_mkO, hl_mkO, nx_mkO, us_mkO, cn_mkO, cs_mkO, up1, up2, hn, hk]) (by omega) (fun q => nomatch q) ?_
  refine wp_aload_n d_132_23 (by rfl) ?_
  refine wp_iload_n d_132_24 (by rfl) ?_
  refine wp_putI (2) d_132_25 fl_4_22 rfl rfl (Or.inr ⟨by rfl, by rfl, by rfl⟩) (by simp [kd_setI, ln_setI, hi_setI, hr_setI, hl_setI, nx_setI, us_setI, cn_setI, cs_setI, kd_setR, ln_setR, hi_setR, hr_setR, hl_setR, nx_setR, us_setR, cn_setR, cs_setR, kd_setL, ln_setL, hi_setL, hr_setL, hl_setL, nx_setL, us_setL, cn_setL, cs_setL, kd_mkO, ln_mkO, hi_mkO, hr_mkO, hl_mkO, nx_mkO, us_mkO, cn_mkO, cs_mkO, up1, up2, hn, hk]) (by omega) (fun q => nomatch q) ?_
  refine wp_vret d_132_28 rfl ?_
  have h1 : ∀ b : Nat, b < a → b ≠ a := fun b hb => by omega
  have h2 : ∀ b : Nat, b < a → b ≠ a + 1 := fun b hb => by omega
  refine ⟨rfl, by simp [kd_setI, ln_setI, hi_setI, hr_setI, hl_setI, nx_setI, us_setI, cn_setI, cs_setI, kd_setR, ln_setR, hi_setR, hr_setR, hl_setR, nx_setR, us_setR, cn_setR, cs_setR, kd_setL, ln_setL, hi_setL, hr_setL, hl_setL, nx_setL, us_setL, cn_setL, cs_setL, kd_mkO, ln_mkO, hi_mkO, hr_mkO, hl_mkO, nx_mkO, us_mkO, cn_mkO, cs_mkO, up1, up2, hn, hk], fun b hb => ?_⟩
  have g1 := h1 b hb
  have g2 := h2 b hb
  unfold eqA
  simp [kd_setI, ln_setI, hi_setI, hr_setI, hl_setI, nx_setI, us_setI, cn_setI, cs_setI, kd_setR, ln_setR, hi_setR, hr_setR, hl_setR, nx_setR, us_setR, cn_setR, cs_setR, kd_setL, ln_setL, hi_setL, hr_setL, hl_setL, nx_setL, us_setL, cn_setL, cs_setL, kd_mkO, ln_mkO, hi_mkO, hr_mkO, hl_mkO, nx_mkO, us_mkO, cn_mkO, cs_mkO, up1, up2, hn, g1, g2]
set_option maxRecDepth 100000 in
set_option maxHeartbeats 4000000 in
theorem t_addCal1 {w : Nat} {a b c : Int} {h : Hp} (i_a : inR a) (i_b : inR b) (i_c : inR c) (hF : Fr h w) (hw : w + 154 ≤ nx h) (ha : 0 ≤ a ∧ a ≤ 127) (hb : 0 ≤ b ∧ b ≤ 365) (hc : 0 ≤ c ∧ c ≤ 365) (hd : b ≤ c) (r1 : nx h + 2 ≤ cn h) (r2 : us h + 370 ≤ cs h) : wp 19 0 (entL [vR (some w), vI a, vI b, vI c] (mL 19)) [] h (fun v h' => v = some (vI 0) ∧ (∀ q, q < nx h → q ≠ w + 1 → q ≠ w + 4 → eqA h h' q) ∧ ∀ q, q < nx h → kd h' q = kd h q ∧ ln h' q = ln h q) noX := by
  have hF0 := hF
  obtain ⟨q1, q2, q3, q4, ⟨a1, a2, a3, a4⟩, ⟨b1, b2, b3⟩, ⟨c1, c2, c3⟩, q5, q6⟩ := hF
  refine wp_iload_n d_19_0 (by rfl) ?_
  refine wp_iconst d_19_1 ?_
  refine wp_bipush d_19_2 (by decide) ?_
  refine wp_callS d_19_4 c_19_58 rfl (by rfl) (by rfl) (by exact Nat.le_of_ble_eq_true rfl) (by exact Nat.le_of_ble_eq_true rfl) (t_isW (z := 1) (by omega) (by omega) (by omega) (Or.inl ⟨by omega, by omega, rfl⟩)) (fun v_4 h_4 q_4 => ?_) (fun _ _ q => q.elim)
  obtain ⟨rfl, z_4⟩ := q_4
  replace z_4 := z_4.symm
  subst z_4
  refine wp_if_eq (tgt := 33) d_19_7 (by decide) (by omega) (fun c_7 => ?_) (fun c_7 => ?_)
  · exact absurd c_7 (by omega)
  refine wp_iload_n d_19_10 (by rfl) ?_
  refine wp_callS d_19_11 c_19_93 rfl (by rfl) (by rfl) (by exact Nat.le_of_ble_eq_true rfl) (by exact Nat.le_of_ble_eq_true rfl) (t_isD (z := 1) (by omega) (Or.inl ⟨by omega, by omega, rfl⟩)) (fun v_11 h_11 q_11 => ?_) (fun _ _ q => q.elim)
  obtain ⟨rfl, z_11⟩ := q_11
  replace z_11 := z_11.symm
  subst z_11
  refine wp_if_eq (tgt := 33) d_19_14 (by decide) (by omega) (fun c_14 => ?_) (fun c_14 => ?_)
  · exact absurd c_14 (by omega)
  refine wp_iload_n d_19_17 (by rfl) ?_
  refine wp_callS d_19_18 c_19_93 rfl (by rfl) (by rfl) (by exact Nat.le_of_ble_eq_true rfl) (by exact Nat.le_of_ble_eq_true rfl) (t_isD (z := 1) (by omega) (Or.inl ⟨by omega, by omega, rfl⟩)) (fun v_18 h_18 q_18 => ?_) (fun _ _ q => q.elim)
  obtain ⟨rfl, z_18⟩ := q_18
  replace z_18 := z_18.symm
  subst z_18
  refine wp_if_eq (tgt := 33) d_19_21 (by decide) (by omega) (fun c_21 => ?_) (fun c_21 => ?_)
  · exact absurd c_21 (by omega)
  refine wp_iload_n d_19_24 (by rfl) ?_
  refine wp_iload_n d_19_25 (by rfl) ?_
  refine wp_icmp_gt (tgt := 33) d_19_26 (by decide) (by omega) (by omega) (fun c_26 => ?_) (fun c_26 => ?_)
  · exact absurd c_26 (by omega)
  refine wp_iconst d_19_29 ?_
  refine wp_goto (tgt := 34) d_19_30 (by decide) ?_
  refine wp_callS d_19_34 c_19_62 rfl (by rfl) (by rfl) (by exact Nat.le_of_ble_eq_true rfl) (by exact Nat.le_of_ble_eq_true rfl) (t_arg1) (fun v_34 h_34 q_34 => ?_) (fun _ _ q => q.elim)
  obtain ⟨rfl, z_34⟩ := q_34
  replace z_34 := z_34.symm
  subst z_34
  refine wp_aload_n d_19_37 (by rfl) ?_
  refine wp_getR (0) d_19_38 fl_0_12 rfl rfl (by first | assumption) (by assumption) ?_
  refine wp_getI (6) d_19_41 fl_0_97 rfl rfl (by first | assumption) (fun x_41 e_41 r_41 => ?_)
  refine wp_bipush d_19_44 (by decide) ?_
  refine wp_icmp_ge (tgt := 53) d_19_46 (by decide) (by omega) (by omega) (fun c_46 => ?_) (fun c_46 => ?_)
  · exact absurd c_46 (by omega)
  refine wp_iconst d_19_49 ?_
  refine wp_goto (tgt := 54) d_19_50 (by decide) ?_
  refine wp_callS d_19_54 c_19_70 rfl (by rfl) (by rfl) (by exact Nat.le_of_ble_eq_true rfl) (by exact Nat.le_of_ble_eq_true rfl) (t_sta1) (fun v_54 h_54 q_54 => ?_) (fun _ _ q => q.elim)
  obtain ⟨rfl, z_54⟩ := q_54
  replace z_54 := z_54.symm
  subst z_54
  refine wp_aload_n d_19_57 (by rfl) ?_
  refine wp_getR (0) d_19_58 fl_0_12 rfl rfl (by first | assumption) (by assumption) ?_
  refine wp_getR (2) d_19_61 fl_0_100 rfl rfl (by first | assumption) (by assumption) ?_
  refine wp_aload_n d_19_64 (by rfl) ?_
  refine wp_getR (0) d_19_65 fl_0_12 rfl rfl (by first | assumption) (by assumption) ?_
  refine wp_getI (6) d_19_68 fl_0_97 rfl rfl (by first | assumption) (fun x_68 e_68 r_68 => ?_)
  obtain rfl : x_68 = 0 := e_68.trans a3
  refine wp_new (ci := 4) d_19_71 cl_0_104 ci4 ⟨_, rfl⟩ (by decide) (by omega) (by omega) ?_
  refine wp_dup d_19_74 (by rfl) ?_
  refine wp_iload_n d_19_75 (by rfl) ?_
  refine wp_iload_n d_19_76 (by rfl) ?_
  refine wp_iload_n d_19_77 (by rfl) ?_
  refine wp_callI d_19_78 c_19_106 rfl rfl (by rfl) (by rfl) (by exact Nat.le_of_ble_eq_true rfl) (by exact Nat.le_of_ble_eq_true rfl) (t_Cal (a := nx h) (by omega) (by omega) (by omega) (by rw [kd_mkO, up1_same]) rfl (by simp only [nx_mkO, cn_mkO]; omega) (by simp only [us_mkO, cs_mkO]; simp; omega)) (fun v_78 h_78 q_78 => ?_) (fun _ _ q => q.elim)
  obtain ⟨rfl, k1, f1⟩ := q_78
  have g1 : ∀ q, q < nx h → eqA h h_78 q := fun q hq => (eqA_mkO hq).trans (f1 q hq)
  have kw : kd h_78 w = 1 := (g1 w (by omega)).1.trans q1
  have rw0 : hr h_78 w 0 = some (w + 1) := ((g1 w (by omega)).2.2.2.1 _).trans q2
  have k4 : kd h_78 (w + 4) = 105 := (g1 _ (by omega)).1.trans c2
  have l4 : ln h_78 (w + 4) = 6 := (g1 _ (by omega)).2.1.trans c3
  have kn : kd h_78 (w + 1) = 9 := (g1 _ (by omega)).1.trans q4
  have z6 : hi h_78 (w + 1) 6 = 0 := ((g1 _ (by omega)).2.2.1 _).trans a3
  refine wp_aastO (cb := 4) d_19_81 (by omega) (by omega) k1 (by decide) (by rw [k4]; rfl) (by omega) (by omega) ?_
  have rw1 : hr (setR h_78 (w + 4) 0 (some (nx h))) w 0 = some (w + 1) := by rw [hr_setR, up2_ne _ _ (by omega)]; exact rw0
  refine wp_aload_n d_19_82 (by rfl) ?_
  refine wp_getR (0) d_19_83 fl_0_12 rfl rfl (by first | assumption) (by assumption) ?_
  refine wp_dup d_19_86 (by rfl) ?_
  refine wp_getI (6) d_19_87 fl_0_97 rfl rfl (by first | assumption) (fun x_87 e_87 r_87 => ?_)
  obtain rfl : x_87 = 0 := e_87.trans z6
  refine wp_iconst d_19_90 ?_
  refine wp_iadd d_19_91 ?_
  refine wp_putI (6) d_19_92 fl_0_97 rfl rfl (Or.inl (by rfl)) (by first | assumption) (by omega) (fun q => nomatch q) ?_
  refine wp_aload_n d_19_95 (by rfl) ?_
  refine wp_getR (0) d_19_96 fl_0_12 rfl rfl (by first | assumption) (by assumption) ?_
  refine wp_getI (6) d_19_99 fl_0_97 rfl rfl (by first | assumption) (fun x_99 e_99 r_99 => ?_)
  obtain rfl : x_99 = 0 + 1 := by rw [e_99, hi_setI, up2_same]
  refine wp_iconst d_19_102 ?_
  refine wp_isub d_19_103 ?_
  refine wp_iret d_19_104 rfl ?_
  refine ⟨rfl, fun q hq n1 n4 => (g1 q hq).trans ((eqA_setR n4).trans (eqA_setI n1)), fun q hq => ⟨(g1 q hq).1, (g1 q hq).2.1⟩⟩
set_option maxRecDepth 100000 in
set_option maxHeartbeats 4000000 in
theorem t_moving {w : Nat} {h : Hp} (hF : Fr h w) : wp 4 0 (entL [vR (some w)] (mL 4)) [] h (fun v h' => v = some (vD FP.dconst0) ∧ h' = h) noX := by
  have hF0 := hF
  obtain ⟨q1, q2, q3, q4, ⟨a1, a2, a3, a4⟩, ⟨b1, b2, b3⟩, ⟨c1, c2, c3⟩, q5, q6⟩ := hF
  refine wp_aload_n d_4_0 (by rfl) ?_
  refine wp_getR (6) d_4_1 fl_0_54 rfl rfl (by assumption) (by assumption) ?_
  refine wp_getI (0) d_4_4 fl_0_219 rfl rfl (by assumption) (fun x_4 e_4 r_4 => ?_)
  refine wp_if_eq (tgt := 20) d_4_7 (by decide) (by omega) (fun c_7 => ?_) (fun c_7 => ?_)
  rotate_left
  · exact absurd c_7 (by omega)
  refine wp_iconst d_4_20 ?_
  refine wp_istore_n d_4_21 (by decide) ?_
  refine wp_iload_n d_4_22 (by rfl) ?_
  refine wp_if_gt (tgt := 28) d_4_23 (by decide) (by omega) (fun c_23 => ?_) (fun c_23 => ?_)
  · exact absurd c_23 (by omega)
  refine wp_dconst0 d_4_26 ?_
  refine wp_dret d_4_27 rfl ?_
  exact ⟨rfl, rfl⟩
set_option maxRecDepth 100000 in
set_option maxHeartbeats 4000000 in
theorem t_digest {w : Nat} {h : Hp} (hF : Fr h w) : wp 5 0 (entL [vR (some w)] (mL 5)) [] h (fun v h' => v = some (vL 74566872) ∧ h' = h) noX := by
  have hF0 := hF
  obtain ⟨q1, q2, q3, q4, ⟨a1, a2, a3, a4⟩, ⟨b1, b2, b3⟩, ⟨c1, c2, c3⟩, q5, q6⟩ := hF
  refine wp_ldc2 (2503) d_5_0 ck_0_262 (by decide) ?_
  refine wp_aload_n d_5_3 (by rfl) ?_
  refine wp_getR (0) d_5_4 fl_0_12 rfl rfl (by assumption) (by assumption) ?_
  refine wp_getI (4) d_5_7 fl_0_66 rfl rfl (by assumption) (fun x_7 e_7 r_7 => ?_)
  refine wp_callS d_5_10 c_5_264 rfl (by rfl) (by rfl) (by exact Nat.le_of_ble_eq_true rfl) (by exact Nat.le_of_ble_eq_true rfl) (t_mix (by omega)) (fun v_10 h_10 q_10 => ?_) (fun _ _ q => q.elim)
  obtain ⟨rfl, z_10⟩ := q_10
  replace z_10 := z_10.symm
  subst z_10
  refine wp_aload_n d_5_13 (by rfl) ?_
  refine wp_getR (0) d_5_14 fl_0_12 rfl rfl (by assumption) (by assumption) ?_
  refine wp_getI (7) d_5_17 fl_0_117 rfl rfl (by assumption) (fun x_17 e_17 r_17 => ?_)
  refine wp_callS d_5_20 c_5_264 rfl (by rfl) (by rfl) (by exact Nat.le_of_ble_eq_true rfl) (by exact Nat.le_of_ble_eq_true rfl) (t_mix (by omega)) (fun v_20 h_20 q_20 => ?_) (fun _ _ q => q.elim)
  obtain ⟨rfl, z_20⟩ := q_20
  replace z_20 := z_20.symm
  subst z_20
  refine wp_lstore_n d_5_23 (by decide) ?_
  refine wp_iconst d_5_24 ?_
  refine wp_istore_n d_5_25 (by decide) ?_
  refine wp_iload_n d_5_26 (by rfl) ?_
  refine wp_aload_n d_5_27 (by rfl) ?_
  refine wp_getR (0) d_5_28 fl_0_12 rfl rfl (by assumption) (by assumption) ?_
  refine wp_getI (7) d_5_31 fl_0_117 rfl rfl (by assumption) (fun x_31 e_31 r_31 => ?_)
  refine wp_icmp_ge (tgt := 106) d_5_34 (by decide) (by omega) (by omega) (fun c_34 => ?_) (fun c_34 => ?_)
  rotate_left
  · exact absurd c_34 (by omega)
  refine wp_iconst d_5_106 ?_
  refine wp_istore_n d_5_107 (by decide) ?_
  refine wp_iload_n d_5_108 (by rfl) ?_
  refine wp_aload_n d_5_109 (by rfl) ?_
  refine wp_getR (0) d_5_110 fl_0_12 rfl rfl (by assumption) (by assumption) ?_
  refine wp_getI (7) d_5_113 fl_0_117 rfl rfl (by assumption) (fun x_113 e_113 r_113 => ?_)
  refine wp_icmp_ge (tgt := 153) d_5_116 (by decide) (by omega) (by omega) (fun c_116 => ?_) (fun c_116 => ?_)
  rotate_left
  · exact absurd c_116 (by omega)
  refine wp_lload_n d_5_153 (by rfl) ?_
  refine wp_aload_n d_5_154 (by rfl) ?_
  refine wp_callV d_5_155 c_5_216 rfl (by rfl) (by rfl) ⟨0, rfl, rfl, by decide⟩ (by assumption) (by exact Nat.le_of_ble_eq_true rfl) (by exact Nat.le_of_ble_eq_true rfl) (t_legs hF0) (fun v_155 h_155 q_155 => ?_) (fun _ _ q => q.elim)
  obtain ⟨rfl, z_155⟩ := q_155
  replace z_155 := z_155.symm
  subst z_155
  refine wp_callS d_5_158 c_5_264 rfl (by rfl) (by rfl) (by exact Nat.le_of_ble_eq_true rfl) (by exact Nat.le_of_ble_eq_true rfl) (t_mix (by omega)) (fun v_158 h_158 q_158 => ?_) (fun _ _ q => q.elim)
  obtain ⟨rfl, z_158⟩ := q_158
  replace z_158 := z_158.symm
  subst z_158
  refine wp_lstore_n d_5_161 (by decide) ?_
  refine wp_aload_n d_5_162 (by rfl) ?_
  refine wp_getR (6) d_5_163 fl_0_54 rfl rfl (by assumption) (by assumption) ?_
  refine wp_getI (0) d_5_166 fl_0_219 rfl rfl (by assumption) (fun x_166 e_166 r_166 => ?_)
  refine wp_if_eq (tgt := 180) d_5_169 (by decide) (by omega) (fun c_169 => ?_) (fun c_169 => ?_)
  rotate_left
  · exact absurd c_169 (by omega)
  refine wp_lload_n d_5_180 (by rfl) ?_
  refine wp_lret d_5_181 rfl ?_
  exact ⟨congrArg (fun z => some (vL z)) (by omega), rfl⟩
