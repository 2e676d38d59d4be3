/-! ===== the law's own methods ===== -/
set_option maxRecDepth 100000 in
theorem ct_iob : okw (.classLink "WhistleStopLaw" 21 "java/lang/IndexOutOfBoundsException") ∧ okw (.castable "java/lang/IndexOutOfBoundsException" "java/lang/IndexOutOfBoundsException") := ⟨okk_w (k := 563) (by decide +kernel), okk_w (k := 412) (by decide +kernel)⟩
set_option maxRecDepth 100000 in
theorem ct_iae : okw (.classLink "WhistleStopLaw" 13 "java/lang/IllegalArgumentException") ∧ okw (.castable "java/lang/IllegalArgumentException" "java/lang/IllegalArgumentException") := ⟨okk_w (k := 516) (by decide +kernel), okk_w (k := 527) (by decide +kernel)⟩
set_option maxRecDepth 100000 in
theorem ct_ise : okw (.classLink "WhistleStopLaw" 15 "java/lang/IllegalStateException") ∧ okw (.castable "java/lang/IllegalStateException" "java/lang/IllegalStateException") := ⟨okk_w (k := 517) (by decide +kernel), okk_w (k := 546) (by decide +kernel)⟩
set_option maxRecDepth 100000 in
set_option maxHeartbeats 4000000 in
theorem w_setChange {w o : Nat} {p0 p1 : Int} {h : Hp} (hF : Fr h w) (i_p0 : inR p0) (i_p1 : inR p1)  (r1 : nx h + 1 ≤ cn h) (r2 : us h + 6 ≤ cs h) : wp 182 0 (entL [vR (some w), vI p0, vI p1, vR (some o)] (mL 182)) [] h (fun v h' => v = some (vI 1) ∧ RW w o h h') noX := by
  refine wp_aload_n d_182_0 (by rfl) ?_
  refine wp_iconst d_182_1 ?_
  refine wp_aload_n d_182_2 (by rfl) ?_
  refine wp_iload_n d_182_3 (by rfl) ?_
  refine wp_iload_n d_182_4 (by rfl) ?_
  refine wp_callV d_182_5 c_182_17 rfl (by rfl) (by rfl) ⟨0, rfl, rfl, by decide⟩ hF.1 (by exact Nat.le_of_ble_eq_true rfl) (by exact Nat.le_of_ble_eq_true rfl) (t_setChange hF (by first | assumption | omega | decide) (by first | assumption | omega | decide) r1 r2) (fun _ _ q => q.elim) (fun E_5 h_5 q_5 => ?_)
  obtain ⟨rfl, n, u, rfl, n1, n2, u1, u2⟩ := q_5
  refine xp_catch (E' := "java/lang/IndexOutOfBoundsException") (x := { startPc := 0, endPc := 10, handlerPc := 13, catchType := 21 }) (suf := [{ startPc := 0, endPc := 10, handlerPc := 17, catchType := 13 }]) rfl (by decide) (by decide) ct_iob.1 ct_iob.2 (fun q => ?_)
  refine wp_astore d_182_13 (by decide) ?_
  refine wp_iconst d_182_15 ?_
  refine wp_iret d_182_16 rfl ?_
  exact ⟨rfl, RW_xh⟩
set_option maxRecDepth 100000 in
set_option maxHeartbeats 4000000 in
theorem w_addFootway {w o : Nat} {p0 p1 p2 : Int} {h : Hp} (hF : Fr h w) (i_p0 : inR p0) (i_p1 : inR p1) (i_p2 : inR p2)  (r1 : nx h + 1 ≤ cn h) (r2 : us h + 6 ≤ cs h) : wp 183 0 (entL [vR (some w), vI p0, vI p1, vI p2, vR (some o)] (mL 183)) [] h (fun v h' => v = some (vI 1) ∧ RW w o h h') noX := by
  refine wp_aload d_183_0 (by rfl) ?_
  refine wp_iconst d_183_2 ?_
  refine wp_aload_n d_183_3 (by rfl) ?_
  refine wp_iload_n d_183_4 (by rfl) ?_
  refine wp_iload_n d_183_5 (by rfl) ?_
  refine wp_iload_n d_183_6 (by rfl) ?_
  refine wp_callV d_183_7 c_183_23 rfl (by rfl) (by rfl) ⟨0, rfl, rfl, by decide⟩ hF.1 (by exact Nat.le_of_ble_eq_true rfl) (by exact Nat.le_of_ble_eq_true rfl) (t_addFootway hF (by first | assumption | omega | decide) (by first | assumption | omega | decide) (by first | assumption | omega | decide) r1 r2) (fun _ _ q => q.elim) (fun E_7 h_7 q_7 => ?_)
  obtain ⟨rfl, n, u, rfl, n1, n2, u1, u2⟩ := q_7
  refine xp_catch (E' := "java/lang/IndexOutOfBoundsException") (x := { startPc := 0, endPc := 12, handlerPc := 15, catchType := 21 }) (suf := [{ startPc := 0, endPc := 12, handlerPc := 19, catchType := 13 }, { startPc := 0, endPc := 12, handlerPc := 23, catchType := 15 }]) rfl (by decide) (by decide) ct_iob.1 ct_iob.2 (fun q => ?_)
  refine wp_astore d_183_15 (by decide) ?_
  refine wp_iconst d_183_17 ?_
  refine wp_iret d_183_18 rfl ?_
  exact ⟨rfl, RW_xh⟩
set_option maxRecDepth 100000 in
set_option maxHeartbeats 4000000 in
theorem w_except {w o : Nat} {p0 p1 p2 : Int} {h : Hp} (hF : Fr h w) (i_p0 : inR p0) (i_p1 : inR p1) (i_p2 : inR p2)  (r1 : nx h + 1 ≤ cn h) (r2 : us h + 6 ≤ cs h) : wp 185 0 (entL [vR (some w), vI p0, vI p1, vI p2, vR (some o)] (mL 185)) [] h (fun v h' => v = some (vI 1) ∧ RW w o h h') noX := by
  refine wp_aload d_185_0 (by rfl) ?_
  refine wp_iconst d_185_2 ?_
  refine wp_aload_n d_185_3 (by rfl) ?_
  refine wp_iload_n d_185_4 (by rfl) ?_
  refine wp_iload_n d_185_5 (by rfl) ?_
  refine wp_iload_n d_185_6 (by rfl) ?_
  refine wp_callV d_185_7 c_185_30 rfl (by rfl) (by rfl) ⟨0, rfl, rfl, by decide⟩ hF.1 (by exact Nat.le_of_ble_eq_true rfl) (by exact Nat.le_of_ble_eq_true rfl) (t_except hF (by first | assumption | omega | decide) (by first | assumption | omega | decide) (by first | assumption | omega | decide) r1 r2) (fun _ _ q => q.elim) (fun E_7 h_7 q_7 => ?_)
  obtain ⟨rfl, n, u, rfl, n1, n2, u1, u2⟩ := q_7
  refine xp_catch (E' := "java/lang/IndexOutOfBoundsException") (x := { startPc := 0, endPc := 19, handlerPc := 22, catchType := 21 }) (suf := [{ startPc := 0, endPc := 19, handlerPc := 26, catchType := 13 }]) rfl (by decide) (by decide) ct_iob.1 ct_iob.2 (fun q => ?_)
  refine wp_astore d_185_22 (by decide) ?_
  refine wp_iconst d_185_24 ?_
  refine wp_iret d_185_25 rfl ?_
  exact ⟨rfl, RW_xh⟩
set_option maxRecDepth 100000 in
set_option maxHeartbeats 4000000 in
theorem w_runsOn {w o : Nat} {p0 p1 : Int} {h : Hp} (hF : Fr h w) (i_p0 : inR p0) (i_p1 : inR p1)  (r1 : nx h + 1 ≤ cn h) (r2 : us h + 6 ≤ cs h) : wp 186 0 (entL [vR (some w), vI p0, vI p1, vR (some o)] (mL 186)) [] h (fun v h' => v = some (vI 1) ∧ RW w o h h') noX := by
  refine wp_aload_n d_186_0 (by rfl) ?_
  refine wp_iconst d_186_1 ?_
  refine wp_aload_n d_186_2 (by rfl) ?_
  refine wp_iload_n d_186_3 (by rfl) ?_
  refine wp_iload_n d_186_4 (by rfl) ?_
  refine wp_callV d_186_5 c_186_34 rfl (by rfl) (by rfl) ⟨0, rfl, rfl, by decide⟩ hF.1 (by exact Nat.le_of_ble_eq_true rfl) (by exact Nat.le_of_ble_eq_true rfl) (t_runsOn hF (by first | assumption | omega | decide) (by first | assumption | omega | decide) r1 r2) (fun _ _ q => q.elim) (fun E_5 h_5 q_5 => ?_)
  obtain ⟨rfl, n, u, rfl, n1, n2, u1, u2⟩ := q_5
  refine xp_catch (E' := "java/lang/IndexOutOfBoundsException") (x := { startPc := 0, endPc := 17, handlerPc := 20, catchType := 21 }) (suf := []) rfl (by decide) (by decide) ct_iob.1 ct_iob.2 (fun q => ?_)
  refine wp_astore d_186_20 (by decide) ?_
  refine wp_iconst d_186_22 ?_
  refine wp_iret d_186_23 rfl ?_
  exact ⟨rfl, RW_xh⟩
set_option maxRecDepth 100000 in
set_option maxHeartbeats 4000000 in
theorem w_addTrip {w o : Nat} {p0 p1 p2 p3 : Int} {h : Hp} (hF : Fr h w) (i_p0 : inR p0) (i_p1 : inR p1) (i_p2 : inR p2) (i_p3 : inR p3)  (r1 : nx h + 1 ≤ cn h) (r2 : us h + 6 ≤ cs h) : wp 187 0 (entL [vR (some w), vI p0, vI p1, vI p2, vI p3, vR (some o)] (mL 187)) [] h (fun v h' => v = some (vI 1) ∧ RW w o h h') noX := by
  refine wp_aload d_187_0 (by rfl) ?_
  refine wp_iconst d_187_2 ?_
  refine wp_aload_n d_187_3 (by rfl) ?_
  refine wp_iload_n d_187_4 (by rfl) ?_
  refine wp_iload_n d_187_5 (by rfl) ?_
  refine wp_iload_n d_187_6 (by rfl) ?_
  refine wp_iload d_187_7 (by rfl) ?_
  refine wp_callV d_187_9 c_187_38 rfl (by rfl) (by rfl) ⟨0, rfl, rfl, by decide⟩ hF.1 (by exact Nat.le_of_ble_eq_true rfl) (by exact Nat.le_of_ble_eq_true rfl) (t_addTrip hF (by first | assumption | omega | decide) (by first | assumption | omega | decide) (by first | assumption | omega | decide) (by first | assumption | omega | decide) r1 r2) (fun _ _ q => q.elim) (fun E_9 h_9 q_9 => ?_)
  obtain ⟨rfl, n, u, rfl, n1, n2, u1, u2⟩ := q_9
  refine xp_catch (E' := "java/lang/IndexOutOfBoundsException") (x := { startPc := 0, endPc := 14, handlerPc := 17, catchType := 21 }) (suf := [{ startPc := 0, endPc := 14, handlerPc := 21, catchType := 13 }, { startPc := 0, endPc := 14, handlerPc := 25, catchType := 15 }]) rfl (by decide) (by decide) ct_iob.1 ct_iob.2 (fun q => ?_)
  refine wp_astore d_187_17 (by decide) ?_
  refine wp_iconst d_187_19 ?_
  refine wp_iret d_187_20 rfl ?_
  exact ⟨rfl, RW_xh⟩
set_option maxRecDepth 100000 in
set_option maxHeartbeats 4000000 in
theorem w_addCall {w o : Nat} {p0 p1 p2 p3 : Int} {h : Hp} (hF : Fr h w) (i_p0 : inR p0) (i_p1 : inR p1) (i_p2 : inR p2) (i_p3 : inR p3)  (r1 : nx h + 1 ≤ cn h) (r2 : us h + 6 ≤ cs h) : wp 188 0 (entL [vR (some w), vI p0, vI p1, vI p2, vI p3, vR (some o)] (mL 188)) [] h (fun v h' => v = some (vI 1) ∧ RW w o h h') noX := by
  refine wp_aload d_188_0 (by rfl) ?_
  refine wp_iconst d_188_2 ?_
  refine wp_aload_n d_188_3 (by rfl) ?_
  refine wp_iload_n d_188_4 (by rfl) ?_
  refine wp_iload_n d_188_5 (by rfl) ?_
  refine wp_iload_n d_188_6 (by rfl) ?_
  refine wp_iload d_188_7 (by rfl) ?_
  refine wp_callV d_188_9 c_188_42 rfl (by rfl) (by rfl) ⟨0, rfl, rfl, by decide⟩ hF.1 (by exact Nat.le_of_ble_eq_true rfl) (by exact Nat.le_of_ble_eq_true rfl) (t_addCall hF (by first | assumption | omega | decide) (by first | assumption | omega | decide) (by first | assumption | omega | decide) (by first | assumption | omega | decide) r1 r2) (fun _ _ q => q.elim) (fun E_9 h_9 q_9 => ?_)
  obtain ⟨rfl, n, u, rfl, n1, n2, u1, u2⟩ := q_9
  refine xp_catch (E' := "java/lang/IndexOutOfBoundsException") (x := { startPc := 0, endPc := 14, handlerPc := 17, catchType := 21 }) (suf := [{ startPc := 0, endPc := 14, handlerPc := 21, catchType := 13 }, { startPc := 0, endPc := 14, handlerPc := 25, catchType := 15 }]) rfl (by decide) (by decide) ct_iob.1 ct_iob.2 (fun q => ?_)
  refine wp_astore d_188_17 (by decide) ?_
  refine wp_iconst d_188_19 ?_
  refine wp_iret d_188_20 rfl ?_
  exact ⟨rfl, RW_xh⟩
set_option maxRecDepth 100000 in
set_option maxHeartbeats 4000000 in
theorem w_calls {w o : Nat} {p0 : Int} {h : Hp} (hF : Fr h w) (i_p0 : inR p0)  (r1 : nx h + 1 ≤ cn h) (r2 : us h + 6 ≤ cs h) : wp 189 0 (entL [vR (some w), vI p0, vR (some o)] (mL 189)) [] h (fun v h' => v = some (vI 1) ∧ RW w o h h') noX := by
  refine wp_aload_n d_189_0 (by rfl) ?_
  refine wp_iconst d_189_1 ?_
  refine wp_aload_n d_189_2 (by rfl) ?_
  refine wp_iload_n d_189_3 (by rfl) ?_
  refine wp_callV d_189_4 c_189_45 rfl (by rfl) (by rfl) ⟨0, rfl, rfl, by decide⟩ hF.1 (by exact Nat.le_of_ble_eq_true rfl) (by exact Nat.le_of_ble_eq_true rfl) (t_calls hF (by first | assumption | omega | decide) r1 r2) (fun _ _ q => q.elim) (fun E_4 h_4 q_4 => ?_)
  obtain ⟨rfl, n, u, rfl, n1, n2, u1, u2⟩ := q_4
  refine xp_catch (E' := "java/lang/IndexOutOfBoundsException") (x := { startPc := 0, endPc := 9, handlerPc := 12, catchType := 21 }) (suf := []) rfl (by decide) (by decide) ct_iob.1 ct_iob.2 (fun q => ?_)
  refine wp_astore_n d_189_12 (by decide) ?_
  refine wp_iconst d_189_13 ?_
  refine wp_iret d_189_14 rfl ?_
  exact ⟨rfl, RW_xh⟩
set_option maxRecDepth 100000 in
set_option maxHeartbeats 4000000 in
theorem w_stopOf {w o : Nat} {p0 p1 : Int} {h : Hp} (hF : Fr h w) (i_p0 : inR p0) (i_p1 : inR p1)  (r1 : nx h + 1 ≤ cn h) (r2 : us h + 6 ≤ cs h) : wp 190 0 (entL [vR (some w), vI p0, vI p1, vR (some o)] (mL 190)) [] h (fun v h' => v = some (vI 1) ∧ RW w o h h') noX := by
  refine wp_aload_n d_190_0 (by rfl) ?_
  refine wp_iconst d_190_1 ?_
  refine wp_aload_n d_190_2 (by rfl) ?_
  refine wp_iload_n d_190_3 (by rfl) ?_
  refine wp_iload_n d_190_4 (by rfl) ?_
  refine wp_callV d_190_5 c_190_48 rfl (by rfl) (by rfl) ⟨0, rfl, rfl, by decide⟩ hF.1 (by exact Nat.le_of_ble_eq_true rfl) (by exact Nat.le_of_ble_eq_true rfl) (t_stopOf hF (by first | assumption | omega | decide) (by first | assumption | omega | decide) r1 r2) (fun _ _ q => q.elim) (fun E_5 h_5 q_5 => ?_)
  obtain ⟨rfl, n, u, rfl, n1, n2, u1, u2⟩ := q_5
  refine xp_catch (E' := "java/lang/IndexOutOfBoundsException") (x := { startPc := 0, endPc := 10, handlerPc := 13, catchType := 21 }) (suf := []) rfl (by decide) (by decide) ct_iob.1 ct_iob.2 (fun q => ?_)
  refine wp_astore d_190_13 (by decide) ?_
  refine wp_iconst d_190_15 ?_
  refine wp_iret d_190_16 rfl ?_
  exact ⟨rfl, RW_xh⟩
set_option maxRecDepth 100000 in
set_option maxHeartbeats 4000000 in
theorem w_late {w o : Nat} {p0 p1 p2 : Int} {h : Hp} (hF : Fr h w) (i_p0 : inR p0) (i_p1 : inR p1) (i_p2 : inR p2)  (r1 : nx h + 1 ≤ cn h) (r2 : us h + 6 ≤ cs h) : wp 191 0 (entL [vR (some w), vI p0, vI p1, vI p2, vR (some o)] (mL 191)) [] h (fun v h' => v = some (vI 1) ∧ RW w o h h') noX := by
  refine wp_aload d_191_0 (by rfl) ?_
  refine wp_iconst d_191_2 ?_
  refine wp_aload_n d_191_3 (by rfl) ?_
  refine wp_iload_n d_191_4 (by rfl) ?_
  refine wp_iload_n d_191_5 (by rfl) ?_
  refine wp_iload_n d_191_6 (by rfl) ?_
  refine wp_callV d_191_7 c_191_51 rfl (by rfl) (by rfl) ⟨0, rfl, rfl, by decide⟩ hF.1 (by exact Nat.le_of_ble_eq_true rfl) (by exact Nat.le_of_ble_eq_true rfl) (t_late hF (by first | assumption | omega | decide) (by first | assumption | omega | decide) (by first | assumption | omega | decide) r1 r2) (fun _ _ q => q.elim) (fun E_7 h_7 q_7 => ?_)
  obtain ⟨rfl, n, u, rfl, n1, n2, u1, u2⟩ := q_7
  refine xp_catch (E' := "java/lang/IndexOutOfBoundsException") (x := { startPc := 0, endPc := 12, handlerPc := 15, catchType := 21 }) (suf := [{ startPc := 0, endPc := 12, handlerPc := 19, catchType := 13 }]) rfl (by decide) (by decide) ct_iob.1 ct_iob.2 (fun q => ?_)
  refine wp_astore d_191_15 (by decide) ?_
  refine wp_iconst d_191_17 ?_
  refine wp_iret d_191_18 rfl ?_
  exact ⟨rfl, RW_xh⟩
set_option maxRecDepth 100000 in
set_option maxHeartbeats 4000000 in
theorem w_cancel {w o : Nat} {p0 p1 : Int} {h : Hp} (hF : Fr h w) (i_p0 : inR p0) (i_p1 : inR p1)  (r1 : nx h + 1 ≤ cn h) (r2 : us h + 6 ≤ cs h) : wp 192 0 (entL [vR (some w), vI p0, vI p1, vR (some o)] (mL 192)) [] h (fun v h' => v = some (vI 1) ∧ RW w o h h') noX := by
  refine wp_aload_n d_192_0 (by rfl) ?_
  refine wp_iconst d_192_1 ?_
  refine wp_aload_n d_192_2 (by rfl) ?_
  refine wp_iload_n d_192_3 (by rfl) ?_
  refine wp_iload_n d_192_4 (by rfl) ?_
  refine wp_callV d_192_5 c_192_54 rfl (by rfl) (by rfl) ⟨0, rfl, rfl, by decide⟩ hF.1 (by exact Nat.le_of_ble_eq_true rfl) (by exact Nat.le_of_ble_eq_true rfl) (t_cancel hF (by first | assumption | omega | decide) (by first | assumption | omega | decide) r1 r2) (fun _ _ q => q.elim) (fun E_5 h_5 q_5 => ?_)
  obtain ⟨rfl, n, u, rfl, n1, n2, u1, u2⟩ := q_5
  refine xp_catch (E' := "java/lang/IndexOutOfBoundsException") (x := { startPc := 0, endPc := 17, handlerPc := 20, catchType := 21 }) (suf := [{ startPc := 0, endPc := 17, handlerPc := 24, catchType := 13 }]) rfl (by decide) (by decide) ct_iob.1 ct_iob.2 (fun q => ?_)
  refine wp_astore d_192_20 (by decide) ?_
  refine wp_iconst d_192_22 ?_
  refine wp_iret d_192_23 rfl ?_
  exact ⟨rfl, RW_xh⟩
set_option maxRecDepth 100000 in
set_option maxHeartbeats 4000000 in
theorem w_lateOf {w o : Nat} {p0 p1 : Int} {h : Hp} (hF : Fr h w) (i_p0 : inR p0) (i_p1 : inR p1)  (r1 : nx h + 1 ≤ cn h) (r2 : us h + 6 ≤ cs h) : wp 193 0 (entL [vR (some w), vI p0, vI p1, vR (some o)] (mL 193)) [] h (fun v h' => v = some (vI 1) ∧ RW w o h h') noX := by
  refine wp_aload_n d_193_0 (by rfl) ?_
  refine wp_iconst d_193_1 ?_
  refine wp_aload_n d_193_2 (by rfl) ?_
  refine wp_iload_n d_193_3 (by rfl) ?_
  refine wp_iload_n d_193_4 (by rfl) ?_
  refine wp_callV d_193_5 c_193_57 rfl (by rfl) (by rfl) ⟨0, rfl, rfl, by decide⟩ hF.1 (by exact Nat.le_of_ble_eq_true rfl) (by exact Nat.le_of_ble_eq_true rfl) (t_lateOf hF (by first | assumption | omega | decide) (by first | assumption | omega | decide) r1 r2) (fun _ _ q => q.elim) (fun E_5 h_5 q_5 => ?_)
  obtain ⟨rfl, n, u, rfl, n1, n2, u1, u2⟩ := q_5
  refine xp_catch (E' := "java/lang/IndexOutOfBoundsException") (x := { startPc := 0, endPc := 10, handlerPc := 13, catchType := 21 }) (suf := []) rfl (by decide) (by decide) ct_iob.1 ct_iob.2 (fun q => ?_)
  refine wp_astore d_193_13 (by decide) ?_
  refine wp_iconst d_193_15 ?_
  refine wp_iret d_193_16 rfl ?_
  exact ⟨rfl, RW_xh⟩
set_option maxRecDepth 100000 in
set_option maxHeartbeats 4000000 in
theorem w_departures {w o : Nat} {p0 p1 : Int} {h : Hp} (hF : Fr h w) (i_p0 : inR p0) (i_p1 : inR p1)  (r1 : nx h + 1 ≤ cn h) (r2 : us h + 6 ≤ cs h) : wp 194 0 (entL [vR (some w), vI p0, vI p1, vR (some o)] (mL 194)) [] h (fun v h' => v = some (vI 1) ∧ RW w o h h') noX := by
  refine wp_aload_n d_194_0 (by rfl) ?_
  refine wp_iconst d_194_1 ?_
  refine wp_aload_n d_194_2 (by rfl) ?_
  refine wp_iload_n d_194_3 (by rfl) ?_
  refine wp_iload_n d_194_4 (by rfl) ?_
  refine wp_callV d_194_5 c_194_60 rfl (by rfl) (by rfl) ⟨0, rfl, rfl, by decide⟩ hF.1 (by exact Nat.le_of_ble_eq_true rfl) (by exact Nat.le_of_ble_eq_true rfl) (t_departures hF (by first | assumption | omega | decide) (by first | assumption | omega | decide) r1 r2) (fun _ _ q => q.elim) (fun E_5 h_5 q_5 => ?_)
  obtain ⟨rfl, n, u, rfl, n1, n2, u1, u2⟩ := q_5
  refine xp_catch (E' := "java/lang/IndexOutOfBoundsException") (x := { startPc := 0, endPc := 10, handlerPc := 13, catchType := 21 }) (suf := [{ startPc := 0, endPc := 10, handlerPc := 17, catchType := 13 }]) rfl (by decide) (by decide) ct_iob.1 ct_iob.2 (fun q => ?_)
  refine wp_astore d_194_13 (by decide) ?_
  refine wp_iconst d_194_15 ?_
  refine wp_iret d_194_16 rfl ?_
  exact ⟨rfl, RW_xh⟩
set_option maxRecDepth 100000 in
set_option maxHeartbeats 4000000 in
theorem w_departsAt {w o : Nat} {p0 p1 p2 : Int} {h : Hp} (hF : Fr h w) (i_p0 : inR p0) (i_p1 : inR p1) (i_p2 : inR p2)  (r1 : nx h + 1 ≤ cn h) (r2 : us h + 6 ≤ cs h) : wp 195 0 (entL [vR (some w), vI p0, vI p1, vI p2, vR (some o)] (mL 195)) [] h (fun v h' => v = some (vI 1) ∧ RW w o h h') noX := by
  refine wp_aload d_195_0 (by rfl) ?_
  refine wp_iconst d_195_2 ?_
  refine wp_aload_n d_195_3 (by rfl) ?_
  refine wp_iload_n d_195_4 (by rfl) ?_
  refine wp_iload_n d_195_5 (by rfl) ?_
  refine wp_iload_n d_195_6 (by rfl) ?_
  refine wp_callV d_195_7 c_195_63 rfl (by rfl) (by rfl) ⟨0, rfl, rfl, by decide⟩ hF.1 (by exact Nat.le_of_ble_eq_true rfl) (by exact Nat.le_of_ble_eq_true rfl) (t_departsAt hF (by first | assumption | omega | decide) (by first | assumption | omega | decide) (by first | assumption | omega | decide) r1 r2) (fun _ _ q => q.elim) (fun E_7 h_7 q_7 => ?_)
  obtain ⟨rfl, n, u, rfl, n1, n2, u1, u2⟩ := q_7
  refine xp_catch (E' := "java/lang/IndexOutOfBoundsException") (x := { startPc := 0, endPc := 12, handlerPc := 15, catchType := 21 }) (suf := [{ startPc := 0, endPc := 12, handlerPc := 19, catchType := 13 }]) rfl (by decide) (by decide) ct_iob.1 ct_iob.2 (fun q => ?_)
  refine wp_astore d_195_15 (by decide) ?_
  refine wp_iconst d_195_17 ?_
  refine wp_iret d_195_18 rfl ?_
  exact ⟨rfl, RW_xh⟩
set_option maxRecDepth 100000 in
set_option maxHeartbeats 4000000 in
theorem w_tripAt {w o : Nat} {p0 p1 p2 : Int} {h : Hp} (hF : Fr h w) (i_p0 : inR p0) (i_p1 : inR p1) (i_p2 : inR p2)  (r1 : nx h + 1 ≤ cn h) (r2 : us h + 6 ≤ cs h) : wp 196 0 (entL [vR (some w), vI p0, vI p1, vI p2, vR (some o)] (mL 196)) [] h (fun v h' => v = some (vI 1) ∧ RW w o h h') noX := by
  refine wp_aload d_196_0 (by rfl) ?_
  refine wp_iconst d_196_2 ?_
  refine wp_aload_n d_196_3 (by rfl) ?_
  refine wp_iload_n d_196_4 (by rfl) ?_
  refine wp_iload_n d_196_5 (by rfl) ?_
  refine wp_iload_n d_196_6 (by rfl) ?_
  refine wp_callV d_196_7 c_196_66 rfl (by rfl) (by rfl) ⟨0, rfl, rfl, by decide⟩ hF.1 (by exact Nat.le_of_ble_eq_true rfl) (by exact Nat.le_of_ble_eq_true rfl) (t_tripAt hF (by first | assumption | omega | decide) (by first | assumption | omega | decide) (by first | assumption | omega | decide) r1 r2) (fun _ _ q => q.elim) (fun E_7 h_7 q_7 => ?_)
  obtain ⟨rfl, n, u, rfl, n1, n2, u1, u2⟩ := q_7
  refine xp_catch (E' := "java/lang/IndexOutOfBoundsException") (x := { startPc := 0, endPc := 12, handlerPc := 15, catchType := 21 }) (suf := [{ startPc := 0, endPc := 12, handlerPc := 19, catchType := 13 }]) rfl (by decide) (by decide) ct_iob.1 ct_iob.2 (fun q => ?_)
  refine wp_astore d_196_15 (by decide) ?_
  refine wp_iconst d_196_17 ?_
  refine wp_iret d_196_18 rfl ?_
  exact ⟨rfl, RW_xh⟩
set_option maxRecDepth 100000 in
set_option maxHeartbeats 4000000 in
theorem w_earliest {w o : Nat} {p0 p1 p2 : Int} {h : Hp} (hF : Fr h w) (i_p0 : inR p0) (i_p1 : inR p1) (i_p2 : inR p2)  (r1 : nx h + 1 ≤ cn h) (r2 : us h + 6 ≤ cs h) : wp 197 0 (entL [vR (some w), vI p0, vI p1, vI p2, vR (some o)] (mL 197)) [] h (fun v h' => v = some (vI 1) ∧ RW w o h h') noX := by
  refine wp_aload d_197_0 (by rfl) ?_
  refine wp_iconst d_197_2 ?_
  refine wp_aload_n d_197_3 (by rfl) ?_
  refine wp_iload_n d_197_4 (by rfl) ?_
  refine wp_iload_n d_197_5 (by rfl) ?_
  refine wp_iload_n d_197_6 (by rfl) ?_
  refine wp_callV d_197_7 c_197_69 rfl (by rfl) (by rfl) ⟨0, rfl, rfl, by decide⟩ hF.1 (by exact Nat.le_of_ble_eq_true rfl) (by exact Nat.le_of_ble_eq_true rfl) (t_earliest hF (by first | assumption | omega | decide) (by first | assumption | omega | decide) (by first | assumption | omega | decide) r1 r2) (fun _ _ q => q.elim) (fun E_7 h_7 q_7 => ?_)
  obtain ⟨rfl, n, u, rfl, n1, n2, u1, u2⟩ := q_7
  refine xp_catch (E' := "java/lang/IndexOutOfBoundsException") (x := { startPc := 0, endPc := 12, handlerPc := 15, catchType := 21 }) (suf := [{ startPc := 0, endPc := 12, handlerPc := 19, catchType := 13 }]) rfl (by decide) (by decide) ct_iob.1 ct_iob.2 (fun q => ?_)
  refine wp_astore d_197_15 (by decide) ?_
  refine wp_iconst d_197_17 ?_
  refine wp_iret d_197_18 rfl ?_
  exact ⟨rfl, RW_xh⟩
set_option maxRecDepth 100000 in
set_option maxHeartbeats 4000000 in
theorem w_withRides {w o : Nat} {p0 p1 p2 p3 : Int} {h : Hp} (hF : Fr h w) (i_p0 : inR p0) (i_p1 : inR p1) (i_p2 : inR p2) (i_p3 : inR p3)  (r1 : nx h + 1 ≤ cn h) (r2 : us h + 6 ≤ cs h) : wp 198 0 (entL [vR (some w), vI p0, vI p1, vI p2, vI p3, vR (some o)] (mL 198)) [] h (fun v h' => v = some (vI 1) ∧ RW w o h h') noX := by
  refine wp_aload d_198_0 (by rfl) ?_
  refine wp_iconst d_198_2 ?_
  refine wp_aload_n d_198_3 (by rfl) ?_
  refine wp_iload_n d_198_4 (by rfl) ?_
  refine wp_iload_n d_198_5 (by rfl) ?_
  refine wp_iload_n d_198_6 (by rfl) ?_
  refine wp_iload d_198_7 (by rfl) ?_
  refine wp_callV d_198_9 c_198_72 rfl (by rfl) (by rfl) ⟨0, rfl, rfl, by decide⟩ hF.1 (by exact Nat.le_of_ble_eq_true rfl) (by exact Nat.le_of_ble_eq_true rfl) (t_withRides hF (by first | assumption | omega | decide) (by first | assumption | omega | decide) (by first | assumption | omega | decide) (by first | assumption | omega | decide) r1 r2) (fun _ _ q => q.elim) (fun E_9 h_9 q_9 => ?_)
  obtain ⟨rfl, n, u, rfl, n1, n2, u1, u2⟩ := q_9
  refine xp_catch (E' := "java/lang/IndexOutOfBoundsException") (x := { startPc := 0, endPc := 14, handlerPc := 17, catchType := 21 }) (suf := [{ startPc := 0, endPc := 14, handlerPc := 21, catchType := 13 }]) rfl (by decide) (by decide) ct_iob.1 ct_iob.2 (fun q => ?_)
  refine wp_astore d_198_17 (by decide) ?_
  refine wp_iconst d_198_19 ?_
  refine wp_iret d_198_20 rfl ?_
  exact ⟨rfl, RW_xh⟩
set_option maxRecDepth 100000 in
set_option maxHeartbeats 4000000 in
theorem w_rides {w o : Nat} {p0 p1 p2 : Int} {h : Hp} (hF : Fr h w) (i_p0 : inR p0) (i_p1 : inR p1) (i_p2 : inR p2)  (r1 : nx h + 1 ≤ cn h) (r2 : us h + 6 ≤ cs h) : wp 199 0 (entL [vR (some w), vI p0, vI p1, vI p2, vR (some o)] (mL 199)) [] h (fun v h' => v = some (vI 1) ∧ RW w o h h') noX := by
  refine wp_aload d_199_0 (by rfl) ?_
  refine wp_iconst d_199_2 ?_
  refine wp_aload_n d_199_3 (by rfl) ?_
  refine wp_iload_n d_199_4 (by rfl) ?_
  refine wp_iload_n d_199_5 (by rfl) ?_
  refine wp_iload_n d_199_6 (by rfl) ?_
  refine wp_callV d_199_7 c_199_75 rfl (by rfl) (by rfl) ⟨0, rfl, rfl, by decide⟩ hF.1 (by exact Nat.le_of_ble_eq_true rfl) (by exact Nat.le_of_ble_eq_true rfl) (t_rides hF (by first | assumption | omega | decide) (by first | assumption | omega | decide) (by first | assumption | omega | decide) r1 r2) (fun _ _ q => q.elim) (fun E_7 h_7 q_7 => ?_)
  obtain ⟨rfl, n, u, rfl, n1, n2, u1, u2⟩ := q_7
  refine xp_catch (E' := "java/lang/IndexOutOfBoundsException") (x := { startPc := 0, endPc := 12, handlerPc := 15, catchType := 21 }) (suf := [{ startPc := 0, endPc := 12, handlerPc := 19, catchType := 13 }]) rfl (by decide) (by decide) ct_iob.1 ct_iob.2 (fun q => ?_)
  refine wp_astore d_199_15 (by decide) ?_
  refine wp_iconst d_199_17 ?_
  refine wp_iret d_199_18 rfl ?_
  exact ⟨rfl, RW_xh⟩
set_option maxRecDepth 100000 in
set_option maxHeartbeats 4000000 in
theorem w_cheapest {w o : Nat} {p0 p1 p2 p3 : Int} {h : Hp} (hF : Fr h w) (i_p0 : inR p0) (i_p1 : inR p1) (i_p2 : inR p2) (i_p3 : inR p3)  (r1 : nx h + 1 ≤ cn h) (r2 : us h + 6 ≤ cs h) : wp 200 0 (entL [vR (some w), vI p0, vI p1, vI p2, vI p3, vR (some o)] (mL 200)) [] h (fun v h' => v = some (vI 1) ∧ RW w o h h') noX := by
  refine wp_aload d_200_0 (by rfl) ?_
  refine wp_iconst d_200_2 ?_
  refine wp_aload_n d_200_3 (by rfl) ?_
  refine wp_iload_n d_200_4 (by rfl) ?_
  refine wp_iload_n d_200_5 (by rfl) ?_
  refine wp_iload_n d_200_6 (by rfl) ?_
  refine wp_iload d_200_7 (by rfl) ?_
  refine wp_callV d_200_9 c_200_78 rfl (by rfl) (by rfl) ⟨0, rfl, rfl, by decide⟩ hF.1 (by exact Nat.le_of_ble_eq_true rfl) (by exact Nat.le_of_ble_eq_true rfl) (t_cheapest hF (by first | assumption | omega | decide) (by first | assumption | omega | decide) (by first | assumption | omega | decide) (by first | assumption | omega | decide) r1 r2) (fun _ _ q => q.elim) (fun E_9 h_9 q_9 => ?_)
  obtain ⟨rfl, n, u, rfl, n1, n2, u1, u2⟩ := q_9
  refine xp_catch (E' := "java/lang/IndexOutOfBoundsException") (x := { startPc := 0, endPc := 14, handlerPc := 17, catchType := 21 }) (suf := [{ startPc := 0, endPc := 14, handlerPc := 21, catchType := 13 }]) rfl (by decide) (by decide) ct_iob.1 ct_iob.2 (fun q => ?_)
  refine wp_astore d_200_17 (by decide) ?_
  refine wp_iconst d_200_19 ?_
  refine wp_iret d_200_20 rfl ?_
  exact ⟨rfl, RW_xh⟩
set_option maxRecDepth 100000 in
set_option maxHeartbeats 4000000 in
theorem w_latest {w o : Nat} {p0 p1 p2 : Int} {h : Hp} (hF : Fr h w) (i_p0 : inR p0) (i_p1 : inR p1) (i_p2 : inR p2)  (r1 : nx h + 1 ≤ cn h) (r2 : us h + 6 ≤ cs h) : wp 201 0 (entL [vR (some w), vI p0, vI p1, vI p2, vR (some o)] (mL 201)) [] h (fun v h' => v = some (vI 1) ∧ RW w o h h') noX := by
  refine wp_aload d_201_0 (by rfl) ?_
  refine wp_iconst d_201_2 ?_
  refine wp_aload_n d_201_3 (by rfl) ?_
  refine wp_iload_n d_201_4 (by rfl) ?_
  refine wp_iload_n d_201_5 (by rfl) ?_
  refine wp_iload_n d_201_6 (by rfl) ?_
  refine wp_callV d_201_7 c_201_81 rfl (by rfl) (by rfl) ⟨0, rfl, rfl, by decide⟩ hF.1 (by exact Nat.le_of_ble_eq_true rfl) (by exact Nat.le_of_ble_eq_true rfl) (t_latest hF (by first | assumption | omega | decide) (by first | assumption | omega | decide) (by first | assumption | omega | decide) r1 r2) (fun _ _ q => q.elim) (fun E_7 h_7 q_7 => ?_)
  obtain ⟨rfl, n, u, rfl, n1, n2, u1, u2⟩ := q_7
  refine xp_catch (E' := "java/lang/IndexOutOfBoundsException") (x := { startPc := 0, endPc := 12, handlerPc := 15, catchType := 21 }) (suf := [{ startPc := 0, endPc := 12, handlerPc := 19, catchType := 13 }]) rfl (by decide) (by decide) ct_iob.1 ct_iob.2 (fun q => ?_)
  refine wp_astore d_201_15 (by decide) ?_
  refine wp_iconst d_201_17 ?_
  refine wp_iret d_201_18 rfl ?_
  exact ⟨rfl, RW_xh⟩
set_option maxRecDepth 100000 in
set_option maxHeartbeats 4000000 in
theorem w_reached {w o : Nat} {p0 p1 p2 : Int} {h : Hp} (hF : Fr h w) (i_p0 : inR p0) (i_p1 : inR p1) (i_p2 : inR p2)  (r1 : nx h + 1 ≤ cn h) (r2 : us h + 6 ≤ cs h) : wp 202 0 (entL [vR (some w), vI p0, vI p1, vI p2, vR (some o)] (mL 202)) [] h (fun v h' => v = some (vI 1) ∧ RW w o h h') noX := by
  refine wp_aload d_202_0 (by rfl) ?_
  refine wp_iconst d_202_2 ?_
  refine wp_aload_n d_202_3 (by rfl) ?_
  refine wp_iload_n d_202_4 (by rfl) ?_
  refine wp_iload_n d_202_5 (by rfl) ?_
  refine wp_iload_n d_202_6 (by rfl) ?_
  refine wp_callV d_202_7 c_202_84 rfl (by rfl) (by rfl) ⟨0, rfl, rfl, by decide⟩ hF.1 (by exact Nat.le_of_ble_eq_true rfl) (by exact Nat.le_of_ble_eq_true rfl) (t_reached hF (by first | assumption | omega | decide) (by first | assumption | omega | decide) (by first | assumption | omega | decide) r1 r2) (fun _ _ q => q.elim) (fun E_7 h_7 q_7 => ?_)
  obtain ⟨rfl, n, u, rfl, n1, n2, u1, u2⟩ := q_7
  refine xp_catch (E' := "java/lang/IndexOutOfBoundsException") (x := { startPc := 0, endPc := 12, handlerPc := 15, catchType := 21 }) (suf := [{ startPc := 0, endPc := 12, handlerPc := 19, catchType := 13 }]) rfl (by decide) (by decide) ct_iob.1 ct_iob.2 (fun q => ?_)
  refine wp_astore d_202_15 (by decide) ?_
  refine wp_iconst d_202_17 ?_
  refine wp_iret d_202_18 rfl ?_
  exact ⟨rfl, RW_xh⟩
set_option maxRecDepth 100000 in
set_option maxHeartbeats 4000000 in
theorem w_find {w o : Nat} {p0 p1 p2 : Int} {h : Hp} (hF : Fr h w) (i_p0 : inR p0) (i_p1 : inR p1) (i_p2 : inR p2)  (r1 : nx h + 1 ≤ cn h) (r2 : us h + 6 ≤ cs h) : wp 203 0 (entL [vR (some w), vI p0, vI p1, vI p2, vR (some o)] (mL 203)) [] h (fun v h' => v = some (vI 1) ∧ RW w o h h') noX := by
  refine wp_aload d_203_0 (by rfl) ?_
  refine wp_iconst d_203_2 ?_
  refine wp_aload_n d_203_3 (by rfl) ?_
  refine wp_iload_n d_203_4 (by rfl) ?_
  refine wp_iload_n d_203_5 (by rfl) ?_
  refine wp_iload_n d_203_6 (by rfl) ?_
  refine wp_callV d_203_7 c_203_87 rfl (by rfl) (by rfl) ⟨0, rfl, rfl, by decide⟩ hF.1 (by exact Nat.le_of_ble_eq_true rfl) (by exact Nat.le_of_ble_eq_true rfl) (t_find hF (by first | assumption | omega | decide) (by first | assumption | omega | decide) (by first | assumption | omega | decide) r1 r2) (fun _ _ q => q.elim) (fun E_7 h_7 q_7 => ?_)
  obtain ⟨rfl, n, u, rfl, n1, n2, u1, u2⟩ := q_7
  refine xp_catch (E' := "java/lang/IndexOutOfBoundsException") (x := { startPc := 0, endPc := 12, handlerPc := 15, catchType := 21 }) (suf := [{ startPc := 0, endPc := 12, handlerPc := 19, catchType := 13 }]) rfl (by decide) (by decide) ct_iob.1 ct_iob.2 (fun q => ?_)
  refine wp_astore d_203_15 (by decide) ?_
  refine wp_iconst d_203_17 ?_
  refine wp_iret d_203_18 rfl ?_
  exact ⟨rfl, RW_xh⟩
set_option maxRecDepth 100000 in
set_option maxHeartbeats 4000000 in
theorem w_legTrip {w o : Nat} {p0 : Int} {h : Hp} (hF : Fr h w) (i_p0 : inR p0)  (r1 : nx h + 1 ≤ cn h) (r2 : us h + 6 ≤ cs h) : wp 204 0 (entL [vR (some w), vI p0, vR (some o)] (mL 204)) [] h (fun v h' => v = some (vI 1) ∧ RW w o h h') noX := by
  refine wp_aload_n d_204_0 (by rfl) ?_
  refine wp_iconst d_204_1 ?_
  refine wp_aload_n d_204_2 (by rfl) ?_
  refine wp_iload_n d_204_3 (by rfl) ?_
  refine wp_callV d_204_4 c_204_90 rfl (by rfl) (by rfl) ⟨0, rfl, rfl, by decide⟩ hF.1 (by exact Nat.le_of_ble_eq_true rfl) (by exact Nat.le_of_ble_eq_true rfl) (t_legTrip hF (by first | assumption | omega | decide) r1 r2) (fun _ _ q => q.elim) (fun E_4 h_4 q_4 => ?_)
  obtain ⟨rfl, n, u, rfl, n1, n2, u1, u2⟩ := q_4
  refine xp_catch (E' := "java/lang/IllegalStateException") (x := { startPc := 0, endPc := 9, handlerPc := 12, catchType := 15 }) (suf := [{ startPc := 0, endPc := 9, handlerPc := 15, catchType := 21 }]) rfl (by decide) (by decide) ct_ise.1 ct_ise.2 (fun q => ?_)
  refine wp_astore_n d_204_12 (by decide) ?_
  refine wp_iconst d_204_13 ?_
  refine wp_iret d_204_14 rfl ?_
  exact ⟨rfl, RW_xh⟩
set_option maxRecDepth 100000 in
set_option maxHeartbeats 4000000 in
theorem w_legTo {w o : Nat} {p0 : Int} {h : Hp} (hF : Fr h w) (i_p0 : inR p0)  (r1 : nx h + 1 ≤ cn h) (r2 : us h + 6 ≤ cs h) : wp 205 0 (entL [vR (some w), vI p0, vR (some o)] (mL 205)) [] h (fun v h' => v = some (vI 1) ∧ RW w o h h') noX := by
  refine wp_aload_n d_205_0 (by rfl) ?_
  refine wp_iconst d_205_1 ?_
  refine wp_aload_n d_205_2 (by rfl) ?_
  refine wp_iload_n d_205_3 (by rfl) ?_
  refine wp_callV d_205_4 c_205_93 rfl (by rfl) (by rfl) ⟨0, rfl, rfl, by decide⟩ hF.1 (by exact Nat.le_of_ble_eq_true rfl) (by exact Nat.le_of_ble_eq_true rfl) (t_legTo hF (by first | assumption | omega | decide) r1 r2) (fun _ _ q => q.elim) (fun E_4 h_4 q_4 => ?_)
  obtain ⟨rfl, n, u, rfl, n1, n2, u1, u2⟩ := q_4
  refine xp_catch (E' := "java/lang/IllegalStateException") (x := { startPc := 0, endPc := 9, handlerPc := 12, catchType := 15 }) (suf := [{ startPc := 0, endPc := 9, handlerPc := 15, catchType := 21 }]) rfl (by decide) (by decide) ct_ise.1 ct_ise.2 (fun q => ?_)
  refine wp_astore_n d_205_12 (by decide) ?_
  refine wp_iconst d_205_13 ?_
  refine wp_iret d_205_14 rfl ?_
  exact ⟨rfl, RW_xh⟩
set_option maxRecDepth 100000 in
set_option maxHeartbeats 4000000 in
theorem w_legBegin {w o : Nat} {p0 : Int} {h : Hp} (hF : Fr h w) (i_p0 : inR p0)  (r1 : nx h + 1 ≤ cn h) (r2 : us h + 6 ≤ cs h) : wp 206 0 (entL [vR (some w), vI p0, vR (some o)] (mL 206)) [] h (fun v h' => v = some (vI 1) ∧ RW w o h h') noX := by
  refine wp_aload_n d_206_0 (by rfl) ?_
  refine wp_iconst d_206_1 ?_
  refine wp_aload_n d_206_2 (by rfl) ?_
  refine wp_iload_n d_206_3 (by rfl) ?_
  refine wp_callV d_206_4 c_206_96 rfl (by rfl) (by rfl) ⟨0, rfl, rfl, by decide⟩ hF.1 (by exact Nat.le_of_ble_eq_true rfl) (by exact Nat.le_of_ble_eq_true rfl) (t_legBegin hF (by first | assumption | omega | decide) r1 r2) (fun _ _ q => q.elim) (fun E_4 h_4 q_4 => ?_)
  obtain ⟨rfl, n, u, rfl, n1, n2, u1, u2⟩ := q_4
  refine xp_catch (E' := "java/lang/IllegalStateException") (x := { startPc := 0, endPc := 9, handlerPc := 12, catchType := 15 }) (suf := [{ startPc := 0, endPc := 9, handlerPc := 15, catchType := 21 }]) rfl (by decide) (by decide) ct_ise.1 ct_ise.2 (fun q => ?_)
  refine wp_astore_n d_206_12 (by decide) ?_
  refine wp_iconst d_206_13 ?_
  refine wp_iret d_206_14 rfl ?_
  exact ⟨rfl, RW_xh⟩
set_option maxRecDepth 100000 in
set_option maxHeartbeats 4000000 in
theorem w_legEnd {w o : Nat} {p0 : Int} {h : Hp} (hF : Fr h w) (i_p0 : inR p0)  (r1 : nx h + 1 ≤ cn h) (r2 : us h + 6 ≤ cs h) : wp 207 0 (entL [vR (some w), vI p0, vR (some o)] (mL 207)) [] h (fun v h' => v = some (vI 1) ∧ RW w o h h') noX := by
  refine wp_aload_n d_207_0 (by rfl) ?_
  refine wp_iconst d_207_1 ?_
  refine wp_aload_n d_207_2 (by rfl) ?_
  refine wp_iload_n d_207_3 (by rfl) ?_
  refine wp_callV d_207_4 c_207_99 rfl (by rfl) (by rfl) ⟨0, rfl, rfl, by decide⟩ hF.1 (by exact Nat.le_of_ble_eq_true rfl) (by exact Nat.le_of_ble_eq_true rfl) (t_legEnd hF (by first | assumption | omega | decide) r1 r2) (fun _ _ q => q.elim) (fun E_4 h_4 q_4 => ?_)
  obtain ⟨rfl, n, u, rfl, n1, n2, u1, u2⟩ := q_4
  refine xp_catch (E' := "java/lang/IllegalStateException") (x := { startPc := 0, endPc := 9, handlerPc := 12, catchType := 15 }) (suf := [{ startPc := 0, endPc := 9, handlerPc := 15, catchType := 21 }]) rfl (by decide) (by decide) ct_ise.1 ct_ise.2 (fun q => ?_)
  refine wp_astore_n d_207_12 (by decide) ?_
  refine wp_iconst d_207_13 ?_
  refine wp_iret d_207_14 rfl ?_
  exact ⟨rfl, RW_xh⟩
set_option maxRecDepth 100000 in
set_option maxHeartbeats 4000000 in
theorem w_slack {w o : Nat}  {h : Hp} (hF : Fr h w)   (r1 : nx h + 1 ≤ cn h) (r2 : us h + 6 ≤ cs h) : wp 208 0 (entL [vR (some w), vR (some o)] (mL 208)) [] h (fun v h' => v = some (vI 1) ∧ RW w o h h') noX := by
  refine wp_aload_n d_208_0 (by rfl) ?_
  refine wp_iconst d_208_1 ?_
  refine wp_aload_n d_208_2 (by rfl) ?_
  refine wp_callV d_208_3 c_208_102 rfl (by rfl) (by rfl) ⟨0, rfl, rfl, by decide⟩ hF.1 (by exact Nat.le_of_ble_eq_true rfl) (by exact Nat.le_of_ble_eq_true rfl) (t_slack hF  r1 r2) (fun _ _ q => q.elim) (fun E_3 h_3 q_3 => ?_)
  obtain ⟨rfl, n, u, rfl, n1, n2, u1, u2⟩ := q_3
  refine xp_catch (E' := "java/lang/IllegalStateException") (x := { startPc := 0, endPc := 8, handlerPc := 11, catchType := 15 }) (suf := []) rfl (by decide) (by decide) ct_ise.1 ct_ise.2 (fun q => ?_)
  refine wp_astore_n d_208_11 (by decide) ?_
  refine wp_iconst d_208_12 ?_
  refine wp_iret d_208_13 rfl ?_
  exact ⟨rfl, RW_xh⟩
set_option maxRecDepth 100000 in
set_option maxHeartbeats 4000000 in
theorem w_price {w o : Nat}  {h : Hp} (hF : Fr h w)   (r1 : nx h + 1 ≤ cn h) (r2 : us h + 6 ≤ cs h) : wp 209 0 (entL [vR (some w), vR (some o)] (mL 209)) [] h (fun v h' => v = some (vI 1) ∧ RW w o h h') noX := by
  refine wp_aload_n d_209_0 (by rfl) ?_
  refine wp_iconst d_209_1 ?_
  refine wp_aload_n d_209_2 (by rfl) ?_
  refine wp_callV d_209_3 c_209_106 rfl (by rfl) (by rfl) ⟨0, rfl, rfl, by decide⟩ hF.1 (by exact Nat.le_of_ble_eq_true rfl) (by exact Nat.le_of_ble_eq_true rfl) (t_price hF  r1 r2) (fun _ _ q => q.elim) (fun E_3 h_3 q_3 => ?_)
  obtain ⟨rfl, n, u, rfl, n1, n2, u1, u2⟩ := q_3
  refine xp_catch (E' := "java/lang/IllegalStateException") (x := { startPc := 0, endPc := 8, handlerPc := 11, catchType := 15 }) (suf := []) rfl (by decide) (by decide) ct_ise.1 ct_ise.2 (fun q => ?_)
  refine wp_astore_n d_209_11 (by decide) ?_
  refine wp_iconst d_209_12 ?_
  refine wp_iret d_209_13 rfl ?_
  exact ⟨rfl, RW_xh⟩
set_option maxRecDepth 100000 in
set_option maxHeartbeats 4000000 in
theorem w_holds {w o : Nat}  {h : Hp} (hF : Fr h w)   (r1 : nx h + 1 ≤ cn h) (r2 : us h + 6 ≤ cs h) : wp 210 0 (entL [vR (some w), vR (some o)] (mL 210)) [] h (fun v h' => v = some (vI 1) ∧ RW w o h h') noX := by
  refine wp_aload_n d_210_0 (by rfl) ?_
  refine wp_iconst d_210_1 ?_
  refine wp_aload_n d_210_2 (by rfl) ?_
  refine wp_callV d_210_3 c_210_109 rfl (by rfl) (by rfl) ⟨0, rfl, rfl, by decide⟩ hF.1 (by exact Nat.le_of_ble_eq_true rfl) (by exact Nat.le_of_ble_eq_true rfl) (t_holds hF  r1 r2) (fun _ _ q => q.elim) (fun E_3 h_3 q_3 => ?_)
  obtain ⟨rfl, n, u, rfl, n1, n2, u1, u2⟩ := q_3
  refine xp_catch (E' := "java/lang/IllegalStateException") (x := { startPc := 0, endPc := 15, handlerPc := 18, catchType := 15 }) (suf := []) rfl (by decide) (by decide) ct_ise.1 ct_ise.2 (fun q => ?_)
  refine wp_astore_n d_210_18 (by decide) ?_
  refine wp_iconst d_210_19 ?_
  refine wp_iret d_210_20 rfl ?_
  exact ⟨rfl, RW_xh⟩
set_option maxRecDepth 100000 in
set_option maxHeartbeats 4000000 in
theorem w_earliestIf {w o : Nat} {p0 p1 p2 : Int} {h : Hp} (hF : Fr h w) (i_p0 : inR p0) (i_p1 : inR p1) (i_p2 : inR p2)  (r1 : nx h + 1 ≤ cn h) (r2 : us h + 6 ≤ cs h) : wp 211 0 (entL [vR (some w), vI p0, vI p1, vI p2, vR (some o)] (mL 211)) [] h (fun v h' => v = some (vI 1) ∧ RW w o h h') noX := by
  refine wp_aload d_211_0 (by rfl) ?_
  refine wp_iconst d_211_2 ?_
  refine wp_aload_n d_211_3 (by rfl) ?_
  refine wp_iload_n d_211_4 (by rfl) ?_
  refine wp_iload_n d_211_5 (by rfl) ?_
  refine wp_iload_n d_211_6 (by rfl) ?_
  refine wp_callV d_211_7 c_211_113 rfl (by rfl) (by rfl) ⟨0, rfl, rfl, by decide⟩ hF.1 (by exact Nat.le_of_ble_eq_true rfl) (by exact Nat.le_of_ble_eq_true rfl) (t_earliestIf hF (by first | assumption | omega | decide) (by first | assumption | omega | decide) (by first | assumption | omega | decide) r1 r2) (fun _ _ q => q.elim) (fun E_7 h_7 q_7 => ?_)
  obtain ⟨rfl, n, u, rfl, n1, n2, u1, u2⟩ := q_7
  refine xp_catch (E' := "java/lang/IllegalStateException") (x := { startPc := 0, endPc := 12, handlerPc := 15, catchType := 15 }) (suf := [{ startPc := 0, endPc := 12, handlerPc := 19, catchType := 21 }, { startPc := 0, endPc := 12, handlerPc := 23, catchType := 13 }]) rfl (by decide) (by decide) ct_ise.1 ct_ise.2 (fun q => ?_)
  refine wp_astore d_211_15 (by decide) ?_
  refine wp_iconst d_211_17 ?_
  refine wp_iret d_211_18 rfl ?_
  exact ⟨rfl, RW_xh⟩
set_option maxRecDepth 100000 in
set_option maxHeartbeats 4000000 in
theorem w_addStop0 {w o : Nat} {p0 : Int} {h : Hp} (hF : Fr h w) (i_p0 : inR p0) (hc : ¬ (0 ≤ p0 ∧ p0 ≤ 30)) (r1 : nx h + 1 ≤ cn h) (r2 : us h + 6 ≤ cs h) : wp 181 0 (entL [vR (some w), vI p0, vR (some o)] (mL 181)) [] h (fun v h' => v = some (vI 1) ∧ RW w o h h') noX := by
  refine wp_aload_n d_181_0 (by rfl) ?_
  refine wp_iconst d_181_1 ?_
  refine wp_aload_n d_181_2 (by rfl) ?_
  refine wp_iload_n d_181_3 (by rfl) ?_
  refine wp_callV d_181_4 c_181_7 rfl (by rfl) (by rfl) ⟨0, rfl, rfl, by decide⟩ hF.1 (by exact Nat.le_of_ble_eq_true rfl) (by exact Nat.le_of_ble_eq_true rfl) (t_addStop0 (by assumption) hc r1 r2) (fun _ _ q => q.elim) (fun E_4 h_4 q_4 => ?_)
  obtain ⟨rfl, n, u, rfl, n1, n2, u1, u2⟩ := q_4
  refine xp_catch (E' := "java/lang/IllegalArgumentException") (x := { startPc := 0, endPc := 9, handlerPc := 12, catchType := 13 }) (suf := [{ startPc := 0, endPc := 9, handlerPc := 15, catchType := 15 }]) rfl (by decide) (by decide) ct_iae.1 ct_iae.2 (fun q => ?_)
  refine wp_astore_n d_181_12 (by decide) ?_
  refine wp_iconst d_181_13 ?_
  refine wp_iret d_181_14 rfl ?_
  exact ⟨rfl, RW_xh⟩
set_option maxRecDepth 100000 in
set_option maxHeartbeats 4000000 in
theorem w_addCal0a {w o : Nat} {p0 p1 p2 : Int} {h : Hp} (hF : Fr h w) (i_p0 : inR p0) (i_p1 : inR p1) (i_p2 : inR p2) (hx : ¬ (0 ≤ p0 ∧ p0 ≤ 127)) (r1 : nx h + 1 ≤ cn h) (r2 : us h + 6 ≤ cs h) : wp 184 0 (entL [vR (some w), vI p0, vI p1, vI p2, vR (some o)] (mL 184)) [] h (fun v h' => v = some (vI 1) ∧ RW w o h h') noX := by
  refine wp_aload d_184_0 (by rfl) ?_
  refine wp_iconst d_184_2 ?_
  refine wp_aload_n d_184_3 (by rfl) ?_
  refine wp_iload_n d_184_4 (by rfl) ?_
  refine wp_iload_n d_184_5 (by rfl) ?_
  refine wp_iload_n d_184_6 (by rfl) ?_
  refine wp_callV d_184_7 c_184_27 rfl (by rfl) (by rfl) ⟨0, rfl, rfl, by decide⟩ hF.1 (by exact Nat.le_of_ble_eq_true rfl) (by exact Nat.le_of_ble_eq_true rfl) (t_addCal0a (by assumption) (by assumption) (by assumption) hx r1 r2) (fun _ _ q => q.elim) (fun E_7 h_7 q_7 => ?_)
  obtain ⟨rfl, n, u, rfl, n1, n2, u1, u2⟩ := q_7
  refine xp_catch (E' := "java/lang/IllegalArgumentException") (x := { startPc := 0, endPc := 12, handlerPc := 15, catchType := 13 }) (suf := [{ startPc := 0, endPc := 12, handlerPc := 19, catchType := 15 }]) rfl (by decide) (by decide) ct_iae.1 ct_iae.2 (fun q => ?_)
  refine wp_astore d_184_15 (by decide) ?_
  refine wp_iconst d_184_17 ?_
  refine wp_iret d_184_18 rfl ?_
  exact ⟨rfl, RW_xh⟩
set_option maxRecDepth 100000 in
set_option maxHeartbeats 4000000 in
theorem w_addCal0b {w o : Nat} {p0 p1 p2 : Int} {h : Hp} (hF : Fr h w) (i_p0 : inR p0) (i_p1 : inR p1) (i_p2 : inR p2) (ha : 0 ≤ p0 ∧ p0 ≤ 127) (hx : ¬ (0 ≤ p1 ∧ p1 ≤ 365)) (r1 : nx h + 1 ≤ cn h) (r2 : us h + 6 ≤ cs h) : wp 184 0 (entL [vR (some w), vI p0, vI p1, vI p2, vR (some o)] (mL 184)) [] h (fun v h' => v = some (vI 1) ∧ RW w o h h') noX := by
  refine wp_aload d_184_0 (by rfl) ?_
  refine wp_iconst d_184_2 ?_
  refine wp_aload_n d_184_3 (by rfl) ?_
  refine wp_iload_n d_184_4 (by rfl) ?_
  refine wp_iload_n d_184_5 (by rfl) ?_
  refine wp_iload_n d_184_6 (by rfl) ?_
  refine wp_callV d_184_7 c_184_27 rfl (by rfl) (by rfl) ⟨0, rfl, rfl, by decide⟩ hF.1 (by exact Nat.le_of_ble_eq_true rfl) (by exact Nat.le_of_ble_eq_true rfl) (t_addCal0b (by assumption) (by assumption) (by assumption) ha hx r1 r2) (fun _ _ q => q.elim) (fun E_7 h_7 q_7 => ?_)
  obtain ⟨rfl, n, u, rfl, n1, n2, u1, u2⟩ := q_7
  refine xp_catch (E' := "java/lang/IllegalArgumentException") (x := { startPc := 0, endPc := 12, handlerPc := 15, catchType := 13 }) (suf := [{ startPc := 0, endPc := 12, handlerPc := 19, catchType := 15 }]) rfl (by decide) (by decide) ct_iae.1 ct_iae.2 (fun q => ?_)
  refine wp_astore d_184_15 (by decide) ?_
  refine wp_iconst d_184_17 ?_
  refine wp_iret d_184_18 rfl ?_
  exact ⟨rfl, RW_xh⟩
set_option maxRecDepth 100000 in
set_option maxHeartbeats 4000000 in
theorem w_addCal0c {w o : Nat} {p0 p1 p2 : Int} {h : Hp} (hF : Fr h w) (i_p0 : inR p0) (i_p1 : inR p1) (i_p2 : inR p2) (ha : 0 ≤ p0 ∧ p0 ≤ 127) (hb : 0 ≤ p1 ∧ p1 ≤ 365) (hx : ¬ (0 ≤ p2 ∧ p2 ≤ 365)) (r1 : nx h + 1 ≤ cn h) (r2 : us h + 6 ≤ cs h) : wp 184 0 (entL [vR (some w), vI p0, vI p1, vI p2, vR (some o)] (mL 184)) [] h (fun v h' => v = some (vI 1) ∧ RW w o h h') noX := by
  refine wp_aload d_184_0 (by rfl) ?_
  refine wp_iconst d_184_2 ?_
  refine wp_aload_n d_184_3 (by rfl) ?_
  refine wp_iload_n d_184_4 (by rfl) ?_
  refine wp_iload_n d_184_5 (by rfl) ?_
  refine wp_iload_n d_184_6 (by rfl) ?_
  refine wp_callV d_184_7 c_184_27 rfl (by rfl) (by rfl) ⟨0, rfl, rfl, by decide⟩ hF.1 (by exact Nat.le_of_ble_eq_true rfl) (by exact Nat.le_of_ble_eq_true rfl) (t_addCal0c (by assumption) (by assumption) (by assumption) ha hb hx r1 r2) (fun _ _ q => q.elim) (fun E_7 h_7 q_7 => ?_)
  obtain ⟨rfl, n, u, rfl, n1, n2, u1, u2⟩ := q_7
  refine xp_catch (E' := "java/lang/IllegalArgumentException") (x := { startPc := 0, endPc := 12, handlerPc := 15, catchType := 13 }) (suf := [{ startPc := 0, endPc := 12, handlerPc := 19, catchType := 15 }]) rfl (by decide) (by decide) ct_iae.1 ct_iae.2 (fun q => ?_)
  refine wp_astore d_184_15 (by decide) ?_
  refine wp_iconst d_184_17 ?_
  refine wp_iret d_184_18 rfl ?_
  exact ⟨rfl, RW_xh⟩
set_option maxRecDepth 100000 in
set_option maxHeartbeats 4000000 in
theorem w_addCal0d {w o : Nat} {p0 p1 p2 : Int} {h : Hp} (hF : Fr h w) (i_p0 : inR p0) (i_p1 : inR p1) (i_p2 : inR p2) (ha : 0 ≤ p0 ∧ p0 ≤ 127) (hb : 0 ≤ p1 ∧ p1 ≤ 365) (hc : 0 ≤ p2 ∧ p2 ≤ 365) (hx : ¬ p1 ≤ p2) (r1 : nx h + 1 ≤ cn h) (r2 : us h + 6 ≤ cs h) : wp 184 0 (entL [vR (some w), vI p0, vI p1, vI p2, vR (some o)] (mL 184)) [] h (fun v h' => v = some (vI 1) ∧ RW w o h h') noX := by
  refine wp_aload d_184_0 (by rfl) ?_
  refine wp_iconst d_184_2 ?_
  refine wp_aload_n d_184_3 (by rfl) ?_
  refine wp_iload_n d_184_4 (by rfl) ?_
  refine wp_iload_n d_184_5 (by rfl) ?_
  refine wp_iload_n d_184_6 (by rfl) ?_
  refine wp_callV d_184_7 c_184_27 rfl (by rfl) (by rfl) ⟨0, rfl, rfl, by decide⟩ hF.1 (by exact Nat.le_of_ble_eq_true rfl) (by exact Nat.le_of_ble_eq_true rfl) (t_addCal0d (by assumption) (by assumption) (by assumption) ha hb hc hx r1 r2) (fun _ _ q => q.elim) (fun E_7 h_7 q_7 => ?_)
  obtain ⟨rfl, n, u, rfl, n1, n2, u1, u2⟩ := q_7
  refine xp_catch (E' := "java/lang/IllegalArgumentException") (x := { startPc := 0, endPc := 12, handlerPc := 15, catchType := 13 }) (suf := [{ startPc := 0, endPc := 12, handlerPc := 19, catchType := 15 }]) rfl (by decide) (by decide) ct_iae.1 ct_iae.2 (fun q => ?_)
  refine wp_astore d_184_15 (by decide) ?_
  refine wp_iconst d_184_17 ?_
  refine wp_iret d_184_18 rfl ?_
  exact ⟨rfl, RW_xh⟩
set_option maxRecDepth 100000 in
set_option maxHeartbeats 4000000 in
theorem w_addStop1 {w o : Nat} {p0 : Int} {h : Hp} (hF : Fr h w) (hc : 0 ≤ p0 ∧ p0 ≤ 30) (ho : w + 154 ≤ o) (hon : o < nx h) (ko : kd h o = 101) (lo : ln h o = 1) : wp 181 0 (entL [vR (some w), vI p0, vR (some o)] (mL 181)) [] h (fun v h' => v = some (vI 0) ∧ RW w o h h' ∧ kd h' o = 101 ∧ ln h' o = 1 ∧ hl h' o 0 = 0) noX := by
  refine wp_aload_n d_181_0 (by rfl) ?_
  refine wp_iconst d_181_1 ?_
  refine wp_aload_n d_181_2 (by rfl) ?_
  refine wp_iload_n d_181_3 (by rfl) ?_
  refine wp_callV d_181_4 c_181_7 rfl (by rfl) (by rfl) ⟨0, rfl, rfl, by decide⟩ hF.1 (by exact Nat.le_of_ble_eq_true rfl) (by exact Nat.le_of_ble_eq_true rfl) (t_addStop1 hF hc) (fun v_4 h_4 q_4 => ?_) (fun _ _ q => q.elim)
  obtain ⟨rfl, rfl⟩ := q_4
  refine wp_i2l d_181_7 (by omega) ?_
  refine wp_last d_181_8 ko (by decide) (by show (0 : Int) < ln h o; omega) ?_
  refine wp_goto (tgt := 18) d_181_9 (by decide) ?_
  refine wp_iconst d_181_18 ?_
  refine wp_iret d_181_19 rfl ?_
  refine ⟨rfl, ⟨fun b hb => ⟨rfl, rfl⟩, fun b hb h1 h2 => ((eqA_setI (by omega)).trans (eqA_setI (by omega))).trans (eqA_setL h2)⟩, ko, lo, by rw [hl_setL, up2_same]⟩
set_option maxRecDepth 100000 in
set_option maxHeartbeats 4000000 in
theorem w_addCal1 {w o : Nat} {p0 p1 p2 : Int} {h : Hp} (hF : Fr h w) (i_0 : inR p0) (i_1 : inR p1) (i_2 : inR p2) (ha : 0 ≤ p0 ∧ p0 ≤ 127) (hb : 0 ≤ p1 ∧ p1 ≤ 365) (hc : 0 ≤ p2 ∧ p2 ≤ 365) (hd : p1 ≤ p2) (ho : w + 154 ≤ o) (hon : o < nx h) (ko : kd h o = 101) (lo : ln h o = 1) (r1 : nx h + 2 ≤ cn h) (r2 : us h + 370 ≤ cs h) : wp 184 0 (entL [vR (some w), vI p0, vI p1, vI p2, vR (some o)] (mL 184)) [] h (fun v h' => v = some (vI 0) ∧ RW w o h h' ∧ kd h' o = 101 ∧ ln h' o = 1 ∧ hl h' o 0 = 0) noX := by
  refine wp_aload d_184_0 (by rfl) ?_
  refine wp_iconst d_184_2 ?_
  refine wp_aload_n d_184_3 (by rfl) ?_
  refine wp_iload_n d_184_4 (by rfl) ?_
  refine wp_iload_n d_184_5 (by rfl) ?_
  refine wp_iload_n d_184_6 (by rfl) ?_
  refine wp_callV d_184_7 c_184_27 rfl (by rfl) (by rfl) ⟨0, rfl, rfl, by decide⟩ hF.1 (by exact Nat.le_of_ble_eq_true rfl) (by exact Nat.le_of_ble_eq_true rfl) (t_addCal1 i_0 i_1 i_2 hF (by omega) ha hb hc hd r1 r2) (fun v_7 h_7 q_7 => ?_) (fun _ _ q => q.elim)
  obtain ⟨rfl, g1, g2⟩ := q_7
  have ko2 : kd h_7 o = 101 := (g2 o hon).1.trans ko
  have lo2 : ln h_7 o = 1 := (g2 o hon).2.trans lo
  refine wp_i2l d_184_10 (by omega) ?_
  refine wp_last d_184_11 ko2 (by decide) (by omega) ?_
  refine wp_goto (tgt := 23) d_184_12 (by decide) ?_
  refine wp_iconst d_184_23 ?_
  refine wp_iret d_184_24 rfl ?_
  refine ⟨rfl, ⟨fun b hb => g2 b hb, fun b hb h1 h2 => (g1 b hb (by omega) (by omega)).trans (eqA_setL h2)⟩, ko2, lo2, by rw [hl_setL, up2_same]⟩
