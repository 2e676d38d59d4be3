/-! ===== make as a whole ===== -/
set_option maxRecDepth 100000 in
set_option maxHeartbeats 4000000 in
theorem l_mkCals {G sa : Nat} {mo : Int} {Q : Option AV → Hp → Prop} : ∀ (n : Nat) (h : Hp) (D : Int), D + 9 * n ≤ 700000 → DrS h G sa (nx h) D → hi h (G + 1 + 1) 6 + n ≤ 3 → hi h (G + 1 + 1) 7 = 0 → nx h + 2 * n ≤ cn h → us h + 370 * n ≤ cs h →
  (∀ h', DrS h' G sa (nx h') (D + 9 * n) → fm (PB G) (RB G) h h' → nx h' = nx h + 2 * n → us h' = us h + 370 * n → hi h' (G + 1 + 1) 4 = hi h (G + 1 + 1) 4 → hi h' (G + 1 + 1) 6 = hi h (G + 1 + 1) 6 + n → hi h' (G + 1 + 1) 7 = 0 → wp 102 198 [some (vR (some G)), some (vI mo), some (vI 0), none, none] [] h' Q noX) → wp 102 179 [some (vR (some G)), some (vI mo), some (vI (n : Int)), none, none] [] h Q noX := by
  intro n
  induction n with
  | zero =>
    intro h D hD q h6 h7 r1 r2 kk
    refine wp_iload_n d_102_179 (by rfl) ?_
    refine wp_if_le (tgt := 198) d_102_180 (by decide) (by omega) (fun c_180 => ?_) (fun c_180 => ?_)
    rotate_left
    · exact absurd c_180 (by omega)
    refine wp_to [some (vR (some G)), some (vI mo), some (vI 0), none, none] ⟨rfl, rfl, rfl, trivial⟩ ?_
    exact kk h (q.up (by omega)) fm.rfl (by omega) (by omega) rfl (by omega) h7
  | succ n ih =>
    intro h D hD q h6 h7 r1 r2 kk
    have kt_ := q.1.1.1
    have g6_ := q.2.2.1.1.2.2.1.1
    have g7_ := q.2.2.1.1.1.2.2.1.1
    refine wp_iload_n d_102_179 (by rfl) ?_
    refine wp_if_le (tgt := 198) d_102_180 (by decide) (by omega) (fun c_180 => ?_) (fun c_180 => ?_)
    · exact absurd c_180 (by omega)
    refine wp_aload_n d_102_183 (by rfl) ?_
    refine wp_callV d_102_184 c_102_116 rfl (by rfl) (by rfl) ⟨12, rfl, rfl, by decide⟩ (by assumption) (by exact Nat.le_of_ble_eq_true rfl) (by exact Nat.le_of_ble_eq_true rfl) (s_tAddCalendar q (by omega) h7 (by omega) (by omega) (by omega)) (fun v_184 h_184 q_184 => ?_) (fun _ _ q => q.elim)
    obtain ⟨rfl, y1, y2, y3, y4, y5, y6⟩ := q_184
    have y54 := y5 4 (by decide)
    have y57 := y5 7 (by decide)
    have y2c := y2.2.2.2.2.1
    have y2d := y2.2.2.2.2.2
    refine wp_if_ne (tgt := 192) d_102_187 (by decide) (by omega) (fun c_187 => ?_) (fun c_187 => ?_)
    rotate_left
    · exact absurd c_187 (by omega)
    refine wp_iinc d_102_192 (by rfl) (by decide) ?_
    refine wp_goto (tgt := 179) d_102_195 (by decide) ?_
    refine wp_to [some (vR (some G)), some (vI mo), some (vI (n : Int)), none, none] ⟨rfl, rfl, by show some (vI _) = some (vI _); exact congrArg (fun z => some (vI z)) (by omega), trivial⟩ ?_
    exact ih h_184 (D + 9) (by omega) y1 (by omega) (by omega) (by omega) (by omega) (fun h' z1 z2 z3 z4 z5 z6 z7 => kk h' (z1.up (by omega)) (y2.trans z2) (by omega) (by omega) (by omega) (by omega) z7)
set_option maxRecDepth 100000 in
set_option maxHeartbeats 4000000 in
theorem l_mkTrips {G sa : Nat} {mo : Int} {Q : Option AV → Hp → Prop} : ∀ (n : Nat) (h : Hp) (D : Int), D + 30 * n ≤ 600000 → DrS h G sa (nx h) D → hi h (G + 1 + 1) 7 + n ≤ 8 → 1 ≤ hi h (G + 1 + 1) 6 → 1 ≤ hi h (G + 1 + 1) 4 → nx h + 5 * n ≤ cn h → us h + 398 * n ≤ cs h →
  (∀ h', DrS h' G sa (nx h') (D + 30 * n) → fm (PB G) (RB G) h h' → nx h' = nx h + 5 * n → us h' = us h + 398 * n → hi h' (G + 1 + 1) 4 = hi h (G + 1 + 1) 4 → hi h' (G + 1 + 1) 6 = hi h (G + 1 + 1) 6 → hi h' (G + 1 + 1) 7 = hi h (G + 1 + 1) 7 + n → wp 102 227 [some (vR (some G)), some (vI mo), some (vI 0), none, none] [] h' Q noX) → wp 102 208 [some (vR (some G)), some (vI mo), some (vI (n : Int)), none, none] [] h Q noX := by
  intro n
  induction n with
  | zero =>
    intro h D hD q h7 h6 h4 r1 r2 kk
    refine wp_iload_n d_102_208 (by rfl) ?_
    refine wp_if_le (tgt := 227) d_102_209 (by decide) (by omega) (fun c_209 => ?_) (fun c_209 => ?_)
    rotate_left
    · exact absurd c_209 (by omega)
    refine wp_to [some (vR (some G)), some (vI mo), some (vI 0), none, none] ⟨rfl, rfl, rfl, trivial⟩ ?_
    exact kk h (q.up (by omega)) fm.rfl (by omega) (by omega) rfl rfl (by omega)
  | succ n ih =>
    intro h D hD q h7 h6 h4 r1 r2 kk
    have kt_ := q.1.1.1
    have g6_ := q.2.2.1.1.2.2.1.1
    have g7_ := q.2.2.1.1.1.2.2.1.1
    refine wp_iload_n d_102_208 (by rfl) ?_
    refine wp_if_le (tgt := 227) d_102_209 (by decide) (by omega) (fun c_209 => ?_) (fun c_209 => ?_)
    · exact absurd c_209 (by omega)
    refine wp_aload_n d_102_212 (by rfl) ?_
    refine wp_callV d_102_213 c_102_118 rfl (by rfl) (by rfl) ⟨12, rfl, rfl, by decide⟩ (by assumption) (by exact Nat.le_of_ble_eq_true rfl) (by exact Nat.le_of_ble_eq_true rfl) (s_tAddTrip q (by omega) (by omega) (by omega) (by omega) (by omega) (by omega)) (fun v_213 h_213 q_213 => ?_) (fun _ _ q => q.elim)
    obtain ⟨rfl, y1, y2, y3, y4, y5, y6⟩ := q_213
    have y54 := y5 4 (by decide)
    have y56 := y5 6 (by decide)
    have y2c := y2.2.2.2.2.1
    have y2d := y2.2.2.2.2.2
    refine wp_if_ne (tgt := 221) d_102_216 (by decide) (by omega) (fun c_216 => ?_) (fun c_216 => ?_)
    rotate_left
    · exact absurd c_216 (by omega)
    refine wp_iinc d_102_221 (by rfl) (by decide) ?_
    refine wp_goto (tgt := 208) d_102_224 (by decide) ?_
    refine wp_to [some (vR (some G)), some (vI mo), some (vI (n : Int)), none, none] ⟨rfl, rfl, by show some (vI _) = some (vI _); exact congrArg (fun z => some (vI z)) (by omega), trivial⟩ ?_
    exact ih h_213 (D + 30) (by omega) y1 (by omega) (by omega) (by omega) (by omega) (by omega) (fun h' z1 z2 z3 z4 z5 z6 z7 => kk h' (z1.up (by omega)) (y2.trans z2) (by omega) (by omega) (by omega) (by omega) (by omega))
set_option maxRecDepth 100000 in
set_option maxHeartbeats 4000000 in
theorem t_ret1 {G : Nat} {Q : Option AV → Hp → Prop} {h : Hp} (q : Q (some (vI 1)) h) : wp 102 227 [some (vR (some G)), some (vI 7), some (vI 0), none, none] [] h Q noX := by
  refine wp_iconst d_102_227 ?_
  refine wp_zret d_102_228 rfl (by omega) ?_
  exact q
set_option maxRecDepth 100000 in
set_option maxHeartbeats 4000000 in
theorem t_make4 {G sa : Nat} {D : Int} {h : Hp} (q : DrS h G sa (nx h) D) (hD : D ≤ 500000) (h7 : hi h (G + 1 + 1) 7 = 0) (h6 : 1 ≤ hi h (G + 1 + 1) 6) (h4 : 3 ≤ hi h (G + 1 + 1) 4 ∧ hi h (G + 1 + 1) 4 ≤ 6) (r1 : nx h + 35 ≤ cn h) (r2 : us h + 2786 ≤ cs h) : wp 102 198 [some (vR (some G)), some (vI 7), some (vI 0), none, none] [] h (fun v h' => v = some (vI 1) ∧ DrS h' G sa (nx h') (D + 211) ∧ fm (PB G) (RB G) h h' ∧ nx h' ≤ nx h + 35 ∧ us h' ≤ us h + 2786 ∧ (3 ≤ hi h' (G + 1 + 1) 4 ∧ hi h' (G + 1 + 1) 4 ≤ 6) ∧ 1 ≤ hi h' (G + 1 + 1) 6 ∧ 2 ≤ hi h' (G + 1 + 1) 7) noX := by
  have kt_ := q.1.1.1
  have g6_ := q.2.2.1.1.2.2.1.1
  have g7_ := q.2.2.1.1.1.2.2.1.1
  have hXn := q.1.2.2.2.2.2.2
  refine wp_iconst d_102_198 ?_
  refine wp_aload_n d_102_199 (by rfl) ?_
  refine wp_iload_n d_102_200 (by rfl) ?_
  refine wp_iconst d_102_201 ?_
  refine wp_isub d_102_202 ?_
  refine wp_callV d_102_203 c_102_69 rfl (by rfl) (by rfl) ⟨12, rfl, rfl, by decide⟩ (by assumption) (by exact Nat.le_of_ble_eq_true rfl) (by exact Nat.le_of_ble_eq_true rfl) (s_drawS q (by omega) (by omega)) (fun v_203 h_203 q_203 => ?_) (fun _ _ q => q.elim)
  obtain ⟨z_203, rfl, y_203, D_203, C_203, K_203, M_203⟩ := q_203
  have N_203 := K_203 (G + 1 + 1) (by omega)
  have n4_203 := congrFun N_203 4
  have n6_203 := congrFun N_203 6
  have n7_203 := congrFun N_203 7
  have X_203 : nx h_203 = nx h := C_203.2.2.2.1
  have U_203 : us h_203 = us h := C_203.2.2.2.2.1
  have cc_203 : cn h_203 = cn h := C_203.2.2.2.2.2.1
  have cd_203 : cs h_203 = cs h := C_203.2.2.2.2.2.2.1
  rw [← X_203] at D_203
  refine wp_iadd d_102_206 ?_
  refine wp_istore_n d_102_207 (by decide) ?_
  have hn : (((2 + z_203).toNat : Nat) : Int) = 2 + z_203 := Int.toNat_of_nonneg (by omega)
  have key := l_mkTrips (mo := 7) (Q := (fun v h' => v = some (vI 1) ∧ DrS h' G sa (nx h') (D + 211) ∧ fm (PB G) (RB G) h h' ∧ nx h' ≤ nx h + 35 ∧ us h' ≤ us h + 2786 ∧ (3 ≤ hi h' (G + 1 + 1) 4 ∧ hi h' (G + 1 + 1) 4 ≤ 6) ∧ 1 ≤ hi h' (G + 1 + 1) 6 ∧ 2 ≤ hi h' (G + 1 + 1) 7)) (2 + z_203).toNat h_203 (D + 1) (by omega) D_203 (by omega) (by omega) (by omega) (by omega) (by omega) (fun h' y1 y2 y3 y4 y5 y6 y7 => ?_)
  · rw [hn] at key
    exact wp_to [some (vR (some G)), some (vI 7), some (vI (2 + z_203)), none, none] ⟨rfl, rfl, rfl, trivial⟩ key
  · exact wp_to [some (vR (some G)), some (vI 7), some (vI 0), none, none] ⟨rfl, rfl, rfl, trivial⟩ (t_ret1 ⟨rfl, y1.up (by omega), (C_203.fm.mono (fun a z => Or.inl z) (fun a z => z.elim)).trans y2, by omega, by omega, ⟨by omega, by omega⟩, by omega, by omega⟩)
set_option maxRecDepth 100000 in
set_option maxHeartbeats 4000000 in
theorem t_make3 {G sa : Nat} {S D : Int} {h : Hp} (q : DrT h G sa (nx h) S 0 D) (hD : D ≤ 450000) (h4 : hi h (G + 1 + 1) 4 = S) (hS : 3 ≤ S ∧ S ≤ 6) (h6 : hi h (G + 1 + 1) 6 = 0) (h7 : hi h (G + 1 + 1) 7 = 0) (r1 : nx h + 39 ≤ cn h) (r2 : us h + 3526 ≤ cs h) : wp 102 171 [some (vR (some G)), some (vI 7), some (vI 0), none, none] [] h (fun v h' => v = some (vI 1) ∧ DrS h' G sa (nx h') (D + 230) ∧ fm (PB G) (RB G) h h' ∧ nx h' ≤ nx h + 39 ∧ us h' ≤ us h + 3526 ∧ (3 ≤ hi h' (G + 1 + 1) 4 ∧ hi h' (G + 1 + 1) 4 ≤ 6) ∧ 1 ≤ hi h' (G + 1 + 1) 6 ∧ 2 ≤ hi h' (G + 1 + 1) 7) noX := by
  have kt_ := q.1.1.1
  have g6_ := q.2.2.1.1.2.2.1.1
  have g7_ := q.2.2.1.1.1.2.2.1.1
  have hXn := q.1.2.2.2.2.2.2
  have q0 := q.toS h4.symm h7.symm
  refine wp_iconst d_102_171 ?_
  refine wp_aload_n d_102_172 (by rfl) ?_
  refine wp_iconst d_102_173 ?_
  refine wp_callV d_102_174 c_102_69 rfl (by rfl) (by rfl) ⟨12, rfl, rfl, by decide⟩ (by assumption) (by exact Nat.le_of_ble_eq_true rfl) (by exact Nat.le_of_ble_eq_true rfl) (s_drawS q0 (by omega) (by omega)) (fun v_174 h_174 q_174 => ?_) (fun _ _ q => q.elim)
  obtain ⟨z_174, rfl, y_174, D_174, C_174, K_174, M_174⟩ := q_174
  have N_174 := K_174 (G + 1 + 1) (by omega)
  have n4_174 := congrFun N_174 4
  have n6_174 := congrFun N_174 6
  have n7_174 := congrFun N_174 7
  have X_174 : nx h_174 = nx h := C_174.2.2.2.1
  have U_174 : us h_174 = us h := C_174.2.2.2.2.1
  have cc_174 : cn h_174 = cn h := C_174.2.2.2.2.2.1
  have cd_174 : cs h_174 = cs h := C_174.2.2.2.2.2.2.1
  rw [← X_174] at D_174
  refine wp_iadd d_102_177 ?_
  refine wp_istore_n d_102_178 (by decide) ?_
  have hn : (((1 + z_174).toNat : Nat) : Int) = 1 + z_174 := Int.toNat_of_nonneg (by omega)
  have key := l_mkCals (mo := 7) (Q := (fun v h' => v = some (vI 1) ∧ DrS h' G sa (nx h') (D + 230) ∧ fm (PB G) (RB G) h h' ∧ nx h' ≤ nx h + 39 ∧ us h' ≤ us h + 3526 ∧ (3 ≤ hi h' (G + 1 + 1) 4 ∧ hi h' (G + 1 + 1) 4 ≤ 6) ∧ 1 ≤ hi h' (G + 1 + 1) 6 ∧ 2 ≤ hi h' (G + 1 + 1) 7)) (1 + z_174).toNat h_174 (D + 1) (by omega) D_174 (by omega) (by omega) (by omega) (by omega) (fun h' y1 y2 y3 y4 y5 y6 y7 => ?_)
  · rw [hn] at key
    exact wp_to [some (vR (some G)), some (vI 7), some (vI (1 + z_174)), none, none] ⟨rfl, rfl, rfl, trivial⟩ key
  · have y2c := y2.2.2.2.2.1
    have y2d := y2.2.2.2.2.2
    refine wp_mono (fun v h9 z => ?_) (fun _ _ z => z) (t_make4 y1 (by omega) y7 (by omega) ⟨by omega, by omega⟩ (by omega) (by omega))
    obtain ⟨z1, z2, z3, z4, z5, z6, z7, z8⟩ := z
    exact ⟨z1, z2.up (by omega), ((C_174.fm.mono (fun a z => Or.inl z) (fun a z => z.elim)).trans y2).trans z3, by omega, by omega, z6, z7, z8⟩
set_option maxRecDepth 100000 in
set_option maxHeartbeats 4000000 in
theorem t_make2 {G sa : Nat} {S D : Int} {h : Hp} (q : DrT h G sa (nx h) S 0 D) (hD : D ≤ 420000) (h4 : hi h (G + 1 + 1) 4 = S) (hS : 3 ≤ S ∧ S ≤ 6) (h5 : hi h (G + 1 + 1) 5 = 0) (h6 : hi h (G + 1 + 1) 6 = 0) (h7 : hi h (G + 1 + 1) 7 = 0) (r1 : nx h + 45 ≤ cn h) (r2 : us h + 3544 ≤ cs h) : wp 102 58 [some (vR (some G)), some (vI 7), some (vI S), none, none] [] h (fun v h' => v = some (vI 1) ∧ DrS h' G sa (nx h') (D + 240) ∧ fm (PB G) (RB G) h h' ∧ nx h' ≤ nx h + 45 ∧ us h' ≤ us h + 3544 ∧ (3 ≤ hi h' (G + 1 + 1) 4 ∧ hi h' (G + 1 + 1) 4 ≤ 6) ∧ 1 ≤ hi h' (G + 1 + 1) 6 ∧ 2 ≤ hi h' (G + 1 + 1) 7) noX := by
  have kt_ := q.1.1.1
  have g6_ := q.2.2.1.1.2.2.1.1
  have g7_ := q.2.2.1.1.1.2.2.1.1
  have hXn := q.1.2.2.2.2.2.2
  refine wp_aload_n d_102_58 (by rfl) ?_
  refine wp_iconst d_102_59 ?_
  refine wp_callV d_102_60 c_102_69 rfl (by rfl) (by rfl) ⟨12, rfl, rfl, by decide⟩ (by assumption) (by exact Nat.le_of_ble_eq_true rfl) (by exact Nat.le_of_ble_eq_true rfl) (s_drawT q (by omega) (by omega)) (fun v_60 h_60 q_60 => ?_) (fun _ _ q => q.elim)
  obtain ⟨z_60, rfl, y_60, D_60, C_60, K_60, M_60⟩ := q_60
  have N_60 := K_60 (G + 1 + 1) (by omega)
  have n4_60 := congrFun N_60 4
  have n5_60 := congrFun N_60 5
  have n6_60 := congrFun N_60 6
  have n7_60 := congrFun N_60 7
  have X_60 : nx h_60 = nx h := C_60.2.2.2.1
  have U_60 : us h_60 = us h := C_60.2.2.2.2.1
  have cc_60 : cn h_60 = cn h := C_60.2.2.2.2.2.1
  have cd_60 : cs h_60 = cs h := C_60.2.2.2.2.2.2.1
  rw [← X_60] at D_60
  refine wp_istore_n d_102_63 (by decide) ?_
  have hn : ((z_60.toNat : Nat) : Int) = z_60 := Int.toNat_of_nonneg (by omega)
  have key := l_mkWays (mo := 7) (Q := (fun v h' => v = some (vI 1) ∧ DrS h' G sa (nx h') (D + 240) ∧ fm (PB G) (RB G) h h' ∧ nx h' ≤ nx h + 45 ∧ us h' ≤ us h + 3544 ∧ (3 ≤ hi h' (G + 1 + 1) 4 ∧ hi h' (G + 1 + 1) 4 ≤ 6) ∧ 1 ≤ hi h' (G + 1 + 1) 6 ∧ 2 ≤ hi h' (G + 1 + 1) 7)) hS z_60.toNat h_60 (D + 1) (by omega) D_60 (by omega) (by omega) (by omega) (by omega) (by omega) (by omega) (fun h' y1 y2 y3 y4 y5 y6 y7 => ?_)
  · rw [hn] at key
    exact wp_to [some (vR (some G)), some (vI 7), some (vI z_60), none, none] ⟨rfl, rfl, rfl, trivial⟩ key
  · have y2c := y2.2.2.2.2.1
    have y2d := y2.2.2.2.2.2
    refine wp_mono (fun v h9 z => ?_) (fun _ _ z => z) (t_make3 y1 (by omega) y5 hS y6 y7 (by omega) (by omega))
    obtain ⟨z1, z2, z3, z4, z5, z6, z7, z8⟩ := z
    exact ⟨z1, z2.up (by omega), ((C_60.fm.mono (fun a z => Or.inl z) (fun a z => z.elim)).trans y2).trans z3, by omega, by omega, z6, z7, z8⟩
set_option maxRecDepth 100000 in
set_option maxHeartbeats 4000000 in
theorem s_make {G sa : Nat} {D : Int} {h : Hp} (q : DrS h G sa (nx h) D) (hD : D ≤ 400000) (h4 : hi h (G + 1 + 1) 4 = 0) (h5 : hi h (G + 1 + 1) 5 = 0) (h6 : hi h (G + 1 + 1) 6 = 0) (h7 : hi h (G + 1 + 1) 7 = 0) (r1 : nx h + 45 ≤ cn h) (r2 : us h + 3544 ≤ cs h) : wp 102 0 (entL [vR (some G), vI 7] (mL 102)) [] h (fun v h' => v = some (vI 1) ∧ DrS h' G sa (nx h') (D + 300) ∧ fm (PB G) (RB G) h h' ∧ nx h' ≤ nx h + 45 ∧ us h' ≤ us h + 3544 ∧ (3 ≤ hi h' (G + 1 + 1) 4 ∧ hi h' (G + 1 + 1) 4 ≤ 6) ∧ 1 ≤ hi h' (G + 1 + 1) 6 ∧ 2 ≤ hi h' (G + 1 + 1) 7) noX := by
  have kt_ := q.1.1.1
  have g6_ := q.2.2.1.1.2.2.1.1
  have g7_ := q.2.2.1.1.1.2.2.1.1
  have hXn := q.1.2.2.2.2.2.2
  refine wp_aload_n d_102_0 (by rfl) ?_
  refine wp_iconst d_102_1 ?_
  refine wp_aload_n d_102_2 (by rfl) ?_
  refine wp_iconst d_102_3 ?_
  refine wp_callV d_102_4 c_102_69 rfl (by rfl) (by rfl) ⟨12, rfl, rfl, by decide⟩ (by first | assumption | (simp only [kd_setI, kd_setR]; assumption)) (by exact Nat.le_of_ble_eq_true rfl) (by exact Nat.le_of_ble_eq_true rfl) (s_drawS q (by omega) (by omega)) (fun v_4 h_4 q_4 => ?_) (fun _ _ q => q.elim)
  obtain ⟨z_4, rfl, y_4, D_4, C_4, K_4, M_4⟩ := q_4
  have N_4 := K_4 (G + 1 + 1) (by omega)
  have n4_4 := congrFun N_4 4
  have n5_4 := congrFun N_4 5
  have n6_4 := congrFun N_4 6
  have n7_4 := congrFun N_4 7
  have X_4 : nx h_4 = nx h := C_4.2.2.2.1
  have U_4 : us h_4 = us h := C_4.2.2.2.2.1
  have cc_4 : cn h_4 = cn h := C_4.2.2.2.2.2.1
  have cd_4 : cs h_4 = cs h := C_4.2.2.2.2.2.2.1
  rw [← X_4] at D_4
  have kt_4 := D_4.1.1.1
  refine wp_iadd d_102_7 ?_
  refine wp_putI (3) d_102_8 fl_12_90 rfl rfl (Or.inl (by rfl)) (by first | assumption | (simp only [kd_setI, kd_setR]; assumption)) (by omega) (fun q => nomatch q) ?_
  refine wp_iconst d_102_11 ?_
  refine wp_istore_n d_102_12 (by decide) ?_
  have D_8 : DrT (setI h_4 G 3 (3 + z_4)) G sa (nx h_4) (3 + z_4) 0 (D + 1) := by
    have e : ∀ k, k ≠ 3 → hi (setI h_4 G 3 (3 + z_4)) G k = hi h_4 G k := fun k hk => by rw [hi_upF, upF_ne _ hk]
    exact D_4.toT.same (ch_setI (Or.inl rfl)) (e 5 (by decide)) (e 7 (by decide)) (by rw [hi_upF, upF_same]) ((e 9 (by decide)).trans (D_4.2.2.1.2.1.2.2.2.trans (by omega))) (by rw [e 2 (by decide)]; exact D_4.2.2.2.2)
  have K_8 : hi (setI h_4 G 3 (3 + z_4)) (G + 1 + 1) = hi h_4 (G + 1 + 1) := hi_setI_ne (by omega)
  have C_8 : ch (PB G) nP h_4 (setI h_4 G 3 (3 + z_4)) := ch_setI (Or.inl rfl)
  have X_8 : nx (setI h_4 G 3 (3 + z_4)) = nx h_4 := rfl
  have U_8 : us (setI h_4 G 3 (3 + z_4)) = us h_4 := rfl
  generalize setI h_4 G 3 (3 + z_4) = h_8 at D_8 K_8 C_8 X_8 U_8 ⊢
  have n4_8 := congrFun K_8 4
  have n5_8 := congrFun K_8 5
  have n6_8 := congrFun K_8 6
  have n7_8 := congrFun K_8 7
  refine wp_to [some (vR (some G)), some (vI 7), some (vI 0), none, none] ⟨rfl, rfl, rfl, trivial⟩ ?_
  refine l_mkStops (by omega) (3 + z_4).toNat h_8 0 (D + 1) (by omega) (by omega) (by omega) D_8 (by omega) (by omega) (by omega) (by omega) (fun h' y1 y2 y3 y4 y5 y6 => ?_)
  have X_9 : nx h' = nx h_8 := y2.2.2.2.1
  have U_9 : us h' = us h_8 := y2.2.2.2.2.1
  have c9_ := y2.2.2.2.2.2.1
  have d9_ := y2.2.2.2.2.2.2.1
  have c8_ := C_8.2.2.2.2.2.1
  have d8_ := C_8.2.2.2.2.2.2.1
  rw [← X_8, ← X_9] at y1
  refine wp_mono (fun v h9 z => ?_) (fun _ _ z => z) (t_make2 y1 (by omega) y3 ⟨by omega, by omega⟩ y4 y5 y6 (by omega) (by omega))
  obtain ⟨z1, z2, z3, z4, z5, z6, z7, z8⟩ := z
  exact ⟨z1, z2.up (by omega), ((C_4.fm.mono (fun a z => Or.inl z) (fun a z => z.elim)).trans (C_8.fm.mono (fun a z => z) (fun a z => z.elim))).trans ((y2.fm.mono (fun a z => z) (fun a z => z.elim)).trans z3), by omega, by omega, z6, z7, z8⟩
