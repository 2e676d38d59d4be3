/-! ===== the law over at most one call ===== -/
set_option maxRecDepth 100000 in
theorem cw_212_120 : cswP 212 120 181 3 [((0 : Nat), (9 : Nat), (12 : Nat), (13 : Nat)), ((0 : Nat), (9 : Nat), (15 : Nat), (15 : Nat))] := ⟨okk_w (k := 515) (by decide +kernel), rfl, by decide +kernel, by decide +kernel, okk_w (k := 57) (by decide +kernel), okk_w (k := 513) (by decide +kernel), okk_w (k := 514) (by decide +kernel), by decide +kernel, by decide +kernel⟩
set_option maxRecDepth 100000 in
theorem cw_212_129 : cswP 212 129 182 4 [((0 : Nat), (10 : Nat), (13 : Nat), (21 : Nat)), ((0 : Nat), (10 : Nat), (17 : Nat), (13 : Nat))] := ⟨okk_w (k := 562) (by decide +kernel), rfl, by decide +kernel, by decide +kernel, okk_w (k := 57) (by decide +kernel), okk_w (k := 560) (by decide +kernel), okk_w (k := 561) (by decide +kernel), by decide +kernel, by decide +kernel⟩
set_option maxRecDepth 100000 in
theorem cw_212_133 : cswP 212 133 183 5 [((0 : Nat), (12 : Nat), (15 : Nat), (21 : Nat)), ((0 : Nat), (12 : Nat), (19 : Nat), (13 : Nat)), ((0 : Nat), (12 : Nat), (23 : Nat), (15 : Nat))] := ⟨okk_w (k := 574) (by decide +kernel), rfl, by decide +kernel, by decide +kernel, okk_w (k := 57) (by decide +kernel), okk_w (k := 572) (by decide +kernel), okk_w (k := 573) (by decide +kernel), by decide +kernel, by decide +kernel⟩
set_option maxRecDepth 100000 in
theorem cw_212_137 : cswP 212 137 184 5 [((0 : Nat), (12 : Nat), (15 : Nat), (13 : Nat)), ((0 : Nat), (12 : Nat), (19 : Nat), (15 : Nat))] := ⟨okk_w (k := 605) (by decide +kernel), rfl, by decide +kernel, by decide +kernel, okk_w (k := 57) (by decide +kernel), okk_w (k := 603) (by decide +kernel), okk_w (k := 604) (by decide +kernel), by decide +kernel, by decide +kernel⟩
set_option maxRecDepth 100000 in
theorem cw_212_140 : cswP 212 140 185 5 [((0 : Nat), (19 : Nat), (22 : Nat), (21 : Nat)), ((0 : Nat), (19 : Nat), (26 : Nat), (13 : Nat))] := ⟨okk_w (k := 633) (by decide +kernel), rfl, by decide +kernel, by decide +kernel, okk_w (k := 57) (by decide +kernel), okk_w (k := 631) (by decide +kernel), okk_w (k := 632) (by decide +kernel), by decide +kernel, by decide +kernel⟩
set_option maxRecDepth 100000 in
theorem cw_212_144 : cswP 212 144 186 4 [((0 : Nat), (17 : Nat), (20 : Nat), (21 : Nat))] := ⟨okk_w (k := 641) (by decide +kernel), rfl, by decide +kernel, by decide +kernel, okk_w (k := 57) (by decide +kernel), okk_w (k := 639) (by decide +kernel), okk_w (k := 640) (by decide +kernel), by decide +kernel, by decide +kernel⟩
set_option maxRecDepth 100000 in
theorem cw_212_147 : cswP 212 147 187 6 [((0 : Nat), (14 : Nat), (17 : Nat), (21 : Nat)), ((0 : Nat), (14 : Nat), (21 : Nat), (13 : Nat)), ((0 : Nat), (14 : Nat), (25 : Nat), (15 : Nat))] := ⟨okk_w (k := 648) (by decide +kernel), rfl, by decide +kernel, by decide +kernel, okk_w (k := 57) (by decide +kernel), okk_w (k := 646) (by decide +kernel), okk_w (k := 647) (by decide +kernel), by decide +kernel, by decide +kernel⟩
set_option maxRecDepth 100000 in
theorem cw_212_151 : cswP 212 151 188 6 [((0 : Nat), (14 : Nat), (17 : Nat), (21 : Nat)), ((0 : Nat), (14 : Nat), (21 : Nat), (13 : Nat)), ((0 : Nat), (14 : Nat), (25 : Nat), (15 : Nat))] := ⟨okk_w (k := 719) (by decide +kernel), rfl, by decide +kernel, by decide +kernel, okk_w (k := 57) (by decide +kernel), okk_w (k := 717) (by decide +kernel), okk_w (k := 718) (by decide +kernel), by decide +kernel, by decide +kernel⟩
set_option maxRecDepth 100000 in
theorem cw_212_162 : cswP 212 162 189 3 [((0 : Nat), (9 : Nat), (12 : Nat), (21 : Nat))] := ⟨okk_w (k := 730) (by decide +kernel), rfl, by decide +kernel, by decide +kernel, okk_w (k := 57) (by decide +kernel), okk_w (k := 728) (by decide +kernel), okk_w (k := 729) (by decide +kernel), by decide +kernel, by decide +kernel⟩
set_option maxRecDepth 100000 in
theorem cw_212_165 : cswP 212 165 190 4 [((0 : Nat), (10 : Nat), (13 : Nat), (21 : Nat))] := ⟨okk_w (k := 737) (by decide +kernel), rfl, by decide +kernel, by decide +kernel, okk_w (k := 57) (by decide +kernel), okk_w (k := 735) (by decide +kernel), okk_w (k := 736) (by decide +kernel), by decide +kernel, by decide +kernel⟩
set_option maxRecDepth 100000 in
theorem cw_212_168 : cswP 212 168 191 5 [((0 : Nat), (12 : Nat), (15 : Nat), (21 : Nat)), ((0 : Nat), (12 : Nat), (19 : Nat), (13 : Nat))] := ⟨okk_w (k := 744) (by decide +kernel), rfl, by decide +kernel, by decide +kernel, okk_w (k := 57) (by decide +kernel), okk_w (k := 742) (by decide +kernel), okk_w (k := 743) (by decide +kernel), by decide +kernel, by decide +kernel⟩
set_option maxRecDepth 100000 in
theorem cw_212_171 : cswP 212 171 192 4 [((0 : Nat), (17 : Nat), (20 : Nat), (21 : Nat)), ((0 : Nat), (17 : Nat), (24 : Nat), (13 : Nat))] := ⟨okk_w (k := 751) (by decide +kernel), rfl, by decide +kernel, by decide +kernel, okk_w (k := 57) (by decide +kernel), okk_w (k := 749) (by decide +kernel), okk_w (k := 750) (by decide +kernel), by decide +kernel, by decide +kernel⟩
set_option maxRecDepth 100000 in
theorem cw_212_174 : cswP 212 174 193 4 [((0 : Nat), (10 : Nat), (13 : Nat), (21 : Nat))] := ⟨okk_w (k := 758) (by decide +kernel), rfl, by decide +kernel, by decide +kernel, okk_w (k := 57) (by decide +kernel), okk_w (k := 756) (by decide +kernel), okk_w (k := 757) (by decide +kernel), by decide +kernel, by decide +kernel⟩
set_option maxRecDepth 100000 in
theorem cw_212_177 : cswP 212 177 194 4 [((0 : Nat), (10 : Nat), (13 : Nat), (21 : Nat)), ((0 : Nat), (10 : Nat), (17 : Nat), (13 : Nat))] := ⟨okk_w (k := 762) (by decide +kernel), rfl, by decide +kernel, by decide +kernel, okk_w (k := 57) (by decide +kernel), okk_w (k := 760) (by decide +kernel), okk_w (k := 761) (by decide +kernel), by decide +kernel, by decide +kernel⟩
set_option maxRecDepth 100000 in
theorem cw_212_180 : cswP 212 180 195 5 [((0 : Nat), (12 : Nat), (15 : Nat), (21 : Nat)), ((0 : Nat), (12 : Nat), (19 : Nat), (13 : Nat))] := ⟨okk_w (k := 805) (by decide +kernel), rfl, by decide +kernel, by decide +kernel, okk_w (k := 57) (by decide +kernel), okk_w (k := 803) (by decide +kernel), okk_w (k := 804) (by decide +kernel), by decide +kernel, by decide +kernel⟩
set_option maxRecDepth 100000 in
theorem cw_212_183 : cswP 212 183 196 5 [((0 : Nat), (12 : Nat), (15 : Nat), (21 : Nat)), ((0 : Nat), (12 : Nat), (19 : Nat), (13 : Nat))] := ⟨okk_w (k := 817) (by decide +kernel), rfl, by decide +kernel, by decide +kernel, okk_w (k := 57) (by decide +kernel), okk_w (k := 815) (by decide +kernel), okk_w (k := 816) (by decide +kernel), by decide +kernel, by decide +kernel⟩
set_option maxRecDepth 100000 in
theorem cw_212_186 : cswP 212 186 197 5 [((0 : Nat), (12 : Nat), (15 : Nat), (21 : Nat)), ((0 : Nat), (12 : Nat), (19 : Nat), (13 : Nat))] := ⟨okk_w (k := 829) (by decide +kernel), rfl, by decide +kernel, by decide +kernel, okk_w (k := 57) (by decide +kernel), okk_w (k := 827) (by decide +kernel), okk_w (k := 828) (by decide +kernel), by decide +kernel, by decide +kernel⟩
set_option maxRecDepth 100000 in
theorem cw_212_189 : cswP 212 189 198 6 [((0 : Nat), (14 : Nat), (17 : Nat), (21 : Nat)), ((0 : Nat), (14 : Nat), (21 : Nat), (13 : Nat))] := ⟨okk_w (k := 883) (by decide +kernel), rfl, by decide +kernel, by decide +kernel, okk_w (k := 57) (by decide +kernel), okk_w (k := 881) (by decide +kernel), okk_w (k := 882) (by decide +kernel), by decide +kernel, by decide +kernel⟩
set_option maxRecDepth 100000 in
theorem cw_212_192 : cswP 212 192 199 5 [((0 : Nat), (12 : Nat), (15 : Nat), (21 : Nat)), ((0 : Nat), (12 : Nat), (19 : Nat), (13 : Nat))] := ⟨okk_w (k := 890) (by decide +kernel), rfl, by decide +kernel, by decide +kernel, okk_w (k := 57) (by decide +kernel), okk_w (k := 888) (by decide +kernel), okk_w (k := 889) (by decide +kernel), by decide +kernel, by decide +kernel⟩
set_option maxRecDepth 100000 in
theorem cw_212_195 : cswP 212 195 200 6 [((0 : Nat), (14 : Nat), (17 : Nat), (21 : Nat)), ((0 : Nat), (14 : Nat), (21 : Nat), (13 : Nat))] := ⟨okk_w (k := 905) (by decide +kernel), rfl, by decide +kernel, by decide +kernel, okk_w (k := 57) (by decide +kernel), okk_w (k := 903) (by decide +kernel), okk_w (k := 904) (by decide +kernel), by decide +kernel, by decide +kernel⟩
set_option maxRecDepth 100000 in
theorem cw_212_198 : cswP 212 198 201 5 [((0 : Nat), (12 : Nat), (15 : Nat), (21 : Nat)), ((0 : Nat), (12 : Nat), (19 : Nat), (13 : Nat))] := ⟨okk_w (k := 971) (by decide +kernel), rfl, by decide +kernel, by decide +kernel, okk_w (k := 57) (by decide +kernel), okk_w (k := 969) (by decide +kernel), okk_w (k := 970) (by decide +kernel), by decide +kernel, by decide +kernel⟩
set_option maxRecDepth 100000 in
theorem cw_212_201 : cswP 212 201 202 5 [((0 : Nat), (12 : Nat), (15 : Nat), (21 : Nat)), ((0 : Nat), (12 : Nat), (19 : Nat), (13 : Nat))] := ⟨okk_w (k := 1013) (by decide +kernel), rfl, by decide +kernel, by decide +kernel, okk_w (k := 57) (by decide +kernel), okk_w (k := 1011) (by decide +kernel), okk_w (k := 1012) (by decide +kernel), by decide +kernel, by decide +kernel⟩
set_option maxRecDepth 100000 in
theorem cw_212_204 : cswP 212 204 203 5 [((0 : Nat), (12 : Nat), (15 : Nat), (21 : Nat)), ((0 : Nat), (12 : Nat), (19 : Nat), (13 : Nat))] := ⟨okk_w (k := 1020) (by decide +kernel), rfl, by decide +kernel, by decide +kernel, okk_w (k := 57) (by decide +kernel), okk_w (k := 1018) (by decide +kernel), okk_w (k := 1019) (by decide +kernel), by decide +kernel, by decide +kernel⟩
set_option maxRecDepth 100000 in
theorem cw_212_211 : cswP 212 211 204 3 [((0 : Nat), (9 : Nat), (12 : Nat), (15 : Nat)), ((0 : Nat), (9 : Nat), (15 : Nat), (21 : Nat))] := ⟨okk_w (k := 1066) (by decide +kernel), rfl, by decide +kernel, by decide +kernel, okk_w (k := 57) (by decide +kernel), okk_w (k := 1064) (by decide +kernel), okk_w (k := 1065) (by decide +kernel), by decide +kernel, by decide +kernel⟩
set_option maxRecDepth 100000 in
theorem cw_212_214 : cswP 212 214 205 3 [((0 : Nat), (9 : Nat), (12 : Nat), (15 : Nat)), ((0 : Nat), (9 : Nat), (15 : Nat), (21 : Nat))] := ⟨okk_w (k := 1077) (by decide +kernel), rfl, by decide +kernel, by decide +kernel, okk_w (k := 57) (by decide +kernel), okk_w (k := 1075) (by decide +kernel), okk_w (k := 1076) (by decide +kernel), by decide +kernel, by decide +kernel⟩
set_option maxRecDepth 100000 in
theorem cw_212_217 : cswP 212 217 206 3 [((0 : Nat), (9 : Nat), (12 : Nat), (15 : Nat)), ((0 : Nat), (9 : Nat), (15 : Nat), (21 : Nat))] := ⟨okk_w (k := 1084) (by decide +kernel), rfl, by decide +kernel, by decide +kernel, okk_w (k := 57) (by decide +kernel), okk_w (k := 1082) (by decide +kernel), okk_w (k := 1083) (by decide +kernel), by decide +kernel, by decide +kernel⟩
set_option maxRecDepth 100000 in
theorem cw_212_220 : cswP 212 220 207 3 [((0 : Nat), (9 : Nat), (12 : Nat), (15 : Nat)), ((0 : Nat), (9 : Nat), (15 : Nat), (21 : Nat))] := ⟨okk_w (k := 1091) (by decide +kernel), rfl, by decide +kernel, by decide +kernel, okk_w (k := 57) (by decide +kernel), okk_w (k := 1089) (by decide +kernel), okk_w (k := 1090) (by decide +kernel), by decide +kernel, by decide +kernel⟩
set_option maxRecDepth 100000 in
theorem cw_212_223 : cswP 212 223 208 2 [((0 : Nat), (8 : Nat), (11 : Nat), (15 : Nat))] := ⟨okk_w (k := 1098) (by decide +kernel), rfl, by decide +kernel, by decide +kernel, okk_w (k := 57) (by decide +kernel), okk_w (k := 1096) (by decide +kernel), okk_w (k := 1097) (by decide +kernel), by decide +kernel, by decide +kernel⟩
set_option maxRecDepth 100000 in
theorem cw_212_227 : cswP 212 227 209 2 [((0 : Nat), (8 : Nat), (11 : Nat), (15 : Nat))] := ⟨okk_w (k := 1105) (by decide +kernel), rfl, by decide +kernel, by decide +kernel, okk_w (k := 57) (by decide +kernel), okk_w (k := 1103) (by decide +kernel), okk_w (k := 1104) (by decide +kernel), by decide +kernel, by decide +kernel⟩
set_option maxRecDepth 100000 in
theorem cw_212_230 : cswP 212 230 210 2 [((0 : Nat), (15 : Nat), (18 : Nat), (15 : Nat))] := ⟨okk_w (k := 1112) (by decide +kernel), rfl, by decide +kernel, by decide +kernel, okk_w (k := 57) (by decide +kernel), okk_w (k := 1110) (by decide +kernel), okk_w (k := 1111) (by decide +kernel), by decide +kernel, by decide +kernel⟩
set_option maxRecDepth 100000 in
theorem cw_212_233 : cswP 212 233 211 5 [((0 : Nat), (12 : Nat), (15 : Nat), (15 : Nat)), ((0 : Nat), (12 : Nat), (19 : Nat), (21 : Nat)), ((0 : Nat), (12 : Nat), (23 : Nat), (13 : Nat))] := ⟨okk_w (k := 1119) (by decide +kernel), rfl, by decide +kernel, by decide +kernel, okk_w (k := 57) (by decide +kernel), okk_w (k := 1117) (by decide +kernel), okk_w (k := 1118) (by decide +kernel), by decide +kernel, by decide +kernel⟩
def QL : Option AV → Hp → Prop := fun v _ => v = some (vI 1)
def LG (g : Hp) (s w : Nat) (L : Int) : Prop := kd g s = 200 ∧ ln g s = L ∧ s < w ∧ Fr g w ∧ MF g (w + 154) ∧ (kd g (w + 280) = 101 ∧ ln g (w + 280) = 1) ∧ nx g = w + 281 ∧ nx g + 2 ≤ cn g ∧ us g + 370 ≤ cs g
set_option maxRecDepth 100000 in
set_option maxHeartbeats 4000000 in
theorem l_end {s : Nat} {i L : Int} {h : Hp} (ks : kd h s = 200) (ls : ln h s = L) (hL : 0 ≤ L ∧ L ≤ 5) (hi : inR i) (hiL : L - 5 < i) : wp 212 23 [some (vR (some s)), none, none, none, some (vI i), none, none, none, none] [] h QL noX := by
  refine wp_iload d_212_23 (by rfl) ?_
  refine wp_aload_n d_212_25 (by rfl) ?_
  refine wp_alen d_212_26 (by omega) ?_
  refine wp_iconst d_212_27 ?_
  refine wp_isub d_212_28 ?_
  refine wp_icmp_gt (tgt := 2544) d_212_29 (by decide) (by omega) (by omega) (fun c_29 => ?_) (fun c_29 => ?_)
  rotate_left
  · exact absurd c_29 (by omega)
  refine wp_iconst d_212_2544 ?_
  refine wp_zret d_212_2545 rfl (by omega) ?_
  rfl
set_option maxRecDepth 100000 in
set_option maxHeartbeats 4000000 in
theorem l_next {s : Nat} {L : Int} {h : Hp} (ks : kd h s = 200) (ls : ln h s = L) (hL : 0 ≤ L ∧ L ≤ 5) : wp 212 2538 [some (vR (some s)), none, none, none, some (vI 0), none, none, none, none] [] h QL noX := by
  refine wp_iinc d_212_2538 (by rfl) (by decide) ?_
  refine wp_goto (tgt := 23) d_212_2541 (by decide) ?_
  refine wp_to [some (vR (some s)), none, none, none, some (vI (0 + 5)), none, none, none, none] ⟨rfl, rfl, trivial⟩ ?_
  exact l_end ks ls hL (by decide) (by omega)
set_option maxRecDepth 100000 in
set_option maxHeartbeats 4000000 in
theorem lc_0b {g : Hp} {s w : Nat} {L : Int} (G : LG g s w L) (hL : L = 5) (hx : ¬ (0 ≤ hi g s (0 + 1) ∧ hi g s (0 + 1) ≤ 30)) : wp 212 196 [some (vR (some s)), some (vR (some w)), some (vR (some (w + 154))), some (vR (some (w + 280))), some (vI 0), none, none, none, none] [] g QL noX := by
  obtain ⟨ks, ls, hsw, hF, hM, ⟨ko, lo⟩, hn, g1, g2⟩ := G
  refine wp_aload_n d_212_196 (by rfl) ?_
  refine wp_aload_n d_212_197 (by rfl) ?_
  refine wp_iload d_212_198 (by rfl) ?_
  refine wp_iconst d_212_200 ?_
  refine wp_iadd d_212_201 ?_
  refine wp_iald d_212_202 (Or.inr (by assumption)) (by omega) (by omega) (fun x_202 e_202 r_202 => ?_)
  refine wp_aload_n d_212_203 (by rfl) ?_
  refine wp_callSW d_212_204 cw_212_120 (by rfl) (by rfl) (by exact Nat.le_of_ble_eq_true rfl) (by exact Nat.le_of_ble_eq_true rfl) (w_addStop0 hF (by assumption) (by rw [e_202]; exact hx) (by omega) (by omega)) (fun v_204 h_204 q_204 => ?_)
  obtain ⟨rfl, hR⟩ := q_204
  have hM1 : MF h_204 (w + 154) := hM.kept (fun b h1 h2 => hR.2 b (by omega) (by omega) (by omega))
  have ks1 : kd h_204 s = 200 := (hR.1 s (by omega)).1.trans ks
  have ls1 : ln h_204 s = L := (hR.1 s (by omega)).2.trans ls
  have sc1 : ∀ k, hi h_204 s k = hi g s k := fun k => (hR.2 s (by omega) (Or.inr hsw) (by omega)).2.2.1 k
  refine wp_istore d_212_207 (by decide) ?_
  refine wp_aload_n d_212_209 (by rfl) ?_
  refine wp_aload_n d_212_210 (by rfl) ?_
  refine wp_iload d_212_211 (by rfl) ?_
  refine wp_iconst d_212_213 ?_
  refine wp_iadd d_212_214 ?_
  refine wp_iald d_212_215 (Or.inr (by assumption)) (by omega) (by omega) (fun x_215 e_215 r_215 => ?_)
  refine wp_callV d_212_216 c_212_125 rfl (by rfl) (by rfl) ⟨1, rfl, rfl, by decide⟩ (by first | assumption | exact hF.1 | exact hM1.1 | exact hM.1) (by exact Nat.le_of_ble_eq_true rfl) (by exact Nat.le_of_ble_eq_true rfl) (m_addStop0 hM1.z (by assumption) (by rw [e_215, sc1]; exact hx)) (fun v_216 h_216 q_216 => ?_) (fun _ _ q => q.elim)
  obtain ⟨rfl, hr1, hr2, hr3, hr4⟩ := q_216
  have ks2 : kd h_216 s = 200 := by rw [hr1]; exact ks1
  have ls2 : ln h_216 s = L := by rw [hr2]; exact ls1
  have km2 : kd h_216 (w + 154) = 2 := by rw [hr1]; exact hM1.1
  refine wp_istore d_212_219 (by decide) ?_
  refine wp_aload_n d_212_221 (by rfl) ?_
  refine wp_callV d_212_222 c_212_126 rfl (by rfl) (by rfl) ⟨1, rfl, rfl, by decide⟩ (by first | assumption | exact hF.1 | exact hM1.1 | exact hM.1) (by exact Nat.le_of_ble_eq_true rfl) (by exact Nat.le_of_ble_eq_true rfl) (m_thrown km2 hr4) (fun v_222 h_222 q_222 => ?_) (fun _ _ q => q.elim)
  obtain ⟨rfl, rfl⟩ := q_222
  refine wp_iload d_212_225 (by rfl) ?_
  refine wp_icmp_eq (tgt := 232) d_212_227 (by decide) (by omega) (by omega) (fun c_227 => ?_) (fun c_227 => ?_)
  rotate_left
  · exact absurd c_227 (by omega)
  refine wp_iload d_212_232 (by rfl) ?_
  refine wp_if_ne (tgt := 249) d_212_234 (by decide) (by omega) (fun c_234 => ?_) (fun c_234 => ?_)
  rotate_left
  · exact absurd c_234 (by omega)
  refine wp_goto (tgt := 2538) d_212_249 (by decide) ?_
  refine wp_to [some (vR (some s)), none, none, none, some (vI 0), none, none, none, none] ⟨rfl, rfl, trivial⟩ ?_
  exact l_next ks2 ls2 ⟨by omega, by omega⟩
set_option maxRecDepth 100000 in
set_option maxHeartbeats 4000000 in
theorem lc_0a {g : Hp} {s w : Nat} {L : Int} (G : LG g s w L) (hL : L = 5) (hx : 0 ≤ hi g s (0 + 1) ∧ hi g s (0 + 1) ≤ 30) : wp 212 196 [some (vR (some s)), some (vR (some w)), some (vR (some (w + 154))), some (vR (some (w + 280))), some (vI 0), none, none, none, none] [] g QL noX := by
  obtain ⟨ks, ls, hsw, hF, hM, ⟨ko, lo⟩, hn, g1, g2⟩ := G
  refine wp_aload_n d_212_196 (by rfl) ?_
  refine wp_aload_n d_212_197 (by rfl) ?_
  refine wp_iload d_212_198 (by rfl) ?_
  refine wp_iconst d_212_200 ?_
  refine wp_iadd d_212_201 ?_
  refine wp_iald d_212_202 (Or.inr (by assumption)) (by omega) (by omega) (fun x_202 e_202 r_202 => ?_)
  refine wp_aload_n d_212_203 (by rfl) ?_
  refine wp_callSW d_212_204 cw_212_120 (by rfl) (by rfl) (by exact Nat.le_of_ble_eq_true rfl) (by exact Nat.le_of_ble_eq_true rfl) (w_addStop1 hF (by rw [e_202]; exact hx) (by omega) (by omega) ko lo) (fun v_204 h_204 q_204 => ?_)
  obtain ⟨rfl, hR, ko1, lo1, ho1⟩ := q_204
  have hM1 : MF h_204 (w + 154) := hM.kept (fun b h1 h2 => hR.2 b (by omega) (by omega) (by omega))
  have ks1 : kd h_204 s = 200 := (hR.1 s (by omega)).1.trans ks
  have ls1 : ln h_204 s = L := (hR.1 s (by omega)).2.trans ls
  have sc1 : ∀ k, hi h_204 s k = hi g s k := fun k => (hR.2 s (by omega) (Or.inr hsw) (by omega)).2.2.1 k
  refine wp_istore d_212_207 (by decide) ?_
  refine wp_aload_n d_212_209 (by rfl) ?_
  refine wp_aload_n d_212_210 (by rfl) ?_
  refine wp_iload d_212_211 (by rfl) ?_
  refine wp_iconst d_212_213 ?_
  refine wp_iadd d_212_214 ?_
  refine wp_iald d_212_215 (Or.inr (by assumption)) (by omega) (by omega) (fun x_215 e_215 r_215 => ?_)
  refine wp_callV d_212_216 c_212_125 rfl (by rfl) (by rfl) ⟨1, rfl, rfl, by decide⟩ (by first | assumption | exact hF.1 | exact hM1.1 | exact hM.1) (by exact Nat.le_of_ble_eq_true rfl) (by exact Nat.le_of_ble_eq_true rfl) (m_addStop1 hM1 (by rw [e_215, sc1]; exact hx)) (fun v_216 h_216 q_216 => ?_) (fun _ _ q => q.elim)
  obtain ⟨rfl, hr1, hr2, hr3, hr4⟩ := q_216
  have ks2 : kd h_216 s = 200 := by rw [hr1]; exact ks1
  have ls2 : ln h_216 s = L := by rw [hr2]; exact ls1
  have km2 : kd h_216 (w + 154) = 2 := by rw [hr1]; exact hM1.1
  have ko2 : kd h_216 (w + 280) = 101 := by rw [hr1]; exact ko1
  have lo2 : ln h_216 (w + 280) = 1 := by rw [hr2]; exact lo1
  have ho2 : hl h_216 (w + 280) 0 = 0 := by rw [hr3]; exact ho1
  refine wp_istore d_212_219 (by decide) ?_
  refine wp_aload_n d_212_221 (by rfl) ?_
  refine wp_callV d_212_222 c_212_126 rfl (by rfl) (by rfl) ⟨1, rfl, rfl, by decide⟩ (by first | assumption | exact hF.1 | exact hM1.1 | exact hM.1) (by exact Nat.le_of_ble_eq_true rfl) (by exact Nat.le_of_ble_eq_true rfl) (m_thrown km2 hr4) (fun v_222 h_222 q_222 => ?_) (fun _ _ q => q.elim)
  obtain ⟨rfl, rfl⟩ := q_222
  refine wp_iload d_212_225 (by rfl) ?_
  refine wp_icmp_eq (tgt := 232) d_212_227 (by decide) (by omega) (by omega) (fun c_227 => ?_) (fun c_227 => ?_)
  rotate_left
  · exact absurd c_227 (by omega)
  refine wp_iload d_212_232 (by rfl) ?_
  refine wp_if_ne (tgt := 249) d_212_234 (by decide) (by omega) (fun c_234 => ?_) (fun c_234 => ?_)
  · exact absurd c_234 (by omega)
  refine wp_aload_n d_212_237 (by rfl) ?_
  refine wp_iconst d_212_238 ?_
  refine wp_lald d_212_239 (by first | assumption | exact hF.1 | exact hM1.1 | exact hM.1) (by omega) (by omega) ?_
  rw [ho2]
  refine wp_iload d_212_240 (by rfl) ?_
  refine wp_i2l d_212_242 (by omega) ?_
  refine wp_lcmp d_212_243 (by omega) (by omega) ?_
  refine wp_if_eq (tgt := 249) d_212_244 (by decide) (by omega) (fun c_244 => ?_) (fun c_244 => ?_)
  rotate_left
  · exact absurd c_244 (by omega)
  refine wp_goto (tgt := 2538) d_212_249 (by decide) ?_
  refine wp_to [some (vR (some s)), none, none, none, some (vI 0), none, none, none, none] ⟨rfl, rfl, trivial⟩ ?_
  exact l_next ks2 ls2 ⟨by omega, by omega⟩
set_option maxRecDepth 100000 in
set_option maxHeartbeats 4000000 in
theorem lc_1 {g : Hp} {s w : Nat} {L : Int} (G : LG g s w L) (hL : L = 5)  : wp 212 252 [some (vR (some s)), some (vR (some w)), some (vR (some (w + 154))), some (vR (some (w + 280))), some (vI 0), none, none, none, none] [] g QL noX := by
  obtain ⟨ks, ls, hsw, hF, hM, ⟨ko, lo⟩, hn, g1, g2⟩ := G
  refine wp_aload_n d_212_252 (by rfl) ?_
  refine wp_aload_n d_212_253 (by rfl) ?_
  refine wp_iload d_212_254 (by rfl) ?_
  refine wp_iconst d_212_256 ?_
  refine wp_iadd d_212_257 ?_
  refine wp_iald d_212_258 (Or.inr (by assumption)) (by omega) (by omega) (fun x_258 e_258 r_258 => ?_)
  refine wp_aload_n d_212_259 (by rfl) ?_
  refine wp_iload d_212_260 (by rfl) ?_
  refine wp_iconst d_212_262 ?_
  refine wp_iadd d_212_263 ?_
  refine wp_iald d_212_264 (Or.inr (by assumption)) (by omega) (by omega) (fun x_264 e_264 r_264 => ?_)
  refine wp_aload_n d_212_265 (by rfl) ?_
  refine wp_callSW d_212_266 cw_212_129 (by rfl) (by rfl) (by exact Nat.le_of_ble_eq_true rfl) (by exact Nat.le_of_ble_eq_true rfl) (w_setChange hF (by first | assumption | omega | decide) (by first | assumption | omega | decide) (by omega) (by omega)) (fun v_266 h_266 q_266 => ?_)
  obtain ⟨rfl, hR⟩ := q_266
  have hM1 : MF h_266 (w + 154) := hM.kept (fun b h1 h2 => hR.2 b (by omega) (by omega) (by omega))
  have ks1 : kd h_266 s = 200 := (hR.1 s (by omega)).1.trans ks
  have ls1 : ln h_266 s = L := (hR.1 s (by omega)).2.trans ls
  have sc1 : ∀ k, hi h_266 s k = hi g s k := fun k => (hR.2 s (by omega) (Or.inr hsw) (by omega)).2.2.1 k
  refine wp_istore d_212_269 (by decide) ?_
  refine wp_aload_n d_212_271 (by rfl) ?_
  refine wp_aload_n d_212_272 (by rfl) ?_
  refine wp_iload d_212_273 (by rfl) ?_
  refine wp_iconst d_212_275 ?_
  refine wp_iadd d_212_276 ?_
  refine wp_iald d_212_277 (Or.inr (by assumption)) (by omega) (by omega) (fun x_277 e_277 r_277 => ?_)
  refine wp_aload_n d_212_278 (by rfl) ?_
  refine wp_iload d_212_279 (by rfl) ?_
  refine wp_iconst d_212_281 ?_
  refine wp_iadd d_212_282 ?_
  refine wp_iald d_212_283 (Or.inr (by assumption)) (by omega) (by omega) (fun x_283 e_283 r_283 => ?_)
  refine wp_callV d_212_284 c_212_132 rfl (by rfl) (by rfl) ⟨1, rfl, rfl, by decide⟩ (by first | assumption | exact hF.1 | exact hM1.1 | exact hM.1) (by exact Nat.le_of_ble_eq_true rfl) (by exact Nat.le_of_ble_eq_true rfl) (m_setChange hM1.z (by first | assumption | omega | decide) (by first | assumption | omega | decide)) (fun v_284 h_284 q_284 => ?_) (fun _ _ q => q.elim)
  obtain ⟨rfl, hr1, hr2, hr3, hr4⟩ := q_284
  have ks2 : kd h_284 s = 200 := by rw [hr1]; exact ks1
  have ls2 : ln h_284 s = L := by rw [hr2]; exact ls1
  have km2 : kd h_284 (w + 154) = 2 := by rw [hr1]; exact hM1.1
  refine wp_istore d_212_287 (by decide) ?_
  refine wp_aload_n d_212_289 (by rfl) ?_
  refine wp_callV d_212_290 c_212_126 rfl (by rfl) (by rfl) ⟨1, rfl, rfl, by decide⟩ (by first | assumption | exact hF.1 | exact hM1.1 | exact hM.1) (by exact Nat.le_of_ble_eq_true rfl) (by exact Nat.le_of_ble_eq_true rfl) (m_thrown km2 hr4) (fun v_290 h_290 q_290 => ?_) (fun _ _ q => q.elim)
  obtain ⟨rfl, rfl⟩ := q_290
  refine wp_iload d_212_293 (by rfl) ?_
  refine wp_icmp_eq (tgt := 300) d_212_295 (by decide) (by omega) (by omega) (fun c_295 => ?_) (fun c_295 => ?_)
  rotate_left
  · exact absurd c_295 (by omega)
  refine wp_iload d_212_300 (by rfl) ?_
  refine wp_if_ne (tgt := 317) d_212_302 (by decide) (by omega) (fun c_302 => ?_) (fun c_302 => ?_)
  rotate_left
  · exact absurd c_302 (by omega)
  refine wp_goto (tgt := 2538) d_212_317 (by decide) ?_
  refine wp_to [some (vR (some s)), none, none, none, some (vI 0), none, none, none, none] ⟨rfl, rfl, trivial⟩ ?_
  exact l_next ks2 ls2 ⟨by omega, by omega⟩
set_option maxRecDepth 100000 in
set_option maxHeartbeats 4000000 in
theorem lc_2 {g : Hp} {s w : Nat} {L : Int} (G : LG g s w L) (hL : L = 5)  : wp 212 320 [some (vR (some s)), some (vR (some w)), some (vR (some (w + 154))), some (vR (some (w + 280))), some (vI 0), none, none, none, none] [] g QL noX := by
  obtain ⟨ks, ls, hsw, hF, hM, ⟨ko, lo⟩, hn, g1, g2⟩ := G
  refine wp_aload_n d_212_320 (by rfl) ?_
  refine wp_aload_n d_212_321 (by rfl) ?_
  refine wp_iload d_212_322 (by rfl) ?_
  refine wp_iconst d_212_324 ?_
  refine wp_iadd d_212_325 ?_
  refine wp_iald d_212_326 (Or.inr (by assumption)) (by omega) (by omega) (fun x_326 e_326 r_326 => ?_)
  refine wp_aload_n d_212_327 (by rfl) ?_
  refine wp_iload d_212_328 (by rfl) ?_
  refine wp_iconst d_212_330 ?_
  refine wp_iadd d_212_331 ?_
  refine wp_iald d_212_332 (Or.inr (by assumption)) (by omega) (by omega) (fun x_332 e_332 r_332 => ?_)
  refine wp_aload_n d_212_333 (by rfl) ?_
  refine wp_iload d_212_334 (by rfl) ?_
  refine wp_iconst d_212_336 ?_
  refine wp_iadd d_212_337 ?_
  refine wp_iald d_212_338 (Or.inr (by assumption)) (by omega) (by omega) (fun x_338 e_338 r_338 => ?_)
  refine wp_aload_n d_212_339 (by rfl) ?_
  refine wp_callSW d_212_340 cw_212_133 (by rfl) (by rfl) (by exact Nat.le_of_ble_eq_true rfl) (by exact Nat.le_of_ble_eq_true rfl) (w_addFootway hF (by first | assumption | omega | decide) (by first | assumption | omega | decide) (by first | assumption | omega | decide) (by omega) (by omega)) (fun v_340 h_340 q_340 => ?_)
  obtain ⟨rfl, hR⟩ := q_340
  have hM1 : MF h_340 (w + 154) := hM.kept (fun b h1 h2 => hR.2 b (by omega) (by omega) (by omega))
  have ks1 : kd h_340 s = 200 := (hR.1 s (by omega)).1.trans ks
  have ls1 : ln h_340 s = L := (hR.1 s (by omega)).2.trans ls
  have sc1 : ∀ k, hi h_340 s k = hi g s k := fun k => (hR.2 s (by omega) (Or.inr hsw) (by omega)).2.2.1 k
  refine wp_istore d_212_343 (by decide) ?_
  refine wp_aload_n d_212_345 (by rfl) ?_
  refine wp_aload_n d_212_346 (by rfl) ?_
  refine wp_iload d_212_347 (by rfl) ?_
  refine wp_iconst d_212_349 ?_
  refine wp_iadd d_212_350 ?_
  refine wp_iald d_212_351 (Or.inr (by assumption)) (by omega) (by omega) (fun x_351 e_351 r_351 => ?_)
  refine wp_aload_n d_212_352 (by rfl) ?_
  refine wp_iload d_212_353 (by rfl) ?_
  refine wp_iconst d_212_355 ?_
  refine wp_iadd d_212_356 ?_
  refine wp_iald d_212_357 (Or.inr (by assumption)) (by omega) (by omega) (fun x_357 e_357 r_357 => ?_)
  refine wp_aload_n d_212_358 (by rfl) ?_
  refine wp_iload d_212_359 (by rfl) ?_
  refine wp_iconst d_212_361 ?_
  refine wp_iadd d_212_362 ?_
  refine wp_iald d_212_363 (Or.inr (by assumption)) (by omega) (by omega) (fun x_363 e_363 r_363 => ?_)
  refine wp_callV d_212_364 c_212_136 rfl (by rfl) (by rfl) ⟨1, rfl, rfl, by decide⟩ (by first | assumption | exact hF.1 | exact hM1.1 | exact hM.1) (by exact Nat.le_of_ble_eq_true rfl) (by exact Nat.le_of_ble_eq_true rfl) (m_addFootway hM1.z (by first | assumption | omega | decide) (by first | assumption | omega | decide) (by first | assumption | omega | decide)) (fun v_364 h_364 q_364 => ?_) (fun _ _ q => q.elim)
  obtain ⟨rfl, hr1, hr2, hr3, hr4⟩ := q_364
  have ks2 : kd h_364 s = 200 := by rw [hr1]; exact ks1
  have ls2 : ln h_364 s = L := by rw [hr2]; exact ls1
  have km2 : kd h_364 (w + 154) = 2 := by rw [hr1]; exact hM1.1
  refine wp_istore d_212_367 (by decide) ?_
  refine wp_aload_n d_212_369 (by rfl) ?_
  refine wp_callV d_212_370 c_212_126 rfl (by rfl) (by rfl) ⟨1, rfl, rfl, by decide⟩ (by first | assumption | exact hF.1 | exact hM1.1 | exact hM.1) (by exact Nat.le_of_ble_eq_true rfl) (by exact Nat.le_of_ble_eq_true rfl) (m_thrown km2 hr4) (fun v_370 h_370 q_370 => ?_) (fun _ _ q => q.elim)
  obtain ⟨rfl, rfl⟩ := q_370
  refine wp_iload d_212_373 (by rfl) ?_
  refine wp_icmp_eq (tgt := 380) d_212_375 (by decide) (by omega) (by omega) (fun c_375 => ?_) (fun c_375 => ?_)
  rotate_left
  · exact absurd c_375 (by omega)
  refine wp_iload d_212_380 (by rfl) ?_
  refine wp_if_ne (tgt := 397) d_212_382 (by decide) (by omega) (fun c_382 => ?_) (fun c_382 => ?_)
  rotate_left
  · exact absurd c_382 (by omega)
  refine wp_goto (tgt := 2538) d_212_397 (by decide) ?_
  refine wp_to [some (vR (some s)), none, none, none, some (vI 0), none, none, none, none] ⟨rfl, rfl, trivial⟩ ?_
  exact l_next ks2 ls2 ⟨by omega, by omega⟩
set_option maxRecDepth 100000 in
set_option maxHeartbeats 4000000 in
theorem lc_3a {g : Hp} {s w : Nat} {L : Int} (G : LG g s w L) (hL : L = 5) (hx : ¬ (0 ≤ hi g s (0 + 1) ∧ hi g s (0 + 1) ≤ 127)) : wp 212 400 [some (vR (some s)), some (vR (some w)), some (vR (some (w + 154))), some (vR (some (w + 280))), some (vI 0), none, none, none, none] [] g QL noX := by
  obtain ⟨ks, ls, hsw, hF, hM, ⟨ko, lo⟩, hn, g1, g2⟩ := G
  refine wp_aload_n d_212_400 (by rfl) ?_
  refine wp_aload_n d_212_401 (by rfl) ?_
  refine wp_iload d_212_402 (by rfl) ?_
  refine wp_iconst d_212_404 ?_
  refine wp_iadd d_212_405 ?_
  refine wp_iald d_212_406 (Or.inr (by assumption)) (by omega) (by omega) (fun x_406 e_406 r_406 => ?_)
  refine wp_aload_n d_212_407 (by rfl) ?_
  refine wp_iload d_212_408 (by rfl) ?_
  refine wp_iconst d_212_410 ?_
  refine wp_iadd d_212_411 ?_
  refine wp_iald d_212_412 (Or.inr (by assumption)) (by omega) (by omega) (fun x_412 e_412 r_412 => ?_)
  refine wp_aload_n d_212_413 (by rfl) ?_
  refine wp_iload d_212_414 (by rfl) ?_
  refine wp_iconst d_212_416 ?_
  refine wp_iadd d_212_417 ?_
  refine wp_iald d_212_418 (Or.inr (by assumption)) (by omega) (by omega) (fun x_418 e_418 r_418 => ?_)
  refine wp_aload_n d_212_419 (by rfl) ?_
  refine wp_callSW d_212_420 cw_212_137 (by rfl) (by rfl) (by exact Nat.le_of_ble_eq_true rfl) (by exact Nat.le_of_ble_eq_true rfl) (w_addCal0a hF (by assumption) (by assumption) (by assumption) (by simp only [e_406, e_412, e_418]; omega) (by omega) (by omega)) (fun v_420 h_420 q_420 => ?_)
  obtain ⟨rfl, hR⟩ := q_420
  have hM1 : MF h_420 (w + 154) := hM.kept (fun b h1 h2 => hR.2 b (by omega) (by omega) (by omega))
  have ks1 : kd h_420 s = 200 := (hR.1 s (by omega)).1.trans ks
  have ls1 : ln h_420 s = L := (hR.1 s (by omega)).2.trans ls
  have sc1 : ∀ k, hi h_420 s k = hi g s k := fun k => (hR.2 s (by omega) (Or.inr hsw) (by omega)).2.2.1 k
  refine wp_istore d_212_423 (by decide) ?_
  refine wp_aload_n d_212_425 (by rfl) ?_
  refine wp_aload_n d_212_426 (by rfl) ?_
  refine wp_iload d_212_427 (by rfl) ?_
  refine wp_iconst d_212_429 ?_
  refine wp_iadd d_212_430 ?_
  refine wp_iald d_212_431 (Or.inr (by assumption)) (by omega) (by omega) (fun x_431 e_431 r_431 => ?_)
  refine wp_aload_n d_212_432 (by rfl) ?_
  refine wp_iload d_212_433 (by rfl) ?_
  refine wp_iconst d_212_435 ?_
  refine wp_iadd d_212_436 ?_
  refine wp_iald d_212_437 (Or.inr (by assumption)) (by omega) (by omega) (fun x_437 e_437 r_437 => ?_)
  refine wp_aload_n d_212_438 (by rfl) ?_
  refine wp_iload d_212_439 (by rfl) ?_
  refine wp_iconst d_212_441 ?_
  refine wp_iadd d_212_442 ?_
  refine wp_iald d_212_443 (Or.inr (by assumption)) (by omega) (by omega) (fun x_443 e_443 r_443 => ?_)
  refine wp_callV d_212_444 c_212_139 rfl (by rfl) (by rfl) ⟨1, rfl, rfl, by decide⟩ (by first | assumption | exact hF.1 | exact hM1.1 | exact hM.1) (by exact Nat.le_of_ble_eq_true rfl) (by exact Nat.le_of_ble_eq_true rfl) (m_addCal0a hM1.z (by assumption) (by assumption) (by assumption) (by simp only [e_431, e_437, e_443, sc1]; omega)) (fun v_444 h_444 q_444 => ?_) (fun _ _ q => q.elim)
  obtain ⟨rfl, hr1, hr2, hr3, hr4⟩ := q_444
  have ks2 : kd h_444 s = 200 := by rw [hr1]; exact ks1
  have ls2 : ln h_444 s = L := by rw [hr2]; exact ls1
  have km2 : kd h_444 (w + 154) = 2 := by rw [hr1]; exact hM1.1
  refine wp_istore d_212_447 (by decide) ?_
  refine wp_aload_n d_212_449 (by rfl) ?_
  refine wp_callV d_212_450 c_212_126 rfl (by rfl) (by rfl) ⟨1, rfl, rfl, by decide⟩ (by first | assumption | exact hF.1 | exact hM1.1 | exact hM.1) (by exact Nat.le_of_ble_eq_true rfl) (by exact Nat.le_of_ble_eq_true rfl) (m_thrown km2 hr4) (fun v_450 h_450 q_450 => ?_) (fun _ _ q => q.elim)
  obtain ⟨rfl, rfl⟩ := q_450
  refine wp_iload d_212_453 (by rfl) ?_
  refine wp_icmp_eq (tgt := 460) d_212_455 (by decide) (by omega) (by omega) (fun c_455 => ?_) (fun c_455 => ?_)
  rotate_left
  · exact absurd c_455 (by omega)
  refine wp_iload d_212_460 (by rfl) ?_
  refine wp_if_ne (tgt := 477) d_212_462 (by decide) (by omega) (fun c_462 => ?_) (fun c_462 => ?_)
  rotate_left
  · exact absurd c_462 (by omega)
  refine wp_goto (tgt := 2538) d_212_477 (by decide) ?_
  refine wp_to [some (vR (some s)), none, none, none, some (vI 0), none, none, none, none] ⟨rfl, rfl, trivial⟩ ?_
  exact l_next ks2 ls2 ⟨by omega, by omega⟩
set_option maxRecDepth 100000 in
set_option maxHeartbeats 4000000 in
theorem lc_3b {g : Hp} {s w : Nat} {L : Int} (G : LG g s w L) (hL : L = 5) (ha : 0 ≤ hi g s (0 + 1) ∧ hi g s (0 + 1) ≤ 127) (hx : ¬ (0 ≤ hi g s (0 + 2) ∧ hi g s (0 + 2) ≤ 365)) : wp 212 400 [some (vR (some s)), some (vR (some w)), some (vR (some (w + 154))), some (vR (some (w + 280))), some (vI 0), none, none, none, none] [] g QL noX := by
  obtain ⟨ks, ls, hsw, hF, hM, ⟨ko, lo⟩, hn, g1, g2⟩ := G
  refine wp_aload_n d_212_400 (by rfl) ?_
  refine wp_aload_n d_212_401 (by rfl) ?_
  refine wp_iload d_212_402 (by rfl) ?_
  refine wp_iconst d_212_404 ?_
  refine wp_iadd d_212_405 ?_
  refine wp_iald d_212_406 (Or.inr (by assumption)) (by omega) (by omega) (fun x_406 e_406 r_406 => ?_)
  refine wp_aload_n d_212_407 (by rfl) ?_
  refine wp_iload d_212_408 (by rfl) ?_
  refine wp_iconst d_212_410 ?_
  refine wp_iadd d_212_411 ?_
  refine wp_iald d_212_412 (Or.inr (by assumption)) (by omega) (by omega) (fun x_412 e_412 r_412 => ?_)
  refine wp_aload_n d_212_413 (by rfl) ?_
  refine wp_iload d_212_414 (by rfl) ?_
  refine wp_iconst d_212_416 ?_
  refine wp_iadd d_212_417 ?_
  refine wp_iald d_212_418 (Or.inr (by assumption)) (by omega) (by omega) (fun x_418 e_418 r_418 => ?_)
  refine wp_aload_n d_212_419 (by rfl) ?_
  refine wp_callSW d_212_420 cw_212_137 (by rfl) (by rfl) (by exact Nat.le_of_ble_eq_true rfl) (by exact Nat.le_of_ble_eq_true rfl) (w_addCal0b hF (by assumption) (by assumption) (by assumption) (by simp only [e_406, e_412, e_418]; omega) (by simp only [e_406, e_412, e_418]; omega) (by omega) (by omega)) (fun v_420 h_420 q_420 => ?_)
  obtain ⟨rfl, hR⟩ := q_420
  have hM1 : MF h_420 (w + 154) := hM.kept (fun b h1 h2 => hR.2 b (by omega) (by omega) (by omega))
  have ks1 : kd h_420 s = 200 := (hR.1 s (by omega)).1.trans ks
  have ls1 : ln h_420 s = L := (hR.1 s (by omega)).2.trans ls
  have sc1 : ∀ k, hi h_420 s k = hi g s k := fun k => (hR.2 s (by omega) (Or.inr hsw) (by omega)).2.2.1 k
  refine wp_istore d_212_423 (by decide) ?_
  refine wp_aload_n d_212_425 (by rfl) ?_
  refine wp_aload_n d_212_426 (by rfl) ?_
  refine wp_iload d_212_427 (by rfl) ?_
  refine wp_iconst d_212_429 ?_
  refine wp_iadd d_212_430 ?_
  refine wp_iald d_212_431 (Or.inr (by assumption)) (by omega) (by omega) (fun x_431 e_431 r_431 => ?_)
  refine wp_aload_n d_212_432 (by rfl) ?_
  refine wp_iload d_212_433 (by rfl) ?_
  refine wp_iconst d_212_435 ?_
  refine wp_iadd d_212_436 ?_
  refine wp_iald d_212_437 (Or.inr (by assumption)) (by omega) (by omega) (fun x_437 e_437 r_437 => ?_)
  refine wp_aload_n d_212_438 (by rfl) ?_
  refine wp_iload d_212_439 (by rfl) ?_
  refine wp_iconst d_212_441 ?_
  refine wp_iadd d_212_442 ?_
  refine wp_iald d_212_443 (Or.inr (by assumption)) (by omega) (by omega) (fun x_443 e_443 r_443 => ?_)
  refine wp_callV d_212_444 c_212_139 rfl (by rfl) (by rfl) ⟨1, rfl, rfl, by decide⟩ (by first | assumption | exact hF.1 | exact hM1.1 | exact hM.1) (by exact Nat.le_of_ble_eq_true rfl) (by exact Nat.le_of_ble_eq_true rfl) (m_addCal0b hM1.z (by assumption) (by assumption) (by assumption) (by simp only [e_431, e_437, e_443, sc1]; omega) (by simp only [e_431, e_437, e_443, sc1]; omega)) (fun v_444 h_444 q_444 => ?_) (fun _ _ q => q.elim)
  obtain ⟨rfl, hr1, hr2, hr3, hr4⟩ := q_444
  have ks2 : kd h_444 s = 200 := by rw [hr1]; exact ks1
  have ls2 : ln h_444 s = L := by rw [hr2]; exact ls1
  have km2 : kd h_444 (w + 154) = 2 := by rw [hr1]; exact hM1.1
  refine wp_istore d_212_447 (by decide) ?_
  refine wp_aload_n d_212_449 (by rfl) ?_
  refine wp_callV d_212_450 c_212_126 rfl (by rfl) (by rfl) ⟨1, rfl, rfl, by decide⟩ (by first | assumption | exact hF.1 | exact hM1.1 | exact hM.1) (by exact Nat.le_of_ble_eq_true rfl) (by exact Nat.le_of_ble_eq_true rfl) (m_thrown km2 hr4) (fun v_450 h_450 q_450 => ?_) (fun _ _ q => q.elim)
  obtain ⟨rfl, rfl⟩ := q_450
  refine wp_iload d_212_453 (by rfl) ?_
  refine wp_icmp_eq (tgt := 460) d_212_455 (by decide) (by omega) (by omega) (fun c_455 => ?_) (fun c_455 => ?_)
  rotate_left
  · exact absurd c_455 (by omega)
  refine wp_iload d_212_460 (by rfl) ?_
  refine wp_if_ne (tgt := 477) d_212_462 (by decide) (by omega) (fun c_462 => ?_) (fun c_462 => ?_)
  rotate_left
  · exact absurd c_462 (by omega)
  refine wp_goto (tgt := 2538) d_212_477 (by decide) ?_
  refine wp_to [some (vR (some s)), none, none, none, some (vI 0), none, none, none, none] ⟨rfl, rfl, trivial⟩ ?_
  exact l_next ks2 ls2 ⟨by omega, by omega⟩
set_option maxRecDepth 100000 in
set_option maxHeartbeats 4000000 in
theorem lc_3c {g : Hp} {s w : Nat} {L : Int} (G : LG g s w L) (hL : L = 5) (ha : 0 ≤ hi g s (0 + 1) ∧ hi g s (0 + 1) ≤ 127) (hb : 0 ≤ hi g s (0 + 2) ∧ hi g s (0 + 2) ≤ 365) (hx : ¬ (0 ≤ hi g s (0 + 3) ∧ hi g s (0 + 3) ≤ 365)) : wp 212 400 [some (vR (some s)), some (vR (some w)), some (vR (some (w + 154))), some (vR (some (w + 280))), some (vI 0), none, none, none, none] [] g QL noX := by
  obtain ⟨ks, ls, hsw, hF, hM, ⟨ko, lo⟩, hn, g1, g2⟩ := G
  refine wp_aload_n d_212_400 (by rfl) ?_
  refine wp_aload_n d_212_401 (by rfl) ?_
  refine wp_iload d_212_402 (by rfl) ?_
  refine wp_iconst d_212_404 ?_
  refine wp_iadd d_212_405 ?_
  refine wp_iald d_212_406 (Or.inr (by assumption)) (by omega) (by omega) (fun x_406 e_406 r_406 => ?_)
  refine wp_aload_n d_212_407 (by rfl) ?_
  refine wp_iload d_212_408 (by rfl) ?_
  refine wp_iconst d_212_410 ?_
  refine wp_iadd d_212_411 ?_
  refine wp_iald d_212_412 (Or.inr (by assumption)) (by omega) (by omega) (fun x_412 e_412 r_412 => ?_)
  refine wp_aload_n d_212_413 (by rfl) ?_
  refine wp_iload d_212_414 (by rfl) ?_
  refine wp_iconst d_212_416 ?_
  refine wp_iadd d_212_417 ?_
  refine wp_iald d_212_418 (Or.inr (by assumption)) (by omega) (by omega) (fun x_418 e_418 r_418 => ?_)
  refine wp_aload_n d_212_419 (by rfl) ?_
  refine wp_callSW d_212_420 cw_212_137 (by rfl) (by rfl) (by exact Nat.le_of_ble_eq_true rfl) (by exact Nat.le_of_ble_eq_true rfl) (w_addCal0c hF (by assumption) (by assumption) (by assumption) (by simp only [e_406, e_412, e_418]; omega) (by simp only [e_406, e_412, e_418]; omega) (by simp only [e_406, e_412, e_418]; omega) (by omega) (by omega)) (fun v_420 h_420 q_420 => ?_)
  obtain ⟨rfl, hR⟩ := q_420
  have hM1 : MF h_420 (w + 154) := hM.kept (fun b h1 h2 => hR.2 b (by omega) (by omega) (by omega))
  have ks1 : kd h_420 s = 200 := (hR.1 s (by omega)).1.trans ks
  have ls1 : ln h_420 s = L := (hR.1 s (by omega)).2.trans ls
  have sc1 : ∀ k, hi h_420 s k = hi g s k := fun k => (hR.2 s (by omega) (Or.inr hsw) (by omega)).2.2.1 k
  refine wp_istore d_212_423 (by decide) ?_
  refine wp_aload_n d_212_425 (by rfl) ?_
  refine wp_aload_n d_212_426 (by rfl) ?_
  refine wp_iload d_212_427 (by rfl) ?_
  refine wp_iconst d_212_429 ?_
  refine wp_iadd d_212_430 ?_
  refine wp_iald d_212_431 (Or.inr (by assumption)) (by omega) (by omega) (fun x_431 e_431 r_431 => ?_)
  refine wp_aload_n d_212_432 (by rfl) ?_
  refine wp_iload d_212_433 (by rfl) ?_
  refine wp_iconst d_212_435 ?_
  refine wp_iadd d_212_436 ?_
  refine wp_iald d_212_437 (Or.inr (by assumption)) (by omega) (by omega) (fun x_437 e_437 r_437 => ?_)
  refine wp_aload_n d_212_438 (by rfl) ?_
  refine wp_iload d_212_439 (by rfl) ?_
  refine wp_iconst d_212_441 ?_
  refine wp_iadd d_212_442 ?_
  refine wp_iald d_212_443 (Or.inr (by assumption)) (by omega) (by omega) (fun x_443 e_443 r_443 => ?_)
  refine wp_callV d_212_444 c_212_139 rfl (by rfl) (by rfl) ⟨1, rfl, rfl, by decide⟩ (by first | assumption | exact hF.1 | exact hM1.1 | exact hM.1) (by exact Nat.le_of_ble_eq_true rfl) (by exact Nat.le_of_ble_eq_true rfl) (m_addCal0c hM1.z (by assumption) (by assumption) (by assumption) (by simp only [e_431, e_437, e_443, sc1]; omega) (by simp only [e_431, e_437, e_443, sc1]; omega) (by simp only [e_431, e_437, e_443, sc1]; omega)) (fun v_444 h_444 q_444 => ?_) (fun _ _ q => q.elim)
  obtain ⟨rfl, hr1, hr2, hr3, hr4⟩ := q_444
  have ks2 : kd h_444 s = 200 := by rw [hr1]; exact ks1
  have ls2 : ln h_444 s = L := by rw [hr2]; exact ls1
  have km2 : kd h_444 (w + 154) = 2 := by rw [hr1]; exact hM1.1
  refine wp_istore d_212_447 (by decide) ?_
  refine wp_aload_n d_212_449 (by rfl) ?_
  refine wp_callV d_212_450 c_212_126 rfl (by rfl) (by rfl) ⟨1, rfl, rfl, by decide⟩ (by first | assumption | exact hF.1 | exact hM1.1 | exact hM.1) (by exact Nat.le_of_ble_eq_true rfl) (by exact Nat.le_of_ble_eq_true rfl) (m_thrown km2 hr4) (fun v_450 h_450 q_450 => ?_) (fun _ _ q => q.elim)
  obtain ⟨rfl, rfl⟩ := q_450
  refine wp_iload d_212_453 (by rfl) ?_
  refine wp_icmp_eq (tgt := 460) d_212_455 (by decide) (by omega) (by omega) (fun c_455 => ?_) (fun c_455 => ?_)
  rotate_left
  · exact absurd c_455 (by omega)
  refine wp_iload d_212_460 (by rfl) ?_
  refine wp_if_ne (tgt := 477) d_212_462 (by decide) (by omega) (fun c_462 => ?_) (fun c_462 => ?_)
  rotate_left
  · exact absurd c_462 (by omega)
  refine wp_goto (tgt := 2538) d_212_477 (by decide) ?_
  refine wp_to [some (vR (some s)), none, none, none, some (vI 0), none, none, none, none] ⟨rfl, rfl, trivial⟩ ?_
  exact l_next ks2 ls2 ⟨by omega, by omega⟩
set_option maxRecDepth 100000 in
set_option maxHeartbeats 4000000 in
theorem lc_3d {g : Hp} {s w : Nat} {L : Int} (G : LG g s w L) (hL : L = 5) (ha : 0 ≤ hi g s (0 + 1) ∧ hi g s (0 + 1) ≤ 127) (hb : 0 ≤ hi g s (0 + 2) ∧ hi g s (0 + 2) ≤ 365) (hc : 0 ≤ hi g s (0 + 3) ∧ hi g s (0 + 3) ≤ 365) (hx : ¬ hi g s (0 + 2) ≤ hi g s (0 + 3)) : wp 212 400 [some (vR (some s)), some (vR (some w)), some (vR (some (w + 154))), some (vR (some (w + 280))), some (vI 0), none, none, none, none] [] g QL noX := by
  obtain ⟨ks, ls, hsw, hF, hM, ⟨ko, lo⟩, hn, g1, g2⟩ := G
  refine wp_aload_n d_212_400 (by rfl) ?_
  refine wp_aload_n d_212_401 (by rfl) ?_
  refine wp_iload d_212_402 (by rfl) ?_
  refine wp_iconst d_212_404 ?_
  refine wp_iadd d_212_405 ?_
  refine wp_iald d_212_406 (Or.inr (by assumption)) (by omega) (by omega) (fun x_406 e_406 r_406 => ?_)
  refine wp_aload_n d_212_407 (by rfl) ?_
  refine wp_iload d_212_408 (by rfl) ?_
  refine wp_iconst d_212_410 ?_
  refine wp_iadd d_212_411 ?_
  refine wp_iald d_212_412 (Or.inr (by assumption)) (by omega) (by omega) (fun x_412 e_412 r_412 => ?_)
  refine wp_aload_n d_212_413 (by rfl) ?_
  refine wp_iload d_212_414 (by rfl) ?_
  refine wp_iconst d_212_416 ?_
  refine wp_iadd d_212_417 ?_
  refine wp_iald d_212_418 (Or.inr (by assumption)) (by omega) (by omega) (fun x_418 e_418 r_418 => ?_)
  refine wp_aload_n d_212_419 (by rfl) ?_
  refine wp_callSW d_212_420 cw_212_137 (by rfl) (by rfl) (by exact Nat.le_of_ble_eq_true rfl) (by exact Nat.le_of_ble_eq_true rfl) (w_addCal0d hF (by assumption) (by assumption) (by assumption) (by simp only [e_406, e_412, e_418]; omega) (by simp only [e_406, e_412, e_418]; omega) (by simp only [e_406, e_412, e_418]; omega) (by simp only [e_406, e_412, e_418]; omega) (by omega) (by omega)) (fun v_420 h_420 q_420 => ?_)
  obtain ⟨rfl, hR⟩ := q_420
  have hM1 : MF h_420 (w + 154) := hM.kept (fun b h1 h2 => hR.2 b (by omega) (by omega) (by omega))
  have ks1 : kd h_420 s = 200 := (hR.1 s (by omega)).1.trans ks
  have ls1 : ln h_420 s = L := (hR.1 s (by omega)).2.trans ls
  have sc1 : ∀ k, hi h_420 s k = hi g s k := fun k => (hR.2 s (by omega) (Or.inr hsw) (by omega)).2.2.1 k
  refine wp_istore d_212_423 (by decide) ?_
  refine wp_aload_n d_212_425 (by rfl) ?_
  refine wp_aload_n d_212_426 (by rfl) ?_
  refine wp_iload d_212_427 (by rfl) ?_
  refine wp_iconst d_212_429 ?_
  refine wp_iadd d_212_430 ?_
  refine wp_iald d_212_431 (Or.inr (by assumption)) (by omega) (by omega) (fun x_431 e_431 r_431 => ?_)
  refine wp_aload_n d_212_432 (by rfl) ?_
  refine wp_iload d_212_433 (by rfl) ?_
  refine wp_iconst d_212_435 ?_
  refine wp_iadd d_212_436 ?_
  refine wp_iald d_212_437 (Or.inr (by assumption)) (by omega) (by omega) (fun x_437 e_437 r_437 => ?_)
  refine wp_aload_n d_212_438 (by rfl) ?_
  refine wp_iload d_212_439 (by rfl) ?_
  refine wp_iconst d_212_441 ?_
  refine wp_iadd d_212_442 ?_
  refine wp_iald d_212_443 (Or.inr (by assumption)) (by omega) (by omega) (fun x_443 e_443 r_443 => ?_)
  refine wp_callV d_212_444 c_212_139 rfl (by rfl) (by rfl) ⟨1, rfl, rfl, by decide⟩ (by first | assumption | exact hF.1 | exact hM1.1 | exact hM.1) (by exact Nat.le_of_ble_eq_true rfl) (by exact Nat.le_of_ble_eq_true rfl) (m_addCal0c hM1.z (by assumption) (by assumption) (by assumption) (by simp only [e_431, e_437, e_443, sc1]; omega) (by simp only [e_431, e_437, e_443, sc1]; omega) (by simp only [e_431, e_437, e_443, sc1]; omega)) (fun v_444 h_444 q_444 => ?_) (fun _ _ q => q.elim)
  obtain ⟨rfl, hr1, hr2, hr3, hr4⟩ := q_444
  have ks2 : kd h_444 s = 200 := by rw [hr1]; exact ks1
  have ls2 : ln h_444 s = L := by rw [hr2]; exact ls1
  have km2 : kd h_444 (w + 154) = 2 := by rw [hr1]; exact hM1.1
  refine wp_istore d_212_447 (by decide) ?_
  refine wp_aload_n d_212_449 (by rfl) ?_
  refine wp_callV d_212_450 c_212_126 rfl (by rfl) (by rfl) ⟨1, rfl, rfl, by decide⟩ (by first | assumption | exact hF.1 | exact hM1.1 | exact hM.1) (by exact Nat.le_of_ble_eq_true rfl) (by exact Nat.le_of_ble_eq_true rfl) (m_thrown km2 hr4) (fun v_450 h_450 q_450 => ?_) (fun _ _ q => q.elim)
  obtain ⟨rfl, rfl⟩ := q_450
  refine wp_iload d_212_453 (by rfl) ?_
  refine wp_icmp_eq (tgt := 460) d_212_455 (by decide) (by omega) (by omega) (fun c_455 => ?_) (fun c_455 => ?_)
  rotate_left
  · exact absurd c_455 (by omega)
  refine wp_iload d_212_460 (by rfl) ?_
  refine wp_if_ne (tgt := 477) d_212_462 (by decide) (by omega) (fun c_462 => ?_) (fun c_462 => ?_)
  rotate_left
  · exact absurd c_462 (by omega)
  refine wp_goto (tgt := 2538) d_212_477 (by decide) ?_
  refine wp_to [some (vR (some s)), none, none, none, some (vI 0), none, none, none, none] ⟨rfl, rfl, trivial⟩ ?_
  exact l_next ks2 ls2 ⟨by omega, by omega⟩
set_option maxRecDepth 100000 in
set_option maxHeartbeats 4000000 in
theorem lc_3e {g : Hp} {s w : Nat} {L : Int} (G : LG g s w L) (hL : L = 5) (ha : 0 ≤ hi g s (0 + 1) ∧ hi g s (0 + 1) ≤ 127) (hb : 0 ≤ hi g s (0 + 2) ∧ hi g s (0 + 2) ≤ 365) (hc : 0 ≤ hi g s (0 + 3) ∧ hi g s (0 + 3) ≤ 365) (hd : hi g s (0 + 2) ≤ hi g s (0 + 3)) : wp 212 400 [some (vR (some s)), some (vR (some w)), some (vR (some (w + 154))), some (vR (some (w + 280))), some (vI 0), none, none, none, none] [] g QL noX := by
  obtain ⟨ks, ls, hsw, hF, hM, ⟨ko, lo⟩, hn, g1, g2⟩ := G
  refine wp_aload_n d_212_400 (by rfl) ?_
  refine wp_aload_n d_212_401 (by rfl) ?_
  refine wp_iload d_212_402 (by rfl) ?_
  refine wp_iconst d_212_404 ?_
  refine wp_iadd d_212_405 ?_
  refine wp_iald d_212_406 (Or.inr (by assumption)) (by omega) (by omega) (fun x_406 e_406 r_406 => ?_)
  refine wp_aload_n d_212_407 (by rfl) ?_
  refine wp_iload d_212_408 (by rfl) ?_
  refine wp_iconst d_212_410 ?_
  refine wp_iadd d_212_411 ?_
  refine wp_iald d_212_412 (Or.inr (by assumption)) (by omega) (by omega) (fun x_412 e_412 r_412 => ?_)
  refine wp_aload_n d_212_413 (by rfl) ?_
  refine wp_iload d_212_414 (by rfl) ?_
  refine wp_iconst d_212_416 ?_
  refine wp_iadd d_212_417 ?_
  refine wp_iald d_212_418 (Or.inr (by assumption)) (by omega) (by omega) (fun x_418 e_418 r_418 => ?_)
  refine wp_aload_n d_212_419 (by rfl) ?_
  refine wp_callSW d_212_420 cw_212_137 (by rfl) (by rfl) (by exact Nat.le_of_ble_eq_true rfl) (by exact Nat.le_of_ble_eq_true rfl) (w_addCal1 hF (by assumption) (by assumption) (by assumption) (by simp only [e_406, e_412, e_418]; omega) (by simp only [e_406, e_412, e_418]; omega) (by simp only [e_406, e_412, e_418]; omega) (by simp only [e_406, e_412, e_418]; omega) (by omega) (by omega) ko lo (by omega) (by omega)) (fun v_420 h_420 q_420 => ?_)
  obtain ⟨rfl, hR, ko1, lo1, ho1⟩ := q_420
  have hM1 : MF h_420 (w + 154) := hM.kept (fun b h1 h2 => hR.2 b (by omega) (by omega) (by omega))
  have ks1 : kd h_420 s = 200 := (hR.1 s (by omega)).1.trans ks
  have ls1 : ln h_420 s = L := (hR.1 s (by omega)).2.trans ls
  have sc1 : ∀ k, hi h_420 s k = hi g s k := fun k => (hR.2 s (by omega) (Or.inr hsw) (by omega)).2.2.1 k
  refine wp_istore d_212_423 (by decide) ?_
  refine wp_aload_n d_212_425 (by rfl) ?_
  refine wp_aload_n d_212_426 (by rfl) ?_
  refine wp_iload d_212_427 (by rfl) ?_
  refine wp_iconst d_212_429 ?_
  refine wp_iadd d_212_430 ?_
  refine wp_iald d_212_431 (Or.inr (by assumption)) (by omega) (by omega) (fun x_431 e_431 r_431 => ?_)
  refine wp_aload_n d_212_432 (by rfl) ?_
  refine wp_iload d_212_433 (by rfl) ?_
  refine wp_iconst d_212_435 ?_
  refine wp_iadd d_212_436 ?_
  refine wp_iald d_212_437 (Or.inr (by assumption)) (by omega) (by omega) (fun x_437 e_437 r_437 => ?_)
  refine wp_aload_n d_212_438 (by rfl) ?_
  refine wp_iload d_212_439 (by rfl) ?_
  refine wp_iconst d_212_441 ?_
  refine wp_iadd d_212_442 ?_
  refine wp_iald d_212_443 (Or.inr (by assumption)) (by omega) (by omega) (fun x_443 e_443 r_443 => ?_)
  refine wp_callV d_212_444 c_212_139 rfl (by rfl) (by rfl) ⟨1, rfl, rfl, by decide⟩ (by first | assumption | exact hF.1 | exact hM1.1 | exact hM.1) (by exact Nat.le_of_ble_eq_true rfl) (by exact Nat.le_of_ble_eq_true rfl) (m_addCal1 hM1 (by simp only [e_431, e_437, e_443, sc1]; omega) (by simp only [e_431, e_437, e_443, sc1]; omega) (by simp only [e_431, e_437, e_443, sc1]; omega) (by simp only [e_431, e_437, e_443, sc1]; omega)) (fun v_444 h_444 q_444 => ?_) (fun _ _ q => q.elim)
  obtain ⟨rfl, hr1, hr2, hr3, hr4⟩ := q_444
  have ks2 : kd h_444 s = 200 := by rw [hr1]; exact ks1
  have ls2 : ln h_444 s = L := by rw [hr2]; exact ls1
  have km2 : kd h_444 (w + 154) = 2 := by rw [hr1]; exact hM1.1
  have ko2 : kd h_444 (w + 280) = 101 := by rw [hr1]; exact ko1
  have lo2 : ln h_444 (w + 280) = 1 := by rw [hr2]; exact lo1
  have ho2 : hl h_444 (w + 280) 0 = 0 := by rw [hr3]; exact ho1
  refine wp_istore d_212_447 (by decide) ?_
  refine wp_aload_n d_212_449 (by rfl) ?_
  refine wp_callV d_212_450 c_212_126 rfl (by rfl) (by rfl) ⟨1, rfl, rfl, by decide⟩ (by first | assumption | exact hF.1 | exact hM1.1 | exact hM.1) (by exact Nat.le_of_ble_eq_true rfl) (by exact Nat.le_of_ble_eq_true rfl) (m_thrown km2 hr4) (fun v_450 h_450 q_450 => ?_) (fun _ _ q => q.elim)
  obtain ⟨rfl, rfl⟩ := q_450
  refine wp_iload d_212_453 (by rfl) ?_
  refine wp_icmp_eq (tgt := 460) d_212_455 (by decide) (by omega) (by omega) (fun c_455 => ?_) (fun c_455 => ?_)
  rotate_left
  · exact absurd c_455 (by omega)
  refine wp_iload d_212_460 (by rfl) ?_
  refine wp_if_ne (tgt := 477) d_212_462 (by decide) (by omega) (fun c_462 => ?_) (fun c_462 => ?_)
  · exact absurd c_462 (by omega)
  refine wp_aload_n d_212_465 (by rfl) ?_
  refine wp_iconst d_212_466 ?_
  refine wp_lald d_212_467 (by first | assumption | exact hF.1 | exact hM1.1 | exact hM.1) (by omega) (by omega) ?_
  rw [ho2]
  refine wp_iload d_212_468 (by rfl) ?_
  refine wp_i2l d_212_470 (by omega) ?_
  refine wp_lcmp d_212_471 (by omega) (by omega) ?_
  refine wp_if_eq (tgt := 477) d_212_472 (by decide) (by omega) (fun c_472 => ?_) (fun c_472 => ?_)
  rotate_left
  · exact absurd c_472 (by omega)
  refine wp_goto (tgt := 2538) d_212_477 (by decide) ?_
  refine wp_to [some (vR (some s)), none, none, none, some (vI 0), none, none, none, none] ⟨rfl, rfl, trivial⟩ ?_
  exact l_next ks2 ls2 ⟨by omega, by omega⟩
set_option maxRecDepth 100000 in
set_option maxHeartbeats 4000000 in
theorem lc_4 {g : Hp} {s w : Nat} {L : Int} (G : LG g s w L) (hL : L = 5)  : wp 212 480 [some (vR (some s)), some (vR (some w)), some (vR (some (w + 154))), some (vR (some (w + 280))), some (vI 0), none, none, none, none] [] g QL noX := by
  obtain ⟨ks, ls, hsw, hF, hM, ⟨ko, lo⟩, hn, g1, g2⟩ := G
  refine wp_aload_n d_212_480 (by rfl) ?_
  refine wp_aload_n d_212_481 (by rfl) ?_
  refine wp_iload d_212_482 (by rfl) ?_
  refine wp_iconst d_212_484 ?_
  refine wp_iadd d_212_485 ?_
  refine wp_iald d_212_486 (Or.inr (by assumption)) (by omega) (by omega) (fun x_486 e_486 r_486 => ?_)
  refine wp_aload_n d_212_487 (by rfl) ?_
  refine wp_iload d_212_488 (by rfl) ?_
  refine wp_iconst d_212_490 ?_
  refine wp_iadd d_212_491 ?_
  refine wp_iald d_212_492 (Or.inr (by assumption)) (by omega) (by omega) (fun x_492 e_492 r_492 => ?_)
  refine wp_aload_n d_212_493 (by rfl) ?_
  refine wp_iload d_212_494 (by rfl) ?_
  refine wp_iconst d_212_496 ?_
  refine wp_iadd d_212_497 ?_
  refine wp_iald d_212_498 (Or.inr (by assumption)) (by omega) (by omega) (fun x_498 e_498 r_498 => ?_)
  refine wp_if_eq (tgt := 506) d_212_499 (by decide) (by omega) (fun c_499 => ?_) (fun c_499 => ?_)
  · refine wp_iconst d_212_506 ?_
    refine wp_aload_n d_212_507 (by rfl) ?_
    refine wp_callSW d_212_508 cw_212_140 (by rfl) (by rfl) (by exact Nat.le_of_ble_eq_true rfl) (by exact Nat.le_of_ble_eq_true rfl) (w_except hF (by first | assumption | omega | decide) (by first | assumption | omega | decide) (by first | assumption | omega | decide) (by omega) (by omega)) (fun v_508 h_508 q_508 => ?_)
    obtain ⟨rfl, hR⟩ := q_508
    have hM1 : MF h_508 (w + 154) := hM.kept (fun b h1 h2 => hR.2 b (by omega) (by omega) (by omega))
    have ks1 : kd h_508 s = 200 := (hR.1 s (by omega)).1.trans ks
    have ls1 : ln h_508 s = L := (hR.1 s (by omega)).2.trans ls
    have sc1 : ∀ k, hi h_508 s k = hi g s k := fun k => (hR.2 s (by omega) (Or.inr hsw) (by omega)).2.2.1 k
    refine wp_istore d_212_511 (by decide) ?_
    refine wp_aload_n d_212_513 (by rfl) ?_
    refine wp_aload_n d_212_514 (by rfl) ?_
    refine wp_iload d_212_515 (by rfl) ?_
    refine wp_iconst d_212_517 ?_
    refine wp_iadd d_212_518 ?_
    refine wp_iald d_212_519 (Or.inr (by assumption)) (by omega) (by omega) (fun x_519 e_519 r_519 => ?_)
    refine wp_aload_n d_212_520 (by rfl) ?_
    refine wp_iload d_212_521 (by rfl) ?_
    refine wp_iconst d_212_523 ?_
    refine wp_iadd d_212_524 ?_
    refine wp_iald d_212_525 (Or.inr (by assumption)) (by omega) (by omega) (fun x_525 e_525 r_525 => ?_)
    refine wp_aload_n d_212_526 (by rfl) ?_
    refine wp_iload d_212_527 (by rfl) ?_
    refine wp_iconst d_212_529 ?_
    refine wp_iadd d_212_530 ?_
    refine wp_iald d_212_531 (Or.inr (by assumption)) (by omega) (by omega) (fun x_531 e_531 r_531 => ?_)
    refine wp_if_eq (tgt := 539) d_212_532 (by decide) (by omega) (fun c_532 => ?_) (fun c_532 => ?_)
    · refine wp_iconst d_212_539 ?_
      refine wp_callV d_212_540 c_212_143 rfl (by rfl) (by rfl) ⟨1, rfl, rfl, by decide⟩ (by first | assumption | exact hF.1 | exact hM1.1 | exact hM.1) (by exact Nat.le_of_ble_eq_true rfl) (by exact Nat.le_of_ble_eq_true rfl) (m_except hM1.z (by first | assumption | omega | decide) (by first | assumption | omega | decide) (by first | assumption | omega | decide)) (fun v_540 h_540 q_540 => ?_) (fun _ _ q => q.elim)
      obtain ⟨rfl, hr1, hr2, hr3, hr4⟩ := q_540
      have ks2 : kd h_540 s = 200 := by rw [hr1]; exact ks1
      have ls2 : ln h_540 s = L := by rw [hr2]; exact ls1
      have km2 : kd h_540 (w + 154) = 2 := by rw [hr1]; exact hM1.1
      refine wp_istore d_212_543 (by decide) ?_
      refine wp_aload_n d_212_545 (by rfl) ?_
      refine wp_callV d_212_546 c_212_126 rfl (by rfl) (by rfl) ⟨1, rfl, rfl, by decide⟩ (by first | assumption | exact hF.1 | exact hM1.1 | exact hM.1) (by exact Nat.le_of_ble_eq_true rfl) (by exact Nat.le_of_ble_eq_true rfl) (m_thrown km2 hr4) (fun v_546 h_546 q_546 => ?_) (fun _ _ q => q.elim)
      obtain ⟨rfl, rfl⟩ := q_546
      refine wp_iload d_212_549 (by rfl) ?_
      refine wp_icmp_eq (tgt := 556) d_212_551 (by decide) (by omega) (by omega) (fun c_551 => ?_) (fun c_551 => ?_)
      rotate_left
      · exact absurd c_551 (by omega)
      refine wp_iload d_212_556 (by rfl) ?_
      refine wp_if_ne (tgt := 580) d_212_558 (by decide) (by omega) (fun c_558 => ?_) (fun c_558 => ?_)
      rotate_left
      · exact absurd c_558 (by omega)
      refine wp_goto (tgt := 2538) d_212_580 (by decide) ?_
      refine wp_to [some (vR (some s)), none, none, none, some (vI 0), none, none, none, none] ⟨rfl, rfl, trivial⟩ ?_
      exact l_next ks2 ls2 ⟨by omega, by omega⟩
    · refine wp_iconst d_212_535 ?_
      refine wp_goto (tgt := 540) d_212_536 (by decide) ?_
      refine wp_callV d_212_540 c_212_143 rfl (by rfl) (by rfl) ⟨1, rfl, rfl, by decide⟩ (by first | assumption | exact hF.1 | exact hM1.1 | exact hM.1) (by exact Nat.le_of_ble_eq_true rfl) (by exact Nat.le_of_ble_eq_true rfl) (m_except hM1.z (by first | assumption | omega | decide) (by first | assumption | omega | decide) (by first | assumption | omega | decide)) (fun v_540 h_540 q_540 => ?_) (fun _ _ q => q.elim)
      obtain ⟨rfl, hr1, hr2, hr3, hr4⟩ := q_540
      have ks2 : kd h_540 s = 200 := by rw [hr1]; exact ks1
      have ls2 : ln h_540 s = L := by rw [hr2]; exact ls1
      have km2 : kd h_540 (w + 154) = 2 := by rw [hr1]; exact hM1.1
      refine wp_istore d_212_543 (by decide) ?_
      refine wp_aload_n d_212_545 (by rfl) ?_
      refine wp_callV d_212_546 c_212_126 rfl (by rfl) (by rfl) ⟨1, rfl, rfl, by decide⟩ (by first | assumption | exact hF.1 | exact hM1.1 | exact hM.1) (by exact Nat.le_of_ble_eq_true rfl) (by exact Nat.le_of_ble_eq_true rfl) (m_thrown km2 hr4) (fun v_546 h_546 q_546 => ?_) (fun _ _ q => q.elim)
      obtain ⟨rfl, rfl⟩ := q_546
      refine wp_iload d_212_549 (by rfl) ?_
      refine wp_icmp_eq (tgt := 556) d_212_551 (by decide) (by omega) (by omega) (fun c_551 => ?_) (fun c_551 => ?_)
      rotate_left
      · exact absurd c_551 (by omega)
      refine wp_iload d_212_556 (by rfl) ?_
      refine wp_if_ne (tgt := 580) d_212_558 (by decide) (by omega) (fun c_558 => ?_) (fun c_558 => ?_)
      rotate_left
      · exact absurd c_558 (by omega)
      refine wp_goto (tgt := 2538) d_212_580 (by decide) ?_
      refine wp_to [some (vR (some s)), none, none, none, some (vI 0), none, none, none, none] ⟨rfl, rfl, trivial⟩ ?_
      exact l_next ks2 ls2 ⟨by omega, by omega⟩
  · refine wp_iconst d_212_502 ?_
    refine wp_goto (tgt := 507) d_212_503 (by decide) ?_
    refine wp_aload_n d_212_507 (by rfl) ?_
    refine wp_callSW d_212_508 cw_212_140 (by rfl) (by rfl) (by exact Nat.le_of_ble_eq_true rfl) (by exact Nat.le_of_ble_eq_true rfl) (w_except hF (by first | assumption | omega | decide) (by first | assumption | omega | decide) (by first | assumption | omega | decide) (by omega) (by omega)) (fun v_508 h_508 q_508 => ?_)
    obtain ⟨rfl, hR⟩ := q_508
    have hM1 : MF h_508 (w + 154) := hM.kept (fun b h1 h2 => hR.2 b (by omega) (by omega) (by omega))
    have ks1 : kd h_508 s = 200 := (hR.1 s (by omega)).1.trans ks
    have ls1 : ln h_508 s = L := (hR.1 s (by omega)).2.trans ls
    have sc1 : ∀ k, hi h_508 s k = hi g s k := fun k => (hR.2 s (by omega) (Or.inr hsw) (by omega)).2.2.1 k
    refine wp_istore d_212_511 (by decide) ?_
    refine wp_aload_n d_212_513 (by rfl) ?_
    refine wp_aload_n d_212_514 (by rfl) ?_
    refine wp_iload d_212_515 (by rfl) ?_
    refine wp_iconst d_212_517 ?_
    refine wp_iadd d_212_518 ?_
    refine wp_iald d_212_519 (Or.inr (by assumption)) (by omega) (by omega) (fun x_519 e_519 r_519 => ?_)
    refine wp_aload_n d_212_520 (by rfl) ?_
    refine wp_iload d_212_521 (by rfl) ?_
    refine wp_iconst d_212_523 ?_
    refine wp_iadd d_212_524 ?_
    refine wp_iald d_212_525 (Or.inr (by assumption)) (by omega) (by omega) (fun x_525 e_525 r_525 => ?_)
    refine wp_aload_n d_212_526 (by rfl) ?_
    refine wp_iload d_212_527 (by rfl) ?_
    refine wp_iconst d_212_529 ?_
    refine wp_iadd d_212_530 ?_
    refine wp_iald d_212_531 (Or.inr (by assumption)) (by omega) (by omega) (fun x_531 e_531 r_531 => ?_)
    refine wp_if_eq (tgt := 539) d_212_532 (by decide) (by omega) (fun c_532 => ?_) (fun c_532 => ?_)
    · refine wp_iconst d_212_539 ?_
      refine wp_callV d_212_540 c_212_143 rfl (by rfl) (by rfl) ⟨1, rfl, rfl, by decide⟩ (by first | assumption | exact hF.1 | exact hM1.1 | exact hM.1) (by exact Nat.le_of_ble_eq_true rfl) (by exact Nat.le_of_ble_eq_true rfl) (m_except hM1.z (by first | assumption | omega | decide) (by first | assumption | omega | decide) (by first | assumption | omega | decide)) (fun v_540 h_540 q_540 => ?_) (fun _ _ q => q.elim)
      obtain ⟨rfl, hr1, hr2, hr3, hr4⟩ := q_540
      have ks2 : kd h_540 s = 200 := by rw [hr1]; exact ks1
      have ls2 : ln h_540 s = L := by rw [hr2]; exact ls1
      have km2 : kd h_540 (w + 154) = 2 := by rw [hr1]; exact hM1.1
      refine wp_istore d_212_543 (by decide) ?_
      refine wp_aload_n d_212_545 (by rfl) ?_
      refine wp_callV d_212_546 c_212_126 rfl (by rfl) (by rfl) ⟨1, rfl, rfl, by decide⟩ (by first | assumption | exact hF.1 | exact hM1.1 | exact hM.1) (by exact Nat.le_of_ble_eq_true rfl) (by exact Nat.le_of_ble_eq_true rfl) (m_thrown km2 hr4) (fun v_546 h_546 q_546 => ?_) (fun _ _ q => q.elim)
      obtain ⟨rfl, rfl⟩ := q_546
      refine wp_iload d_212_549 (by rfl) ?_
      refine wp_icmp_eq (tgt := 556) d_212_551 (by decide) (by omega) (by omega) (fun c_551 => ?_) (fun c_551 => ?_)
      rotate_left
      · exact absurd c_551 (by omega)
      refine wp_iload d_212_556 (by rfl) ?_
      refine wp_if_ne (tgt := 580) d_212_558 (by decide) (by omega) (fun c_558 => ?_) (fun c_558 => ?_)
      rotate_left
      · exact absurd c_558 (by omega)
      refine wp_goto (tgt := 2538) d_212_580 (by decide) ?_
      refine wp_to [some (vR (some s)), none, none, none, some (vI 0), none, none, none, none] ⟨rfl, rfl, trivial⟩ ?_
      exact l_next ks2 ls2 ⟨by omega, by omega⟩
    · refine wp_iconst d_212_535 ?_
      refine wp_goto (tgt := 540) d_212_536 (by decide) ?_
      refine wp_callV d_212_540 c_212_143 rfl (by rfl) (by rfl) ⟨1, rfl, rfl, by decide⟩ (by first | assumption | exact hF.1 | exact hM1.1 | exact hM.1) (by exact Nat.le_of_ble_eq_true rfl) (by exact Nat.le_of_ble_eq_true rfl) (m_except hM1.z (by first | assumption | omega | decide) (by first | assumption | omega | decide) (by first | assumption | omega | decide)) (fun v_540 h_540 q_540 => ?_) (fun _ _ q => q.elim)
      obtain ⟨rfl, hr1, hr2, hr3, hr4⟩ := q_540
      have ks2 : kd h_540 s = 200 := by rw [hr1]; exact ks1
      have ls2 : ln h_540 s = L := by rw [hr2]; exact ls1
      have km2 : kd h_540 (w + 154) = 2 := by rw [hr1]; exact hM1.1
      refine wp_istore d_212_543 (by decide) ?_
      refine wp_aload_n d_212_545 (by rfl) ?_
      refine wp_callV d_212_546 c_212_126 rfl (by rfl) (by rfl) ⟨1, rfl, rfl, by decide⟩ (by first | assumption | exact hF.1 | exact hM1.1 | exact hM.1) (by exact Nat.le_of_ble_eq_true rfl) (by exact Nat.le_of_ble_eq_true rfl) (m_thrown km2 hr4) (fun v_546 h_546 q_546 => ?_) (fun _ _ q => q.elim)
      obtain ⟨rfl, rfl⟩ := q_546
      refine wp_iload d_212_549 (by rfl) ?_
      refine wp_icmp_eq (tgt := 556) d_212_551 (by decide) (by omega) (by omega) (fun c_551 => ?_) (fun c_551 => ?_)
      rotate_left
      · exact absurd c_551 (by omega)
      refine wp_iload d_212_556 (by rfl) ?_
      refine wp_if_ne (tgt := 580) d_212_558 (by decide) (by omega) (fun c_558 => ?_) (fun c_558 => ?_)
      rotate_left
      · exact absurd c_558 (by omega)
      refine wp_goto (tgt := 2538) d_212_580 (by decide) ?_
      refine wp_to [some (vR (some s)), none, none, none, some (vI 0), none, none, none, none] ⟨rfl, rfl, trivial⟩ ?_
      exact l_next ks2 ls2 ⟨by omega, by omega⟩
set_option maxRecDepth 100000 in
set_option maxHeartbeats 4000000 in
theorem lc_5 {g : Hp} {s w : Nat} {L : Int} (G : LG g s w L) (hL : L = 5)  : wp 212 583 [some (vR (some s)), some (vR (some w)), some (vR (some (w + 154))), some (vR (some (w + 280))), some (vI 0), none, none, none, none] [] g QL noX := by
  obtain ⟨ks, ls, hsw, hF, hM, ⟨ko, lo⟩, hn, g1, g2⟩ := G
  refine wp_aload_n d_212_583 (by rfl) ?_
  refine wp_aload_n d_212_584 (by rfl) ?_
  refine wp_iload d_212_585 (by rfl) ?_
  refine wp_iconst d_212_587 ?_
  refine wp_iadd d_212_588 ?_
  refine wp_iald d_212_589 (Or.inr (by assumption)) (by omega) (by omega) (fun x_589 e_589 r_589 => ?_)
  refine wp_aload_n d_212_590 (by rfl) ?_
  refine wp_iload d_212_591 (by rfl) ?_
  refine wp_iconst d_212_593 ?_
  refine wp_iadd d_212_594 ?_
  refine wp_iald d_212_595 (Or.inr (by assumption)) (by omega) (by omega) (fun x_595 e_595 r_595 => ?_)
  refine wp_aload_n d_212_596 (by rfl) ?_
  refine wp_callSW d_212_597 cw_212_144 (by rfl) (by rfl) (by exact Nat.le_of_ble_eq_true rfl) (by exact Nat.le_of_ble_eq_true rfl) (w_runsOn hF (by first | assumption | omega | decide) (by first | assumption | omega | decide) (by omega) (by omega)) (fun v_597 h_597 q_597 => ?_)
  obtain ⟨rfl, hR⟩ := q_597
  have hM1 : MF h_597 (w + 154) := hM.kept (fun b h1 h2 => hR.2 b (by omega) (by omega) (by omega))
  have ks1 : kd h_597 s = 200 := (hR.1 s (by omega)).1.trans ks
  have ls1 : ln h_597 s = L := (hR.1 s (by omega)).2.trans ls
  have sc1 : ∀ k, hi h_597 s k = hi g s k := fun k => (hR.2 s (by omega) (Or.inr hsw) (by omega)).2.2.1 k
  refine wp_istore d_212_600 (by decide) ?_
  refine wp_aload_n d_212_602 (by rfl) ?_
  refine wp_aload_n d_212_603 (by rfl) ?_
  refine wp_iload d_212_604 (by rfl) ?_
  refine wp_iconst d_212_606 ?_
  refine wp_iadd d_212_607 ?_
  refine wp_iald d_212_608 (Or.inr (by assumption)) (by omega) (by omega) (fun x_608 e_608 r_608 => ?_)
  refine wp_aload_n d_212_609 (by rfl) ?_
  refine wp_iload d_212_610 (by rfl) ?_
  refine wp_iconst d_212_612 ?_
  refine wp_iadd d_212_613 ?_
  refine wp_iald d_212_614 (Or.inr (by assumption)) (by omega) (by omega) (fun x_614 e_614 r_614 => ?_)
  refine wp_callV d_212_615 c_212_146 rfl (by rfl) (by rfl) ⟨1, rfl, rfl, by decide⟩ (by first | assumption | exact hF.1 | exact hM1.1 | exact hM.1) (by exact Nat.le_of_ble_eq_true rfl) (by exact Nat.le_of_ble_eq_true rfl) (m_runsOn hM1.z (by first | assumption | omega | decide) (by first | assumption | omega | decide)) (fun v_615 h_615 q_615 => ?_) (fun _ _ q => q.elim)
  obtain ⟨rfl, hr1, hr2, hr3, hr4⟩ := q_615
  have ks2 : kd h_615 s = 200 := by rw [hr1]; exact ks1
  have ls2 : ln h_615 s = L := by rw [hr2]; exact ls1
  have km2 : kd h_615 (w + 154) = 2 := by rw [hr1]; exact hM1.1
  refine wp_istore d_212_618 (by decide) ?_
  refine wp_aload_n d_212_620 (by rfl) ?_
  refine wp_callV d_212_621 c_212_126 rfl (by rfl) (by rfl) ⟨1, rfl, rfl, by decide⟩ (by first | assumption | exact hF.1 | exact hM1.1 | exact hM.1) (by exact Nat.le_of_ble_eq_true rfl) (by exact Nat.le_of_ble_eq_true rfl) (m_thrown km2 hr4) (fun v_621 h_621 q_621 => ?_) (fun _ _ q => q.elim)
  obtain ⟨rfl, rfl⟩ := q_621
  refine wp_iload d_212_624 (by rfl) ?_
  refine wp_icmp_eq (tgt := 631) d_212_626 (by decide) (by omega) (by omega) (fun c_626 => ?_) (fun c_626 => ?_)
  rotate_left
  · exact absurd c_626 (by omega)
  refine wp_iload d_212_631 (by rfl) ?_
  refine wp_if_ne (tgt := 655) d_212_633 (by decide) (by omega) (fun c_633 => ?_) (fun c_633 => ?_)
  rotate_left
  · exact absurd c_633 (by omega)
  refine wp_goto (tgt := 2538) d_212_655 (by decide) ?_
  refine wp_to [some (vR (some s)), none, none, none, some (vI 0), none, none, none, none] ⟨rfl, rfl, trivial⟩ ?_
  exact l_next ks2 ls2 ⟨by omega, by omega⟩
set_option maxRecDepth 100000 in
set_option maxHeartbeats 4000000 in
theorem lc_6 {g : Hp} {s w : Nat} {L : Int} (G : LG g s w L) (hL : L = 5)  : wp 212 658 [some (vR (some s)), some (vR (some w)), some (vR (some (w + 154))), some (vR (some (w + 280))), some (vI 0), none, none, none, none] [] g QL noX := by
  obtain ⟨ks, ls, hsw, hF, hM, ⟨ko, lo⟩, hn, g1, g2⟩ := G
  refine wp_aload_n d_212_658 (by rfl) ?_
  refine wp_aload_n d_212_659 (by rfl) ?_
  refine wp_iload d_212_660 (by rfl) ?_
  refine wp_iconst d_212_662 ?_
  refine wp_iadd d_212_663 ?_
  refine wp_iald d_212_664 (Or.inr (by assumption)) (by omega) (by omega) (fun x_664 e_664 r_664 => ?_)
  refine wp_aload_n d_212_665 (by rfl) ?_
  refine wp_iload d_212_666 (by rfl) ?_
  refine wp_iconst d_212_668 ?_
  refine wp_iadd d_212_669 ?_
  refine wp_iald d_212_670 (Or.inr (by assumption)) (by omega) (by omega) (fun x_670 e_670 r_670 => ?_)
  refine wp_aload_n d_212_671 (by rfl) ?_
  refine wp_iload d_212_672 (by rfl) ?_
  refine wp_iconst d_212_674 ?_
  refine wp_iadd d_212_675 ?_
  refine wp_iald d_212_676 (Or.inr (by assumption)) (by omega) (by omega) (fun x_676 e_676 r_676 => ?_)
  refine wp_aload_n d_212_677 (by rfl) ?_
  refine wp_iload d_212_678 (by rfl) ?_
  refine wp_iconst d_212_680 ?_
  refine wp_iadd d_212_681 ?_
  refine wp_iald d_212_682 (Or.inr (by assumption)) (by omega) (by omega) (fun x_682 e_682 r_682 => ?_)
  refine wp_aload_n d_212_683 (by rfl) ?_
  refine wp_callSW d_212_684 cw_212_147 (by rfl) (by rfl) (by exact Nat.le_of_ble_eq_true rfl) (by exact Nat.le_of_ble_eq_true rfl) (w_addTrip hF (by first | assumption | omega | decide) (by first | assumption | omega | decide) (by first | assumption | omega | decide) (by first | assumption | omega | decide) (by omega) (by omega)) (fun v_684 h_684 q_684 => ?_)
  obtain ⟨rfl, hR⟩ := q_684
  have hM1 : MF h_684 (w + 154) := hM.kept (fun b h1 h2 => hR.2 b (by omega) (by omega) (by omega))
  have ks1 : kd h_684 s = 200 := (hR.1 s (by omega)).1.trans ks
  have ls1 : ln h_684 s = L := (hR.1 s (by omega)).2.trans ls
  have sc1 : ∀ k, hi h_684 s k = hi g s k := fun k => (hR.2 s (by omega) (Or.inr hsw) (by omega)).2.2.1 k
  refine wp_istore d_212_687 (by decide) ?_
  refine wp_aload_n d_212_689 (by rfl) ?_
  refine wp_aload_n d_212_690 (by rfl) ?_
  refine wp_iload d_212_691 (by rfl) ?_
  refine wp_iconst d_212_693 ?_
  refine wp_iadd d_212_694 ?_
  refine wp_iald d_212_695 (Or.inr (by assumption)) (by omega) (by omega) (fun x_695 e_695 r_695 => ?_)
  refine wp_aload_n d_212_696 (by rfl) ?_
  refine wp_iload d_212_697 (by rfl) ?_
  refine wp_iconst d_212_699 ?_
  refine wp_iadd d_212_700 ?_
  refine wp_iald d_212_701 (Or.inr (by assumption)) (by omega) (by omega) (fun x_701 e_701 r_701 => ?_)
  refine wp_aload_n d_212_702 (by rfl) ?_
  refine wp_iload d_212_703 (by rfl) ?_
  refine wp_iconst d_212_705 ?_
  refine wp_iadd d_212_706 ?_
  refine wp_iald d_212_707 (Or.inr (by assumption)) (by omega) (by omega) (fun x_707 e_707 r_707 => ?_)
  refine wp_aload_n d_212_708 (by rfl) ?_
  refine wp_iload d_212_709 (by rfl) ?_
  refine wp_iconst d_212_711 ?_
  refine wp_iadd d_212_712 ?_
  refine wp_iald d_212_713 (Or.inr (by assumption)) (by omega) (by omega) (fun x_713 e_713 r_713 => ?_)
  refine wp_callV d_212_714 c_212_150 rfl (by rfl) (by rfl) ⟨1, rfl, rfl, by decide⟩ (by first | assumption | exact hF.1 | exact hM1.1 | exact hM.1) (by exact Nat.le_of_ble_eq_true rfl) (by exact Nat.le_of_ble_eq_true rfl) (m_addTrip hM1.z (by first | assumption | omega | decide) (by first | assumption | omega | decide) (by first | assumption | omega | decide) (by first | assumption | omega | decide)) (fun v_714 h_714 q_714 => ?_) (fun _ _ q => q.elim)
  obtain ⟨rfl, hr1, hr2, hr3, hr4⟩ := q_714
  have ks2 : kd h_714 s = 200 := by rw [hr1]; exact ks1
  have ls2 : ln h_714 s = L := by rw [hr2]; exact ls1
  have km2 : kd h_714 (w + 154) = 2 := by rw [hr1]; exact hM1.1
  refine wp_istore d_212_717 (by decide) ?_
  refine wp_aload_n d_212_719 (by rfl) ?_
  refine wp_callV d_212_720 c_212_126 rfl (by rfl) (by rfl) ⟨1, rfl, rfl, by decide⟩ (by first | assumption | exact hF.1 | exact hM1.1 | exact hM.1) (by exact Nat.le_of_ble_eq_true rfl) (by exact Nat.le_of_ble_eq_true rfl) (m_thrown km2 hr4) (fun v_720 h_720 q_720 => ?_) (fun _ _ q => q.elim)
  obtain ⟨rfl, rfl⟩ := q_720
  refine wp_iload d_212_723 (by rfl) ?_
  refine wp_icmp_eq (tgt := 730) d_212_725 (by decide) (by omega) (by omega) (fun c_725 => ?_) (fun c_725 => ?_)
  rotate_left
  · exact absurd c_725 (by omega)
  refine wp_iload d_212_730 (by rfl) ?_
  refine wp_if_ne (tgt := 747) d_212_732 (by decide) (by omega) (fun c_732 => ?_) (fun c_732 => ?_)
  rotate_left
  · exact absurd c_732 (by omega)
  refine wp_goto (tgt := 2538) d_212_747 (by decide) ?_
  refine wp_to [some (vR (some s)), none, none, none, some (vI 0), none, none, none, none] ⟨rfl, rfl, trivial⟩ ?_
  exact l_next ks2 ls2 ⟨by omega, by omega⟩
set_option maxRecDepth 100000 in
set_option maxHeartbeats 4000000 in
theorem lc_7 {g : Hp} {s w : Nat} {L : Int} (G : LG g s w L) (hL : L = 5)  : wp 212 750 [some (vR (some s)), some (vR (some w)), some (vR (some (w + 154))), some (vR (some (w + 280))), some (vI 0), none, none, none, none] [] g QL noX := by
  obtain ⟨ks, ls, hsw, hF, hM, ⟨ko, lo⟩, hn, g1, g2⟩ := G
  refine wp_aload_n d_212_750 (by rfl) ?_
  refine wp_aload_n d_212_751 (by rfl) ?_
  refine wp_iload d_212_752 (by rfl) ?_
  refine wp_iconst d_212_754 ?_
  refine wp_iadd d_212_755 ?_
  refine wp_iald d_212_756 (Or.inr (by assumption)) (by omega) (by omega) (fun x_756 e_756 r_756 => ?_)
  refine wp_aload_n d_212_757 (by rfl) ?_
  refine wp_iload d_212_758 (by rfl) ?_
  refine wp_iconst d_212_760 ?_
  refine wp_iadd d_212_761 ?_
  refine wp_iald d_212_762 (Or.inr (by assumption)) (by omega) (by omega) (fun x_762 e_762 r_762 => ?_)
  refine wp_aload_n d_212_763 (by rfl) ?_
  refine wp_iload d_212_764 (by rfl) ?_
  refine wp_iconst d_212_766 ?_
  refine wp_iadd d_212_767 ?_
  refine wp_iald d_212_768 (Or.inr (by assumption)) (by omega) (by omega) (fun x_768 e_768 r_768 => ?_)
  refine wp_aload_n d_212_769 (by rfl) ?_
  refine wp_iload d_212_770 (by rfl) ?_
  refine wp_iconst d_212_772 ?_
  refine wp_iadd d_212_773 ?_
  refine wp_iald d_212_774 (Or.inr (by assumption)) (by omega) (by omega) (fun x_774 e_774 r_774 => ?_)
  refine wp_aload_n d_212_775 (by rfl) ?_
  refine wp_callSW d_212_776 cw_212_151 (by rfl) (by rfl) (by exact Nat.le_of_ble_eq_true rfl) (by exact Nat.le_of_ble_eq_true rfl) (w_addCall hF (by first | assumption | omega | decide) (by first | assumption | omega | decide) (by first | assumption | omega | decide) (by first | assumption | omega | decide) (by omega) (by omega)) (fun v_776 h_776 q_776 => ?_)
  obtain ⟨rfl, hR⟩ := q_776
  have hM1 : MF h_776 (w + 154) := hM.kept (fun b h1 h2 => hR.2 b (by omega) (by omega) (by omega))
  have ks1 : kd h_776 s = 200 := (hR.1 s (by omega)).1.trans ks
  have ls1 : ln h_776 s = L := (hR.1 s (by omega)).2.trans ls
  have sc1 : ∀ k, hi h_776 s k = hi g s k := fun k => (hR.2 s (by omega) (Or.inr hsw) (by omega)).2.2.1 k
  refine wp_istore d_212_779 (by decide) ?_
  refine wp_aload_n d_212_781 (by rfl) ?_
  refine wp_aload_n d_212_782 (by rfl) ?_
  refine wp_iload d_212_783 (by rfl) ?_
  refine wp_iconst d_212_785 ?_
  refine wp_iadd d_212_786 ?_
  refine wp_iald d_212_787 (Or.inr (by assumption)) (by omega) (by omega) (fun x_787 e_787 r_787 => ?_)
  refine wp_aload_n d_212_788 (by rfl) ?_
  refine wp_iload d_212_789 (by rfl) ?_
  refine wp_iconst d_212_791 ?_
  refine wp_iadd d_212_792 ?_
  refine wp_iald d_212_793 (Or.inr (by assumption)) (by omega) (by omega) (fun x_793 e_793 r_793 => ?_)
  refine wp_aload_n d_212_794 (by rfl) ?_
  refine wp_iload d_212_795 (by rfl) ?_
  refine wp_iconst d_212_797 ?_
  refine wp_iadd d_212_798 ?_
  refine wp_iald d_212_799 (Or.inr (by assumption)) (by omega) (by omega) (fun x_799 e_799 r_799 => ?_)
  refine wp_aload_n d_212_800 (by rfl) ?_
  refine wp_iload d_212_801 (by rfl) ?_
  refine wp_iconst d_212_803 ?_
  refine wp_iadd d_212_804 ?_
  refine wp_iald d_212_805 (Or.inr (by assumption)) (by omega) (by omega) (fun x_805 e_805 r_805 => ?_)
  refine wp_callV d_212_806 c_212_153 rfl (by rfl) (by rfl) ⟨1, rfl, rfl, by decide⟩ (by first | assumption | exact hF.1 | exact hM1.1 | exact hM.1) (by exact Nat.le_of_ble_eq_true rfl) (by exact Nat.le_of_ble_eq_true rfl) (m_addCall hM1.z (by first | assumption | omega | decide) (by first | assumption | omega | decide) (by first | assumption | omega | decide) (by first | assumption | omega | decide)) (fun v_806 h_806 q_806 => ?_) (fun _ _ q => q.elim)
  obtain ⟨rfl, hr1, hr2, hr3, hr4⟩ := q_806
  have ks2 : kd h_806 s = 200 := by rw [hr1]; exact ks1
  have ls2 : ln h_806 s = L := by rw [hr2]; exact ls1
  have km2 : kd h_806 (w + 154) = 2 := by rw [hr1]; exact hM1.1
  refine wp_istore d_212_809 (by decide) ?_
  refine wp_aload_n d_212_811 (by rfl) ?_
  refine wp_callV d_212_812 c_212_126 rfl (by rfl) (by rfl) ⟨1, rfl, rfl, by decide⟩ (by first | assumption | exact hF.1 | exact hM1.1 | exact hM.1) (by exact Nat.le_of_ble_eq_true rfl) (by exact Nat.le_of_ble_eq_true rfl) (m_thrown km2 hr4) (fun v_812 h_812 q_812 => ?_) (fun _ _ q => q.elim)
  obtain ⟨rfl, rfl⟩ := q_812
  refine wp_iload d_212_815 (by rfl) ?_
  refine wp_icmp_eq (tgt := 822) d_212_817 (by decide) (by omega) (by omega) (fun c_817 => ?_) (fun c_817 => ?_)
  rotate_left
  · exact absurd c_817 (by omega)
  refine wp_iload d_212_822 (by rfl) ?_
  refine wp_if_ne (tgt := 839) d_212_824 (by decide) (by omega) (fun c_824 => ?_) (fun c_824 => ?_)
  rotate_left
  · exact absurd c_824 (by omega)
  refine wp_goto (tgt := 2538) d_212_839 (by decide) ?_
  refine wp_to [some (vR (some s)), none, none, none, some (vI 0), none, none, none, none] ⟨rfl, rfl, trivial⟩ ?_
  exact l_next ks2 ls2 ⟨by omega, by omega⟩
set_option maxRecDepth 100000 in
set_option maxHeartbeats 4000000 in
theorem lc_8 {g : Hp} {s w : Nat} {L : Int} (G : LG g s w L) (hL : L = 5)  : wp 212 842 [some (vR (some s)), some (vR (some w)), some (vR (some (w + 154))), some (vR (some (w + 280))), some (vI 0), none, none, none, none] [] g QL noX := by
  obtain ⟨ks, ls, hsw, hF, hM, ⟨ko, lo⟩, hn, g1, g2⟩ := G
  refine wp_aload_n d_212_842 (by rfl) ?_
  refine wp_callV d_212_843 c_212_154 rfl (by rfl) (by rfl) ⟨0, rfl, rfl, by decide⟩ (by first | assumption | exact hF.1 | exact hM1.1 | exact hM.1) (by exact Nat.le_of_ble_eq_true rfl) (by exact Nat.le_of_ble_eq_true rfl) (t_stops hF) (fun v_843 h_843 q_843 => ?_) (fun _ _ q => q.elim)
  obtain ⟨rfl, rfl⟩ := q_843
  refine wp_aload_n d_212_846 (by rfl) ?_
  refine wp_callV d_212_847 c_212_157 rfl (by rfl) (by rfl) ⟨1, rfl, rfl, by decide⟩ (by first | assumption | exact hF.1 | exact hM1.1 | exact hM.1) (by exact Nat.le_of_ble_eq_true rfl) (by exact Nat.le_of_ble_eq_true rfl) (m_stops hM.z) (fun v_847 h_847 q_847 => ?_) (fun _ _ q => q.elim)
  obtain ⟨rfl, hr1, hr2, hr3, hr4⟩ := q_847
  have ks2 : kd h_847 s = 200 := by rw [hr1]; exact ks
  have ls2 : ln h_847 s = L := by rw [hr2]; exact ls
  have km2 : kd h_847 (w + 154) = 2 := by rw [hr1]; exact hM.1
  refine wp_icmp_eq (tgt := 2538) d_212_850 (by decide) (by omega) (by omega) (fun c_850 => ?_) (fun c_850 => ?_)
  rotate_left
  · exact absurd c_850 (by omega)
  refine wp_to [some (vR (some s)), none, none, none, some (vI 0), none, none, none, none] ⟨rfl, rfl, trivial⟩ ?_
  exact l_next ks2 ls2 ⟨by omega, by omega⟩
set_option maxRecDepth 100000 in
set_option maxHeartbeats 4000000 in
theorem lc_9 {g : Hp} {s w : Nat} {L : Int} (G : LG g s w L) (hL : L = 5)  : wp 212 855 [some (vR (some s)), some (vR (some w)), some (vR (some (w + 154))), some (vR (some (w + 280))), some (vI 0), none, none, none, none] [] g QL noX := by
  obtain ⟨ks, ls, hsw, hF, hM, ⟨ko, lo⟩, hn, g1, g2⟩ := G
  refine wp_aload_n d_212_855 (by rfl) ?_
  refine wp_callV d_212_856 c_212_158 rfl (by rfl) (by rfl) ⟨0, rfl, rfl, by decide⟩ (by first | assumption | exact hF.1 | exact hM1.1 | exact hM.1) (by exact Nat.le_of_ble_eq_true rfl) (by exact Nat.le_of_ble_eq_true rfl) (t_trips hF) (fun v_856 h_856 q_856 => ?_) (fun _ _ q => q.elim)
  obtain ⟨rfl, rfl⟩ := q_856
  refine wp_aload_n d_212_859 (by rfl) ?_
  refine wp_callV d_212_860 c_212_161 rfl (by rfl) (by rfl) ⟨1, rfl, rfl, by decide⟩ (by first | assumption | exact hF.1 | exact hM1.1 | exact hM.1) (by exact Nat.le_of_ble_eq_true rfl) (by exact Nat.le_of_ble_eq_true rfl) (m_trips hM.z) (fun v_860 h_860 q_860 => ?_) (fun _ _ q => q.elim)
  obtain ⟨rfl, hr1, hr2, hr3, hr4⟩ := q_860
  have ks2 : kd h_860 s = 200 := by rw [hr1]; exact ks
  have ls2 : ln h_860 s = L := by rw [hr2]; exact ls
  have km2 : kd h_860 (w + 154) = 2 := by rw [hr1]; exact hM.1
  refine wp_icmp_eq (tgt := 2538) d_212_863 (by decide) (by omega) (by omega) (fun c_863 => ?_) (fun c_863 => ?_)
  rotate_left
  · exact absurd c_863 (by omega)
  refine wp_to [some (vR (some s)), none, none, none, some (vI 0), none, none, none, none] ⟨rfl, rfl, trivial⟩ ?_
  exact l_next ks2 ls2 ⟨by omega, by omega⟩
set_option maxRecDepth 100000 in
set_option maxHeartbeats 4000000 in
theorem lc_10 {g : Hp} {s w : Nat} {L : Int} (G : LG g s w L) (hL : L = 5)  : wp 212 868 [some (vR (some s)), some (vR (some w)), some (vR (some (w + 154))), some (vR (some (w + 280))), some (vI 0), none, none, none, none] [] g QL noX := by
  obtain ⟨ks, ls, hsw, hF, hM, ⟨ko, lo⟩, hn, g1, g2⟩ := G
  refine wp_aload_n d_212_868 (by rfl) ?_
  refine wp_aload_n d_212_869 (by rfl) ?_
  refine wp_iload d_212_870 (by rfl) ?_
  refine wp_iconst d_212_872 ?_
  refine wp_iadd d_212_873 ?_
  refine wp_iald d_212_874 (Or.inr (by assumption)) (by omega) (by omega) (fun x_874 e_874 r_874 => ?_)
  refine wp_aload_n d_212_875 (by rfl) ?_
  refine wp_callSW d_212_876 cw_212_162 (by rfl) (by rfl) (by exact Nat.le_of_ble_eq_true rfl) (by exact Nat.le_of_ble_eq_true rfl) (w_calls hF (by first | assumption | omega | decide) (by omega) (by omega)) (fun v_876 h_876 q_876 => ?_)
  obtain ⟨rfl, hR⟩ := q_876
  have hM1 : MF h_876 (w + 154) := hM.kept (fun b h1 h2 => hR.2 b (by omega) (by omega) (by omega))
  have ks1 : kd h_876 s = 200 := (hR.1 s (by omega)).1.trans ks
  have ls1 : ln h_876 s = L := (hR.1 s (by omega)).2.trans ls
  have sc1 : ∀ k, hi h_876 s k = hi g s k := fun k => (hR.2 s (by omega) (Or.inr hsw) (by omega)).2.2.1 k
  refine wp_istore d_212_879 (by decide) ?_
  refine wp_aload_n d_212_881 (by rfl) ?_
  refine wp_aload_n d_212_882 (by rfl) ?_
  refine wp_iload d_212_883 (by rfl) ?_
  refine wp_iconst d_212_885 ?_
  refine wp_iadd d_212_886 ?_
  refine wp_iald d_212_887 (Or.inr (by assumption)) (by omega) (by omega) (fun x_887 e_887 r_887 => ?_)
  refine wp_callV d_212_888 c_212_164 rfl (by rfl) (by rfl) ⟨1, rfl, rfl, by decide⟩ (by first | assumption | exact hF.1 | exact hM1.1 | exact hM.1) (by exact Nat.le_of_ble_eq_true rfl) (by exact Nat.le_of_ble_eq_true rfl) (m_calls hM1.z (by first | assumption | omega | decide)) (fun v_888 h_888 q_888 => ?_) (fun _ _ q => q.elim)
  obtain ⟨rfl, hr1, hr2, hr3, hr4⟩ := q_888
  have ks2 : kd h_888 s = 200 := by rw [hr1]; exact ks1
  have ls2 : ln h_888 s = L := by rw [hr2]; exact ls1
  have km2 : kd h_888 (w + 154) = 2 := by rw [hr1]; exact hM1.1
  refine wp_istore d_212_891 (by decide) ?_
  refine wp_aload_n d_212_893 (by rfl) ?_
  refine wp_callV d_212_894 c_212_126 rfl (by rfl) (by rfl) ⟨1, rfl, rfl, by decide⟩ (by first | assumption | exact hF.1 | exact hM1.1 | exact hM.1) (by exact Nat.le_of_ble_eq_true rfl) (by exact Nat.le_of_ble_eq_true rfl) (m_thrown km2 hr4) (fun v_894 h_894 q_894 => ?_) (fun _ _ q => q.elim)
  obtain ⟨rfl, rfl⟩ := q_894
  refine wp_iload d_212_897 (by rfl) ?_
  refine wp_icmp_eq (tgt := 904) d_212_899 (by decide) (by omega) (by omega) (fun c_899 => ?_) (fun c_899 => ?_)
  rotate_left
  · exact absurd c_899 (by omega)
  refine wp_iload d_212_904 (by rfl) ?_
  refine wp_if_ne (tgt := 921) d_212_906 (by decide) (by omega) (fun c_906 => ?_) (fun c_906 => ?_)
  rotate_left
  · exact absurd c_906 (by omega)
  refine wp_goto (tgt := 2538) d_212_921 (by decide) ?_
  refine wp_to [some (vR (some s)), none, none, none, some (vI 0), none, none, none, none] ⟨rfl, rfl, trivial⟩ ?_
  exact l_next ks2 ls2 ⟨by omega, by omega⟩
set_option maxRecDepth 100000 in
set_option maxHeartbeats 4000000 in
theorem lc_11 {g : Hp} {s w : Nat} {L : Int} (G : LG g s w L) (hL : L = 5)  : wp 212 924 [some (vR (some s)), some (vR (some w)), some (vR (some (w + 154))), some (vR (some (w + 280))), some (vI 0), none, none, none, none] [] g QL noX := by
  obtain ⟨ks, ls, hsw, hF, hM, ⟨ko, lo⟩, hn, g1, g2⟩ := G
  refine wp_aload_n d_212_924 (by rfl) ?_
  refine wp_aload_n d_212_925 (by rfl) ?_
  refine wp_iload d_212_926 (by rfl) ?_
  refine wp_iconst d_212_928 ?_
  refine wp_iadd d_212_929 ?_
  refine wp_iald d_212_930 (Or.inr (by assumption)) (by omega) (by omega) (fun x_930 e_930 r_930 => ?_)
  refine wp_aload_n d_212_931 (by rfl) ?_
  refine wp_iload d_212_932 (by rfl) ?_
  refine wp_iconst d_212_934 ?_
  refine wp_iadd d_212_935 ?_
  refine wp_iald d_212_936 (Or.inr (by assumption)) (by omega) (by omega) (fun x_936 e_936 r_936 => ?_)
  refine wp_aload_n d_212_937 (by rfl) ?_
  refine wp_callSW d_212_938 cw_212_165 (by rfl) (by rfl) (by exact Nat.le_of_ble_eq_true rfl) (by exact Nat.le_of_ble_eq_true rfl) (w_stopOf hF (by first | assumption | omega | decide) (by first | assumption | omega | decide) (by omega) (by omega)) (fun v_938 h_938 q_938 => ?_)
  obtain ⟨rfl, hR⟩ := q_938
  have hM1 : MF h_938 (w + 154) := hM.kept (fun b h1 h2 => hR.2 b (by omega) (by omega) (by omega))
  have ks1 : kd h_938 s = 200 := (hR.1 s (by omega)).1.trans ks
  have ls1 : ln h_938 s = L := (hR.1 s (by omega)).2.trans ls
  have sc1 : ∀ k, hi h_938 s k = hi g s k := fun k => (hR.2 s (by omega) (Or.inr hsw) (by omega)).2.2.1 k
  refine wp_istore d_212_941 (by decide) ?_
  refine wp_aload_n d_212_943 (by rfl) ?_
  refine wp_aload_n d_212_944 (by rfl) ?_
  refine wp_iload d_212_945 (by rfl) ?_
  refine wp_iconst d_212_947 ?_
  refine wp_iadd d_212_948 ?_
  refine wp_iald d_212_949 (Or.inr (by assumption)) (by omega) (by omega) (fun x_949 e_949 r_949 => ?_)
  refine wp_aload_n d_212_950 (by rfl) ?_
  refine wp_iload d_212_951 (by rfl) ?_
  refine wp_iconst d_212_953 ?_
  refine wp_iadd d_212_954 ?_
  refine wp_iald d_212_955 (Or.inr (by assumption)) (by omega) (by omega) (fun x_955 e_955 r_955 => ?_)
  refine wp_callV d_212_956 c_212_167 rfl (by rfl) (by rfl) ⟨1, rfl, rfl, by decide⟩ (by first | assumption | exact hF.1 | exact hM1.1 | exact hM.1) (by exact Nat.le_of_ble_eq_true rfl) (by exact Nat.le_of_ble_eq_true rfl) (m_stopOf hM1.z (by first | assumption | omega | decide) (by first | assumption | omega | decide)) (fun v_956 h_956 q_956 => ?_) (fun _ _ q => q.elim)
  obtain ⟨rfl, hr1, hr2, hr3, hr4⟩ := q_956
  have ks2 : kd h_956 s = 200 := by rw [hr1]; exact ks1
  have ls2 : ln h_956 s = L := by rw [hr2]; exact ls1
  have km2 : kd h_956 (w + 154) = 2 := by rw [hr1]; exact hM1.1
  refine wp_istore d_212_959 (by decide) ?_
  refine wp_aload_n d_212_961 (by rfl) ?_
  refine wp_callV d_212_962 c_212_126 rfl (by rfl) (by rfl) ⟨1, rfl, rfl, by decide⟩ (by first | assumption | exact hF.1 | exact hM1.1 | exact hM.1) (by exact Nat.le_of_ble_eq_true rfl) (by exact Nat.le_of_ble_eq_true rfl) (m_thrown km2 hr4) (fun v_962 h_962 q_962 => ?_) (fun _ _ q => q.elim)
  obtain ⟨rfl, rfl⟩ := q_962
  refine wp_iload d_212_965 (by rfl) ?_
  refine wp_icmp_eq (tgt := 972) d_212_967 (by decide) (by omega) (by omega) (fun c_967 => ?_) (fun c_967 => ?_)
  rotate_left
  · exact absurd c_967 (by omega)
  refine wp_iload d_212_972 (by rfl) ?_
  refine wp_if_ne (tgt := 989) d_212_974 (by decide) (by omega) (fun c_974 => ?_) (fun c_974 => ?_)
  rotate_left
  · exact absurd c_974 (by omega)
  refine wp_goto (tgt := 2538) d_212_989 (by decide) ?_
  refine wp_to [some (vR (some s)), none, none, none, some (vI 0), none, none, none, none] ⟨rfl, rfl, trivial⟩ ?_
  exact l_next ks2 ls2 ⟨by omega, by omega⟩
set_option maxRecDepth 100000 in
set_option maxHeartbeats 4000000 in
theorem lc_12 {g : Hp} {s w : Nat} {L : Int} (G : LG g s w L) (hL : L = 5)  : wp 212 992 [some (vR (some s)), some (vR (some w)), some (vR (some (w + 154))), some (vR (some (w + 280))), some (vI 0), none, none, none, none] [] g QL noX := by
  obtain ⟨ks, ls, hsw, hF, hM, ⟨ko, lo⟩, hn, g1, g2⟩ := G
  refine wp_aload_n d_212_992 (by rfl) ?_
  refine wp_aload_n d_212_993 (by rfl) ?_
  refine wp_iload d_212_994 (by rfl) ?_
  refine wp_iconst d_212_996 ?_
  refine wp_iadd d_212_997 ?_
  refine wp_iald d_212_998 (Or.inr (by assumption)) (by omega) (by omega) (fun x_998 e_998 r_998 => ?_)
  refine wp_aload_n d_212_999 (by rfl) ?_
  refine wp_iload d_212_1000 (by rfl) ?_
  refine wp_iconst d_212_1002 ?_
  refine wp_iadd d_212_1003 ?_
  refine wp_iald d_212_1004 (Or.inr (by assumption)) (by omega) (by omega) (fun x_1004 e_1004 r_1004 => ?_)
  refine wp_aload_n d_212_1005 (by rfl) ?_
  refine wp_iload d_212_1006 (by rfl) ?_
  refine wp_iconst d_212_1008 ?_
  refine wp_iadd d_212_1009 ?_
  refine wp_iald d_212_1010 (Or.inr (by assumption)) (by omega) (by omega) (fun x_1010 e_1010 r_1010 => ?_)
  refine wp_aload_n d_212_1011 (by rfl) ?_
  refine wp_callSW d_212_1012 cw_212_168 (by rfl) (by rfl) (by exact Nat.le_of_ble_eq_true rfl) (by exact Nat.le_of_ble_eq_true rfl) (w_late hF (by first | assumption | omega | decide) (by first | assumption | omega | decide) (by first | assumption | omega | decide) (by omega) (by omega)) (fun v_1012 h_1012 q_1012 => ?_)
  obtain ⟨rfl, hR⟩ := q_1012
  have hM1 : MF h_1012 (w + 154) := hM.kept (fun b h1 h2 => hR.2 b (by omega) (by omega) (by omega))
  have ks1 : kd h_1012 s = 200 := (hR.1 s (by omega)).1.trans ks
  have ls1 : ln h_1012 s = L := (hR.1 s (by omega)).2.trans ls
  have sc1 : ∀ k, hi h_1012 s k = hi g s k := fun k => (hR.2 s (by omega) (Or.inr hsw) (by omega)).2.2.1 k
  refine wp_istore d_212_1015 (by decide) ?_
  refine wp_aload_n d_212_1017 (by rfl) ?_
  refine wp_aload_n d_212_1018 (by rfl) ?_
  refine wp_iload d_212_1019 (by rfl) ?_
  refine wp_iconst d_212_1021 ?_
  refine wp_iadd d_212_1022 ?_
  refine wp_iald d_212_1023 (Or.inr (by assumption)) (by omega) (by omega) (fun x_1023 e_1023 r_1023 => ?_)
  refine wp_aload_n d_212_1024 (by rfl) ?_
  refine wp_iload d_212_1025 (by rfl) ?_
  refine wp_iconst d_212_1027 ?_
  refine wp_iadd d_212_1028 ?_
  refine wp_iald d_212_1029 (Or.inr (by assumption)) (by omega) (by omega) (fun x_1029 e_1029 r_1029 => ?_)
  refine wp_aload_n d_212_1030 (by rfl) ?_
  refine wp_iload d_212_1031 (by rfl) ?_
  refine wp_iconst d_212_1033 ?_
  refine wp_iadd d_212_1034 ?_
  refine wp_iald d_212_1035 (Or.inr (by assumption)) (by omega) (by omega) (fun x_1035 e_1035 r_1035 => ?_)
  refine wp_callV d_212_1036 c_212_170 rfl (by rfl) (by rfl) ⟨1, rfl, rfl, by decide⟩ (by first | assumption | exact hF.1 | exact hM1.1 | exact hM.1) (by exact Nat.le_of_ble_eq_true rfl) (by exact Nat.le_of_ble_eq_true rfl) (m_late hM1.z (by first | assumption | omega | decide) (by first | assumption | omega | decide) (by first | assumption | omega | decide)) (fun v_1036 h_1036 q_1036 => ?_) (fun _ _ q => q.elim)
  obtain ⟨rfl, hr1, hr2, hr3, hr4⟩ := q_1036
  have ks2 : kd h_1036 s = 200 := by rw [hr1]; exact ks1
  have ls2 : ln h_1036 s = L := by rw [hr2]; exact ls1
  have km2 : kd h_1036 (w + 154) = 2 := by rw [hr1]; exact hM1.1
  refine wp_istore d_212_1039 (by decide) ?_
  refine wp_aload_n d_212_1041 (by rfl) ?_
  refine wp_callV d_212_1042 c_212_126 rfl (by rfl) (by rfl) ⟨1, rfl, rfl, by decide⟩ (by first | assumption | exact hF.1 | exact hM1.1 | exact hM.1) (by exact Nat.le_of_ble_eq_true rfl) (by exact Nat.le_of_ble_eq_true rfl) (m_thrown km2 hr4) (fun v_1042 h_1042 q_1042 => ?_) (fun _ _ q => q.elim)
  obtain ⟨rfl, rfl⟩ := q_1042
  refine wp_iload d_212_1045 (by rfl) ?_
  refine wp_icmp_eq (tgt := 1052) d_212_1047 (by decide) (by omega) (by omega) (fun c_1047 => ?_) (fun c_1047 => ?_)
  rotate_left
  · exact absurd c_1047 (by omega)
  refine wp_iload d_212_1052 (by rfl) ?_
  refine wp_if_ne (tgt := 1069) d_212_1054 (by decide) (by omega) (fun c_1054 => ?_) (fun c_1054 => ?_)
  rotate_left
  · exact absurd c_1054 (by omega)
  refine wp_goto (tgt := 2538) d_212_1069 (by decide) ?_
  refine wp_to [some (vR (some s)), none, none, none, some (vI 0), none, none, none, none] ⟨rfl, rfl, trivial⟩ ?_
  exact l_next ks2 ls2 ⟨by omega, by omega⟩
set_option maxRecDepth 100000 in
set_option maxHeartbeats 4000000 in
theorem lc_13 {g : Hp} {s w : Nat} {L : Int} (G : LG g s w L) (hL : L = 5)  : wp 212 1072 [some (vR (some s)), some (vR (some w)), some (vR (some (w + 154))), some (vR (some (w + 280))), some (vI 0), none, none, none, none] [] g QL noX := by
  obtain ⟨ks, ls, hsw, hF, hM, ⟨ko, lo⟩, hn, g1, g2⟩ := G
  refine wp_aload_n d_212_1072 (by rfl) ?_
  refine wp_aload_n d_212_1073 (by rfl) ?_
  refine wp_iload d_212_1074 (by rfl) ?_
  refine wp_iconst d_212_1076 ?_
  refine wp_iadd d_212_1077 ?_
  refine wp_iald d_212_1078 (Or.inr (by assumption)) (by omega) (by omega) (fun x_1078 e_1078 r_1078 => ?_)
  refine wp_aload_n d_212_1079 (by rfl) ?_
  refine wp_iload d_212_1080 (by rfl) ?_
  refine wp_iconst d_212_1082 ?_
  refine wp_iadd d_212_1083 ?_
  refine wp_iald d_212_1084 (Or.inr (by assumption)) (by omega) (by omega) (fun x_1084 e_1084 r_1084 => ?_)
  refine wp_aload_n d_212_1085 (by rfl) ?_
  refine wp_callSW d_212_1086 cw_212_171 (by rfl) (by rfl) (by exact Nat.le_of_ble_eq_true rfl) (by exact Nat.le_of_ble_eq_true rfl) (w_cancel hF (by first | assumption | omega | decide) (by first | assumption | omega | decide) (by omega) (by omega)) (fun v_1086 h_1086 q_1086 => ?_)
  obtain ⟨rfl, hR⟩ := q_1086
  have hM1 : MF h_1086 (w + 154) := hM.kept (fun b h1 h2 => hR.2 b (by omega) (by omega) (by omega))
  have ks1 : kd h_1086 s = 200 := (hR.1 s (by omega)).1.trans ks
  have ls1 : ln h_1086 s = L := (hR.1 s (by omega)).2.trans ls
  have sc1 : ∀ k, hi h_1086 s k = hi g s k := fun k => (hR.2 s (by omega) (Or.inr hsw) (by omega)).2.2.1 k
  refine wp_istore d_212_1089 (by decide) ?_
  refine wp_aload_n d_212_1091 (by rfl) ?_
  refine wp_aload_n d_212_1092 (by rfl) ?_
  refine wp_iload d_212_1093 (by rfl) ?_
  refine wp_iconst d_212_1095 ?_
  refine wp_iadd d_212_1096 ?_
  refine wp_iald d_212_1097 (Or.inr (by assumption)) (by omega) (by omega) (fun x_1097 e_1097 r_1097 => ?_)
  refine wp_aload_n d_212_1098 (by rfl) ?_
  refine wp_iload d_212_1099 (by rfl) ?_
  refine wp_iconst d_212_1101 ?_
  refine wp_iadd d_212_1102 ?_
  refine wp_iald d_212_1103 (Or.inr (by assumption)) (by omega) (by omega) (fun x_1103 e_1103 r_1103 => ?_)
  refine wp_callV d_212_1104 c_212_173 rfl (by rfl) (by rfl) ⟨1, rfl, rfl, by decide⟩ (by first | assumption | exact hF.1 | exact hM1.1 | exact hM.1) (by exact Nat.le_of_ble_eq_true rfl) (by exact Nat.le_of_ble_eq_true rfl) (m_cancel hM1.z (by first | assumption | omega | decide) (by first | assumption | omega | decide)) (fun v_1104 h_1104 q_1104 => ?_) (fun _ _ q => q.elim)
  obtain ⟨rfl, hr1, hr2, hr3, hr4⟩ := q_1104
  have ks2 : kd h_1104 s = 200 := by rw [hr1]; exact ks1
  have ls2 : ln h_1104 s = L := by rw [hr2]; exact ls1
  have km2 : kd h_1104 (w + 154) = 2 := by rw [hr1]; exact hM1.1
  refine wp_istore d_212_1107 (by decide) ?_
  refine wp_aload_n d_212_1109 (by rfl) ?_
  refine wp_callV d_212_1110 c_212_126 rfl (by rfl) (by rfl) ⟨1, rfl, rfl, by decide⟩ (by first | assumption | exact hF.1 | exact hM1.1 | exact hM.1) (by exact Nat.le_of_ble_eq_true rfl) (by exact Nat.le_of_ble_eq_true rfl) (m_thrown km2 hr4) (fun v_1110 h_1110 q_1110 => ?_) (fun _ _ q => q.elim)
  obtain ⟨rfl, rfl⟩ := q_1110
  refine wp_iload d_212_1113 (by rfl) ?_
  refine wp_icmp_eq (tgt := 1120) d_212_1115 (by decide) (by omega) (by omega) (fun c_1115 => ?_) (fun c_1115 => ?_)
  rotate_left
  · exact absurd c_1115 (by omega)
  refine wp_iload d_212_1120 (by rfl) ?_
  refine wp_if_ne (tgt := 1144) d_212_1122 (by decide) (by omega) (fun c_1122 => ?_) (fun c_1122 => ?_)
  rotate_left
  · exact absurd c_1122 (by omega)
  refine wp_goto (tgt := 2538) d_212_1144 (by decide) ?_
  refine wp_to [some (vR (some s)), none, none, none, some (vI 0), none, none, none, none] ⟨rfl, rfl, trivial⟩ ?_
  exact l_next ks2 ls2 ⟨by omega, by omega⟩
set_option maxRecDepth 100000 in
set_option maxHeartbeats 4000000 in
theorem lc_14 {g : Hp} {s w : Nat} {L : Int} (G : LG g s w L) (hL : L = 5)  : wp 212 1147 [some (vR (some s)), some (vR (some w)), some (vR (some (w + 154))), some (vR (some (w + 280))), some (vI 0), none, none, none, none] [] g QL noX := by
  obtain ⟨ks, ls, hsw, hF, hM, ⟨ko, lo⟩, hn, g1, g2⟩ := G
  refine wp_aload_n d_212_1147 (by rfl) ?_
  refine wp_aload_n d_212_1148 (by rfl) ?_
  refine wp_iload d_212_1149 (by rfl) ?_
  refine wp_iconst d_212_1151 ?_
  refine wp_iadd d_212_1152 ?_
  refine wp_iald d_212_1153 (Or.inr (by assumption)) (by omega) (by omega) (fun x_1153 e_1153 r_1153 => ?_)
  refine wp_aload_n d_212_1154 (by rfl) ?_
  refine wp_iload d_212_1155 (by rfl) ?_
  refine wp_iconst d_212_1157 ?_
  refine wp_iadd d_212_1158 ?_
  refine wp_iald d_212_1159 (Or.inr (by assumption)) (by omega) (by omega) (fun x_1159 e_1159 r_1159 => ?_)
  refine wp_aload_n d_212_1160 (by rfl) ?_
  refine wp_callSW d_212_1161 cw_212_174 (by rfl) (by rfl) (by exact Nat.le_of_ble_eq_true rfl) (by exact Nat.le_of_ble_eq_true rfl) (w_lateOf hF (by first | assumption | omega | decide) (by first | assumption | omega | decide) (by omega) (by omega)) (fun v_1161 h_1161 q_1161 => ?_)
  obtain ⟨rfl, hR⟩ := q_1161
  have hM1 : MF h_1161 (w + 154) := hM.kept (fun b h1 h2 => hR.2 b (by omega) (by omega) (by omega))
  have ks1 : kd h_1161 s = 200 := (hR.1 s (by omega)).1.trans ks
  have ls1 : ln h_1161 s = L := (hR.1 s (by omega)).2.trans ls
  have sc1 : ∀ k, hi h_1161 s k = hi g s k := fun k => (hR.2 s (by omega) (Or.inr hsw) (by omega)).2.2.1 k
  refine wp_istore d_212_1164 (by decide) ?_
  refine wp_aload_n d_212_1166 (by rfl) ?_
  refine wp_aload_n d_212_1167 (by rfl) ?_
  refine wp_iload d_212_1168 (by rfl) ?_
  refine wp_iconst d_212_1170 ?_
  refine wp_iadd d_212_1171 ?_
  refine wp_iald d_212_1172 (Or.inr (by assumption)) (by omega) (by omega) (fun x_1172 e_1172 r_1172 => ?_)
  refine wp_aload_n d_212_1173 (by rfl) ?_
  refine wp_iload d_212_1174 (by rfl) ?_
  refine wp_iconst d_212_1176 ?_
  refine wp_iadd d_212_1177 ?_
  refine wp_iald d_212_1178 (Or.inr (by assumption)) (by omega) (by omega) (fun x_1178 e_1178 r_1178 => ?_)
  refine wp_callV d_212_1179 c_212_176 rfl (by rfl) (by rfl) ⟨1, rfl, rfl, by decide⟩ (by first | assumption | exact hF.1 | exact hM1.1 | exact hM.1) (by exact Nat.le_of_ble_eq_true rfl) (by exact Nat.le_of_ble_eq_true rfl) (m_lateOf hM1.z (by first | assumption | omega | decide) (by first | assumption | omega | decide)) (fun v_1179 h_1179 q_1179 => ?_) (fun _ _ q => q.elim)
  obtain ⟨rfl, hr1, hr2, hr3, hr4⟩ := q_1179
  have ks2 : kd h_1179 s = 200 := by rw [hr1]; exact ks1
  have ls2 : ln h_1179 s = L := by rw [hr2]; exact ls1
  have km2 : kd h_1179 (w + 154) = 2 := by rw [hr1]; exact hM1.1
  refine wp_istore d_212_1182 (by decide) ?_
  refine wp_aload_n d_212_1184 (by rfl) ?_
  refine wp_callV d_212_1185 c_212_126 rfl (by rfl) (by rfl) ⟨1, rfl, rfl, by decide⟩ (by first | assumption | exact hF.1 | exact hM1.1 | exact hM.1) (by exact Nat.le_of_ble_eq_true rfl) (by exact Nat.le_of_ble_eq_true rfl) (m_thrown km2 hr4) (fun v_1185 h_1185 q_1185 => ?_) (fun _ _ q => q.elim)
  obtain ⟨rfl, rfl⟩ := q_1185
  refine wp_iload d_212_1188 (by rfl) ?_
  refine wp_icmp_eq (tgt := 1195) d_212_1190 (by decide) (by omega) (by omega) (fun c_1190 => ?_) (fun c_1190 => ?_)
  rotate_left
  · exact absurd c_1190 (by omega)
  refine wp_iload d_212_1195 (by rfl) ?_
  refine wp_if_ne (tgt := 1212) d_212_1197 (by decide) (by omega) (fun c_1197 => ?_) (fun c_1197 => ?_)
  rotate_left
  · exact absurd c_1197 (by omega)
  refine wp_goto (tgt := 2538) d_212_1212 (by decide) ?_
  refine wp_to [some (vR (some s)), none, none, none, some (vI 0), none, none, none, none] ⟨rfl, rfl, trivial⟩ ?_
  exact l_next ks2 ls2 ⟨by omega, by omega⟩
set_option maxRecDepth 100000 in
set_option maxHeartbeats 4000000 in
theorem lc_15 {g : Hp} {s w : Nat} {L : Int} (G : LG g s w L) (hL : L = 5)  : wp 212 1215 [some (vR (some s)), some (vR (some w)), some (vR (some (w + 154))), some (vR (some (w + 280))), some (vI 0), none, none, none, none] [] g QL noX := by
  obtain ⟨ks, ls, hsw, hF, hM, ⟨ko, lo⟩, hn, g1, g2⟩ := G
  refine wp_aload_n d_212_1215 (by rfl) ?_
  refine wp_aload_n d_212_1216 (by rfl) ?_
  refine wp_iload d_212_1217 (by rfl) ?_
  refine wp_iconst d_212_1219 ?_
  refine wp_iadd d_212_1220 ?_
  refine wp_iald d_212_1221 (Or.inr (by assumption)) (by omega) (by omega) (fun x_1221 e_1221 r_1221 => ?_)
  refine wp_aload_n d_212_1222 (by rfl) ?_
  refine wp_iload d_212_1223 (by rfl) ?_
  refine wp_iconst d_212_1225 ?_
  refine wp_iadd d_212_1226 ?_
  refine wp_iald d_212_1227 (Or.inr (by assumption)) (by omega) (by omega) (fun x_1227 e_1227 r_1227 => ?_)
  refine wp_aload_n d_212_1228 (by rfl) ?_
  refine wp_callSW d_212_1229 cw_212_177 (by rfl) (by rfl) (by exact Nat.le_of_ble_eq_true rfl) (by exact Nat.le_of_ble_eq_true rfl) (w_departures hF (by first | assumption | omega | decide) (by first | assumption | omega | decide) (by omega) (by omega)) (fun v_1229 h_1229 q_1229 => ?_)
  obtain ⟨rfl, hR⟩ := q_1229
  have hM1 : MF h_1229 (w + 154) := hM.kept (fun b h1 h2 => hR.2 b (by omega) (by omega) (by omega))
  have ks1 : kd h_1229 s = 200 := (hR.1 s (by omega)).1.trans ks
  have ls1 : ln h_1229 s = L := (hR.1 s (by omega)).2.trans ls
  have sc1 : ∀ k, hi h_1229 s k = hi g s k := fun k => (hR.2 s (by omega) (Or.inr hsw) (by omega)).2.2.1 k
  refine wp_istore d_212_1232 (by decide) ?_
  refine wp_aload_n d_212_1234 (by rfl) ?_
  refine wp_aload_n d_212_1235 (by rfl) ?_
  refine wp_iload d_212_1236 (by rfl) ?_
  refine wp_iconst d_212_1238 ?_
  refine wp_iadd d_212_1239 ?_
  refine wp_iald d_212_1240 (Or.inr (by assumption)) (by omega) (by omega) (fun x_1240 e_1240 r_1240 => ?_)
  refine wp_aload_n d_212_1241 (by rfl) ?_
  refine wp_iload d_212_1242 (by rfl) ?_
  refine wp_iconst d_212_1244 ?_
  refine wp_iadd d_212_1245 ?_
  refine wp_iald d_212_1246 (Or.inr (by assumption)) (by omega) (by omega) (fun x_1246 e_1246 r_1246 => ?_)
  refine wp_callV d_212_1247 c_212_179 rfl (by rfl) (by rfl) ⟨1, rfl, rfl, by decide⟩ (by first | assumption | exact hF.1 | exact hM1.1 | exact hM.1) (by exact Nat.le_of_ble_eq_true rfl) (by exact Nat.le_of_ble_eq_true rfl) (m_departures hM1.z (by first | assumption | omega | decide) (by first | assumption | omega | decide)) (fun v_1247 h_1247 q_1247 => ?_) (fun _ _ q => q.elim)
  obtain ⟨rfl, hr1, hr2, hr3, hr4⟩ := q_1247
  have ks2 : kd h_1247 s = 200 := by rw [hr1]; exact ks1
  have ls2 : ln h_1247 s = L := by rw [hr2]; exact ls1
  have km2 : kd h_1247 (w + 154) = 2 := by rw [hr1]; exact hM1.1
  refine wp_istore d_212_1250 (by decide) ?_
  refine wp_aload_n d_212_1252 (by rfl) ?_
  refine wp_callV d_212_1253 c_212_126 rfl (by rfl) (by rfl) ⟨1, rfl, rfl, by decide⟩ (by first | assumption | exact hF.1 | exact hM1.1 | exact hM.1) (by exact Nat.le_of_ble_eq_true rfl) (by exact Nat.le_of_ble_eq_true rfl) (m_thrown km2 hr4) (fun v_1253 h_1253 q_1253 => ?_) (fun _ _ q => q.elim)
  obtain ⟨rfl, rfl⟩ := q_1253
  refine wp_iload d_212_1256 (by rfl) ?_
  refine wp_icmp_eq (tgt := 1263) d_212_1258 (by decide) (by omega) (by omega) (fun c_1258 => ?_) (fun c_1258 => ?_)
  rotate_left
  · exact absurd c_1258 (by omega)
  refine wp_iload d_212_1263 (by rfl) ?_
  refine wp_if_ne (tgt := 1280) d_212_1265 (by decide) (by omega) (fun c_1265 => ?_) (fun c_1265 => ?_)
  rotate_left
  · exact absurd c_1265 (by omega)
  refine wp_goto (tgt := 2538) d_212_1280 (by decide) ?_
  refine wp_to [some (vR (some s)), none, none, none, some (vI 0), none, none, none, none] ⟨rfl, rfl, trivial⟩ ?_
  exact l_next ks2 ls2 ⟨by omega, by omega⟩
set_option maxRecDepth 100000 in
set_option maxHeartbeats 4000000 in
theorem lc_16 {g : Hp} {s w : Nat} {L : Int} (G : LG g s w L) (hL : L = 5)  : wp 212 1283 [some (vR (some s)), some (vR (some w)), some (vR (some (w + 154))), some (vR (some (w + 280))), some (vI 0), none, none, none, none] [] g QL noX := by
  obtain ⟨ks, ls, hsw, hF, hM, ⟨ko, lo⟩, hn, g1, g2⟩ := G
  refine wp_aload_n d_212_1283 (by rfl) ?_
  refine wp_aload_n d_212_1284 (by rfl) ?_
  refine wp_iload d_212_1285 (by rfl) ?_
  refine wp_iconst d_212_1287 ?_
  refine wp_iadd d_212_1288 ?_
  refine wp_iald d_212_1289 (Or.inr (by assumption)) (by omega) (by omega) (fun x_1289 e_1289 r_1289 => ?_)
  refine wp_aload_n d_212_1290 (by rfl) ?_
  refine wp_iload d_212_1291 (by rfl) ?_
  refine wp_iconst d_212_1293 ?_
  refine wp_iadd d_212_1294 ?_
  refine wp_iald d_212_1295 (Or.inr (by assumption)) (by omega) (by omega) (fun x_1295 e_1295 r_1295 => ?_)
  refine wp_aload_n d_212_1296 (by rfl) ?_
  refine wp_iload d_212_1297 (by rfl) ?_
  refine wp_iconst d_212_1299 ?_
  refine wp_iadd d_212_1300 ?_
  refine wp_iald d_212_1301 (Or.inr (by assumption)) (by omega) (by omega) (fun x_1301 e_1301 r_1301 => ?_)
  refine wp_aload_n d_212_1302 (by rfl) ?_
  refine wp_callSW d_212_1303 cw_212_180 (by rfl) (by rfl) (by exact Nat.le_of_ble_eq_true rfl) (by exact Nat.le_of_ble_eq_true rfl) (w_departsAt hF (by first | assumption | omega | decide) (by first | assumption | omega | decide) (by first | assumption | omega | decide) (by omega) (by omega)) (fun v_1303 h_1303 q_1303 => ?_)
  obtain ⟨rfl, hR⟩ := q_1303
  have hM1 : MF h_1303 (w + 154) := hM.kept (fun b h1 h2 => hR.2 b (by omega) (by omega) (by omega))
  have ks1 : kd h_1303 s = 200 := (hR.1 s (by omega)).1.trans ks
  have ls1 : ln h_1303 s = L := (hR.1 s (by omega)).2.trans ls
  have sc1 : ∀ k, hi h_1303 s k = hi g s k := fun k => (hR.2 s (by omega) (Or.inr hsw) (by omega)).2.2.1 k
  refine wp_istore d_212_1306 (by decide) ?_
  refine wp_aload_n d_212_1308 (by rfl) ?_
  refine wp_aload_n d_212_1309 (by rfl) ?_
  refine wp_iload d_212_1310 (by rfl) ?_
  refine wp_iconst d_212_1312 ?_
  refine wp_iadd d_212_1313 ?_
  refine wp_iald d_212_1314 (Or.inr (by assumption)) (by omega) (by omega) (fun x_1314 e_1314 r_1314 => ?_)
  refine wp_aload_n d_212_1315 (by rfl) ?_
  refine wp_iload d_212_1316 (by rfl) ?_
  refine wp_iconst d_212_1318 ?_
  refine wp_iadd d_212_1319 ?_
  refine wp_iald d_212_1320 (Or.inr (by assumption)) (by omega) (by omega) (fun x_1320 e_1320 r_1320 => ?_)
  refine wp_aload_n d_212_1321 (by rfl) ?_
  refine wp_iload d_212_1322 (by rfl) ?_
  refine wp_iconst d_212_1324 ?_
  refine wp_iadd d_212_1325 ?_
  refine wp_iald d_212_1326 (Or.inr (by assumption)) (by omega) (by omega) (fun x_1326 e_1326 r_1326 => ?_)
  refine wp_callV d_212_1327 c_212_182 rfl (by rfl) (by rfl) ⟨1, rfl, rfl, by decide⟩ (by first | assumption | exact hF.1 | exact hM1.1 | exact hM.1) (by exact Nat.le_of_ble_eq_true rfl) (by exact Nat.le_of_ble_eq_true rfl) (m_departsAt hM1.z (by first | assumption | omega | decide) (by first | assumption | omega | decide) (by first | assumption | omega | decide)) (fun v_1327 h_1327 q_1327 => ?_) (fun _ _ q => q.elim)
  obtain ⟨rfl, hr1, hr2, hr3, hr4⟩ := q_1327
  have ks2 : kd h_1327 s = 200 := by rw [hr1]; exact ks1
  have ls2 : ln h_1327 s = L := by rw [hr2]; exact ls1
  have km2 : kd h_1327 (w + 154) = 2 := by rw [hr1]; exact hM1.1
  refine wp_istore d_212_1330 (by decide) ?_
  refine wp_aload_n d_212_1332 (by rfl) ?_
  refine wp_callV d_212_1333 c_212_126 rfl (by rfl) (by rfl) ⟨1, rfl, rfl, by decide⟩ (by first | assumption | exact hF.1 | exact hM1.1 | exact hM.1) (by exact Nat.le_of_ble_eq_true rfl) (by exact Nat.le_of_ble_eq_true rfl) (m_thrown km2 hr4) (fun v_1333 h_1333 q_1333 => ?_) (fun _ _ q => q.elim)
  obtain ⟨rfl, rfl⟩ := q_1333
  refine wp_iload d_212_1336 (by rfl) ?_
  refine wp_icmp_eq (tgt := 1343) d_212_1338 (by decide) (by omega) (by omega) (fun c_1338 => ?_) (fun c_1338 => ?_)
  rotate_left
  · exact absurd c_1338 (by omega)
  refine wp_iload d_212_1343 (by rfl) ?_
  refine wp_if_ne (tgt := 1360) d_212_1345 (by decide) (by omega) (fun c_1345 => ?_) (fun c_1345 => ?_)
  rotate_left
  · exact absurd c_1345 (by omega)
  refine wp_goto (tgt := 2538) d_212_1360 (by decide) ?_
  refine wp_to [some (vR (some s)), none, none, none, some (vI 0), none, none, none, none] ⟨rfl, rfl, trivial⟩ ?_
  exact l_next ks2 ls2 ⟨by omega, by omega⟩
set_option maxRecDepth 100000 in
set_option maxHeartbeats 4000000 in
theorem lc_17 {g : Hp} {s w : Nat} {L : Int} (G : LG g s w L) (hL : L = 5)  : wp 212 1363 [some (vR (some s)), some (vR (some w)), some (vR (some (w + 154))), some (vR (some (w + 280))), some (vI 0), none, none, none, none] [] g QL noX := by
  obtain ⟨ks, ls, hsw, hF, hM, ⟨ko, lo⟩, hn, g1, g2⟩ := G
  refine wp_aload_n d_212_1363 (by rfl) ?_
  refine wp_aload_n d_212_1364 (by rfl) ?_
  refine wp_iload d_212_1365 (by rfl) ?_
  refine wp_iconst d_212_1367 ?_
  refine wp_iadd d_212_1368 ?_
  refine wp_iald d_212_1369 (Or.inr (by assumption)) (by omega) (by omega) (fun x_1369 e_1369 r_1369 => ?_)
  refine wp_aload_n d_212_1370 (by rfl) ?_
  refine wp_iload d_212_1371 (by rfl) ?_
  refine wp_iconst d_212_1373 ?_
  refine wp_iadd d_212_1374 ?_
  refine wp_iald d_212_1375 (Or.inr (by assumption)) (by omega) (by omega) (fun x_1375 e_1375 r_1375 => ?_)
  refine wp_aload_n d_212_1376 (by rfl) ?_
  refine wp_iload d_212_1377 (by rfl) ?_
  refine wp_iconst d_212_1379 ?_
  refine wp_iadd d_212_1380 ?_
  refine wp_iald d_212_1381 (Or.inr (by assumption)) (by omega) (by omega) (fun x_1381 e_1381 r_1381 => ?_)
  refine wp_aload_n d_212_1382 (by rfl) ?_
  refine wp_callSW d_212_1383 cw_212_183 (by rfl) (by rfl) (by exact Nat.le_of_ble_eq_true rfl) (by exact Nat.le_of_ble_eq_true rfl) (w_tripAt hF (by first | assumption | omega | decide) (by first | assumption | omega | decide) (by first | assumption | omega | decide) (by omega) (by omega)) (fun v_1383 h_1383 q_1383 => ?_)
  obtain ⟨rfl, hR⟩ := q_1383
  have hM1 : MF h_1383 (w + 154) := hM.kept (fun b h1 h2 => hR.2 b (by omega) (by omega) (by omega))
  have ks1 : kd h_1383 s = 200 := (hR.1 s (by omega)).1.trans ks
  have ls1 : ln h_1383 s = L := (hR.1 s (by omega)).2.trans ls
  have sc1 : ∀ k, hi h_1383 s k = hi g s k := fun k => (hR.2 s (by omega) (Or.inr hsw) (by omega)).2.2.1 k
  refine wp_istore d_212_1386 (by decide) ?_
  refine wp_aload_n d_212_1388 (by rfl) ?_
  refine wp_aload_n d_212_1389 (by rfl) ?_
  refine wp_iload d_212_1390 (by rfl) ?_
  refine wp_iconst d_212_1392 ?_
  refine wp_iadd d_212_1393 ?_
  refine wp_iald d_212_1394 (Or.inr (by assumption)) (by omega) (by omega) (fun x_1394 e_1394 r_1394 => ?_)
  refine wp_aload_n d_212_1395 (by rfl) ?_
  refine wp_iload d_212_1396 (by rfl) ?_
  refine wp_iconst d_212_1398 ?_
  refine wp_iadd d_212_1399 ?_
  refine wp_iald d_212_1400 (Or.inr (by assumption)) (by omega) (by omega) (fun x_1400 e_1400 r_1400 => ?_)
  refine wp_aload_n d_212_1401 (by rfl) ?_
  refine wp_iload d_212_1402 (by rfl) ?_
  refine wp_iconst d_212_1404 ?_
  refine wp_iadd d_212_1405 ?_
  refine wp_iald d_212_1406 (Or.inr (by assumption)) (by omega) (by omega) (fun x_1406 e_1406 r_1406 => ?_)
  refine wp_callV d_212_1407 c_212_185 rfl (by rfl) (by rfl) ⟨1, rfl, rfl, by decide⟩ (by first | assumption | exact hF.1 | exact hM1.1 | exact hM.1) (by exact Nat.le_of_ble_eq_true rfl) (by exact Nat.le_of_ble_eq_true rfl) (m_tripAt hM1.z (by first | assumption | omega | decide) (by first | assumption | omega | decide) (by first | assumption | omega | decide)) (fun v_1407 h_1407 q_1407 => ?_) (fun _ _ q => q.elim)
  obtain ⟨rfl, hr1, hr2, hr3, hr4⟩ := q_1407
  have ks2 : kd h_1407 s = 200 := by rw [hr1]; exact ks1
  have ls2 : ln h_1407 s = L := by rw [hr2]; exact ls1
  have km2 : kd h_1407 (w + 154) = 2 := by rw [hr1]; exact hM1.1
  refine wp_istore d_212_1410 (by decide) ?_
  refine wp_aload_n d_212_1412 (by rfl) ?_
  refine wp_callV d_212_1413 c_212_126 rfl (by rfl) (by rfl) ⟨1, rfl, rfl, by decide⟩ (by first | assumption | exact hF.1 | exact hM1.1 | exact hM.1) (by exact Nat.le_of_ble_eq_true rfl) (by exact Nat.le_of_ble_eq_true rfl) (m_thrown km2 hr4) (fun v_1413 h_1413 q_1413 => ?_) (fun _ _ q => q.elim)
  obtain ⟨rfl, rfl⟩ := q_1413
  refine wp_iload d_212_1416 (by rfl) ?_
  refine wp_icmp_eq (tgt := 1423) d_212_1418 (by decide) (by omega) (by omega) (fun c_1418 => ?_) (fun c_1418 => ?_)
  rotate_left
  · exact absurd c_1418 (by omega)
  refine wp_iload d_212_1423 (by rfl) ?_
  refine wp_if_ne (tgt := 1440) d_212_1425 (by decide) (by omega) (fun c_1425 => ?_) (fun c_1425 => ?_)
  rotate_left
  · exact absurd c_1425 (by omega)
  refine wp_goto (tgt := 2538) d_212_1440 (by decide) ?_
  refine wp_to [some (vR (some s)), none, none, none, some (vI 0), none, none, none, none] ⟨rfl, rfl, trivial⟩ ?_
  exact l_next ks2 ls2 ⟨by omega, by omega⟩
set_option maxRecDepth 100000 in
set_option maxHeartbeats 4000000 in
theorem lc_18 {g : Hp} {s w : Nat} {L : Int} (G : LG g s w L) (hL : L = 5)  : wp 212 1443 [some (vR (some s)), some (vR (some w)), some (vR (some (w + 154))), some (vR (some (w + 280))), some (vI 0), none, none, none, none] [] g QL noX := by
  obtain ⟨ks, ls, hsw, hF, hM, ⟨ko, lo⟩, hn, g1, g2⟩ := G
  refine wp_aload_n d_212_1443 (by rfl) ?_
  refine wp_aload_n d_212_1444 (by rfl) ?_
  refine wp_iload d_212_1445 (by rfl) ?_
  refine wp_iconst d_212_1447 ?_
  refine wp_iadd d_212_1448 ?_
  refine wp_iald d_212_1449 (Or.inr (by assumption)) (by omega) (by omega) (fun x_1449 e_1449 r_1449 => ?_)
  refine wp_aload_n d_212_1450 (by rfl) ?_
  refine wp_iload d_212_1451 (by rfl) ?_
  refine wp_iconst d_212_1453 ?_
  refine wp_iadd d_212_1454 ?_
  refine wp_iald d_212_1455 (Or.inr (by assumption)) (by omega) (by omega) (fun x_1455 e_1455 r_1455 => ?_)
  refine wp_aload_n d_212_1456 (by rfl) ?_
  refine wp_iload d_212_1457 (by rfl) ?_
  refine wp_iconst d_212_1459 ?_
  refine wp_iadd d_212_1460 ?_
  refine wp_iald d_212_1461 (Or.inr (by assumption)) (by omega) (by omega) (fun x_1461 e_1461 r_1461 => ?_)
  refine wp_aload_n d_212_1462 (by rfl) ?_
  refine wp_callSW d_212_1463 cw_212_186 (by rfl) (by rfl) (by exact Nat.le_of_ble_eq_true rfl) (by exact Nat.le_of_ble_eq_true rfl) (w_earliest hF (by first | assumption | omega | decide) (by first | assumption | omega | decide) (by first | assumption | omega | decide) (by omega) (by omega)) (fun v_1463 h_1463 q_1463 => ?_)
  obtain ⟨rfl, hR⟩ := q_1463
  have hM1 : MF h_1463 (w + 154) := hM.kept (fun b h1 h2 => hR.2 b (by omega) (by omega) (by omega))
  have ks1 : kd h_1463 s = 200 := (hR.1 s (by omega)).1.trans ks
  have ls1 : ln h_1463 s = L := (hR.1 s (by omega)).2.trans ls
  have sc1 : ∀ k, hi h_1463 s k = hi g s k := fun k => (hR.2 s (by omega) (Or.inr hsw) (by omega)).2.2.1 k
  refine wp_istore d_212_1466 (by decide) ?_
  refine wp_aload_n d_212_1468 (by rfl) ?_
  refine wp_aload_n d_212_1469 (by rfl) ?_
  refine wp_iload d_212_1470 (by rfl) ?_
  refine wp_iconst d_212_1472 ?_
  refine wp_iadd d_212_1473 ?_
  refine wp_iald d_212_1474 (Or.inr (by assumption)) (by omega) (by omega) (fun x_1474 e_1474 r_1474 => ?_)
  refine wp_aload_n d_212_1475 (by rfl) ?_
  refine wp_iload d_212_1476 (by rfl) ?_
  refine wp_iconst d_212_1478 ?_
  refine wp_iadd d_212_1479 ?_
  refine wp_iald d_212_1480 (Or.inr (by assumption)) (by omega) (by omega) (fun x_1480 e_1480 r_1480 => ?_)
  refine wp_aload_n d_212_1481 (by rfl) ?_
  refine wp_iload d_212_1482 (by rfl) ?_
  refine wp_iconst d_212_1484 ?_
  refine wp_iadd d_212_1485 ?_
  refine wp_iald d_212_1486 (Or.inr (by assumption)) (by omega) (by omega) (fun x_1486 e_1486 r_1486 => ?_)
  refine wp_callV d_212_1487 c_212_188 rfl (by rfl) (by rfl) ⟨1, rfl, rfl, by decide⟩ (by first | assumption | exact hF.1 | exact hM1.1 | exact hM.1) (by exact Nat.le_of_ble_eq_true rfl) (by exact Nat.le_of_ble_eq_true rfl) (m_earliest hM1.z (by first | assumption | omega | decide) (by first | assumption | omega | decide) (by first | assumption | omega | decide)) (fun v_1487 h_1487 q_1487 => ?_) (fun _ _ q => q.elim)
  obtain ⟨rfl, hr1, hr2, hr3, hr4⟩ := q_1487
  have ks2 : kd h_1487 s = 200 := by rw [hr1]; exact ks1
  have ls2 : ln h_1487 s = L := by rw [hr2]; exact ls1
  have km2 : kd h_1487 (w + 154) = 2 := by rw [hr1]; exact hM1.1
  refine wp_istore d_212_1490 (by decide) ?_
  refine wp_aload_n d_212_1492 (by rfl) ?_
  refine wp_callV d_212_1493 c_212_126 rfl (by rfl) (by rfl) ⟨1, rfl, rfl, by decide⟩ (by first | assumption | exact hF.1 | exact hM1.1 | exact hM.1) (by exact Nat.le_of_ble_eq_true rfl) (by exact Nat.le_of_ble_eq_true rfl) (m_thrown km2 hr4) (fun v_1493 h_1493 q_1493 => ?_) (fun _ _ q => q.elim)
  obtain ⟨rfl, rfl⟩ := q_1493
  refine wp_iload d_212_1496 (by rfl) ?_
  refine wp_icmp_eq (tgt := 1503) d_212_1498 (by decide) (by omega) (by omega) (fun c_1498 => ?_) (fun c_1498 => ?_)
  rotate_left
  · exact absurd c_1498 (by omega)
  refine wp_iload d_212_1503 (by rfl) ?_
  refine wp_if_ne (tgt := 1520) d_212_1505 (by decide) (by omega) (fun c_1505 => ?_) (fun c_1505 => ?_)
  rotate_left
  · exact absurd c_1505 (by omega)
  refine wp_goto (tgt := 2538) d_212_1520 (by decide) ?_
  refine wp_to [some (vR (some s)), none, none, none, some (vI 0), none, none, none, none] ⟨rfl, rfl, trivial⟩ ?_
  exact l_next ks2 ls2 ⟨by omega, by omega⟩
set_option maxRecDepth 100000 in
set_option maxHeartbeats 4000000 in
theorem lc_19 {g : Hp} {s w : Nat} {L : Int} (G : LG g s w L) (hL : L = 5)  : wp 212 1523 [some (vR (some s)), some (vR (some w)), some (vR (some (w + 154))), some (vR (some (w + 280))), some (vI 0), none, none, none, none] [] g QL noX := by
  obtain ⟨ks, ls, hsw, hF, hM, ⟨ko, lo⟩, hn, g1, g2⟩ := G
  refine wp_aload_n d_212_1523 (by rfl) ?_
  refine wp_aload_n d_212_1524 (by rfl) ?_
  refine wp_iload d_212_1525 (by rfl) ?_
  refine wp_iconst d_212_1527 ?_
  refine wp_iadd d_212_1528 ?_
  refine wp_iald d_212_1529 (Or.inr (by assumption)) (by omega) (by omega) (fun x_1529 e_1529 r_1529 => ?_)
  refine wp_aload_n d_212_1530 (by rfl) ?_
  refine wp_iload d_212_1531 (by rfl) ?_
  refine wp_iconst d_212_1533 ?_
  refine wp_iadd d_212_1534 ?_
  refine wp_iald d_212_1535 (Or.inr (by assumption)) (by omega) (by omega) (fun x_1535 e_1535 r_1535 => ?_)
  refine wp_aload_n d_212_1536 (by rfl) ?_
  refine wp_iload d_212_1537 (by rfl) ?_
  refine wp_iconst d_212_1539 ?_
  refine wp_iadd d_212_1540 ?_
  refine wp_iald d_212_1541 (Or.inr (by assumption)) (by omega) (by omega) (fun x_1541 e_1541 r_1541 => ?_)
  refine wp_aload_n d_212_1542 (by rfl) ?_
  refine wp_iload d_212_1543 (by rfl) ?_
  refine wp_iconst d_212_1545 ?_
  refine wp_iadd d_212_1546 ?_
  refine wp_iald d_212_1547 (Or.inr (by assumption)) (by omega) (by omega) (fun x_1547 e_1547 r_1547 => ?_)
  refine wp_aload_n d_212_1548 (by rfl) ?_
  refine wp_callSW d_212_1549 cw_212_189 (by rfl) (by rfl) (by exact Nat.le_of_ble_eq_true rfl) (by exact Nat.le_of_ble_eq_true rfl) (w_withRides hF (by first | assumption | omega | decide) (by first | assumption | omega | decide) (by first | assumption | omega | decide) (by first | assumption | omega | decide) (by omega) (by omega)) (fun v_1549 h_1549 q_1549 => ?_)
  obtain ⟨rfl, hR⟩ := q_1549
  have hM1 : MF h_1549 (w + 154) := hM.kept (fun b h1 h2 => hR.2 b (by omega) (by omega) (by omega))
  have ks1 : kd h_1549 s = 200 := (hR.1 s (by omega)).1.trans ks
  have ls1 : ln h_1549 s = L := (hR.1 s (by omega)).2.trans ls
  have sc1 : ∀ k, hi h_1549 s k = hi g s k := fun k => (hR.2 s (by omega) (Or.inr hsw) (by omega)).2.2.1 k
  refine wp_istore d_212_1552 (by decide) ?_
  refine wp_aload_n d_212_1554 (by rfl) ?_
  refine wp_aload_n d_212_1555 (by rfl) ?_
  refine wp_iload d_212_1556 (by rfl) ?_
  refine wp_iconst d_212_1558 ?_
  refine wp_iadd d_212_1559 ?_
  refine wp_iald d_212_1560 (Or.inr (by assumption)) (by omega) (by omega) (fun x_1560 e_1560 r_1560 => ?_)
  refine wp_aload_n d_212_1561 (by rfl) ?_
  refine wp_iload d_212_1562 (by rfl) ?_
  refine wp_iconst d_212_1564 ?_
  refine wp_iadd d_212_1565 ?_
  refine wp_iald d_212_1566 (Or.inr (by assumption)) (by omega) (by omega) (fun x_1566 e_1566 r_1566 => ?_)
  refine wp_aload_n d_212_1567 (by rfl) ?_
  refine wp_iload d_212_1568 (by rfl) ?_
  refine wp_iconst d_212_1570 ?_
  refine wp_iadd d_212_1571 ?_
  refine wp_iald d_212_1572 (Or.inr (by assumption)) (by omega) (by omega) (fun x_1572 e_1572 r_1572 => ?_)
  refine wp_aload_n d_212_1573 (by rfl) ?_
  refine wp_iload d_212_1574 (by rfl) ?_
  refine wp_iconst d_212_1576 ?_
  refine wp_iadd d_212_1577 ?_
  refine wp_iald d_212_1578 (Or.inr (by assumption)) (by omega) (by omega) (fun x_1578 e_1578 r_1578 => ?_)
  refine wp_callV d_212_1579 c_212_191 rfl (by rfl) (by rfl) ⟨1, rfl, rfl, by decide⟩ (by first | assumption | exact hF.1 | exact hM1.1 | exact hM.1) (by exact Nat.le_of_ble_eq_true rfl) (by exact Nat.le_of_ble_eq_true rfl) (m_withRides hM1.z (by first | assumption | omega | decide) (by first | assumption | omega | decide) (by first | assumption | omega | decide) (by first | assumption | omega | decide)) (fun v_1579 h_1579 q_1579 => ?_) (fun _ _ q => q.elim)
  obtain ⟨rfl, hr1, hr2, hr3, hr4⟩ := q_1579
  have ks2 : kd h_1579 s = 200 := by rw [hr1]; exact ks1
  have ls2 : ln h_1579 s = L := by rw [hr2]; exact ls1
  have km2 : kd h_1579 (w + 154) = 2 := by rw [hr1]; exact hM1.1
  refine wp_istore d_212_1582 (by decide) ?_
  refine wp_aload_n d_212_1584 (by rfl) ?_
  refine wp_callV d_212_1585 c_212_126 rfl (by rfl) (by rfl) ⟨1, rfl, rfl, by decide⟩ (by first | assumption | exact hF.1 | exact hM1.1 | exact hM.1) (by exact Nat.le_of_ble_eq_true rfl) (by exact Nat.le_of_ble_eq_true rfl) (m_thrown km2 hr4) (fun v_1585 h_1585 q_1585 => ?_) (fun _ _ q => q.elim)
  obtain ⟨rfl, rfl⟩ := q_1585
  refine wp_iload d_212_1588 (by rfl) ?_
  refine wp_icmp_eq (tgt := 1595) d_212_1590 (by decide) (by omega) (by omega) (fun c_1590 => ?_) (fun c_1590 => ?_)
  rotate_left
  · exact absurd c_1590 (by omega)
  refine wp_iload d_212_1595 (by rfl) ?_
  refine wp_if_ne (tgt := 1612) d_212_1597 (by decide) (by omega) (fun c_1597 => ?_) (fun c_1597 => ?_)
  rotate_left
  · exact absurd c_1597 (by omega)
  refine wp_goto (tgt := 2538) d_212_1612 (by decide) ?_
  refine wp_to [some (vR (some s)), none, none, none, some (vI 0), none, none, none, none] ⟨rfl, rfl, trivial⟩ ?_
  exact l_next ks2 ls2 ⟨by omega, by omega⟩
set_option maxRecDepth 100000 in
set_option maxHeartbeats 4000000 in
theorem lc_20 {g : Hp} {s w : Nat} {L : Int} (G : LG g s w L) (hL : L = 5)  : wp 212 1615 [some (vR (some s)), some (vR (some w)), some (vR (some (w + 154))), some (vR (some (w + 280))), some (vI 0), none, none, none, none] [] g QL noX := by
  obtain ⟨ks, ls, hsw, hF, hM, ⟨ko, lo⟩, hn, g1, g2⟩ := G
  refine wp_aload_n d_212_1615 (by rfl) ?_
  refine wp_aload_n d_212_1616 (by rfl) ?_
  refine wp_iload d_212_1617 (by rfl) ?_
  refine wp_iconst d_212_1619 ?_
  refine wp_iadd d_212_1620 ?_
  refine wp_iald d_212_1621 (Or.inr (by assumption)) (by omega) (by omega) (fun x_1621 e_1621 r_1621 => ?_)
  refine wp_aload_n d_212_1622 (by rfl) ?_
  refine wp_iload d_212_1623 (by rfl) ?_
  refine wp_iconst d_212_1625 ?_
  refine wp_iadd d_212_1626 ?_
  refine wp_iald d_212_1627 (Or.inr (by assumption)) (by omega) (by omega) (fun x_1627 e_1627 r_1627 => ?_)
  refine wp_aload_n d_212_1628 (by rfl) ?_
  refine wp_iload d_212_1629 (by rfl) ?_
  refine wp_iconst d_212_1631 ?_
  refine wp_iadd d_212_1632 ?_
  refine wp_iald d_212_1633 (Or.inr (by assumption)) (by omega) (by omega) (fun x_1633 e_1633 r_1633 => ?_)
  refine wp_aload_n d_212_1634 (by rfl) ?_
  refine wp_callSW d_212_1635 cw_212_192 (by rfl) (by rfl) (by exact Nat.le_of_ble_eq_true rfl) (by exact Nat.le_of_ble_eq_true rfl) (w_rides hF (by first | assumption | omega | decide) (by first | assumption | omega | decide) (by first | assumption | omega | decide) (by omega) (by omega)) (fun v_1635 h_1635 q_1635 => ?_)
  obtain ⟨rfl, hR⟩ := q_1635
  have hM1 : MF h_1635 (w + 154) := hM.kept (fun b h1 h2 => hR.2 b (by omega) (by omega) (by omega))
  have ks1 : kd h_1635 s = 200 := (hR.1 s (by omega)).1.trans ks
  have ls1 : ln h_1635 s = L := (hR.1 s (by omega)).2.trans ls
  have sc1 : ∀ k, hi h_1635 s k = hi g s k := fun k => (hR.2 s (by omega) (Or.inr hsw) (by omega)).2.2.1 k
  refine wp_istore d_212_1638 (by decide) ?_
  refine wp_aload_n d_212_1640 (by rfl) ?_
  refine wp_aload_n d_212_1641 (by rfl) ?_
  refine wp_iload d_212_1642 (by rfl) ?_
  refine wp_iconst d_212_1644 ?_
  refine wp_iadd d_212_1645 ?_
  refine wp_iald d_212_1646 (Or.inr (by assumption)) (by omega) (by omega) (fun x_1646 e_1646 r_1646 => ?_)
  refine wp_aload_n d_212_1647 (by rfl) ?_
  refine wp_iload d_212_1648 (by rfl) ?_
  refine wp_iconst d_212_1650 ?_
  refine wp_iadd d_212_1651 ?_
  refine wp_iald d_212_1652 (Or.inr (by assumption)) (by omega) (by omega) (fun x_1652 e_1652 r_1652 => ?_)
  refine wp_aload_n d_212_1653 (by rfl) ?_
  refine wp_iload d_212_1654 (by rfl) ?_
  refine wp_iconst d_212_1656 ?_
  refine wp_iadd d_212_1657 ?_
  refine wp_iald d_212_1658 (Or.inr (by assumption)) (by omega) (by omega) (fun x_1658 e_1658 r_1658 => ?_)
  refine wp_callV d_212_1659 c_212_194 rfl (by rfl) (by rfl) ⟨1, rfl, rfl, by decide⟩ (by first | assumption | exact hF.1 | exact hM1.1 | exact hM.1) (by exact Nat.le_of_ble_eq_true rfl) (by exact Nat.le_of_ble_eq_true rfl) (m_rides hM1.z (by first | assumption | omega | decide) (by first | assumption | omega | decide) (by first | assumption | omega | decide)) (fun v_1659 h_1659 q_1659 => ?_) (fun _ _ q => q.elim)
  obtain ⟨rfl, hr1, hr2, hr3, hr4⟩ := q_1659
  have ks2 : kd h_1659 s = 200 := by rw [hr1]; exact ks1
  have ls2 : ln h_1659 s = L := by rw [hr2]; exact ls1
  have km2 : kd h_1659 (w + 154) = 2 := by rw [hr1]; exact hM1.1
  refine wp_istore d_212_1662 (by decide) ?_
  refine wp_aload_n d_212_1664 (by rfl) ?_
  refine wp_callV d_212_1665 c_212_126 rfl (by rfl) (by rfl) ⟨1, rfl, rfl, by decide⟩ (by first | assumption | exact hF.1 | exact hM1.1 | exact hM.1) (by exact Nat.le_of_ble_eq_true rfl) (by exact Nat.le_of_ble_eq_true rfl) (m_thrown km2 hr4) (fun v_1665 h_1665 q_1665 => ?_) (fun _ _ q => q.elim)
  obtain ⟨rfl, rfl⟩ := q_1665
  refine wp_iload d_212_1668 (by rfl) ?_
  refine wp_icmp_eq (tgt := 1675) d_212_1670 (by decide) (by omega) (by omega) (fun c_1670 => ?_) (fun c_1670 => ?_)
  rotate_left
  · exact absurd c_1670 (by omega)
  refine wp_iload d_212_1675 (by rfl) ?_
  refine wp_if_ne (tgt := 1692) d_212_1677 (by decide) (by omega) (fun c_1677 => ?_) (fun c_1677 => ?_)
  rotate_left
  · exact absurd c_1677 (by omega)
  refine wp_goto (tgt := 2538) d_212_1692 (by decide) ?_
  refine wp_to [some (vR (some s)), none, none, none, some (vI 0), none, none, none, none] ⟨rfl, rfl, trivial⟩ ?_
  exact l_next ks2 ls2 ⟨by omega, by omega⟩
set_option maxRecDepth 100000 in
set_option maxHeartbeats 4000000 in
theorem lc_21 {g : Hp} {s w : Nat} {L : Int} (G : LG g s w L) (hL : L = 5)  : wp 212 1695 [some (vR (some s)), some (vR (some w)), some (vR (some (w + 154))), some (vR (some (w + 280))), some (vI 0), none, none, none, none] [] g QL noX := by
  obtain ⟨ks, ls, hsw, hF, hM, ⟨ko, lo⟩, hn, g1, g2⟩ := G
  refine wp_aload_n d_212_1695 (by rfl) ?_
  refine wp_aload_n d_212_1696 (by rfl) ?_
  refine wp_iload d_212_1697 (by rfl) ?_
  refine wp_iconst d_212_1699 ?_
  refine wp_iadd d_212_1700 ?_
  refine wp_iald d_212_1701 (Or.inr (by assumption)) (by omega) (by omega) (fun x_1701 e_1701 r_1701 => ?_)
  refine wp_aload_n d_212_1702 (by rfl) ?_
  refine wp_iload d_212_1703 (by rfl) ?_
  refine wp_iconst d_212_1705 ?_
  refine wp_iadd d_212_1706 ?_
  refine wp_iald d_212_1707 (Or.inr (by assumption)) (by omega) (by omega) (fun x_1707 e_1707 r_1707 => ?_)
  refine wp_aload_n d_212_1708 (by rfl) ?_
  refine wp_iload d_212_1709 (by rfl) ?_
  refine wp_iconst d_212_1711 ?_
  refine wp_iadd d_212_1712 ?_
  refine wp_iald d_212_1713 (Or.inr (by assumption)) (by omega) (by omega) (fun x_1713 e_1713 r_1713 => ?_)
  refine wp_aload_n d_212_1714 (by rfl) ?_
  refine wp_iload d_212_1715 (by rfl) ?_
  refine wp_iconst d_212_1717 ?_
  refine wp_iadd d_212_1718 ?_
  refine wp_iald d_212_1719 (Or.inr (by assumption)) (by omega) (by omega) (fun x_1719 e_1719 r_1719 => ?_)
  refine wp_aload_n d_212_1720 (by rfl) ?_
  refine wp_callSW d_212_1721 cw_212_195 (by rfl) (by rfl) (by exact Nat.le_of_ble_eq_true rfl) (by exact Nat.le_of_ble_eq_true rfl) (w_cheapest hF (by first | assumption | omega | decide) (by first | assumption | omega | decide) (by first | assumption | omega | decide) (by first | assumption | omega | decide) (by omega) (by omega)) (fun v_1721 h_1721 q_1721 => ?_)
  obtain ⟨rfl, hR⟩ := q_1721
  have hM1 : MF h_1721 (w + 154) := hM.kept (fun b h1 h2 => hR.2 b (by omega) (by omega) (by omega))
  have ks1 : kd h_1721 s = 200 := (hR.1 s (by omega)).1.trans ks
  have ls1 : ln h_1721 s = L := (hR.1 s (by omega)).2.trans ls
  have sc1 : ∀ k, hi h_1721 s k = hi g s k := fun k => (hR.2 s (by omega) (Or.inr hsw) (by omega)).2.2.1 k
  refine wp_istore d_212_1724 (by decide) ?_
  refine wp_aload_n d_212_1726 (by rfl) ?_
  refine wp_aload_n d_212_1727 (by rfl) ?_
  refine wp_iload d_212_1728 (by rfl) ?_
  refine wp_iconst d_212_1730 ?_
  refine wp_iadd d_212_1731 ?_
  refine wp_iald d_212_1732 (Or.inr (by assumption)) (by omega) (by omega) (fun x_1732 e_1732 r_1732 => ?_)
  refine wp_aload_n d_212_1733 (by rfl) ?_
  refine wp_iload d_212_1734 (by rfl) ?_
  refine wp_iconst d_212_1736 ?_
  refine wp_iadd d_212_1737 ?_
  refine wp_iald d_212_1738 (Or.inr (by assumption)) (by omega) (by omega) (fun x_1738 e_1738 r_1738 => ?_)
  refine wp_aload_n d_212_1739 (by rfl) ?_
  refine wp_iload d_212_1740 (by rfl) ?_
  refine wp_iconst d_212_1742 ?_
  refine wp_iadd d_212_1743 ?_
  refine wp_iald d_212_1744 (Or.inr (by assumption)) (by omega) (by omega) (fun x_1744 e_1744 r_1744 => ?_)
  refine wp_aload_n d_212_1745 (by rfl) ?_
  refine wp_iload d_212_1746 (by rfl) ?_
  refine wp_iconst d_212_1748 ?_
  refine wp_iadd d_212_1749 ?_
  refine wp_iald d_212_1750 (Or.inr (by assumption)) (by omega) (by omega) (fun x_1750 e_1750 r_1750 => ?_)
  refine wp_callV d_212_1751 c_212_197 rfl (by rfl) (by rfl) ⟨1, rfl, rfl, by decide⟩ (by first | assumption | exact hF.1 | exact hM1.1 | exact hM.1) (by exact Nat.le_of_ble_eq_true rfl) (by exact Nat.le_of_ble_eq_true rfl) (m_cheapest hM1.z (by first | assumption | omega | decide) (by first | assumption | omega | decide) (by first | assumption | omega | decide) (by first | assumption | omega | decide)) (fun v_1751 h_1751 q_1751 => ?_) (fun _ _ q => q.elim)
  obtain ⟨rfl, hr1, hr2, hr3, hr4⟩ := q_1751
  have ks2 : kd h_1751 s = 200 := by rw [hr1]; exact ks1
  have ls2 : ln h_1751 s = L := by rw [hr2]; exact ls1
  have km2 : kd h_1751 (w + 154) = 2 := by rw [hr1]; exact hM1.1
  refine wp_istore d_212_1754 (by decide) ?_
  refine wp_aload_n d_212_1756 (by rfl) ?_
  refine wp_callV d_212_1757 c_212_126 rfl (by rfl) (by rfl) ⟨1, rfl, rfl, by decide⟩ (by first | assumption | exact hF.1 | exact hM1.1 | exact hM.1) (by exact Nat.le_of_ble_eq_true rfl) (by exact Nat.le_of_ble_eq_true rfl) (m_thrown km2 hr4) (fun v_1757 h_1757 q_1757 => ?_) (fun _ _ q => q.elim)
  obtain ⟨rfl, rfl⟩ := q_1757
  refine wp_iload d_212_1760 (by rfl) ?_
  refine wp_icmp_eq (tgt := 1767) d_212_1762 (by decide) (by omega) (by omega) (fun c_1762 => ?_) (fun c_1762 => ?_)
  rotate_left
  · exact absurd c_1762 (by omega)
  refine wp_iload d_212_1767 (by rfl) ?_
  refine wp_if_ne (tgt := 1784) d_212_1769 (by decide) (by omega) (fun c_1769 => ?_) (fun c_1769 => ?_)
  rotate_left
  · exact absurd c_1769 (by omega)
  refine wp_goto (tgt := 2538) d_212_1784 (by decide) ?_
  refine wp_to [some (vR (some s)), none, none, none, some (vI 0), none, none, none, none] ⟨rfl, rfl, trivial⟩ ?_
  exact l_next ks2 ls2 ⟨by omega, by omega⟩
set_option maxRecDepth 100000 in
set_option maxHeartbeats 4000000 in
theorem lc_22 {g : Hp} {s w : Nat} {L : Int} (G : LG g s w L) (hL : L = 5)  : wp 212 1787 [some (vR (some s)), some (vR (some w)), some (vR (some (w + 154))), some (vR (some (w + 280))), some (vI 0), none, none, none, none] [] g QL noX := by
  obtain ⟨ks, ls, hsw, hF, hM, ⟨ko, lo⟩, hn, g1, g2⟩ := G
  refine wp_aload_n d_212_1787 (by rfl) ?_
  refine wp_aload_n d_212_1788 (by rfl) ?_
  refine wp_iload d_212_1789 (by rfl) ?_
  refine wp_iconst d_212_1791 ?_
  refine wp_iadd d_212_1792 ?_
  refine wp_iald d_212_1793 (Or.inr (by assumption)) (by omega) (by omega) (fun x_1793 e_1793 r_1793 => ?_)
  refine wp_aload_n d_212_1794 (by rfl) ?_
  refine wp_iload d_212_1795 (by rfl) ?_
  refine wp_iconst d_212_1797 ?_
  refine wp_iadd d_212_1798 ?_
  refine wp_iald d_212_1799 (Or.inr (by assumption)) (by omega) (by omega) (fun x_1799 e_1799 r_1799 => ?_)
  refine wp_aload_n d_212_1800 (by rfl) ?_
  refine wp_iload d_212_1801 (by rfl) ?_
  refine wp_iconst d_212_1803 ?_
  refine wp_iadd d_212_1804 ?_
  refine wp_iald d_212_1805 (Or.inr (by assumption)) (by omega) (by omega) (fun x_1805 e_1805 r_1805 => ?_)
  refine wp_aload_n d_212_1806 (by rfl) ?_
  refine wp_callSW d_212_1807 cw_212_198 (by rfl) (by rfl) (by exact Nat.le_of_ble_eq_true rfl) (by exact Nat.le_of_ble_eq_true rfl) (w_latest hF (by first | assumption | omega | decide) (by first | assumption | omega | decide) (by first | assumption | omega | decide) (by omega) (by omega)) (fun v_1807 h_1807 q_1807 => ?_)
  obtain ⟨rfl, hR⟩ := q_1807
  have hM1 : MF h_1807 (w + 154) := hM.kept (fun b h1 h2 => hR.2 b (by omega) (by omega) (by omega))
  have ks1 : kd h_1807 s = 200 := (hR.1 s (by omega)).1.trans ks
  have ls1 : ln h_1807 s = L := (hR.1 s (by omega)).2.trans ls
  have sc1 : ∀ k, hi h_1807 s k = hi g s k := fun k => (hR.2 s (by omega) (Or.inr hsw) (by omega)).2.2.1 k
  refine wp_istore d_212_1810 (by decide) ?_
  refine wp_aload_n d_212_1812 (by rfl) ?_
  refine wp_aload_n d_212_1813 (by rfl) ?_
  refine wp_iload d_212_1814 (by rfl) ?_
  refine wp_iconst d_212_1816 ?_
  refine wp_iadd d_212_1817 ?_
  refine wp_iald d_212_1818 (Or.inr (by assumption)) (by omega) (by omega) (fun x_1818 e_1818 r_1818 => ?_)
  refine wp_aload_n d_212_1819 (by rfl) ?_
  refine wp_iload d_212_1820 (by rfl) ?_
  refine wp_iconst d_212_1822 ?_
  refine wp_iadd d_212_1823 ?_
  refine wp_iald d_212_1824 (Or.inr (by assumption)) (by omega) (by omega) (fun x_1824 e_1824 r_1824 => ?_)
  refine wp_aload_n d_212_1825 (by rfl) ?_
  refine wp_iload d_212_1826 (by rfl) ?_
  refine wp_iconst d_212_1828 ?_
  refine wp_iadd d_212_1829 ?_
  refine wp_iald d_212_1830 (Or.inr (by assumption)) (by omega) (by omega) (fun x_1830 e_1830 r_1830 => ?_)
  refine wp_callV d_212_1831 c_212_200 rfl (by rfl) (by rfl) ⟨1, rfl, rfl, by decide⟩ (by first | assumption | exact hF.1 | exact hM1.1 | exact hM.1) (by exact Nat.le_of_ble_eq_true rfl) (by exact Nat.le_of_ble_eq_true rfl) (m_latest hM1.z (by first | assumption | omega | decide) (by first | assumption | omega | decide) (by first | assumption | omega | decide)) (fun v_1831 h_1831 q_1831 => ?_) (fun _ _ q => q.elim)
  obtain ⟨rfl, hr1, hr2, hr3, hr4⟩ := q_1831
  have ks2 : kd h_1831 s = 200 := by rw [hr1]; exact ks1
  have ls2 : ln h_1831 s = L := by rw [hr2]; exact ls1
  have km2 : kd h_1831 (w + 154) = 2 := by rw [hr1]; exact hM1.1
  refine wp_istore d_212_1834 (by decide) ?_
  refine wp_aload_n d_212_1836 (by rfl) ?_
  refine wp_callV d_212_1837 c_212_126 rfl (by rfl) (by rfl) ⟨1, rfl, rfl, by decide⟩ (by first | assumption | exact hF.1 | exact hM1.1 | exact hM.1) (by exact Nat.le_of_ble_eq_true rfl) (by exact Nat.le_of_ble_eq_true rfl) (m_thrown km2 hr4) (fun v_1837 h_1837 q_1837 => ?_) (fun _ _ q => q.elim)
  obtain ⟨rfl, rfl⟩ := q_1837
  refine wp_iload d_212_1840 (by rfl) ?_
  refine wp_icmp_eq (tgt := 1847) d_212_1842 (by decide) (by omega) (by omega) (fun c_1842 => ?_) (fun c_1842 => ?_)
  rotate_left
  · exact absurd c_1842 (by omega)
  refine wp_iload d_212_1847 (by rfl) ?_
  refine wp_if_ne (tgt := 1864) d_212_1849 (by decide) (by omega) (fun c_1849 => ?_) (fun c_1849 => ?_)
  rotate_left
  · exact absurd c_1849 (by omega)
  refine wp_goto (tgt := 2538) d_212_1864 (by decide) ?_
  refine wp_to [some (vR (some s)), none, none, none, some (vI 0), none, none, none, none] ⟨rfl, rfl, trivial⟩ ?_
  exact l_next ks2 ls2 ⟨by omega, by omega⟩
set_option maxRecDepth 100000 in
set_option maxHeartbeats 4000000 in
theorem lc_23 {g : Hp} {s w : Nat} {L : Int} (G : LG g s w L) (hL : L = 5)  : wp 212 1867 [some (vR (some s)), some (vR (some w)), some (vR (some (w + 154))), some (vR (some (w + 280))), some (vI 0), none, none, none, none] [] g QL noX := by
  obtain ⟨ks, ls, hsw, hF, hM, ⟨ko, lo⟩, hn, g1, g2⟩ := G
  refine wp_aload_n d_212_1867 (by rfl) ?_
  refine wp_aload_n d_212_1868 (by rfl) ?_
  refine wp_iload d_212_1869 (by rfl) ?_
  refine wp_iconst d_212_1871 ?_
  refine wp_iadd d_212_1872 ?_
  refine wp_iald d_212_1873 (Or.inr (by assumption)) (by omega) (by omega) (fun x_1873 e_1873 r_1873 => ?_)
  refine wp_aload_n d_212_1874 (by rfl) ?_
  refine wp_iload d_212_1875 (by rfl) ?_
  refine wp_iconst d_212_1877 ?_
  refine wp_iadd d_212_1878 ?_
  refine wp_iald d_212_1879 (Or.inr (by assumption)) (by omega) (by omega) (fun x_1879 e_1879 r_1879 => ?_)
  refine wp_aload_n d_212_1880 (by rfl) ?_
  refine wp_iload d_212_1881 (by rfl) ?_
  refine wp_iconst d_212_1883 ?_
  refine wp_iadd d_212_1884 ?_
  refine wp_iald d_212_1885 (Or.inr (by assumption)) (by omega) (by omega) (fun x_1885 e_1885 r_1885 => ?_)
  refine wp_aload_n d_212_1886 (by rfl) ?_
  refine wp_callSW d_212_1887 cw_212_201 (by rfl) (by rfl) (by exact Nat.le_of_ble_eq_true rfl) (by exact Nat.le_of_ble_eq_true rfl) (w_reached hF (by first | assumption | omega | decide) (by first | assumption | omega | decide) (by first | assumption | omega | decide) (by omega) (by omega)) (fun v_1887 h_1887 q_1887 => ?_)
  obtain ⟨rfl, hR⟩ := q_1887
  have hM1 : MF h_1887 (w + 154) := hM.kept (fun b h1 h2 => hR.2 b (by omega) (by omega) (by omega))
  have ks1 : kd h_1887 s = 200 := (hR.1 s (by omega)).1.trans ks
  have ls1 : ln h_1887 s = L := (hR.1 s (by omega)).2.trans ls
  have sc1 : ∀ k, hi h_1887 s k = hi g s k := fun k => (hR.2 s (by omega) (Or.inr hsw) (by omega)).2.2.1 k
  refine wp_istore d_212_1890 (by decide) ?_
  refine wp_aload_n d_212_1892 (by rfl) ?_
  refine wp_aload_n d_212_1893 (by rfl) ?_
  refine wp_iload d_212_1894 (by rfl) ?_
  refine wp_iconst d_212_1896 ?_
  refine wp_iadd d_212_1897 ?_
  refine wp_iald d_212_1898 (Or.inr (by assumption)) (by omega) (by omega) (fun x_1898 e_1898 r_1898 => ?_)
  refine wp_aload_n d_212_1899 (by rfl) ?_
  refine wp_iload d_212_1900 (by rfl) ?_
  refine wp_iconst d_212_1902 ?_
  refine wp_iadd d_212_1903 ?_
  refine wp_iald d_212_1904 (Or.inr (by assumption)) (by omega) (by omega) (fun x_1904 e_1904 r_1904 => ?_)
  refine wp_aload_n d_212_1905 (by rfl) ?_
  refine wp_iload d_212_1906 (by rfl) ?_
  refine wp_iconst d_212_1908 ?_
  refine wp_iadd d_212_1909 ?_
  refine wp_iald d_212_1910 (Or.inr (by assumption)) (by omega) (by omega) (fun x_1910 e_1910 r_1910 => ?_)
  refine wp_callV d_212_1911 c_212_203 rfl (by rfl) (by rfl) ⟨1, rfl, rfl, by decide⟩ (by first | assumption | exact hF.1 | exact hM1.1 | exact hM.1) (by exact Nat.le_of_ble_eq_true rfl) (by exact Nat.le_of_ble_eq_true rfl) (m_reached hM1.z (by first | assumption | omega | decide) (by first | assumption | omega | decide) (by first | assumption | omega | decide)) (fun v_1911 h_1911 q_1911 => ?_) (fun _ _ q => q.elim)
  obtain ⟨rfl, hr1, hr2, hr3, hr4⟩ := q_1911
  have ks2 : kd h_1911 s = 200 := by rw [hr1]; exact ks1
  have ls2 : ln h_1911 s = L := by rw [hr2]; exact ls1
  have km2 : kd h_1911 (w + 154) = 2 := by rw [hr1]; exact hM1.1
  refine wp_istore d_212_1914 (by decide) ?_
  refine wp_aload_n d_212_1916 (by rfl) ?_
  refine wp_callV d_212_1917 c_212_126 rfl (by rfl) (by rfl) ⟨1, rfl, rfl, by decide⟩ (by first | assumption | exact hF.1 | exact hM1.1 | exact hM.1) (by exact Nat.le_of_ble_eq_true rfl) (by exact Nat.le_of_ble_eq_true rfl) (m_thrown km2 hr4) (fun v_1917 h_1917 q_1917 => ?_) (fun _ _ q => q.elim)
  obtain ⟨rfl, rfl⟩ := q_1917
  refine wp_iload d_212_1920 (by rfl) ?_
  refine wp_icmp_eq (tgt := 1927) d_212_1922 (by decide) (by omega) (by omega) (fun c_1922 => ?_) (fun c_1922 => ?_)
  rotate_left
  · exact absurd c_1922 (by omega)
  refine wp_iload d_212_1927 (by rfl) ?_
  refine wp_if_ne (tgt := 1944) d_212_1929 (by decide) (by omega) (fun c_1929 => ?_) (fun c_1929 => ?_)
  rotate_left
  · exact absurd c_1929 (by omega)
  refine wp_goto (tgt := 2538) d_212_1944 (by decide) ?_
  refine wp_to [some (vR (some s)), none, none, none, some (vI 0), none, none, none, none] ⟨rfl, rfl, trivial⟩ ?_
  exact l_next ks2 ls2 ⟨by omega, by omega⟩
set_option maxRecDepth 100000 in
set_option maxHeartbeats 4000000 in
theorem lc_24 {g : Hp} {s w : Nat} {L : Int} (G : LG g s w L) (hL : L = 5)  : wp 212 1947 [some (vR (some s)), some (vR (some w)), some (vR (some (w + 154))), some (vR (some (w + 280))), some (vI 0), none, none, none, none] [] g QL noX := by
  obtain ⟨ks, ls, hsw, hF, hM, ⟨ko, lo⟩, hn, g1, g2⟩ := G
  refine wp_aload_n d_212_1947 (by rfl) ?_
  refine wp_aload_n d_212_1948 (by rfl) ?_
  refine wp_iload d_212_1949 (by rfl) ?_
  refine wp_iconst d_212_1951 ?_
  refine wp_iadd d_212_1952 ?_
  refine wp_iald d_212_1953 (Or.inr (by assumption)) (by omega) (by omega) (fun x_1953 e_1953 r_1953 => ?_)
  refine wp_aload_n d_212_1954 (by rfl) ?_
  refine wp_iload d_212_1955 (by rfl) ?_
  refine wp_iconst d_212_1957 ?_
  refine wp_iadd d_212_1958 ?_
  refine wp_iald d_212_1959 (Or.inr (by assumption)) (by omega) (by omega) (fun x_1959 e_1959 r_1959 => ?_)
  refine wp_aload_n d_212_1960 (by rfl) ?_
  refine wp_iload d_212_1961 (by rfl) ?_
  refine wp_iconst d_212_1963 ?_
  refine wp_iadd d_212_1964 ?_
  refine wp_iald d_212_1965 (Or.inr (by assumption)) (by omega) (by omega) (fun x_1965 e_1965 r_1965 => ?_)
  refine wp_aload_n d_212_1966 (by rfl) ?_
  refine wp_callSW d_212_1967 cw_212_204 (by rfl) (by rfl) (by exact Nat.le_of_ble_eq_true rfl) (by exact Nat.le_of_ble_eq_true rfl) (w_find hF (by first | assumption | omega | decide) (by first | assumption | omega | decide) (by first | assumption | omega | decide) (by omega) (by omega)) (fun v_1967 h_1967 q_1967 => ?_)
  obtain ⟨rfl, hR⟩ := q_1967
  have hM1 : MF h_1967 (w + 154) := hM.kept (fun b h1 h2 => hR.2 b (by omega) (by omega) (by omega))
  have ks1 : kd h_1967 s = 200 := (hR.1 s (by omega)).1.trans ks
  have ls1 : ln h_1967 s = L := (hR.1 s (by omega)).2.trans ls
  have sc1 : ∀ k, hi h_1967 s k = hi g s k := fun k => (hR.2 s (by omega) (Or.inr hsw) (by omega)).2.2.1 k
  refine wp_istore d_212_1970 (by decide) ?_
  refine wp_aload_n d_212_1972 (by rfl) ?_
  refine wp_aload_n d_212_1973 (by rfl) ?_
  refine wp_iload d_212_1974 (by rfl) ?_
  refine wp_iconst d_212_1976 ?_
  refine wp_iadd d_212_1977 ?_
  refine wp_iald d_212_1978 (Or.inr (by assumption)) (by omega) (by omega) (fun x_1978 e_1978 r_1978 => ?_)
  refine wp_aload_n d_212_1979 (by rfl) ?_
  refine wp_iload d_212_1980 (by rfl) ?_
  refine wp_iconst d_212_1982 ?_
  refine wp_iadd d_212_1983 ?_
  refine wp_iald d_212_1984 (Or.inr (by assumption)) (by omega) (by omega) (fun x_1984 e_1984 r_1984 => ?_)
  refine wp_aload_n d_212_1985 (by rfl) ?_
  refine wp_iload d_212_1986 (by rfl) ?_
  refine wp_iconst d_212_1988 ?_
  refine wp_iadd d_212_1989 ?_
  refine wp_iald d_212_1990 (Or.inr (by assumption)) (by omega) (by omega) (fun x_1990 e_1990 r_1990 => ?_)
  refine wp_callV d_212_1991 c_212_206 rfl (by rfl) (by rfl) ⟨1, rfl, rfl, by decide⟩ (by first | assumption | exact hF.1 | exact hM1.1 | exact hM.1) (by exact Nat.le_of_ble_eq_true rfl) (by exact Nat.le_of_ble_eq_true rfl) (m_find hM1.z (by first | assumption | omega | decide) (by first | assumption | omega | decide) (by first | assumption | omega | decide)) (fun v_1991 h_1991 q_1991 => ?_) (fun _ _ q => q.elim)
  obtain ⟨rfl, hr1, hr2, hr3, hr4⟩ := q_1991
  have ks2 : kd h_1991 s = 200 := by rw [hr1]; exact ks1
  have ls2 : ln h_1991 s = L := by rw [hr2]; exact ls1
  have km2 : kd h_1991 (w + 154) = 2 := by rw [hr1]; exact hM1.1
  refine wp_istore d_212_1994 (by decide) ?_
  refine wp_aload_n d_212_1996 (by rfl) ?_
  refine wp_callV d_212_1997 c_212_126 rfl (by rfl) (by rfl) ⟨1, rfl, rfl, by decide⟩ (by first | assumption | exact hF.1 | exact hM1.1 | exact hM.1) (by exact Nat.le_of_ble_eq_true rfl) (by exact Nat.le_of_ble_eq_true rfl) (m_thrown km2 hr4) (fun v_1997 h_1997 q_1997 => ?_) (fun _ _ q => q.elim)
  obtain ⟨rfl, rfl⟩ := q_1997
  refine wp_iload d_212_2000 (by rfl) ?_
  refine wp_icmp_eq (tgt := 2007) d_212_2002 (by decide) (by omega) (by omega) (fun c_2002 => ?_) (fun c_2002 => ?_)
  rotate_left
  · exact absurd c_2002 (by omega)
  refine wp_iload d_212_2007 (by rfl) ?_
  refine wp_if_ne (tgt := 2024) d_212_2009 (by decide) (by omega) (fun c_2009 => ?_) (fun c_2009 => ?_)
  rotate_left
  · exact absurd c_2009 (by omega)
  refine wp_goto (tgt := 2538) d_212_2024 (by decide) ?_
  refine wp_to [some (vR (some s)), none, none, none, some (vI 0), none, none, none, none] ⟨rfl, rfl, trivial⟩ ?_
  exact l_next ks2 ls2 ⟨by omega, by omega⟩
set_option maxRecDepth 100000 in
set_option maxHeartbeats 4000000 in
theorem lc_25 {g : Hp} {s w : Nat} {L : Int} (G : LG g s w L) (hL : L = 5)  : wp 212 2027 [some (vR (some s)), some (vR (some w)), some (vR (some (w + 154))), some (vR (some (w + 280))), some (vI 0), none, none, none, none] [] g QL noX := by
  obtain ⟨ks, ls, hsw, hF, hM, ⟨ko, lo⟩, hn, g1, g2⟩ := G
  refine wp_aload_n d_212_2027 (by rfl) ?_
  refine wp_callV d_212_2028 c_212_207 rfl (by rfl) (by rfl) ⟨0, rfl, rfl, by decide⟩ (by first | assumption | exact hF.1 | exact hM1.1 | exact hM.1) (by exact Nat.le_of_ble_eq_true rfl) (by exact Nat.le_of_ble_eq_true rfl) (t_legs hF) (fun v_2028 h_2028 q_2028 => ?_) (fun _ _ q => q.elim)
  obtain ⟨rfl, rfl⟩ := q_2028
  refine wp_aload_n d_212_2031 (by rfl) ?_
  refine wp_callV d_212_2032 c_212_210 rfl (by rfl) (by rfl) ⟨1, rfl, rfl, by decide⟩ (by first | assumption | exact hF.1 | exact hM1.1 | exact hM.1) (by exact Nat.le_of_ble_eq_true rfl) (by exact Nat.le_of_ble_eq_true rfl) (m_legs hM.z) (fun v_2032 h_2032 q_2032 => ?_) (fun _ _ q => q.elim)
  obtain ⟨rfl, hr1, hr2, hr3, hr4⟩ := q_2032
  have ks2 : kd h_2032 s = 200 := by rw [hr1]; exact ks
  have ls2 : ln h_2032 s = L := by rw [hr2]; exact ls
  have km2 : kd h_2032 (w + 154) = 2 := by rw [hr1]; exact hM.1
  refine wp_icmp_eq (tgt := 2538) d_212_2035 (by decide) (by omega) (by omega) (fun c_2035 => ?_) (fun c_2035 => ?_)
  rotate_left
  · exact absurd c_2035 (by omega)
  refine wp_to [some (vR (some s)), none, none, none, some (vI 0), none, none, none, none] ⟨rfl, rfl, trivial⟩ ?_
  exact l_next ks2 ls2 ⟨by omega, by omega⟩
set_option maxRecDepth 100000 in
set_option maxHeartbeats 4000000 in
theorem lc_26 {g : Hp} {s w : Nat} {L : Int} (G : LG g s w L) (hL : L = 5)  : wp 212 2040 [some (vR (some s)), some (vR (some w)), some (vR (some (w + 154))), some (vR (some (w + 280))), some (vI 0), none, none, none, none] [] g QL noX := by
  obtain ⟨ks, ls, hsw, hF, hM, ⟨ko, lo⟩, hn, g1, g2⟩ := G
  refine wp_aload_n d_212_2040 (by rfl) ?_
  refine wp_aload_n d_212_2041 (by rfl) ?_
  refine wp_iload d_212_2042 (by rfl) ?_
  refine wp_iconst d_212_2044 ?_
  refine wp_iadd d_212_2045 ?_
  refine wp_iald d_212_2046 (Or.inr (by assumption)) (by omega) (by omega) (fun x_2046 e_2046 r_2046 => ?_)
  refine wp_aload_n d_212_2047 (by rfl) ?_
  refine wp_callSW d_212_2048 cw_212_211 (by rfl) (by rfl) (by exact Nat.le_of_ble_eq_true rfl) (by exact Nat.le_of_ble_eq_true rfl) (w_legTrip hF (by first | assumption | omega | decide) (by omega) (by omega)) (fun v_2048 h_2048 q_2048 => ?_)
  obtain ⟨rfl, hR⟩ := q_2048
  have hM1 : MF h_2048 (w + 154) := hM.kept (fun b h1 h2 => hR.2 b (by omega) (by omega) (by omega))
  have ks1 : kd h_2048 s = 200 := (hR.1 s (by omega)).1.trans ks
  have ls1 : ln h_2048 s = L := (hR.1 s (by omega)).2.trans ls
  have sc1 : ∀ k, hi h_2048 s k = hi g s k := fun k => (hR.2 s (by omega) (Or.inr hsw) (by omega)).2.2.1 k
  refine wp_istore d_212_2051 (by decide) ?_
  refine wp_aload_n d_212_2053 (by rfl) ?_
  refine wp_aload_n d_212_2054 (by rfl) ?_
  refine wp_iload d_212_2055 (by rfl) ?_
  refine wp_iconst d_212_2057 ?_
  refine wp_iadd d_212_2058 ?_
  refine wp_iald d_212_2059 (Or.inr (by assumption)) (by omega) (by omega) (fun x_2059 e_2059 r_2059 => ?_)
  refine wp_callV d_212_2060 c_212_213 rfl (by rfl) (by rfl) ⟨1, rfl, rfl, by decide⟩ (by first | assumption | exact hF.1 | exact hM1.1 | exact hM.1) (by exact Nat.le_of_ble_eq_true rfl) (by exact Nat.le_of_ble_eq_true rfl) (m_legTrip hM1.z (by first | assumption | omega | decide)) (fun v_2060 h_2060 q_2060 => ?_) (fun _ _ q => q.elim)
  obtain ⟨rfl, hr1, hr2, hr3, hr4⟩ := q_2060
  have ks2 : kd h_2060 s = 200 := by rw [hr1]; exact ks1
  have ls2 : ln h_2060 s = L := by rw [hr2]; exact ls1
  have km2 : kd h_2060 (w + 154) = 2 := by rw [hr1]; exact hM1.1
  refine wp_istore d_212_2063 (by decide) ?_
  refine wp_aload_n d_212_2065 (by rfl) ?_
  refine wp_callV d_212_2066 c_212_126 rfl (by rfl) (by rfl) ⟨1, rfl, rfl, by decide⟩ (by first | assumption | exact hF.1 | exact hM1.1 | exact hM.1) (by exact Nat.le_of_ble_eq_true rfl) (by exact Nat.le_of_ble_eq_true rfl) (m_thrown km2 hr4) (fun v_2066 h_2066 q_2066 => ?_) (fun _ _ q => q.elim)
  obtain ⟨rfl, rfl⟩ := q_2066
  refine wp_iload d_212_2069 (by rfl) ?_
  refine wp_icmp_eq (tgt := 2076) d_212_2071 (by decide) (by omega) (by omega) (fun c_2071 => ?_) (fun c_2071 => ?_)
  rotate_left
  · exact absurd c_2071 (by omega)
  refine wp_iload d_212_2076 (by rfl) ?_
  refine wp_if_ne (tgt := 2093) d_212_2078 (by decide) (by omega) (fun c_2078 => ?_) (fun c_2078 => ?_)
  rotate_left
  · exact absurd c_2078 (by omega)
  refine wp_goto (tgt := 2538) d_212_2093 (by decide) ?_
  refine wp_to [some (vR (some s)), none, none, none, some (vI 0), none, none, none, none] ⟨rfl, rfl, trivial⟩ ?_
  exact l_next ks2 ls2 ⟨by omega, by omega⟩
set_option maxRecDepth 100000 in
set_option maxHeartbeats 4000000 in
theorem lc_27 {g : Hp} {s w : Nat} {L : Int} (G : LG g s w L) (hL : L = 5)  : wp 212 2096 [some (vR (some s)), some (vR (some w)), some (vR (some (w + 154))), some (vR (some (w + 280))), some (vI 0), none, none, none, none] [] g QL noX := by
  obtain ⟨ks, ls, hsw, hF, hM, ⟨ko, lo⟩, hn, g1, g2⟩ := G
  refine wp_aload_n d_212_2096 (by rfl) ?_
  refine wp_aload_n d_212_2097 (by rfl) ?_
  refine wp_iload d_212_2098 (by rfl) ?_
  refine wp_iconst d_212_2100 ?_
  refine wp_iadd d_212_2101 ?_
  refine wp_iald d_212_2102 (Or.inr (by assumption)) (by omega) (by omega) (fun x_2102 e_2102 r_2102 => ?_)
  refine wp_aload_n d_212_2103 (by rfl) ?_
  refine wp_callSW d_212_2104 cw_212_214 (by rfl) (by rfl) (by exact Nat.le_of_ble_eq_true rfl) (by exact Nat.le_of_ble_eq_true rfl) (w_legTo hF (by first | assumption | omega | decide) (by omega) (by omega)) (fun v_2104 h_2104 q_2104 => ?_)
  obtain ⟨rfl, hR⟩ := q_2104
  have hM1 : MF h_2104 (w + 154) := hM.kept (fun b h1 h2 => hR.2 b (by omega) (by omega) (by omega))
  have ks1 : kd h_2104 s = 200 := (hR.1 s (by omega)).1.trans ks
  have ls1 : ln h_2104 s = L := (hR.1 s (by omega)).2.trans ls
  have sc1 : ∀ k, hi h_2104 s k = hi g s k := fun k => (hR.2 s (by omega) (Or.inr hsw) (by omega)).2.2.1 k
  refine wp_istore d_212_2107 (by decide) ?_
  refine wp_aload_n d_212_2109 (by rfl) ?_
  refine wp_aload_n d_212_2110 (by rfl) ?_
  refine wp_iload d_212_2111 (by rfl) ?_
  refine wp_iconst d_212_2113 ?_
  refine wp_iadd d_212_2114 ?_
  refine wp_iald d_212_2115 (Or.inr (by assumption)) (by omega) (by omega) (fun x_2115 e_2115 r_2115 => ?_)
  refine wp_callV d_212_2116 c_212_216 rfl (by rfl) (by rfl) ⟨1, rfl, rfl, by decide⟩ (by first | assumption | exact hF.1 | exact hM1.1 | exact hM.1) (by exact Nat.le_of_ble_eq_true rfl) (by exact Nat.le_of_ble_eq_true rfl) (m_legTo hM1.z (by first | assumption | omega | decide)) (fun v_2116 h_2116 q_2116 => ?_) (fun _ _ q => q.elim)
  obtain ⟨rfl, hr1, hr2, hr3, hr4⟩ := q_2116
  have ks2 : kd h_2116 s = 200 := by rw [hr1]; exact ks1
  have ls2 : ln h_2116 s = L := by rw [hr2]; exact ls1
  have km2 : kd h_2116 (w + 154) = 2 := by rw [hr1]; exact hM1.1
  refine wp_istore d_212_2119 (by decide) ?_
  refine wp_aload_n d_212_2121 (by rfl) ?_
  refine wp_callV d_212_2122 c_212_126 rfl (by rfl) (by rfl) ⟨1, rfl, rfl, by decide⟩ (by first | assumption | exact hF.1 | exact hM1.1 | exact hM.1) (by exact Nat.le_of_ble_eq_true rfl) (by exact Nat.le_of_ble_eq_true rfl) (m_thrown km2 hr4) (fun v_2122 h_2122 q_2122 => ?_) (fun _ _ q => q.elim)
  obtain ⟨rfl, rfl⟩ := q_2122
  refine wp_iload d_212_2125 (by rfl) ?_
  refine wp_icmp_eq (tgt := 2132) d_212_2127 (by decide) (by omega) (by omega) (fun c_2127 => ?_) (fun c_2127 => ?_)
  rotate_left
  · exact absurd c_2127 (by omega)
  refine wp_iload d_212_2132 (by rfl) ?_
  refine wp_if_ne (tgt := 2149) d_212_2134 (by decide) (by omega) (fun c_2134 => ?_) (fun c_2134 => ?_)
  rotate_left
  · exact absurd c_2134 (by omega)
  refine wp_goto (tgt := 2538) d_212_2149 (by decide) ?_
  refine wp_to [some (vR (some s)), none, none, none, some (vI 0), none, none, none, none] ⟨rfl, rfl, trivial⟩ ?_
  exact l_next ks2 ls2 ⟨by omega, by omega⟩
set_option maxRecDepth 100000 in
set_option maxHeartbeats 4000000 in
theorem lc_28 {g : Hp} {s w : Nat} {L : Int} (G : LG g s w L) (hL : L = 5)  : wp 212 2152 [some (vR (some s)), some (vR (some w)), some (vR (some (w + 154))), some (vR (some (w + 280))), some (vI 0), none, none, none, none] [] g QL noX := by
  obtain ⟨ks, ls, hsw, hF, hM, ⟨ko, lo⟩, hn, g1, g2⟩ := G
  refine wp_aload_n d_212_2152 (by rfl) ?_
  refine wp_aload_n d_212_2153 (by rfl) ?_
  refine wp_iload d_212_2154 (by rfl) ?_
  refine wp_iconst d_212_2156 ?_
  refine wp_iadd d_212_2157 ?_
  refine wp_iald d_212_2158 (Or.inr (by assumption)) (by omega) (by omega) (fun x_2158 e_2158 r_2158 => ?_)
  refine wp_aload_n d_212_2159 (by rfl) ?_
  refine wp_callSW d_212_2160 cw_212_217 (by rfl) (by rfl) (by exact Nat.le_of_ble_eq_true rfl) (by exact Nat.le_of_ble_eq_true rfl) (w_legBegin hF (by first | assumption | omega | decide) (by omega) (by omega)) (fun v_2160 h_2160 q_2160 => ?_)
  obtain ⟨rfl, hR⟩ := q_2160
  have hM1 : MF h_2160 (w + 154) := hM.kept (fun b h1 h2 => hR.2 b (by omega) (by omega) (by omega))
  have ks1 : kd h_2160 s = 200 := (hR.1 s (by omega)).1.trans ks
  have ls1 : ln h_2160 s = L := (hR.1 s (by omega)).2.trans ls
  have sc1 : ∀ k, hi h_2160 s k = hi g s k := fun k => (hR.2 s (by omega) (Or.inr hsw) (by omega)).2.2.1 k
  refine wp_istore d_212_2163 (by decide) ?_
  refine wp_aload_n d_212_2165 (by rfl) ?_
  refine wp_aload_n d_212_2166 (by rfl) ?_
  refine wp_iload d_212_2167 (by rfl) ?_
  refine wp_iconst d_212_2169 ?_
  refine wp_iadd d_212_2170 ?_
  refine wp_iald d_212_2171 (Or.inr (by assumption)) (by omega) (by omega) (fun x_2171 e_2171 r_2171 => ?_)
  refine wp_callV d_212_2172 c_212_219 rfl (by rfl) (by rfl) ⟨1, rfl, rfl, by decide⟩ (by first | assumption | exact hF.1 | exact hM1.1 | exact hM.1) (by exact Nat.le_of_ble_eq_true rfl) (by exact Nat.le_of_ble_eq_true rfl) (m_legBegin hM1.z (by first | assumption | omega | decide)) (fun v_2172 h_2172 q_2172 => ?_) (fun _ _ q => q.elim)
  obtain ⟨rfl, hr1, hr2, hr3, hr4⟩ := q_2172
  have ks2 : kd h_2172 s = 200 := by rw [hr1]; exact ks1
  have ls2 : ln h_2172 s = L := by rw [hr2]; exact ls1
  have km2 : kd h_2172 (w + 154) = 2 := by rw [hr1]; exact hM1.1
  refine wp_istore d_212_2175 (by decide) ?_
  refine wp_aload_n d_212_2177 (by rfl) ?_
  refine wp_callV d_212_2178 c_212_126 rfl (by rfl) (by rfl) ⟨1, rfl, rfl, by decide⟩ (by first | assumption | exact hF.1 | exact hM1.1 | exact hM.1) (by exact Nat.le_of_ble_eq_true rfl) (by exact Nat.le_of_ble_eq_true rfl) (m_thrown km2 hr4) (fun v_2178 h_2178 q_2178 => ?_) (fun _ _ q => q.elim)
  obtain ⟨rfl, rfl⟩ := q_2178
  refine wp_iload d_212_2181 (by rfl) ?_
  refine wp_icmp_eq (tgt := 2188) d_212_2183 (by decide) (by omega) (by omega) (fun c_2183 => ?_) (fun c_2183 => ?_)
  rotate_left
  · exact absurd c_2183 (by omega)
  refine wp_iload d_212_2188 (by rfl) ?_
  refine wp_if_ne (tgt := 2205) d_212_2190 (by decide) (by omega) (fun c_2190 => ?_) (fun c_2190 => ?_)
  rotate_left
  · exact absurd c_2190 (by omega)
  refine wp_goto (tgt := 2538) d_212_2205 (by decide) ?_
  refine wp_to [some (vR (some s)), none, none, none, some (vI 0), none, none, none, none] ⟨rfl, rfl, trivial⟩ ?_
  exact l_next ks2 ls2 ⟨by omega, by omega⟩
set_option maxRecDepth 100000 in
set_option maxHeartbeats 4000000 in
theorem lc_29 {g : Hp} {s w : Nat} {L : Int} (G : LG g s w L) (hL : L = 5)  : wp 212 2208 [some (vR (some s)), some (vR (some w)), some (vR (some (w + 154))), some (vR (some (w + 280))), some (vI 0), none, none, none, none] [] g QL noX := by
  obtain ⟨ks, ls, hsw, hF, hM, ⟨ko, lo⟩, hn, g1, g2⟩ := G
  refine wp_aload_n d_212_2208 (by rfl) ?_
  refine wp_aload_n d_212_2209 (by rfl) ?_
  refine wp_iload d_212_2210 (by rfl) ?_
  refine wp_iconst d_212_2212 ?_
  refine wp_iadd d_212_2213 ?_
  refine wp_iald d_212_2214 (Or.inr (by assumption)) (by omega) (by omega) (fun x_2214 e_2214 r_2214 => ?_)
  refine wp_aload_n d_212_2215 (by rfl) ?_
  refine wp_callSW d_212_2216 cw_212_220 (by rfl) (by rfl) (by exact Nat.le_of_ble_eq_true rfl) (by exact Nat.le_of_ble_eq_true rfl) (w_legEnd hF (by first | assumption | omega | decide) (by omega) (by omega)) (fun v_2216 h_2216 q_2216 => ?_)
  obtain ⟨rfl, hR⟩ := q_2216
  have hM1 : MF h_2216 (w + 154) := hM.kept (fun b h1 h2 => hR.2 b (by omega) (by omega) (by omega))
  have ks1 : kd h_2216 s = 200 := (hR.1 s (by omega)).1.trans ks
  have ls1 : ln h_2216 s = L := (hR.1 s (by omega)).2.trans ls
  have sc1 : ∀ k, hi h_2216 s k = hi g s k := fun k => (hR.2 s (by omega) (Or.inr hsw) (by omega)).2.2.1 k
  refine wp_istore d_212_2219 (by decide) ?_
  refine wp_aload_n d_212_2221 (by rfl) ?_
  refine wp_aload_n d_212_2222 (by rfl) ?_
  refine wp_iload d_212_2223 (by rfl) ?_
  refine wp_iconst d_212_2225 ?_
  refine wp_iadd d_212_2226 ?_
  refine wp_iald d_212_2227 (Or.inr (by assumption)) (by omega) (by omega) (fun x_2227 e_2227 r_2227 => ?_)
  refine wp_callV d_212_2228 c_212_222 rfl (by rfl) (by rfl) ⟨1, rfl, rfl, by decide⟩ (by first | assumption | exact hF.1 | exact hM1.1 | exact hM.1) (by exact Nat.le_of_ble_eq_true rfl) (by exact Nat.le_of_ble_eq_true rfl) (m_legEnd hM1.z (by first | assumption | omega | decide)) (fun v_2228 h_2228 q_2228 => ?_) (fun _ _ q => q.elim)
  obtain ⟨rfl, hr1, hr2, hr3, hr4⟩ := q_2228
  have ks2 : kd h_2228 s = 200 := by rw [hr1]; exact ks1
  have ls2 : ln h_2228 s = L := by rw [hr2]; exact ls1
  have km2 : kd h_2228 (w + 154) = 2 := by rw [hr1]; exact hM1.1
  refine wp_istore d_212_2231 (by decide) ?_
  refine wp_aload_n d_212_2233 (by rfl) ?_
  refine wp_callV d_212_2234 c_212_126 rfl (by rfl) (by rfl) ⟨1, rfl, rfl, by decide⟩ (by first | assumption | exact hF.1 | exact hM1.1 | exact hM.1) (by exact Nat.le_of_ble_eq_true rfl) (by exact Nat.le_of_ble_eq_true rfl) (m_thrown km2 hr4) (fun v_2234 h_2234 q_2234 => ?_) (fun _ _ q => q.elim)
  obtain ⟨rfl, rfl⟩ := q_2234
  refine wp_iload d_212_2237 (by rfl) ?_
  refine wp_icmp_eq (tgt := 2244) d_212_2239 (by decide) (by omega) (by omega) (fun c_2239 => ?_) (fun c_2239 => ?_)
  rotate_left
  · exact absurd c_2239 (by omega)
  refine wp_iload d_212_2244 (by rfl) ?_
  refine wp_if_ne (tgt := 2261) d_212_2246 (by decide) (by omega) (fun c_2246 => ?_) (fun c_2246 => ?_)
  rotate_left
  · exact absurd c_2246 (by omega)
  refine wp_goto (tgt := 2538) d_212_2261 (by decide) ?_
  refine wp_to [some (vR (some s)), none, none, none, some (vI 0), none, none, none, none] ⟨rfl, rfl, trivial⟩ ?_
  exact l_next ks2 ls2 ⟨by omega, by omega⟩
set_option maxRecDepth 100000 in
set_option maxHeartbeats 4000000 in
theorem lc_30 {g : Hp} {s w : Nat} {L : Int} (G : LG g s w L) (hL : L = 5)  : wp 212 2264 [some (vR (some s)), some (vR (some w)), some (vR (some (w + 154))), some (vR (some (w + 280))), some (vI 0), none, none, none, none] [] g QL noX := by
  obtain ⟨ks, ls, hsw, hF, hM, ⟨ko, lo⟩, hn, g1, g2⟩ := G
  refine wp_aload_n d_212_2264 (by rfl) ?_
  refine wp_aload_n d_212_2265 (by rfl) ?_
  refine wp_callSW d_212_2266 cw_212_223 (by rfl) (by rfl) (by exact Nat.le_of_ble_eq_true rfl) (by exact Nat.le_of_ble_eq_true rfl) (w_slack hF  (by omega) (by omega)) (fun v_2266 h_2266 q_2266 => ?_)
  obtain ⟨rfl, hR⟩ := q_2266
  have hM1 : MF h_2266 (w + 154) := hM.kept (fun b h1 h2 => hR.2 b (by omega) (by omega) (by omega))
  have ks1 : kd h_2266 s = 200 := (hR.1 s (by omega)).1.trans ks
  have ls1 : ln h_2266 s = L := (hR.1 s (by omega)).2.trans ls
  have sc1 : ∀ k, hi h_2266 s k = hi g s k := fun k => (hR.2 s (by omega) (Or.inr hsw) (by omega)).2.2.1 k
  refine wp_istore d_212_2269 (by decide) ?_
  refine wp_aload_n d_212_2271 (by rfl) ?_
  refine wp_callV d_212_2272 c_212_226 rfl (by rfl) (by rfl) ⟨1, rfl, rfl, by decide⟩ (by first | assumption | exact hF.1 | exact hM1.1 | exact hM.1) (by exact Nat.le_of_ble_eq_true rfl) (by exact Nat.le_of_ble_eq_true rfl) (m_slack hM1.z ) (fun v_2272 h_2272 q_2272 => ?_) (fun _ _ q => q.elim)
  obtain ⟨rfl, hr1, hr2, hr3, hr4⟩ := q_2272
  have ks2 : kd h_2272 s = 200 := by rw [hr1]; exact ks1
  have ls2 : ln h_2272 s = L := by rw [hr2]; exact ls1
  have km2 : kd h_2272 (w + 154) = 2 := by rw [hr1]; exact hM1.1
  refine wp_istore d_212_2275 (by decide) ?_
  refine wp_aload_n d_212_2277 (by rfl) ?_
  refine wp_callV d_212_2278 c_212_126 rfl (by rfl) (by rfl) ⟨1, rfl, rfl, by decide⟩ (by first | assumption | exact hF.1 | exact hM1.1 | exact hM.1) (by exact Nat.le_of_ble_eq_true rfl) (by exact Nat.le_of_ble_eq_true rfl) (m_thrown km2 hr4) (fun v_2278 h_2278 q_2278 => ?_) (fun _ _ q => q.elim)
  obtain ⟨rfl, rfl⟩ := q_2278
  refine wp_iload d_212_2281 (by rfl) ?_
  refine wp_icmp_eq (tgt := 2288) d_212_2283 (by decide) (by omega) (by omega) (fun c_2283 => ?_) (fun c_2283 => ?_)
  rotate_left
  · exact absurd c_2283 (by omega)
  refine wp_iload d_212_2288 (by rfl) ?_
  refine wp_if_ne (tgt := 2305) d_212_2290 (by decide) (by omega) (fun c_2290 => ?_) (fun c_2290 => ?_)
  rotate_left
  · exact absurd c_2290 (by omega)
  refine wp_goto (tgt := 2538) d_212_2305 (by decide) ?_
  refine wp_to [some (vR (some s)), none, none, none, some (vI 0), none, none, none, none] ⟨rfl, rfl, trivial⟩ ?_
  exact l_next ks2 ls2 ⟨by omega, by omega⟩
set_option maxRecDepth 100000 in
set_option maxHeartbeats 4000000 in
theorem lc_31 {g : Hp} {s w : Nat} {L : Int} (G : LG g s w L) (hL : L = 5)  : wp 212 2308 [some (vR (some s)), some (vR (some w)), some (vR (some (w + 154))), some (vR (some (w + 280))), some (vI 0), none, none, none, none] [] g QL noX := by
  obtain ⟨ks, ls, hsw, hF, hM, ⟨ko, lo⟩, hn, g1, g2⟩ := G
  refine wp_aload_n d_212_2308 (by rfl) ?_
  refine wp_aload_n d_212_2309 (by rfl) ?_
  refine wp_callSW d_212_2310 cw_212_227 (by rfl) (by rfl) (by exact Nat.le_of_ble_eq_true rfl) (by exact Nat.le_of_ble_eq_true rfl) (w_price hF  (by omega) (by omega)) (fun v_2310 h_2310 q_2310 => ?_)
  obtain ⟨rfl, hR⟩ := q_2310
  have hM1 : MF h_2310 (w + 154) := hM.kept (fun b h1 h2 => hR.2 b (by omega) (by omega) (by omega))
  have ks1 : kd h_2310 s = 200 := (hR.1 s (by omega)).1.trans ks
  have ls1 : ln h_2310 s = L := (hR.1 s (by omega)).2.trans ls
  have sc1 : ∀ k, hi h_2310 s k = hi g s k := fun k => (hR.2 s (by omega) (Or.inr hsw) (by omega)).2.2.1 k
  refine wp_istore d_212_2313 (by decide) ?_
  refine wp_aload_n d_212_2315 (by rfl) ?_
  refine wp_callV d_212_2316 c_212_229 rfl (by rfl) (by rfl) ⟨1, rfl, rfl, by decide⟩ (by first | assumption | exact hF.1 | exact hM1.1 | exact hM.1) (by exact Nat.le_of_ble_eq_true rfl) (by exact Nat.le_of_ble_eq_true rfl) (m_price hM1.z ) (fun v_2316 h_2316 q_2316 => ?_) (fun _ _ q => q.elim)
  obtain ⟨rfl, hr1, hr2, hr3, hr4⟩ := q_2316
  have ks2 : kd h_2316 s = 200 := by rw [hr1]; exact ks1
  have ls2 : ln h_2316 s = L := by rw [hr2]; exact ls1
  have km2 : kd h_2316 (w + 154) = 2 := by rw [hr1]; exact hM1.1
  refine wp_istore d_212_2319 (by decide) ?_
  refine wp_aload_n d_212_2321 (by rfl) ?_
  refine wp_callV d_212_2322 c_212_126 rfl (by rfl) (by rfl) ⟨1, rfl, rfl, by decide⟩ (by first | assumption | exact hF.1 | exact hM1.1 | exact hM.1) (by exact Nat.le_of_ble_eq_true rfl) (by exact Nat.le_of_ble_eq_true rfl) (m_thrown km2 hr4) (fun v_2322 h_2322 q_2322 => ?_) (fun _ _ q => q.elim)
  obtain ⟨rfl, rfl⟩ := q_2322
  refine wp_iload d_212_2325 (by rfl) ?_
  refine wp_icmp_eq (tgt := 2332) d_212_2327 (by decide) (by omega) (by omega) (fun c_2327 => ?_) (fun c_2327 => ?_)
  rotate_left
  · exact absurd c_2327 (by omega)
  refine wp_iload d_212_2332 (by rfl) ?_
  refine wp_if_ne (tgt := 2349) d_212_2334 (by decide) (by omega) (fun c_2334 => ?_) (fun c_2334 => ?_)
  rotate_left
  · exact absurd c_2334 (by omega)
  refine wp_goto (tgt := 2538) d_212_2349 (by decide) ?_
  refine wp_to [some (vR (some s)), none, none, none, some (vI 0), none, none, none, none] ⟨rfl, rfl, trivial⟩ ?_
  exact l_next ks2 ls2 ⟨by omega, by omega⟩
set_option maxRecDepth 100000 in
set_option maxHeartbeats 4000000 in
theorem lc_32 {g : Hp} {s w : Nat} {L : Int} (G : LG g s w L) (hL : L = 5)  : wp 212 2352 [some (vR (some s)), some (vR (some w)), some (vR (some (w + 154))), some (vR (some (w + 280))), some (vI 0), none, none, none, none] [] g QL noX := by
  obtain ⟨ks, ls, hsw, hF, hM, ⟨ko, lo⟩, hn, g1, g2⟩ := G
  refine wp_aload_n d_212_2352 (by rfl) ?_
  refine wp_aload_n d_212_2353 (by rfl) ?_
  refine wp_callSW d_212_2354 cw_212_230 (by rfl) (by rfl) (by exact Nat.le_of_ble_eq_true rfl) (by exact Nat.le_of_ble_eq_true rfl) (w_holds hF  (by omega) (by omega)) (fun v_2354 h_2354 q_2354 => ?_)
  obtain ⟨rfl, hR⟩ := q_2354
  have hM1 : MF h_2354 (w + 154) := hM.kept (fun b h1 h2 => hR.2 b (by omega) (by omega) (by omega))
  have ks1 : kd h_2354 s = 200 := (hR.1 s (by omega)).1.trans ks
  have ls1 : ln h_2354 s = L := (hR.1 s (by omega)).2.trans ls
  have sc1 : ∀ k, hi h_2354 s k = hi g s k := fun k => (hR.2 s (by omega) (Or.inr hsw) (by omega)).2.2.1 k
  refine wp_istore d_212_2357 (by decide) ?_
  refine wp_aload_n d_212_2359 (by rfl) ?_
  refine wp_callV d_212_2360 c_212_232 rfl (by rfl) (by rfl) ⟨1, rfl, rfl, by decide⟩ (by first | assumption | exact hF.1 | exact hM1.1 | exact hM.1) (by exact Nat.le_of_ble_eq_true rfl) (by exact Nat.le_of_ble_eq_true rfl) (m_holds hM1.z ) (fun v_2360 h_2360 q_2360 => ?_) (fun _ _ q => q.elim)
  obtain ⟨rfl, hr1, hr2, hr3, hr4⟩ := q_2360
  have ks2 : kd h_2360 s = 200 := by rw [hr1]; exact ks1
  have ls2 : ln h_2360 s = L := by rw [hr2]; exact ls1
  have km2 : kd h_2360 (w + 154) = 2 := by rw [hr1]; exact hM1.1
  refine wp_istore d_212_2363 (by decide) ?_
  refine wp_aload_n d_212_2365 (by rfl) ?_
  refine wp_callV d_212_2366 c_212_126 rfl (by rfl) (by rfl) ⟨1, rfl, rfl, by decide⟩ (by first | assumption | exact hF.1 | exact hM1.1 | exact hM.1) (by exact Nat.le_of_ble_eq_true rfl) (by exact Nat.le_of_ble_eq_true rfl) (m_thrown km2 hr4) (fun v_2366 h_2366 q_2366 => ?_) (fun _ _ q => q.elim)
  obtain ⟨rfl, rfl⟩ := q_2366
  refine wp_iload d_212_2369 (by rfl) ?_
  refine wp_icmp_eq (tgt := 2376) d_212_2371 (by decide) (by omega) (by omega) (fun c_2371 => ?_) (fun c_2371 => ?_)
  rotate_left
  · exact absurd c_2371 (by omega)
  refine wp_iload d_212_2376 (by rfl) ?_
  refine wp_if_ne (tgt := 2400) d_212_2378 (by decide) (by omega) (fun c_2378 => ?_) (fun c_2378 => ?_)
  rotate_left
  · exact absurd c_2378 (by omega)
  refine wp_goto (tgt := 2538) d_212_2400 (by decide) ?_
  refine wp_to [some (vR (some s)), none, none, none, some (vI 0), none, none, none, none] ⟨rfl, rfl, trivial⟩ ?_
  exact l_next ks2 ls2 ⟨by omega, by omega⟩
set_option maxRecDepth 100000 in
set_option maxHeartbeats 4000000 in
theorem lc_33 {g : Hp} {s w : Nat} {L : Int} (G : LG g s w L) (hL : L = 5)  : wp 212 2403 [some (vR (some s)), some (vR (some w)), some (vR (some (w + 154))), some (vR (some (w + 280))), some (vI 0), none, none, none, none] [] g QL noX := by
  obtain ⟨ks, ls, hsw, hF, hM, ⟨ko, lo⟩, hn, g1, g2⟩ := G
  refine wp_aload_n d_212_2403 (by rfl) ?_
  refine wp_aload_n d_212_2404 (by rfl) ?_
  refine wp_iload d_212_2405 (by rfl) ?_
  refine wp_iconst d_212_2407 ?_
  refine wp_iadd d_212_2408 ?_
  refine wp_iald d_212_2409 (Or.inr (by assumption)) (by omega) (by omega) (fun x_2409 e_2409 r_2409 => ?_)
  refine wp_aload_n d_212_2410 (by rfl) ?_
  refine wp_iload d_212_2411 (by rfl) ?_
  refine wp_iconst d_212_2413 ?_
  refine wp_iadd d_212_2414 ?_
  refine wp_iald d_212_2415 (Or.inr (by assumption)) (by omega) (by omega) (fun x_2415 e_2415 r_2415 => ?_)
  refine wp_aload_n d_212_2416 (by rfl) ?_
  refine wp_iload d_212_2417 (by rfl) ?_
  refine wp_iconst d_212_2419 ?_
  refine wp_iadd d_212_2420 ?_
  refine wp_iald d_212_2421 (Or.inr (by assumption)) (by omega) (by omega) (fun x_2421 e_2421 r_2421 => ?_)
  refine wp_aload_n d_212_2422 (by rfl) ?_
  refine wp_callSW d_212_2423 cw_212_233 (by rfl) (by rfl) (by exact Nat.le_of_ble_eq_true rfl) (by exact Nat.le_of_ble_eq_true rfl) (w_earliestIf hF (by first | assumption | omega | decide) (by first | assumption | omega | decide) (by first | assumption | omega | decide) (by omega) (by omega)) (fun v_2423 h_2423 q_2423 => ?_)
  obtain ⟨rfl, hR⟩ := q_2423
  have hM1 : MF h_2423 (w + 154) := hM.kept (fun b h1 h2 => hR.2 b (by omega) (by omega) (by omega))
  have ks1 : kd h_2423 s = 200 := (hR.1 s (by omega)).1.trans ks
  have ls1 : ln h_2423 s = L := (hR.1 s (by omega)).2.trans ls
  have sc1 : ∀ k, hi h_2423 s k = hi g s k := fun k => (hR.2 s (by omega) (Or.inr hsw) (by omega)).2.2.1 k
  refine wp_istore d_212_2426 (by decide) ?_
  refine wp_aload_n d_212_2428 (by rfl) ?_
  refine wp_aload_n d_212_2429 (by rfl) ?_
  refine wp_iload d_212_2430 (by rfl) ?_
  refine wp_iconst d_212_2432 ?_
  refine wp_iadd d_212_2433 ?_
  refine wp_iald d_212_2434 (Or.inr (by assumption)) (by omega) (by omega) (fun x_2434 e_2434 r_2434 => ?_)
  refine wp_aload_n d_212_2435 (by rfl) ?_
  refine wp_iload d_212_2436 (by rfl) ?_
  refine wp_iconst d_212_2438 ?_
  refine wp_iadd d_212_2439 ?_
  refine wp_iald d_212_2440 (Or.inr (by assumption)) (by omega) (by omega) (fun x_2440 e_2440 r_2440 => ?_)
  refine wp_aload_n d_212_2441 (by rfl) ?_
  refine wp_iload d_212_2442 (by rfl) ?_
  refine wp_iconst d_212_2444 ?_
  refine wp_iadd d_212_2445 ?_
  refine wp_iald d_212_2446 (Or.inr (by assumption)) (by omega) (by omega) (fun x_2446 e_2446 r_2446 => ?_)
  refine wp_callV d_212_2447 c_212_235 rfl (by rfl) (by rfl) ⟨1, rfl, rfl, by decide⟩ (by first | assumption | exact hF.1 | exact hM1.1 | exact hM.1) (by exact Nat.le_of_ble_eq_true rfl) (by exact Nat.le_of_ble_eq_true rfl) (m_earliestIf hM1.z (by first | assumption | omega | decide) (by first | assumption | omega | decide) (by first | assumption | omega | decide)) (fun v_2447 h_2447 q_2447 => ?_) (fun _ _ q => q.elim)
  obtain ⟨rfl, hr1, hr2, hr3, hr4⟩ := q_2447
  have ks2 : kd h_2447 s = 200 := by rw [hr1]; exact ks1
  have ls2 : ln h_2447 s = L := by rw [hr2]; exact ls1
  have km2 : kd h_2447 (w + 154) = 2 := by rw [hr1]; exact hM1.1
  refine wp_istore d_212_2450 (by decide) ?_
  refine wp_aload_n d_212_2452 (by rfl) ?_
  refine wp_callV d_212_2453 c_212_126 rfl (by rfl) (by rfl) ⟨1, rfl, rfl, by decide⟩ (by first | assumption | exact hF.1 | exact hM1.1 | exact hM.1) (by exact Nat.le_of_ble_eq_true rfl) (by exact Nat.le_of_ble_eq_true rfl) (m_thrown km2 hr4) (fun v_2453 h_2453 q_2453 => ?_) (fun _ _ q => q.elim)
  obtain ⟨rfl, rfl⟩ := q_2453
  refine wp_iload d_212_2456 (by rfl) ?_
  refine wp_icmp_eq (tgt := 2463) d_212_2458 (by decide) (by omega) (by omega) (fun c_2458 => ?_) (fun c_2458 => ?_)
  rotate_left
  · exact absurd c_2458 (by omega)
  refine wp_iload d_212_2463 (by rfl) ?_
  refine wp_if_ne (tgt := 2480) d_212_2465 (by decide) (by omega) (fun c_2465 => ?_) (fun c_2465 => ?_)
  rotate_left
  · exact absurd c_2465 (by omega)
  refine wp_goto (tgt := 2538) d_212_2480 (by decide) ?_
  refine wp_to [some (vR (some s)), none, none, none, some (vI 0), none, none, none, none] ⟨rfl, rfl, trivial⟩ ?_
  exact l_next ks2 ls2 ⟨by omega, by omega⟩
set_option maxRecDepth 100000 in
set_option maxHeartbeats 4000000 in
theorem lc_34 {g : Hp} {s w : Nat} {L : Int} (G : LG g s w L) (hL : L = 5)  : wp 212 2483 [some (vR (some s)), some (vR (some w)), some (vR (some (w + 154))), some (vR (some (w + 280))), some (vI 0), none, none, none, none] [] g QL noX := by
  obtain ⟨ks, ls, hsw, hF, hM, ⟨ko, lo⟩, hn, g1, g2⟩ := G
  refine wp_aload_n d_212_2483 (by rfl) ?_
  refine wp_callV d_212_2484 c_212_236 rfl (by rfl) (by rfl) ⟨0, rfl, rfl, by decide⟩ (by first | assumption | exact hF.1 | exact hM1.1 | exact hM.1) (by exact Nat.le_of_ble_eq_true rfl) (by exact Nat.le_of_ble_eq_true rfl) (t_moving hF) (fun v_2484 h_2484 q_2484 => ?_) (fun _ _ q => q.elim)
  obtain ⟨rfl, rfl⟩ := q_2484
  refine wp_dstore d_212_2487 (by decide) ?_
  refine wp_aload_n d_212_2489 (by rfl) ?_
  refine wp_callV d_212_2490 c_212_240 rfl (by rfl) (by rfl) ⟨1, rfl, rfl, by decide⟩ (by first | assumption | exact hF.1 | exact hM1.1 | exact hM.1) (by exact Nat.le_of_ble_eq_true rfl) (by exact Nat.le_of_ble_eq_true rfl) (m_moving hM.z) (fun v_2490 h_2490 q_2490 => ?_) (fun _ _ q => q.elim)
  obtain ⟨rfl, hr1, hr2, hr3, hr4⟩ := q_2490
  have ks2 : kd h_2490 s = 200 := by rw [hr1]; exact ks
  have ls2 : ln h_2490 s = L := by rw [hr2]; exact ls
  have km2 : kd h_2490 (w + 154) = 2 := by rw [hr1]; exact hM.1
  refine wp_dstore d_212_2493 (by decide) ?_
  refine wp_dload d_212_2495 (by rfl) ?_
  refine wp_dload d_212_2497 (by rfl) ?_
  refine wp_dcmp (z := 0) d_212_2499 (by decide +kernel) ?_
  refine wp_if_eq (tgt := 2521) d_212_2500 (by decide) (by omega) (fun c_2500 => ?_) (fun c_2500 => ?_)
  rotate_left
  · exact absurd c_2500 (by omega)
  refine wp_goto (tgt := 2538) d_212_2521 (by decide) ?_
  refine wp_to [some (vR (some s)), none, none, none, some (vI 0), none, none, none, none] ⟨rfl, rfl, trivial⟩ ?_
  exact l_next ks2 ls2 ⟨by omega, by omega⟩
set_option maxRecDepth 100000 in
set_option maxHeartbeats 4000000 in
theorem lc_35 {g : Hp} {s w : Nat} {L : Int} (G : LG g s w L) (hL : L = 5)  : wp 212 2524 [some (vR (some s)), some (vR (some w)), some (vR (some (w + 154))), some (vR (some (w + 280))), some (vI 0), none, none, none, none] [] g QL noX := by
  obtain ⟨ks, ls, hsw, hF, hM, ⟨ko, lo⟩, hn, g1, g2⟩ := G
  refine wp_aload_n d_212_2524 (by rfl) ?_
  refine wp_callV d_212_2525 c_212_241 rfl (by rfl) (by rfl) ⟨0, rfl, rfl, by decide⟩ (by first | assumption | exact hF.1 | exact hM1.1 | exact hM.1) (by exact Nat.le_of_ble_eq_true rfl) (by exact Nat.le_of_ble_eq_true rfl) (t_digest hF) (fun v_2525 h_2525 q_2525 => ?_) (fun _ _ q => q.elim)
  obtain ⟨rfl, rfl⟩ := q_2525
  refine wp_aload_n d_212_2528 (by rfl) ?_
  refine wp_callV d_212_2529 c_212_245 rfl (by rfl) (by rfl) ⟨1, rfl, rfl, by decide⟩ (by first | assumption | exact hF.1 | exact hM1.1 | exact hM.1) (by exact Nat.le_of_ble_eq_true rfl) (by exact Nat.le_of_ble_eq_true rfl) (m_digest hM.z) (fun v_2529 h_2529 q_2529 => ?_) (fun _ _ q => q.elim)
  obtain ⟨rfl, hr1, hr2, hr3, hr4⟩ := q_2529
  have ks2 : kd h_2529 s = 200 := by rw [hr1]; exact ks
  have ls2 : ln h_2529 s = L := by rw [hr2]; exact ls
  have km2 : kd h_2529 (w + 154) = 2 := by rw [hr1]; exact hM.1
  refine wp_lcmp d_212_2532 (by omega) (by omega) ?_
  refine wp_if_eq (tgt := 2538) d_212_2533 (by decide) (by omega) (fun c_2533 => ?_) (fun c_2533 => ?_)
  rotate_left
  · exact absurd c_2533 (by omega)
  refine wp_to [some (vR (some s)), none, none, none, some (vI 0), none, none, none, none] ⟨rfl, rfl, trivial⟩ ?_
  exact l_next ks2 ls2 ⟨by omega, by omega⟩
