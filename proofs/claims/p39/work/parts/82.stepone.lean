/-! ===== a step of the law ===== -/
set_option maxRecDepth 100000 in
set_option maxHeartbeats 4000000 in
theorem l_lwRides {h1 : Hp} {G sa X A B : Nat} {tm st o d T lg V D e6 : Int} {Q : Option AV → Hp → Prop} (hT1 : TT h1 (G + 1) X) (ho : 0 ≤ o ∧ o < hi h1 (G + 1 + 1) 4) (hd : 0 ≤ d ∧ d < hi h1 (G + 1 + 1) 4) (hT : 0 ≤ T ∧ T < 7000) (hD : D ≤ 500000) : ∀ (n k : Nat) (h : Hp) (last : Int), k + n = 7 → LI h1 h G sa X D A B → (-1 ≤ last ∧ last ≤ 20000) → ((k = 0 ∧ last = -1) ∨ ∃ e, 1 ≤ k ∧ last = an e ∧ Ea h1 (G + 1) o T 2880 (k - 1) d e) →
  (∀ h' e, LI h1 h' G sa X D A B → Ea h1 (G + 1) o T 2880 6 d e → wp 108 195 [some (vR (some sa)), some (vI tm), some (vR (some G)), some (vR (some (G + 1))), some (vI st), some (vI o), some (vI d), some (vI T), some (vI lg), some (vL V), none, some (vI (an e)), some (vI 7), none, none, none, none, none, none, none, none, none, none] [] h' Q noX) → wp 108 133 [some (vR (some sa)), some (vI tm), some (vR (some G)), some (vR (some (G + 1))), some (vI st), some (vI o), some (vI d), some (vI T), some (vI lg), some (vL V), none, some (vI last), some (vI (k : Int)), none, none, none, none, none, none, none, none, none, none] [] h Q noX := by
  intro n
  induction n with
  | zero =>
    intro k h last hk q hb hl kk
    refine wp_iload d_108_133 (by rfl) ?_
    refine wp_bipush d_108_135 (by decide) ?_
    refine wp_icmp_gt (tgt := 195) d_108_137 (by decide) (by omega) (by omega) (fun c_137 => ?_) (fun c_137 => ?_)
    rotate_left
    · exact absurd c_137 (by omega)
    rcases hl with ⟨z, -⟩ | ⟨e, z1, z2, z3⟩
    · omega
    · have hk7 : k = 7 := by omega
      subst hk7
      subst z2
      exact wp_to [some (vR (some sa)), some (vI tm), some (vR (some G)), some (vR (some (G + 1))), some (vI st), some (vI o), some (vI d), some (vI T), some (vI lg), some (vL V), none, some (vI (an e)), some (vI 7), none, none, none, none, none, none, none, none, none, none] ⟨rfl, rfl, rfl, rfl, rfl, rfl, rfl, rfl, rfl, rfl, rfl, rfl, trivial⟩ (kk h e q z3)
  | succ n ih =>
    intro k h last hk q hb hl kk
    have hS := q.sk
    have hTT := q.tt
    have n4 := congrFun (q.n hT1) 4
    have kS : kd h (G + 1) = 1 := hS.1.1
    have kT : kd h G = 13 := q.1.1.1.1
    refine wp_iload d_108_133 (by rfl) ?_
    refine wp_bipush d_108_135 (by decide) ?_
    refine wp_icmp_gt (tgt := 195) d_108_137 (by decide) (by omega) (by omega) (fun c_137 => ?_) (fun c_137 => ?_)
    · exact absurd c_137 (by omega)
    refine wp_aload_n d_108_140 (by rfl) ?_
    refine wp_iload d_108_141 (by rfl) ?_
    refine wp_iload d_108_143 (by rfl) ?_
    refine wp_iload d_108_145 (by rfl) ?_
    refine wp_iload d_108_147 (by rfl) ?_
    refine wp_callV d_108_149 c_108_47 rfl (by rfl) (by rfl) ⟨0, rfl, rfl, by decide⟩ (by assumption) (by exact Nat.le_of_ble_eq_true rfl) (by exact Nat.le_of_ble_eq_true rfl) (s_withRides (X := X) (K := k) hS hTT (by omega) (by omega) (by omega) (by omega)) (fun v_149 h_149 q_149 => ?_) (fun _ _ q => q.elim)
    obtain ⟨c_149, e_149, rfl, u_149⟩ := q_149
    have L_149 := q.call c_149 (fun a z => po_in z) (fun a z => pq_in z)
    have v_149 := q.ea hT1 u_149
    have S_149 := L_149.sk
    have T_149 := L_149.tt
    have n_149 := congrFun (L_149.n hT1) 4
    have kS_149 : kd h_149 (G + 1) = 1 := S_149.1.1
    have kT_149 : kd h_149 G = 13 := L_149.1.1.1.1
    have w_149 := an_c hT1 ho (by decide) (by omega) v_149
    have lf_ : last = -1 ∨ (0 ≤ last ∧ 0 ≤ an e_149 ∧ an e_149 ≤ last) := by
      rcases hl with ⟨-, z⟩ | ⟨e0, z1, z2, z3⟩
      · exact Or.inl z
      · have y := an_c hT1 ho (by decide) (by omega) z3
        have m := JL.mono (by omega) (by omega) (by omega) z3 v_149
        omega
    clear hl
    refine wp_istore d_108_152 (by decide) ?_
    refine wp_iload d_108_154 (by rfl) ?_
    refine wp_if_lt (tgt := 166) d_108_156 (by decide) (by omega) (fun c_156 => ?_) (fun c_156 => ?_)
    · refine wp_iload d_108_166 (by rfl) ?_
      refine wp_if_lt (tgt := 185) d_108_168 (by decide) (by omega) (fun c_168 => ?_) (fun c_168 => ?_)
      · refine wp_iload d_108_185 (by rfl) ?_
        refine wp_istore d_108_187 (by decide) ?_
        refine wp_iinc d_108_189 (by rfl) (by decide) ?_
        refine wp_goto (tgt := 133) d_108_192 (by decide) ?_
        refine wp_to [some (vR (some sa)), some (vI tm), some (vR (some G)), some (vR (some (G + 1))), some (vI st), some (vI o), some (vI d), some (vI T), some (vI lg), some (vL V), none, some (vI (an e_149)), some (vI ((k + 1 : Nat) : Int)), none, none, none, none, none, none, none, none, none, none] ⟨rfl, rfl, rfl, rfl, rfl, rfl, rfl, rfl, rfl, rfl, rfl, rfl, trivial⟩ ?_
        exact ih (k + 1) h_149 (an e_149) (by omega) L_149 ⟨by omega, by omega⟩ (Or.inr ⟨e_149, by omega, rfl, v_149⟩) kk
      · refine wp_iload d_108_171 (by rfl) ?_
        refine wp_if_lt (tgt := 183) d_108_173 (by decide) (by omega) (fun c_173 => ?_) (fun c_173 => ?_)
        · exact absurd c_173 (by omega)
        refine wp_iload d_108_176 (by rfl) ?_
        refine wp_iload d_108_178 (by rfl) ?_
        refine wp_icmp_le (tgt := 185) d_108_180 (by decide) (by omega) (by omega) (fun c_180 => ?_) (fun c_180 => ?_)
        rotate_left
        · exact absurd c_180 (by omega)
        refine wp_iload d_108_185 (by rfl) ?_
        refine wp_istore d_108_187 (by decide) ?_
        refine wp_iinc d_108_189 (by rfl) (by decide) ?_
        refine wp_goto (tgt := 133) d_108_192 (by decide) ?_
        refine wp_to [some (vR (some sa)), some (vI tm), some (vR (some G)), some (vR (some (G + 1))), some (vI st), some (vI o), some (vI d), some (vI T), some (vI lg), some (vL V), none, some (vI (an e_149)), some (vI ((k + 1 : Nat) : Int)), none, none, none, none, none, none, none, none, none, none] ⟨rfl, rfl, rfl, rfl, rfl, rfl, rfl, rfl, rfl, rfl, rfl, rfl, trivial⟩ ?_
        exact ih (k + 1) h_149 (an e_149) (by omega) L_149 ⟨by omega, by omega⟩ (Or.inr ⟨e_149, by omega, rfl, v_149⟩) kk
    · refine wp_iload d_108_159 (by rfl) ?_
      refine wp_iload d_108_161 (by rfl) ?_
      refine wp_icmp_lt (tgt := 183) d_108_163 (by decide) (by omega) (by omega) (fun c_163 => ?_) (fun c_163 => ?_)
      · exact absurd c_163 (by omega)
      refine wp_iload d_108_166 (by rfl) ?_
      refine wp_if_lt (tgt := 185) d_108_168 (by decide) (by omega) (fun c_168 => ?_) (fun c_168 => ?_)
      · refine wp_iload d_108_185 (by rfl) ?_
        refine wp_istore d_108_187 (by decide) ?_
        refine wp_iinc d_108_189 (by rfl) (by decide) ?_
        refine wp_goto (tgt := 133) d_108_192 (by decide) ?_
        refine wp_to [some (vR (some sa)), some (vI tm), some (vR (some G)), some (vR (some (G + 1))), some (vI st), some (vI o), some (vI d), some (vI T), some (vI lg), some (vL V), none, some (vI (an e_149)), some (vI ((k + 1 : Nat) : Int)), none, none, none, none, none, none, none, none, none, none] ⟨rfl, rfl, rfl, rfl, rfl, rfl, rfl, rfl, rfl, rfl, rfl, rfl, trivial⟩ ?_
        exact ih (k + 1) h_149 (an e_149) (by omega) L_149 ⟨by omega, by omega⟩ (Or.inr ⟨e_149, by omega, rfl, v_149⟩) kk
      · refine wp_iload d_108_171 (by rfl) ?_
        refine wp_if_lt (tgt := 183) d_108_173 (by decide) (by omega) (fun c_173 => ?_) (fun c_173 => ?_)
        · exact absurd c_173 (by omega)
        refine wp_iload d_108_176 (by rfl) ?_
        refine wp_iload d_108_178 (by rfl) ?_
        refine wp_icmp_le (tgt := 185) d_108_180 (by decide) (by omega) (by omega) (fun c_180 => ?_) (fun c_180 => ?_)
        rotate_left
        · exact absurd c_180 (by omega)
        refine wp_iload d_108_185 (by rfl) ?_
        refine wp_istore d_108_187 (by decide) ?_
        refine wp_iinc d_108_189 (by rfl) (by decide) ?_
        refine wp_goto (tgt := 133) d_108_192 (by decide) ?_
        refine wp_to [some (vR (some sa)), some (vI tm), some (vR (some G)), some (vR (some (G + 1))), some (vI st), some (vI o), some (vI d), some (vI T), some (vI lg), some (vL V), none, some (vI (an e_149)), some (vI ((k + 1 : Nat) : Int)), none, none, none, none, none, none, none, none, none, none] ⟨rfl, rfl, rfl, rfl, rfl, rfl, rfl, rfl, rfl, rfl, rfl, rfl, trivial⟩ ?_
        exact ih (k + 1) h_149 (an e_149) (by omega) L_149 ⟨by omega, by omega⟩ (Or.inr ⟨e_149, by omega, rfl, v_149⟩) kk
set_option maxRecDepth 100000 in
set_option maxHeartbeats 4000000 in
theorem l_lwB1 {h1 : Hp} {G sa X A B : Nat} {tm st o d T lg V D e6 : Int} {Q : Option AV → Hp → Prop} (hT1 : TT h1 (G + 1) X) (ho : 0 ≤ o ∧ o < hi h1 (G + 1 + 1) 4) (hd : 0 ≤ d ∧ d < hi h1 (G + 1 + 1) 4) (hT : 0 ≤ T ∧ T < 7000) (hD : D ≤ 500000) {h : Hp} (q : LI h1 h G sa X D A B) (E6 : Ea h1 (G + 1) o T 2880 6 d e6) (hlg : (lg = -1 ∧ e6 = 1000000000) ∨ (0 ≤ lg ∧ lg ≤ 13 ∧ e6 < 1000000000)) (kk : ∀ h', LI h1 h' G sa X D A B → wp 108 248 [some (vR (some sa)), some (vI tm), some (vR (some G)), some (vR (some (G + 1))), some (vI st), some (vI o), some (vI d), some (vI T), some (vI lg), some (vL V), none, some (vI (an e6)), some (vI (an e6)), none, none, none, none, none, none, none, none, none, none] [] h' Q noX) : wp 108 195 [some (vR (some sa)), some (vI tm), some (vR (some G)), some (vR (some (G + 1))), some (vI st), some (vI o), some (vI d), some (vI T), some (vI lg), some (vL V), none, some (vI (an e6)), some (vI 7), none, none, none, none, none, none, none, none, none, none] [] h Q noX := by
  have hS := q.sk
  have hTT := q.tt
  have n4 := congrFun (q.n hT1) 4
  have kS : kd h (G + 1) = 1 := hS.1.1
  have kT : kd h G = 13 := q.1.1.1.1
  have w6 := an_c hT1 ho (by decide) (by omega) E6
  refine wp_aload_n d_108_195 (by rfl) ?_
  refine wp_iload d_108_196 (by rfl) ?_
  refine wp_iload d_108_198 (by rfl) ?_
  refine wp_iload d_108_200 (by rfl) ?_
  refine wp_callV d_108_202 c_108_51 rfl (by rfl) (by rfl) ⟨0, rfl, rfl, by decide⟩ (by assumption) (by exact Nat.le_of_ble_eq_true rfl) (by exact Nat.le_of_ble_eq_true rfl) (s_earliest (X := X) hS hTT (by omega) (by omega) (by omega)) (fun v_202 h_202 q_202 => ?_) (fun _ _ q => q.elim)
  obtain ⟨c_202, e_202, rfl, u_202⟩ := q_202
  have L_202 := q.call c_202 (fun a z => po_in z) (fun a z => pq_in z)
  have v_202 := q.ea hT1 u_202
  have S_202 := L_202.sk
  have T_202 := L_202.tt
  have n_202 := congrFun (L_202.n hT1) 4
  have kS_202 : kd h_202 (G + 1) = 1 := S_202.1.1
  have kT_202 : kd h_202 G = 13 := L_202.1.1.1.1
  have eu_202 : e6 = e_202 := JL.uniq (by omega) (by omega) E6 v_202
  subst eu_202
  refine wp_istore d_108_205 (by decide) ?_
  refine wp_iload d_108_207 (by rfl) ?_
  refine wp_iload d_108_209 (by rfl) ?_
  refine wp_icmp_ne (tgt := 279) d_108_211 (by decide) (by omega) (by omega) (fun c_211 => ?_) (fun c_211 => ?_)
  · exact absurd c_211 (by omega)
  refine wp_iload d_108_214 (by rfl) ?_
  refine wp_iload d_108_216 (by rfl) ?_
  refine wp_sipush d_108_218 (by decide) ?_
  refine wp_iadd d_108_221 ?_
  refine wp_icmp_gt (tgt := 279) d_108_222 (by decide) (by omega) (by omega) (fun c_222 => ?_) (fun c_222 => ?_)
  · exact absurd c_222 (by omega)
  refine wp_iload d_108_225 (by rfl) ?_
  refine wp_if_lt (tgt := 234) d_108_227 (by decide) (by omega) (fun c_227 => ?_) (fun c_227 => ?_)
  · refine wp_iconst d_108_234 ?_
    refine wp_iload d_108_235 (by rfl) ?_
    refine wp_if_lt (tgt := 244) d_108_237 (by decide) (by omega) (fun c_237 => ?_) (fun c_237 => ?_)
    · refine wp_iconst d_108_244 ?_
      refine wp_icmp_ne (tgt := 279) d_108_245 (by decide) (by omega) (by omega) (fun c_245 => ?_) (fun c_245 => ?_)
      · exact absurd c_245 (by omega)
      refine wp_to [some (vR (some sa)), some (vI tm), some (vR (some G)), some (vR (some (G + 1))), some (vI st), some (vI o), some (vI d), some (vI T), some (vI lg), some (vL V), none, some (vI (an e6)), some (vI (an e6)), none, none, none, none, none, none, none, none, none, none] ⟨rfl, rfl, rfl, rfl, rfl, rfl, rfl, rfl, rfl, rfl, rfl, rfl, trivial⟩ ?_
      exact kk h_202 L_202
    · refine wp_iconst d_108_240 ?_
      refine wp_goto (tgt := 245) d_108_241 (by decide) ?_
      refine wp_icmp_ne (tgt := 279) d_108_245 (by decide) (by omega) (by omega) (fun c_245 => ?_) (fun c_245 => ?_)
      · exact absurd c_245 (by omega)
      refine wp_to [some (vR (some sa)), some (vI tm), some (vR (some G)), some (vR (some (G + 1))), some (vI st), some (vI o), some (vI d), some (vI T), some (vI lg), some (vL V), none, some (vI (an e6)), some (vI (an e6)), none, none, none, none, none, none, none, none, none, none] ⟨rfl, rfl, rfl, rfl, rfl, rfl, rfl, rfl, rfl, rfl, rfl, rfl, trivial⟩ ?_
      exact kk h_202 L_202
  · refine wp_iconst d_108_230 ?_
    refine wp_goto (tgt := 235) d_108_231 (by decide) ?_
    refine wp_iload d_108_235 (by rfl) ?_
    refine wp_if_lt (tgt := 244) d_108_237 (by decide) (by omega) (fun c_237 => ?_) (fun c_237 => ?_)
    · refine wp_iconst d_108_244 ?_
      refine wp_icmp_ne (tgt := 279) d_108_245 (by decide) (by omega) (by omega) (fun c_245 => ?_) (fun c_245 => ?_)
      · exact absurd c_245 (by omega)
      refine wp_to [some (vR (some sa)), some (vI tm), some (vR (some G)), some (vR (some (G + 1))), some (vI st), some (vI o), some (vI d), some (vI T), some (vI lg), some (vL V), none, some (vI (an e6)), some (vI (an e6)), none, none, none, none, none, none, none, none, none, none] ⟨rfl, rfl, rfl, rfl, rfl, rfl, rfl, rfl, rfl, rfl, rfl, rfl, trivial⟩ ?_
      exact kk h_202 L_202
    · refine wp_iconst d_108_240 ?_
      refine wp_goto (tgt := 245) d_108_241 (by decide) ?_
      refine wp_icmp_ne (tgt := 279) d_108_245 (by decide) (by omega) (by omega) (fun c_245 => ?_) (fun c_245 => ?_)
      · exact absurd c_245 (by omega)
      refine wp_to [some (vR (some sa)), some (vI tm), some (vR (some G)), some (vR (some (G + 1))), some (vI st), some (vI o), some (vI d), some (vI T), some (vI lg), some (vL V), none, some (vI (an e6)), some (vI (an e6)), none, none, none, none, none, none, none, none, none, none] ⟨rfl, rfl, rfl, rfl, rfl, rfl, rfl, rfl, rfl, rfl, rfl, rfl, trivial⟩ ?_
      exact kk h_202 L_202
set_option maxRecDepth 100000 in
set_option maxHeartbeats 4000000 in
theorem l_lwB2 {h1 : Hp} {G sa X A B : Nat} {tm st o d T lg V D e6 : Int} {Q : Option AV → Hp → Prop} (hT1 : TT h1 (G + 1) X) (ho : 0 ≤ o ∧ o < hi h1 (G + 1 + 1) 4) (hd : 0 ≤ d ∧ d < hi h1 (G + 1 + 1) 4) (hT : 0 ≤ T ∧ T < 7000) (hD : D ≤ 500000) {h : Hp} (q : LI h1 h G sa X D A B) (E6 : Ea h1 (G + 1) o T 2880 6 d e6) (kk : ∀ h', LI h1 h' G sa X D A B → wp 108 281 [some (vR (some sa)), some (vI tm), some (vR (some G)), some (vR (some (G + 1))), some (vI st), some (vI o), some (vI d), some (vI T), some (vI lg), some (vL V), none, none, some (vI (an e6)), none, none, none, none, none, none, none, none, none, none] [] h' Q noX) : wp 108 248 [some (vR (some sa)), some (vI tm), some (vR (some G)), some (vR (some (G + 1))), some (vI st), some (vI o), some (vI d), some (vI T), some (vI lg), some (vL V), none, some (vI (an e6)), some (vI (an e6)), none, none, none, none, none, none, none, none, none, none] [] h Q noX := by
  have hS := q.sk
  have hTT := q.tt
  have n4 := congrFun (q.n hT1) 4
  have kS : kd h (G + 1) = 1 := hS.1.1
  have kT : kd h G = 13 := q.1.1.1.1
  have w6 := an_c hT1 ho (by decide) (by omega) E6
  refine wp_aload_n d_108_248 (by rfl) ?_
  refine wp_iload d_108_249 (by rfl) ?_
  refine wp_iload d_108_251 (by rfl) ?_
  refine wp_iload d_108_253 (by rfl) ?_
  refine wp_callV d_108_255 c_108_54 rfl (by rfl) (by rfl) ⟨0, rfl, rfl, by decide⟩ (by assumption) (by exact Nat.le_of_ble_eq_true rfl) (by exact Nat.le_of_ble_eq_true rfl) (s_rides (X := X) hS hTT (by omega) (by omega) (by omega)) (fun v_255 h_255 q_255 => ?_) (fun _ _ q => q.elim)
  obtain ⟨c_255, e_255, u_255, v9⟩ := q_255
  obtain ⟨r_, rfl, rp⟩ : ∃ r : Int, v_255 = some (vI r) ∧ ((r = -1 ∧ e_255 = 1000000000) ∨ (0 ≤ r ∧ r ≤ 6 ∧ e_255 < 1000000000)) := by
    rcases v9 with ⟨z1, z2⟩ | ⟨z1, k9, z2, z3, -⟩
    · exact ⟨-1, z1, Or.inl ⟨rfl, z2⟩⟩
    · exact ⟨(k9 : Int), z2, Or.inr ⟨by omega, by omega, z1⟩⟩
  clear v9
  have L_255 := q.call c_255 (fun a z => po_in z) (fun a z => pq_in z)
  have v_255 := q.ea hT1 u_255
  have S_255 := L_255.sk
  have T_255 := L_255.tt
  have n_255 := congrFun (L_255.n hT1) 4
  have kS_255 : kd h_255 (G + 1) = 1 := S_255.1.1
  have kT_255 : kd h_255 G = 13 := L_255.1.1.1.1
  have eu_255 : e6 = e_255 := JL.uniq (by omega) (by omega) E6 v_255
  subst eu_255
  refine wp_if_lt (tgt := 265) d_108_258 (by decide) (by omega) (fun c_258 => ?_) (fun c_258 => ?_)
  · refine wp_iconst d_108_265 ?_
    refine wp_iload d_108_266 (by rfl) ?_
    refine wp_if_lt (tgt := 275) d_108_268 (by decide) (by omega) (fun c_268 => ?_) (fun c_268 => ?_)
    · refine wp_iconst d_108_275 ?_
      refine wp_icmp_eq (tgt := 281) d_108_276 (by decide) (by omega) (by omega) (fun c_276 => ?_) (fun c_276 => ?_)
      rotate_left
      · exact absurd c_276 (by omega)
      refine wp_to [some (vR (some sa)), some (vI tm), some (vR (some G)), some (vR (some (G + 1))), some (vI st), some (vI o), some (vI d), some (vI T), some (vI lg), some (vL V), none, none, some (vI (an e6)), none, none, none, none, none, none, none, none, none, none] ⟨rfl, rfl, rfl, rfl, rfl, rfl, rfl, rfl, rfl, rfl, rfl, trivial⟩ ?_
      exact kk h_255 L_255
    · refine wp_iconst d_108_271 ?_
      refine wp_goto (tgt := 276) d_108_272 (by decide) ?_
      refine wp_icmp_eq (tgt := 281) d_108_276 (by decide) (by omega) (by omega) (fun c_276 => ?_) (fun c_276 => ?_)
      rotate_left
      · exact absurd c_276 (by omega)
      refine wp_to [some (vR (some sa)), some (vI tm), some (vR (some G)), some (vR (some (G + 1))), some (vI st), some (vI o), some (vI d), some (vI T), some (vI lg), some (vL V), none, none, some (vI (an e6)), none, none, none, none, none, none, none, none, none, none] ⟨rfl, rfl, rfl, rfl, rfl, rfl, rfl, rfl, rfl, rfl, rfl, trivial⟩ ?_
      exact kk h_255 L_255
  · refine wp_iconst d_108_261 ?_
    refine wp_goto (tgt := 266) d_108_262 (by decide) ?_
    refine wp_iload d_108_266 (by rfl) ?_
    refine wp_if_lt (tgt := 275) d_108_268 (by decide) (by omega) (fun c_268 => ?_) (fun c_268 => ?_)
    · refine wp_iconst d_108_275 ?_
      refine wp_icmp_eq (tgt := 281) d_108_276 (by decide) (by omega) (by omega) (fun c_276 => ?_) (fun c_276 => ?_)
      rotate_left
      · exact absurd c_276 (by omega)
      refine wp_to [some (vR (some sa)), some (vI tm), some (vR (some G)), some (vR (some (G + 1))), some (vI st), some (vI o), some (vI d), some (vI T), some (vI lg), some (vL V), none, none, some (vI (an e6)), none, none, none, none, none, none, none, none, none, none] ⟨rfl, rfl, rfl, rfl, rfl, rfl, rfl, rfl, rfl, rfl, rfl, trivial⟩ ?_
      exact kk h_255 L_255
    · refine wp_iconst d_108_271 ?_
      refine wp_goto (tgt := 276) d_108_272 (by decide) ?_
      refine wp_icmp_eq (tgt := 281) d_108_276 (by decide) (by omega) (by omega) (fun c_276 => ?_) (fun c_276 => ?_)
      rotate_left
      · exact absurd c_276 (by omega)
      refine wp_to [some (vR (some sa)), some (vI tm), some (vR (some G)), some (vR (some (G + 1))), some (vI st), some (vI o), some (vI d), some (vI T), some (vI lg), some (vL V), none, none, some (vI (an e6)), none, none, none, none, none, none, none, none, none, none] ⟨rfl, rfl, rfl, rfl, rfl, rfl, rfl, rfl, rfl, rfl, rfl, trivial⟩ ?_
      exact kk h_255 L_255
set_option maxRecDepth 100000 in
set_option maxHeartbeats 4000000 in
theorem l_lwB3 {h1 : Hp} {G sa X A B : Nat} {tm st o d T lg V D e6 : Int} {Q : Option AV → Hp → Prop} (hT1 : TT h1 (G + 1) X) (ho : 0 ≤ o ∧ o < hi h1 (G + 1 + 1) 4) (hd : 0 ≤ d ∧ d < hi h1 (G + 1 + 1) 4) (hT : 0 ≤ T ∧ T < 7000) (hD : D ≤ 500000) {h : Hp} (q : LI h1 h G sa X D A B) (kk : ∀ h' z, LI h1 h' G sa X (D + 1) A B → (0 ≤ z ∧ z < 300) → wp 108 295 [some (vR (some sa)), some (vI tm), some (vR (some G)), some (vR (some (G + 1))), some (vI st), some (vI o), some (vI d), some (vI T), some (vI lg), some (vL V), none, none, some (vI (an e6)), some (vI (T + 1 + z)), none, none, none, none, none, none, none, none, none] [] h' Q noX) : wp 108 281 [some (vR (some sa)), some (vI tm), some (vR (some G)), some (vR (some (G + 1))), some (vI st), some (vI o), some (vI d), some (vI T), some (vI lg), some (vL V), none, none, some (vI (an e6)), none, none, none, none, none, none, none, none, none, none] [] h Q noX := by
  have hS := q.sk
  have hTT := q.tt
  have n4 := congrFun (q.n hT1) 4
  have kS : kd h (G + 1) = 1 := hS.1.1
  have kT : kd h G = 13 := q.1.1.1.1
  refine wp_iload d_108_281 (by rfl) ?_
  refine wp_iconst d_108_283 ?_
  refine wp_iadd d_108_284 ?_
  refine wp_aload_n d_108_285 (by rfl) ?_
  refine wp_sipush d_108_286 (by decide) ?_
  refine wp_callV d_108_289 c_108_22 rfl (by rfl) (by rfl) ⟨12, rfl, rfl, by decide⟩ (by assumption) (by exact Nat.le_of_ble_eq_true rfl) (by exact Nat.le_of_ble_eq_true rfl) (s_drawS q.1 (by omega) (by omega)) (fun v_289 h_289 q_289 => ?_) (fun _ _ q => q.elim)
  obtain ⟨z_289, rfl, y_289, D_289, C_289, K_289, M_289⟩ := q_289
  have L_289 := q.draw D_289 C_289
  refine wp_iadd d_108_292 ?_
  refine wp_istore d_108_293 (by decide) ?_
  refine wp_to [some (vR (some sa)), some (vI tm), some (vR (some G)), some (vR (some (G + 1))), some (vI st), some (vI o), some (vI d), some (vI T), some (vI lg), some (vL V), none, none, some (vI (an e6)), some (vI (T + 1 + z_289)), none, none, none, none, none, none, none, none, none] ⟨rfl, rfl, rfl, rfl, rfl, rfl, rfl, rfl, rfl, rfl, rfl, rfl, trivial⟩ ?_
  exact kk h_289 z_289 L_289 y_289
set_option maxRecDepth 100000 in
set_option maxHeartbeats 4000000 in
theorem l_lwC1 {h1 : Hp} {G sa X A B : Nat} {tm st o d T lg V D e6 : Int} {Q : Option AV → Hp → Prop} (hT1 : TT h1 (G + 1) X) (ho : 0 ≤ o ∧ o < hi h1 (G + 1 + 1) 4) (hd : 0 ≤ d ∧ d < hi h1 (G + 1 + 1) 4) (hT : 0 ≤ T ∧ T < 7000) (hD : D ≤ 500000) {lt : Int} {h : Hp} (q : LI h1 h G sa X D A B) (E6 : Ea h1 (G + 1) o T 2880 6 d e6) (hlt : T < lt ∧ lt ≤ T + 300) (kk : ∀ h', LI h1 h' G sa X D A B → wp 108 326 [some (vR (some sa)), some (vI tm), some (vR (some G)), some (vR (some (G + 1))), some (vI st), some (vI o), some (vI d), some (vI T), some (vI lg), some (vL V), none, none, some (vI (an e6)), some (vI lt), none, none, none, none, none, none, none, none, none] [] h' Q noX) : wp 108 295 [some (vR (some sa)), some (vI tm), some (vR (some G)), some (vR (some (G + 1))), some (vI st), some (vI o), some (vI d), some (vI T), some (vI lg), some (vL V), none, none, some (vI (an e6)), some (vI lt), none, none, none, none, none, none, none, none, none] [] h Q noX := by
  have hS := q.sk
  have hTT := q.tt
  have n4 := congrFun (q.n hT1) 4
  have kS : kd h (G + 1) = 1 := hS.1.1
  have kT : kd h G = 13 := q.1.1.1.1
  have w6 := an_c hT1 ho (by decide) (by omega) E6
  refine wp_aload_n d_108_295 (by rfl) ?_
  refine wp_iload d_108_296 (by rfl) ?_
  refine wp_iload d_108_298 (by rfl) ?_
  refine wp_iload d_108_300 (by rfl) ?_
  refine wp_callV d_108_302 c_108_51 rfl (by rfl) (by rfl) ⟨0, rfl, rfl, by decide⟩ (by assumption) (by exact Nat.le_of_ble_eq_true rfl) (by exact Nat.le_of_ble_eq_true rfl) (s_earliest (X := X) hS hTT (by omega) (by omega) (by omega)) (fun v_302 h_302 q_302 => ?_) (fun _ _ q => q.elim)
  obtain ⟨c_302, e_302, rfl, u_302⟩ := q_302
  have L_302 := q.call c_302 (fun a z => po_in z) (fun a z => pq_in z)
  have v_302 := q.ea hT1 u_302
  have S_302 := L_302.sk
  have T_302 := L_302.tt
  have n_302 := congrFun (L_302.n hT1) 4
  have kS_302 : kd h_302 (G + 1) = 1 := S_302.1.1
  have kT_302 : kd h_302 G = 13 := L_302.1.1.1.1
  have w_302 := an_c hT1 ho (by decide) (by omega) v_302
  have lf_ : e_302 = 1000000000 ∨ e6 = 1000000000 ∨ e6 ≤ e_302 := by
    by_cases z : e_302 = 1000000000
    · exact Or.inl z
    · by_cases y : e6 = 1000000000
      · exact Or.inr (Or.inl y)
      · exact Or.inr (Or.inr (JL.later hT1.net ho (by omega) E6 v_302 z (by omega)))
  refine wp_istore d_108_305 (by decide) ?_
  refine wp_iload d_108_307 (by rfl) ?_
  refine wp_if_lt (tgt := 326) d_108_309 (by decide) (by omega) (fun c_309 => ?_) (fun c_309 => ?_)
  · refine wp_to [some (vR (some sa)), some (vI tm), some (vR (some G)), some (vR (some (G + 1))), some (vI st), some (vI o), some (vI d), some (vI T), some (vI lg), some (vL V), none, none, some (vI (an e6)), some (vI lt), none, none, none, none, none, none, none, none, none] ⟨rfl, rfl, rfl, rfl, rfl, rfl, rfl, rfl, rfl, rfl, rfl, rfl, trivial⟩ ?_
    exact kk h_302 L_302
  · refine wp_iload d_108_312 (by rfl) ?_
    refine wp_if_lt (tgt := 326) d_108_314 (by decide) (by omega) (fun c_314 => ?_) (fun c_314 => ?_)
    · refine wp_to [some (vR (some sa)), some (vI tm), some (vR (some G)), some (vR (some (G + 1))), some (vI st), some (vI o), some (vI d), some (vI T), some (vI lg), some (vL V), none, none, some (vI (an e6)), some (vI lt), none, none, none, none, none, none, none, none, none] ⟨rfl, rfl, rfl, rfl, rfl, rfl, rfl, rfl, rfl, rfl, rfl, rfl, trivial⟩ ?_
      exact kk h_302 L_302
    · refine wp_iload d_108_317 (by rfl) ?_
      refine wp_iload d_108_319 (by rfl) ?_
      refine wp_icmp_ge (tgt := 326) d_108_321 (by decide) (by omega) (by omega) (fun c_321 => ?_) (fun c_321 => ?_)
      rotate_left
      · exact absurd c_321 (by omega)
      refine wp_to [some (vR (some sa)), some (vI tm), some (vR (some G)), some (vR (some (G + 1))), some (vI st), some (vI o), some (vI d), some (vI T), some (vI lg), some (vL V), none, none, some (vI (an e6)), some (vI lt), none, none, none, none, none, none, none, none, none] ⟨rfl, rfl, rfl, rfl, rfl, rfl, rfl, rfl, rfl, rfl, rfl, rfl, trivial⟩ ?_
      exact kk h_302 L_302
set_option maxRecDepth 100000 in
set_option maxHeartbeats 4000000 in
theorem l_lwC2 {h1 : Hp} {G sa X A B : Nat} {tm st o d T lg V D e6 : Int} {Q : Option AV → Hp → Prop} (hT1 : TT h1 (G + 1) X) (ho : 0 ≤ o ∧ o < hi h1 (G + 1 + 1) 4) (hd : 0 ≤ d ∧ d < hi h1 (G + 1 + 1) 4) (hT : 0 ≤ T ∧ T < 7000) (hD : D ≤ 500000) {lt : Int} {h : Hp} (q : LI h1 h G sa X D A B) (E6 : Ea h1 (G + 1) o T 2880 6 d e6) (hlt : T < lt ∧ lt ≤ T + 300) (kk : ∀ h', LI h1 h' G sa X D A B → wp 108 392 [some (vR (some sa)), some (vI tm), some (vR (some G)), some (vR (some (G + 1))), some (vI st), some (vI o), some (vI d), some (vI T), some (vI lg), some (vL V), none, none, some (vI (an e6)), none, none, none, none, none, none, none, none, none, none] [] h' Q noX) : wp 108 326 [some (vR (some sa)), some (vI tm), some (vR (some G)), some (vR (some (G + 1))), some (vI st), some (vI o), some (vI d), some (vI T), some (vI lg), some (vL V), none, none, some (vI (an e6)), some (vI lt), none, none, none, none, none, none, none, none, none] [] h Q noX := by
  have hS := q.sk
  have hTT := q.tt
  have n4 := congrFun (q.n hT1) 4
  have kS : kd h (G + 1) = 1 := hS.1.1
  have kT : kd h G = 13 := q.1.1.1.1
  have w6 := an_c hT1 ho (by decide) (by omega) E6
  refine wp_aload_n d_108_326 (by rfl) ?_
  refine wp_iload d_108_327 (by rfl) ?_
  refine wp_iload d_108_329 (by rfl) ?_
  refine wp_iload d_108_331 (by rfl) ?_
  refine wp_callV d_108_333 c_108_57 rfl (by rfl) (by rfl) ⟨0, rfl, rfl, by decide⟩ (by assumption) (by exact Nat.le_of_ble_eq_true rfl) (by exact Nat.le_of_ble_eq_true rfl) (s_latest (X := X) hS hTT (by omega) (by omega) (by omega)) (fun v_333 h_333 q_333 => ?_) (fun _ _ q => q.elim)
  obtain ⟨c_333, x_, rfl, la1, la2⟩ := q_333
  have L_333 := q.call c_333 (fun a z => plt_in z) (fun a z => pq_in z)
  have S_333 := L_333.sk
  have T_333 := L_333.tt
  have n_333 := congrFun (L_333.n hT1) 4
  have kS_333 : kd h_333 (G + 1) = 1 := S_333.1.1
  have kT_333 : kd h_333 G = 13 := L_333.1.1.1.1
  have lk : ∀ t e, Lg h (G + 1) o d t e ↔ Lg h1 (G + 1) o d t e := fun t e => Lg.kept hT1 q.2.2 offL
  have xb : -1 ≤ x_ ∧ x_ ≤ lt := by
    rcases la1 with z | ⟨z1, ee, z2, z3⟩
    · omega
    · obtain ⟨j, p, j6, je⟩ := (lk _ _).mp z2
      have := (JE.ge hT1.net ho je).1
      omega
  have xl : e6 ≤ lt → T ≤ x_ := fun z => by
    rcases E6.1 with y | ⟨j, p, j6, je⟩
    · omega
    · exact la2 T e6 hT.1 ((lk _ _).mpr ⟨j, p, j6, je⟩) z
  have lx : ∀ e', 0 ≤ x_ → Ea h1 (G + 1) o x_ 2880 6 d e' → e' ≤ lt := fun e' z0 z => by
    rcases la1 with y | ⟨z1, ee, z2, z3⟩
    · omega
    · obtain ⟨j, p, j6, je⟩ := (lk _ _).mp z2
      have := z.2 j ee p j6 je
      omega
  clear la1 la2 lk
  refine wp_istore d_108_336 (by decide) ?_
  refine wp_iload d_108_338 (by rfl) ?_
  refine wp_if_lt (tgt := 371) d_108_340 (by decide) (by omega) (fun c_340 => ?_) (fun c_340 => ?_)
  · refine wp_iload d_108_371 (by rfl) ?_
    refine wp_if_lt (tgt := 392) d_108_373 (by decide) (by omega) (fun c_373 => ?_) (fun c_373 => ?_)
    · refine wp_to [some (vR (some sa)), some (vI tm), some (vR (some G)), some (vR (some (G + 1))), some (vI st), some (vI o), some (vI d), some (vI T), some (vI lg), some (vL V), none, none, some (vI (an e6)), none, none, none, none, none, none, none, none, none, none] ⟨rfl, rfl, rfl, rfl, rfl, rfl, rfl, rfl, rfl, rfl, rfl, trivial⟩ ?_
      first
        | exact kk h_363 L_363
        | exact kk h_333 L_333
    · refine wp_iload d_108_376 (by rfl) ?_
      refine wp_iload d_108_378 (by rfl) ?_
      refine wp_icmp_gt (tgt := 392) d_108_380 (by decide) (by omega) (by omega) (fun c_380 => ?_) (fun c_380 => ?_)
      · refine wp_to [some (vR (some sa)), some (vI tm), some (vR (some G)), some (vR (some (G + 1))), some (vI st), some (vI o), some (vI d), some (vI T), some (vI lg), some (vL V), none, none, some (vI (an e6)), none, none, none, none, none, none, none, none, none, none] ⟨rfl, rfl, rfl, rfl, rfl, rfl, rfl, rfl, rfl, rfl, rfl, trivial⟩ ?_
        first
          | exact kk h_363 L_363
          | exact kk h_333 L_333
      · refine wp_iload d_108_383 (by rfl) ?_
        refine wp_iload d_108_385 (by rfl) ?_
        refine wp_icmp_ge (tgt := 392) d_108_387 (by decide) (by omega) (by omega) (fun c_387 => ?_) (fun c_387 => ?_)
        rotate_left
        · exact absurd c_387 (by omega)
        refine wp_to [some (vR (some sa)), some (vI tm), some (vR (some G)), some (vR (some (G + 1))), some (vI st), some (vI o), some (vI d), some (vI T), some (vI lg), some (vL V), none, none, some (vI (an e6)), none, none, none, none, none, none, none, none, none, none] ⟨rfl, rfl, rfl, rfl, rfl, rfl, rfl, rfl, rfl, rfl, rfl, trivial⟩ ?_
        first
          | exact kk h_363 L_363
          | exact kk h_333 L_333
  · refine wp_aload_n d_108_343 (by rfl) ?_
    refine wp_iload d_108_344 (by rfl) ?_
    refine wp_iload d_108_346 (by rfl) ?_
    refine wp_iload d_108_348 (by rfl) ?_
    refine wp_callV d_108_350 c_108_51 rfl (by rfl) (by rfl) ⟨0, rfl, rfl, by decide⟩ (by assumption) (by exact Nat.le_of_ble_eq_true rfl) (by exact Nat.le_of_ble_eq_true rfl) (s_earliest (X := X) S_333 T_333 (by omega) (by omega) (by omega)) (fun v_350 h_350 q_350 => ?_) (fun _ _ q => q.elim)
    obtain ⟨c_350, e_350, rfl, u_350⟩ := q_350
    have L_350 := L_333.call c_350 (fun a z => po_in z) (fun a z => pq_in z)
    have v_350 := L_333.ea hT1 u_350
    have S_350 := L_350.sk
    have T_350 := L_350.tt
    have n_350 := congrFun (L_350.n hT1) 4
    have kS_350 : kd h_350 (G + 1) = 1 := S_350.1.1
    have kT_350 : kd h_350 G = 13 := L_350.1.1.1.1
    have w_350 := an_c hT1 ho (by decide) (by omega) v_350
    have b_350 := lx _ (by omega) v_350
    refine wp_if_lt (tgt := 390) d_108_353 (by decide) (by omega) (fun c_353 => ?_) (fun c_353 => ?_)
    · exact absurd c_353 (by omega)
    refine wp_aload_n d_108_356 (by rfl) ?_
    refine wp_iload d_108_357 (by rfl) ?_
    refine wp_iload d_108_359 (by rfl) ?_
    refine wp_iload d_108_361 (by rfl) ?_
    refine wp_callV d_108_363 c_108_51 rfl (by rfl) (by rfl) ⟨0, rfl, rfl, by decide⟩ (by assumption) (by exact Nat.le_of_ble_eq_true rfl) (by exact Nat.le_of_ble_eq_true rfl) (s_earliest (X := X) S_350 T_350 (by omega) (by omega) (by omega)) (fun v_363 h_363 q_363 => ?_) (fun _ _ q => q.elim)
    obtain ⟨c_363, e_363, rfl, u_363⟩ := q_363
    have L_363 := L_350.call c_363 (fun a z => po_in z) (fun a z => pq_in z)
    have v_363 := L_350.ea hT1 u_363
    have S_363 := L_363.sk
    have T_363 := L_363.tt
    have n_363 := congrFun (L_363.n hT1) 4
    have kS_363 : kd h_363 (G + 1) = 1 := S_363.1.1
    have kT_363 : kd h_363 G = 13 := L_363.1.1.1.1
    have w_363 := an_c hT1 ho (by decide) (by omega) v_363
    have b_363 := lx _ (by omega) v_363
    refine wp_iload d_108_366 (by rfl) ?_
    refine wp_icmp_gt (tgt := 390) d_108_368 (by decide) (by omega) (by omega) (fun c_368 => ?_) (fun c_368 => ?_)
    · exact absurd c_368 (by omega)
    refine wp_iload d_108_371 (by rfl) ?_
    refine wp_if_lt (tgt := 392) d_108_373 (by decide) (by omega) (fun c_373 => ?_) (fun c_373 => ?_)
    · refine wp_to [some (vR (some sa)), some (vI tm), some (vR (some G)), some (vR (some (G + 1))), some (vI st), some (vI o), some (vI d), some (vI T), some (vI lg), some (vL V), none, none, some (vI (an e6)), none, none, none, none, none, none, none, none, none, none] ⟨rfl, rfl, rfl, rfl, rfl, rfl, rfl, rfl, rfl, rfl, rfl, trivial⟩ ?_
      first
        | exact kk h_363 L_363
        | exact kk h_333 L_333
    · refine wp_iload d_108_376 (by rfl) ?_
      refine wp_iload d_108_378 (by rfl) ?_
      refine wp_icmp_gt (tgt := 392) d_108_380 (by decide) (by omega) (by omega) (fun c_380 => ?_) (fun c_380 => ?_)
      · refine wp_to [some (vR (some sa)), some (vI tm), some (vR (some G)), some (vR (some (G + 1))), some (vI st), some (vI o), some (vI d), some (vI T), some (vI lg), some (vL V), none, none, some (vI (an e6)), none, none, none, none, none, none, none, none, none, none] ⟨rfl, rfl, rfl, rfl, rfl, rfl, rfl, rfl, rfl, rfl, rfl, trivial⟩ ?_
        first
          | exact kk h_363 L_363
          | exact kk h_333 L_333
      · refine wp_iload d_108_383 (by rfl) ?_
        refine wp_iload d_108_385 (by rfl) ?_
        refine wp_icmp_ge (tgt := 392) d_108_387 (by decide) (by omega) (by omega) (fun c_387 => ?_) (fun c_387 => ?_)
        rotate_left
        · exact absurd c_387 (by omega)
        refine wp_to [some (vR (some sa)), some (vI tm), some (vR (some G)), some (vR (some (G + 1))), some (vI st), some (vI o), some (vI d), some (vI T), some (vI lg), some (vL V), none, none, some (vI (an e6)), none, none, none, none, none, none, none, none, none, none] ⟨rfl, rfl, rfl, rfl, rfl, rfl, rfl, rfl, rfl, rfl, rfl, trivial⟩ ?_
        first
          | exact kk h_363 L_363
          | exact kk h_333 L_333
