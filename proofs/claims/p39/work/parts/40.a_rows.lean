set_option maxRecDepth 100000 in
theorem cd_1 : cdP 1 := ⟨okr (k := 61) rfl (by decide +kernel), by decide +kernel, by decide +kernel, okk_w (k := 32) (by decide +kernel)⟩
set_option maxRecDepth 100000 in
theorem cd_2 : cdP 2 := ⟨okr (k := 64) rfl (by decide +kernel), by decide +kernel, by decide +kernel, okk_w (k := 32) (by decide +kernel)⟩
set_option maxRecDepth 100000 in
theorem cd_3 : cdP 3 := ⟨okr (k := 137) rfl (by decide +kernel), by decide +kernel, by decide +kernel, okk_w (k := 32) (by decide +kernel)⟩
set_option maxRecDepth 100000 in
theorem cd_5 : cdP 5 := ⟨okr (k := 144) rfl (by decide +kernel), by decide +kernel, by decide +kernel, okk_w (k := 32) (by decide +kernel)⟩
set_option maxRecDepth 100000 in
theorem cd_6 : cdP 6 := ⟨okr (k := 164) rfl (by decide +kernel), by decide +kernel, by decide +kernel, okk_w (k := 32) (by decide +kernel)⟩
set_option maxRecDepth 100000 in
theorem cd_80 : cdP 80 := ⟨okr (k := 168) rfl (by decide +kernel), by decide +kernel, by decide +kernel, okk_w (k := 36) (by decide +kernel)⟩
set_option maxRecDepth 100000 in
theorem cd_87 : cdP 87 := ⟨okr (k := 245) rfl (by decide +kernel), by decide +kernel, by decide +kernel, okk_w (k := 36) (by decide +kernel)⟩
set_option maxRecDepth 100000 in
theorem cd_88 : cdP 88 := ⟨okr (k := 259) rfl (by decide +kernel), by decide +kernel, by decide +kernel, okk_w (k := 36) (by decide +kernel)⟩
set_option maxRecDepth 100000 in
theorem cd_89 : cdP 89 := ⟨okr (k := 263) rfl (by decide +kernel), by decide +kernel, by decide +kernel, okk_w (k := 36) (by decide +kernel)⟩
set_option maxRecDepth 100000 in
theorem c_0_77 : cvP 0 77 1 1 := ⟨cd_1, okk_w (k := 57) (by decide +kernel), okk_w (k := 59) (by decide +kernel), okk_w (k := 0) (by decide +kernel), by decide +kernel, by decide +kernel⟩
set_option maxRecDepth 100000 in
theorem c_0_154 : csP 0 154 3 1 := ⟨cd_3, okk_w (k := 135) (by decide +kernel), okk_w (k := 136) (by decide +kernel), by decide +kernel, by decide +kernel⟩
set_option maxRecDepth 100000 in
theorem c_0_169 : cvP 0 169 6 4 := ⟨cd_6, okk_w (k := 161) (by decide +kernel), okk_w (k := 163) (by decide +kernel), okk_w (k := 2) (by decide +kernel), by decide +kernel, by decide +kernel⟩
set_option maxRecDepth 100000 in
theorem d_0_0 : decode (mB 0) 0 = .ok (.aload_n 0, 1) := by decide +kernel
set_option maxRecDepth 100000 in
theorem d_0_1 : decode (mB 0) 1 = .ok (.iload_n 1, 1) := by decide +kernel
set_option maxRecDepth 100000 in
theorem d_0_2 : decode (mB 0) 2 = .ok (.invokevirtual 77, 3) := by decide +kernel
set_option maxRecDepth 100000 in
theorem d_0_5 : decode (mB 0) 5 = .ok (.aload_n 0, 1) := by decide +kernel
set_option maxRecDepth 100000 in
theorem d_0_6 : decode (mB 0) 6 = .ok (.iload_n 2, 1) := by decide +kernel
set_option maxRecDepth 100000 in
theorem d_0_7 : decode (mB 0) 7 = .ok (.invokevirtual 77, 3) := by decide +kernel
set_option maxRecDepth 100000 in
theorem d_0_10 : decode (mB 0) 10 = .ok (.iload_n 3, 1) := by decide +kernel
set_option maxRecDepth 100000 in
theorem d_0_11 : decode (mB 0) 11 = .ok (.invokestatic 154, 3) := by decide +kernel
set_option maxRecDepth 100000 in
theorem d_0_14 : decode (mB 0) 14 = .ok (.aload_n 0, 1) := by decide +kernel
set_option maxRecDepth 100000 in
theorem d_0_15 : decode (mB 0) 15 = .ok (.iload_n 1, 1) := by decide +kernel
set_option maxRecDepth 100000 in
theorem d_0_16 : decode (mB 0) 16 = .ok (.iload_n 2, 1) := by decide +kernel
set_option maxRecDepth 100000 in
theorem d_0_17 : decode (mB 0) 17 = .ok (.iload_n 3, 1) := by decide +kernel
set_option maxRecDepth 100000 in
theorem d_0_18 : decode (mB 0) 18 = .ok (.bipush 6, 2) := by decide +kernel
set_option maxRecDepth 100000 in
theorem d_0_20 : decode (mB 0) 20 = .ok (.invokevirtual 169, 3) := by decide +kernel
set_option maxRecDepth 100000 in
theorem d_0_23 : decode (mB 0) 23 = .ok (.ireturn, 1) := by decide +kernel
set_option maxRecDepth 100000 in
theorem fl_0_66 : flP "WhistleStop" 66 7 4 := ⟨_, rfl, by decide, okk_w (k := 561) (by decide +kernel)⟩
set_option maxRecDepth 100000 in
theorem c_1_107 : csP 1 107 2 2 := ⟨cd_2, okk_w (k := 62) (by decide +kernel), okk_w (k := 63) (by decide +kernel), by decide +kernel, by decide +kernel⟩
set_option maxRecDepth 100000 in
theorem d_1_0 : decode (mB 1) 0 = .ok (.iload_n 1, 1) := by decide +kernel
set_option maxRecDepth 100000 in
theorem d_1_1 : decode (mB 1) 1 = .ok (.aload_n 0, 1) := by decide +kernel
set_option maxRecDepth 100000 in
theorem d_1_2 : decode (mB 1) 2 = .ok (.getfield 12, 3) := by decide +kernel
set_option maxRecDepth 100000 in
theorem d_1_5 : decode (mB 1) 5 = .ok (.getfield 66, 3) := by decide +kernel
set_option maxRecDepth 100000 in
theorem d_1_8 : decode (mB 1) 8 = .ok (.invokestatic 107, 3) := by decide +kernel
set_option maxRecDepth 100000 in
theorem d_1_11 : decode (mB 1) 11 = .ok (.return_, 1) := by decide +kernel
set_option maxRecDepth 100000 in
theorem d_2_0 : decode (mB 2) 0 = .ok (.iload_n 0, 1) := by decide +kernel
set_option maxRecDepth 100000 in
theorem d_2_1 : decode (mB 2) 1 = .ok (.ifCond .lt 8, 3) := by decide +kernel
set_option maxRecDepth 100000 in
theorem d_2_4 : decode (mB 2) 4 = .ok (.iload_n 0, 1) := by decide +kernel
set_option maxRecDepth 100000 in
theorem d_2_5 : decode (mB 2) 5 = .ok (.iload_n 1, 1) := by decide +kernel
set_option maxRecDepth 100000 in
theorem d_2_6 : decode (mB 2) 6 = .ok (.if_icmp .lt 14, 3) := by decide +kernel
set_option maxRecDepth 100000 in
theorem d_2_20 : decode (mB 2) 20 = .ok (.return_, 1) := by decide +kernel
set_option maxRecDepth 100000 in
theorem ck_0_294 : okw (.constant "WhistleStop" 294 (500000)) := okk_w (k := 138) (by decide +kernel)
set_option maxRecDepth 100000 in
theorem c_3_58 : csP 3 58 4 3 := ⟨cd_4, okk_w (k := 139) (by decide +kernel), okk_w (k := 140) (by decide +kernel), by decide +kernel, by decide +kernel⟩
set_option maxRecDepth 100000 in
theorem c_3_62 : csP 3 62 5 1 := ⟨cd_5, okk_w (k := 142) (by decide +kernel), okk_w (k := 143) (by decide +kernel), by decide +kernel, by decide +kernel⟩
set_option maxRecDepth 100000 in
theorem d_3_0 : decode (mB 3) 0 = .ok (.iload_n 0, 1) := by decide +kernel
set_option maxRecDepth 100000 in
theorem d_3_1 : decode (mB 3) 1 = .ok (.iconst 0, 1) := by decide +kernel
set_option maxRecDepth 100000 in
theorem d_3_2 : decode (mB 3) 2 = .ok (.ldc_w 294, 3) := by decide +kernel
set_option maxRecDepth 100000 in
theorem d_3_5 : decode (mB 3) 5 = .ok (.invokestatic 58, 3) := by decide +kernel
set_option maxRecDepth 100000 in
theorem d_3_8 : decode (mB 3) 8 = .ok (.invokestatic 62, 3) := by decide +kernel
set_option maxRecDepth 100000 in
theorem d_3_11 : decode (mB 3) 11 = .ok (.return_, 1) := by decide +kernel
set_option maxRecDepth 100000 in
theorem d_5_0 : decode (mB 5) 0 = .ok (.iload_n 0, 1) := by decide +kernel
set_option maxRecDepth 100000 in
theorem d_5_1 : decode (mB 5) 1 = .ok (.ifCond .ne 14, 3) := by decide +kernel
set_option maxRecDepth 100000 in
theorem d_5_15 : decode (mB 5) 15 = .ok (.return_, 1) := by decide +kernel
set_option maxRecDepth 100000 in
theorem c_6_173 : cvP 6 173 80 5 := ⟨cd_80, okk_w (k := 165) (by decide +kernel), okk_w (k := 166) (by decide +kernel), okk_w (k := 167) (by decide +kernel), by decide +kernel, by decide +kernel⟩
set_option maxRecDepth 100000 in
theorem c_6_209 : cvP 6 209 87 2 := ⟨cd_87, okk_w (k := 242) (by decide +kernel), okk_w (k := 243) (by decide +kernel), okk_w (k := 244) (by decide +kernel), by decide +kernel, by decide +kernel⟩
set_option maxRecDepth 100000 in
theorem ck_0_197 : okw (.constant "WhistleStop" 197 (1000000000)) := okk_w (k := 247) (by decide +kernel)
set_option maxRecDepth 100000 in
theorem d_6_0 : decode (mB 6) 0 = .ok (.aload_n 0, 1) := by decide +kernel
set_option maxRecDepth 100000 in
theorem d_6_1 : decode (mB 6) 1 = .ok (.getfield 33, 3) := by decide +kernel
set_option maxRecDepth 100000 in
theorem d_6_4 : decode (mB 6) 4 = .ok (.aload_n 0, 1) := by decide +kernel
set_option maxRecDepth 100000 in
theorem d_6_5 : decode (mB 6) 5 = .ok (.getfield 12, 3) := by decide +kernel
set_option maxRecDepth 100000 in
theorem d_6_8 : decode (mB 6) 8 = .ok (.aload_n 0, 1) := by decide +kernel
set_option maxRecDepth 100000 in
theorem d_6_9 : decode (mB 6) 9 = .ok (.getfield 19, 3) := by decide +kernel
set_option maxRecDepth 100000 in
theorem d_6_12 : decode (mB 6) 12 = .ok (.iload_n 1, 1) := by decide +kernel
set_option maxRecDepth 100000 in
theorem d_6_13 : decode (mB 6) 13 = .ok (.iload_n 3, 1) := by decide +kernel
set_option maxRecDepth 100000 in
theorem d_6_14 : decode (mB 6) 14 = .ok (.sipush 2880, 3) := by decide +kernel
set_option maxRecDepth 100000 in
theorem d_6_17 : decode (mB 6) 17 = .ok (.invokevirtual 173, 3) := by decide +kernel
set_option maxRecDepth 100000 in
theorem d_6_20 : decode (mB 6) 20 = .ok (.aload_n 0, 1) := by decide +kernel
set_option maxRecDepth 100000 in
theorem d_6_21 : decode (mB 6) 21 = .ok (.getfield 33, 3) := by decide +kernel
set_option maxRecDepth 100000 in
theorem d_6_24 : decode (mB 6) 24 = .ok (.iload_n 2, 1) := by decide +kernel
set_option maxRecDepth 100000 in
theorem d_6_25 : decode (mB 6) 25 = .ok (.iload 4, 2) := by decide +kernel
set_option maxRecDepth 100000 in
theorem d_6_27 : decode (mB 6) 27 = .ok (.invokevirtual 209, 3) := by decide +kernel
set_option maxRecDepth 100000 in
theorem d_6_30 : decode (mB 6) 30 = .ok (.istore 5, 2) := by decide +kernel
set_option maxRecDepth 100000 in
theorem d_6_32 : decode (mB 6) 32 = .ok (.iload 5, 2) := by decide +kernel
set_option maxRecDepth 100000 in
theorem d_6_34 : decode (mB 6) 34 = .ok (.ldc 197, 2) := by decide +kernel
set_option maxRecDepth 100000 in
theorem d_6_36 : decode (mB 6) 36 = .ok (.if_icmp .ge 8, 3) := by decide +kernel
set_option maxRecDepth 100000 in
theorem d_6_39 : decode (mB 6) 39 = .ok (.iload 5, 2) := by decide +kernel
set_option maxRecDepth 100000 in
theorem d_6_41 : decode (mB 6) 41 = .ok (.goto 4, 3) := by decide +kernel
set_option maxRecDepth 100000 in
theorem d_6_44 : decode (mB 6) 44 = .ok (.iconst (-1), 1) := by decide +kernel
set_option maxRecDepth 100000 in
theorem d_6_45 : decode (mB 6) 45 = .ok (.ireturn, 1) := by decide +kernel
set_option maxRecDepth 100000 in
theorem c_8_77 : cvP 8 77 1 1 := ⟨cd_1, okk_w (k := 57) (by decide +kernel), okk_w (k := 59) (by decide +kernel), okk_w (k := 0) (by decide +kernel), by decide +kernel, by decide +kernel⟩
set_option maxRecDepth 100000 in
theorem c_8_154 : csP 8 154 3 1 := ⟨cd_3, okk_w (k := 135) (by decide +kernel), okk_w (k := 136) (by decide +kernel), by decide +kernel, by decide +kernel⟩
set_option maxRecDepth 100000 in
theorem c_8_58 : csP 8 58 4 3 := ⟨cd_4, okk_w (k := 139) (by decide +kernel), okk_w (k := 140) (by decide +kernel), by decide +kernel, by decide +kernel⟩
set_option maxRecDepth 100000 in
theorem c_8_62 : csP 8 62 5 1 := ⟨cd_5, okk_w (k := 142) (by decide +kernel), okk_w (k := 143) (by decide +kernel), by decide +kernel, by decide +kernel⟩
set_option maxRecDepth 100000 in
theorem c_8_169 : cvP 8 169 6 4 := ⟨cd_6, okk_w (k := 161) (by decide +kernel), okk_w (k := 163) (by decide +kernel), okk_w (k := 2) (by decide +kernel), by decide +kernel, by decide +kernel⟩
set_option maxRecDepth 100000 in
theorem d_8_0 : decode (mB 8) 0 = .ok (.aload_n 0, 1) := by decide +kernel
set_option maxRecDepth 100000 in
theorem d_8_1 : decode (mB 8) 1 = .ok (.iload_n 1, 1) := by decide +kernel
set_option maxRecDepth 100000 in
theorem d_8_2 : decode (mB 8) 2 = .ok (.invokevirtual 77, 3) := by decide +kernel
set_option maxRecDepth 100000 in
theorem d_8_5 : decode (mB 8) 5 = .ok (.aload_n 0, 1) := by decide +kernel
set_option maxRecDepth 100000 in
theorem d_8_6 : decode (mB 8) 6 = .ok (.iload_n 2, 1) := by decide +kernel
set_option maxRecDepth 100000 in
theorem d_8_7 : decode (mB 8) 7 = .ok (.invokevirtual 77, 3) := by decide +kernel
set_option maxRecDepth 100000 in
theorem d_8_10 : decode (mB 8) 10 = .ok (.iload_n 3, 1) := by decide +kernel
set_option maxRecDepth 100000 in
theorem d_8_11 : decode (mB 8) 11 = .ok (.invokestatic 154, 3) := by decide +kernel
set_option maxRecDepth 100000 in
theorem d_8_14 : decode (mB 8) 14 = .ok (.iload 4, 2) := by decide +kernel
set_option maxRecDepth 100000 in
theorem d_8_16 : decode (mB 8) 16 = .ok (.iconst 0, 1) := by decide +kernel
set_option maxRecDepth 100000 in
theorem d_8_17 : decode (mB 8) 17 = .ok (.bipush 6, 2) := by decide +kernel
set_option maxRecDepth 100000 in
theorem d_8_19 : decode (mB 8) 19 = .ok (.invokestatic 58, 3) := by decide +kernel
set_option maxRecDepth 100000 in
theorem d_8_22 : decode (mB 8) 22 = .ok (.invokestatic 62, 3) := by decide +kernel
set_option maxRecDepth 100000 in
theorem d_8_25 : decode (mB 8) 25 = .ok (.aload_n 0, 1) := by decide +kernel
set_option maxRecDepth 100000 in
theorem d_8_26 : decode (mB 8) 26 = .ok (.iload_n 1, 1) := by decide +kernel
set_option maxRecDepth 100000 in
theorem d_8_27 : decode (mB 8) 27 = .ok (.iload_n 2, 1) := by decide +kernel
set_option maxRecDepth 100000 in
theorem d_8_28 : decode (mB 8) 28 = .ok (.iload_n 3, 1) := by decide +kernel
set_option maxRecDepth 100000 in
theorem d_8_29 : decode (mB 8) 29 = .ok (.iload 4, 2) := by decide +kernel
set_option maxRecDepth 100000 in
theorem d_8_31 : decode (mB 8) 31 = .ok (.invokevirtual 169, 3) := by decide +kernel
set_option maxRecDepth 100000 in
theorem d_8_34 : decode (mB 8) 34 = .ok (.ireturn, 1) := by decide +kernel
set_option maxRecDepth 100000 in
theorem c_9_77 : cvP 9 77 1 1 := ⟨cd_1, okk_w (k := 57) (by decide +kernel), okk_w (k := 59) (by decide +kernel), okk_w (k := 0) (by decide +kernel), by decide +kernel, by decide +kernel⟩
set_option maxRecDepth 100000 in
theorem c_9_154 : csP 9 154 3 1 := ⟨cd_3, okk_w (k := 135) (by decide +kernel), okk_w (k := 136) (by decide +kernel), by decide +kernel, by decide +kernel⟩
set_option maxRecDepth 100000 in
theorem c_9_173 : cvP 9 173 80 5 := ⟨cd_80, okk_w (k := 165) (by decide +kernel), okk_w (k := 166) (by decide +kernel), okk_w (k := 167) (by decide +kernel), by decide +kernel, by decide +kernel⟩
set_option maxRecDepth 100000 in
theorem c_9_177 : cvP 9 177 88 1 := ⟨cd_88, okk_w (k := 256) (by decide +kernel), okk_w (k := 257) (by decide +kernel), okk_w (k := 258) (by decide +kernel), by decide +kernel, by decide +kernel⟩
set_option maxRecDepth 100000 in
theorem c_9_180 : cvP 9 180 89 1 := ⟨cd_89, okk_w (k := 260) (by decide +kernel), okk_w (k := 261) (by decide +kernel), okk_w (k := 262) (by decide +kernel), by decide +kernel, by decide +kernel⟩
set_option maxRecDepth 100000 in
theorem d_9_0 : decode (mB 9) 0 = .ok (.aload_n 0, 1) := by decide +kernel
set_option maxRecDepth 100000 in
theorem d_9_1 : decode (mB 9) 1 = .ok (.iload_n 1, 1) := by decide +kernel
set_option maxRecDepth 100000 in
theorem d_9_2 : decode (mB 9) 2 = .ok (.invokevirtual 77, 3) := by decide +kernel
set_option maxRecDepth 100000 in
theorem d_9_5 : decode (mB 9) 5 = .ok (.aload_n 0, 1) := by decide +kernel
set_option maxRecDepth 100000 in
theorem d_9_6 : decode (mB 9) 6 = .ok (.iload_n 2, 1) := by decide +kernel
set_option maxRecDepth 100000 in
theorem d_9_7 : decode (mB 9) 7 = .ok (.invokevirtual 77, 3) := by decide +kernel
set_option maxRecDepth 100000 in
theorem d_9_10 : decode (mB 9) 10 = .ok (.iload_n 3, 1) := by decide +kernel
set_option maxRecDepth 100000 in
theorem d_9_11 : decode (mB 9) 11 = .ok (.invokestatic 154, 3) := by decide +kernel
set_option maxRecDepth 100000 in
theorem d_9_14 : decode (mB 9) 14 = .ok (.aload_n 0, 1) := by decide +kernel
set_option maxRecDepth 100000 in
theorem d_9_15 : decode (mB 9) 15 = .ok (.getfield 33, 3) := by decide +kernel
set_option maxRecDepth 100000 in
theorem d_9_18 : decode (mB 9) 18 = .ok (.aload_n 0, 1) := by decide +kernel
set_option maxRecDepth 100000 in
theorem d_9_19 : decode (mB 9) 19 = .ok (.getfield 12, 3) := by decide +kernel
set_option maxRecDepth 100000 in
theorem d_9_22 : decode (mB 9) 22 = .ok (.aload_n 0, 1) := by decide +kernel
set_option maxRecDepth 100000 in
theorem d_9_23 : decode (mB 9) 23 = .ok (.getfield 19, 3) := by decide +kernel
set_option maxRecDepth 100000 in
theorem d_9_26 : decode (mB 9) 26 = .ok (.iload_n 1, 1) := by decide +kernel
set_option maxRecDepth 100000 in
theorem d_9_27 : decode (mB 9) 27 = .ok (.iload_n 3, 1) := by decide +kernel
set_option maxRecDepth 100000 in
theorem d_9_28 : decode (mB 9) 28 = .ok (.sipush 2880, 3) := by decide +kernel
set_option maxRecDepth 100000 in
theorem d_9_31 : decode (mB 9) 31 = .ok (.invokevirtual 173, 3) := by decide +kernel
set_option maxRecDepth 100000 in
theorem d_9_34 : decode (mB 9) 34 = .ok (.aload_n 0, 1) := by decide +kernel
set_option maxRecDepth 100000 in
theorem d_9_35 : decode (mB 9) 35 = .ok (.getfield 33, 3) := by decide +kernel
set_option maxRecDepth 100000 in
theorem d_9_38 : decode (mB 9) 38 = .ok (.iload_n 2, 1) := by decide +kernel
set_option maxRecDepth 100000 in
theorem d_9_39 : decode (mB 9) 39 = .ok (.invokevirtual 177, 3) := by decide +kernel
set_option maxRecDepth 100000 in
theorem d_9_42 : decode (mB 9) 42 = .ok (.ifCond .eq 14, 3) := by decide +kernel
set_option maxRecDepth 100000 in
theorem d_9_45 : decode (mB 9) 45 = .ok (.aload_n 0, 1) := by decide +kernel
set_option maxRecDepth 100000 in
theorem d_9_46 : decode (mB 9) 46 = .ok (.getfield 33, 3) := by decide +kernel
set_option maxRecDepth 100000 in
theorem d_9_49 : decode (mB 9) 49 = .ok (.iload_n 2, 1) := by decide +kernel
set_option maxRecDepth 100000 in
theorem d_9_50 : decode (mB 9) 50 = .ok (.invokevirtual 180, 3) := by decide +kernel
set_option maxRecDepth 100000 in
theorem d_9_53 : decode (mB 9) 53 = .ok (.goto 4, 3) := by decide +kernel
set_option maxRecDepth 100000 in
theorem d_9_56 : decode (mB 9) 56 = .ok (.iconst (-1), 1) := by decide +kernel
set_option maxRecDepth 100000 in
theorem d_9_57 : decode (mB 9) 57 = .ok (.ireturn, 1) := by decide +kernel
set_option maxRecDepth 100000 in
theorem c_12_77 : cvP 12 77 1 1 := ⟨cd_1, okk_w (k := 57) (by decide +kernel), okk_w (k := 59) (by decide +kernel), okk_w (k := 0) (by decide +kernel), by decide +kernel, by decide +kernel⟩
set_option maxRecDepth 100000 in
theorem c_12_154 : csP 12 154 3 1 := ⟨cd_3, okk_w (k := 135) (by decide +kernel), okk_w (k := 136) (by decide +kernel), by decide +kernel, by decide +kernel⟩
set_option maxRecDepth 100000 in
theorem c_12_58 : csP 12 58 4 3 := ⟨cd_4, okk_w (k := 139) (by decide +kernel), okk_w (k := 140) (by decide +kernel), by decide +kernel, by decide +kernel⟩
set_option maxRecDepth 100000 in
theorem c_12_62 : csP 12 62 5 1 := ⟨cd_5, okk_w (k := 142) (by decide +kernel), okk_w (k := 143) (by decide +kernel), by decide +kernel, by decide +kernel⟩
set_option maxRecDepth 100000 in
theorem c_12_173 : cvP 12 173 80 5 := ⟨cd_80, okk_w (k := 165) (by decide +kernel), okk_w (k := 166) (by decide +kernel), okk_w (k := 167) (by decide +kernel), by decide +kernel, by decide +kernel⟩
set_option maxRecDepth 100000 in
theorem c_12_177 : cvP 12 177 88 1 := ⟨cd_88, okk_w (k := 256) (by decide +kernel), okk_w (k := 257) (by decide +kernel), okk_w (k := 258) (by decide +kernel), by decide +kernel, by decide +kernel⟩
set_option maxRecDepth 100000 in
theorem d_12_0 : decode (mB 12) 0 = .ok (.aload_n 0, 1) := by decide +kernel
set_option maxRecDepth 100000 in
theorem d_12_1 : decode (mB 12) 1 = .ok (.iload_n 1, 1) := by decide +kernel
set_option maxRecDepth 100000 in
theorem d_12_2 : decode (mB 12) 2 = .ok (.invokevirtual 77, 3) := by decide +kernel
set_option maxRecDepth 100000 in
theorem d_12_5 : decode (mB 12) 5 = .ok (.iload_n 2, 1) := by decide +kernel
set_option maxRecDepth 100000 in
theorem d_12_6 : decode (mB 12) 6 = .ok (.invokestatic 154, 3) := by decide +kernel
set_option maxRecDepth 100000 in
theorem d_12_9 : decode (mB 12) 9 = .ok (.iload_n 3, 1) := by decide +kernel
set_option maxRecDepth 100000 in
theorem d_12_10 : decode (mB 12) 10 = .ok (.iconst 0, 1) := by decide +kernel
set_option maxRecDepth 100000 in
theorem d_12_11 : decode (mB 12) 11 = .ok (.sipush 2880, 3) := by decide +kernel
set_option maxRecDepth 100000 in
theorem d_12_14 : decode (mB 12) 14 = .ok (.invokestatic 58, 3) := by decide +kernel
set_option maxRecDepth 100000 in
theorem d_12_17 : decode (mB 12) 17 = .ok (.invokestatic 62, 3) := by decide +kernel
set_option maxRecDepth 100000 in
theorem d_12_20 : decode (mB 12) 20 = .ok (.aload_n 0, 1) := by decide +kernel
set_option maxRecDepth 100000 in
theorem d_12_21 : decode (mB 12) 21 = .ok (.getfield 33, 3) := by decide +kernel
set_option maxRecDepth 100000 in
theorem d_12_24 : decode (mB 12) 24 = .ok (.aload_n 0, 1) := by decide +kernel
set_option maxRecDepth 100000 in
theorem d_12_25 : decode (mB 12) 25 = .ok (.getfield 12, 3) := by decide +kernel
set_option maxRecDepth 100000 in
theorem d_12_28 : decode (mB 12) 28 = .ok (.aload_n 0, 1) := by decide +kernel
set_option maxRecDepth 100000 in
theorem d_12_29 : decode (mB 12) 29 = .ok (.getfield 19, 3) := by decide +kernel
set_option maxRecDepth 100000 in
theorem d_12_32 : decode (mB 12) 32 = .ok (.iload_n 1, 1) := by decide +kernel
set_option maxRecDepth 100000 in
theorem d_12_33 : decode (mB 12) 33 = .ok (.iload_n 2, 1) := by decide +kernel
set_option maxRecDepth 100000 in
theorem d_12_34 : decode (mB 12) 34 = .ok (.iload_n 3, 1) := by decide +kernel
set_option maxRecDepth 100000 in
theorem d_12_35 : decode (mB 12) 35 = .ok (.invokevirtual 173, 3) := by decide +kernel
set_option maxRecDepth 100000 in
theorem d_12_38 : decode (mB 12) 38 = .ok (.iconst 0, 1) := by decide +kernel
set_option maxRecDepth 100000 in
theorem d_12_39 : decode (mB 12) 39 = .ok (.istore 4, 2) := by decide +kernel
set_option maxRecDepth 100000 in
theorem d_12_41 : decode (mB 12) 41 = .ok (.iconst 0, 1) := by decide +kernel
set_option maxRecDepth 100000 in
theorem d_12_42 : decode (mB 12) 42 = .ok (.istore 5, 2) := by decide +kernel
set_option maxRecDepth 100000 in
theorem d_12_44 : decode (mB 12) 44 = .ok (.iload 5, 2) := by decide +kernel
set_option maxRecDepth 100000 in
theorem d_12_46 : decode (mB 12) 46 = .ok (.aload_n 0, 1) := by decide +kernel
set_option maxRecDepth 100000 in
theorem d_12_47 : decode (mB 12) 47 = .ok (.getfield 12, 3) := by decide +kernel
set_option maxRecDepth 100000 in
theorem d_12_50 : decode (mB 12) 50 = .ok (.getfield 66, 3) := by decide +kernel
set_option maxRecDepth 100000 in
theorem d_12_53 : decode (mB 12) 53 = .ok (.if_icmp .ge 24, 3) := by decide +kernel
set_option maxRecDepth 100000 in
theorem d_12_56 : decode (mB 12) 56 = .ok (.aload_n 0, 1) := by decide +kernel
set_option maxRecDepth 100000 in
theorem d_12_57 : decode (mB 12) 57 = .ok (.getfield 33, 3) := by decide +kernel
set_option maxRecDepth 100000 in
theorem d_12_60 : decode (mB 12) 60 = .ok (.iload 5, 2) := by decide +kernel
set_option maxRecDepth 100000 in
theorem d_12_62 : decode (mB 12) 62 = .ok (.invokevirtual 177, 3) := by decide +kernel
set_option maxRecDepth 100000 in
theorem d_12_65 : decode (mB 12) 65 = .ok (.ifCond .eq 6, 3) := by decide +kernel
set_option maxRecDepth 100000 in
theorem d_12_68 : decode (mB 12) 68 = .ok (.iinc 4 1, 3) := by decide +kernel
set_option maxRecDepth 100000 in
theorem d_12_71 : decode (mB 12) 71 = .ok (.iinc 5 1, 3) := by decide +kernel
set_option maxRecDepth 100000 in
theorem d_12_74 : decode (mB 12) 74 = .ok (.goto (-30), 3) := by decide +kernel
set_option maxRecDepth 100000 in
theorem d_12_77 : decode (mB 12) 77 = .ok (.iload 4, 2) := by decide +kernel
set_option maxRecDepth 100000 in
theorem d_12_79 : decode (mB 12) 79 = .ok (.ireturn, 1) := by decide +kernel
set_option maxRecDepth 100000 in
theorem d_17_0 : decode (mB 17) 0 = .ok (.iload_n 0, 1) := by decide +kernel
set_option maxRecDepth 100000 in
theorem d_17_1 : decode (mB 17) 1 = .ok (.ifCond .ne 14, 3) := by decide +kernel
set_option maxRecDepth 100000 in
theorem d_17_15 : decode (mB 17) 15 = .ok (.return_, 1) := by decide +kernel
set_option maxRecDepth 100000 in
theorem fl_0_117 : flP "WhistleStop" 117 7 7 := ⟨_, rfl, by decide, okk_w (k := 571) (by decide +kernel)⟩
set_option maxRecDepth 100000 in
theorem c_28_107 : csP 28 107 2 2 := ⟨cd_2, okk_w (k := 62) (by decide +kernel), okk_w (k := 63) (by decide +kernel), by decide +kernel, by decide +kernel⟩
set_option maxRecDepth 100000 in
theorem d_28_0 : decode (mB 28) 0 = .ok (.iload_n 1, 1) := by decide +kernel
set_option maxRecDepth 100000 in
theorem d_28_1 : decode (mB 28) 1 = .ok (.aload_n 0, 1) := by decide +kernel
set_option maxRecDepth 100000 in
theorem d_28_2 : decode (mB 28) 2 = .ok (.getfield 12, 3) := by decide +kernel
set_option maxRecDepth 100000 in
theorem d_28_5 : decode (mB 28) 5 = .ok (.getfield 117, 3) := by decide +kernel
set_option maxRecDepth 100000 in
theorem d_28_8 : decode (mB 28) 8 = .ok (.invokestatic 107, 3) := by decide +kernel
set_option maxRecDepth 100000 in
theorem d_28_11 : decode (mB 28) 11 = .ok (.return_, 1) := by decide +kernel
set_option maxRecDepth 100000 in
theorem c_87_24 : csnP 87 24 4 3 := ⟨cd_4, ⟨"WhistleStop", okk_w (k := 246) (by decide +kernel)⟩, okk_w (k := 140) (by decide +kernel), by decide +kernel, by decide +kernel⟩
set_option maxRecDepth 100000 in
theorem d_87_0 : decode (mB 87) 0 = .ok (.iload_n 2, 1) := by decide +kernel
set_option maxRecDepth 100000 in
theorem d_87_1 : decode (mB 87) 1 = .ok (.iconst 0, 1) := by decide +kernel
set_option maxRecDepth 100000 in
theorem d_87_2 : decode (mB 87) 2 = .ok (.bipush 6, 2) := by decide +kernel
set_option maxRecDepth 100000 in
theorem d_87_4 : decode (mB 87) 4 = .ok (.invokestatic 24, 3) := by decide +kernel
set_option maxRecDepth 100000 in
theorem d_87_7 : decode (mB 87) 7 = .ok (.ifCond .eq 14, 3) := by decide +kernel
set_option maxRecDepth 100000 in
theorem d_87_10 : decode (mB 87) 10 = .ok (.aload_n 0, 1) := by decide +kernel
set_option maxRecDepth 100000 in
theorem d_87_11 : decode (mB 87) 11 = .ok (.getfield 11, 3) := by decide +kernel
set_option maxRecDepth 100000 in
theorem d_87_14 : decode (mB 87) 14 = .ok (.iload_n 2, 1) := by decide +kernel
set_option maxRecDepth 100000 in
theorem d_87_15 : decode (mB 87) 15 = .ok (.aaload, 1) := by decide +kernel
set_option maxRecDepth 100000 in
theorem d_87_16 : decode (mB 87) 16 = .ok (.iload_n 1, 1) := by decide +kernel
set_option maxRecDepth 100000 in
theorem d_87_17 : decode (mB 87) 17 = .ok (.iaload, 1) := by decide +kernel
set_option maxRecDepth 100000 in
theorem d_87_18 : decode (mB 87) 18 = .ok (.goto 5, 3) := by decide +kernel
set_option maxRecDepth 100000 in
theorem d_87_23 : decode (mB 87) 23 = .ok (.ireturn, 1) := by decide +kernel
set_option maxRecDepth 100000 in
theorem d_88_0 : decode (mB 88) 0 = .ok (.aload_n 0, 1) := by decide +kernel
set_option maxRecDepth 100000 in
theorem d_88_1 : decode (mB 88) 1 = .ok (.getfield 11, 3) := by decide +kernel
set_option maxRecDepth 100000 in
theorem d_88_4 : decode (mB 88) 4 = .ok (.bipush 6, 2) := by decide +kernel
set_option maxRecDepth 100000 in
theorem d_88_6 : decode (mB 88) 6 = .ok (.aaload, 1) := by decide +kernel
set_option maxRecDepth 100000 in
theorem d_88_7 : decode (mB 88) 7 = .ok (.iload_n 1, 1) := by decide +kernel
set_option maxRecDepth 100000 in
theorem d_88_8 : decode (mB 88) 8 = .ok (.iaload, 1) := by decide +kernel
set_option maxRecDepth 100000 in
theorem d_88_9 : decode (mB 88) 9 = .ok (.ldc 23, 2) := by decide +kernel
set_option maxRecDepth 100000 in
theorem d_88_11 : decode (mB 88) 11 = .ok (.if_icmp .ge 7, 3) := by decide +kernel
set_option maxRecDepth 100000 in
theorem d_88_14 : decode (mB 88) 14 = .ok (.iconst 1, 1) := by decide +kernel
set_option maxRecDepth 100000 in
theorem d_88_15 : decode (mB 88) 15 = .ok (.goto 4, 3) := by decide +kernel
set_option maxRecDepth 100000 in
theorem d_88_18 : decode (mB 88) 18 = .ok (.iconst 0, 1) := by decide +kernel
set_option maxRecDepth 100000 in
theorem d_88_19 : decode (mB 88) 19 = .ok (.ireturn, 1) := by decide +kernel
set_option maxRecDepth 100000 in
theorem d_89_0 : decode (mB 89) 0 = .ok (.iconst 0, 1) := by decide +kernel
set_option maxRecDepth 100000 in
theorem d_89_1 : decode (mB 89) 1 = .ok (.istore_n 2, 1) := by decide +kernel
set_option maxRecDepth 100000 in
theorem d_89_2 : decode (mB 89) 2 = .ok (.iload_n 2, 1) := by decide +kernel
set_option maxRecDepth 100000 in
theorem d_89_3 : decode (mB 89) 3 = .ok (.bipush 6, 2) := by decide +kernel
set_option maxRecDepth 100000 in
theorem d_89_5 : decode (mB 89) 5 = .ok (.if_icmp .ge 29, 3) := by decide +kernel
set_option maxRecDepth 100000 in
theorem d_89_8 : decode (mB 89) 8 = .ok (.aload_n 0, 1) := by decide +kernel
set_option maxRecDepth 100000 in
theorem d_89_9 : decode (mB 89) 9 = .ok (.getfield 11, 3) := by decide +kernel
set_option maxRecDepth 100000 in
theorem d_89_12 : decode (mB 89) 12 = .ok (.iload_n 2, 1) := by decide +kernel
set_option maxRecDepth 100000 in
theorem d_89_13 : decode (mB 89) 13 = .ok (.aaload, 1) := by decide +kernel
set_option maxRecDepth 100000 in
theorem d_89_14 : decode (mB 89) 14 = .ok (.iload_n 1, 1) := by decide +kernel
set_option maxRecDepth 100000 in
theorem d_89_15 : decode (mB 89) 15 = .ok (.iaload, 1) := by decide +kernel
set_option maxRecDepth 100000 in
theorem d_89_16 : decode (mB 89) 16 = .ok (.aload_n 0, 1) := by decide +kernel
set_option maxRecDepth 100000 in
theorem d_89_17 : decode (mB 89) 17 = .ok (.getfield 11, 3) := by decide +kernel
set_option maxRecDepth 100000 in
theorem d_89_20 : decode (mB 89) 20 = .ok (.bipush 6, 2) := by decide +kernel
set_option maxRecDepth 100000 in
theorem d_89_22 : decode (mB 89) 22 = .ok (.aaload, 1) := by decide +kernel
set_option maxRecDepth 100000 in
theorem d_89_23 : decode (mB 89) 23 = .ok (.iload_n 1, 1) := by decide +kernel
set_option maxRecDepth 100000 in
theorem d_89_24 : decode (mB 89) 24 = .ok (.iaload, 1) := by decide +kernel
set_option maxRecDepth 100000 in
theorem d_89_25 : decode (mB 89) 25 = .ok (.if_icmp .le 9, 3) := by decide +kernel
set_option maxRecDepth 100000 in
theorem d_89_28 : decode (mB 89) 28 = .ok (.iinc 2 1, 3) := by decide +kernel
set_option maxRecDepth 100000 in
theorem d_89_31 : decode (mB 89) 31 = .ok (.goto (-29), 3) := by decide +kernel
set_option maxRecDepth 100000 in
theorem d_89_34 : decode (mB 89) 34 = .ok (.iload_n 2, 1) := by decide +kernel
set_option maxRecDepth 100000 in
theorem d_89_35 : decode (mB 89) 35 = .ok (.ireturn, 1) := by decide +kernel
