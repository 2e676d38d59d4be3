set_option maxRecDepth 100000 in
theorem cd_14 : cdP 14 := ⟨okr (k := 426) rfl (by decide +kernel), by decide +kernel, by decide +kernel, okk_w (k := 32) (by decide +kernel)⟩
set_option maxRecDepth 100000 in
theorem cd_59 : cdP 59 := ⟨okr (k := 381) rfl (by decide +kernel), by decide +kernel, by decide +kernel, okk_w (k := 40) (by decide +kernel)⟩
set_option maxRecDepth 100000 in
theorem cd_60 : cdP 60 := ⟨okr (k := 385) rfl (by decide +kernel), by decide +kernel, by decide +kernel, okk_w (k := 40) (by decide +kernel)⟩
set_option maxRecDepth 100000 in
theorem c_13_77 : cvP 13 77 1 1 := ⟨cd_1, okk_w (k := 57) (by decide +kernel), okk_w (k := 59) (by decide +kernel), okk_w (k := 0) (by decide +kernel), by decide +kernel, by decide +kernel⟩
set_option maxRecDepth 100000 in
theorem c_13_154 : csP 13 154 3 1 := ⟨cd_3, okk_w (k := 135) (by decide +kernel), okk_w (k := 136) (by decide +kernel), by decide +kernel, by decide +kernel⟩
set_option maxRecDepth 100000 in
theorem c_13_206 : cvP 13 206 59 3 := ⟨cd_59, okk_w (k := 378) (by decide +kernel), okk_w (k := 379) (by decide +kernel), okk_w (k := 380) (by decide +kernel), by decide +kernel, by decide +kernel⟩
set_option maxRecDepth 100000 in
theorem c_13_173 : cvP 13 173 80 5 := ⟨cd_80, okk_w (k := 165) (by decide +kernel), okk_w (k := 166) (by decide +kernel), okk_w (k := 167) (by decide +kernel), by decide +kernel, by decide +kernel⟩
set_option maxRecDepth 100000 in
theorem c_13_177 : cvP 13 177 88 1 := ⟨cd_88, okk_w (k := 256) (by decide +kernel), okk_w (k := 257) (by decide +kernel), okk_w (k := 258) (by decide +kernel), by decide +kernel, by decide +kernel⟩
set_option maxRecDepth 100000 in
theorem c_13_180 : cvP 13 180 89 1 := ⟨cd_89, okk_w (k := 260) (by decide +kernel), okk_w (k := 261) (by decide +kernel), okk_w (k := 262) (by decide +kernel), by decide +kernel, by decide +kernel⟩
set_option maxRecDepth 100000 in
theorem c_13_209 : cvP 13 209 87 2 := ⟨cd_87, okk_w (k := 242) (by decide +kernel), okk_w (k := 243) (by decide +kernel), okk_w (k := 244) (by decide +kernel), by decide +kernel, by decide +kernel⟩
set_option maxRecDepth 100000 in
theorem c_13_198 : cvP 13 198 40 5 := ⟨cd_40, okk_w (k := 334) (by decide +kernel), okk_w (k := 335) (by decide +kernel), okk_w (k := 336) (by decide +kernel), by decide +kernel, by decide +kernel⟩
set_option maxRecDepth 100000 in
theorem c_13_212 : cvP 13 212 60 4 := ⟨cd_60, okk_w (k := 382) (by decide +kernel), okk_w (k := 383) (by decide +kernel), okk_w (k := 384) (by decide +kernel), by decide +kernel, by decide +kernel⟩
set_option maxRecDepth 100000 in
theorem c_13_216 : cvP 13 216 14 0 := ⟨cd_14, okk_w (k := 423) (by decide +kernel), okk_w (k := 424) (by decide +kernel), okk_w (k := 425) (by decide +kernel), by decide +kernel, by decide +kernel⟩
set_option maxRecDepth 100000 in
theorem d_13_0 : decode (mB 13) 0 = .ok (.aload_n 0, 1) := by decide +kernel
set_option maxRecDepth 100000 in
theorem d_13_1 : decode (mB 13) 1 = .ok (.iload_n 1, 1) := by decide +kernel
set_option maxRecDepth 100000 in
theorem d_13_2 : decode (mB 13) 2 = .ok (.invokevirtual 77, 3) := by decide +kernel
set_option maxRecDepth 100000 in
theorem d_13_5 : decode (mB 13) 5 = .ok (.aload_n 0, 1) := by decide +kernel
set_option maxRecDepth 100000 in
theorem d_13_6 : decode (mB 13) 6 = .ok (.iload_n 2, 1) := by decide +kernel
set_option maxRecDepth 100000 in
theorem d_13_7 : decode (mB 13) 7 = .ok (.invokevirtual 77, 3) := by decide +kernel
set_option maxRecDepth 100000 in
theorem d_13_10 : decode (mB 13) 10 = .ok (.iload_n 3, 1) := by decide +kernel
set_option maxRecDepth 100000 in
theorem d_13_11 : decode (mB 13) 11 = .ok (.invokestatic 154, 3) := by decide +kernel
set_option maxRecDepth 100000 in
theorem d_13_14 : decode (mB 13) 14 = .ok (.aload_n 0, 1) := by decide +kernel
set_option maxRecDepth 100000 in
theorem d_13_15 : decode (mB 13) 15 = .ok (.getfield 54, 3) := by decide +kernel
set_option maxRecDepth 100000 in
theorem d_13_18 : decode (mB 13) 18 = .ok (.iload_n 1, 1) := by decide +kernel
set_option maxRecDepth 100000 in
theorem d_13_19 : decode (mB 13) 19 = .ok (.iload_n 2, 1) := by decide +kernel
set_option maxRecDepth 100000 in
theorem d_13_20 : decode (mB 13) 20 = .ok (.iload_n 3, 1) := by decide +kernel
set_option maxRecDepth 100000 in
theorem d_13_21 : decode (mB 13) 21 = .ok (.invokevirtual 206, 3) := by decide +kernel
set_option maxRecDepth 100000 in
theorem d_13_24 : decode (mB 13) 24 = .ok (.aload_n 0, 1) := by decide +kernel
set_option maxRecDepth 100000 in
theorem d_13_25 : decode (mB 13) 25 = .ok (.getfield 33, 3) := by decide +kernel
set_option maxRecDepth 100000 in
theorem d_13_28 : decode (mB 13) 28 = .ok (.aload_n 0, 1) := by decide +kernel
set_option maxRecDepth 100000 in
theorem d_13_29 : decode (mB 13) 29 = .ok (.getfield 12, 3) := by decide +kernel
set_option maxRecDepth 100000 in
theorem d_13_32 : decode (mB 13) 32 = .ok (.aload_n 0, 1) := by decide +kernel
set_option maxRecDepth 100000 in
theorem d_13_33 : decode (mB 13) 33 = .ok (.getfield 19, 3) := by decide +kernel
set_option maxRecDepth 100000 in
theorem d_13_36 : decode (mB 13) 36 = .ok (.iload_n 1, 1) := by decide +kernel
set_option maxRecDepth 100000 in
theorem d_13_37 : decode (mB 13) 37 = .ok (.iload_n 3, 1) := by decide +kernel
set_option maxRecDepth 100000 in
theorem d_13_38 : decode (mB 13) 38 = .ok (.sipush 2880, 3) := by decide +kernel
set_option maxRecDepth 100000 in
theorem d_13_41 : decode (mB 13) 41 = .ok (.invokevirtual 173, 3) := by decide +kernel
set_option maxRecDepth 100000 in
theorem d_13_44 : decode (mB 13) 44 = .ok (.aload_n 0, 1) := by decide +kernel
set_option maxRecDepth 100000 in
theorem d_13_45 : decode (mB 13) 45 = .ok (.getfield 33, 3) := by decide +kernel
set_option maxRecDepth 100000 in
theorem d_13_48 : decode (mB 13) 48 = .ok (.iload_n 2, 1) := by decide +kernel
set_option maxRecDepth 100000 in
theorem d_13_49 : decode (mB 13) 49 = .ok (.invokevirtual 177, 3) := by decide +kernel
set_option maxRecDepth 100000 in
theorem d_13_52 : decode (mB 13) 52 = .ok (.ifCond .ne 5, 3) := by decide +kernel
set_option maxRecDepth 100000 in
theorem d_13_55 : decode (mB 13) 55 = .ok (.iconst (-1), 1) := by decide +kernel
set_option maxRecDepth 100000 in
theorem d_13_56 : decode (mB 13) 56 = .ok (.ireturn, 1) := by decide +kernel
set_option maxRecDepth 100000 in
theorem d_13_57 : decode (mB 13) 57 = .ok (.aload_n 0, 1) := by decide +kernel
set_option maxRecDepth 100000 in
theorem d_13_58 : decode (mB 13) 58 = .ok (.getfield 33, 3) := by decide +kernel
set_option maxRecDepth 100000 in
theorem d_13_61 : decode (mB 13) 61 = .ok (.iload_n 2, 1) := by decide +kernel
set_option maxRecDepth 100000 in
theorem d_13_62 : decode (mB 13) 62 = .ok (.invokevirtual 180, 3) := by decide +kernel
set_option maxRecDepth 100000 in
theorem d_13_65 : decode (mB 13) 65 = .ok (.istore 4, 2) := by decide +kernel
set_option maxRecDepth 100000 in
theorem d_13_67 : decode (mB 13) 67 = .ok (.aload_n 0, 1) := by decide +kernel
set_option maxRecDepth 100000 in
theorem d_13_68 : decode (mB 13) 68 = .ok (.getfield 40, 3) := by decide +kernel
set_option maxRecDepth 100000 in
theorem d_13_71 : decode (mB 13) 71 = .ok (.aload_n 0, 1) := by decide +kernel
set_option maxRecDepth 100000 in
theorem d_13_72 : decode (mB 13) 72 = .ok (.getfield 12, 3) := by decide +kernel
set_option maxRecDepth 100000 in
theorem d_13_75 : decode (mB 13) 75 = .ok (.aload_n 0, 1) := by decide +kernel
set_option maxRecDepth 100000 in
theorem d_13_76 : decode (mB 13) 76 = .ok (.getfield 19, 3) := by decide +kernel
set_option maxRecDepth 100000 in
theorem d_13_79 : decode (mB 13) 79 = .ok (.iload_n 2, 1) := by decide +kernel
set_option maxRecDepth 100000 in
theorem d_13_80 : decode (mB 13) 80 = .ok (.aload_n 0, 1) := by decide +kernel
set_option maxRecDepth 100000 in
theorem d_13_81 : decode (mB 13) 81 = .ok (.getfield 33, 3) := by decide +kernel
set_option maxRecDepth 100000 in
theorem d_13_84 : decode (mB 13) 84 = .ok (.iload_n 2, 1) := by decide +kernel
set_option maxRecDepth 100000 in
theorem d_13_85 : decode (mB 13) 85 = .ok (.iload 4, 2) := by decide +kernel
set_option maxRecDepth 100000 in
theorem d_13_87 : decode (mB 13) 87 = .ok (.invokevirtual 209, 3) := by decide +kernel
set_option maxRecDepth 100000 in
theorem d_13_90 : decode (mB 13) 90 = .ok (.iload 4, 2) := by decide +kernel
set_option maxRecDepth 100000 in
theorem d_13_92 : decode (mB 13) 92 = .ok (.invokevirtual 198, 3) := by decide +kernel
set_option maxRecDepth 100000 in
theorem d_13_95 : decode (mB 13) 95 = .ok (.aload_n 0, 1) := by decide +kernel
set_option maxRecDepth 100000 in
theorem d_13_96 : decode (mB 13) 96 = .ok (.getfield 54, 3) := by decide +kernel
set_option maxRecDepth 100000 in
theorem d_13_99 : decode (mB 13) 99 = .ok (.aload_n 0, 1) := by decide +kernel
set_option maxRecDepth 100000 in
theorem d_13_100 : decode (mB 13) 100 = .ok (.getfield 12, 3) := by decide +kernel
set_option maxRecDepth 100000 in
theorem d_13_103 : decode (mB 13) 103 = .ok (.aload_n 0, 1) := by decide +kernel
set_option maxRecDepth 100000 in
theorem d_13_104 : decode (mB 13) 104 = .ok (.getfield 19, 3) := by decide +kernel
set_option maxRecDepth 100000 in
theorem d_13_107 : decode (mB 13) 107 = .ok (.aload_n 0, 1) := by decide +kernel
set_option maxRecDepth 100000 in
theorem d_13_108 : decode (mB 13) 108 = .ok (.getfield 40, 3) := by decide +kernel
set_option maxRecDepth 100000 in
theorem d_13_111 : decode (mB 13) 111 = .ok (.iload 4, 2) := by decide +kernel
set_option maxRecDepth 100000 in
theorem d_13_113 : decode (mB 13) 113 = .ok (.invokevirtual 212, 3) := by decide +kernel
set_option maxRecDepth 100000 in
theorem d_13_116 : decode (mB 13) 116 = .ok (.aload_n 0, 1) := by decide +kernel
set_option maxRecDepth 100000 in
theorem d_13_117 : decode (mB 13) 117 = .ok (.invokevirtual 216, 3) := by decide +kernel
set_option maxRecDepth 100000 in
theorem d_13_120 : decode (mB 13) 120 = .ok (.ireturn, 1) := by decide +kernel
set_option maxRecDepth 100000 in
theorem fl_0_219 : flP "WhistleStop" 219 6 0 := ⟨_, rfl, by decide, okk_w (k := 719) (by decide +kernel)⟩
set_option maxRecDepth 100000 in
theorem fl_0_223 : flP "WhistleStop" 223 6 4 := ⟨_, rfl, by decide, okk_w (k := 724) (by decide +kernel)⟩
set_option maxRecDepth 100000 in
theorem d_14_0 : decode (mB 14) 0 = .ok (.aload_n 0, 1) := by decide +kernel
set_option maxRecDepth 100000 in
theorem d_14_1 : decode (mB 14) 1 = .ok (.getfield 54, 3) := by decide +kernel
set_option maxRecDepth 100000 in
theorem d_14_4 : decode (mB 14) 4 = .ok (.getfield 219, 3) := by decide +kernel
set_option maxRecDepth 100000 in
theorem d_14_7 : decode (mB 14) 7 = .ok (.ifCond .eq 13, 3) := by decide +kernel
set_option maxRecDepth 100000 in
theorem d_14_10 : decode (mB 14) 10 = .ok (.aload_n 0, 1) := by decide +kernel
set_option maxRecDepth 100000 in
theorem d_14_11 : decode (mB 14) 11 = .ok (.getfield 54, 3) := by decide +kernel
set_option maxRecDepth 100000 in
theorem d_14_14 : decode (mB 14) 14 = .ok (.getfield 223, 3) := by decide +kernel
set_option maxRecDepth 100000 in
theorem d_14_17 : decode (mB 14) 17 = .ok (.goto 4, 3) := by decide +kernel
set_option maxRecDepth 100000 in
theorem d_14_20 : decode (mB 14) 20 = .ok (.iconst (-1), 1) := by decide +kernel
set_option maxRecDepth 100000 in
theorem d_14_21 : decode (mB 14) 21 = .ok (.ireturn, 1) := by decide +kernel
