set_option maxRecDepth 100000 in
theorem cd_26 : cdP 26 := ⟨okr (k := 506) rfl (by decide +kernel), by decide +kernel, by decide +kernel, okk_w (k := 32) (by decide +kernel)⟩
set_option maxRecDepth 100000 in
theorem cd_27 : cdP 27 := ⟨okr (k := 511) rfl (by decide +kernel), by decide +kernel, by decide +kernel, okk_w (k := 32) (by decide +kernel)⟩
set_option maxRecDepth 100000 in
theorem cd_28 : cdP 28 := ⟨okr (k := 515) rfl (by decide +kernel), by decide +kernel, by decide +kernel, okk_w (k := 32) (by decide +kernel)⟩
set_option maxRecDepth 100000 in
theorem cd_29 : cdP 29 := ⟨okr (k := 520) rfl (by decide +kernel), by decide +kernel, by decide +kernel, okk_w (k := 32) (by decide +kernel)⟩
set_option maxRecDepth 100000 in
theorem ck_0_262 : okw (.constantLong "WhistleStop" 262 (2503)) := okk_w (k := 503) (by decide +kernel)
set_option maxRecDepth 100000 in
theorem c_25_264 : csP 25 264 26 2 := ⟨cd_26, okk_w (k := 504) (by decide +kernel), okk_w (k := 505) (by decide +kernel), by decide +kernel, by decide +kernel⟩
set_option maxRecDepth 100000 in
theorem fl_0_128 : flP "WhistleStop" 128 7 3 := ⟨_, rfl, by decide, okk_w (k := 560) (by decide +kernel)⟩
set_option maxRecDepth 100000 in
theorem fl_0_142 : flP "WhistleStop" 142 11 7 := ⟨_, rfl, by decide, okk_w (k := 984) (by decide +kernel)⟩
set_option maxRecDepth 100000 in
theorem fl_0_145 : flP "WhistleStop" 145 11 3 := ⟨_, rfl, by decide, okk_w (k := 964) (by decide +kernel)⟩
set_option maxRecDepth 100000 in
theorem c_25_268 : cvP 25 268 27 2 := ⟨cd_27, okk_w (k := 508) (by decide +kernel), okk_w (k := 509) (by decide +kernel), okk_w (k := 510) (by decide +kernel), by decide +kernel, by decide +kernel⟩
set_option maxRecDepth 100000 in
theorem c_25_216 : cvP 25 216 14 0 := ⟨cd_14, okk_w (k := 423) (by decide +kernel), okk_w (k := 424) (by decide +kernel), okk_w (k := 425) (by decide +kernel), by decide +kernel, by decide +kernel⟩
set_option maxRecDepth 100000 in
theorem c_25_271 : cvP 25 271 29 1 := ⟨cd_29, okk_w (k := 517) (by decide +kernel), okk_w (k := 519) (by decide +kernel), okk_w (k := 29) (by decide +kernel), by decide +kernel, by decide +kernel⟩
set_option maxRecDepth 100000 in
theorem d_25_0 : decode (mB 25) 0 = .ok (.ldc2_w 262, 3) := by decide +kernel
set_option maxRecDepth 100000 in
theorem d_25_3 : decode (mB 25) 3 = .ok (.aload_n 0, 1) := by decide +kernel
set_option maxRecDepth 100000 in
theorem d_25_4 : decode (mB 25) 4 = .ok (.getfield 12, 3) := by decide +kernel
set_option maxRecDepth 100000 in
theorem d_25_7 : decode (mB 25) 7 = .ok (.getfield 66, 3) := by decide +kernel
set_option maxRecDepth 100000 in
theorem d_25_10 : decode (mB 25) 10 = .ok (.invokestatic 264, 3) := by decide +kernel
set_option maxRecDepth 100000 in
theorem d_25_13 : decode (mB 25) 13 = .ok (.aload_n 0, 1) := by decide +kernel
set_option maxRecDepth 100000 in
theorem d_25_14 : decode (mB 25) 14 = .ok (.getfield 12, 3) := by decide +kernel
set_option maxRecDepth 100000 in
theorem d_25_17 : decode (mB 25) 17 = .ok (.getfield 117, 3) := by decide +kernel
set_option maxRecDepth 100000 in
theorem d_25_20 : decode (mB 25) 20 = .ok (.invokestatic 264, 3) := by decide +kernel
set_option maxRecDepth 100000 in
theorem d_25_23 : decode (mB 25) 23 = .ok (.lstore_n 1, 1) := by decide +kernel
set_option maxRecDepth 100000 in
theorem d_25_24 : decode (mB 25) 24 = .ok (.iconst 0, 1) := by decide +kernel
set_option maxRecDepth 100000 in
theorem d_25_25 : decode (mB 25) 25 = .ok (.istore_n 3, 1) := by decide +kernel
set_option maxRecDepth 100000 in
theorem d_25_26 : decode (mB 25) 26 = .ok (.iload_n 3, 1) := by decide +kernel
set_option maxRecDepth 100000 in
theorem d_25_27 : decode (mB 25) 27 = .ok (.aload_n 0, 1) := by decide +kernel
set_option maxRecDepth 100000 in
theorem d_25_28 : decode (mB 25) 28 = .ok (.getfield 12, 3) := by decide +kernel
set_option maxRecDepth 100000 in
theorem d_25_31 : decode (mB 25) 31 = .ok (.getfield 117, 3) := by decide +kernel
set_option maxRecDepth 100000 in
theorem d_25_34 : decode (mB 25) 34 = .ok (.if_icmp .ge 72, 3) := by decide +kernel
set_option maxRecDepth 100000 in
theorem d_25_37 : decode (mB 25) 37 = .ok (.lload_n 1, 1) := by decide +kernel
set_option maxRecDepth 100000 in
theorem d_25_38 : decode (mB 25) 38 = .ok (.aload_n 0, 1) := by decide +kernel
set_option maxRecDepth 100000 in
theorem d_25_39 : decode (mB 25) 39 = .ok (.getfield 12, 3) := by decide +kernel
set_option maxRecDepth 100000 in
theorem d_25_42 : decode (mB 25) 42 = .ok (.getfield 128, 3) := by decide +kernel
set_option maxRecDepth 100000 in
theorem d_25_45 : decode (mB 25) 45 = .ok (.iload_n 3, 1) := by decide +kernel
set_option maxRecDepth 100000 in
theorem d_25_46 : decode (mB 25) 46 = .ok (.aaload, 1) := by decide +kernel
set_option maxRecDepth 100000 in
theorem d_25_47 : decode (mB 25) 47 = .ok (.getfield 142, 3) := by decide +kernel
set_option maxRecDepth 100000 in
theorem d_25_50 : decode (mB 25) 50 = .ok (.invokestatic 264, 3) := by decide +kernel
set_option maxRecDepth 100000 in
theorem d_25_53 : decode (mB 25) 53 = .ok (.lstore_n 1, 1) := by decide +kernel
set_option maxRecDepth 100000 in
theorem d_25_54 : decode (mB 25) 54 = .ok (.iconst 0, 1) := by decide +kernel
set_option maxRecDepth 100000 in
theorem d_25_55 : decode (mB 25) 55 = .ok (.istore 4, 2) := by decide +kernel
set_option maxRecDepth 100000 in
theorem d_25_57 : decode (mB 25) 57 = .ok (.iload 4, 2) := by decide +kernel
set_option maxRecDepth 100000 in
theorem d_25_59 : decode (mB 25) 59 = .ok (.aload_n 0, 1) := by decide +kernel
set_option maxRecDepth 100000 in
theorem d_25_60 : decode (mB 25) 60 = .ok (.getfield 12, 3) := by decide +kernel
set_option maxRecDepth 100000 in
theorem d_25_63 : decode (mB 25) 63 = .ok (.getfield 128, 3) := by decide +kernel
set_option maxRecDepth 100000 in
theorem d_25_66 : decode (mB 25) 66 = .ok (.iload_n 3, 1) := by decide +kernel
set_option maxRecDepth 100000 in
theorem d_25_67 : decode (mB 25) 67 = .ok (.aaload, 1) := by decide +kernel
set_option maxRecDepth 100000 in
theorem d_25_68 : decode (mB 25) 68 = .ok (.getfield 142, 3) := by decide +kernel
set_option maxRecDepth 100000 in
theorem d_25_71 : decode (mB 25) 71 = .ok (.if_icmp .ge 29, 3) := by decide +kernel
set_option maxRecDepth 100000 in
theorem d_25_74 : decode (mB 25) 74 = .ok (.lload_n 1, 1) := by decide +kernel
set_option maxRecDepth 100000 in
theorem d_25_75 : decode (mB 25) 75 = .ok (.aload_n 0, 1) := by decide +kernel
set_option maxRecDepth 100000 in
theorem d_25_76 : decode (mB 25) 76 = .ok (.getfield 12, 3) := by decide +kernel
set_option maxRecDepth 100000 in
theorem d_25_79 : decode (mB 25) 79 = .ok (.getfield 128, 3) := by decide +kernel
set_option maxRecDepth 100000 in
theorem d_25_82 : decode (mB 25) 82 = .ok (.iload_n 3, 1) := by decide +kernel
set_option maxRecDepth 100000 in
theorem d_25_83 : decode (mB 25) 83 = .ok (.aaload, 1) := by decide +kernel
set_option maxRecDepth 100000 in
theorem d_25_84 : decode (mB 25) 84 = .ok (.getfield 145, 3) := by decide +kernel
set_option maxRecDepth 100000 in
theorem d_25_87 : decode (mB 25) 87 = .ok (.iload 4, 2) := by decide +kernel
set_option maxRecDepth 100000 in
theorem d_25_89 : decode (mB 25) 89 = .ok (.iaload, 1) := by decide +kernel
set_option maxRecDepth 100000 in
theorem d_25_90 : decode (mB 25) 90 = .ok (.invokestatic 264, 3) := by decide +kernel
set_option maxRecDepth 100000 in
theorem d_25_93 : decode (mB 25) 93 = .ok (.lstore_n 1, 1) := by decide +kernel
set_option maxRecDepth 100000 in
theorem d_25_94 : decode (mB 25) 94 = .ok (.iinc 4 1, 3) := by decide +kernel
set_option maxRecDepth 100000 in
theorem d_25_97 : decode (mB 25) 97 = .ok (.goto (-40), 3) := by decide +kernel
set_option maxRecDepth 100000 in
theorem d_25_100 : decode (mB 25) 100 = .ok (.iinc 3 1, 3) := by decide +kernel
set_option maxRecDepth 100000 in
theorem d_25_103 : decode (mB 25) 103 = .ok (.goto (-77), 3) := by decide +kernel
set_option maxRecDepth 100000 in
theorem d_25_106 : decode (mB 25) 106 = .ok (.iconst 0, 1) := by decide +kernel
set_option maxRecDepth 100000 in
theorem d_25_107 : decode (mB 25) 107 = .ok (.istore_n 3, 1) := by decide +kernel
set_option maxRecDepth 100000 in
theorem d_25_108 : decode (mB 25) 108 = .ok (.iload_n 3, 1) := by decide +kernel
set_option maxRecDepth 100000 in
theorem d_25_109 : decode (mB 25) 109 = .ok (.aload_n 0, 1) := by decide +kernel
set_option maxRecDepth 100000 in
theorem d_25_110 : decode (mB 25) 110 = .ok (.getfield 12, 3) := by decide +kernel
set_option maxRecDepth 100000 in
theorem d_25_113 : decode (mB 25) 113 = .ok (.getfield 117, 3) := by decide +kernel
set_option maxRecDepth 100000 in
theorem d_25_116 : decode (mB 25) 116 = .ok (.if_icmp .ge 37, 3) := by decide +kernel
set_option maxRecDepth 100000 in
theorem d_25_119 : decode (mB 25) 119 = .ok (.iconst 0, 1) := by decide +kernel
set_option maxRecDepth 100000 in
theorem d_25_120 : decode (mB 25) 120 = .ok (.istore 4, 2) := by decide +kernel
set_option maxRecDepth 100000 in
theorem d_25_122 : decode (mB 25) 122 = .ok (.iload 4, 2) := by decide +kernel
set_option maxRecDepth 100000 in
theorem d_25_124 : decode (mB 25) 124 = .ok (.bipush 7, 2) := by decide +kernel
set_option maxRecDepth 100000 in
theorem d_25_126 : decode (mB 25) 126 = .ok (.if_icmp .ge 21, 3) := by decide +kernel
set_option maxRecDepth 100000 in
theorem d_25_129 : decode (mB 25) 129 = .ok (.lload_n 1, 1) := by decide +kernel
set_option maxRecDepth 100000 in
theorem d_25_130 : decode (mB 25) 130 = .ok (.aload_n 0, 1) := by decide +kernel
set_option maxRecDepth 100000 in
theorem d_25_131 : decode (mB 25) 131 = .ok (.iload_n 3, 1) := by decide +kernel
set_option maxRecDepth 100000 in
theorem d_25_132 : decode (mB 25) 132 = .ok (.iload 4, 2) := by decide +kernel
set_option maxRecDepth 100000 in
theorem d_25_134 : decode (mB 25) 134 = .ok (.invokevirtual 268, 3) := by decide +kernel
set_option maxRecDepth 100000 in
theorem d_25_137 : decode (mB 25) 137 = .ok (.invokestatic 264, 3) := by decide +kernel
set_option maxRecDepth 100000 in
theorem d_25_140 : decode (mB 25) 140 = .ok (.lstore_n 1, 1) := by decide +kernel
set_option maxRecDepth 100000 in
theorem d_25_141 : decode (mB 25) 141 = .ok (.iinc 4 1, 3) := by decide +kernel
set_option maxRecDepth 100000 in
theorem d_25_144 : decode (mB 25) 144 = .ok (.goto (-22), 3) := by decide +kernel
set_option maxRecDepth 100000 in
theorem d_25_147 : decode (mB 25) 147 = .ok (.iinc 3 1, 3) := by decide +kernel
set_option maxRecDepth 100000 in
theorem d_25_150 : decode (mB 25) 150 = .ok (.goto (-42), 3) := by decide +kernel
set_option maxRecDepth 100000 in
theorem d_25_153 : decode (mB 25) 153 = .ok (.lload_n 1, 1) := by decide +kernel
set_option maxRecDepth 100000 in
theorem d_25_154 : decode (mB 25) 154 = .ok (.aload_n 0, 1) := by decide +kernel
set_option maxRecDepth 100000 in
theorem d_25_155 : decode (mB 25) 155 = .ok (.invokevirtual 216, 3) := by decide +kernel
set_option maxRecDepth 100000 in
theorem d_25_158 : decode (mB 25) 158 = .ok (.invokestatic 264, 3) := by decide +kernel
set_option maxRecDepth 100000 in
theorem d_25_161 : decode (mB 25) 161 = .ok (.lstore_n 1, 1) := by decide +kernel
set_option maxRecDepth 100000 in
theorem d_25_162 : decode (mB 25) 162 = .ok (.aload_n 0, 1) := by decide +kernel
set_option maxRecDepth 100000 in
theorem d_25_163 : decode (mB 25) 163 = .ok (.getfield 54, 3) := by decide +kernel
set_option maxRecDepth 100000 in
theorem d_25_166 : decode (mB 25) 166 = .ok (.getfield 219, 3) := by decide +kernel
set_option maxRecDepth 100000 in
theorem d_25_169 : decode (mB 25) 169 = .ok (.ifCond .eq 11, 3) := by decide +kernel
set_option maxRecDepth 100000 in
theorem d_25_172 : decode (mB 25) 172 = .ok (.aload_n 0, 1) := by decide +kernel
set_option maxRecDepth 100000 in
theorem d_25_173 : decode (mB 25) 173 = .ok (.lload_n 1, 1) := by decide +kernel
set_option maxRecDepth 100000 in
theorem d_25_174 : decode (mB 25) 174 = .ok (.invokevirtual 271, 3) := by decide +kernel
set_option maxRecDepth 100000 in
theorem d_25_177 : decode (mB 25) 177 = .ok (.goto 4, 3) := by decide +kernel
set_option maxRecDepth 100000 in
theorem d_25_180 : decode (mB 25) 180 = .ok (.lload_n 1, 1) := by decide +kernel
set_option maxRecDepth 100000 in
theorem d_25_181 : decode (mB 25) 181 = .ok (.lreturn, 1) := by decide +kernel
set_option maxRecDepth 100000 in
theorem ck_0_275 : okw (.constantLong "WhistleStop" 275 (31)) := okk_w (k := 507) (by decide +kernel)
set_option maxRecDepth 100000 in
theorem d_26_0 : decode (mB 26) 0 = .ok (.lload_n 0, 1) := by decide +kernel
set_option maxRecDepth 100000 in
theorem d_26_1 : decode (mB 26) 1 = .ok (.ldc2_w 275, 3) := by decide +kernel
set_option maxRecDepth 100000 in
theorem d_26_4 : decode (mB 26) 4 = .ok (.lmul, 1) := by decide +kernel
set_option maxRecDepth 100000 in
theorem d_26_5 : decode (mB 26) 5 = .ok (.iload_n 2, 1) := by decide +kernel
set_option maxRecDepth 100000 in
theorem d_26_6 : decode (mB 26) 6 = .ok (.i2l, 1) := by decide +kernel
set_option maxRecDepth 100000 in
theorem d_26_7 : decode (mB 26) 7 = .ok (.ladd, 1) := by decide +kernel
set_option maxRecDepth 100000 in
theorem d_26_8 : decode (mB 26) 8 = .ok (.lreturn, 1) := by decide +kernel
set_option maxRecDepth 100000 in
theorem c_27_135 : cvP 27 135 28 1 := ⟨cd_28, okk_w (k := 512) (by decide +kernel), okk_w (k := 514) (by decide +kernel), okk_w (k := 28) (by decide +kernel), by decide +kernel, by decide +kernel⟩
set_option maxRecDepth 100000 in
theorem c_27_151 : cvP 27 151 94 1 := ⟨cd_94, okk_w (k := 516) (by decide +kernel), okk_w (k := 183) (by decide +kernel), okk_w (k := 184) (by decide +kernel), by decide +kernel, by decide +kernel⟩
set_option maxRecDepth 100000 in
theorem fl_0_148 : flP "WhistleStop" 148 11 6 := ⟨_, rfl, by decide, okk_w (k := 977) (by decide +kernel)⟩
set_option maxRecDepth 100000 in
theorem d_27_0 : decode (mB 27) 0 = .ok (.aload_n 0, 1) := by decide +kernel
set_option maxRecDepth 100000 in
theorem d_27_1 : decode (mB 27) 1 = .ok (.iload_n 1, 1) := by decide +kernel
set_option maxRecDepth 100000 in
theorem d_27_2 : decode (mB 27) 2 = .ok (.invokevirtual 135, 3) := by decide +kernel
set_option maxRecDepth 100000 in
theorem d_27_5 : decode (mB 27) 5 = .ok (.aload_n 0, 1) := by decide +kernel
set_option maxRecDepth 100000 in
theorem d_27_6 : decode (mB 27) 6 = .ok (.getfield 12, 3) := by decide +kernel
set_option maxRecDepth 100000 in
theorem d_27_9 : decode (mB 27) 9 = .ok (.getfield 128, 3) := by decide +kernel
set_option maxRecDepth 100000 in
theorem d_27_12 : decode (mB 27) 12 = .ok (.iload_n 1, 1) := by decide +kernel
set_option maxRecDepth 100000 in
theorem d_27_13 : decode (mB 27) 13 = .ok (.aaload, 1) := by decide +kernel
set_option maxRecDepth 100000 in
theorem d_27_14 : decode (mB 27) 14 = .ok (.iload_n 2, 1) := by decide +kernel
set_option maxRecDepth 100000 in
theorem d_27_15 : decode (mB 27) 15 = .ok (.invokevirtual 151, 3) := by decide +kernel
set_option maxRecDepth 100000 in
theorem d_27_18 : decode (mB 27) 18 = .ok (.ifCond .eq 20, 3) := by decide +kernel
set_option maxRecDepth 100000 in
theorem d_27_21 : decode (mB 27) 21 = .ok (.aload_n 0, 1) := by decide +kernel
set_option maxRecDepth 100000 in
theorem d_27_22 : decode (mB 27) 22 = .ok (.getfield 12, 3) := by decide +kernel
set_option maxRecDepth 100000 in
theorem d_27_25 : decode (mB 27) 25 = .ok (.getfield 128, 3) := by decide +kernel
set_option maxRecDepth 100000 in
theorem d_27_28 : decode (mB 27) 28 = .ok (.iload_n 1, 1) := by decide +kernel
set_option maxRecDepth 100000 in
theorem d_27_29 : decode (mB 27) 29 = .ok (.aaload, 1) := by decide +kernel
set_option maxRecDepth 100000 in
theorem d_27_30 : decode (mB 27) 30 = .ok (.getfield 148, 3) := by decide +kernel
set_option maxRecDepth 100000 in
theorem d_27_33 : decode (mB 27) 33 = .ok (.iload_n 2, 1) := by decide +kernel
set_option maxRecDepth 100000 in
theorem d_27_34 : decode (mB 27) 34 = .ok (.iaload, 1) := by decide +kernel
set_option maxRecDepth 100000 in
theorem d_27_35 : decode (mB 27) 35 = .ok (.goto 4, 3) := by decide +kernel
set_option maxRecDepth 100000 in
theorem d_27_38 : decode (mB 27) 38 = .ok (.iconst (-1), 1) := by decide +kernel
set_option maxRecDepth 100000 in
theorem d_27_39 : decode (mB 27) 39 = .ok (.ireturn, 1) := by decide +kernel
set_option maxRecDepth 100000 in
theorem c_29_227 : cvP 29 227 69 1 := ⟨cd_69, okk_w (k := 454) (by decide +kernel), okk_w (k := 455) (by decide +kernel), okk_w (k := 456) (by decide +kernel), by decide +kernel, by decide +kernel⟩
set_option maxRecDepth 100000 in
theorem c_29_264 : csP 29 264 26 2 := ⟨cd_26, okk_w (k := 504) (by decide +kernel), okk_w (k := 505) (by decide +kernel), by decide +kernel, by decide +kernel⟩
set_option maxRecDepth 100000 in
theorem c_29_243 : cvP 29 243 70 1 := ⟨cd_70, okk_w (k := 482) (by decide +kernel), okk_w (k := 483) (by decide +kernel), okk_w (k := 484) (by decide +kernel), by decide +kernel, by decide +kernel⟩
set_option maxRecDepth 100000 in
theorem d_29_0 : decode (mB 29) 0 = .ok (.lload_n 1, 1) := by decide +kernel
set_option maxRecDepth 100000 in
theorem d_29_1 : decode (mB 29) 1 = .ok (.lstore_n 3, 1) := by decide +kernel
set_option maxRecDepth 100000 in
theorem d_29_2 : decode (mB 29) 2 = .ok (.iconst 0, 1) := by decide +kernel
set_option maxRecDepth 100000 in
theorem d_29_3 : decode (mB 29) 3 = .ok (.istore 5, 2) := by decide +kernel
set_option maxRecDepth 100000 in
theorem d_29_5 : decode (mB 29) 5 = .ok (.iload 5, 2) := by decide +kernel
set_option maxRecDepth 100000 in
theorem d_29_7 : decode (mB 29) 7 = .ok (.aload_n 0, 1) := by decide +kernel
set_option maxRecDepth 100000 in
theorem d_29_8 : decode (mB 29) 8 = .ok (.getfield 54, 3) := by decide +kernel
set_option maxRecDepth 100000 in
theorem d_29_11 : decode (mB 29) 11 = .ok (.getfield 223, 3) := by decide +kernel
set_option maxRecDepth 100000 in
theorem d_29_14 : decode (mB 29) 14 = .ok (.if_icmp .ge 68, 3) := by decide +kernel
set_option maxRecDepth 100000 in
theorem d_29_17 : decode (mB 29) 17 = .ok (.lload_n 3, 1) := by decide +kernel
set_option maxRecDepth 100000 in
theorem d_29_18 : decode (mB 29) 18 = .ok (.aload_n 0, 1) := by decide +kernel
set_option maxRecDepth 100000 in
theorem d_29_19 : decode (mB 29) 19 = .ok (.getfield 54, 3) := by decide +kernel
set_option maxRecDepth 100000 in
theorem d_29_22 : decode (mB 29) 22 = .ok (.iload 5, 2) := by decide +kernel
set_option maxRecDepth 100000 in
theorem d_29_24 : decode (mB 29) 24 = .ok (.invokevirtual 227, 3) := by decide +kernel
set_option maxRecDepth 100000 in
theorem d_29_27 : decode (mB 29) 27 = .ok (.invokestatic 264, 3) := by decide +kernel
set_option maxRecDepth 100000 in
theorem d_29_30 : decode (mB 29) 30 = .ok (.lstore_n 3, 1) := by decide +kernel
set_option maxRecDepth 100000 in
theorem d_29_31 : decode (mB 29) 31 = .ok (.lload_n 3, 1) := by decide +kernel
set_option maxRecDepth 100000 in
theorem d_29_32 : decode (mB 29) 32 = .ok (.aload_n 0, 1) := by decide +kernel
set_option maxRecDepth 100000 in
theorem d_29_33 : decode (mB 29) 33 = .ok (.getfield 54, 3) := by decide +kernel
set_option maxRecDepth 100000 in
theorem d_29_36 : decode (mB 29) 36 = .ok (.getfield 228, 3) := by decide +kernel
set_option maxRecDepth 100000 in
theorem d_29_39 : decode (mB 29) 39 = .ok (.iload 5, 2) := by decide +kernel
set_option maxRecDepth 100000 in
theorem d_29_41 : decode (mB 29) 41 = .ok (.iaload, 1) := by decide +kernel
set_option maxRecDepth 100000 in
theorem d_29_42 : decode (mB 29) 42 = .ok (.invokestatic 264, 3) := by decide +kernel
set_option maxRecDepth 100000 in
theorem d_29_45 : decode (mB 29) 45 = .ok (.lstore_n 3, 1) := by decide +kernel
set_option maxRecDepth 100000 in
theorem d_29_46 : decode (mB 29) 46 = .ok (.lload_n 3, 1) := by decide +kernel
set_option maxRecDepth 100000 in
theorem d_29_47 : decode (mB 29) 47 = .ok (.aload_n 0, 1) := by decide +kernel
set_option maxRecDepth 100000 in
theorem d_29_48 : decode (mB 29) 48 = .ok (.getfield 54, 3) := by decide +kernel
set_option maxRecDepth 100000 in
theorem d_29_51 : decode (mB 29) 51 = .ok (.getfield 231, 3) := by decide +kernel
set_option maxRecDepth 100000 in
theorem d_29_54 : decode (mB 29) 54 = .ok (.iload 5, 2) := by decide +kernel
set_option maxRecDepth 100000 in
theorem d_29_56 : decode (mB 29) 56 = .ok (.iaload, 1) := by decide +kernel
set_option maxRecDepth 100000 in
theorem d_29_57 : decode (mB 29) 57 = .ok (.invokestatic 264, 3) := by decide +kernel
set_option maxRecDepth 100000 in
theorem d_29_60 : decode (mB 29) 60 = .ok (.lstore_n 3, 1) := by decide +kernel
set_option maxRecDepth 100000 in
theorem d_29_61 : decode (mB 29) 61 = .ok (.lload_n 3, 1) := by decide +kernel
set_option maxRecDepth 100000 in
theorem d_29_62 : decode (mB 29) 62 = .ok (.aload_n 0, 1) := by decide +kernel
set_option maxRecDepth 100000 in
theorem d_29_63 : decode (mB 29) 63 = .ok (.getfield 54, 3) := by decide +kernel
set_option maxRecDepth 100000 in
theorem d_29_66 : decode (mB 29) 66 = .ok (.getfield 234, 3) := by decide +kernel
set_option maxRecDepth 100000 in
theorem d_29_69 : decode (mB 29) 69 = .ok (.iload 5, 2) := by decide +kernel
set_option maxRecDepth 100000 in
theorem d_29_71 : decode (mB 29) 71 = .ok (.iaload, 1) := by decide +kernel
set_option maxRecDepth 100000 in
theorem d_29_72 : decode (mB 29) 72 = .ok (.invokestatic 264, 3) := by decide +kernel
set_option maxRecDepth 100000 in
theorem d_29_75 : decode (mB 29) 75 = .ok (.lstore_n 3, 1) := by decide +kernel
set_option maxRecDepth 100000 in
theorem d_29_76 : decode (mB 29) 76 = .ok (.iinc 5 1, 3) := by decide +kernel
set_option maxRecDepth 100000 in
theorem d_29_79 : decode (mB 29) 79 = .ok (.goto (-74), 3) := by decide +kernel
set_option maxRecDepth 100000 in
theorem d_29_82 : decode (mB 29) 82 = .ok (.lload_n 3, 1) := by decide +kernel
set_option maxRecDepth 100000 in
theorem d_29_83 : decode (mB 29) 83 = .ok (.aload_n 0, 1) := by decide +kernel
set_option maxRecDepth 100000 in
theorem d_29_84 : decode (mB 29) 84 = .ok (.getfield 54, 3) := by decide +kernel
set_option maxRecDepth 100000 in
theorem d_29_87 : decode (mB 29) 87 = .ok (.getfield 237, 3) := by decide +kernel
set_option maxRecDepth 100000 in
theorem d_29_90 : decode (mB 29) 90 = .ok (.invokestatic 264, 3) := by decide +kernel
set_option maxRecDepth 100000 in
theorem d_29_93 : decode (mB 29) 93 = .ok (.lstore_n 3, 1) := by decide +kernel
set_option maxRecDepth 100000 in
theorem d_29_94 : decode (mB 29) 94 = .ok (.lload_n 3, 1) := by decide +kernel
set_option maxRecDepth 100000 in
theorem d_29_95 : decode (mB 29) 95 = .ok (.aload_n 0, 1) := by decide +kernel
set_option maxRecDepth 100000 in
theorem d_29_96 : decode (mB 29) 96 = .ok (.getfield 54, 3) := by decide +kernel
set_option maxRecDepth 100000 in
theorem d_29_99 : decode (mB 29) 99 = .ok (.getfield 240, 3) := by decide +kernel
set_option maxRecDepth 100000 in
theorem d_29_102 : decode (mB 29) 102 = .ok (.invokestatic 264, 3) := by decide +kernel
set_option maxRecDepth 100000 in
theorem d_29_105 : decode (mB 29) 105 = .ok (.lstore_n 3, 1) := by decide +kernel
set_option maxRecDepth 100000 in
theorem d_29_106 : decode (mB 29) 106 = .ok (.lload_n 3, 1) := by decide +kernel
set_option maxRecDepth 100000 in
theorem d_29_107 : decode (mB 29) 107 = .ok (.aload_n 0, 1) := by decide +kernel
set_option maxRecDepth 100000 in
theorem d_29_108 : decode (mB 29) 108 = .ok (.getfield 54, 3) := by decide +kernel
set_option maxRecDepth 100000 in
theorem d_29_111 : decode (mB 29) 111 = .ok (.aload_n 0, 1) := by decide +kernel
set_option maxRecDepth 100000 in
theorem d_29_112 : decode (mB 29) 112 = .ok (.getfield 12, 3) := by decide +kernel
set_option maxRecDepth 100000 in
theorem d_29_115 : decode (mB 29) 115 = .ok (.invokevirtual 243, 3) := by decide +kernel
set_option maxRecDepth 100000 in
theorem d_29_118 : decode (mB 29) 118 = .ok (.ifCond .eq 7, 3) := by decide +kernel
set_option maxRecDepth 100000 in
theorem d_29_121 : decode (mB 29) 121 = .ok (.iconst 1, 1) := by decide +kernel
set_option maxRecDepth 100000 in
theorem d_29_122 : decode (mB 29) 122 = .ok (.goto 4, 3) := by decide +kernel
set_option maxRecDepth 100000 in
theorem d_29_126 : decode (mB 29) 126 = .ok (.invokestatic 264, 3) := by decide +kernel
set_option maxRecDepth 100000 in
theorem d_29_129 : decode (mB 29) 129 = .ok (.lreturn, 1) := by decide +kernel
