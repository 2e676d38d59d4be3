set_option maxRecDepth 100000 in
theorem cd_40 : cdP 40 := ⟨okr (k := 337) rfl (by decide +kernel), by decide +kernel, by decide +kernel, okk_w (k := 37) (by decide +kernel)⟩
set_option maxRecDepth 100000 in
theorem cd_46 : cdP 46 := ⟨okr (k := 367) rfl (by decide +kernel), by decide +kernel, by decide +kernel, okk_w (k := 37) (by decide +kernel)⟩
set_option maxRecDepth 100000 in
theorem c_11_77 : cvP 11 77 1 1 := ⟨cd_1, okk_w (k := 57) (by decide +kernel), okk_w (k := 59) (by decide +kernel), okk_w (k := 0) (by decide +kernel), by decide +kernel, by decide +kernel⟩
set_option maxRecDepth 100000 in
theorem c_11_154 : csP 11 154 3 1 := ⟨cd_3, okk_w (k := 135) (by decide +kernel), okk_w (k := 136) (by decide +kernel), by decide +kernel, by decide +kernel⟩
set_option maxRecDepth 100000 in
theorem c_11_183 : cvP 11 183 91 3 := ⟨cd_91, okk_w (k := 268) (by decide +kernel), okk_w (k := 170) (by decide +kernel), okk_w (k := 171) (by decide +kernel), by decide +kernel, by decide +kernel⟩
set_option maxRecDepth 100000 in
theorem c_11_198 : cvP 11 198 40 5 := ⟨cd_40, okk_w (k := 334) (by decide +kernel), okk_w (k := 335) (by decide +kernel), okk_w (k := 336) (by decide +kernel), by decide +kernel, by decide +kernel⟩
set_option maxRecDepth 100000 in
theorem c_11_199 : cvP 11 199 46 3 := ⟨cd_46, okk_w (k := 364) (by decide +kernel), okk_w (k := 365) (by decide +kernel), okk_w (k := 366) (by decide +kernel), by decide +kernel, by decide +kernel⟩
set_option maxRecDepth 100000 in
theorem c_11_203 : csP 11 203 110 2 := ⟨cd_110, okk_w (k := 369) (by decide +kernel), okk_w (k := 177) (by decide +kernel), by decide +kernel, by decide +kernel⟩
set_option maxRecDepth 100000 in
theorem c_11_187 : csP 11 187 111 2 := ⟨cd_111, okk_w (k := 269) (by decide +kernel), okk_w (k := 180) (by decide +kernel), by decide +kernel, by decide +kernel⟩
set_option maxRecDepth 100000 in
theorem d_11_0 : decode (mB 11) 0 = .ok (.aload_n 0, 1) := by decide +kernel
set_option maxRecDepth 100000 in
theorem d_11_1 : decode (mB 11) 1 = .ok (.iload_n 1, 1) := by decide +kernel
set_option maxRecDepth 100000 in
theorem d_11_2 : decode (mB 11) 2 = .ok (.invokevirtual 77, 3) := by decide +kernel
set_option maxRecDepth 100000 in
theorem d_11_5 : decode (mB 11) 5 = .ok (.aload_n 0, 1) := by decide +kernel
set_option maxRecDepth 100000 in
theorem d_11_6 : decode (mB 11) 6 = .ok (.iload_n 2, 1) := by decide +kernel
set_option maxRecDepth 100000 in
theorem d_11_7 : decode (mB 11) 7 = .ok (.invokevirtual 77, 3) := by decide +kernel
set_option maxRecDepth 100000 in
theorem d_11_10 : decode (mB 11) 10 = .ok (.iload_n 3, 1) := by decide +kernel
set_option maxRecDepth 100000 in
theorem d_11_11 : decode (mB 11) 11 = .ok (.invokestatic 154, 3) := by decide +kernel
set_option maxRecDepth 100000 in
theorem d_11_14 : decode (mB 11) 14 = .ok (.iload_n 3, 1) := by decide +kernel
set_option maxRecDepth 100000 in
theorem d_11_15 : decode (mB 11) 15 = .ok (.istore 4, 2) := by decide +kernel
set_option maxRecDepth 100000 in
theorem d_11_17 : decode (mB 11) 17 = .ok (.iload 4, 2) := by decide +kernel
set_option maxRecDepth 100000 in
theorem d_11_19 : decode (mB 11) 19 = .ok (.ifCond .lt 121, 3) := by decide +kernel
set_option maxRecDepth 100000 in
theorem d_11_22 : decode (mB 11) 22 = .ok (.aload_n 0, 1) := by decide +kernel
set_option maxRecDepth 100000 in
theorem d_11_23 : decode (mB 11) 23 = .ok (.getfield 19, 3) := by decide +kernel
set_option maxRecDepth 100000 in
theorem d_11_26 : decode (mB 11) 26 = .ok (.aload_n 0, 1) := by decide +kernel
set_option maxRecDepth 100000 in
theorem d_11_27 : decode (mB 11) 27 = .ok (.getfield 12, 3) := by decide +kernel
set_option maxRecDepth 100000 in
theorem d_11_30 : decode (mB 11) 30 = .ok (.iload 4, 2) := by decide +kernel
set_option maxRecDepth 100000 in
theorem d_11_32 : decode (mB 11) 32 = .ok (.sipush 5760, 3) := by decide +kernel
set_option maxRecDepth 100000 in
theorem d_11_35 : decode (mB 11) 35 = .ok (.isub, 1) := by decide +kernel
set_option maxRecDepth 100000 in
theorem d_11_36 : decode (mB 11) 36 = .ok (.iload 4, 2) := by decide +kernel
set_option maxRecDepth 100000 in
theorem d_11_38 : decode (mB 11) 38 = .ok (.invokevirtual 183, 3) := by decide +kernel
set_option maxRecDepth 100000 in
theorem d_11_41 : decode (mB 11) 41 = .ok (.aload_n 0, 1) := by decide +kernel
set_option maxRecDepth 100000 in
theorem d_11_42 : decode (mB 11) 42 = .ok (.getfield 40, 3) := by decide +kernel
set_option maxRecDepth 100000 in
theorem d_11_45 : decode (mB 11) 45 = .ok (.aload_n 0, 1) := by decide +kernel
set_option maxRecDepth 100000 in
theorem d_11_46 : decode (mB 11) 46 = .ok (.getfield 12, 3) := by decide +kernel
set_option maxRecDepth 100000 in
theorem d_11_49 : decode (mB 11) 49 = .ok (.aload_n 0, 1) := by decide +kernel
set_option maxRecDepth 100000 in
theorem d_11_50 : decode (mB 11) 50 = .ok (.getfield 19, 3) := by decide +kernel
set_option maxRecDepth 100000 in
theorem d_11_53 : decode (mB 11) 53 = .ok (.iload_n 2, 1) := by decide +kernel
set_option maxRecDepth 100000 in
theorem d_11_54 : decode (mB 11) 54 = .ok (.iload 4, 2) := by decide +kernel
set_option maxRecDepth 100000 in
theorem d_11_56 : decode (mB 11) 56 = .ok (.bipush 6, 2) := by decide +kernel
set_option maxRecDepth 100000 in
theorem d_11_58 : decode (mB 11) 58 = .ok (.invokevirtual 198, 3) := by decide +kernel
set_option maxRecDepth 100000 in
theorem d_11_61 : decode (mB 11) 61 = .ok (.aload_n 0, 1) := by decide +kernel
set_option maxRecDepth 100000 in
theorem d_11_62 : decode (mB 11) 62 = .ok (.getfield 40, 3) := by decide +kernel
set_option maxRecDepth 100000 in
theorem d_11_65 : decode (mB 11) 65 = .ok (.aload_n 0, 1) := by decide +kernel
set_option maxRecDepth 100000 in
theorem d_11_66 : decode (mB 11) 66 = .ok (.getfield 12, 3) := by decide +kernel
set_option maxRecDepth 100000 in
theorem d_11_69 : decode (mB 11) 69 = .ok (.iload_n 1, 1) := by decide +kernel
set_option maxRecDepth 100000 in
theorem d_11_70 : decode (mB 11) 70 = .ok (.bipush 6, 2) := by decide +kernel
set_option maxRecDepth 100000 in
theorem d_11_72 : decode (mB 11) 72 = .ok (.invokevirtual 199, 3) := by decide +kernel
set_option maxRecDepth 100000 in
theorem d_11_75 : decode (mB 11) 75 = .ok (.istore 5, 2) := by decide +kernel
set_option maxRecDepth 100000 in
theorem d_11_77 : decode (mB 11) 77 = .ok (.iload 5, 2) := by decide +kernel
set_option maxRecDepth 100000 in
theorem d_11_79 : decode (mB 11) 79 = .ok (.iload 4, 2) := by decide +kernel
set_option maxRecDepth 100000 in
theorem d_11_81 : decode (mB 11) 81 = .ok (.sipush 2880, 3) := by decide +kernel
set_option maxRecDepth 100000 in
theorem d_11_84 : decode (mB 11) 84 = .ok (.isub, 1) := by decide +kernel
set_option maxRecDepth 100000 in
theorem d_11_85 : decode (mB 11) 85 = .ok (.if_icmp .lt 15, 3) := by decide +kernel
set_option maxRecDepth 100000 in
theorem d_11_88 : decode (mB 11) 88 = .ok (.iload 5, 2) := by decide +kernel
set_option maxRecDepth 100000 in
theorem d_11_90 : decode (mB 11) 90 = .ok (.ifCond .lt 8, 3) := by decide +kernel
set_option maxRecDepth 100000 in
theorem d_11_93 : decode (mB 11) 93 = .ok (.iload 5, 2) := by decide +kernel
set_option maxRecDepth 100000 in
theorem d_11_95 : decode (mB 11) 95 = .ok (.goto 4, 3) := by decide +kernel
set_option maxRecDepth 100000 in
theorem d_11_98 : decode (mB 11) 98 = .ok (.iconst (-1), 1) := by decide +kernel
set_option maxRecDepth 100000 in
theorem d_11_99 : decode (mB 11) 99 = .ok (.ireturn, 1) := by decide +kernel
set_option maxRecDepth 100000 in
theorem d_11_100 : decode (mB 11) 100 = .ok (.iload 5, 2) := by decide +kernel
set_option maxRecDepth 100000 in
theorem d_11_102 : decode (mB 11) 102 = .ok (.iload 4, 2) := by decide +kernel
set_option maxRecDepth 100000 in
theorem d_11_104 : decode (mB 11) 104 = .ok (.sipush 5760, 3) := by decide +kernel
set_option maxRecDepth 100000 in
theorem d_11_107 : decode (mB 11) 107 = .ok (.isub, 1) := by decide +kernel
set_option maxRecDepth 100000 in
theorem d_11_108 : decode (mB 11) 108 = .ok (.iconst 1, 1) := by decide +kernel
set_option maxRecDepth 100000 in
theorem d_11_109 : decode (mB 11) 109 = .ok (.isub, 1) := by decide +kernel
set_option maxRecDepth 100000 in
theorem d_11_110 : decode (mB 11) 110 = .ok (.invokestatic 203, 3) := by decide +kernel
set_option maxRecDepth 100000 in
theorem d_11_113 : decode (mB 11) 113 = .ok (.istore 6, 2) := by decide +kernel
set_option maxRecDepth 100000 in
theorem d_11_115 : decode (mB 11) 115 = .ok (.iload 6, 2) := by decide +kernel
set_option maxRecDepth 100000 in
theorem d_11_117 : decode (mB 11) 117 = .ok (.ifCond .ge 5, 3) := by decide +kernel
set_option maxRecDepth 100000 in
theorem d_11_120 : decode (mB 11) 120 = .ok (.iconst (-1), 1) := by decide +kernel
set_option maxRecDepth 100000 in
theorem d_11_121 : decode (mB 11) 121 = .ok (.ireturn, 1) := by decide +kernel
set_option maxRecDepth 100000 in
theorem d_11_122 : decode (mB 11) 122 = .ok (.iload 4, 2) := by decide +kernel
set_option maxRecDepth 100000 in
theorem d_11_124 : decode (mB 11) 124 = .ok (.iconst 1, 1) := by decide +kernel
set_option maxRecDepth 100000 in
theorem d_11_125 : decode (mB 11) 125 = .ok (.isub, 1) := by decide +kernel
set_option maxRecDepth 100000 in
theorem d_11_126 : decode (mB 11) 126 = .ok (.iload 6, 2) := by decide +kernel
set_option maxRecDepth 100000 in
theorem d_11_128 : decode (mB 11) 128 = .ok (.sipush 2880, 3) := by decide +kernel
set_option maxRecDepth 100000 in
theorem d_11_131 : decode (mB 11) 131 = .ok (.iadd, 1) := by decide +kernel
set_option maxRecDepth 100000 in
theorem d_11_132 : decode (mB 11) 132 = .ok (.invokestatic 187, 3) := by decide +kernel
set_option maxRecDepth 100000 in
theorem d_11_135 : decode (mB 11) 135 = .ok (.istore 4, 2) := by decide +kernel
set_option maxRecDepth 100000 in
theorem d_11_137 : decode (mB 11) 137 = .ok (.goto (-120), 3) := by decide +kernel
set_option maxRecDepth 100000 in
theorem d_11_140 : decode (mB 11) 140 = .ok (.iconst (-1), 1) := by decide +kernel
set_option maxRecDepth 100000 in
theorem d_11_141 : decode (mB 11) 141 = .ok (.ireturn, 1) := by decide +kernel
