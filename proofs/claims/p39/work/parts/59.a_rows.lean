set_option maxRecDepth 100000 in
theorem cd_76 : cdP 76 := ⟨okr (k := 282) rfl (by decide +kernel), by decide +kernel, by decide +kernel, okk_w (k := 39) (by decide +kernel)⟩
set_option maxRecDepth 100000 in
theorem cd_77 : cdP 77 := ⟨okr (k := 288) rfl (by decide +kernel), by decide +kernel, by decide +kernel, okk_w (k := 39) (by decide +kernel)⟩
set_option maxRecDepth 100000 in
theorem c_75_23 : cvP 75 23 76 1 := ⟨cd_76, okk_w (k := 279) (by decide +kernel), okk_w (k := 280) (by decide +kernel), okk_w (k := 281) (by decide +kernel), by decide +kernel, by decide +kernel⟩
set_option maxRecDepth 100000 in
theorem c_75_27 : cvP 75 27 77 1 := ⟨cd_77, okk_w (k := 284) (by decide +kernel), okk_w (k := 286) (by decide +kernel), okk_w (k := 10) (by decide +kernel), by decide +kernel, by decide +kernel⟩
set_option maxRecDepth 100000 in
theorem d_75_0 : decode (mB 75) 0 = .ok (.aload_n 0, 1) := by decide +kernel
set_option maxRecDepth 100000 in
theorem d_75_1 : decode (mB 75) 1 = .ok (.iload_n 1, 1) := by decide +kernel
set_option maxRecDepth 100000 in
theorem d_75_2 : decode (mB 75) 2 = .ok (.invokevirtual 23, 3) := by decide +kernel
set_option maxRecDepth 100000 in
theorem d_75_5 : decode (mB 75) 5 = .ok (.iload_n 2, 1) := by decide +kernel
set_option maxRecDepth 100000 in
theorem d_75_6 : decode (mB 75) 6 = .ok (.if_icmp .gt 5, 3) := by decide +kernel
set_option maxRecDepth 100000 in
theorem d_75_9 : decode (mB 75) 9 = .ok (.iconst 0, 1) := by decide +kernel
set_option maxRecDepth 100000 in
theorem d_75_10 : decode (mB 75) 10 = .ok (.ireturn, 1) := by decide +kernel
set_option maxRecDepth 100000 in
theorem d_75_11 : decode (mB 75) 11 = .ok (.iconst 0, 1) := by decide +kernel
set_option maxRecDepth 100000 in
theorem d_75_12 : decode (mB 75) 12 = .ok (.istore_n 3, 1) := by decide +kernel
set_option maxRecDepth 100000 in
theorem d_75_13 : decode (mB 75) 13 = .ok (.iload_n 3, 1) := by decide +kernel
set_option maxRecDepth 100000 in
theorem d_75_14 : decode (mB 75) 14 = .ok (.aload_n 0, 1) := by decide +kernel
set_option maxRecDepth 100000 in
theorem d_75_15 : decode (mB 75) 15 = .ok (.getfield 18, 3) := by decide +kernel
set_option maxRecDepth 100000 in
theorem d_75_18 : decode (mB 75) 18 = .ok (.if_icmp .ge 19, 3) := by decide +kernel
set_option maxRecDepth 100000 in
theorem d_75_21 : decode (mB 75) 21 = .ok (.aload_n 0, 1) := by decide +kernel
set_option maxRecDepth 100000 in
theorem d_75_22 : decode (mB 75) 22 = .ok (.getfield 11, 3) := by decide +kernel
set_option maxRecDepth 100000 in
theorem d_75_25 : decode (mB 75) 25 = .ok (.iload_n 3, 1) := by decide +kernel
set_option maxRecDepth 100000 in
theorem d_75_26 : decode (mB 75) 26 = .ok (.iaload, 1) := by decide +kernel
set_option maxRecDepth 100000 in
theorem d_75_27 : decode (mB 75) 27 = .ok (.iload_n 1, 1) := by decide +kernel
set_option maxRecDepth 100000 in
theorem d_75_28 : decode (mB 75) 28 = .ok (.if_icmp .ge 9, 3) := by decide +kernel
set_option maxRecDepth 100000 in
theorem d_75_31 : decode (mB 75) 31 = .ok (.iinc 3 1, 3) := by decide +kernel
set_option maxRecDepth 100000 in
theorem d_75_34 : decode (mB 75) 34 = .ok (.goto (-21), 3) := by decide +kernel
set_option maxRecDepth 100000 in
theorem d_75_37 : decode (mB 75) 37 = .ok (.iload_n 3, 1) := by decide +kernel
set_option maxRecDepth 100000 in
theorem d_75_38 : decode (mB 75) 38 = .ok (.istore 4, 2) := by decide +kernel
set_option maxRecDepth 100000 in
theorem d_75_40 : decode (mB 75) 40 = .ok (.iload 4, 2) := by decide +kernel
set_option maxRecDepth 100000 in
theorem d_75_42 : decode (mB 75) 42 = .ok (.aload_n 0, 1) := by decide +kernel
set_option maxRecDepth 100000 in
theorem d_75_43 : decode (mB 75) 43 = .ok (.getfield 18, 3) := by decide +kernel
set_option maxRecDepth 100000 in
theorem d_75_46 : decode (mB 75) 46 = .ok (.if_icmp .ge 20, 3) := by decide +kernel
set_option maxRecDepth 100000 in
theorem d_75_49 : decode (mB 75) 49 = .ok (.aload_n 0, 1) := by decide +kernel
set_option maxRecDepth 100000 in
theorem d_75_50 : decode (mB 75) 50 = .ok (.getfield 15, 3) := by decide +kernel
set_option maxRecDepth 100000 in
theorem d_75_53 : decode (mB 75) 53 = .ok (.iload 4, 2) := by decide +kernel
set_option maxRecDepth 100000 in
theorem d_75_55 : decode (mB 75) 55 = .ok (.iaload, 1) := by decide +kernel
set_option maxRecDepth 100000 in
theorem d_75_56 : decode (mB 75) 56 = .ok (.iload_n 2, 1) := by decide +kernel
set_option maxRecDepth 100000 in
theorem d_75_57 : decode (mB 75) 57 = .ok (.if_icmp .lt 9, 3) := by decide +kernel
set_option maxRecDepth 100000 in
theorem d_75_60 : decode (mB 75) 60 = .ok (.iinc 4 1, 3) := by decide +kernel
set_option maxRecDepth 100000 in
theorem d_75_63 : decode (mB 75) 63 = .ok (.goto (-23), 3) := by decide +kernel
set_option maxRecDepth 100000 in
theorem d_75_66 : decode (mB 75) 66 = .ok (.aload_n 0, 1) := by decide +kernel
set_option maxRecDepth 100000 in
theorem d_75_67 : decode (mB 75) 67 = .ok (.aload_n 0, 1) := by decide +kernel
set_option maxRecDepth 100000 in
theorem d_75_68 : decode (mB 75) 68 = .ok (.getfield 18, 3) := by decide +kernel
set_option maxRecDepth 100000 in
theorem d_75_71 : decode (mB 75) 71 = .ok (.iconst 1, 1) := by decide +kernel
set_option maxRecDepth 100000 in
theorem d_75_72 : decode (mB 75) 72 = .ok (.iadd, 1) := by decide +kernel
set_option maxRecDepth 100000 in
theorem d_75_73 : decode (mB 75) 73 = .ok (.invokevirtual 27, 3) := by decide +kernel
set_option maxRecDepth 100000 in
theorem d_75_76 : decode (mB 75) 76 = .ok (.aload_n 0, 1) := by decide +kernel
set_option maxRecDepth 100000 in
theorem d_75_77 : decode (mB 75) 77 = .ok (.getfield 11, 3) := by decide +kernel
set_option maxRecDepth 100000 in
theorem d_75_80 : decode (mB 75) 80 = .ok (.iload 4, 2) := by decide +kernel
set_option maxRecDepth 100000 in
theorem d_75_82 : decode (mB 75) 82 = .ok (.aload_n 0, 1) := by decide +kernel
set_option maxRecDepth 100000 in
theorem d_75_83 : decode (mB 75) 83 = .ok (.getfield 11, 3) := by decide +kernel
set_option maxRecDepth 100000 in
theorem d_75_86 : decode (mB 75) 86 = .ok (.iload_n 3, 1) := by decide +kernel
set_option maxRecDepth 100000 in
theorem d_75_87 : decode (mB 75) 87 = .ok (.iconst 1, 1) := by decide +kernel
set_option maxRecDepth 100000 in
theorem d_75_88 : decode (mB 75) 88 = .ok (.iadd, 1) := by decide +kernel
set_option maxRecDepth 100000 in
theorem d_75_89 : decode (mB 75) 89 = .ok (.aload_n 0, 1) := by decide +kernel
set_option maxRecDepth 100000 in
theorem d_75_90 : decode (mB 75) 90 = .ok (.getfield 18, 3) := by decide +kernel
set_option maxRecDepth 100000 in
theorem d_75_93 : decode (mB 75) 93 = .ok (.iload 4, 2) := by decide +kernel
set_option maxRecDepth 100000 in
theorem d_75_95 : decode (mB 75) 95 = .ok (.isub, 1) := by decide +kernel
set_option maxRecDepth 100000 in
theorem d_75_96 : decode (mB 75) 96 = .ok (.invokestatic 31, 3) := by decide +kernel
set_option maxRecDepth 100000 in
theorem d_75_99 : decode (mB 75) 99 = .ok (.aload_n 0, 1) := by decide +kernel
set_option maxRecDepth 100000 in
theorem d_75_100 : decode (mB 75) 100 = .ok (.getfield 15, 3) := by decide +kernel
set_option maxRecDepth 100000 in
theorem d_75_103 : decode (mB 75) 103 = .ok (.iload 4, 2) := by decide +kernel
set_option maxRecDepth 100000 in
theorem d_75_105 : decode (mB 75) 105 = .ok (.aload_n 0, 1) := by decide +kernel
set_option maxRecDepth 100000 in
theorem d_75_106 : decode (mB 75) 106 = .ok (.getfield 15, 3) := by decide +kernel
set_option maxRecDepth 100000 in
theorem d_75_109 : decode (mB 75) 109 = .ok (.iload_n 3, 1) := by decide +kernel
set_option maxRecDepth 100000 in
theorem d_75_110 : decode (mB 75) 110 = .ok (.iconst 1, 1) := by decide +kernel
set_option maxRecDepth 100000 in
theorem d_75_111 : decode (mB 75) 111 = .ok (.iadd, 1) := by decide +kernel
set_option maxRecDepth 100000 in
theorem d_75_112 : decode (mB 75) 112 = .ok (.aload_n 0, 1) := by decide +kernel
set_option maxRecDepth 100000 in
theorem d_75_113 : decode (mB 75) 113 = .ok (.getfield 18, 3) := by decide +kernel
set_option maxRecDepth 100000 in
theorem d_75_116 : decode (mB 75) 116 = .ok (.iload 4, 2) := by decide +kernel
set_option maxRecDepth 100000 in
theorem d_75_118 : decode (mB 75) 118 = .ok (.isub, 1) := by decide +kernel
set_option maxRecDepth 100000 in
theorem d_75_119 : decode (mB 75) 119 = .ok (.invokestatic 31, 3) := by decide +kernel
set_option maxRecDepth 100000 in
theorem d_75_122 : decode (mB 75) 122 = .ok (.aload_n 0, 1) := by decide +kernel
set_option maxRecDepth 100000 in
theorem d_75_123 : decode (mB 75) 123 = .ok (.dup, 1) := by decide +kernel
set_option maxRecDepth 100000 in
theorem d_75_124 : decode (mB 75) 124 = .ok (.getfield 18, 3) := by decide +kernel
set_option maxRecDepth 100000 in
theorem d_75_127 : decode (mB 75) 127 = .ok (.iload_n 3, 1) := by decide +kernel
set_option maxRecDepth 100000 in
theorem d_75_128 : decode (mB 75) 128 = .ok (.iconst 1, 1) := by decide +kernel
set_option maxRecDepth 100000 in
theorem d_75_129 : decode (mB 75) 129 = .ok (.iadd, 1) := by decide +kernel
set_option maxRecDepth 100000 in
theorem d_75_130 : decode (mB 75) 130 = .ok (.iload 4, 2) := by decide +kernel
set_option maxRecDepth 100000 in
theorem d_75_132 : decode (mB 75) 132 = .ok (.isub, 1) := by decide +kernel
set_option maxRecDepth 100000 in
theorem d_75_133 : decode (mB 75) 133 = .ok (.iadd, 1) := by decide +kernel
set_option maxRecDepth 100000 in
theorem d_75_134 : decode (mB 75) 134 = .ok (.putfield 18, 3) := by decide +kernel
set_option maxRecDepth 100000 in
theorem d_75_137 : decode (mB 75) 137 = .ok (.aload_n 0, 1) := by decide +kernel
set_option maxRecDepth 100000 in
theorem d_75_138 : decode (mB 75) 138 = .ok (.getfield 11, 3) := by decide +kernel
set_option maxRecDepth 100000 in
theorem d_75_141 : decode (mB 75) 141 = .ok (.iload_n 3, 1) := by decide +kernel
set_option maxRecDepth 100000 in
theorem d_75_142 : decode (mB 75) 142 = .ok (.iload_n 1, 1) := by decide +kernel
set_option maxRecDepth 100000 in
theorem d_75_143 : decode (mB 75) 143 = .ok (.iastore, 1) := by decide +kernel
set_option maxRecDepth 100000 in
theorem d_75_144 : decode (mB 75) 144 = .ok (.aload_n 0, 1) := by decide +kernel
set_option maxRecDepth 100000 in
theorem d_75_145 : decode (mB 75) 145 = .ok (.getfield 15, 3) := by decide +kernel
set_option maxRecDepth 100000 in
theorem d_75_148 : decode (mB 75) 148 = .ok (.iload_n 3, 1) := by decide +kernel
set_option maxRecDepth 100000 in
theorem d_75_149 : decode (mB 75) 149 = .ok (.iload_n 2, 1) := by decide +kernel
set_option maxRecDepth 100000 in
theorem d_75_150 : decode (mB 75) 150 = .ok (.iastore, 1) := by decide +kernel
set_option maxRecDepth 100000 in
theorem d_75_151 : decode (mB 75) 151 = .ok (.iconst 1, 1) := by decide +kernel
set_option maxRecDepth 100000 in
theorem d_75_152 : decode (mB 75) 152 = .ok (.ireturn, 1) := by decide +kernel
set_option maxRecDepth 100000 in
theorem c_78_27 : cvP 78 27 77 1 := ⟨cd_77, okk_w (k := 284) (by decide +kernel), okk_w (k := 286) (by decide +kernel), okk_w (k := 10) (by decide +kernel), by decide +kernel, by decide +kernel⟩
set_option maxRecDepth 100000 in
theorem d_78_0 : decode (mB 78) 0 = .ok (.aload_n 0, 1) := by decide +kernel
set_option maxRecDepth 100000 in
theorem d_78_1 : decode (mB 78) 1 = .ok (.aload_n 1, 1) := by decide +kernel
set_option maxRecDepth 100000 in
theorem d_78_2 : decode (mB 78) 2 = .ok (.getfield 18, 3) := by decide +kernel
set_option maxRecDepth 100000 in
theorem d_78_5 : decode (mB 78) 5 = .ok (.invokevirtual 27, 3) := by decide +kernel
set_option maxRecDepth 100000 in
theorem d_78_8 : decode (mB 78) 8 = .ok (.aload_n 1, 1) := by decide +kernel
set_option maxRecDepth 100000 in
theorem d_78_9 : decode (mB 78) 9 = .ok (.getfield 11, 3) := by decide +kernel
set_option maxRecDepth 100000 in
theorem d_78_12 : decode (mB 78) 12 = .ok (.iconst 0, 1) := by decide +kernel
set_option maxRecDepth 100000 in
theorem d_78_13 : decode (mB 78) 13 = .ok (.aload_n 0, 1) := by decide +kernel
set_option maxRecDepth 100000 in
theorem d_78_14 : decode (mB 78) 14 = .ok (.getfield 11, 3) := by decide +kernel
set_option maxRecDepth 100000 in
theorem d_78_17 : decode (mB 78) 17 = .ok (.iconst 0, 1) := by decide +kernel
set_option maxRecDepth 100000 in
theorem d_78_18 : decode (mB 78) 18 = .ok (.aload_n 1, 1) := by decide +kernel
set_option maxRecDepth 100000 in
theorem d_78_19 : decode (mB 78) 19 = .ok (.getfield 18, 3) := by decide +kernel
set_option maxRecDepth 100000 in
theorem d_78_22 : decode (mB 78) 22 = .ok (.invokestatic 31, 3) := by decide +kernel
set_option maxRecDepth 100000 in
theorem d_78_25 : decode (mB 78) 25 = .ok (.aload_n 1, 1) := by decide +kernel
set_option maxRecDepth 100000 in
theorem d_78_26 : decode (mB 78) 26 = .ok (.getfield 15, 3) := by decide +kernel
set_option maxRecDepth 100000 in
theorem d_78_29 : decode (mB 78) 29 = .ok (.iconst 0, 1) := by decide +kernel
set_option maxRecDepth 100000 in
theorem d_78_30 : decode (mB 78) 30 = .ok (.aload_n 0, 1) := by decide +kernel
set_option maxRecDepth 100000 in
theorem d_78_31 : decode (mB 78) 31 = .ok (.getfield 15, 3) := by decide +kernel
set_option maxRecDepth 100000 in
theorem d_78_34 : decode (mB 78) 34 = .ok (.iconst 0, 1) := by decide +kernel
set_option maxRecDepth 100000 in
theorem d_78_35 : decode (mB 78) 35 = .ok (.aload_n 1, 1) := by decide +kernel
set_option maxRecDepth 100000 in
theorem d_78_36 : decode (mB 78) 36 = .ok (.getfield 18, 3) := by decide +kernel
set_option maxRecDepth 100000 in
theorem d_78_39 : decode (mB 78) 39 = .ok (.invokestatic 31, 3) := by decide +kernel
set_option maxRecDepth 100000 in
theorem d_78_42 : decode (mB 78) 42 = .ok (.aload_n 0, 1) := by decide +kernel
set_option maxRecDepth 100000 in
theorem d_78_43 : decode (mB 78) 43 = .ok (.aload_n 1, 1) := by decide +kernel
set_option maxRecDepth 100000 in
theorem d_78_44 : decode (mB 78) 44 = .ok (.getfield 18, 3) := by decide +kernel
set_option maxRecDepth 100000 in
theorem d_78_47 : decode (mB 78) 47 = .ok (.putfield 18, 3) := by decide +kernel
set_option maxRecDepth 100000 in
theorem d_78_50 : decode (mB 78) 50 = .ok (.return_, 1) := by decide +kernel
