set_option maxRecDepth 100000 in
theorem cd_32 : cdP 32 := ⟨okr (k := 879) rfl (by decide +kernel), by decide +kernel, by decide +kernel, okk_w (k := 32) (by decide +kernel)⟩
set_option maxRecDepth 100000 in
theorem cd_33 : cdP 33 := ⟨okr (k := 883) rfl (by decide +kernel), by decide +kernel, by decide +kernel, okk_w (k := 32) (by decide +kernel)⟩
set_option maxRecDepth 100000 in
theorem cd_105 : cdP 105 := ⟨okr (k := 1018) rfl (by decide +kernel), by decide +kernel, by decide +kernel, okk_w (k := 31) (by decide +kernel)⟩
set_option maxRecDepth 100000 in
theorem c_102_69 : cvP 102 69 100 1 := ⟨cd_100, okk_w (k := 865) (by decide +kernel), okk_w (k := 850) (by decide +kernel), okk_w (k := 851) (by decide +kernel), by decide +kernel, by decide +kernel⟩
set_option maxRecDepth 100000 in
theorem c_102_107 : cvP 102 107 32 1 := ⟨cd_32, okk_w (k := 876) (by decide +kernel), okk_w (k := 877) (by decide +kernel), okk_w (k := 878) (by decide +kernel), by decide +kernel, by decide +kernel⟩
set_option maxRecDepth 100000 in
theorem fl_12_110 : flP "WhistleStopLaw$Table" 110 12 5 := ⟨_, rfl, by decide, okk_w (k := 801) (by decide +kernel)⟩
set_option maxRecDepth 100000 in
theorem c_102_113 : cvP 102 113 33 3 := ⟨cd_33, okk_w (k := 880) (by decide +kernel), okk_w (k := 881) (by decide +kernel), okk_w (k := 882) (by decide +kernel), by decide +kernel, by decide +kernel⟩
set_option maxRecDepth 100000 in
theorem d_102_13 : decode (mB 102) 13 = .ok (.iload_n 2, 1) := by decide +kernel
set_option maxRecDepth 100000 in
theorem d_102_14 : decode (mB 102) 14 = .ok (.aload_n 0, 1) := by decide +kernel
set_option maxRecDepth 100000 in
theorem d_102_15 : decode (mB 102) 15 = .ok (.getfield 90, 3) := by decide +kernel
set_option maxRecDepth 100000 in
theorem d_102_18 : decode (mB 102) 18 = .ok (.if_icmp .ge 40, 3) := by decide +kernel
set_option maxRecDepth 100000 in
theorem d_102_21 : decode (mB 102) 21 = .ok (.aload_n 0, 1) := by decide +kernel
set_option maxRecDepth 100000 in
theorem d_102_22 : decode (mB 102) 22 = .ok (.getfield 16, 3) := by decide +kernel
set_option maxRecDepth 100000 in
theorem d_102_25 : decode (mB 102) 25 = .ok (.iload_n 2, 1) := by decide +kernel
set_option maxRecDepth 100000 in
theorem d_102_26 : decode (mB 102) 26 = .ok (.aload_n 0, 1) := by decide +kernel
set_option maxRecDepth 100000 in
theorem d_102_27 : decode (mB 102) 27 = .ok (.bipush 12, 2) := by decide +kernel
set_option maxRecDepth 100000 in
theorem d_102_29 : decode (mB 102) 29 = .ok (.invokevirtual 69, 3) := by decide +kernel
set_option maxRecDepth 100000 in
theorem d_102_32 : decode (mB 102) 32 = .ok (.iastore, 1) := by decide +kernel
set_option maxRecDepth 100000 in
theorem d_102_33 : decode (mB 102) 33 = .ok (.aload_n 0, 1) := by decide +kernel
set_option maxRecDepth 100000 in
theorem d_102_34 : decode (mB 102) 34 = .ok (.getfield 10, 3) := by decide +kernel
set_option maxRecDepth 100000 in
theorem d_102_37 : decode (mB 102) 37 = .ok (.aload_n 0, 1) := by decide +kernel
set_option maxRecDepth 100000 in
theorem d_102_38 : decode (mB 102) 38 = .ok (.getfield 16, 3) := by decide +kernel
set_option maxRecDepth 100000 in
theorem d_102_41 : decode (mB 102) 41 = .ok (.iload_n 2, 1) := by decide +kernel
set_option maxRecDepth 100000 in
theorem d_102_42 : decode (mB 102) 42 = .ok (.iaload, 1) := by decide +kernel
set_option maxRecDepth 100000 in
theorem d_102_43 : decode (mB 102) 43 = .ok (.invokevirtual 107, 3) := by decide +kernel
set_option maxRecDepth 100000 in
theorem d_102_46 : decode (mB 102) 46 = .ok (.iload_n 2, 1) := by decide +kernel
set_option maxRecDepth 100000 in
theorem d_102_47 : decode (mB 102) 47 = .ok (.if_icmp .eq 5, 3) := by decide +kernel
set_option maxRecDepth 100000 in
theorem d_102_52 : decode (mB 102) 52 = .ok (.iinc 2 1, 3) := by decide +kernel
set_option maxRecDepth 100000 in
theorem d_102_55 : decode (mB 102) 55 = .ok (.goto (-42), 3) := by decide +kernel
set_option maxRecDepth 100000 in
theorem d_102_64 : decode (mB 102) 64 = .ok (.iload_n 2, 1) := by decide +kernel
set_option maxRecDepth 100000 in
theorem d_102_65 : decode (mB 102) 65 = .ok (.ifCond .le 106, 3) := by decide +kernel
set_option maxRecDepth 100000 in
theorem d_102_68 : decode (mB 102) 68 = .ok (.aload_n 0, 1) := by decide +kernel
set_option maxRecDepth 100000 in
theorem d_102_69 : decode (mB 102) 69 = .ok (.aload_n 0, 1) := by decide +kernel
set_option maxRecDepth 100000 in
theorem d_102_70 : decode (mB 102) 70 = .ok (.getfield 90, 3) := by decide +kernel
set_option maxRecDepth 100000 in
theorem d_102_73 : decode (mB 102) 73 = .ok (.invokevirtual 69, 3) := by decide +kernel
set_option maxRecDepth 100000 in
theorem d_102_76 : decode (mB 102) 76 = .ok (.istore_n 3, 1) := by decide +kernel
set_option maxRecDepth 100000 in
theorem d_102_77 : decode (mB 102) 77 = .ok (.iconst 3, 1) := by decide +kernel
set_option maxRecDepth 100000 in
theorem d_102_78 : decode (mB 102) 78 = .ok (.newarray .int, 2) := by decide +kernel
set_option maxRecDepth 100000 in
theorem d_102_80 : decode (mB 102) 80 = .ok (.dup, 1) := by decide +kernel
set_option maxRecDepth 100000 in
theorem d_102_81 : decode (mB 102) 81 = .ok (.iconst 0, 1) := by decide +kernel
set_option maxRecDepth 100000 in
theorem d_102_82 : decode (mB 102) 82 = .ok (.iload_n 3, 1) := by decide +kernel
set_option maxRecDepth 100000 in
theorem d_102_83 : decode (mB 102) 83 = .ok (.iastore, 1) := by decide +kernel
set_option maxRecDepth 100000 in
theorem d_102_84 : decode (mB 102) 84 = .ok (.dup, 1) := by decide +kernel
set_option maxRecDepth 100000 in
theorem d_102_85 : decode (mB 102) 85 = .ok (.iconst 1, 1) := by decide +kernel
set_option maxRecDepth 100000 in
theorem d_102_86 : decode (mB 102) 86 = .ok (.iload_n 3, 1) := by decide +kernel
set_option maxRecDepth 100000 in
theorem d_102_87 : decode (mB 102) 87 = .ok (.iconst 1, 1) := by decide +kernel
set_option maxRecDepth 100000 in
theorem d_102_88 : decode (mB 102) 88 = .ok (.iadd, 1) := by decide +kernel
set_option maxRecDepth 100000 in
theorem d_102_89 : decode (mB 102) 89 = .ok (.aload_n 0, 1) := by decide +kernel
set_option maxRecDepth 100000 in
theorem d_102_90 : decode (mB 102) 90 = .ok (.aload_n 0, 1) := by decide +kernel
set_option maxRecDepth 100000 in
theorem d_102_91 : decode (mB 102) 91 = .ok (.getfield 90, 3) := by decide +kernel
set_option maxRecDepth 100000 in
theorem d_102_94 : decode (mB 102) 94 = .ok (.iconst 1, 1) := by decide +kernel
set_option maxRecDepth 100000 in
theorem d_102_95 : decode (mB 102) 95 = .ok (.isub, 1) := by decide +kernel
set_option maxRecDepth 100000 in
theorem d_102_96 : decode (mB 102) 96 = .ok (.invokevirtual 69, 3) := by decide +kernel
set_option maxRecDepth 100000 in
theorem d_102_99 : decode (mB 102) 99 = .ok (.iadd, 1) := by decide +kernel
set_option maxRecDepth 100000 in
theorem d_102_100 : decode (mB 102) 100 = .ok (.aload_n 0, 1) := by decide +kernel
set_option maxRecDepth 100000 in
theorem d_102_101 : decode (mB 102) 101 = .ok (.getfield 90, 3) := by decide +kernel
set_option maxRecDepth 100000 in
theorem d_102_104 : decode (mB 102) 104 = .ok (.irem, 1) := by decide +kernel
set_option maxRecDepth 100000 in
theorem d_102_105 : decode (mB 102) 105 = .ok (.iastore, 1) := by decide +kernel
set_option maxRecDepth 100000 in
theorem d_102_106 : decode (mB 102) 106 = .ok (.dup, 1) := by decide +kernel
set_option maxRecDepth 100000 in
theorem d_102_107 : decode (mB 102) 107 = .ok (.iconst 2, 1) := by decide +kernel
set_option maxRecDepth 100000 in
theorem d_102_108 : decode (mB 102) 108 = .ok (.iconst 1, 1) := by decide +kernel
set_option maxRecDepth 100000 in
theorem d_102_109 : decode (mB 102) 109 = .ok (.aload_n 0, 1) := by decide +kernel
set_option maxRecDepth 100000 in
theorem d_102_110 : decode (mB 102) 110 = .ok (.bipush 40, 2) := by decide +kernel
set_option maxRecDepth 100000 in
theorem d_102_112 : decode (mB 102) 112 = .ok (.invokevirtual 69, 3) := by decide +kernel
set_option maxRecDepth 100000 in
theorem d_102_115 : decode (mB 102) 115 = .ok (.iadd, 1) := by decide +kernel
set_option maxRecDepth 100000 in
theorem d_102_116 : decode (mB 102) 116 = .ok (.iastore, 1) := by decide +kernel
set_option maxRecDepth 100000 in
theorem d_102_117 : decode (mB 102) 117 = .ok (.astore 4, 2) := by decide +kernel
set_option maxRecDepth 100000 in
theorem d_102_119 : decode (mB 102) 119 = .ok (.aload_n 0, 1) := by decide +kernel
set_option maxRecDepth 100000 in
theorem d_102_120 : decode (mB 102) 120 = .ok (.getfield 21, 3) := by decide +kernel
set_option maxRecDepth 100000 in
theorem d_102_123 : decode (mB 102) 123 = .ok (.aload_n 0, 1) := by decide +kernel
set_option maxRecDepth 100000 in
theorem d_102_124 : decode (mB 102) 124 = .ok (.getfield 110, 3) := by decide +kernel
set_option maxRecDepth 100000 in
theorem d_102_127 : decode (mB 102) 127 = .ok (.aload 4, 2) := by decide +kernel
set_option maxRecDepth 100000 in
theorem d_102_129 : decode (mB 102) 129 = .ok (.aastore, 1) := by decide +kernel
set_option maxRecDepth 100000 in
theorem d_102_130 : decode (mB 102) 130 = .ok (.aload_n 0, 1) := by decide +kernel
set_option maxRecDepth 100000 in
theorem d_102_131 : decode (mB 102) 131 = .ok (.getfield 10, 3) := by decide +kernel
set_option maxRecDepth 100000 in
theorem d_102_134 : decode (mB 102) 134 = .ok (.aload 4, 2) := by decide +kernel
set_option maxRecDepth 100000 in
theorem d_102_136 : decode (mB 102) 136 = .ok (.iconst 0, 1) := by decide +kernel
set_option maxRecDepth 100000 in
theorem d_102_137 : decode (mB 102) 137 = .ok (.iaload, 1) := by decide +kernel
set_option maxRecDepth 100000 in
theorem d_102_138 : decode (mB 102) 138 = .ok (.aload 4, 2) := by decide +kernel
set_option maxRecDepth 100000 in
theorem d_102_140 : decode (mB 102) 140 = .ok (.iconst 1, 1) := by decide +kernel
set_option maxRecDepth 100000 in
theorem d_102_141 : decode (mB 102) 141 = .ok (.iaload, 1) := by decide +kernel
set_option maxRecDepth 100000 in
theorem d_102_142 : decode (mB 102) 142 = .ok (.aload 4, 2) := by decide +kernel
set_option maxRecDepth 100000 in
theorem d_102_144 : decode (mB 102) 144 = .ok (.iconst 2, 1) := by decide +kernel
set_option maxRecDepth 100000 in
theorem d_102_145 : decode (mB 102) 145 = .ok (.iaload, 1) := by decide +kernel
set_option maxRecDepth 100000 in
theorem d_102_146 : decode (mB 102) 146 = .ok (.invokevirtual 113, 3) := by decide +kernel
set_option maxRecDepth 100000 in
theorem d_102_149 : decode (mB 102) 149 = .ok (.aload_n 0, 1) := by decide +kernel
set_option maxRecDepth 100000 in
theorem d_102_150 : decode (mB 102) 150 = .ok (.dup, 1) := by decide +kernel
set_option maxRecDepth 100000 in
theorem d_102_151 : decode (mB 102) 151 = .ok (.getfield 110, 3) := by decide +kernel
set_option maxRecDepth 100000 in
theorem d_102_154 : decode (mB 102) 154 = .ok (.dup_x1, 1) := by decide +kernel
set_option maxRecDepth 100000 in
theorem d_102_155 : decode (mB 102) 155 = .ok (.iconst 1, 1) := by decide +kernel
set_option maxRecDepth 100000 in
theorem d_102_156 : decode (mB 102) 156 = .ok (.iadd, 1) := by decide +kernel
set_option maxRecDepth 100000 in
theorem d_102_157 : decode (mB 102) 157 = .ok (.putfield 110, 3) := by decide +kernel
set_option maxRecDepth 100000 in
theorem d_102_160 : decode (mB 102) 160 = .ok (.if_icmp .eq 5, 3) := by decide +kernel
set_option maxRecDepth 100000 in
theorem d_102_165 : decode (mB 102) 165 = .ok (.iinc 2 (-1), 3) := by decide +kernel
set_option maxRecDepth 100000 in
theorem d_102_168 : decode (mB 102) 168 = .ok (.goto (-104), 3) := by decide +kernel
