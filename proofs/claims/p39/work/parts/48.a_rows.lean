set_option maxRecDepth 100000 in
theorem cd_61 : cdP 61 := ⟨okr (k := 390) rfl (by decide +kernel), by decide +kernel, by decide +kernel, okk_w (k := 40) (by decide +kernel)⟩
set_option maxRecDepth 100000 in
theorem cd_63 : cdP 63 := ⟨okr (k := 398) rfl (by decide +kernel), by decide +kernel, by decide +kernel, okk_w (k := 40) (by decide +kernel)⟩
set_option maxRecDepth 100000 in
theorem cd_64 : cdP 64 := ⟨okr (k := 402) rfl (by decide +kernel), by decide +kernel, by decide +kernel, okk_w (k := 40) (by decide +kernel)⟩
set_option maxRecDepth 100000 in
theorem cd_65 : cdP 65 := ⟨okr (k := 406) rfl (by decide +kernel), by decide +kernel, by decide +kernel, okk_w (k := 40) (by decide +kernel)⟩
set_option maxRecDepth 100000 in
theorem cd_66 : cdP 66 := ⟨okr (k := 410) rfl (by decide +kernel), by decide +kernel, by decide +kernel, okk_w (k := 40) (by decide +kernel)⟩
set_option maxRecDepth 100000 in
theorem c_62_59 : cvP 62 59 61 0 := ⟨cd_61, okk_w (k := 386) (by decide +kernel), okk_w (k := 388) (by decide +kernel), okk_w (k := 19) (by decide +kernel), by decide +kernel, by decide +kernel⟩
set_option maxRecDepth 100000 in
theorem c_62_71 : cvP 62 71 63 0 := ⟨cd_63, okk_w (k := 395) (by decide +kernel), okk_w (k := 397) (by decide +kernel), okk_w (k := 21) (by decide +kernel), by decide +kernel, by decide +kernel⟩
set_option maxRecDepth 100000 in
theorem c_62_74 : cvP 62 74 64 0 := ⟨cd_64, okk_w (k := 399) (by decide +kernel), okk_w (k := 401) (by decide +kernel), okk_w (k := 22) (by decide +kernel), by decide +kernel, by decide +kernel⟩
set_option maxRecDepth 100000 in
theorem fl_6_78 : flP "WhistleStop$Journey" 78 7 0 := ⟨_, rfl, by decide, okk_w (k := 547) (by decide +kernel)⟩
set_option maxRecDepth 100000 in
theorem fl_6_83 : flP "WhistleStop$Journey" 83 10 3 := ⟨_, rfl, by decide, okk_w (k := 611) (by decide +kernel)⟩
set_option maxRecDepth 100000 in
theorem fl_6_86 : flP "WhistleStop$Journey" 86 10 0 := ⟨_, rfl, by decide, okk_w (k := 599) (by decide +kernel)⟩
set_option maxRecDepth 100000 in
theorem fl_6_87 : flP "WhistleStop$Journey" 87 10 2 := ⟨_, rfl, by decide, okk_w (k := 606) (by decide +kernel)⟩
set_option maxRecDepth 100000 in
theorem fl_6_90 : flP "WhistleStop$Journey" 90 11 7 := ⟨_, rfl, by decide, okk_w (k := 982) (by decide +kernel)⟩
set_option maxRecDepth 100000 in
theorem fl_6_97 : flP "WhistleStop$Journey" 97 1 1 := ⟨_, rfl, by decide, okk_w (k := 662) (by decide +kernel)⟩
set_option maxRecDepth 100000 in
theorem c_62_103 : cvP 62 103 65 4 := ⟨cd_65, okk_w (k := 403) (by decide +kernel), okk_w (k := 405) (by decide +kernel), okk_w (k := 23) (by decide +kernel), by decide +kernel, by decide +kernel⟩
set_option maxRecDepth 100000 in
theorem fl_6_107 : flP "WhistleStop$Journey" 107 10 1 := ⟨_, rfl, by decide, okk_w (k := 601) (by decide +kernel)⟩
set_option maxRecDepth 100000 in
theorem c_62_108 : cvP 62 108 66 5 := ⟨cd_66, okk_w (k := 407) (by decide +kernel), okk_w (k := 409) (by decide +kernel), okk_w (k := 24) (by decide +kernel), by decide +kernel, by decide +kernel⟩
set_option maxRecDepth 100000 in
theorem d_62_0 : decode (mB 62) 0 = .ok (.aload_n 0, 1) := by decide +kernel
set_option maxRecDepth 100000 in
theorem d_62_1 : decode (mB 62) 1 = .ok (.invokevirtual 59, 3) := by decide +kernel
set_option maxRecDepth 100000 in
theorem d_62_4 : decode (mB 62) 4 = .ok (.istore 5, 2) := by decide +kernel
set_option maxRecDepth 100000 in
theorem d_62_6 : decode (mB 62) 6 = .ok (.aload_n 0, 1) := by decide +kernel
set_option maxRecDepth 100000 in
theorem d_62_7 : decode (mB 62) 7 = .ok (.invokevirtual 71, 3) := by decide +kernel
set_option maxRecDepth 100000 in
theorem d_62_10 : decode (mB 62) 10 = .ok (.aload_n 0, 1) := by decide +kernel
set_option maxRecDepth 100000 in
theorem d_62_11 : decode (mB 62) 11 = .ok (.invokevirtual 74, 3) := by decide +kernel
set_option maxRecDepth 100000 in
theorem d_62_14 : decode (mB 62) 14 = .ok (.ifCond .eq 13, 3) := by decide +kernel
set_option maxRecDepth 100000 in
theorem d_62_17 : decode (mB 62) 17 = .ok (.aload_n 1, 1) := by decide +kernel
set_option maxRecDepth 100000 in
theorem d_62_18 : decode (mB 62) 18 = .ok (.getfield 78, 3) := by decide +kernel
set_option maxRecDepth 100000 in
theorem d_62_21 : decode (mB 62) 21 = .ok (.iload 5, 2) := by decide +kernel
set_option maxRecDepth 100000 in
theorem d_62_23 : decode (mB 62) 23 = .ok (.iaload, 1) := by decide +kernel
set_option maxRecDepth 100000 in
theorem d_62_24 : decode (mB 62) 24 = .ok (.goto 4, 3) := by decide +kernel
set_option maxRecDepth 100000 in
theorem d_62_27 : decode (mB 62) 27 = .ok (.iconst 0, 1) := by decide +kernel
set_option maxRecDepth 100000 in
theorem d_62_28 : decode (mB 62) 28 = .ok (.iadd, 1) := by decide +kernel
set_option maxRecDepth 100000 in
theorem d_62_29 : decode (mB 62) 29 = .ok (.istore 6, 2) := by decide +kernel
set_option maxRecDepth 100000 in
theorem d_62_31 : decode (mB 62) 31 = .ok (.iconst 0, 1) := by decide +kernel
set_option maxRecDepth 100000 in
theorem d_62_32 : decode (mB 62) 32 = .ok (.istore 7, 2) := by decide +kernel
set_option maxRecDepth 100000 in
theorem d_62_34 : decode (mB 62) 34 = .ok (.iload 7, 2) := by decide +kernel
set_option maxRecDepth 100000 in
theorem d_62_36 : decode (mB 62) 36 = .ok (.aload_n 2, 1) := by decide +kernel
set_option maxRecDepth 100000 in
theorem d_62_37 : decode (mB 62) 37 = .ok (.getfield 83, 3) := by decide +kernel
set_option maxRecDepth 100000 in
theorem d_62_40 : decode (mB 62) 40 = .ok (.if_icmp .ge 125, 3) := by decide +kernel
set_option maxRecDepth 100000 in
theorem d_62_43 : decode (mB 62) 43 = .ok (.aload_n 2, 1) := by decide +kernel
set_option maxRecDepth 100000 in
theorem d_62_44 : decode (mB 62) 44 = .ok (.getfield 86, 3) := by decide +kernel
set_option maxRecDepth 100000 in
theorem d_62_47 : decode (mB 62) 47 = .ok (.iload 7, 2) := by decide +kernel
set_option maxRecDepth 100000 in
theorem d_62_49 : decode (mB 62) 49 = .ok (.aaload, 1) := by decide +kernel
set_option maxRecDepth 100000 in
theorem d_62_50 : decode (mB 62) 50 = .ok (.astore 8, 2) := by decide +kernel
set_option maxRecDepth 100000 in
theorem d_62_52 : decode (mB 62) 52 = .ok (.aload_n 2, 1) := by decide +kernel
set_option maxRecDepth 100000 in
theorem d_62_53 : decode (mB 62) 53 = .ok (.getfield 87, 3) := by decide +kernel
set_option maxRecDepth 100000 in
theorem d_62_56 : decode (mB 62) 56 = .ok (.iload 7, 2) := by decide +kernel
set_option maxRecDepth 100000 in
theorem d_62_58 : decode (mB 62) 58 = .ok (.iaload, 1) := by decide +kernel
set_option maxRecDepth 100000 in
theorem d_62_59 : decode (mB 62) 59 = .ok (.istore 9, 2) := by decide +kernel
set_option maxRecDepth 100000 in
theorem d_62_61 : decode (mB 62) 61 = .ok (.iconst 0, 1) := by decide +kernel
set_option maxRecDepth 100000 in
theorem d_62_62 : decode (mB 62) 62 = .ok (.istore 10, 2) := by decide +kernel
set_option maxRecDepth 100000 in
theorem d_62_64 : decode (mB 62) 64 = .ok (.iload 10, 2) := by decide +kernel
set_option maxRecDepth 100000 in
theorem d_62_66 : decode (mB 62) 66 = .ok (.aload 8, 2) := by decide +kernel
set_option maxRecDepth 100000 in
theorem d_62_68 : decode (mB 62) 68 = .ok (.getfield 90, 3) := by decide +kernel
set_option maxRecDepth 100000 in
theorem d_62_71 : decode (mB 62) 71 = .ok (.iconst 1, 1) := by decide +kernel
set_option maxRecDepth 100000 in
theorem d_62_72 : decode (mB 62) 72 = .ok (.isub, 1) := by decide +kernel
set_option maxRecDepth 100000 in
theorem d_62_73 : decode (mB 62) 73 = .ok (.if_icmp .ge 86, 3) := by decide +kernel
set_option maxRecDepth 100000 in
theorem d_62_76 : decode (mB 62) 76 = .ok (.aload 8, 2) := by decide +kernel
set_option maxRecDepth 100000 in
theorem d_62_78 : decode (mB 62) 78 = .ok (.getfield 91, 3) := by decide +kernel
set_option maxRecDepth 100000 in
theorem d_62_81 : decode (mB 62) 81 = .ok (.iload 10, 2) := by decide +kernel
set_option maxRecDepth 100000 in
theorem d_62_83 : decode (mB 62) 83 = .ok (.iaload, 1) := by decide +kernel
set_option maxRecDepth 100000 in
theorem d_62_84 : decode (mB 62) 84 = .ok (.iload 5, 2) := by decide +kernel
set_option maxRecDepth 100000 in
theorem d_62_86 : decode (mB 62) 86 = .ok (.if_icmp .ne 67, 3) := by decide +kernel
set_option maxRecDepth 100000 in
theorem d_62_89 : decode (mB 62) 89 = .ok (.iload 9, 2) := by decide +kernel
set_option maxRecDepth 100000 in
theorem d_62_91 : decode (mB 62) 91 = .ok (.aload 8, 2) := by decide +kernel
set_option maxRecDepth 100000 in
theorem d_62_93 : decode (mB 62) 93 = .ok (.getfield 94, 3) := by decide +kernel
set_option maxRecDepth 100000 in
theorem d_62_96 : decode (mB 62) 96 = .ok (.iload 10, 2) := by decide +kernel
set_option maxRecDepth 100000 in
theorem d_62_98 : decode (mB 62) 98 = .ok (.iaload, 1) := by decide +kernel
set_option maxRecDepth 100000 in
theorem d_62_99 : decode (mB 62) 99 = .ok (.iadd, 1) := by decide +kernel
set_option maxRecDepth 100000 in
theorem d_62_100 : decode (mB 62) 100 = .ok (.iload 6, 2) := by decide +kernel
set_option maxRecDepth 100000 in
theorem d_62_102 : decode (mB 62) 102 = .ok (.if_icmp .lt 51, 3) := by decide +kernel
set_option maxRecDepth 100000 in
theorem d_62_105 : decode (mB 62) 105 = .ok (.aload_n 0, 1) := by decide +kernel
set_option maxRecDepth 100000 in
theorem d_62_106 : decode (mB 62) 106 = .ok (.aload 8, 2) := by decide +kernel
set_option maxRecDepth 100000 in
theorem d_62_108 : decode (mB 62) 108 = .ok (.iload 9, 2) := by decide +kernel
set_option maxRecDepth 100000 in
theorem d_62_110 : decode (mB 62) 110 = .ok (.iload 10, 2) := by decide +kernel
set_option maxRecDepth 100000 in
theorem d_62_112 : decode (mB 62) 112 = .ok (.aload_n 3, 1) := by decide +kernel
set_option maxRecDepth 100000 in
theorem d_62_113 : decode (mB 62) 113 = .ok (.getfield 97, 3) := by decide +kernel
set_option maxRecDepth 100000 in
theorem d_62_116 : decode (mB 62) 116 = .ok (.iload 4, 2) := by decide +kernel
set_option maxRecDepth 100000 in
theorem d_62_118 : decode (mB 62) 118 = .ok (.iconst 1, 1) := by decide +kernel
set_option maxRecDepth 100000 in
theorem d_62_119 : decode (mB 62) 119 = .ok (.isub, 1) := by decide +kernel
set_option maxRecDepth 100000 in
theorem d_62_120 : decode (mB 62) 120 = .ok (.aaload, 1) := by decide +kernel
set_option maxRecDepth 100000 in
theorem d_62_121 : decode (mB 62) 121 = .ok (.invokevirtual 103, 3) := by decide +kernel
set_option maxRecDepth 100000 in
theorem d_62_124 : decode (mB 62) 124 = .ok (.istore 11, 2) := by decide +kernel
set_option maxRecDepth 100000 in
theorem d_62_126 : decode (mB 62) 126 = .ok (.iload 11, 2) := by decide +kernel
set_option maxRecDepth 100000 in
theorem d_62_128 : decode (mB 62) 128 = .ok (.iconst (-1), 1) := by decide +kernel
set_option maxRecDepth 100000 in
theorem d_62_129 : decode (mB 62) 129 = .ok (.if_icmp .eq 24, 3) := by decide +kernel
set_option maxRecDepth 100000 in
theorem d_62_132 : decode (mB 62) 132 = .ok (.aload_n 0, 1) := by decide +kernel
set_option maxRecDepth 100000 in
theorem d_62_133 : decode (mB 62) 133 = .ok (.aload 8, 2) := by decide +kernel
set_option maxRecDepth 100000 in
theorem d_62_135 : decode (mB 62) 135 = .ok (.aload_n 2, 1) := by decide +kernel
set_option maxRecDepth 100000 in
theorem d_62_136 : decode (mB 62) 136 = .ok (.getfield 107, 3) := by decide +kernel
set_option maxRecDepth 100000 in
theorem d_62_139 : decode (mB 62) 139 = .ok (.iload 7, 2) := by decide +kernel
set_option maxRecDepth 100000 in
theorem d_62_141 : decode (mB 62) 141 = .ok (.iaload, 1) := by decide +kernel
set_option maxRecDepth 100000 in
theorem d_62_142 : decode (mB 62) 142 = .ok (.iload 10, 2) := by decide +kernel
set_option maxRecDepth 100000 in
theorem d_62_144 : decode (mB 62) 144 = .ok (.iload 11, 2) := by decide +kernel
set_option maxRecDepth 100000 in
theorem d_62_146 : decode (mB 62) 146 = .ok (.iload 6, 2) := by decide +kernel
set_option maxRecDepth 100000 in
theorem d_62_148 : decode (mB 62) 148 = .ok (.invokevirtual 108, 3) := by decide +kernel
set_option maxRecDepth 100000 in
theorem d_62_151 : decode (mB 62) 151 = .ok (.iconst 1, 1) := by decide +kernel
set_option maxRecDepth 100000 in
theorem d_62_152 : decode (mB 62) 152 = .ok (.ireturn, 1) := by decide +kernel
set_option maxRecDepth 100000 in
theorem d_62_153 : decode (mB 62) 153 = .ok (.iinc 10 1, 3) := by decide +kernel
set_option maxRecDepth 100000 in
theorem d_62_156 : decode (mB 62) 156 = .ok (.goto (-92), 3) := by decide +kernel
set_option maxRecDepth 100000 in
theorem d_62_159 : decode (mB 62) 159 = .ok (.iinc 7 1, 3) := by decide +kernel
set_option maxRecDepth 100000 in
theorem d_62_162 : decode (mB 62) 162 = .ok (.goto (-128), 3) := by decide +kernel
set_option maxRecDepth 100000 in
theorem d_62_165 : decode (mB 62) 165 = .ok (.iconst 0, 1) := by decide +kernel
set_option maxRecDepth 100000 in
theorem d_62_166 : decode (mB 62) 166 = .ok (.ireturn, 1) := by decide +kernel
set_option maxRecDepth 100000 in
theorem d_65_0 : decode (mB 65) 0 = .ok (.iload_n 3, 1) := by decide +kernel
set_option maxRecDepth 100000 in
theorem d_65_1 : decode (mB 65) 1 = .ok (.iconst 1, 1) := by decide +kernel
set_option maxRecDepth 100000 in
theorem d_65_2 : decode (mB 65) 2 = .ok (.iadd, 1) := by decide +kernel
set_option maxRecDepth 100000 in
theorem d_65_3 : decode (mB 65) 3 = .ok (.istore 5, 2) := by decide +kernel
set_option maxRecDepth 100000 in
theorem d_65_5 : decode (mB 65) 5 = .ok (.iload 5, 2) := by decide +kernel
set_option maxRecDepth 100000 in
theorem d_65_7 : decode (mB 65) 7 = .ok (.aload_n 1, 1) := by decide +kernel
set_option maxRecDepth 100000 in
theorem d_65_8 : decode (mB 65) 8 = .ok (.getfield 90, 3) := by decide +kernel
set_option maxRecDepth 100000 in
theorem d_65_11 : decode (mB 65) 11 = .ok (.if_icmp .ge 34, 3) := by decide +kernel
set_option maxRecDepth 100000 in
theorem d_65_14 : decode (mB 65) 14 = .ok (.iload_n 2, 1) := by decide +kernel
set_option maxRecDepth 100000 in
theorem d_65_15 : decode (mB 65) 15 = .ok (.aload_n 1, 1) := by decide +kernel
set_option maxRecDepth 100000 in
theorem d_65_16 : decode (mB 65) 16 = .ok (.getfield 112, 3) := by decide +kernel
set_option maxRecDepth 100000 in
theorem d_65_19 : decode (mB 65) 19 = .ok (.iload 5, 2) := by decide +kernel
set_option maxRecDepth 100000 in
theorem d_65_21 : decode (mB 65) 21 = .ok (.iaload, 1) := by decide +kernel
set_option maxRecDepth 100000 in
theorem d_65_22 : decode (mB 65) 22 = .ok (.iadd, 1) := by decide +kernel
set_option maxRecDepth 100000 in
theorem d_65_23 : decode (mB 65) 23 = .ok (.aload 4, 2) := by decide +kernel
set_option maxRecDepth 100000 in
theorem d_65_25 : decode (mB 65) 25 = .ok (.aload_n 1, 1) := by decide +kernel
set_option maxRecDepth 100000 in
theorem d_65_26 : decode (mB 65) 26 = .ok (.getfield 91, 3) := by decide +kernel
set_option maxRecDepth 100000 in
theorem d_65_29 : decode (mB 65) 29 = .ok (.iload 5, 2) := by decide +kernel
set_option maxRecDepth 100000 in
theorem d_65_31 : decode (mB 65) 31 = .ok (.iaload, 1) := by decide +kernel
set_option maxRecDepth 100000 in
theorem d_65_32 : decode (mB 65) 32 = .ok (.iaload, 1) := by decide +kernel
set_option maxRecDepth 100000 in
theorem d_65_33 : decode (mB 65) 33 = .ok (.if_icmp .gt 6, 3) := by decide +kernel
set_option maxRecDepth 100000 in
theorem d_65_36 : decode (mB 65) 36 = .ok (.iload 5, 2) := by decide +kernel
set_option maxRecDepth 100000 in
theorem d_65_38 : decode (mB 65) 38 = .ok (.ireturn, 1) := by decide +kernel
set_option maxRecDepth 100000 in
theorem d_65_39 : decode (mB 65) 39 = .ok (.iinc 5 1, 3) := by decide +kernel
set_option maxRecDepth 100000 in
theorem d_65_42 : decode (mB 65) 42 = .ok (.goto (-37), 3) := by decide +kernel
set_option maxRecDepth 100000 in
theorem d_65_45 : decode (mB 65) 45 = .ok (.iconst (-1), 1) := by decide +kernel
set_option maxRecDepth 100000 in
theorem d_65_46 : decode (mB 65) 46 = .ok (.ireturn, 1) := by decide +kernel
set_option maxRecDepth 100000 in
theorem c_68_74 : cvP 68 74 64 0 := ⟨cd_64, okk_w (k := 399) (by decide +kernel), okk_w (k := 401) (by decide +kernel), okk_w (k := 22) (by decide +kernel), by decide +kernel, by decide +kernel⟩
set_option maxRecDepth 100000 in
theorem c_68_71 : cvP 68 71 63 0 := ⟨cd_63, okk_w (k := 395) (by decide +kernel), okk_w (k := 397) (by decide +kernel), okk_w (k := 21) (by decide +kernel), by decide +kernel, by decide +kernel⟩
set_option maxRecDepth 100000 in
theorem fl_6_130 : flP "WhistleStop$Journey" 130 7 5 := ⟨_, rfl, by decide, okk_w (k := 568) (by decide +kernel)⟩
set_option maxRecDepth 100000 in
theorem fl_6_133 : flP "WhistleStop$Journey" 133 7 1 := ⟨_, rfl, by decide, okk_w (k := 555) (by decide +kernel)⟩
set_option maxRecDepth 100000 in
theorem c_68_59 : cvP 68 59 61 0 := ⟨cd_61, okk_w (k := 386) (by decide +kernel), okk_w (k := 388) (by decide +kernel), okk_w (k := 19) (by decide +kernel), by decide +kernel, by decide +kernel⟩
set_option maxRecDepth 100000 in
theorem c_68_137 : cvP 68 137 57 1 := ⟨cd_57, okk_w (k := 421) (by decide +kernel), okk_w (k := 308) (by decide +kernel), okk_w (k := 309) (by decide +kernel), by decide +kernel, by decide +kernel⟩
set_option maxRecDepth 100000 in
theorem fl_6_142 : flP "WhistleStop$Journey" 142 5 2 := ⟨_, rfl, by decide, okk_w (k := 900) (by decide +kernel)⟩
set_option maxRecDepth 100000 in
theorem c_68_145 : cvP 68 145 43 2 := ⟨cd_43, okk_w (k := 422) (by decide +kernel), okk_w (k := 350) (by decide +kernel), okk_w (k := 351) (by decide +kernel), by decide +kernel, by decide +kernel⟩
set_option maxRecDepth 100000 in
theorem c_68_126 : cvP 68 126 67 3 := ⟨cd_67, okk_w (k := 413) (by decide +kernel), okk_w (k := 415) (by decide +kernel), okk_w (k := 25) (by decide +kernel), by decide +kernel, by decide +kernel⟩
set_option maxRecDepth 100000 in
theorem d_68_0 : decode (mB 68) 0 = .ok (.aload_n 0, 1) := by decide +kernel
set_option maxRecDepth 100000 in
theorem d_68_1 : decode (mB 68) 1 = .ok (.getfield 50, 3) := by decide +kernel
set_option maxRecDepth 100000 in
theorem d_68_4 : decode (mB 68) 4 = .ok (.ifCond .le 12, 3) := by decide +kernel
set_option maxRecDepth 100000 in
theorem d_68_7 : decode (mB 68) 7 = .ok (.aload_n 0, 1) := by decide +kernel
set_option maxRecDepth 100000 in
theorem d_68_8 : decode (mB 68) 8 = .ok (.invokevirtual 74, 3) := by decide +kernel
set_option maxRecDepth 100000 in
theorem d_68_11 : decode (mB 68) 11 = .ok (.ifCond .ne 5, 3) := by decide +kernel
set_option maxRecDepth 100000 in
theorem d_68_14 : decode (mB 68) 14 = .ok (.iconst 0, 1) := by decide +kernel
set_option maxRecDepth 100000 in
theorem d_68_15 : decode (mB 68) 15 = .ok (.ireturn, 1) := by decide +kernel
set_option maxRecDepth 100000 in
theorem d_68_16 : decode (mB 68) 16 = .ok (.aload_n 0, 1) := by decide +kernel
set_option maxRecDepth 100000 in
theorem d_68_17 : decode (mB 68) 17 = .ok (.invokevirtual 71, 3) := by decide +kernel
set_option maxRecDepth 100000 in
theorem d_68_20 : decode (mB 68) 20 = .ok (.istore 4, 2) := by decide +kernel
set_option maxRecDepth 100000 in
theorem d_68_22 : decode (mB 68) 22 = .ok (.iconst 0, 1) := by decide +kernel
set_option maxRecDepth 100000 in
theorem d_68_23 : decode (mB 68) 23 = .ok (.istore 5, 2) := by decide +kernel
set_option maxRecDepth 100000 in
theorem d_68_25 : decode (mB 68) 25 = .ok (.iload 5, 2) := by decide +kernel
set_option maxRecDepth 100000 in
theorem d_68_27 : decode (mB 68) 27 = .ok (.aload_n 1, 1) := by decide +kernel
set_option maxRecDepth 100000 in
theorem d_68_28 : decode (mB 68) 28 = .ok (.getfield 130, 3) := by decide +kernel
set_option maxRecDepth 100000 in
theorem d_68_31 : decode (mB 68) 31 = .ok (.if_icmp .ge 81, 3) := by decide +kernel
set_option maxRecDepth 100000 in
theorem d_68_34 : decode (mB 68) 34 = .ok (.aload_n 1, 1) := by decide +kernel
set_option maxRecDepth 100000 in
theorem d_68_35 : decode (mB 68) 35 = .ok (.getfield 133, 3) := by decide +kernel
set_option maxRecDepth 100000 in
theorem d_68_38 : decode (mB 68) 38 = .ok (.iload 5, 2) := by decide +kernel
set_option maxRecDepth 100000 in
theorem d_68_40 : decode (mB 68) 40 = .ok (.aaload, 1) := by decide +kernel
set_option maxRecDepth 100000 in
theorem d_68_41 : decode (mB 68) 41 = .ok (.astore 6, 2) := by decide +kernel
set_option maxRecDepth 100000 in
theorem d_68_43 : decode (mB 68) 43 = .ok (.aload 6, 2) := by decide +kernel
set_option maxRecDepth 100000 in
theorem d_68_45 : decode (mB 68) 45 = .ok (.aload_n 0, 1) := by decide +kernel
set_option maxRecDepth 100000 in
theorem d_68_46 : decode (mB 68) 46 = .ok (.invokevirtual 59, 3) := by decide +kernel
set_option maxRecDepth 100000 in
theorem d_68_49 : decode (mB 68) 49 = .ok (.invokevirtual 137, 3) := by decide +kernel
set_option maxRecDepth 100000 in
theorem d_68_52 : decode (mB 68) 52 = .ok (.istore 7, 2) := by decide +kernel
set_option maxRecDepth 100000 in
theorem d_68_54 : decode (mB 68) 54 = .ok (.iload 7, 2) := by decide +kernel
set_option maxRecDepth 100000 in
theorem d_68_56 : decode (mB 68) 56 = .ok (.iconst (-1), 1) := by decide +kernel
set_option maxRecDepth 100000 in
theorem d_68_57 : decode (mB 68) 57 = .ok (.if_icmp .eq 49, 3) := by decide +kernel
set_option maxRecDepth 100000 in
theorem d_68_60 : decode (mB 68) 60 = .ok (.iload 4, 2) := by decide +kernel
set_option maxRecDepth 100000 in
theorem d_68_62 : decode (mB 68) 62 = .ok (.aload 6, 2) := by decide +kernel
set_option maxRecDepth 100000 in
theorem d_68_64 : decode (mB 68) 64 = .ok (.getfield 142, 3) := by decide +kernel
set_option maxRecDepth 100000 in
theorem d_68_67 : decode (mB 68) 67 = .ok (.iadd, 1) := by decide +kernel
set_option maxRecDepth 100000 in
theorem d_68_68 : decode (mB 68) 68 = .ok (.aload_n 2, 1) := by decide +kernel
set_option maxRecDepth 100000 in
theorem d_68_69 : decode (mB 68) 69 = .ok (.iload 7, 2) := by decide +kernel
set_option maxRecDepth 100000 in
theorem d_68_71 : decode (mB 68) 71 = .ok (.iload_n 3, 1) := by decide +kernel
set_option maxRecDepth 100000 in
theorem d_68_72 : decode (mB 68) 72 = .ok (.invokevirtual 145, 3) := by decide +kernel
set_option maxRecDepth 100000 in
theorem d_68_75 : decode (mB 68) 75 = .ok (.if_icmp .gt 31, 3) := by decide +kernel
set_option maxRecDepth 100000 in
theorem d_68_78 : decode (mB 68) 78 = .ok (.aload_n 0, 1) := by decide +kernel
set_option maxRecDepth 100000 in
theorem d_68_79 : decode (mB 68) 79 = .ok (.getfield 11, 3) := by decide +kernel
set_option maxRecDepth 100000 in
theorem d_68_82 : decode (mB 68) 82 = .ok (.aload_n 0, 1) := by decide +kernel
set_option maxRecDepth 100000 in
theorem d_68_83 : decode (mB 68) 83 = .ok (.getfield 50, 3) := by decide +kernel
set_option maxRecDepth 100000 in
theorem d_68_86 : decode (mB 68) 86 = .ok (.aconst_null, 1) := by decide +kernel
set_option maxRecDepth 100000 in
theorem d_68_87 : decode (mB 68) 87 = .ok (.aastore, 1) := by decide +kernel
set_option maxRecDepth 100000 in
theorem d_68_88 : decode (mB 68) 88 = .ok (.aload_n 0, 1) := by decide +kernel
set_option maxRecDepth 100000 in
theorem d_68_89 : decode (mB 68) 89 = .ok (.iload 7, 2) := by decide +kernel
set_option maxRecDepth 100000 in
theorem d_68_91 : decode (mB 68) 91 = .ok (.iload 4, 2) := by decide +kernel
set_option maxRecDepth 100000 in
theorem d_68_93 : decode (mB 68) 93 = .ok (.iload 4, 2) := by decide +kernel
set_option maxRecDepth 100000 in
theorem d_68_95 : decode (mB 68) 95 = .ok (.aload 6, 2) := by decide +kernel
set_option maxRecDepth 100000 in
theorem d_68_97 : decode (mB 68) 97 = .ok (.getfield 142, 3) := by decide +kernel
set_option maxRecDepth 100000 in
theorem d_68_100 : decode (mB 68) 100 = .ok (.iadd, 1) := by decide +kernel
set_option maxRecDepth 100000 in
theorem d_68_101 : decode (mB 68) 101 = .ok (.invokevirtual 126, 3) := by decide +kernel
set_option maxRecDepth 100000 in
theorem d_68_104 : decode (mB 68) 104 = .ok (.iconst 1, 1) := by decide +kernel
set_option maxRecDepth 100000 in
theorem d_68_105 : decode (mB 68) 105 = .ok (.ireturn, 1) := by decide +kernel
set_option maxRecDepth 100000 in
theorem d_68_106 : decode (mB 68) 106 = .ok (.iinc 5 1, 3) := by decide +kernel
set_option maxRecDepth 100000 in
theorem d_68_109 : decode (mB 68) 109 = .ok (.goto (-84), 3) := by decide +kernel
set_option maxRecDepth 100000 in
theorem d_68_112 : decode (mB 68) 112 = .ok (.iconst 0, 1) := by decide +kernel
set_option maxRecDepth 100000 in
theorem d_68_113 : decode (mB 68) 113 = .ok (.ireturn, 1) := by decide +kernel
