set_option maxRecDepth 100000 in
theorem cd_53 : cdP 53 := ⟨okr (k := 315) rfl (by decide +kernel), by decide +kernel, by decide +kernel, okk_w (k := 38) (by decide +kernel)⟩
set_option maxRecDepth 100000 in
theorem cd_54 : cdP 54 := ⟨okr (k := 323) rfl (by decide +kernel), by decide +kernel, by decide +kernel, okk_w (k := 38) (by decide +kernel)⟩
set_option maxRecDepth 100000 in
theorem cd_78 : cdP 78 := ⟨okr (k := 319) rfl (by decide +kernel), by decide +kernel, by decide +kernel, okk_w (k := 39) (by decide +kernel)⟩
set_option maxRecDepth 100000 in
theorem fl_4_32 : flP "WhistleStop$Fares" 32 8 2 := ⟨_, rfl, by decide, okk_w (k := 688) (by decide +kernel)⟩
set_option maxRecDepth 100000 in
theorem c_51_35 : cvP 51 35 75 2 := ⟨cd_75, okk_w (k := 275) (by decide +kernel), okk_w (k := 276) (by decide +kernel), okk_w (k := 277) (by decide +kernel), by decide +kernel, by decide +kernel⟩
set_option maxRecDepth 100000 in
theorem c_51_39 : cvP 51 39 52 4 := ⟨cd_52, okk_w (k := 302) (by decide +kernel), okk_w (k := 304) (by decide +kernel), okk_w (k := 11) (by decide +kernel), by decide +kernel, by decide +kernel⟩
set_option maxRecDepth 100000 in
theorem c_51_43 : cvP 51 43 53 0 := ⟨cd_53, okk_w (k := 312) (by decide +kernel), okk_w (k := 314) (by decide +kernel), okk_w (k := 12) (by decide +kernel), by decide +kernel, by decide +kernel⟩
set_option maxRecDepth 100000 in
theorem fl_4_46 : flP "WhistleStop$Fares" 46 10 3 := ⟨_, rfl, by decide, okk_w (k := 608) (by decide +kernel)⟩
set_option maxRecDepth 100000 in
theorem fl_4_49 : flP "WhistleStop$Fares" 49 10 0 := ⟨_, rfl, by decide, okk_w (k := 596) (by decide +kernel)⟩
set_option maxRecDepth 100000 in
theorem fl_4_53 : flP "WhistleStop$Fares" 53 10 2 := ⟨_, rfl, by decide, okk_w (k := 603) (by decide +kernel)⟩
set_option maxRecDepth 100000 in
theorem c_51_57 : cvP 51 57 54 3 := ⟨cd_54, okk_w (k := 320) (by decide +kernel), okk_w (k := 322) (by decide +kernel), okk_w (k := 13) (by decide +kernel), by decide +kernel, by decide +kernel⟩
set_option maxRecDepth 100000 in
theorem d_51_0 : decode (mB 51) 0 = .ok (.aload_n 0, 1) := by decide +kernel
set_option maxRecDepth 100000 in
theorem d_51_1 : decode (mB 51) 1 = .ok (.iload 4, 2) := by decide +kernel
set_option maxRecDepth 100000 in
theorem d_51_3 : decode (mB 51) 3 = .ok (.putfield 21, 3) := by decide +kernel
set_option maxRecDepth 100000 in
theorem d_51_6 : decode (mB 51) 6 = .ok (.aload_n 0, 1) := by decide +kernel
set_option maxRecDepth 100000 in
theorem d_51_7 : decode (mB 51) 7 = .ok (.iload 6, 2) := by decide +kernel
set_option maxRecDepth 100000 in
theorem d_51_9 : decode (mB 51) 9 = .ok (.putfield 25, 3) := by decide +kernel
set_option maxRecDepth 100000 in
theorem d_51_12 : decode (mB 51) 12 = .ok (.aload_n 0, 1) := by decide +kernel
set_option maxRecDepth 100000 in
theorem d_51_13 : decode (mB 51) 13 = .ok (.iload_n 3, 1) := by decide +kernel
set_option maxRecDepth 100000 in
theorem d_51_14 : decode (mB 51) 14 = .ok (.iload 4, 2) := by decide +kernel
set_option maxRecDepth 100000 in
theorem d_51_16 : decode (mB 51) 16 = .ok (.if_icmp .ne 7, 3) := by decide +kernel
set_option maxRecDepth 100000 in
theorem d_51_19 : decode (mB 51) 19 = .ok (.iconst 0, 1) := by decide +kernel
set_option maxRecDepth 100000 in
theorem d_51_20 : decode (mB 51) 20 = .ok (.goto 5, 3) := by decide +kernel
set_option maxRecDepth 100000 in
theorem d_51_23 : decode (mB 51) 23 = .ok (.ldc 28, 2) := by decide +kernel
set_option maxRecDepth 100000 in
theorem d_51_25 : decode (mB 51) 25 = .ok (.putfield 29, 3) := by decide +kernel
set_option maxRecDepth 100000 in
theorem d_51_28 : decode (mB 51) 28 = .ok (.iconst 0, 1) := by decide +kernel
set_option maxRecDepth 100000 in
theorem d_51_29 : decode (mB 51) 29 = .ok (.istore 7, 2) := by decide +kernel
set_option maxRecDepth 100000 in
theorem d_51_31 : decode (mB 51) 31 = .ok (.iload 7, 2) := by decide +kernel
set_option maxRecDepth 100000 in
theorem d_51_33 : decode (mB 51) 33 = .ok (.bipush 16, 2) := by decide +kernel
set_option maxRecDepth 100000 in
theorem d_51_35 : decode (mB 51) 35 = .ok (.if_icmp .ge 20, 3) := by decide +kernel
set_option maxRecDepth 100000 in
theorem d_51_38 : decode (mB 51) 38 = .ok (.aload_n 0, 1) := by decide +kernel
set_option maxRecDepth 100000 in
theorem d_51_39 : decode (mB 51) 39 = .ok (.getfield 17, 3) := by decide +kernel
set_option maxRecDepth 100000 in
theorem d_51_42 : decode (mB 51) 42 = .ok (.iload 7, 2) := by decide +kernel
set_option maxRecDepth 100000 in
theorem d_51_44 : decode (mB 51) 44 = .ok (.aaload, 1) := by decide +kernel
set_option maxRecDepth 100000 in
theorem d_51_45 : decode (mB 51) 45 = .ok (.iconst 0, 1) := by decide +kernel
set_option maxRecDepth 100000 in
theorem d_51_46 : decode (mB 51) 46 = .ok (.putfield 32, 3) := by decide +kernel
set_option maxRecDepth 100000 in
theorem d_51_49 : decode (mB 51) 49 = .ok (.iinc 7 1, 3) := by decide +kernel
set_option maxRecDepth 100000 in
theorem d_51_52 : decode (mB 51) 52 = .ok (.goto (-21), 3) := by decide +kernel
set_option maxRecDepth 100000 in
theorem d_51_55 : decode (mB 51) 55 = .ok (.aload_n 0, 1) := by decide +kernel
set_option maxRecDepth 100000 in
theorem d_51_56 : decode (mB 51) 56 = .ok (.getfield 17, 3) := by decide +kernel
set_option maxRecDepth 100000 in
theorem d_51_59 : decode (mB 51) 59 = .ok (.iload_n 3, 1) := by decide +kernel
set_option maxRecDepth 100000 in
theorem d_51_60 : decode (mB 51) 60 = .ok (.aaload, 1) := by decide +kernel
set_option maxRecDepth 100000 in
theorem d_51_61 : decode (mB 51) 61 = .ok (.iload 5, 2) := by decide +kernel
set_option maxRecDepth 100000 in
theorem d_51_63 : decode (mB 51) 63 = .ok (.iconst 0, 1) := by decide +kernel
set_option maxRecDepth 100000 in
theorem d_51_64 : decode (mB 51) 64 = .ok (.invokevirtual 35, 3) := by decide +kernel
set_option maxRecDepth 100000 in
theorem d_51_67 : decode (mB 51) 67 = .ok (.pop, 1) := by decide +kernel
set_option maxRecDepth 100000 in
theorem d_51_68 : decode (mB 51) 68 = .ok (.aload_n 0, 1) := by decide +kernel
set_option maxRecDepth 100000 in
theorem d_51_69 : decode (mB 51) 69 = .ok (.aload_n 1, 1) := by decide +kernel
set_option maxRecDepth 100000 in
theorem d_51_70 : decode (mB 51) 70 = .ok (.iload_n 3, 1) := by decide +kernel
set_option maxRecDepth 100000 in
theorem d_51_71 : decode (mB 51) 71 = .ok (.iload 5, 2) := by decide +kernel
set_option maxRecDepth 100000 in
theorem d_51_73 : decode (mB 51) 73 = .ok (.iconst 0, 1) := by decide +kernel
set_option maxRecDepth 100000 in
theorem d_51_74 : decode (mB 51) 74 = .ok (.invokevirtual 39, 3) := by decide +kernel
set_option maxRecDepth 100000 in
theorem d_51_77 : decode (mB 51) 77 = .ok (.pop, 1) := by decide +kernel
set_option maxRecDepth 100000 in
theorem d_51_78 : decode (mB 51) 78 = .ok (.iconst 1, 1) := by decide +kernel
set_option maxRecDepth 100000 in
theorem d_51_79 : decode (mB 51) 79 = .ok (.istore 7, 2) := by decide +kernel
set_option maxRecDepth 100000 in
theorem d_51_81 : decode (mB 51) 81 = .ok (.iconst 1, 1) := by decide +kernel
set_option maxRecDepth 100000 in
theorem d_51_82 : decode (mB 51) 82 = .ok (.istore 8, 2) := by decide +kernel
set_option maxRecDepth 100000 in
theorem d_51_84 : decode (mB 51) 84 = .ok (.iload 8, 2) := by decide +kernel
set_option maxRecDepth 100000 in
theorem d_51_86 : decode (mB 51) 86 = .ok (.bipush 6, 2) := by decide +kernel
set_option maxRecDepth 100000 in
theorem d_51_88 : decode (mB 51) 88 = .ok (.if_icmp .gt 73, 3) := by decide +kernel
set_option maxRecDepth 100000 in
theorem d_51_91 : decode (mB 51) 91 = .ok (.iload 7, 2) := by decide +kernel
set_option maxRecDepth 100000 in
theorem d_51_93 : decode (mB 51) 93 = .ok (.ifCond .eq 68, 3) := by decide +kernel
set_option maxRecDepth 100000 in
theorem d_51_96 : decode (mB 51) 96 = .ok (.aload_n 0, 1) := by decide +kernel
set_option maxRecDepth 100000 in
theorem d_51_97 : decode (mB 51) 97 = .ok (.invokevirtual 43, 3) := by decide +kernel
set_option maxRecDepth 100000 in
theorem d_51_100 : decode (mB 51) 100 = .ok (.iconst 0, 1) := by decide +kernel
set_option maxRecDepth 100000 in
theorem d_51_101 : decode (mB 51) 101 = .ok (.istore 7, 2) := by decide +kernel
set_option maxRecDepth 100000 in
theorem d_51_103 : decode (mB 51) 103 = .ok (.iconst 0, 1) := by decide +kernel
set_option maxRecDepth 100000 in
theorem d_51_104 : decode (mB 51) 104 = .ok (.istore 9, 2) := by decide +kernel
set_option maxRecDepth 100000 in
theorem d_51_106 : decode (mB 51) 106 = .ok (.iload 9, 2) := by decide +kernel
set_option maxRecDepth 100000 in
theorem d_51_108 : decode (mB 51) 108 = .ok (.aload_n 2, 1) := by decide +kernel
set_option maxRecDepth 100000 in
theorem d_51_109 : decode (mB 51) 109 = .ok (.getfield 46, 3) := by decide +kernel
set_option maxRecDepth 100000 in
theorem d_51_112 : decode (mB 51) 112 = .ok (.if_icmp .ge 43, 3) := by decide +kernel
set_option maxRecDepth 100000 in
theorem d_51_115 : decode (mB 51) 115 = .ok (.aload_n 0, 1) := by decide +kernel
set_option maxRecDepth 100000 in
theorem d_51_116 : decode (mB 51) 116 = .ok (.aload_n 1, 1) := by decide +kernel
set_option maxRecDepth 100000 in
theorem d_51_117 : decode (mB 51) 117 = .ok (.aload_n 2, 1) := by decide +kernel
set_option maxRecDepth 100000 in
theorem d_51_118 : decode (mB 51) 118 = .ok (.getfield 49, 3) := by decide +kernel
set_option maxRecDepth 100000 in
theorem d_51_121 : decode (mB 51) 121 = .ok (.iload 9, 2) := by decide +kernel
set_option maxRecDepth 100000 in
theorem d_51_123 : decode (mB 51) 123 = .ok (.aaload, 1) := by decide +kernel
set_option maxRecDepth 100000 in
theorem d_51_124 : decode (mB 51) 124 = .ok (.aload_n 2, 1) := by decide +kernel
set_option maxRecDepth 100000 in
theorem d_51_125 : decode (mB 51) 125 = .ok (.getfield 53, 3) := by decide +kernel
set_option maxRecDepth 100000 in
theorem d_51_128 : decode (mB 51) 128 = .ok (.iload 9, 2) := by decide +kernel
set_option maxRecDepth 100000 in
theorem d_51_130 : decode (mB 51) 130 = .ok (.iaload, 1) := by decide +kernel
set_option maxRecDepth 100000 in
theorem d_51_131 : decode (mB 51) 131 = .ok (.invokevirtual 57, 3) := by decide +kernel
set_option maxRecDepth 100000 in
theorem d_51_134 : decode (mB 51) 134 = .ok (.ifCond .ne 8, 3) := by decide +kernel
set_option maxRecDepth 100000 in
theorem d_51_137 : decode (mB 51) 137 = .ok (.iload 7, 2) := by decide +kernel
set_option maxRecDepth 100000 in
theorem d_51_139 : decode (mB 51) 139 = .ok (.ifCond .eq 7, 3) := by decide +kernel
set_option maxRecDepth 100000 in
theorem d_51_142 : decode (mB 51) 142 = .ok (.iconst 1, 1) := by decide +kernel
set_option maxRecDepth 100000 in
theorem d_51_143 : decode (mB 51) 143 = .ok (.goto 4, 3) := by decide +kernel
set_option maxRecDepth 100000 in
theorem d_51_146 : decode (mB 51) 146 = .ok (.iconst 0, 1) := by decide +kernel
set_option maxRecDepth 100000 in
theorem d_51_147 : decode (mB 51) 147 = .ok (.istore 7, 2) := by decide +kernel
set_option maxRecDepth 100000 in
theorem d_51_149 : decode (mB 51) 149 = .ok (.iinc 9 1, 3) := by decide +kernel
set_option maxRecDepth 100000 in
theorem d_51_152 : decode (mB 51) 152 = .ok (.goto (-46), 3) := by decide +kernel
set_option maxRecDepth 100000 in
theorem d_51_155 : decode (mB 51) 155 = .ok (.iinc 8 1, 3) := by decide +kernel
set_option maxRecDepth 100000 in
theorem d_51_158 : decode (mB 51) 158 = .ok (.goto (-74), 3) := by decide +kernel
set_option maxRecDepth 100000 in
theorem d_51_161 : decode (mB 51) 161 = .ok (.aload_n 0, 1) := by decide +kernel
set_option maxRecDepth 100000 in
theorem d_51_162 : decode (mB 51) 162 = .ok (.getfield 29, 3) := by decide +kernel
set_option maxRecDepth 100000 in
theorem d_51_165 : decode (mB 51) 165 = .ok (.ireturn, 1) := by decide +kernel
set_option maxRecDepth 100000 in
theorem c_53_61 : cvP 53 61 78 1 := ⟨cd_78, okk_w (k := 316) (by decide +kernel), okk_w (k := 317) (by decide +kernel), okk_w (k := 318) (by decide +kernel), by decide +kernel, by decide +kernel⟩
set_option maxRecDepth 100000 in
theorem d_53_0 : decode (mB 53) 0 = .ok (.aload_n 0, 1) := by decide +kernel
set_option maxRecDepth 100000 in
theorem d_53_1 : decode (mB 53) 1 = .ok (.getfield 11, 3) := by decide +kernel
set_option maxRecDepth 100000 in
theorem d_53_4 : decode (mB 53) 4 = .ok (.astore_n 1, 1) := by decide +kernel
set_option maxRecDepth 100000 in
theorem d_53_5 : decode (mB 53) 5 = .ok (.aload_n 0, 1) := by decide +kernel
set_option maxRecDepth 100000 in
theorem d_53_6 : decode (mB 53) 6 = .ok (.aload_n 0, 1) := by decide +kernel
set_option maxRecDepth 100000 in
theorem d_53_7 : decode (mB 53) 7 = .ok (.getfield 17, 3) := by decide +kernel
set_option maxRecDepth 100000 in
theorem d_53_10 : decode (mB 53) 10 = .ok (.putfield 11, 3) := by decide +kernel
set_option maxRecDepth 100000 in
theorem d_53_13 : decode (mB 53) 13 = .ok (.aload_n 0, 1) := by decide +kernel
set_option maxRecDepth 100000 in
theorem d_53_14 : decode (mB 53) 14 = .ok (.aload_n 1, 1) := by decide +kernel
set_option maxRecDepth 100000 in
theorem d_53_15 : decode (mB 53) 15 = .ok (.putfield 17, 3) := by decide +kernel
set_option maxRecDepth 100000 in
theorem d_53_18 : decode (mB 53) 18 = .ok (.iconst 0, 1) := by decide +kernel
set_option maxRecDepth 100000 in
theorem d_53_19 : decode (mB 53) 19 = .ok (.istore_n 2, 1) := by decide +kernel
set_option maxRecDepth 100000 in
theorem d_53_20 : decode (mB 53) 20 = .ok (.iload_n 2, 1) := by decide +kernel
set_option maxRecDepth 100000 in
theorem d_53_21 : decode (mB 53) 21 = .ok (.bipush 16, 2) := by decide +kernel
set_option maxRecDepth 100000 in
theorem d_53_23 : decode (mB 53) 23 = .ok (.if_icmp .ge 24, 3) := by decide +kernel
set_option maxRecDepth 100000 in
theorem d_53_26 : decode (mB 53) 26 = .ok (.aload_n 0, 1) := by decide +kernel
set_option maxRecDepth 100000 in
theorem d_53_27 : decode (mB 53) 27 = .ok (.getfield 17, 3) := by decide +kernel
set_option maxRecDepth 100000 in
theorem d_53_30 : decode (mB 53) 30 = .ok (.iload_n 2, 1) := by decide +kernel
set_option maxRecDepth 100000 in
theorem d_53_31 : decode (mB 53) 31 = .ok (.aaload, 1) := by decide +kernel
set_option maxRecDepth 100000 in
theorem d_53_32 : decode (mB 53) 32 = .ok (.aload_n 0, 1) := by decide +kernel
set_option maxRecDepth 100000 in
theorem d_53_33 : decode (mB 53) 33 = .ok (.getfield 11, 3) := by decide +kernel
set_option maxRecDepth 100000 in
theorem d_53_36 : decode (mB 53) 36 = .ok (.iload_n 2, 1) := by decide +kernel
set_option maxRecDepth 100000 in
theorem d_53_37 : decode (mB 53) 37 = .ok (.aaload, 1) := by decide +kernel
set_option maxRecDepth 100000 in
theorem d_53_38 : decode (mB 53) 38 = .ok (.invokevirtual 61, 3) := by decide +kernel
set_option maxRecDepth 100000 in
theorem d_53_41 : decode (mB 53) 41 = .ok (.iinc 2 1, 3) := by decide +kernel
set_option maxRecDepth 100000 in
theorem d_53_44 : decode (mB 53) 44 = .ok (.goto (-24), 3) := by decide +kernel
set_option maxRecDepth 100000 in
theorem d_53_47 : decode (mB 53) 47 = .ok (.return_, 1) := by decide +kernel
