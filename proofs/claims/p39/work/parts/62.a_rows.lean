set_option maxRecDepth 100000 in
theorem cd_55 : cdP 55 := ⟨okr (k := 327) rfl (by decide +kernel), by decide +kernel, by decide +kernel, okk_w (k := 38) (by decide +kernel)⟩
set_option maxRecDepth 100000 in
theorem ck_4_28 : okw (.constant "WhistleStop$Fares" 28 (1000000000)) := okk_w (k := 274) (by decide +kernel)
set_option maxRecDepth 100000 in
theorem fl_4_65 : flP "WhistleStop$Fares" 65 11 7 := ⟨_, rfl, by decide, okk_w (k := 980) (by decide +kernel)⟩
set_option maxRecDepth 100000 in
theorem fl_4_68 : flP "WhistleStop$Fares" 68 11 3 := ⟨_, rfl, by decide, okk_w (k := 960) (by decide +kernel)⟩
set_option maxRecDepth 100000 in
theorem fl_4_71 : flP "WhistleStop$Fares" 71 11 4 := ⟨_, rfl, by decide, okk_w (k := 966) (by decide +kernel)⟩
set_option maxRecDepth 100000 in
theorem fl_4_74 : flP "WhistleStop$Fares" 74 11 2 := ⟨_, rfl, by decide, okk_w (k := 957) (by decide +kernel)⟩
set_option maxRecDepth 100000 in
theorem c_54_77 : cvP 54 77 55 4 := ⟨cd_55, okk_w (k := 324) (by decide +kernel), okk_w (k := 326) (by decide +kernel), okk_w (k := 14) (by decide +kernel), by decide +kernel, by decide +kernel⟩
set_option maxRecDepth 100000 in
theorem fl_4_80 : flP "WhistleStop$Fares" 80 11 5 := ⟨_, rfl, by decide, okk_w (k := 972) (by decide +kernel)⟩
set_option maxRecDepth 100000 in
theorem c_54_83 : cvP 54 83 76 1 := ⟨cd_76, okk_w (k := 328) (by decide +kernel), okk_w (k := 280) (by decide +kernel), okk_w (k := 281) (by decide +kernel), by decide +kernel, by decide +kernel⟩
set_option maxRecDepth 100000 in
theorem c_54_87 : csP 54 87 111 2 := ⟨cd_111, okk_w (k := 311) (by decide +kernel), okk_w (k := 180) (by decide +kernel), by decide +kernel, by decide +kernel⟩
set_option maxRecDepth 100000 in
theorem d_54_0 : decode (mB 54) 0 = .ok (.iconst 0, 1) := by decide +kernel
set_option maxRecDepth 100000 in
theorem d_54_1 : decode (mB 54) 1 = .ok (.istore 4, 2) := by decide +kernel
set_option maxRecDepth 100000 in
theorem d_54_3 : decode (mB 54) 3 = .ok (.ldc 28, 2) := by decide +kernel
set_option maxRecDepth 100000 in
theorem d_54_5 : decode (mB 54) 5 = .ok (.istore 5, 2) := by decide +kernel
set_option maxRecDepth 100000 in
theorem d_54_7 : decode (mB 54) 7 = .ok (.iconst 0, 1) := by decide +kernel
set_option maxRecDepth 100000 in
theorem d_54_8 : decode (mB 54) 8 = .ok (.istore 6, 2) := by decide +kernel
set_option maxRecDepth 100000 in
theorem d_54_10 : decode (mB 54) 10 = .ok (.iload 6, 2) := by decide +kernel
set_option maxRecDepth 100000 in
theorem d_54_12 : decode (mB 54) 12 = .ok (.aload_n 2, 1) := by decide +kernel
set_option maxRecDepth 100000 in
theorem d_54_13 : decode (mB 54) 13 = .ok (.getfield 65, 3) := by decide +kernel
set_option maxRecDepth 100000 in
theorem d_54_16 : decode (mB 54) 16 = .ok (.if_icmp .ge 112, 3) := by decide +kernel
set_option maxRecDepth 100000 in
theorem d_54_19 : decode (mB 54) 19 = .ok (.aload_n 2, 1) := by decide +kernel
set_option maxRecDepth 100000 in
theorem d_54_20 : decode (mB 54) 20 = .ok (.getfield 68, 3) := by decide +kernel
set_option maxRecDepth 100000 in
theorem d_54_23 : decode (mB 54) 23 = .ok (.iload 6, 2) := by decide +kernel
set_option maxRecDepth 100000 in
theorem d_54_25 : decode (mB 54) 25 = .ok (.iaload, 1) := by decide +kernel
set_option maxRecDepth 100000 in
theorem d_54_26 : decode (mB 54) 26 = .ok (.istore 7, 2) := by decide +kernel
set_option maxRecDepth 100000 in
theorem d_54_28 : decode (mB 54) 28 = .ok (.iload_n 3, 1) := by decide +kernel
set_option maxRecDepth 100000 in
theorem d_54_29 : decode (mB 54) 29 = .ok (.aload_n 2, 1) := by decide +kernel
set_option maxRecDepth 100000 in
theorem d_54_30 : decode (mB 54) 30 = .ok (.getfield 71, 3) := by decide +kernel
set_option maxRecDepth 100000 in
theorem d_54_33 : decode (mB 54) 33 = .ok (.iload 6, 2) := by decide +kernel
set_option maxRecDepth 100000 in
theorem d_54_35 : decode (mB 54) 35 = .ok (.iaload, 1) := by decide +kernel
set_option maxRecDepth 100000 in
theorem d_54_36 : decode (mB 54) 36 = .ok (.iadd, 1) := by decide +kernel
set_option maxRecDepth 100000 in
theorem d_54_37 : decode (mB 54) 37 = .ok (.istore 8, 2) := by decide +kernel
set_option maxRecDepth 100000 in
theorem d_54_39 : decode (mB 54) 39 = .ok (.iload 8, 2) := by decide +kernel
set_option maxRecDepth 100000 in
theorem d_54_41 : decode (mB 54) 41 = .ok (.aload_n 0, 1) := by decide +kernel
set_option maxRecDepth 100000 in
theorem d_54_42 : decode (mB 54) 42 = .ok (.getfield 25, 3) := by decide +kernel
set_option maxRecDepth 100000 in
theorem d_54_45 : decode (mB 54) 45 = .ok (.if_icmp .le 6, 3) := by decide +kernel
set_option maxRecDepth 100000 in
theorem d_54_48 : decode (mB 54) 48 = .ok (.goto 80, 3) := by decide +kernel
set_option maxRecDepth 100000 in
theorem d_54_51 : decode (mB 54) 51 = .ok (.iload 5, 2) := by decide +kernel
set_option maxRecDepth 100000 in
theorem d_54_53 : decode (mB 54) 53 = .ok (.aload_n 2, 1) := by decide +kernel
set_option maxRecDepth 100000 in
theorem d_54_54 : decode (mB 54) 54 = .ok (.getfield 74, 3) := by decide +kernel
set_option maxRecDepth 100000 in
theorem d_54_57 : decode (mB 54) 57 = .ok (.iadd, 1) := by decide +kernel
set_option maxRecDepth 100000 in
theorem d_54_58 : decode (mB 54) 58 = .ok (.aload_n 0, 1) := by decide +kernel
set_option maxRecDepth 100000 in
theorem d_54_59 : decode (mB 54) 59 = .ok (.getfield 29, 3) := by decide +kernel
set_option maxRecDepth 100000 in
theorem d_54_62 : decode (mB 54) 62 = .ok (.if_icmp .ge 34, 3) := by decide +kernel
set_option maxRecDepth 100000 in
theorem d_54_65 : decode (mB 54) 65 = .ok (.aload_n 0, 1) := by decide +kernel
set_option maxRecDepth 100000 in
theorem d_54_66 : decode (mB 54) 66 = .ok (.aload_n 1, 1) := by decide +kernel
set_option maxRecDepth 100000 in
theorem d_54_67 : decode (mB 54) 67 = .ok (.iload 7, 2) := by decide +kernel
set_option maxRecDepth 100000 in
theorem d_54_69 : decode (mB 54) 69 = .ok (.iload 8, 2) := by decide +kernel
set_option maxRecDepth 100000 in
theorem d_54_71 : decode (mB 54) 71 = .ok (.iload 5, 2) := by decide +kernel
set_option maxRecDepth 100000 in
theorem d_54_73 : decode (mB 54) 73 = .ok (.aload_n 2, 1) := by decide +kernel
set_option maxRecDepth 100000 in
theorem d_54_74 : decode (mB 54) 74 = .ok (.getfield 74, 3) := by decide +kernel
set_option maxRecDepth 100000 in
theorem d_54_77 : decode (mB 54) 77 = .ok (.iadd, 1) := by decide +kernel
set_option maxRecDepth 100000 in
theorem d_54_78 : decode (mB 54) 78 = .ok (.invokevirtual 77, 3) := by decide +kernel
set_option maxRecDepth 100000 in
theorem d_54_81 : decode (mB 54) 81 = .ok (.ifCond .ne 8, 3) := by decide +kernel
set_option maxRecDepth 100000 in
theorem d_54_84 : decode (mB 54) 84 = .ok (.iload 4, 2) := by decide +kernel
set_option maxRecDepth 100000 in
theorem d_54_86 : decode (mB 54) 86 = .ok (.ifCond .eq 7, 3) := by decide +kernel
set_option maxRecDepth 100000 in
theorem d_54_89 : decode (mB 54) 89 = .ok (.iconst 1, 1) := by decide +kernel
set_option maxRecDepth 100000 in
theorem d_54_90 : decode (mB 54) 90 = .ok (.goto 4, 3) := by decide +kernel
set_option maxRecDepth 100000 in
theorem d_54_93 : decode (mB 54) 93 = .ok (.iconst 0, 1) := by decide +kernel
set_option maxRecDepth 100000 in
theorem d_54_94 : decode (mB 54) 94 = .ok (.istore 4, 2) := by decide +kernel
set_option maxRecDepth 100000 in
theorem d_54_96 : decode (mB 54) 96 = .ok (.iload 5, 2) := by decide +kernel
set_option maxRecDepth 100000 in
theorem d_54_98 : decode (mB 54) 98 = .ok (.aload_n 0, 1) := by decide +kernel
set_option maxRecDepth 100000 in
theorem d_54_99 : decode (mB 54) 99 = .ok (.getfield 11, 3) := by decide +kernel
set_option maxRecDepth 100000 in
theorem d_54_102 : decode (mB 54) 102 = .ok (.iload 7, 2) := by decide +kernel
set_option maxRecDepth 100000 in
theorem d_54_104 : decode (mB 54) 104 = .ok (.aaload, 1) := by decide +kernel
set_option maxRecDepth 100000 in
theorem d_54_105 : decode (mB 54) 105 = .ok (.iload_n 3, 1) := by decide +kernel
set_option maxRecDepth 100000 in
theorem d_54_106 : decode (mB 54) 106 = .ok (.aload_n 2, 1) := by decide +kernel
set_option maxRecDepth 100000 in
theorem d_54_107 : decode (mB 54) 107 = .ok (.getfield 80, 3) := by decide +kernel
set_option maxRecDepth 100000 in
theorem d_54_110 : decode (mB 54) 110 = .ok (.iload 6, 2) := by decide +kernel
set_option maxRecDepth 100000 in
theorem d_54_112 : decode (mB 54) 112 = .ok (.iaload, 1) := by decide +kernel
set_option maxRecDepth 100000 in
theorem d_54_113 : decode (mB 54) 113 = .ok (.iadd, 1) := by decide +kernel
set_option maxRecDepth 100000 in
theorem d_54_114 : decode (mB 54) 114 = .ok (.invokevirtual 83, 3) := by decide +kernel
set_option maxRecDepth 100000 in
theorem d_54_117 : decode (mB 54) 117 = .ok (.invokestatic 87, 3) := by decide +kernel
set_option maxRecDepth 100000 in
theorem d_54_120 : decode (mB 54) 120 = .ok (.istore 5, 2) := by decide +kernel
set_option maxRecDepth 100000 in
theorem d_54_122 : decode (mB 54) 122 = .ok (.iinc 6 1, 3) := by decide +kernel
set_option maxRecDepth 100000 in
theorem d_54_125 : decode (mB 54) 125 = .ok (.goto (-115), 3) := by decide +kernel
set_option maxRecDepth 100000 in
theorem d_54_128 : decode (mB 54) 128 = .ok (.iload 4, 2) := by decide +kernel
set_option maxRecDepth 100000 in
theorem d_54_130 : decode (mB 54) 130 = .ok (.ireturn, 1) := by decide +kernel
