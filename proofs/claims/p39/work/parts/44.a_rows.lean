set_option maxRecDepth 100000 in
theorem cd_41 : cdP 41 := ⟨okr (k := 344) rfl (by decide +kernel), by decide +kernel, by decide +kernel, okk_w (k := 37) (by decide +kernel)⟩
set_option maxRecDepth 100000 in
theorem cd_44 : cdP 44 := ⟨okr (k := 359) rfl (by decide +kernel), by decide +kernel, by decide +kernel, okk_w (k := 37) (by decide +kernel)⟩
set_option maxRecDepth 100000 in
theorem ck_1_26 : okw (.constant "WhistleStop$Backward" 26 (-1000000000)) := okk_w (k := 338) (by decide +kernel)
set_option maxRecDepth 100000 in
theorem c_40_27 : csP 40 27 112 2 := ⟨cd_112, okk_w (k := 339) (by decide +kernel), okk_w (k := 216) (by decide +kernel), by decide +kernel, by decide +kernel⟩
set_option maxRecDepth 100000 in
theorem c_40_33 : cvP 40 33 41 2 := ⟨cd_41, okk_w (k := 340) (by decide +kernel), okk_w (k := 342) (by decide +kernel), okk_w (k := 15) (by decide +kernel), by decide +kernel, by decide +kernel⟩
set_option maxRecDepth 100000 in
theorem c_40_37 : csP 40 37 111 2 := ⟨cd_111, okk_w (k := 354) (by decide +kernel), okk_w (k := 180) (by decide +kernel), by decide +kernel, by decide +kernel⟩
set_option maxRecDepth 100000 in
theorem c_40_49 : cvP 40 49 44 3 := ⟨cd_44, okk_w (k := 356) (by decide +kernel), okk_w (k := 358) (by decide +kernel), okk_w (k := 17) (by decide +kernel), by decide +kernel, by decide +kernel⟩
set_option maxRecDepth 100000 in
theorem d_40_0 : decode (mB 40) 0 = .ok (.aload_n 0, 1) := by decide +kernel
set_option maxRecDepth 100000 in
theorem d_40_1 : decode (mB 40) 1 = .ok (.iload_n 3, 1) := by decide +kernel
set_option maxRecDepth 100000 in
theorem d_40_2 : decode (mB 40) 2 = .ok (.putfield 19, 3) := by decide +kernel
set_option maxRecDepth 100000 in
theorem d_40_5 : decode (mB 40) 5 = .ok (.aload_n 0, 1) := by decide +kernel
set_option maxRecDepth 100000 in
theorem d_40_6 : decode (mB 40) 6 = .ok (.iload 4, 2) := by decide +kernel
set_option maxRecDepth 100000 in
theorem d_40_8 : decode (mB 40) 8 = .ok (.putfield 23, 3) := by decide +kernel
set_option maxRecDepth 100000 in
theorem d_40_11 : decode (mB 40) 11 = .ok (.aload_n 0, 1) := by decide +kernel
set_option maxRecDepth 100000 in
theorem d_40_12 : decode (mB 40) 12 = .ok (.getfield 11, 3) := by decide +kernel
set_option maxRecDepth 100000 in
theorem d_40_15 : decode (mB 40) 15 = .ok (.iconst 0, 1) := by decide +kernel
set_option maxRecDepth 100000 in
theorem d_40_16 : decode (mB 40) 16 = .ok (.aaload, 1) := by decide +kernel
set_option maxRecDepth 100000 in
theorem d_40_17 : decode (mB 40) 17 = .ok (.ldc 26, 2) := by decide +kernel
set_option maxRecDepth 100000 in
theorem d_40_19 : decode (mB 40) 19 = .ok (.invokestatic 27, 3) := by decide +kernel
set_option maxRecDepth 100000 in
theorem d_40_22 : decode (mB 40) 22 = .ok (.aload_n 0, 1) := by decide +kernel
set_option maxRecDepth 100000 in
theorem d_40_23 : decode (mB 40) 23 = .ok (.aload_n 1, 1) := by decide +kernel
set_option maxRecDepth 100000 in
theorem d_40_24 : decode (mB 40) 24 = .ok (.iconst 0, 1) := by decide +kernel
set_option maxRecDepth 100000 in
theorem d_40_25 : decode (mB 40) 25 = .ok (.invokevirtual 33, 3) := by decide +kernel
set_option maxRecDepth 100000 in
theorem d_40_28 : decode (mB 40) 28 = .ok (.iconst 1, 1) := by decide +kernel
set_option maxRecDepth 100000 in
theorem d_40_29 : decode (mB 40) 29 = .ok (.istore 6, 2) := by decide +kernel
set_option maxRecDepth 100000 in
theorem d_40_31 : decode (mB 40) 31 = .ok (.iconst 1, 1) := by decide +kernel
set_option maxRecDepth 100000 in
theorem d_40_32 : decode (mB 40) 32 = .ok (.istore 7, 2) := by decide +kernel
set_option maxRecDepth 100000 in
theorem d_40_34 : decode (mB 40) 34 = .ok (.iload 7, 2) := by decide +kernel
set_option maxRecDepth 100000 in
theorem d_40_36 : decode (mB 40) 36 = .ok (.iload 5, 2) := by decide +kernel
set_option maxRecDepth 100000 in
theorem d_40_38 : decode (mB 40) 38 = .ok (.bipush 6, 2) := by decide +kernel
set_option maxRecDepth 100000 in
theorem d_40_40 : decode (mB 40) 40 = .ok (.invokestatic 37, 3) := by decide +kernel
set_option maxRecDepth 100000 in
theorem d_40_43 : decode (mB 40) 43 = .ok (.if_icmp .gt 90, 3) := by decide +kernel
set_option maxRecDepth 100000 in
theorem d_40_46 : decode (mB 40) 46 = .ok (.aload_n 0, 1) := by decide +kernel
set_option maxRecDepth 100000 in
theorem d_40_47 : decode (mB 40) 47 = .ok (.getfield 11, 3) := by decide +kernel
set_option maxRecDepth 100000 in
theorem d_40_50 : decode (mB 40) 50 = .ok (.iload 7, 2) := by decide +kernel
set_option maxRecDepth 100000 in
theorem d_40_52 : decode (mB 40) 52 = .ok (.iconst 1, 1) := by decide +kernel
set_option maxRecDepth 100000 in
theorem d_40_53 : decode (mB 40) 53 = .ok (.isub, 1) := by decide +kernel
set_option maxRecDepth 100000 in
theorem d_40_54 : decode (mB 40) 54 = .ok (.aaload, 1) := by decide +kernel
set_option maxRecDepth 100000 in
theorem d_40_55 : decode (mB 40) 55 = .ok (.iconst 0, 1) := by decide +kernel
set_option maxRecDepth 100000 in
theorem d_40_56 : decode (mB 40) 56 = .ok (.aload_n 0, 1) := by decide +kernel
set_option maxRecDepth 100000 in
theorem d_40_57 : decode (mB 40) 57 = .ok (.getfield 11, 3) := by decide +kernel
set_option maxRecDepth 100000 in
theorem d_40_60 : decode (mB 40) 60 = .ok (.iload 7, 2) := by decide +kernel
set_option maxRecDepth 100000 in
theorem d_40_62 : decode (mB 40) 62 = .ok (.aaload, 1) := by decide +kernel
set_option maxRecDepth 100000 in
theorem d_40_63 : decode (mB 40) 63 = .ok (.iconst 0, 1) := by decide +kernel
set_option maxRecDepth 100000 in
theorem d_40_64 : decode (mB 40) 64 = .ok (.bipush 16, 2) := by decide +kernel
set_option maxRecDepth 100000 in
theorem d_40_66 : decode (mB 40) 66 = .ok (.invokestatic 43, 3) := by decide +kernel
set_option maxRecDepth 100000 in
theorem d_40_69 : decode (mB 40) 69 = .ok (.aload_n 0, 1) := by decide +kernel
set_option maxRecDepth 100000 in
theorem d_40_70 : decode (mB 40) 70 = .ok (.getfield 16, 3) := by decide +kernel
set_option maxRecDepth 100000 in
theorem d_40_73 : decode (mB 40) 73 = .ok (.iload 7, 2) := by decide +kernel
set_option maxRecDepth 100000 in
theorem d_40_75 : decode (mB 40) 75 = .ok (.iconst 1, 1) := by decide +kernel
set_option maxRecDepth 100000 in
theorem d_40_76 : decode (mB 40) 76 = .ok (.isub, 1) := by decide +kernel
set_option maxRecDepth 100000 in
theorem d_40_77 : decode (mB 40) 77 = .ok (.aaload, 1) := by decide +kernel
set_option maxRecDepth 100000 in
theorem d_40_78 : decode (mB 40) 78 = .ok (.iconst 0, 1) := by decide +kernel
set_option maxRecDepth 100000 in
theorem d_40_79 : decode (mB 40) 79 = .ok (.aload_n 0, 1) := by decide +kernel
set_option maxRecDepth 100000 in
theorem d_40_80 : decode (mB 40) 80 = .ok (.getfield 16, 3) := by decide +kernel
set_option maxRecDepth 100000 in
theorem d_40_83 : decode (mB 40) 83 = .ok (.iload 7, 2) := by decide +kernel
set_option maxRecDepth 100000 in
theorem d_40_85 : decode (mB 40) 85 = .ok (.aaload, 1) := by decide +kernel
set_option maxRecDepth 100000 in
theorem d_40_86 : decode (mB 40) 86 = .ok (.iconst 0, 1) := by decide +kernel
set_option maxRecDepth 100000 in
theorem d_40_87 : decode (mB 40) 87 = .ok (.bipush 16, 2) := by decide +kernel
set_option maxRecDepth 100000 in
theorem d_40_89 : decode (mB 40) 89 = .ok (.invokestatic 43, 3) := by decide +kernel
set_option maxRecDepth 100000 in
theorem d_40_92 : decode (mB 40) 92 = .ok (.iload 6, 2) := by decide +kernel
set_option maxRecDepth 100000 in
theorem d_40_94 : decode (mB 40) 94 = .ok (.ifCond .eq 33, 3) := by decide +kernel
set_option maxRecDepth 100000 in
theorem d_40_97 : decode (mB 40) 97 = .ok (.aload_n 0, 1) := by decide +kernel
set_option maxRecDepth 100000 in
theorem d_40_98 : decode (mB 40) 98 = .ok (.aload_n 2, 1) := by decide +kernel
set_option maxRecDepth 100000 in
theorem d_40_99 : decode (mB 40) 99 = .ok (.aload_n 0, 1) := by decide +kernel
set_option maxRecDepth 100000 in
theorem d_40_100 : decode (mB 40) 100 = .ok (.getfield 11, 3) := by decide +kernel
set_option maxRecDepth 100000 in
theorem d_40_103 : decode (mB 40) 103 = .ok (.iload 7, 2) := by decide +kernel
set_option maxRecDepth 100000 in
theorem d_40_105 : decode (mB 40) 105 = .ok (.aaload, 1) := by decide +kernel
set_option maxRecDepth 100000 in
theorem d_40_106 : decode (mB 40) 106 = .ok (.aload_n 0, 1) := by decide +kernel
set_option maxRecDepth 100000 in
theorem d_40_107 : decode (mB 40) 107 = .ok (.getfield 16, 3) := by decide +kernel
set_option maxRecDepth 100000 in
theorem d_40_110 : decode (mB 40) 110 = .ok (.iload 7, 2) := by decide +kernel
set_option maxRecDepth 100000 in
theorem d_40_112 : decode (mB 40) 112 = .ok (.iconst 1, 1) := by decide +kernel
set_option maxRecDepth 100000 in
theorem d_40_113 : decode (mB 40) 113 = .ok (.isub, 1) := by decide +kernel
set_option maxRecDepth 100000 in
theorem d_40_114 : decode (mB 40) 114 = .ok (.aaload, 1) := by decide +kernel
set_option maxRecDepth 100000 in
theorem d_40_115 : decode (mB 40) 115 = .ok (.invokevirtual 49, 3) := by decide +kernel
set_option maxRecDepth 100000 in
theorem d_40_118 : decode (mB 40) 118 = .ok (.istore 6, 2) := by decide +kernel
set_option maxRecDepth 100000 in
theorem d_40_120 : decode (mB 40) 120 = .ok (.aload_n 0, 1) := by decide +kernel
set_option maxRecDepth 100000 in
theorem d_40_121 : decode (mB 40) 121 = .ok (.aload_n 1, 1) := by decide +kernel
set_option maxRecDepth 100000 in
theorem d_40_122 : decode (mB 40) 122 = .ok (.iload 7, 2) := by decide +kernel
set_option maxRecDepth 100000 in
theorem d_40_124 : decode (mB 40) 124 = .ok (.invokevirtual 33, 3) := by decide +kernel
set_option maxRecDepth 100000 in
theorem d_40_127 : decode (mB 40) 127 = .ok (.iinc 7 1, 3) := by decide +kernel
set_option maxRecDepth 100000 in
theorem d_40_130 : decode (mB 40) 130 = .ok (.goto (-96), 3) := by decide +kernel
set_option maxRecDepth 100000 in
theorem d_40_133 : decode (mB 40) 133 = .ok (.return_, 1) := by decide +kernel
