set_option maxRecDepth 100000 in
theorem cd_92 : cdP 92 := ⟨okr (k := 199) rfl (by decide +kernel), by decide +kernel, by decide +kernel, okk_w (k := 34) (by decide +kernel)⟩
set_option maxRecDepth 100000 in
theorem cd_94 : cdP 94 := ⟨okr (k := 185) rfl (by decide +kernel), by decide +kernel, by decide +kernel, okk_w (k := 50) (by decide +kernel)⟩
set_option maxRecDepth 100000 in
theorem cd_109 : cdP 109 := ⟨okr (k := 175) rfl (by decide +kernel), by decide +kernel, by decide +kernel, okk_w (k := 49) (by decide +kernel)⟩
set_option maxRecDepth 100000 in
theorem cd_110 : cdP 110 := ⟨okr (k := 178) rfl (by decide +kernel), by decide +kernel, by decide +kernel, okk_w (k := 49) (by decide +kernel)⟩
set_option maxRecDepth 100000 in
theorem c_91_28 : csP 91 28 109 2 := ⟨cd_109, okk_w (k := 173) (by decide +kernel), okk_w (k := 174) (by decide +kernel), by decide +kernel, by decide +kernel⟩
set_option maxRecDepth 100000 in
theorem c_91_34 : csP 91 34 110 2 := ⟨cd_110, okk_w (k := 176) (by decide +kernel), okk_w (k := 177) (by decide +kernel), by decide +kernel, by decide +kernel⟩
set_option maxRecDepth 100000 in
theorem c_91_37 : csP 91 37 111 2 := ⟨cd_111, okk_w (k := 179) (by decide +kernel), okk_w (k := 180) (by decide +kernel), by decide +kernel, by decide +kernel⟩
set_option maxRecDepth 100000 in
theorem fl_10_40 : flP "WhistleStop$Runs" 40 7 7 := ⟨_, rfl, by decide, okk_w (k := 570) (by decide +kernel)⟩
set_option maxRecDepth 100000 in
theorem fl_10_45 : flP "WhistleStop$Runs" 45 7 3 := ⟨_, rfl, by decide, okk_w (k := 559) (by decide +kernel)⟩
set_option maxRecDepth 100000 in
theorem fl_10_46 : flP "WhistleStop$Runs" 46 11 7 := ⟨_, rfl, by decide, okk_w (k := 979) (by decide +kernel)⟩
set_option maxRecDepth 100000 in
theorem c_91_47 : cvP 91 47 94 1 := ⟨cd_94, okk_w (k := 182) (by decide +kernel), okk_w (k := 183) (by decide +kernel), okk_w (k := 184) (by decide +kernel), by decide +kernel, by decide +kernel⟩
set_option maxRecDepth 100000 in
theorem c_91_51 : cvP 91 51 92 4 := ⟨cd_92, okk_w (k := 195) (by decide +kernel), okk_w (k := 197) (by decide +kernel), okk_w (k := 3) (by decide +kernel), by decide +kernel, by decide +kernel⟩
set_option maxRecDepth 100000 in
theorem d_91_0 : decode (mB 91) 0 = .ok (.aload_n 0, 1) := by decide +kernel
set_option maxRecDepth 100000 in
theorem d_91_1 : decode (mB 91) 1 = .ok (.iconst 0, 1) := by decide +kernel
set_option maxRecDepth 100000 in
theorem d_91_2 : decode (mB 91) 2 = .ok (.putfield 24, 3) := by decide +kernel
set_option maxRecDepth 100000 in
theorem d_91_5 : decode (mB 91) 5 = .ok (.iconst 0, 1) := by decide +kernel
set_option maxRecDepth 100000 in
theorem d_91_6 : decode (mB 91) 6 = .ok (.iload_n 2, 1) := by decide +kernel
set_option maxRecDepth 100000 in
theorem d_91_7 : decode (mB 91) 7 = .ok (.sipush 2879, 3) := by decide +kernel
set_option maxRecDepth 100000 in
theorem d_91_10 : decode (mB 91) 10 = .ok (.isub, 1) := by decide +kernel
set_option maxRecDepth 100000 in
theorem d_91_11 : decode (mB 91) 11 = .ok (.sipush 180, 3) := by decide +kernel
set_option maxRecDepth 100000 in
theorem d_91_14 : decode (mB 91) 14 = .ok (.isub, 1) := by decide +kernel
set_option maxRecDepth 100000 in
theorem d_91_15 : decode (mB 91) 15 = .ok (.sipush 1440, 3) := by decide +kernel
set_option maxRecDepth 100000 in
theorem d_91_18 : decode (mB 91) 18 = .ok (.invokestatic 28, 3) := by decide +kernel
set_option maxRecDepth 100000 in
theorem d_91_21 : decode (mB 91) 21 = .ok (.invokestatic 34, 3) := by decide +kernel
set_option maxRecDepth 100000 in
theorem d_91_24 : decode (mB 91) 24 = .ok (.istore 4, 2) := by decide +kernel
set_option maxRecDepth 100000 in
theorem d_91_26 : decode (mB 91) 26 = .ok (.sipush 365, 3) := by decide +kernel
set_option maxRecDepth 100000 in
theorem d_91_29 : decode (mB 91) 29 = .ok (.iload_n 3, 1) := by decide +kernel
set_option maxRecDepth 100000 in
theorem d_91_30 : decode (mB 91) 30 = .ok (.sipush 1440, 3) := by decide +kernel
set_option maxRecDepth 100000 in
theorem d_91_33 : decode (mB 91) 33 = .ok (.invokestatic 28, 3) := by decide +kernel
set_option maxRecDepth 100000 in
theorem d_91_36 : decode (mB 91) 36 = .ok (.invokestatic 37, 3) := by decide +kernel
set_option maxRecDepth 100000 in
theorem d_91_39 : decode (mB 91) 39 = .ok (.istore 5, 2) := by decide +kernel
set_option maxRecDepth 100000 in
theorem d_91_41 : decode (mB 91) 41 = .ok (.iconst 0, 1) := by decide +kernel
set_option maxRecDepth 100000 in
theorem d_91_42 : decode (mB 91) 42 = .ok (.istore 6, 2) := by decide +kernel
set_option maxRecDepth 100000 in
theorem d_91_44 : decode (mB 91) 44 = .ok (.iload 6, 2) := by decide +kernel
set_option maxRecDepth 100000 in
theorem d_91_46 : decode (mB 91) 46 = .ok (.aload_n 1, 1) := by decide +kernel
set_option maxRecDepth 100000 in
theorem d_91_47 : decode (mB 91) 47 = .ok (.getfield 40, 3) := by decide +kernel
set_option maxRecDepth 100000 in
theorem d_91_50 : decode (mB 91) 50 = .ok (.if_icmp .ge 64, 3) := by decide +kernel
set_option maxRecDepth 100000 in
theorem d_91_53 : decode (mB 91) 53 = .ok (.aload_n 1, 1) := by decide +kernel
set_option maxRecDepth 100000 in
theorem d_91_54 : decode (mB 91) 54 = .ok (.getfield 45, 3) := by decide +kernel
set_option maxRecDepth 100000 in
theorem d_91_57 : decode (mB 91) 57 = .ok (.iload 6, 2) := by decide +kernel
set_option maxRecDepth 100000 in
theorem d_91_59 : decode (mB 91) 59 = .ok (.aaload, 1) := by decide +kernel
set_option maxRecDepth 100000 in
theorem d_91_60 : decode (mB 91) 60 = .ok (.astore 7, 2) := by decide +kernel
set_option maxRecDepth 100000 in
theorem d_91_62 : decode (mB 91) 62 = .ok (.iload 4, 2) := by decide +kernel
set_option maxRecDepth 100000 in
theorem d_91_64 : decode (mB 91) 64 = .ok (.istore 8, 2) := by decide +kernel
set_option maxRecDepth 100000 in
theorem d_91_66 : decode (mB 91) 66 = .ok (.iload 8, 2) := by decide +kernel
set_option maxRecDepth 100000 in
theorem d_91_68 : decode (mB 91) 68 = .ok (.iload 5, 2) := by decide +kernel
set_option maxRecDepth 100000 in
theorem d_91_70 : decode (mB 91) 70 = .ok (.if_icmp .gt 38, 3) := by decide +kernel
set_option maxRecDepth 100000 in
theorem d_91_73 : decode (mB 91) 73 = .ok (.aload 7, 2) := by decide +kernel
set_option maxRecDepth 100000 in
theorem d_91_75 : decode (mB 91) 75 = .ok (.getfield 46, 3) := by decide +kernel
set_option maxRecDepth 100000 in
theorem d_91_78 : decode (mB 91) 78 = .ok (.iconst 1, 1) := by decide +kernel
set_option maxRecDepth 100000 in
theorem d_91_79 : decode (mB 91) 79 = .ok (.if_icmp .le 23, 3) := by decide +kernel
set_option maxRecDepth 100000 in
theorem d_91_82 : decode (mB 91) 82 = .ok (.aload 7, 2) := by decide +kernel
set_option maxRecDepth 100000 in
theorem d_91_84 : decode (mB 91) 84 = .ok (.iload 8, 2) := by decide +kernel
set_option maxRecDepth 100000 in
theorem d_91_86 : decode (mB 91) 86 = .ok (.invokevirtual 47, 3) := by decide +kernel
set_option maxRecDepth 100000 in
theorem d_91_89 : decode (mB 91) 89 = .ok (.ifCond .eq 13, 3) := by decide +kernel
set_option maxRecDepth 100000 in
theorem d_91_92 : decode (mB 91) 92 = .ok (.aload_n 0, 1) := by decide +kernel
set_option maxRecDepth 100000 in
theorem d_91_93 : decode (mB 91) 93 = .ok (.aload 7, 2) := by decide +kernel
set_option maxRecDepth 100000 in
theorem d_91_95 : decode (mB 91) 95 = .ok (.iload 8, 2) := by decide +kernel
set_option maxRecDepth 100000 in
theorem d_91_97 : decode (mB 91) 97 = .ok (.iload_n 2, 1) := by decide +kernel
set_option maxRecDepth 100000 in
theorem d_91_98 : decode (mB 91) 98 = .ok (.iload_n 3, 1) := by decide +kernel
set_option maxRecDepth 100000 in
theorem d_91_99 : decode (mB 91) 99 = .ok (.invokevirtual 51, 3) := by decide +kernel
set_option maxRecDepth 100000 in
theorem d_91_102 : decode (mB 91) 102 = .ok (.iinc 8 1, 3) := by decide +kernel
set_option maxRecDepth 100000 in
theorem d_91_105 : decode (mB 91) 105 = .ok (.goto (-39), 3) := by decide +kernel
set_option maxRecDepth 100000 in
theorem d_91_108 : decode (mB 91) 108 = .ok (.iinc 6 1, 3) := by decide +kernel
set_option maxRecDepth 100000 in
theorem d_91_111 : decode (mB 91) 111 = .ok (.goto (-67), 3) := by decide +kernel
set_option maxRecDepth 100000 in
theorem d_91_114 : decode (mB 91) 114 = .ok (.return_, 1) := by decide +kernel
