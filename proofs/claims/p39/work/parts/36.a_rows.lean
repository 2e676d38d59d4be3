set_option maxRecDepth 100000 in
theorem cd_95 : cdP 95 := ⟨okr (k := 203) rfl (by decide +kernel), by decide +kernel, by decide +kernel, okk_w (k := 50) (by decide +kernel)⟩
set_option maxRecDepth 100000 in
theorem cd_96 : cdP 96 := ⟨okr (k := 208) rfl (by decide +kernel), by decide +kernel, by decide +kernel, okk_w (k := 50) (by decide +kernel)⟩
set_option maxRecDepth 100000 in
theorem fl_10_24 : flP "WhistleStop$Runs" 24 10 3 := ⟨_, rfl, by decide, okk_w (k := 607) (by decide +kernel)⟩
set_option maxRecDepth 100000 in
theorem c_92_55 : cvP 92 55 95 1 := ⟨cd_95, okk_w (k := 200) (by decide +kernel), okk_w (k := 201) (by decide +kernel), okk_w (k := 202) (by decide +kernel), by decide +kernel, by decide +kernel⟩
set_option maxRecDepth 100000 in
theorem fl_10_59 : flP "WhistleStop$Runs" 59 11 5 := ⟨_, rfl, by decide, okk_w (k := 971) (by decide +kernel)⟩
set_option maxRecDepth 100000 in
theorem c_92_62 : cvP 92 62 96 0 := ⟨cd_96, okk_w (k := 205) (by decide +kernel), okk_w (k := 206) (by decide +kernel), okk_w (k := 207) (by decide +kernel), by decide +kernel, by decide +kernel⟩
set_option maxRecDepth 100000 in
theorem d_92_0 : decode (mB 92) 0 = .ok (.aload_n 1, 1) := by decide +kernel
set_option maxRecDepth 100000 in
theorem d_92_1 : decode (mB 92) 1 = .ok (.iload_n 2, 1) := by decide +kernel
set_option maxRecDepth 100000 in
theorem d_92_2 : decode (mB 92) 2 = .ok (.invokevirtual 55, 3) := by decide +kernel
set_option maxRecDepth 100000 in
theorem d_92_5 : decode (mB 92) 5 = .ok (.istore 5, 2) := by decide +kernel
set_option maxRecDepth 100000 in
theorem d_92_7 : decode (mB 92) 7 = .ok (.iload 5, 2) := by decide +kernel
set_option maxRecDepth 100000 in
theorem d_92_9 : decode (mB 92) 9 = .ok (.aload_n 1, 1) := by decide +kernel
set_option maxRecDepth 100000 in
theorem d_92_10 : decode (mB 92) 10 = .ok (.getfield 59, 3) := by decide +kernel
set_option maxRecDepth 100000 in
theorem d_92_13 : decode (mB 92) 13 = .ok (.iconst 0, 1) := by decide +kernel
set_option maxRecDepth 100000 in
theorem d_92_14 : decode (mB 92) 14 = .ok (.iaload, 1) := by decide +kernel
set_option maxRecDepth 100000 in
theorem d_92_15 : decode (mB 92) 15 = .ok (.iadd, 1) := by decide +kernel
set_option maxRecDepth 100000 in
theorem d_92_16 : decode (mB 92) 16 = .ok (.iload 4, 2) := by decide +kernel
set_option maxRecDepth 100000 in
theorem d_92_18 : decode (mB 92) 18 = .ok (.if_icmp .gt 18, 3) := by decide +kernel
set_option maxRecDepth 100000 in
theorem d_92_21 : decode (mB 92) 21 = .ok (.iload 5, 2) := by decide +kernel
set_option maxRecDepth 100000 in
theorem d_92_23 : decode (mB 92) 23 = .ok (.aload_n 1, 1) := by decide +kernel
set_option maxRecDepth 100000 in
theorem d_92_24 : decode (mB 92) 24 = .ok (.invokevirtual 62, 3) := by decide +kernel
set_option maxRecDepth 100000 in
theorem d_92_27 : decode (mB 92) 27 = .ok (.iadd, 1) := by decide +kernel
set_option maxRecDepth 100000 in
theorem d_92_28 : decode (mB 92) 28 = .ok (.iload_n 3, 1) := by decide +kernel
set_option maxRecDepth 100000 in
theorem d_92_29 : decode (mB 92) 29 = .ok (.if_icmp .lt 7, 3) := by decide +kernel
set_option maxRecDepth 100000 in
theorem d_92_32 : decode (mB 92) 32 = .ok (.iconst 1, 1) := by decide +kernel
set_option maxRecDepth 100000 in
theorem d_92_33 : decode (mB 92) 33 = .ok (.goto 4, 3) := by decide +kernel
set_option maxRecDepth 100000 in
theorem d_92_36 : decode (mB 92) 36 = .ok (.iconst 0, 1) := by decide +kernel
set_option maxRecDepth 100000 in
theorem d_92_37 : decode (mB 92) 37 = .ok (.istore 6, 2) := by decide +kernel
set_option maxRecDepth 100000 in
theorem d_92_39 : decode (mB 92) 39 = .ok (.iload 6, 2) := by decide +kernel
set_option maxRecDepth 100000 in
theorem d_92_41 : decode (mB 92) 41 = .ok (.ifCond .eq 54, 3) := by decide +kernel
set_option maxRecDepth 100000 in
theorem d_92_44 : decode (mB 92) 44 = .ok (.aload_n 0, 1) := by decide +kernel
set_option maxRecDepth 100000 in
theorem d_92_45 : decode (mB 92) 45 = .ok (.getfield 24, 3) := by decide +kernel
set_option maxRecDepth 100000 in
theorem d_92_48 : decode (mB 92) 48 = .ok (.sipush 192, 3) := by decide +kernel
set_option maxRecDepth 100000 in
theorem d_92_51 : decode (mB 92) 51 = .ok (.if_icmp .ge 44, 3) := by decide +kernel
set_option maxRecDepth 100000 in
theorem d_92_54 : decode (mB 92) 54 = .ok (.aload_n 0, 1) := by decide +kernel
set_option maxRecDepth 100000 in
theorem d_92_55 : decode (mB 92) 55 = .ok (.getfield 11, 3) := by decide +kernel
set_option maxRecDepth 100000 in
theorem d_92_58 : decode (mB 92) 58 = .ok (.aload_n 0, 1) := by decide +kernel
set_option maxRecDepth 100000 in
theorem d_92_59 : decode (mB 92) 59 = .ok (.getfield 24, 3) := by decide +kernel
set_option maxRecDepth 100000 in
theorem d_92_62 : decode (mB 92) 62 = .ok (.aload_n 1, 1) := by decide +kernel
set_option maxRecDepth 100000 in
theorem d_92_63 : decode (mB 92) 63 = .ok (.aastore, 1) := by decide +kernel
set_option maxRecDepth 100000 in
theorem d_92_64 : decode (mB 92) 64 = .ok (.aload_n 0, 1) := by decide +kernel
set_option maxRecDepth 100000 in
theorem d_92_65 : decode (mB 92) 65 = .ok (.getfield 17, 3) := by decide +kernel
set_option maxRecDepth 100000 in
theorem d_92_68 : decode (mB 92) 68 = .ok (.aload_n 0, 1) := by decide +kernel
set_option maxRecDepth 100000 in
theorem d_92_69 : decode (mB 92) 69 = .ok (.getfield 24, 3) := by decide +kernel
set_option maxRecDepth 100000 in
theorem d_92_72 : decode (mB 92) 72 = .ok (.iload_n 2, 1) := by decide +kernel
set_option maxRecDepth 100000 in
theorem d_92_73 : decode (mB 92) 73 = .ok (.iastore, 1) := by decide +kernel
set_option maxRecDepth 100000 in
theorem d_92_74 : decode (mB 92) 74 = .ok (.aload_n 0, 1) := by decide +kernel
set_option maxRecDepth 100000 in
theorem d_92_75 : decode (mB 92) 75 = .ok (.getfield 21, 3) := by decide +kernel
set_option maxRecDepth 100000 in
theorem d_92_78 : decode (mB 92) 78 = .ok (.aload_n 0, 1) := by decide +kernel
set_option maxRecDepth 100000 in
theorem d_92_79 : decode (mB 92) 79 = .ok (.getfield 24, 3) := by decide +kernel
set_option maxRecDepth 100000 in
theorem d_92_82 : decode (mB 92) 82 = .ok (.iload 5, 2) := by decide +kernel
set_option maxRecDepth 100000 in
theorem d_92_84 : decode (mB 92) 84 = .ok (.iastore, 1) := by decide +kernel
set_option maxRecDepth 100000 in
theorem d_92_85 : decode (mB 92) 85 = .ok (.aload_n 0, 1) := by decide +kernel
set_option maxRecDepth 100000 in
theorem d_92_86 : decode (mB 92) 86 = .ok (.dup, 1) := by decide +kernel
set_option maxRecDepth 100000 in
theorem d_92_87 : decode (mB 92) 87 = .ok (.getfield 24, 3) := by decide +kernel
set_option maxRecDepth 100000 in
theorem d_92_90 : decode (mB 92) 90 = .ok (.iconst 1, 1) := by decide +kernel
set_option maxRecDepth 100000 in
theorem d_92_91 : decode (mB 92) 91 = .ok (.iadd, 1) := by decide +kernel
set_option maxRecDepth 100000 in
theorem d_92_92 : decode (mB 92) 92 = .ok (.putfield 24, 3) := by decide +kernel
set_option maxRecDepth 100000 in
theorem d_92_95 : decode (mB 92) 95 = .ok (.return_, 1) := by decide +kernel
