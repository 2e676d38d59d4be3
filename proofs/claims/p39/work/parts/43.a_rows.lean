set_option maxRecDepth 100000 in
theorem cd_45 : cdP 45 := ⟨okr (k := 363) rfl (by decide +kernel), by decide +kernel, by decide +kernel, okk_w (k := 37) (by decide +kernel)⟩
set_option maxRecDepth 100000 in
theorem fl_1_77 : flP "WhistleStop$Backward" 77 10 3 := ⟨_, rfl, by decide, okk_w (k := 609) (by decide +kernel)⟩
set_option maxRecDepth 100000 in
theorem fl_1_82 : flP "WhistleStop$Backward" 82 10 0 := ⟨_, rfl, by decide, okk_w (k := 597) (by decide +kernel)⟩
set_option maxRecDepth 100000 in
theorem fl_1_86 : flP "WhistleStop$Backward" 86 10 2 := ⟨_, rfl, by decide, okk_w (k := 604) (by decide +kernel)⟩
set_option maxRecDepth 100000 in
theorem c_44_90 : cvP 44 90 45 4 := ⟨cd_45, okk_w (k := 360) (by decide +kernel), okk_w (k := 362) (by decide +kernel), okk_w (k := 18) (by decide +kernel), by decide +kernel, by decide +kernel⟩
set_option maxRecDepth 100000 in
theorem d_44_0 : decode (mB 44) 0 = .ok (.iconst 0, 1) := by decide +kernel
set_option maxRecDepth 100000 in
theorem d_44_1 : decode (mB 44) 1 = .ok (.istore 4, 2) := by decide +kernel
set_option maxRecDepth 100000 in
theorem d_44_3 : decode (mB 44) 3 = .ok (.iconst 0, 1) := by decide +kernel
set_option maxRecDepth 100000 in
theorem d_44_4 : decode (mB 44) 4 = .ok (.istore 5, 2) := by decide +kernel
set_option maxRecDepth 100000 in
theorem d_44_6 : decode (mB 44) 6 = .ok (.iload 5, 2) := by decide +kernel
set_option maxRecDepth 100000 in
theorem d_44_8 : decode (mB 44) 8 = .ok (.aload_n 1, 1) := by decide +kernel
set_option maxRecDepth 100000 in
theorem d_44_9 : decode (mB 44) 9 = .ok (.getfield 77, 3) := by decide +kernel
set_option maxRecDepth 100000 in
theorem d_44_12 : decode (mB 44) 12 = .ok (.if_icmp .ge 44, 3) := by decide +kernel
set_option maxRecDepth 100000 in
theorem d_44_15 : decode (mB 44) 15 = .ok (.aload_n 0, 1) := by decide +kernel
set_option maxRecDepth 100000 in
theorem d_44_16 : decode (mB 44) 16 = .ok (.aload_n 1, 1) := by decide +kernel
set_option maxRecDepth 100000 in
theorem d_44_17 : decode (mB 44) 17 = .ok (.getfield 82, 3) := by decide +kernel
set_option maxRecDepth 100000 in
theorem d_44_20 : decode (mB 44) 20 = .ok (.iload 5, 2) := by decide +kernel
set_option maxRecDepth 100000 in
theorem d_44_22 : decode (mB 44) 22 = .ok (.aaload, 1) := by decide +kernel
set_option maxRecDepth 100000 in
theorem d_44_23 : decode (mB 44) 23 = .ok (.aload_n 1, 1) := by decide +kernel
set_option maxRecDepth 100000 in
theorem d_44_24 : decode (mB 44) 24 = .ok (.getfield 86, 3) := by decide +kernel
set_option maxRecDepth 100000 in
theorem d_44_27 : decode (mB 44) 27 = .ok (.iload 5, 2) := by decide +kernel
set_option maxRecDepth 100000 in
theorem d_44_29 : decode (mB 44) 29 = .ok (.iaload, 1) := by decide +kernel
set_option maxRecDepth 100000 in
theorem d_44_30 : decode (mB 44) 30 = .ok (.aload_n 2, 1) := by decide +kernel
set_option maxRecDepth 100000 in
theorem d_44_31 : decode (mB 44) 31 = .ok (.aload_n 3, 1) := by decide +kernel
set_option maxRecDepth 100000 in
theorem d_44_32 : decode (mB 44) 32 = .ok (.invokevirtual 90, 3) := by decide +kernel
set_option maxRecDepth 100000 in
theorem d_44_35 : decode (mB 44) 35 = .ok (.ifCond .ne 8, 3) := by decide +kernel
set_option maxRecDepth 100000 in
theorem d_44_38 : decode (mB 44) 38 = .ok (.iload 4, 2) := by decide +kernel
set_option maxRecDepth 100000 in
theorem d_44_40 : decode (mB 44) 40 = .ok (.ifCond .eq 7, 3) := by decide +kernel
set_option maxRecDepth 100000 in
theorem d_44_43 : decode (mB 44) 43 = .ok (.iconst 1, 1) := by decide +kernel
set_option maxRecDepth 100000 in
theorem d_44_44 : decode (mB 44) 44 = .ok (.goto 4, 3) := by decide +kernel
set_option maxRecDepth 100000 in
theorem d_44_47 : decode (mB 44) 47 = .ok (.iconst 0, 1) := by decide +kernel
set_option maxRecDepth 100000 in
theorem d_44_48 : decode (mB 44) 48 = .ok (.istore 4, 2) := by decide +kernel
set_option maxRecDepth 100000 in
theorem d_44_50 : decode (mB 44) 50 = .ok (.iinc 5 1, 3) := by decide +kernel
set_option maxRecDepth 100000 in
theorem d_44_53 : decode (mB 44) 53 = .ok (.goto (-47), 3) := by decide +kernel
set_option maxRecDepth 100000 in
theorem d_44_56 : decode (mB 44) 56 = .ok (.iload 4, 2) := by decide +kernel
set_option maxRecDepth 100000 in
theorem d_44_58 : decode (mB 44) 58 = .ok (.ireturn, 1) := by decide +kernel
set_option maxRecDepth 100000 in
theorem fl_1_94 : flP "WhistleStop$Backward" 94 11 7 := ⟨_, rfl, by decide, okk_w (k := 981) (by decide +kernel)⟩
set_option maxRecDepth 100000 in
theorem fl_1_97 : flP "WhistleStop$Backward" 97 11 3 := ⟨_, rfl, by decide, okk_w (k := 961) (by decide +kernel)⟩
set_option maxRecDepth 100000 in
theorem fl_1_100 : flP "WhistleStop$Backward" 100 11 5 := ⟨_, rfl, by decide, okk_w (k := 973) (by decide +kernel)⟩
set_option maxRecDepth 100000 in
theorem fl_1_103 : flP "WhistleStop$Backward" 103 11 4 := ⟨_, rfl, by decide, okk_w (k := 967) (by decide +kernel)⟩
set_option maxRecDepth 100000 in
theorem d_45_0 : decode (mB 45) 0 = .ok (.iconst 0, 1) := by decide +kernel
set_option maxRecDepth 100000 in
theorem d_45_1 : decode (mB 45) 1 = .ok (.istore 5, 2) := by decide +kernel
set_option maxRecDepth 100000 in
theorem d_45_3 : decode (mB 45) 3 = .ok (.iconst 0, 1) := by decide +kernel
set_option maxRecDepth 100000 in
theorem d_45_4 : decode (mB 45) 4 = .ok (.istore 6, 2) := by decide +kernel
set_option maxRecDepth 100000 in
theorem d_45_6 : decode (mB 45) 6 = .ok (.aload_n 1, 1) := by decide +kernel
set_option maxRecDepth 100000 in
theorem d_45_7 : decode (mB 45) 7 = .ok (.getfield 94, 3) := by decide +kernel
set_option maxRecDepth 100000 in
theorem d_45_10 : decode (mB 45) 10 = .ok (.iconst 1, 1) := by decide +kernel
set_option maxRecDepth 100000 in
theorem d_45_11 : decode (mB 45) 11 = .ok (.isub, 1) := by decide +kernel
set_option maxRecDepth 100000 in
theorem d_45_12 : decode (mB 45) 12 = .ok (.istore 7, 2) := by decide +kernel
set_option maxRecDepth 100000 in
theorem d_45_14 : decode (mB 45) 14 = .ok (.iload 7, 2) := by decide +kernel
set_option maxRecDepth 100000 in
theorem d_45_16 : decode (mB 45) 16 = .ok (.ifCond .lt 81, 3) := by decide +kernel
set_option maxRecDepth 100000 in
theorem d_45_19 : decode (mB 45) 19 = .ok (.aload_n 1, 1) := by decide +kernel
set_option maxRecDepth 100000 in
theorem d_45_20 : decode (mB 45) 20 = .ok (.getfield 97, 3) := by decide +kernel
set_option maxRecDepth 100000 in
theorem d_45_23 : decode (mB 45) 23 = .ok (.iload 7, 2) := by decide +kernel
set_option maxRecDepth 100000 in
theorem d_45_25 : decode (mB 45) 25 = .ok (.iaload, 1) := by decide +kernel
set_option maxRecDepth 100000 in
theorem d_45_26 : decode (mB 45) 26 = .ok (.istore 8, 2) := by decide +kernel
set_option maxRecDepth 100000 in
theorem d_45_28 : decode (mB 45) 28 = .ok (.iload_n 2, 1) := by decide +kernel
set_option maxRecDepth 100000 in
theorem d_45_29 : decode (mB 45) 29 = .ok (.aload_n 1, 1) := by decide +kernel
set_option maxRecDepth 100000 in
theorem d_45_30 : decode (mB 45) 30 = .ok (.getfield 100, 3) := by decide +kernel
set_option maxRecDepth 100000 in
theorem d_45_33 : decode (mB 45) 33 = .ok (.iload 7, 2) := by decide +kernel
set_option maxRecDepth 100000 in
theorem d_45_35 : decode (mB 45) 35 = .ok (.iaload, 1) := by decide +kernel
set_option maxRecDepth 100000 in
theorem d_45_36 : decode (mB 45) 36 = .ok (.iadd, 1) := by decide +kernel
set_option maxRecDepth 100000 in
theorem d_45_37 : decode (mB 45) 37 = .ok (.istore 9, 2) := by decide +kernel
set_option maxRecDepth 100000 in
theorem d_45_39 : decode (mB 45) 39 = .ok (.iload 6, 2) := by decide +kernel
set_option maxRecDepth 100000 in
theorem d_45_41 : decode (mB 45) 41 = .ok (.ifCond .eq 21, 3) := by decide +kernel
set_option maxRecDepth 100000 in
theorem d_45_44 : decode (mB 45) 44 = .ok (.iload 9, 2) := by decide +kernel
set_option maxRecDepth 100000 in
theorem d_45_46 : decode (mB 45) 46 = .ok (.aload_n 3, 1) := by decide +kernel
set_option maxRecDepth 100000 in
theorem d_45_47 : decode (mB 45) 47 = .ok (.iload 8, 2) := by decide +kernel
set_option maxRecDepth 100000 in
theorem d_45_49 : decode (mB 45) 49 = .ok (.iaload, 1) := by decide +kernel
set_option maxRecDepth 100000 in
theorem d_45_50 : decode (mB 45) 50 = .ok (.if_icmp .le 12, 3) := by decide +kernel
set_option maxRecDepth 100000 in
theorem d_45_53 : decode (mB 45) 53 = .ok (.aload_n 3, 1) := by decide +kernel
set_option maxRecDepth 100000 in
theorem d_45_54 : decode (mB 45) 54 = .ok (.iload 8, 2) := by decide +kernel
set_option maxRecDepth 100000 in
theorem d_45_56 : decode (mB 45) 56 = .ok (.iload 9, 2) := by decide +kernel
set_option maxRecDepth 100000 in
theorem d_45_58 : decode (mB 45) 58 = .ok (.iastore, 1) := by decide +kernel
set_option maxRecDepth 100000 in
theorem d_45_59 : decode (mB 45) 59 = .ok (.iconst 1, 1) := by decide +kernel
set_option maxRecDepth 100000 in
theorem d_45_60 : decode (mB 45) 60 = .ok (.istore 5, 2) := by decide +kernel
set_option maxRecDepth 100000 in
theorem d_45_62 : decode (mB 45) 62 = .ok (.iload 6, 2) := by decide +kernel
set_option maxRecDepth 100000 in
theorem d_45_64 : decode (mB 45) 64 = .ok (.ifCond .ne 20, 3) := by decide +kernel
set_option maxRecDepth 100000 in
theorem d_45_67 : decode (mB 45) 67 = .ok (.iload_n 2, 1) := by decide +kernel
set_option maxRecDepth 100000 in
theorem d_45_68 : decode (mB 45) 68 = .ok (.aload_n 1, 1) := by decide +kernel
set_option maxRecDepth 100000 in
theorem d_45_69 : decode (mB 45) 69 = .ok (.getfield 103, 3) := by decide +kernel
set_option maxRecDepth 100000 in
theorem d_45_72 : decode (mB 45) 72 = .ok (.iload 7, 2) := by decide +kernel
set_option maxRecDepth 100000 in
theorem d_45_74 : decode (mB 45) 74 = .ok (.iaload, 1) := by decide +kernel
set_option maxRecDepth 100000 in
theorem d_45_75 : decode (mB 45) 75 = .ok (.iadd, 1) := by decide +kernel
set_option maxRecDepth 100000 in
theorem d_45_76 : decode (mB 45) 76 = .ok (.aload 4, 2) := by decide +kernel
set_option maxRecDepth 100000 in
theorem d_45_78 : decode (mB 45) 78 = .ok (.iload 8, 2) := by decide +kernel
set_option maxRecDepth 100000 in
theorem d_45_80 : decode (mB 45) 80 = .ok (.iaload, 1) := by decide +kernel
set_option maxRecDepth 100000 in
theorem d_45_81 : decode (mB 45) 81 = .ok (.if_icmp .gt 7, 3) := by decide +kernel
set_option maxRecDepth 100000 in
theorem d_45_84 : decode (mB 45) 84 = .ok (.iconst 1, 1) := by decide +kernel
set_option maxRecDepth 100000 in
theorem d_45_85 : decode (mB 45) 85 = .ok (.goto 4, 3) := by decide +kernel
set_option maxRecDepth 100000 in
theorem d_45_88 : decode (mB 45) 88 = .ok (.iconst 0, 1) := by decide +kernel
set_option maxRecDepth 100000 in
theorem d_45_89 : decode (mB 45) 89 = .ok (.istore 6, 2) := by decide +kernel
set_option maxRecDepth 100000 in
theorem d_45_91 : decode (mB 45) 91 = .ok (.iinc 7 (-1), 3) := by decide +kernel
set_option maxRecDepth 100000 in
theorem d_45_94 : decode (mB 45) 94 = .ok (.goto (-80), 3) := by decide +kernel
set_option maxRecDepth 100000 in
theorem d_45_97 : decode (mB 45) 97 = .ok (.iload 5, 2) := by decide +kernel
set_option maxRecDepth 100000 in
theorem d_45_99 : decode (mB 45) 99 = .ok (.ireturn, 1) := by decide +kernel
