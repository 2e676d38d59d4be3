set_option maxRecDepth 100000 in
theorem fl_9_79 : flP "WhistleStop$Onward" 79 11 7 := ⟨_, rfl, by decide, okk_w (k := 983) (by decide +kernel)⟩
set_option maxRecDepth 100000 in
theorem fl_9_82 : flP "WhistleStop$Onward" 82 11 3 := ⟨_, rfl, by decide, okk_w (k := 963) (by decide +kernel)⟩
set_option maxRecDepth 100000 in
theorem fl_9_85 : flP "WhistleStop$Onward" 85 11 4 := ⟨_, rfl, by decide, okk_w (k := 969) (by decide +kernel)⟩
set_option maxRecDepth 100000 in
theorem fl_9_88 : flP "WhistleStop$Onward" 88 11 5 := ⟨_, rfl, by decide, okk_w (k := 975) (by decide +kernel)⟩
set_option maxRecDepth 100000 in
theorem d_85_0 : decode (mB 85) 0 = .ok (.iconst 0, 1) := by decide +kernel
set_option maxRecDepth 100000 in
theorem d_85_1 : decode (mB 85) 1 = .ok (.istore 4, 2) := by decide +kernel
set_option maxRecDepth 100000 in
theorem d_85_3 : decode (mB 85) 3 = .ok (.iconst 0, 1) := by decide +kernel
set_option maxRecDepth 100000 in
theorem d_85_4 : decode (mB 85) 4 = .ok (.istore 5, 2) := by decide +kernel
set_option maxRecDepth 100000 in
theorem d_85_6 : decode (mB 85) 6 = .ok (.iconst 0, 1) := by decide +kernel
set_option maxRecDepth 100000 in
theorem d_85_7 : decode (mB 85) 7 = .ok (.istore 6, 2) := by decide +kernel
set_option maxRecDepth 100000 in
theorem d_85_9 : decode (mB 85) 9 = .ok (.iload 6, 2) := by decide +kernel
set_option maxRecDepth 100000 in
theorem d_85_11 : decode (mB 85) 11 = .ok (.aload_n 1, 1) := by decide +kernel
set_option maxRecDepth 100000 in
theorem d_85_12 : decode (mB 85) 12 = .ok (.getfield 79, 3) := by decide +kernel
set_option maxRecDepth 100000 in
theorem d_85_15 : decode (mB 85) 15 = .ok (.if_icmp .ge 98, 3) := by decide +kernel
set_option maxRecDepth 100000 in
theorem d_85_18 : decode (mB 85) 18 = .ok (.aload_n 1, 1) := by decide +kernel
set_option maxRecDepth 100000 in
theorem d_85_19 : decode (mB 85) 19 = .ok (.getfield 82, 3) := by decide +kernel
set_option maxRecDepth 100000 in
theorem d_85_22 : decode (mB 85) 22 = .ok (.iload 6, 2) := by decide +kernel
set_option maxRecDepth 100000 in
theorem d_85_24 : decode (mB 85) 24 = .ok (.iaload, 1) := by decide +kernel
set_option maxRecDepth 100000 in
theorem d_85_25 : decode (mB 85) 25 = .ok (.istore 7, 2) := by decide +kernel
set_option maxRecDepth 100000 in
theorem d_85_27 : decode (mB 85) 27 = .ok (.iload_n 2, 1) := by decide +kernel
set_option maxRecDepth 100000 in
theorem d_85_28 : decode (mB 85) 28 = .ok (.aload_n 1, 1) := by decide +kernel
set_option maxRecDepth 100000 in
theorem d_85_29 : decode (mB 85) 29 = .ok (.getfield 85, 3) := by decide +kernel
set_option maxRecDepth 100000 in
theorem d_85_32 : decode (mB 85) 32 = .ok (.iload 6, 2) := by decide +kernel
set_option maxRecDepth 100000 in
theorem d_85_34 : decode (mB 85) 34 = .ok (.iaload, 1) := by decide +kernel
set_option maxRecDepth 100000 in
theorem d_85_35 : decode (mB 85) 35 = .ok (.iadd, 1) := by decide +kernel
set_option maxRecDepth 100000 in
theorem d_85_36 : decode (mB 85) 36 = .ok (.istore 8, 2) := by decide +kernel
set_option maxRecDepth 100000 in
theorem d_85_38 : decode (mB 85) 38 = .ok (.iload 8, 2) := by decide +kernel
set_option maxRecDepth 100000 in
theorem d_85_40 : decode (mB 85) 40 = .ok (.aload_n 0, 1) := by decide +kernel
set_option maxRecDepth 100000 in
theorem d_85_41 : decode (mB 85) 41 = .ok (.getfield 28, 3) := by decide +kernel
set_option maxRecDepth 100000 in
theorem d_85_44 : decode (mB 85) 44 = .ok (.if_icmp .le 6, 3) := by decide +kernel
set_option maxRecDepth 100000 in
theorem d_85_47 : decode (mB 85) 47 = .ok (.goto 66, 3) := by decide +kernel
set_option maxRecDepth 100000 in
theorem d_85_50 : decode (mB 85) 50 = .ok (.iload 5, 2) := by decide +kernel
set_option maxRecDepth 100000 in
theorem d_85_52 : decode (mB 85) 52 = .ok (.ifCond .eq 27, 3) := by decide +kernel
set_option maxRecDepth 100000 in
theorem d_85_55 : decode (mB 85) 55 = .ok (.iload 8, 2) := by decide +kernel
set_option maxRecDepth 100000 in
theorem d_85_57 : decode (mB 85) 57 = .ok (.aload_n 0, 1) := by decide +kernel
set_option maxRecDepth 100000 in
theorem d_85_58 : decode (mB 85) 58 = .ok (.getfield 19, 3) := by decide +kernel
set_option maxRecDepth 100000 in
theorem d_85_61 : decode (mB 85) 61 = .ok (.iload 7, 2) := by decide +kernel
set_option maxRecDepth 100000 in
theorem d_85_63 : decode (mB 85) 63 = .ok (.iaload, 1) := by decide +kernel
set_option maxRecDepth 100000 in
theorem d_85_64 : decode (mB 85) 64 = .ok (.if_icmp .ge 15, 3) := by decide +kernel
set_option maxRecDepth 100000 in
theorem d_85_67 : decode (mB 85) 67 = .ok (.aload_n 0, 1) := by decide +kernel
set_option maxRecDepth 100000 in
theorem d_85_68 : decode (mB 85) 68 = .ok (.getfield 19, 3) := by decide +kernel
set_option maxRecDepth 100000 in
theorem d_85_71 : decode (mB 85) 71 = .ok (.iload 7, 2) := by decide +kernel
set_option maxRecDepth 100000 in
theorem d_85_73 : decode (mB 85) 73 = .ok (.iload 8, 2) := by decide +kernel
set_option maxRecDepth 100000 in
theorem d_85_75 : decode (mB 85) 75 = .ok (.iastore, 1) := by decide +kernel
set_option maxRecDepth 100000 in
theorem d_85_76 : decode (mB 85) 76 = .ok (.iconst 1, 1) := by decide +kernel
set_option maxRecDepth 100000 in
theorem d_85_77 : decode (mB 85) 77 = .ok (.istore 4, 2) := by decide +kernel
set_option maxRecDepth 100000 in
theorem d_85_79 : decode (mB 85) 79 = .ok (.iload 5, 2) := by decide +kernel
set_option maxRecDepth 100000 in
theorem d_85_81 : decode (mB 85) 81 = .ok (.ifCond .ne 19, 3) := by decide +kernel
set_option maxRecDepth 100000 in
theorem d_85_84 : decode (mB 85) 84 = .ok (.iload_n 2, 1) := by decide +kernel
set_option maxRecDepth 100000 in
theorem d_85_85 : decode (mB 85) 85 = .ok (.aload_n 1, 1) := by decide +kernel
set_option maxRecDepth 100000 in
theorem d_85_86 : decode (mB 85) 86 = .ok (.getfield 88, 3) := by decide +kernel
set_option maxRecDepth 100000 in
theorem d_85_89 : decode (mB 85) 89 = .ok (.iload 6, 2) := by decide +kernel
set_option maxRecDepth 100000 in
theorem d_85_91 : decode (mB 85) 91 = .ok (.iaload, 1) := by decide +kernel
set_option maxRecDepth 100000 in
theorem d_85_92 : decode (mB 85) 92 = .ok (.iadd, 1) := by decide +kernel
set_option maxRecDepth 100000 in
theorem d_85_93 : decode (mB 85) 93 = .ok (.aload_n 3, 1) := by decide +kernel
set_option maxRecDepth 100000 in
theorem d_85_94 : decode (mB 85) 94 = .ok (.iload 7, 2) := by decide +kernel
set_option maxRecDepth 100000 in
theorem d_85_96 : decode (mB 85) 96 = .ok (.iaload, 1) := by decide +kernel
set_option maxRecDepth 100000 in
theorem d_85_97 : decode (mB 85) 97 = .ok (.if_icmp .lt 7, 3) := by decide +kernel
set_option maxRecDepth 100000 in
theorem d_85_100 : decode (mB 85) 100 = .ok (.iconst 1, 1) := by decide +kernel
set_option maxRecDepth 100000 in
theorem d_85_101 : decode (mB 85) 101 = .ok (.goto 4, 3) := by decide +kernel
set_option maxRecDepth 100000 in
theorem d_85_104 : decode (mB 85) 104 = .ok (.iconst 0, 1) := by decide +kernel
set_option maxRecDepth 100000 in
theorem d_85_105 : decode (mB 85) 105 = .ok (.istore 5, 2) := by decide +kernel
set_option maxRecDepth 100000 in
theorem d_85_107 : decode (mB 85) 107 = .ok (.iinc 6 1, 3) := by decide +kernel
set_option maxRecDepth 100000 in
theorem d_85_110 : decode (mB 85) 110 = .ok (.goto (-101), 3) := by decide +kernel
set_option maxRecDepth 100000 in
theorem d_85_113 : decode (mB 85) 113 = .ok (.iload 4, 2) := by decide +kernel
set_option maxRecDepth 100000 in
theorem d_85_115 : decode (mB 85) 115 = .ok (.ireturn, 1) := by decide +kernel
