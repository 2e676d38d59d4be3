set_option maxRecDepth 100000 in
theorem cd_13 : cdP 13 := ⟨okr (k := 377) rfl (by decide +kernel), by decide +kernel, by decide +kernel, okk_w (k := 32) (by decide +kernel)⟩
set_option maxRecDepth 100000 in
theorem cd_99 : cdP 99 := ⟨okr (k := 525) rfl (by decide +kernel), by decide +kernel, by decide +kernel, okk_w (k := 31) (by decide +kernel)⟩
set_option maxRecDepth 100000 in
theorem cd_102 : cdP 102 := ⟨okr (k := 875) rfl (by decide +kernel), by decide +kernel, by decide +kernel, okk_w (k := 31) (by decide +kernel)⟩
set_option maxRecDepth 100000 in
theorem cl_13_9 : okw (.classLink "WhistleStopLaw" 9 "WhistleStopLaw$Table") := okk_w (k := 521) (by decide +kernel)
set_option maxRecDepth 100000 in
theorem c_108_11 : ciP 108 11 99 2 := ⟨cd_99, okk_w (k := 523) (by decide +kernel), okk_w (k := 524) (by decide +kernel), by decide +kernel, by decide +kernel, by decide +kernel⟩
set_option maxRecDepth 100000 in
theorem fl_13_14 : flP "WhistleStopLaw" 14 12 0 := ⟨_, rfl, by decide, okk_w (k := 795) (by decide +kernel)⟩
set_option maxRecDepth 100000 in
theorem c_108_18 : cvP 108 18 102 1 := ⟨cd_102, okk_w (k := 872) (by decide +kernel), okk_w (k := 873) (by decide +kernel), okk_w (k := 874) (by decide +kernel), by decide +kernel, by decide +kernel⟩
set_option maxRecDepth 100000 in
theorem c_108_26 : cvP 108 26 101 0 := ⟨cd_101, okk_w (k := 861) (by decide +kernel), okk_w (k := 862) (by decide +kernel), okk_w (k := 863) (by decide +kernel), by decide +kernel, by decide +kernel⟩
set_option maxRecDepth 100000 in
theorem c_108_30 : cvP 108 30 105 0 := ⟨cd_105, okk_w (k := 1015) (by decide +kernel), okk_w (k := 1016) (by decide +kernel), okk_w (k := 1017) (by decide +kernel), by decide +kernel, by decide +kernel⟩
set_option maxRecDepth 100000 in
theorem c_108_37 : cvP 108 37 13 3 := ⟨cd_13, okk_w (k := 374) (by decide +kernel), okk_w (k := 375) (by decide +kernel), okk_w (k := 376) (by decide +kernel), by decide +kernel, by decide +kernel⟩
set_option maxRecDepth 100000 in
theorem d_108_0 : decode (mB 108) 0 = .ok (.iconst 0, 1) := by decide +kernel
set_option maxRecDepth 100000 in
theorem d_108_1 : decode (mB 108) 1 = .ok (.istore_n 1, 1) := by decide +kernel
set_option maxRecDepth 100000 in
theorem d_108_2 : decode (mB 108) 2 = .ok (.iload_n 1, 1) := by decide +kernel
set_option maxRecDepth 100000 in
theorem d_108_3 : decode (mB 108) 3 = .ok (.iconst 3, 1) := by decide +kernel
set_option maxRecDepth 100000 in
theorem d_108_4 : decode (mB 108) 4 = .ok (.if_icmp .ge 785, 3) := by decide +kernel
set_option maxRecDepth 100000 in
theorem d_108_7 : decode (mB 108) 7 = .ok (.new 9, 3) := by decide +kernel
set_option maxRecDepth 100000 in
theorem d_108_10 : decode (mB 108) 10 = .ok (.dup, 1) := by decide +kernel
set_option maxRecDepth 100000 in
theorem d_108_11 : decode (mB 108) 11 = .ok (.aload_n 0, 1) := by decide +kernel
set_option maxRecDepth 100000 in
theorem d_108_12 : decode (mB 108) 12 = .ok (.bipush 37, 2) := by decide +kernel
set_option maxRecDepth 100000 in
theorem d_108_14 : decode (mB 108) 14 = .ok (.iload_n 1, 1) := by decide +kernel
set_option maxRecDepth 100000 in
theorem d_108_15 : decode (mB 108) 15 = .ok (.imul, 1) := by decide +kernel
set_option maxRecDepth 100000 in
theorem d_108_16 : decode (mB 108) 16 = .ok (.bipush 9, 2) := by decide +kernel
set_option maxRecDepth 100000 in
theorem d_108_18 : decode (mB 108) 18 = .ok (.iadd, 1) := by decide +kernel
set_option maxRecDepth 100000 in
theorem d_108_19 : decode (mB 108) 19 = .ok (.invokespecial 11, 3) := by decide +kernel
set_option maxRecDepth 100000 in
theorem d_108_22 : decode (mB 108) 22 = .ok (.astore_n 2, 1) := by decide +kernel
set_option maxRecDepth 100000 in
theorem d_108_23 : decode (mB 108) 23 = .ok (.aload_n 2, 1) := by decide +kernel
set_option maxRecDepth 100000 in
theorem d_108_24 : decode (mB 108) 24 = .ok (.getfield 14, 3) := by decide +kernel
set_option maxRecDepth 100000 in
theorem d_108_27 : decode (mB 108) 27 = .ok (.astore_n 3, 1) := by decide +kernel
set_option maxRecDepth 100000 in
theorem d_108_28 : decode (mB 108) 28 = .ok (.aload_n 2, 1) := by decide +kernel
set_option maxRecDepth 100000 in
theorem d_108_29 : decode (mB 108) 29 = .ok (.bipush 7, 2) := by decide +kernel
set_option maxRecDepth 100000 in
theorem d_108_31 : decode (mB 108) 31 = .ok (.invokevirtual 18, 3) := by decide +kernel
set_option maxRecDepth 100000 in
theorem d_108_34 : decode (mB 108) 34 = .ok (.ifCond .ne 5, 3) := by decide +kernel
set_option maxRecDepth 100000 in
theorem d_108_39 : decode (mB 108) 39 = .ok (.iconst 0, 1) := by decide +kernel
set_option maxRecDepth 100000 in
theorem d_108_40 : decode (mB 108) 40 = .ok (.istore 4, 2) := by decide +kernel
set_option maxRecDepth 100000 in
theorem d_108_42 : decode (mB 108) 42 = .ok (.iload 4, 2) := by decide +kernel
set_option maxRecDepth 100000 in
theorem d_108_44 : decode (mB 108) 44 = .ok (.iconst 5, 1) := by decide +kernel
set_option maxRecDepth 100000 in
theorem d_108_45 : decode (mB 108) 45 = .ok (.if_icmp .ge 738, 3) := by decide +kernel
set_option maxRecDepth 100000 in
theorem d_108_48 : decode (mB 108) 48 = .ok (.iload 4, 2) := by decide +kernel
set_option maxRecDepth 100000 in
theorem d_108_50 : decode (mB 108) 50 = .ok (.ifCond .le 30, 3) := by decide +kernel
set_option maxRecDepth 100000 in
theorem d_108_53 : decode (mB 108) 53 = .ok (.aload_n 2, 1) := by decide +kernel
set_option maxRecDepth 100000 in
theorem d_108_54 : decode (mB 108) 54 = .ok (.iconst 3, 1) := by decide +kernel
set_option maxRecDepth 100000 in
theorem d_108_55 : decode (mB 108) 55 = .ok (.invokevirtual 22, 3) := by decide +kernel
set_option maxRecDepth 100000 in
theorem d_108_58 : decode (mB 108) 58 = .ok (.ifCond .ne 13, 3) := by decide +kernel
set_option maxRecDepth 100000 in
theorem d_108_61 : decode (mB 108) 61 = .ok (.aload_n 2, 1) := by decide +kernel
set_option maxRecDepth 100000 in
theorem d_108_62 : decode (mB 108) 62 = .ok (.invokevirtual 26, 3) := by decide +kernel
set_option maxRecDepth 100000 in
theorem d_108_65 : decode (mB 108) 65 = .ok (.ifCond .eq 13, 3) := by decide +kernel
set_option maxRecDepth 100000 in
theorem d_108_68 : decode (mB 108) 68 = .ok (.goto 12, 3) := by decide +kernel
set_option maxRecDepth 100000 in
theorem d_108_71 : decode (mB 108) 71 = .ok (.aload_n 2, 1) := by decide +kernel
set_option maxRecDepth 100000 in
theorem d_108_72 : decode (mB 108) 72 = .ok (.invokevirtual 30, 3) := by decide +kernel
set_option maxRecDepth 100000 in
theorem d_108_75 : decode (mB 108) 75 = .ok (.ifCond .ne 5, 3) := by decide +kernel
set_option maxRecDepth 100000 in
theorem d_108_80 : decode (mB 108) 80 = .ok (.aload_n 2, 1) := by decide +kernel
set_option maxRecDepth 100000 in
theorem d_108_81 : decode (mB 108) 81 = .ok (.aload_n 2, 1) := by decide +kernel
set_option maxRecDepth 100000 in
theorem d_108_82 : decode (mB 108) 82 = .ok (.getfield 33, 3) := by decide +kernel
set_option maxRecDepth 100000 in
theorem d_108_85 : decode (mB 108) 85 = .ok (.invokevirtual 22, 3) := by decide +kernel
set_option maxRecDepth 100000 in
theorem d_108_88 : decode (mB 108) 88 = .ok (.istore 5, 2) := by decide +kernel
set_option maxRecDepth 100000 in
theorem d_108_90 : decode (mB 108) 90 = .ok (.aload_n 2, 1) := by decide +kernel
set_option maxRecDepth 100000 in
theorem d_108_91 : decode (mB 108) 91 = .ok (.aload_n 2, 1) := by decide +kernel
set_option maxRecDepth 100000 in
theorem d_108_92 : decode (mB 108) 92 = .ok (.getfield 33, 3) := by decide +kernel
set_option maxRecDepth 100000 in
theorem d_108_95 : decode (mB 108) 95 = .ok (.invokevirtual 22, 3) := by decide +kernel
set_option maxRecDepth 100000 in
theorem d_108_98 : decode (mB 108) 98 = .ok (.istore 6, 2) := by decide +kernel
set_option maxRecDepth 100000 in
theorem d_108_100 : decode (mB 108) 100 = .ok (.aload_n 2, 1) := by decide +kernel
set_option maxRecDepth 100000 in
theorem d_108_101 : decode (mB 108) 101 = .ok (.sipush 7000, 3) := by decide +kernel
set_option maxRecDepth 100000 in
theorem d_108_104 : decode (mB 108) 104 = .ok (.invokevirtual 22, 3) := by decide +kernel
set_option maxRecDepth 100000 in
theorem d_108_107 : decode (mB 108) 107 = .ok (.istore 7, 2) := by decide +kernel
set_option maxRecDepth 100000 in
theorem d_108_109 : decode (mB 108) 109 = .ok (.aload_n 3, 1) := by decide +kernel
set_option maxRecDepth 100000 in
theorem d_108_110 : decode (mB 108) 110 = .ok (.iload 5, 2) := by decide +kernel
set_option maxRecDepth 100000 in
theorem d_108_112 : decode (mB 108) 112 = .ok (.iload 6, 2) := by decide +kernel
set_option maxRecDepth 100000 in
theorem d_108_114 : decode (mB 108) 114 = .ok (.iload 7, 2) := by decide +kernel
set_option maxRecDepth 100000 in
theorem d_108_116 : decode (mB 108) 116 = .ok (.invokevirtual 37, 3) := by decide +kernel
set_option maxRecDepth 100000 in
theorem d_108_119 : decode (mB 108) 119 = .ok (.istore 8, 2) := by decide +kernel
set_option maxRecDepth 100000 in
theorem d_108_121 : decode (mB 108) 121 = .ok (.aload_n 3, 1) := by decide +kernel
set_option maxRecDepth 100000 in
theorem d_108_122 : decode (mB 108) 122 = .ok (.invokevirtual 43, 3) := by decide +kernel
set_option maxRecDepth 100000 in
theorem d_108_125 : decode (mB 108) 125 = .ok (.lstore 9, 2) := by decide +kernel
set_option maxRecDepth 100000 in
theorem d_108_127 : decode (mB 108) 127 = .ok (.iconst (-1), 1) := by decide +kernel
set_option maxRecDepth 100000 in
theorem d_108_128 : decode (mB 108) 128 = .ok (.istore 11, 2) := by decide +kernel
set_option maxRecDepth 100000 in
theorem d_108_130 : decode (mB 108) 130 = .ok (.iconst 0, 1) := by decide +kernel
set_option maxRecDepth 100000 in
theorem d_108_131 : decode (mB 108) 131 = .ok (.istore 12, 2) := by decide +kernel
set_option maxRecDepth 100000 in
theorem d_108_392 : decode (mB 108) 392 = .ok (.iconst 0, 1) := by decide +kernel
set_option maxRecDepth 100000 in
theorem d_108_393 : decode (mB 108) 393 = .ok (.istore 16, 2) := by decide +kernel
set_option maxRecDepth 100000 in
theorem d_108_395 : decode (mB 108) 395 = .ok (.iconst 0, 1) := by decide +kernel
set_option maxRecDepth 100000 in
theorem d_108_396 : decode (mB 108) 396 = .ok (.istore 17, 2) := by decide +kernel
set_option maxRecDepth 100000 in
theorem d_108_563 : decode (mB 108) 563 = .ok (.iload 7, 2) := by decide +kernel
set_option maxRecDepth 100000 in
theorem d_108_565 : decode (mB 108) 565 = .ok (.istore 19, 2) := by decide +kernel
set_option maxRecDepth 100000 in
theorem d_108_567 : decode (mB 108) 567 = .ok (.iconst 0, 1) := by decide +kernel
set_option maxRecDepth 100000 in
theorem d_108_568 : decode (mB 108) 568 = .ok (.istore 20, 2) := by decide +kernel
set_option maxRecDepth 100000 in
theorem d_108_570 : decode (mB 108) 570 = .ok (.iconst 0, 1) := by decide +kernel
set_option maxRecDepth 100000 in
theorem d_108_571 : decode (mB 108) 571 = .ok (.istore 21, 2) := by decide +kernel
set_option maxRecDepth 100000 in
theorem d_108_783 : decode (mB 108) 783 = .ok (.iinc 1 1, 3) := by decide +kernel
set_option maxRecDepth 100000 in
theorem d_108_786 : decode (mB 108) 786 = .ok (.goto (-784), 3) := by decide +kernel
set_option maxRecDepth 100000 in
theorem d_108_789 : decode (mB 108) 789 = .ok (.iconst 1, 1) := by decide +kernel
set_option maxRecDepth 100000 in
theorem d_108_790 : decode (mB 108) 790 = .ok (.ireturn, 1) := by decide +kernel
