set_option maxRecDepth 100000 in
theorem cd_42 : cdP 42 := ⟨okr (k := 348) rfl (by decide +kernel), by decide +kernel, by decide +kernel, okk_w (k := 37) (by decide +kernel)⟩
set_option maxRecDepth 100000 in
theorem cd_43 : cdP 43 := ⟨okr (k := 352) rfl (by decide +kernel), by decide +kernel, by decide +kernel, okk_w (k := 37) (by decide +kernel)⟩
set_option maxRecDepth 100000 in
theorem fl_1_19 : flP "WhistleStop$Backward" 19 1 2 := ⟨_, rfl, by decide, okk_w (k := 663) (by decide +kernel)⟩
set_option maxRecDepth 100000 in
theorem fl_1_23 : flP "WhistleStop$Backward" 23 1 3 := ⟨_, rfl, by decide, okk_w (k := 664) (by decide +kernel)⟩
set_option maxRecDepth 100000 in
theorem fl_1_106 : flP "WhistleStop$Backward" 106 7 4 := ⟨_, rfl, by decide, okk_w (k := 562) (by decide +kernel)⟩
set_option maxRecDepth 100000 in
theorem fl_1_109 : flP "WhistleStop$Backward" 109 7 0 := ⟨_, rfl, by decide, okk_w (k := 548) (by decide +kernel)⟩
set_option maxRecDepth 100000 in
theorem fl_1_56 : flP "WhistleStop$Backward" 56 7 5 := ⟨_, rfl, by decide, okk_w (k := 564) (by decide +kernel)⟩
set_option maxRecDepth 100000 in
theorem fl_1_61 : flP "WhistleStop$Backward" 61 7 1 := ⟨_, rfl, by decide, okk_w (k := 551) (by decide +kernel)⟩
set_option maxRecDepth 100000 in
theorem fl_1_112 : flP "WhistleStop$Backward" 112 5 0 := ⟨_, rfl, by decide, okk_w (k := 891) (by decide +kernel)⟩
set_option maxRecDepth 100000 in
theorem fl_1_115 : flP "WhistleStop$Backward" 115 5 1 := ⟨_, rfl, by decide, okk_w (k := 894) (by decide +kernel)⟩
set_option maxRecDepth 100000 in
theorem fl_1_71 : flP "WhistleStop$Backward" 71 5 2 := ⟨_, rfl, by decide, okk_w (k := 897) (by decide +kernel)⟩
set_option maxRecDepth 100000 in
theorem c_41_118 : cvP 41 118 42 4 := ⟨cd_42, okk_w (k := 345) (by decide +kernel), okk_w (k := 347) (by decide +kernel), okk_w (k := 16) (by decide +kernel), by decide +kernel, by decide +kernel⟩
set_option maxRecDepth 100000 in
theorem d_41_0 : decode (mB 41) 0 = .ok (.iconst 0, 1) := by decide +kernel
set_option maxRecDepth 100000 in
theorem d_41_1 : decode (mB 41) 1 = .ok (.istore_n 3, 1) := by decide +kernel
set_option maxRecDepth 100000 in
theorem d_41_2 : decode (mB 41) 2 = .ok (.iload_n 3, 1) := by decide +kernel
set_option maxRecDepth 100000 in
theorem d_41_3 : decode (mB 41) 3 = .ok (.aload_n 1, 1) := by decide +kernel
set_option maxRecDepth 100000 in
theorem d_41_4 : decode (mB 41) 4 = .ok (.getfield 106, 3) := by decide +kernel
set_option maxRecDepth 100000 in
theorem d_41_7 : decode (mB 41) 7 = .ok (.if_icmp .ge 47, 3) := by decide +kernel
set_option maxRecDepth 100000 in
theorem d_41_10 : decode (mB 41) 10 = .ok (.aload_n 0, 1) := by decide +kernel
set_option maxRecDepth 100000 in
theorem d_41_11 : decode (mB 41) 11 = .ok (.getfield 16, 3) := by decide +kernel
set_option maxRecDepth 100000 in
theorem d_41_14 : decode (mB 41) 14 = .ok (.iload_n 2, 1) := by decide +kernel
set_option maxRecDepth 100000 in
theorem d_41_15 : decode (mB 41) 15 = .ok (.aaload, 1) := by decide +kernel
set_option maxRecDepth 100000 in
theorem d_41_16 : decode (mB 41) 16 = .ok (.iload_n 3, 1) := by decide +kernel
set_option maxRecDepth 100000 in
theorem d_41_17 : decode (mB 41) 17 = .ok (.iload_n 3, 1) := by decide +kernel
set_option maxRecDepth 100000 in
theorem d_41_18 : decode (mB 41) 18 = .ok (.aload_n 0, 1) := by decide +kernel
set_option maxRecDepth 100000 in
theorem d_41_19 : decode (mB 41) 19 = .ok (.getfield 19, 3) := by decide +kernel
set_option maxRecDepth 100000 in
theorem d_41_22 : decode (mB 41) 22 = .ok (.if_icmp .ne 10, 3) := by decide +kernel
set_option maxRecDepth 100000 in
theorem d_41_25 : decode (mB 41) 25 = .ok (.aload_n 0, 1) := by decide +kernel
set_option maxRecDepth 100000 in
theorem d_41_26 : decode (mB 41) 26 = .ok (.getfield 23, 3) := by decide +kernel
set_option maxRecDepth 100000 in
theorem d_41_29 : decode (mB 41) 29 = .ok (.goto 18, 3) := by decide +kernel
set_option maxRecDepth 100000 in
theorem d_41_32 : decode (mB 41) 32 = .ok (.aload_n 0, 1) := by decide +kernel
set_option maxRecDepth 100000 in
theorem d_41_33 : decode (mB 41) 33 = .ok (.getfield 11, 3) := by decide +kernel
set_option maxRecDepth 100000 in
theorem d_41_36 : decode (mB 41) 36 = .ok (.iload_n 2, 1) := by decide +kernel
set_option maxRecDepth 100000 in
theorem d_41_37 : decode (mB 41) 37 = .ok (.aaload, 1) := by decide +kernel
set_option maxRecDepth 100000 in
theorem d_41_38 : decode (mB 41) 38 = .ok (.iload_n 3, 1) := by decide +kernel
set_option maxRecDepth 100000 in
theorem d_41_39 : decode (mB 41) 39 = .ok (.iaload, 1) := by decide +kernel
set_option maxRecDepth 100000 in
theorem d_41_40 : decode (mB 41) 40 = .ok (.aload_n 1, 1) := by decide +kernel
set_option maxRecDepth 100000 in
theorem d_41_41 : decode (mB 41) 41 = .ok (.getfield 109, 3) := by decide +kernel
set_option maxRecDepth 100000 in
theorem d_41_44 : decode (mB 41) 44 = .ok (.iload_n 3, 1) := by decide +kernel
set_option maxRecDepth 100000 in
theorem d_41_45 : decode (mB 41) 45 = .ok (.iaload, 1) := by decide +kernel
set_option maxRecDepth 100000 in
theorem d_41_46 : decode (mB 41) 46 = .ok (.isub, 1) := by decide +kernel
set_option maxRecDepth 100000 in
theorem d_41_47 : decode (mB 41) 47 = .ok (.iastore, 1) := by decide +kernel
set_option maxRecDepth 100000 in
theorem d_41_48 : decode (mB 41) 48 = .ok (.iinc 3 1, 3) := by decide +kernel
set_option maxRecDepth 100000 in
theorem d_41_51 : decode (mB 41) 51 = .ok (.goto (-49), 3) := by decide +kernel
set_option maxRecDepth 100000 in
theorem d_41_54 : decode (mB 41) 54 = .ok (.iconst 0, 1) := by decide +kernel
set_option maxRecDepth 100000 in
theorem d_41_55 : decode (mB 41) 55 = .ok (.istore_n 3, 1) := by decide +kernel
set_option maxRecDepth 100000 in
theorem d_41_56 : decode (mB 41) 56 = .ok (.iload_n 3, 1) := by decide +kernel
set_option maxRecDepth 100000 in
theorem d_41_57 : decode (mB 41) 57 = .ok (.aload_n 1, 1) := by decide +kernel
set_option maxRecDepth 100000 in
theorem d_41_58 : decode (mB 41) 58 = .ok (.getfield 56, 3) := by decide +kernel
set_option maxRecDepth 100000 in
theorem d_41_61 : decode (mB 41) 61 = .ok (.if_icmp .ge 57, 3) := by decide +kernel
set_option maxRecDepth 100000 in
theorem d_41_64 : decode (mB 41) 64 = .ok (.aload_n 1, 1) := by decide +kernel
set_option maxRecDepth 100000 in
theorem d_41_65 : decode (mB 41) 65 = .ok (.getfield 61, 3) := by decide +kernel
set_option maxRecDepth 100000 in
theorem d_41_68 : decode (mB 41) 68 = .ok (.iload_n 3, 1) := by decide +kernel
set_option maxRecDepth 100000 in
theorem d_41_69 : decode (mB 41) 69 = .ok (.aaload, 1) := by decide +kernel
set_option maxRecDepth 100000 in
theorem d_41_70 : decode (mB 41) 70 = .ok (.astore 4, 2) := by decide +kernel
set_option maxRecDepth 100000 in
theorem d_41_72 : decode (mB 41) 72 = .ok (.aload_n 0, 1) := by decide +kernel
set_option maxRecDepth 100000 in
theorem d_41_73 : decode (mB 41) 73 = .ok (.iload_n 2, 1) := by decide +kernel
set_option maxRecDepth 100000 in
theorem d_41_74 : decode (mB 41) 74 = .ok (.aload 4, 2) := by decide +kernel
set_option maxRecDepth 100000 in
theorem d_41_76 : decode (mB 41) 76 = .ok (.getfield 112, 3) := by decide +kernel
set_option maxRecDepth 100000 in
theorem d_41_79 : decode (mB 41) 79 = .ok (.aload 4, 2) := by decide +kernel
set_option maxRecDepth 100000 in
theorem d_41_81 : decode (mB 41) 81 = .ok (.getfield 115, 3) := by decide +kernel
set_option maxRecDepth 100000 in
theorem d_41_84 : decode (mB 41) 84 = .ok (.aload 4, 2) := by decide +kernel
set_option maxRecDepth 100000 in
theorem d_41_86 : decode (mB 41) 86 = .ok (.getfield 71, 3) := by decide +kernel
set_option maxRecDepth 100000 in
theorem d_41_89 : decode (mB 41) 89 = .ok (.invokevirtual 118, 3) := by decide +kernel
set_option maxRecDepth 100000 in
theorem d_41_92 : decode (mB 41) 92 = .ok (.aload_n 0, 1) := by decide +kernel
set_option maxRecDepth 100000 in
theorem d_41_93 : decode (mB 41) 93 = .ok (.iload_n 2, 1) := by decide +kernel
set_option maxRecDepth 100000 in
theorem d_41_94 : decode (mB 41) 94 = .ok (.aload 4, 2) := by decide +kernel
set_option maxRecDepth 100000 in
theorem d_41_96 : decode (mB 41) 96 = .ok (.getfield 115, 3) := by decide +kernel
set_option maxRecDepth 100000 in
theorem d_41_99 : decode (mB 41) 99 = .ok (.aload 4, 2) := by decide +kernel
set_option maxRecDepth 100000 in
theorem d_41_101 : decode (mB 41) 101 = .ok (.getfield 112, 3) := by decide +kernel
set_option maxRecDepth 100000 in
theorem d_41_104 : decode (mB 41) 104 = .ok (.aload 4, 2) := by decide +kernel
set_option maxRecDepth 100000 in
theorem d_41_106 : decode (mB 41) 106 = .ok (.getfield 71, 3) := by decide +kernel
set_option maxRecDepth 100000 in
theorem d_41_109 : decode (mB 41) 109 = .ok (.invokevirtual 118, 3) := by decide +kernel
set_option maxRecDepth 100000 in
theorem d_41_112 : decode (mB 41) 112 = .ok (.iinc 3 1, 3) := by decide +kernel
set_option maxRecDepth 100000 in
theorem d_41_115 : decode (mB 41) 115 = .ok (.goto (-59), 3) := by decide +kernel
set_option maxRecDepth 100000 in
theorem d_41_118 : decode (mB 41) 118 = .ok (.return_, 1) := by decide +kernel
set_option maxRecDepth 100000 in
theorem c_42_53 : cvP 42 53 43 2 := ⟨cd_43, okk_w (k := 349) (by decide +kernel), okk_w (k := 350) (by decide +kernel), okk_w (k := 351) (by decide +kernel), by decide +kernel, by decide +kernel⟩
set_option maxRecDepth 100000 in
theorem c_42_74 : csP 42 74 110 2 := ⟨cd_110, okk_w (k := 353) (by decide +kernel), okk_w (k := 177) (by decide +kernel), by decide +kernel, by decide +kernel⟩
set_option maxRecDepth 100000 in
theorem d_42_0 : decode (mB 42) 0 = .ok (.aload_n 0, 1) := by decide +kernel
set_option maxRecDepth 100000 in
theorem d_42_1 : decode (mB 42) 1 = .ok (.getfield 16, 3) := by decide +kernel
set_option maxRecDepth 100000 in
theorem d_42_4 : decode (mB 42) 4 = .ok (.iload_n 1, 1) := by decide +kernel
set_option maxRecDepth 100000 in
theorem d_42_5 : decode (mB 42) 5 = .ok (.aaload, 1) := by decide +kernel
set_option maxRecDepth 100000 in
theorem d_42_6 : decode (mB 42) 6 = .ok (.iload_n 2, 1) := by decide +kernel
set_option maxRecDepth 100000 in
theorem d_42_7 : decode (mB 42) 7 = .ok (.aload_n 0, 1) := by decide +kernel
set_option maxRecDepth 100000 in
theorem d_42_8 : decode (mB 42) 8 = .ok (.getfield 16, 3) := by decide +kernel
set_option maxRecDepth 100000 in
theorem d_42_11 : decode (mB 42) 11 = .ok (.iload_n 1, 1) := by decide +kernel
set_option maxRecDepth 100000 in
theorem d_42_12 : decode (mB 42) 12 = .ok (.aaload, 1) := by decide +kernel
set_option maxRecDepth 100000 in
theorem d_42_13 : decode (mB 42) 13 = .ok (.iload_n 2, 1) := by decide +kernel
set_option maxRecDepth 100000 in
theorem d_42_14 : decode (mB 42) 14 = .ok (.iaload, 1) := by decide +kernel
set_option maxRecDepth 100000 in
theorem d_42_15 : decode (mB 42) 15 = .ok (.aload_n 0, 1) := by decide +kernel
set_option maxRecDepth 100000 in
theorem d_42_16 : decode (mB 42) 16 = .ok (.iload_n 3, 1) := by decide +kernel
set_option maxRecDepth 100000 in
theorem d_42_17 : decode (mB 42) 17 = .ok (.iload_n 1, 1) := by decide +kernel
set_option maxRecDepth 100000 in
theorem d_42_18 : decode (mB 42) 18 = .ok (.invokevirtual 53, 3) := by decide +kernel
set_option maxRecDepth 100000 in
theorem d_42_21 : decode (mB 42) 21 = .ok (.iload 4, 2) := by decide +kernel
set_option maxRecDepth 100000 in
theorem d_42_23 : decode (mB 42) 23 = .ok (.isub, 1) := by decide +kernel
set_option maxRecDepth 100000 in
theorem d_42_24 : decode (mB 42) 24 = .ok (.invokestatic 74, 3) := by decide +kernel
set_option maxRecDepth 100000 in
theorem d_42_27 : decode (mB 42) 27 = .ok (.iastore, 1) := by decide +kernel
set_option maxRecDepth 100000 in
theorem d_42_28 : decode (mB 42) 28 = .ok (.return_, 1) := by decide +kernel
set_option maxRecDepth 100000 in
theorem d_43_0 : decode (mB 43) 0 = .ok (.iload_n 1, 1) := by decide +kernel
set_option maxRecDepth 100000 in
theorem d_43_1 : decode (mB 43) 1 = .ok (.aload_n 0, 1) := by decide +kernel
set_option maxRecDepth 100000 in
theorem d_43_2 : decode (mB 43) 2 = .ok (.getfield 19, 3) := by decide +kernel
set_option maxRecDepth 100000 in
theorem d_43_5 : decode (mB 43) 5 = .ok (.if_icmp .ne 10, 3) := by decide +kernel
set_option maxRecDepth 100000 in
theorem d_43_8 : decode (mB 43) 8 = .ok (.aload_n 0, 1) := by decide +kernel
set_option maxRecDepth 100000 in
theorem d_43_9 : decode (mB 43) 9 = .ok (.getfield 23, 3) := by decide +kernel
set_option maxRecDepth 100000 in
theorem d_43_12 : decode (mB 43) 12 = .ok (.goto 11, 3) := by decide +kernel
set_option maxRecDepth 100000 in
theorem d_43_15 : decode (mB 43) 15 = .ok (.aload_n 0, 1) := by decide +kernel
set_option maxRecDepth 100000 in
theorem d_43_16 : decode (mB 43) 16 = .ok (.getfield 11, 3) := by decide +kernel
set_option maxRecDepth 100000 in
theorem d_43_19 : decode (mB 43) 19 = .ok (.iload_n 2, 1) := by decide +kernel
set_option maxRecDepth 100000 in
theorem d_43_20 : decode (mB 43) 20 = .ok (.aaload, 1) := by decide +kernel
set_option maxRecDepth 100000 in
theorem d_43_21 : decode (mB 43) 21 = .ok (.iload_n 1, 1) := by decide +kernel
set_option maxRecDepth 100000 in
theorem d_43_22 : decode (mB 43) 22 = .ok (.iaload, 1) := by decide +kernel
set_option maxRecDepth 100000 in
theorem d_43_23 : decode (mB 43) 23 = .ok (.ireturn, 1) := by decide +kernel
