set_option maxRecDepth 100000 in
theorem cd_52 : cdP 52 := ⟨okr (k := 306) rfl (by decide +kernel), by decide +kernel, by decide +kernel, okk_w (k := 38) (by decide +kernel)⟩
set_option maxRecDepth 100000 in
theorem cd_75 : cdP 75 := ⟨okr (k := 278) rfl (by decide +kernel), by decide +kernel, by decide +kernel, okk_w (k := 39) (by decide +kernel)⟩
set_option maxRecDepth 100000 in
theorem fl_4_21 : flP "WhistleStop$Fares" 21 4 2 := ⟨_, rfl, by decide, okk_w (k := 698) (by decide +kernel)⟩
set_option maxRecDepth 100000 in
theorem fl_4_25 : flP "WhistleStop$Fares" 25 4 3 := ⟨_, rfl, by decide, okk_w (k := 699) (by decide +kernel)⟩
set_option maxRecDepth 100000 in
theorem fl_4_29 : flP "WhistleStop$Fares" 29 4 4 := ⟨_, rfl, by decide, okk_w (k := 700) (by decide +kernel)⟩
set_option maxRecDepth 100000 in
theorem fl_4_98 : flP "WhistleStop$Fares" 98 7 5 := ⟨_, rfl, by decide, okk_w (k := 566) (by decide +kernel)⟩
set_option maxRecDepth 100000 in
theorem fl_4_101 : flP "WhistleStop$Fares" 101 7 1 := ⟨_, rfl, by decide, okk_w (k := 553) (by decide +kernel)⟩
set_option maxRecDepth 100000 in
theorem c_52_105 : cvP 52 105 57 1 := ⟨cd_57, okk_w (k := 307) (by decide +kernel), okk_w (k := 308) (by decide +kernel), okk_w (k := 309) (by decide +kernel), by decide +kernel, by decide +kernel⟩
set_option maxRecDepth 100000 in
theorem fl_4_110 : flP "WhistleStop$Fares" 110 5 2 := ⟨_, rfl, by decide, okk_w (k := 898) (by decide +kernel)⟩
set_option maxRecDepth 100000 in
theorem c_52_87 : csP 52 87 111 2 := ⟨cd_111, okk_w (k := 311) (by decide +kernel), okk_w (k := 180) (by decide +kernel), by decide +kernel, by decide +kernel⟩
set_option maxRecDepth 100000 in
theorem c_52_35 : cvP 52 35 75 2 := ⟨cd_75, okk_w (k := 275) (by decide +kernel), okk_w (k := 276) (by decide +kernel), okk_w (k := 277) (by decide +kernel), by decide +kernel, by decide +kernel⟩
set_option maxRecDepth 100000 in
theorem d_52_0 : decode (mB 52) 0 = .ok (.iconst 0, 1) := by decide +kernel
set_option maxRecDepth 100000 in
theorem d_52_1 : decode (mB 52) 1 = .ok (.istore 5, 2) := by decide +kernel
set_option maxRecDepth 100000 in
theorem d_52_3 : decode (mB 52) 3 = .ok (.iconst 0, 1) := by decide +kernel
set_option maxRecDepth 100000 in
theorem d_52_4 : decode (mB 52) 4 = .ok (.istore 6, 2) := by decide +kernel
set_option maxRecDepth 100000 in
theorem d_52_6 : decode (mB 52) 6 = .ok (.iload 6, 2) := by decide +kernel
set_option maxRecDepth 100000 in
theorem d_52_8 : decode (mB 52) 8 = .ok (.aload_n 1, 1) := by decide +kernel
set_option maxRecDepth 100000 in
theorem d_52_9 : decode (mB 52) 9 = .ok (.getfield 98, 3) := by decide +kernel
set_option maxRecDepth 100000 in
theorem d_52_12 : decode (mB 52) 12 = .ok (.if_icmp .ge 107, 3) := by decide +kernel
set_option maxRecDepth 100000 in
theorem d_52_15 : decode (mB 52) 15 = .ok (.aload_n 1, 1) := by decide +kernel
set_option maxRecDepth 100000 in
theorem d_52_16 : decode (mB 52) 16 = .ok (.getfield 101, 3) := by decide +kernel
set_option maxRecDepth 100000 in
theorem d_52_19 : decode (mB 52) 19 = .ok (.iload 6, 2) := by decide +kernel
set_option maxRecDepth 100000 in
theorem d_52_21 : decode (mB 52) 21 = .ok (.aaload, 1) := by decide +kernel
set_option maxRecDepth 100000 in
theorem d_52_22 : decode (mB 52) 22 = .ok (.astore 7, 2) := by decide +kernel
set_option maxRecDepth 100000 in
theorem d_52_24 : decode (mB 52) 24 = .ok (.aload 7, 2) := by decide +kernel
set_option maxRecDepth 100000 in
theorem d_52_26 : decode (mB 52) 26 = .ok (.iload_n 2, 1) := by decide +kernel
set_option maxRecDepth 100000 in
theorem d_52_27 : decode (mB 52) 27 = .ok (.invokevirtual 105, 3) := by decide +kernel
set_option maxRecDepth 100000 in
theorem d_52_30 : decode (mB 52) 30 = .ok (.istore 8, 2) := by decide +kernel
set_option maxRecDepth 100000 in
theorem d_52_32 : decode (mB 52) 32 = .ok (.iload_n 3, 1) := by decide +kernel
set_option maxRecDepth 100000 in
theorem d_52_33 : decode (mB 52) 33 = .ok (.aload 7, 2) := by decide +kernel
set_option maxRecDepth 100000 in
theorem d_52_35 : decode (mB 52) 35 = .ok (.getfield 110, 3) := by decide +kernel
set_option maxRecDepth 100000 in
theorem d_52_38 : decode (mB 52) 38 = .ok (.iadd, 1) := by decide +kernel
set_option maxRecDepth 100000 in
theorem d_52_39 : decode (mB 52) 39 = .ok (.istore 9, 2) := by decide +kernel
set_option maxRecDepth 100000 in
theorem d_52_41 : decode (mB 52) 41 = .ok (.iload 8, 2) := by decide +kernel
set_option maxRecDepth 100000 in
theorem d_52_43 : decode (mB 52) 43 = .ok (.iconst (-1), 1) := by decide +kernel
set_option maxRecDepth 100000 in
theorem d_52_44 : decode (mB 52) 44 = .ok (.if_icmp .eq 69, 3) := by decide +kernel
set_option maxRecDepth 100000 in
theorem d_52_47 : decode (mB 52) 47 = .ok (.iload 9, 2) := by decide +kernel
set_option maxRecDepth 100000 in
theorem d_52_49 : decode (mB 52) 49 = .ok (.aload_n 0, 1) := by decide +kernel
set_option maxRecDepth 100000 in
theorem d_52_50 : decode (mB 52) 50 = .ok (.getfield 25, 3) := by decide +kernel
set_option maxRecDepth 100000 in
theorem d_52_53 : decode (mB 52) 53 = .ok (.if_icmp .le 6, 3) := by decide +kernel
set_option maxRecDepth 100000 in
theorem d_52_56 : decode (mB 52) 56 = .ok (.goto 57, 3) := by decide +kernel
set_option maxRecDepth 100000 in
theorem d_52_59 : decode (mB 52) 59 = .ok (.iload 8, 2) := by decide +kernel
set_option maxRecDepth 100000 in
theorem d_52_61 : decode (mB 52) 61 = .ok (.aload_n 0, 1) := by decide +kernel
set_option maxRecDepth 100000 in
theorem d_52_62 : decode (mB 52) 62 = .ok (.getfield 21, 3) := by decide +kernel
set_option maxRecDepth 100000 in
theorem d_52_65 : decode (mB 52) 65 = .ok (.if_icmp .ne 19, 3) := by decide +kernel
set_option maxRecDepth 100000 in
theorem d_52_68 : decode (mB 52) 68 = .ok (.aload_n 0, 1) := by decide +kernel
set_option maxRecDepth 100000 in
theorem d_52_69 : decode (mB 52) 69 = .ok (.aload_n 0, 1) := by decide +kernel
set_option maxRecDepth 100000 in
theorem d_52_70 : decode (mB 52) 70 = .ok (.getfield 29, 3) := by decide +kernel
set_option maxRecDepth 100000 in
theorem d_52_73 : decode (mB 52) 73 = .ok (.iload 4, 2) := by decide +kernel
set_option maxRecDepth 100000 in
theorem d_52_75 : decode (mB 52) 75 = .ok (.invokestatic 87, 3) := by decide +kernel
set_option maxRecDepth 100000 in
theorem d_52_78 : decode (mB 52) 78 = .ok (.putfield 29, 3) := by decide +kernel
set_option maxRecDepth 100000 in
theorem d_52_81 : decode (mB 52) 81 = .ok (.goto 32, 3) := by decide +kernel
set_option maxRecDepth 100000 in
theorem d_52_84 : decode (mB 52) 84 = .ok (.aload_n 0, 1) := by decide +kernel
set_option maxRecDepth 100000 in
theorem d_52_85 : decode (mB 52) 85 = .ok (.getfield 17, 3) := by decide +kernel
set_option maxRecDepth 100000 in
theorem d_52_88 : decode (mB 52) 88 = .ok (.iload 8, 2) := by decide +kernel
set_option maxRecDepth 100000 in
theorem d_52_90 : decode (mB 52) 90 = .ok (.aaload, 1) := by decide +kernel
set_option maxRecDepth 100000 in
theorem d_52_91 : decode (mB 52) 91 = .ok (.iload 9, 2) := by decide +kernel
set_option maxRecDepth 100000 in
theorem d_52_93 : decode (mB 52) 93 = .ok (.iload 4, 2) := by decide +kernel
set_option maxRecDepth 100000 in
theorem d_52_95 : decode (mB 52) 95 = .ok (.invokevirtual 35, 3) := by decide +kernel
set_option maxRecDepth 100000 in
theorem d_52_98 : decode (mB 52) 98 = .ok (.ifCond .ne 8, 3) := by decide +kernel
set_option maxRecDepth 100000 in
theorem d_52_101 : decode (mB 52) 101 = .ok (.iload 5, 2) := by decide +kernel
set_option maxRecDepth 100000 in
theorem d_52_103 : decode (mB 52) 103 = .ok (.ifCond .eq 7, 3) := by decide +kernel
set_option maxRecDepth 100000 in
theorem d_52_106 : decode (mB 52) 106 = .ok (.iconst 1, 1) := by decide +kernel
set_option maxRecDepth 100000 in
theorem d_52_107 : decode (mB 52) 107 = .ok (.goto 4, 3) := by decide +kernel
set_option maxRecDepth 100000 in
theorem d_52_110 : decode (mB 52) 110 = .ok (.iconst 0, 1) := by decide +kernel
set_option maxRecDepth 100000 in
theorem d_52_111 : decode (mB 52) 111 = .ok (.istore 5, 2) := by decide +kernel
set_option maxRecDepth 100000 in
theorem d_52_113 : decode (mB 52) 113 = .ok (.iinc 6 1, 3) := by decide +kernel
set_option maxRecDepth 100000 in
theorem d_52_116 : decode (mB 52) 116 = .ok (.goto (-110), 3) := by decide +kernel
set_option maxRecDepth 100000 in
theorem d_52_119 : decode (mB 52) 119 = .ok (.iload 5, 2) := by decide +kernel
set_option maxRecDepth 100000 in
theorem d_52_121 : decode (mB 52) 121 = .ok (.ireturn, 1) := by decide +kernel
set_option maxRecDepth 100000 in
theorem c_55_87 : csP 55 87 111 2 := ⟨cd_111, okk_w (k := 311) (by decide +kernel), okk_w (k := 180) (by decide +kernel), by decide +kernel, by decide +kernel⟩
set_option maxRecDepth 100000 in
theorem fl_4_93 : flP "WhistleStop$Fares" 93 7 0 := ⟨_, rfl, by decide, okk_w (k := 546) (by decide +kernel)⟩
set_option maxRecDepth 100000 in
theorem c_55_35 : cvP 55 35 75 2 := ⟨cd_75, okk_w (k := 275) (by decide +kernel), okk_w (k := 276) (by decide +kernel), okk_w (k := 277) (by decide +kernel), by decide +kernel, by decide +kernel⟩
set_option maxRecDepth 100000 in
theorem c_55_39 : cvP 55 39 52 4 := ⟨cd_52, okk_w (k := 302) (by decide +kernel), okk_w (k := 304) (by decide +kernel), okk_w (k := 11) (by decide +kernel), by decide +kernel, by decide +kernel⟩
set_option maxRecDepth 100000 in
theorem d_55_0 : decode (mB 55) 0 = .ok (.iload_n 2, 1) := by decide +kernel
set_option maxRecDepth 100000 in
theorem d_55_1 : decode (mB 55) 1 = .ok (.aload_n 0, 1) := by decide +kernel
set_option maxRecDepth 100000 in
theorem d_55_2 : decode (mB 55) 2 = .ok (.getfield 21, 3) := by decide +kernel
set_option maxRecDepth 100000 in
theorem d_55_5 : decode (mB 55) 5 = .ok (.if_icmp .ne 18, 3) := by decide +kernel
set_option maxRecDepth 100000 in
theorem d_55_8 : decode (mB 55) 8 = .ok (.aload_n 0, 1) := by decide +kernel
set_option maxRecDepth 100000 in
theorem d_55_9 : decode (mB 55) 9 = .ok (.aload_n 0, 1) := by decide +kernel
set_option maxRecDepth 100000 in
theorem d_55_10 : decode (mB 55) 10 = .ok (.getfield 29, 3) := by decide +kernel
set_option maxRecDepth 100000 in
theorem d_55_13 : decode (mB 55) 13 = .ok (.iload 4, 2) := by decide +kernel
set_option maxRecDepth 100000 in
theorem d_55_15 : decode (mB 55) 15 = .ok (.invokestatic 87, 3) := by decide +kernel
set_option maxRecDepth 100000 in
theorem d_55_18 : decode (mB 55) 18 = .ok (.putfield 29, 3) := by decide +kernel
set_option maxRecDepth 100000 in
theorem d_55_21 : decode (mB 55) 21 = .ok (.iconst 0, 1) := by decide +kernel
set_option maxRecDepth 100000 in
theorem d_55_22 : decode (mB 55) 22 = .ok (.ireturn, 1) := by decide +kernel
set_option maxRecDepth 100000 in
theorem d_55_23 : decode (mB 55) 23 = .ok (.iconst 0, 1) := by decide +kernel
set_option maxRecDepth 100000 in
theorem d_55_24 : decode (mB 55) 24 = .ok (.istore 5, 2) := by decide +kernel
set_option maxRecDepth 100000 in
theorem d_55_26 : decode (mB 55) 26 = .ok (.iload_n 3, 1) := by decide +kernel
set_option maxRecDepth 100000 in
theorem d_55_27 : decode (mB 55) 27 = .ok (.aload_n 1, 1) := by decide +kernel
set_option maxRecDepth 100000 in
theorem d_55_28 : decode (mB 55) 28 = .ok (.getfield 93, 3) := by decide +kernel
set_option maxRecDepth 100000 in
theorem d_55_31 : decode (mB 55) 31 = .ok (.iload_n 2, 1) := by decide +kernel
set_option maxRecDepth 100000 in
theorem d_55_32 : decode (mB 55) 32 = .ok (.iaload, 1) := by decide +kernel
set_option maxRecDepth 100000 in
theorem d_55_33 : decode (mB 55) 33 = .ok (.iadd, 1) := by decide +kernel
set_option maxRecDepth 100000 in
theorem d_55_34 : decode (mB 55) 34 = .ok (.aload_n 0, 1) := by decide +kernel
set_option maxRecDepth 100000 in
theorem d_55_35 : decode (mB 55) 35 = .ok (.getfield 25, 3) := by decide +kernel
set_option maxRecDepth 100000 in
theorem d_55_38 : decode (mB 55) 38 = .ok (.if_icmp .gt 24, 3) := by decide +kernel
set_option maxRecDepth 100000 in
theorem d_55_41 : decode (mB 55) 41 = .ok (.aload_n 0, 1) := by decide +kernel
set_option maxRecDepth 100000 in
theorem d_55_42 : decode (mB 55) 42 = .ok (.getfield 17, 3) := by decide +kernel
set_option maxRecDepth 100000 in
theorem d_55_45 : decode (mB 55) 45 = .ok (.iload_n 2, 1) := by decide +kernel
set_option maxRecDepth 100000 in
theorem d_55_46 : decode (mB 55) 46 = .ok (.aaload, 1) := by decide +kernel
set_option maxRecDepth 100000 in
theorem d_55_47 : decode (mB 55) 47 = .ok (.iload_n 3, 1) := by decide +kernel
set_option maxRecDepth 100000 in
theorem d_55_48 : decode (mB 55) 48 = .ok (.aload_n 1, 1) := by decide +kernel
set_option maxRecDepth 100000 in
theorem d_55_49 : decode (mB 55) 49 = .ok (.getfield 93, 3) := by decide +kernel
set_option maxRecDepth 100000 in
theorem d_55_52 : decode (mB 55) 52 = .ok (.iload_n 2, 1) := by decide +kernel
set_option maxRecDepth 100000 in
theorem d_55_53 : decode (mB 55) 53 = .ok (.iaload, 1) := by decide +kernel
set_option maxRecDepth 100000 in
theorem d_55_54 : decode (mB 55) 54 = .ok (.iadd, 1) := by decide +kernel
set_option maxRecDepth 100000 in
theorem d_55_55 : decode (mB 55) 55 = .ok (.iload 4, 2) := by decide +kernel
set_option maxRecDepth 100000 in
theorem d_55_57 : decode (mB 55) 57 = .ok (.invokevirtual 35, 3) := by decide +kernel
set_option maxRecDepth 100000 in
theorem d_55_60 : decode (mB 55) 60 = .ok (.istore 5, 2) := by decide +kernel
set_option maxRecDepth 100000 in
theorem d_55_62 : decode (mB 55) 62 = .ok (.aload_n 0, 1) := by decide +kernel
set_option maxRecDepth 100000 in
theorem d_55_63 : decode (mB 55) 63 = .ok (.aload_n 1, 1) := by decide +kernel
set_option maxRecDepth 100000 in
theorem d_55_64 : decode (mB 55) 64 = .ok (.iload_n 2, 1) := by decide +kernel
set_option maxRecDepth 100000 in
theorem d_55_65 : decode (mB 55) 65 = .ok (.iload_n 3, 1) := by decide +kernel
set_option maxRecDepth 100000 in
theorem d_55_66 : decode (mB 55) 66 = .ok (.iload 4, 2) := by decide +kernel
set_option maxRecDepth 100000 in
theorem d_55_68 : decode (mB 55) 68 = .ok (.invokevirtual 39, 3) := by decide +kernel
set_option maxRecDepth 100000 in
theorem d_55_71 : decode (mB 55) 71 = .ok (.ifCond .ne 8, 3) := by decide +kernel
set_option maxRecDepth 100000 in
theorem d_55_74 : decode (mB 55) 74 = .ok (.iload 5, 2) := by decide +kernel
set_option maxRecDepth 100000 in
theorem d_55_76 : decode (mB 55) 76 = .ok (.ifCond .eq 7, 3) := by decide +kernel
set_option maxRecDepth 100000 in
theorem d_55_79 : decode (mB 55) 79 = .ok (.iconst 1, 1) := by decide +kernel
set_option maxRecDepth 100000 in
theorem d_55_80 : decode (mB 55) 80 = .ok (.goto 4, 3) := by decide +kernel
set_option maxRecDepth 100000 in
theorem d_55_83 : decode (mB 55) 83 = .ok (.iconst 0, 1) := by decide +kernel
set_option maxRecDepth 100000 in
theorem d_55_84 : decode (mB 55) 84 = .ok (.ireturn, 1) := by decide +kernel
