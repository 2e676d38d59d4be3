set_option maxRecDepth 100000 in
theorem cd_31 : cdP 31 := ⟨okr (k := 869) rfl (by decide +kernel), by decide +kernel, by decide +kernel, okk_w (k := 32) (by decide +kernel)⟩
set_option maxRecDepth 100000 in
theorem cd_38 : cdP 38 := ⟨okr (k := 1022) rfl (by decide +kernel), by decide +kernel, by decide +kernel, okk_w (k := 32) (by decide +kernel)⟩
set_option maxRecDepth 100000 in
theorem cd_39 : cdP 39 := ⟨okr (k := 1026) rfl (by decide +kernel), by decide +kernel, by decide +kernel, okk_w (k := 32) (by decide +kernel)⟩
set_option maxRecDepth 100000 in
theorem cd_100 : cdP 100 := ⟨okr (k := 852) rfl (by decide +kernel), by decide +kernel, by decide +kernel, okk_w (k := 31) (by decide +kernel)⟩
set_option maxRecDepth 100000 in
theorem fl_12_73 : flP "WhistleStopLaw$Table" 73 12 7 := ⟨_, rfl, by decide, okk_w (k := 803) (by decide +kernel)⟩
set_option maxRecDepth 100000 in
theorem c_101_69 : cvP 101 69 100 1 := ⟨cd_100, okk_w (k := 865) (by decide +kernel), okk_w (k := 850) (by decide +kernel), okk_w (k := 851) (by decide +kernel), by decide +kernel, by decide +kernel⟩
set_option maxRecDepth 100000 in
theorem c_101_84 : cvP 101 84 31 3 := ⟨cd_31, okk_w (k := 866) (by decide +kernel), okk_w (k := 867) (by decide +kernel), okk_w (k := 868) (by decide +kernel), by decide +kernel, by decide +kernel⟩
set_option maxRecDepth 100000 in
theorem d_101_0 : decode (mB 101) 0 = .ok (.aload_n 0, 1) := by decide +kernel
set_option maxRecDepth 100000 in
theorem d_101_1 : decode (mB 101) 1 = .ok (.aload_n 0, 1) := by decide +kernel
set_option maxRecDepth 100000 in
theorem d_101_2 : decode (mB 101) 2 = .ok (.getfield 73, 3) := by decide +kernel
set_option maxRecDepth 100000 in
theorem d_101_5 : decode (mB 101) 5 = .ok (.invokevirtual 69, 3) := by decide +kernel
set_option maxRecDepth 100000 in
theorem d_101_8 : decode (mB 101) 8 = .ok (.istore_n 1, 1) := by decide +kernel
set_option maxRecDepth 100000 in
theorem d_101_9 : decode (mB 101) 9 = .ok (.aload_n 0, 1) := by decide +kernel
set_option maxRecDepth 100000 in
theorem d_101_10 : decode (mB 101) 10 = .ok (.bipush 7, 2) := by decide +kernel
set_option maxRecDepth 100000 in
theorem d_101_12 : decode (mB 101) 12 = .ok (.invokevirtual 69, 3) := by decide +kernel
set_option maxRecDepth 100000 in
theorem d_101_15 : decode (mB 101) 15 = .ok (.istore_n 2, 1) := by decide +kernel
set_option maxRecDepth 100000 in
theorem d_101_16 : decode (mB 101) 16 = .ok (.aload_n 0, 1) := by decide +kernel
set_option maxRecDepth 100000 in
theorem d_101_17 : decode (mB 101) 17 = .ok (.getfield 27, 3) := by decide +kernel
set_option maxRecDepth 100000 in
theorem d_101_20 : decode (mB 101) 20 = .ok (.iload_n 1, 1) := by decide +kernel
set_option maxRecDepth 100000 in
theorem d_101_21 : decode (mB 101) 21 = .ok (.aaload, 1) := by decide +kernel
set_option maxRecDepth 100000 in
theorem d_101_22 : decode (mB 101) 22 = .ok (.iload_n 2, 1) := by decide +kernel
set_option maxRecDepth 100000 in
theorem d_101_23 : decode (mB 101) 23 = .ok (.baload, 1) := by decide +kernel
set_option maxRecDepth 100000 in
theorem d_101_24 : decode (mB 101) 24 = .ok (.istore_n 3, 1) := by decide +kernel
set_option maxRecDepth 100000 in
theorem d_101_25 : decode (mB 101) 25 = .ok (.aload_n 0, 1) := by decide +kernel
set_option maxRecDepth 100000 in
theorem d_101_26 : decode (mB 101) 26 = .ok (.getfield 27, 3) := by decide +kernel
set_option maxRecDepth 100000 in
theorem d_101_29 : decode (mB 101) 29 = .ok (.iload_n 1, 1) := by decide +kernel
set_option maxRecDepth 100000 in
theorem d_101_30 : decode (mB 101) 30 = .ok (.aaload, 1) := by decide +kernel
set_option maxRecDepth 100000 in
theorem d_101_31 : decode (mB 101) 31 = .ok (.iload_n 2, 1) := by decide +kernel
set_option maxRecDepth 100000 in
theorem d_101_32 : decode (mB 101) 32 = .ok (.aload_n 0, 1) := by decide +kernel
set_option maxRecDepth 100000 in
theorem d_101_33 : decode (mB 101) 33 = .ok (.iconst 2, 1) := by decide +kernel
set_option maxRecDepth 100000 in
theorem d_101_34 : decode (mB 101) 34 = .ok (.invokevirtual 69, 3) := by decide +kernel
set_option maxRecDepth 100000 in
theorem d_101_37 : decode (mB 101) 37 = .ok (.ifCond .ne 7, 3) := by decide +kernel
set_option maxRecDepth 100000 in
theorem d_101_40 : decode (mB 101) 40 = .ok (.iconst 1, 1) := by decide +kernel
set_option maxRecDepth 100000 in
theorem d_101_41 : decode (mB 101) 41 = .ok (.goto 4, 3) := by decide +kernel
set_option maxRecDepth 100000 in
theorem d_101_44 : decode (mB 101) 44 = .ok (.iconst 0, 1) := by decide +kernel
set_option maxRecDepth 100000 in
theorem d_101_45 : decode (mB 101) 45 = .ok (.bastore, 1) := by decide +kernel
set_option maxRecDepth 100000 in
theorem d_101_46 : decode (mB 101) 46 = .ok (.aload_n 0, 1) := by decide +kernel
set_option maxRecDepth 100000 in
theorem d_101_47 : decode (mB 101) 47 = .ok (.getfield 10, 3) := by decide +kernel
set_option maxRecDepth 100000 in
theorem d_101_50 : decode (mB 101) 50 = .ok (.iload_n 1, 1) := by decide +kernel
set_option maxRecDepth 100000 in
theorem d_101_51 : decode (mB 101) 51 = .ok (.iload_n 2, 1) := by decide +kernel
set_option maxRecDepth 100000 in
theorem d_101_52 : decode (mB 101) 52 = .ok (.aload_n 0, 1) := by decide +kernel
set_option maxRecDepth 100000 in
theorem d_101_53 : decode (mB 101) 53 = .ok (.getfield 27, 3) := by decide +kernel
set_option maxRecDepth 100000 in
theorem d_101_56 : decode (mB 101) 56 = .ok (.iload_n 1, 1) := by decide +kernel
set_option maxRecDepth 100000 in
theorem d_101_57 : decode (mB 101) 57 = .ok (.aaload, 1) := by decide +kernel
set_option maxRecDepth 100000 in
theorem d_101_58 : decode (mB 101) 58 = .ok (.iload_n 2, 1) := by decide +kernel
set_option maxRecDepth 100000 in
theorem d_101_59 : decode (mB 101) 59 = .ok (.baload, 1) := by decide +kernel
set_option maxRecDepth 100000 in
theorem d_101_60 : decode (mB 101) 60 = .ok (.invokevirtual 84, 3) := by decide +kernel
set_option maxRecDepth 100000 in
theorem d_101_63 : decode (mB 101) 63 = .ok (.iload_n 3, 1) := by decide +kernel
set_option maxRecDepth 100000 in
theorem d_101_64 : decode (mB 101) 64 = .ok (.if_icmp .ne 7, 3) := by decide +kernel
set_option maxRecDepth 100000 in
theorem d_101_67 : decode (mB 101) 67 = .ok (.iconst 1, 1) := by decide +kernel
set_option maxRecDepth 100000 in
theorem d_101_68 : decode (mB 101) 68 = .ok (.goto 4, 3) := by decide +kernel
set_option maxRecDepth 100000 in
theorem d_101_72 : decode (mB 101) 72 = .ok (.ireturn, 1) := by decide +kernel
set_option maxRecDepth 100000 in
theorem fl_12_87 : flP "WhistleStopLaw$Table" 87 12 9 := ⟨_, rfl, by decide, okk_w (k := 805) (by decide +kernel)⟩
set_option maxRecDepth 100000 in
theorem c_105_69 : cvP 105 69 100 1 := ⟨cd_100, okk_w (k := 865) (by decide +kernel), okk_w (k := 850) (by decide +kernel), okk_w (k := 851) (by decide +kernel), by decide +kernel, by decide +kernel⟩
set_option maxRecDepth 100000 in
theorem c_105_120 : cvP 105 120 38 2 := ⟨cd_38, okk_w (k := 1019) (by decide +kernel), okk_w (k := 1020) (by decide +kernel), okk_w (k := 1021) (by decide +kernel), by decide +kernel, by decide +kernel⟩
set_option maxRecDepth 100000 in
theorem c_105_124 : cvP 105 124 39 3 := ⟨cd_39, okk_w (k := 1023) (by decide +kernel), okk_w (k := 1024) (by decide +kernel), okk_w (k := 1025) (by decide +kernel), by decide +kernel, by decide +kernel⟩
set_option maxRecDepth 100000 in
theorem d_105_0 : decode (mB 105) 0 = .ok (.aload_n 0, 1) := by decide +kernel
set_option maxRecDepth 100000 in
theorem d_105_1 : decode (mB 105) 1 = .ok (.aload_n 0, 1) := by decide +kernel
set_option maxRecDepth 100000 in
theorem d_105_2 : decode (mB 105) 2 = .ok (.getfield 87, 3) := by decide +kernel
set_option maxRecDepth 100000 in
theorem d_105_5 : decode (mB 105) 5 = .ok (.invokevirtual 69, 3) := by decide +kernel
set_option maxRecDepth 100000 in
theorem d_105_8 : decode (mB 105) 8 = .ok (.istore_n 1, 1) := by decide +kernel
set_option maxRecDepth 100000 in
theorem d_105_9 : decode (mB 105) 9 = .ok (.aload_n 0, 1) := by decide +kernel
set_option maxRecDepth 100000 in
theorem d_105_10 : decode (mB 105) 10 = .ok (.iconst 5, 1) := by decide +kernel
set_option maxRecDepth 100000 in
theorem d_105_11 : decode (mB 105) 11 = .ok (.invokevirtual 69, 3) := by decide +kernel
set_option maxRecDepth 100000 in
theorem d_105_14 : decode (mB 105) 14 = .ok (.istore_n 2, 1) := by decide +kernel
set_option maxRecDepth 100000 in
theorem d_105_15 : decode (mB 105) 15 = .ok (.aload_n 0, 1) := by decide +kernel
set_option maxRecDepth 100000 in
theorem d_105_16 : decode (mB 105) 16 = .ok (.iconst 3, 1) := by decide +kernel
set_option maxRecDepth 100000 in
theorem d_105_17 : decode (mB 105) 17 = .ok (.invokevirtual 69, 3) := by decide +kernel
set_option maxRecDepth 100000 in
theorem d_105_20 : decode (mB 105) 20 = .ok (.ifCond .ne 64, 3) := by decide +kernel
set_option maxRecDepth 100000 in
theorem d_105_23 : decode (mB 105) 23 = .ok (.aload_n 0, 1) := by decide +kernel
set_option maxRecDepth 100000 in
theorem d_105_24 : decode (mB 105) 24 = .ok (.getfield 27, 3) := by decide +kernel
set_option maxRecDepth 100000 in
theorem d_105_27 : decode (mB 105) 27 = .ok (.aload_n 0, 1) := by decide +kernel
set_option maxRecDepth 100000 in
theorem d_105_28 : decode (mB 105) 28 = .ok (.getfield 30, 3) := by decide +kernel
set_option maxRecDepth 100000 in
theorem d_105_31 : decode (mB 105) 31 = .ok (.iload_n 1, 1) := by decide +kernel
set_option maxRecDepth 100000 in
theorem d_105_32 : decode (mB 105) 32 = .ok (.iaload, 1) := by decide +kernel
set_option maxRecDepth 100000 in
theorem d_105_33 : decode (mB 105) 33 = .ok (.aaload, 1) := by decide +kernel
set_option maxRecDepth 100000 in
theorem d_105_34 : decode (mB 105) 34 = .ok (.iload_n 2, 1) := by decide +kernel
set_option maxRecDepth 100000 in
theorem d_105_35 : decode (mB 105) 35 = .ok (.baload, 1) := by decide +kernel
set_option maxRecDepth 100000 in
theorem d_105_36 : decode (mB 105) 36 = .ok (.ifCond .eq 18, 3) := by decide +kernel
set_option maxRecDepth 100000 in
theorem d_105_39 : decode (mB 105) 39 = .ok (.aload_n 0, 1) := by decide +kernel
set_option maxRecDepth 100000 in
theorem d_105_40 : decode (mB 105) 40 = .ok (.getfield 49, 3) := by decide +kernel
set_option maxRecDepth 100000 in
theorem d_105_43 : decode (mB 105) 43 = .ok (.iload_n 1, 1) := by decide +kernel
set_option maxRecDepth 100000 in
theorem d_105_44 : decode (mB 105) 44 = .ok (.aaload, 1) := by decide +kernel
set_option maxRecDepth 100000 in
theorem d_105_45 : decode (mB 105) 45 = .ok (.iload_n 2, 1) := by decide +kernel
set_option maxRecDepth 100000 in
theorem d_105_46 : decode (mB 105) 46 = .ok (.iaload, 1) := by decide +kernel
set_option maxRecDepth 100000 in
theorem d_105_47 : decode (mB 105) 47 = .ok (.ifCond .lt 7, 3) := by decide +kernel
set_option maxRecDepth 100000 in
theorem d_105_50 : decode (mB 105) 50 = .ok (.iconst 1, 1) := by decide +kernel
set_option maxRecDepth 100000 in
theorem d_105_51 : decode (mB 105) 51 = .ok (.goto 4, 3) := by decide +kernel
set_option maxRecDepth 100000 in
theorem d_105_54 : decode (mB 105) 54 = .ok (.iconst 0, 1) := by decide +kernel
set_option maxRecDepth 100000 in
theorem d_105_55 : decode (mB 105) 55 = .ok (.istore_n 3, 1) := by decide +kernel
set_option maxRecDepth 100000 in
theorem d_105_56 : decode (mB 105) 56 = .ok (.aload_n 0, 1) := by decide +kernel
set_option maxRecDepth 100000 in
theorem d_105_57 : decode (mB 105) 57 = .ok (.getfield 49, 3) := by decide +kernel
set_option maxRecDepth 100000 in
theorem d_105_60 : decode (mB 105) 60 = .ok (.iload_n 1, 1) := by decide +kernel
set_option maxRecDepth 100000 in
theorem d_105_61 : decode (mB 105) 61 = .ok (.aaload, 1) := by decide +kernel
set_option maxRecDepth 100000 in
theorem d_105_62 : decode (mB 105) 62 = .ok (.iload_n 2, 1) := by decide +kernel
set_option maxRecDepth 100000 in
theorem d_105_63 : decode (mB 105) 63 = .ok (.iconst (-1), 1) := by decide +kernel
set_option maxRecDepth 100000 in
theorem d_105_64 : decode (mB 105) 64 = .ok (.iastore, 1) := by decide +kernel
set_option maxRecDepth 100000 in
theorem d_105_65 : decode (mB 105) 65 = .ok (.aload_n 0, 1) := by decide +kernel
set_option maxRecDepth 100000 in
theorem d_105_66 : decode (mB 105) 66 = .ok (.getfield 10, 3) := by decide +kernel
set_option maxRecDepth 100000 in
theorem d_105_69 : decode (mB 105) 69 = .ok (.iload_n 1, 1) := by decide +kernel
set_option maxRecDepth 100000 in
theorem d_105_70 : decode (mB 105) 70 = .ok (.iload_n 2, 1) := by decide +kernel
set_option maxRecDepth 100000 in
theorem d_105_71 : decode (mB 105) 71 = .ok (.invokevirtual 120, 3) := by decide +kernel
set_option maxRecDepth 100000 in
theorem d_105_74 : decode (mB 105) 74 = .ok (.iload_n 3, 1) := by decide +kernel
set_option maxRecDepth 100000 in
theorem d_105_75 : decode (mB 105) 75 = .ok (.if_icmp .ne 7, 3) := by decide +kernel
set_option maxRecDepth 100000 in
theorem d_105_78 : decode (mB 105) 78 = .ok (.iconst 1, 1) := by decide +kernel
set_option maxRecDepth 100000 in
theorem d_105_79 : decode (mB 105) 79 = .ok (.goto 4, 3) := by decide +kernel
set_option maxRecDepth 100000 in
theorem d_105_83 : decode (mB 105) 83 = .ok (.ireturn, 1) := by decide +kernel
set_option maxRecDepth 100000 in
theorem d_105_84 : decode (mB 105) 84 = .ok (.aload_n 0, 1) := by decide +kernel
set_option maxRecDepth 100000 in
theorem d_105_85 : decode (mB 105) 85 = .ok (.getfield 49, 3) := by decide +kernel
set_option maxRecDepth 100000 in
theorem d_105_88 : decode (mB 105) 88 = .ok (.iload_n 1, 1) := by decide +kernel
set_option maxRecDepth 100000 in
theorem d_105_89 : decode (mB 105) 89 = .ok (.aaload, 1) := by decide +kernel
set_option maxRecDepth 100000 in
theorem d_105_90 : decode (mB 105) 90 = .ok (.iload_n 2, 1) := by decide +kernel
set_option maxRecDepth 100000 in
theorem d_105_91 : decode (mB 105) 91 = .ok (.iaload, 1) := by decide +kernel
set_option maxRecDepth 100000 in
theorem d_105_92 : decode (mB 105) 92 = .ok (.istore_n 3, 1) := by decide +kernel
set_option maxRecDepth 100000 in
theorem d_105_93 : decode (mB 105) 93 = .ok (.aload_n 0, 1) := by decide +kernel
set_option maxRecDepth 100000 in
theorem d_105_94 : decode (mB 105) 94 = .ok (.getfield 49, 3) := by decide +kernel
set_option maxRecDepth 100000 in
theorem d_105_97 : decode (mB 105) 97 = .ok (.iload_n 1, 1) := by decide +kernel
set_option maxRecDepth 100000 in
theorem d_105_98 : decode (mB 105) 98 = .ok (.aaload, 1) := by decide +kernel
set_option maxRecDepth 100000 in
theorem d_105_99 : decode (mB 105) 99 = .ok (.iload_n 2, 1) := by decide +kernel
set_option maxRecDepth 100000 in
theorem d_105_100 : decode (mB 105) 100 = .ok (.aload_n 0, 1) := by decide +kernel
set_option maxRecDepth 100000 in
theorem d_105_101 : decode (mB 105) 101 = .ok (.bipush 90, 2) := by decide +kernel
set_option maxRecDepth 100000 in
theorem d_105_103 : decode (mB 105) 103 = .ok (.invokevirtual 69, 3) := by decide +kernel
set_option maxRecDepth 100000 in
theorem d_105_106 : decode (mB 105) 106 = .ok (.iastore, 1) := by decide +kernel
set_option maxRecDepth 100000 in
theorem d_105_107 : decode (mB 105) 107 = .ok (.aload_n 0, 1) := by decide +kernel
set_option maxRecDepth 100000 in
theorem d_105_108 : decode (mB 105) 108 = .ok (.getfield 10, 3) := by decide +kernel
set_option maxRecDepth 100000 in
theorem d_105_111 : decode (mB 105) 111 = .ok (.iload_n 1, 1) := by decide +kernel
set_option maxRecDepth 100000 in
theorem d_105_112 : decode (mB 105) 112 = .ok (.iload_n 2, 1) := by decide +kernel
set_option maxRecDepth 100000 in
theorem d_105_113 : decode (mB 105) 113 = .ok (.aload_n 0, 1) := by decide +kernel
set_option maxRecDepth 100000 in
theorem d_105_114 : decode (mB 105) 114 = .ok (.getfield 49, 3) := by decide +kernel
set_option maxRecDepth 100000 in
theorem d_105_117 : decode (mB 105) 117 = .ok (.iload_n 1, 1) := by decide +kernel
set_option maxRecDepth 100000 in
theorem d_105_118 : decode (mB 105) 118 = .ok (.aaload, 1) := by decide +kernel
set_option maxRecDepth 100000 in
theorem d_105_119 : decode (mB 105) 119 = .ok (.iload_n 2, 1) := by decide +kernel
set_option maxRecDepth 100000 in
theorem d_105_120 : decode (mB 105) 120 = .ok (.iaload, 1) := by decide +kernel
set_option maxRecDepth 100000 in
theorem d_105_121 : decode (mB 105) 121 = .ok (.invokevirtual 124, 3) := by decide +kernel
set_option maxRecDepth 100000 in
theorem d_105_124 : decode (mB 105) 124 = .ok (.iload_n 3, 1) := by decide +kernel
set_option maxRecDepth 100000 in
theorem d_105_125 : decode (mB 105) 125 = .ok (.if_icmp .ne 7, 3) := by decide +kernel
set_option maxRecDepth 100000 in
theorem d_105_128 : decode (mB 105) 128 = .ok (.iconst 1, 1) := by decide +kernel
set_option maxRecDepth 100000 in
theorem d_105_129 : decode (mB 105) 129 = .ok (.goto 4, 3) := by decide +kernel
set_option maxRecDepth 100000 in
theorem d_105_133 : decode (mB 105) 133 = .ok (.ireturn, 1) := by decide +kernel
