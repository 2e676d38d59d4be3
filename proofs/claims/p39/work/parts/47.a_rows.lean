set_option maxRecDepth 100000 in
theorem cd_67 : cdP 67 := ⟨okr (k := 416) rfl (by decide +kernel), by decide +kernel, by decide +kernel, okk_w (k := 40) (by decide +kernel)⟩
set_option maxRecDepth 100000 in
theorem fl_6_36 : flP "WhistleStop$Journey" 36 6 0 := ⟨_, rfl, by decide, okk_w (k := 718) (by decide +kernel)⟩
set_option maxRecDepth 100000 in
theorem fl_6_40 : flP "WhistleStop$Journey" 40 6 1 := ⟨_, rfl, by decide, okk_w (k := 720) (by decide +kernel)⟩
set_option maxRecDepth 100000 in
theorem fl_6_44 : flP "WhistleStop$Journey" 44 6 2 := ⟨_, rfl, by decide, okk_w (k := 721) (by decide +kernel)⟩
set_option maxRecDepth 100000 in
theorem fl_6_47 : flP "WhistleStop$Journey" 47 6 3 := ⟨_, rfl, by decide, okk_w (k := 722) (by decide +kernel)⟩
set_option maxRecDepth 100000 in
theorem fl_6_50 : flP "WhistleStop$Journey" 50 6 4 := ⟨_, rfl, by decide, okk_w (k := 723) (by decide +kernel)⟩
set_option maxRecDepth 100000 in
theorem fl_6_53 : flP "WhistleStop$Journey" 53 6 12 := ⟨_, rfl, by decide, okk_w (k := 735) (by decide +kernel)⟩
set_option maxRecDepth 100000 in
theorem fl_6_56 : flP "WhistleStop$Journey" 56 6 13 := ⟨_, rfl, by decide, okk_w (k := 737) (by decide +kernel)⟩
set_option maxRecDepth 100000 in
theorem d_59_0 : decode (mB 59) 0 = .ok (.aload_n 0, 1) := by decide +kernel
set_option maxRecDepth 100000 in
theorem d_59_1 : decode (mB 59) 1 = .ok (.iconst 0, 1) := by decide +kernel
set_option maxRecDepth 100000 in
theorem d_59_2 : decode (mB 59) 2 = .ok (.putfield 36, 3) := by decide +kernel
set_option maxRecDepth 100000 in
theorem d_59_5 : decode (mB 59) 5 = .ok (.aload_n 0, 1) := by decide +kernel
set_option maxRecDepth 100000 in
theorem d_59_6 : decode (mB 59) 6 = .ok (.iload_n 1, 1) := by decide +kernel
set_option maxRecDepth 100000 in
theorem d_59_7 : decode (mB 59) 7 = .ok (.putfield 40, 3) := by decide +kernel
set_option maxRecDepth 100000 in
theorem d_59_10 : decode (mB 59) 10 = .ok (.aload_n 0, 1) := by decide +kernel
set_option maxRecDepth 100000 in
theorem d_59_11 : decode (mB 59) 11 = .ok (.iload_n 2, 1) := by decide +kernel
set_option maxRecDepth 100000 in
theorem d_59_12 : decode (mB 59) 12 = .ok (.putfield 44, 3) := by decide +kernel
set_option maxRecDepth 100000 in
theorem d_59_15 : decode (mB 59) 15 = .ok (.aload_n 0, 1) := by decide +kernel
set_option maxRecDepth 100000 in
theorem d_59_16 : decode (mB 59) 16 = .ok (.iload_n 3, 1) := by decide +kernel
set_option maxRecDepth 100000 in
theorem d_59_17 : decode (mB 59) 17 = .ok (.putfield 47, 3) := by decide +kernel
set_option maxRecDepth 100000 in
theorem d_59_20 : decode (mB 59) 20 = .ok (.aload_n 0, 1) := by decide +kernel
set_option maxRecDepth 100000 in
theorem d_59_21 : decode (mB 59) 21 = .ok (.iconst 0, 1) := by decide +kernel
set_option maxRecDepth 100000 in
theorem d_59_22 : decode (mB 59) 22 = .ok (.putfield 50, 3) := by decide +kernel
set_option maxRecDepth 100000 in
theorem d_59_25 : decode (mB 59) 25 = .ok (.aload_n 0, 1) := by decide +kernel
set_option maxRecDepth 100000 in
theorem d_59_26 : decode (mB 59) 26 = .ok (.iconst (-1), 1) := by decide +kernel
set_option maxRecDepth 100000 in
theorem d_59_27 : decode (mB 59) 27 = .ok (.putfield 53, 3) := by decide +kernel
set_option maxRecDepth 100000 in
theorem d_59_30 : decode (mB 59) 30 = .ok (.aload_n 0, 1) := by decide +kernel
set_option maxRecDepth 100000 in
theorem d_59_31 : decode (mB 59) 31 = .ok (.iconst 0, 1) := by decide +kernel
set_option maxRecDepth 100000 in
theorem d_59_32 : decode (mB 59) 32 = .ok (.putfield 56, 3) := by decide +kernel
set_option maxRecDepth 100000 in
theorem d_59_35 : decode (mB 59) 35 = .ok (.return_, 1) := by decide +kernel
set_option maxRecDepth 100000 in
theorem d_61_0 : decode (mB 61) 0 = .ok (.aload_n 0, 1) := by decide +kernel
set_option maxRecDepth 100000 in
theorem d_61_1 : decode (mB 61) 1 = .ok (.getfield 50, 3) := by decide +kernel
set_option maxRecDepth 100000 in
theorem d_61_4 : decode (mB 61) 4 = .ok (.ifCond .le 17, 3) := by decide +kernel
set_option maxRecDepth 100000 in
theorem d_61_7 : decode (mB 61) 7 = .ok (.aload_n 0, 1) := by decide +kernel
set_option maxRecDepth 100000 in
theorem d_61_8 : decode (mB 61) 8 = .ok (.getfield 27, 3) := by decide +kernel
set_option maxRecDepth 100000 in
theorem d_61_11 : decode (mB 61) 11 = .ok (.aload_n 0, 1) := by decide +kernel
set_option maxRecDepth 100000 in
theorem d_61_12 : decode (mB 61) 12 = .ok (.getfield 50, 3) := by decide +kernel
set_option maxRecDepth 100000 in
theorem d_61_15 : decode (mB 61) 15 = .ok (.iconst 1, 1) := by decide +kernel
set_option maxRecDepth 100000 in
theorem d_61_16 : decode (mB 61) 16 = .ok (.isub, 1) := by decide +kernel
set_option maxRecDepth 100000 in
theorem d_61_17 : decode (mB 61) 17 = .ok (.iaload, 1) := by decide +kernel
set_option maxRecDepth 100000 in
theorem d_61_18 : decode (mB 61) 18 = .ok (.goto 7, 3) := by decide +kernel
set_option maxRecDepth 100000 in
theorem d_61_21 : decode (mB 61) 21 = .ok (.aload_n 0, 1) := by decide +kernel
set_option maxRecDepth 100000 in
theorem d_61_22 : decode (mB 61) 22 = .ok (.getfield 40, 3) := by decide +kernel
set_option maxRecDepth 100000 in
theorem d_61_25 : decode (mB 61) 25 = .ok (.ireturn, 1) := by decide +kernel
set_option maxRecDepth 100000 in
theorem fl_6_91 : flP "WhistleStop$Journey" 91 11 3 := ⟨_, rfl, by decide, okk_w (k := 962) (by decide +kernel)⟩
set_option maxRecDepth 100000 in
theorem fl_6_94 : flP "WhistleStop$Journey" 94 11 5 := ⟨_, rfl, by decide, okk_w (k := 974) (by decide +kernel)⟩
set_option maxRecDepth 100000 in
theorem d_63_0 : decode (mB 63) 0 = .ok (.aload_n 0, 1) := by decide +kernel
set_option maxRecDepth 100000 in
theorem d_63_1 : decode (mB 63) 1 = .ok (.getfield 50, 3) := by decide +kernel
set_option maxRecDepth 100000 in
theorem d_63_4 : decode (mB 63) 4 = .ok (.ifCond .le 17, 3) := by decide +kernel
set_option maxRecDepth 100000 in
theorem d_63_7 : decode (mB 63) 7 = .ok (.aload_n 0, 1) := by decide +kernel
set_option maxRecDepth 100000 in
theorem d_63_8 : decode (mB 63) 8 = .ok (.getfield 33, 3) := by decide +kernel
set_option maxRecDepth 100000 in
theorem d_63_11 : decode (mB 63) 11 = .ok (.aload_n 0, 1) := by decide +kernel
set_option maxRecDepth 100000 in
theorem d_63_12 : decode (mB 63) 12 = .ok (.getfield 50, 3) := by decide +kernel
set_option maxRecDepth 100000 in
theorem d_63_15 : decode (mB 63) 15 = .ok (.iconst 1, 1) := by decide +kernel
set_option maxRecDepth 100000 in
theorem d_63_16 : decode (mB 63) 16 = .ok (.isub, 1) := by decide +kernel
set_option maxRecDepth 100000 in
theorem d_63_17 : decode (mB 63) 17 = .ok (.iaload, 1) := by decide +kernel
set_option maxRecDepth 100000 in
theorem d_63_18 : decode (mB 63) 18 = .ok (.goto 7, 3) := by decide +kernel
set_option maxRecDepth 100000 in
theorem d_63_21 : decode (mB 63) 21 = .ok (.aload_n 0, 1) := by decide +kernel
set_option maxRecDepth 100000 in
theorem d_63_22 : decode (mB 63) 22 = .ok (.getfield 47, 3) := by decide +kernel
set_option maxRecDepth 100000 in
theorem d_63_25 : decode (mB 63) 25 = .ok (.ireturn, 1) := by decide +kernel
set_option maxRecDepth 100000 in
theorem d_64_0 : decode (mB 64) 0 = .ok (.aload_n 0, 1) := by decide +kernel
set_option maxRecDepth 100000 in
theorem d_64_1 : decode (mB 64) 1 = .ok (.getfield 50, 3) := by decide +kernel
set_option maxRecDepth 100000 in
theorem d_64_4 : decode (mB 64) 4 = .ok (.ifCond .le 21, 3) := by decide +kernel
set_option maxRecDepth 100000 in
theorem d_64_7 : decode (mB 64) 7 = .ok (.aload_n 0, 1) := by decide +kernel
set_option maxRecDepth 100000 in
theorem d_64_8 : decode (mB 64) 8 = .ok (.getfield 11, 3) := by decide +kernel
set_option maxRecDepth 100000 in
theorem d_64_11 : decode (mB 64) 11 = .ok (.aload_n 0, 1) := by decide +kernel
set_option maxRecDepth 100000 in
theorem d_64_12 : decode (mB 64) 12 = .ok (.getfield 50, 3) := by decide +kernel
set_option maxRecDepth 100000 in
theorem d_64_15 : decode (mB 64) 15 = .ok (.iconst 1, 1) := by decide +kernel
set_option maxRecDepth 100000 in
theorem d_64_16 : decode (mB 64) 16 = .ok (.isub, 1) := by decide +kernel
set_option maxRecDepth 100000 in
theorem d_64_17 : decode (mB 64) 17 = .ok (.aaload, 1) := by decide +kernel
set_option maxRecDepth 100000 in
theorem d_64_18 : decode (mB 64) 18 = .ok (.ifnull 7, 3) := by decide +kernel
set_option maxRecDepth 100000 in
theorem d_64_21 : decode (mB 64) 21 = .ok (.iconst 1, 1) := by decide +kernel
set_option maxRecDepth 100000 in
theorem d_64_22 : decode (mB 64) 22 = .ok (.goto 4, 3) := by decide +kernel
set_option maxRecDepth 100000 in
theorem d_64_25 : decode (mB 64) 25 = .ok (.iconst 0, 1) := by decide +kernel
set_option maxRecDepth 100000 in
theorem d_64_26 : decode (mB 64) 26 = .ok (.ireturn, 1) := by decide +kernel
set_option maxRecDepth 100000 in
theorem fl_6_112 : flP "WhistleStop$Journey" 112 11 4 := ⟨_, rfl, by decide, okk_w (k := 968) (by decide +kernel)⟩
set_option maxRecDepth 100000 in
theorem c_66_115 : cvP 66 115 95 1 := ⟨cd_95, okk_w (k := 411) (by decide +kernel), okk_w (k := 201) (by decide +kernel), okk_w (k := 202) (by decide +kernel), by decide +kernel, by decide +kernel⟩
set_option maxRecDepth 100000 in
theorem c_66_119 : csP 66 119 111 2 := ⟨cd_111, okk_w (k := 412) (by decide +kernel), okk_w (k := 180) (by decide +kernel), by decide +kernel, by decide +kernel⟩
set_option maxRecDepth 100000 in
theorem fl_6_125 : flP "WhistleStop$Journey" 125 11 2 := ⟨_, rfl, by decide, okk_w (k := 958) (by decide +kernel)⟩
set_option maxRecDepth 100000 in
theorem c_66_126 : cvP 66 126 67 3 := ⟨cd_67, okk_w (k := 413) (by decide +kernel), okk_w (k := 415) (by decide +kernel), okk_w (k := 25) (by decide +kernel), by decide +kernel, by decide +kernel⟩
set_option maxRecDepth 100000 in
theorem d_66_0 : decode (mB 66) 0 = .ok (.aload_n 1, 1) := by decide +kernel
set_option maxRecDepth 100000 in
theorem d_66_1 : decode (mB 66) 1 = .ok (.iload_n 2, 1) := by decide +kernel
set_option maxRecDepth 100000 in
theorem d_66_2 : decode (mB 66) 2 = .ok (.invokevirtual 115, 3) := by decide +kernel
set_option maxRecDepth 100000 in
theorem d_66_5 : decode (mB 66) 5 = .ok (.istore 6, 2) := by decide +kernel
set_option maxRecDepth 100000 in
theorem d_66_7 : decode (mB 66) 7 = .ok (.iload 6, 2) := by decide +kernel
set_option maxRecDepth 100000 in
theorem d_66_9 : decode (mB 66) 9 = .ok (.aload_n 1, 1) := by decide +kernel
set_option maxRecDepth 100000 in
theorem d_66_10 : decode (mB 66) 10 = .ok (.getfield 94, 3) := by decide +kernel
set_option maxRecDepth 100000 in
theorem d_66_13 : decode (mB 66) 13 = .ok (.iload_n 3, 1) := by decide +kernel
set_option maxRecDepth 100000 in
theorem d_66_14 : decode (mB 66) 14 = .ok (.iaload, 1) := by decide +kernel
set_option maxRecDepth 100000 in
theorem d_66_15 : decode (mB 66) 15 = .ok (.iadd, 1) := by decide +kernel
set_option maxRecDepth 100000 in
theorem d_66_16 : decode (mB 66) 16 = .ok (.istore 7, 2) := by decide +kernel
set_option maxRecDepth 100000 in
theorem d_66_18 : decode (mB 66) 18 = .ok (.aload_n 0, 1) := by decide +kernel
set_option maxRecDepth 100000 in
theorem d_66_19 : decode (mB 66) 19 = .ok (.getfield 50, 3) := by decide +kernel
set_option maxRecDepth 100000 in
theorem d_66_22 : decode (mB 66) 22 = .ok (.ifCond .le 35, 3) := by decide +kernel
set_option maxRecDepth 100000 in
theorem d_66_25 : decode (mB 66) 25 = .ok (.aload_n 0, 1) := by decide +kernel
set_option maxRecDepth 100000 in
theorem d_66_26 : decode (mB 66) 26 = .ok (.aload_n 0, 1) := by decide +kernel
set_option maxRecDepth 100000 in
theorem d_66_27 : decode (mB 66) 27 = .ok (.getfield 53, 3) := by decide +kernel
set_option maxRecDepth 100000 in
theorem d_66_30 : decode (mB 66) 30 = .ok (.iconst (-1), 1) := by decide +kernel
set_option maxRecDepth 100000 in
theorem d_66_31 : decode (mB 66) 31 = .ok (.if_icmp .ne 11, 3) := by decide +kernel
set_option maxRecDepth 100000 in
theorem d_66_34 : decode (mB 66) 34 = .ok (.iload 7, 2) := by decide +kernel
set_option maxRecDepth 100000 in
theorem d_66_36 : decode (mB 66) 36 = .ok (.iload 5, 2) := by decide +kernel
set_option maxRecDepth 100000 in
theorem d_66_38 : decode (mB 66) 38 = .ok (.isub, 1) := by decide +kernel
set_option maxRecDepth 100000 in
theorem d_66_39 : decode (mB 66) 39 = .ok (.goto 15, 3) := by decide +kernel
set_option maxRecDepth 100000 in
theorem d_66_42 : decode (mB 66) 42 = .ok (.aload_n 0, 1) := by decide +kernel
set_option maxRecDepth 100000 in
theorem d_66_43 : decode (mB 66) 43 = .ok (.getfield 53, 3) := by decide +kernel
set_option maxRecDepth 100000 in
theorem d_66_46 : decode (mB 66) 46 = .ok (.iload 7, 2) := by decide +kernel
set_option maxRecDepth 100000 in
theorem d_66_48 : decode (mB 66) 48 = .ok (.iload 5, 2) := by decide +kernel
set_option maxRecDepth 100000 in
theorem d_66_50 : decode (mB 66) 50 = .ok (.isub, 1) := by decide +kernel
set_option maxRecDepth 100000 in
theorem d_66_51 : decode (mB 66) 51 = .ok (.invokestatic 119, 3) := by decide +kernel
set_option maxRecDepth 100000 in
theorem d_66_54 : decode (mB 66) 54 = .ok (.putfield 53, 3) := by decide +kernel
set_option maxRecDepth 100000 in
theorem d_66_57 : decode (mB 66) 57 = .ok (.aload_n 0, 1) := by decide +kernel
set_option maxRecDepth 100000 in
theorem d_66_58 : decode (mB 66) 58 = .ok (.dup, 1) := by decide +kernel
set_option maxRecDepth 100000 in
theorem d_66_59 : decode (mB 66) 59 = .ok (.getfield 56, 3) := by decide +kernel
set_option maxRecDepth 100000 in
theorem d_66_62 : decode (mB 66) 62 = .ok (.aload_n 1, 1) := by decide +kernel
set_option maxRecDepth 100000 in
theorem d_66_63 : decode (mB 66) 63 = .ok (.getfield 125, 3) := by decide +kernel
set_option maxRecDepth 100000 in
theorem d_66_66 : decode (mB 66) 66 = .ok (.iadd, 1) := by decide +kernel
set_option maxRecDepth 100000 in
theorem d_66_67 : decode (mB 66) 67 = .ok (.putfield 56, 3) := by decide +kernel
set_option maxRecDepth 100000 in
theorem d_66_70 : decode (mB 66) 70 = .ok (.aload_n 0, 1) := by decide +kernel
set_option maxRecDepth 100000 in
theorem d_66_71 : decode (mB 66) 71 = .ok (.getfield 11, 3) := by decide +kernel
set_option maxRecDepth 100000 in
theorem d_66_74 : decode (mB 66) 74 = .ok (.aload_n 0, 1) := by decide +kernel
set_option maxRecDepth 100000 in
theorem d_66_75 : decode (mB 66) 75 = .ok (.getfield 50, 3) := by decide +kernel
set_option maxRecDepth 100000 in
theorem d_66_78 : decode (mB 66) 78 = .ok (.aload_n 1, 1) := by decide +kernel
set_option maxRecDepth 100000 in
theorem d_66_79 : decode (mB 66) 79 = .ok (.aastore, 1) := by decide +kernel
set_option maxRecDepth 100000 in
theorem d_66_80 : decode (mB 66) 80 = .ok (.aload_n 0, 1) := by decide +kernel
set_option maxRecDepth 100000 in
theorem d_66_81 : decode (mB 66) 81 = .ok (.getfield 17, 3) := by decide +kernel
set_option maxRecDepth 100000 in
theorem d_66_84 : decode (mB 66) 84 = .ok (.aload_n 0, 1) := by decide +kernel
set_option maxRecDepth 100000 in
theorem d_66_85 : decode (mB 66) 85 = .ok (.getfield 50, 3) := by decide +kernel
set_option maxRecDepth 100000 in
theorem d_66_88 : decode (mB 66) 88 = .ok (.iload_n 2, 1) := by decide +kernel
set_option maxRecDepth 100000 in
theorem d_66_89 : decode (mB 66) 89 = .ok (.iastore, 1) := by decide +kernel
set_option maxRecDepth 100000 in
theorem d_66_90 : decode (mB 66) 90 = .ok (.aload_n 0, 1) := by decide +kernel
set_option maxRecDepth 100000 in
theorem d_66_91 : decode (mB 66) 91 = .ok (.getfield 21, 3) := by decide +kernel
set_option maxRecDepth 100000 in
theorem d_66_94 : decode (mB 66) 94 = .ok (.aload_n 0, 1) := by decide +kernel
set_option maxRecDepth 100000 in
theorem d_66_95 : decode (mB 66) 95 = .ok (.getfield 50, 3) := by decide +kernel
set_option maxRecDepth 100000 in
theorem d_66_98 : decode (mB 66) 98 = .ok (.iload_n 3, 1) := by decide +kernel
set_option maxRecDepth 100000 in
theorem d_66_99 : decode (mB 66) 99 = .ok (.iastore, 1) := by decide +kernel
set_option maxRecDepth 100000 in
theorem d_66_100 : decode (mB 66) 100 = .ok (.aload_n 0, 1) := by decide +kernel
set_option maxRecDepth 100000 in
theorem d_66_101 : decode (mB 66) 101 = .ok (.getfield 24, 3) := by decide +kernel
set_option maxRecDepth 100000 in
theorem d_66_104 : decode (mB 66) 104 = .ok (.aload_n 0, 1) := by decide +kernel
set_option maxRecDepth 100000 in
theorem d_66_105 : decode (mB 66) 105 = .ok (.getfield 50, 3) := by decide +kernel
set_option maxRecDepth 100000 in
theorem d_66_108 : decode (mB 66) 108 = .ok (.iload 4, 2) := by decide +kernel
set_option maxRecDepth 100000 in
theorem d_66_110 : decode (mB 66) 110 = .ok (.iastore, 1) := by decide +kernel
set_option maxRecDepth 100000 in
theorem d_66_111 : decode (mB 66) 111 = .ok (.aload_n 0, 1) := by decide +kernel
set_option maxRecDepth 100000 in
theorem d_66_112 : decode (mB 66) 112 = .ok (.aload_n 1, 1) := by decide +kernel
set_option maxRecDepth 100000 in
theorem d_66_113 : decode (mB 66) 113 = .ok (.getfield 91, 3) := by decide +kernel
set_option maxRecDepth 100000 in
theorem d_66_116 : decode (mB 66) 116 = .ok (.iload 4, 2) := by decide +kernel
set_option maxRecDepth 100000 in
theorem d_66_118 : decode (mB 66) 118 = .ok (.iaload, 1) := by decide +kernel
set_option maxRecDepth 100000 in
theorem d_66_119 : decode (mB 66) 119 = .ok (.iload 7, 2) := by decide +kernel
set_option maxRecDepth 100000 in
theorem d_66_121 : decode (mB 66) 121 = .ok (.iload 6, 2) := by decide +kernel
set_option maxRecDepth 100000 in
theorem d_66_123 : decode (mB 66) 123 = .ok (.aload_n 1, 1) := by decide +kernel
set_option maxRecDepth 100000 in
theorem d_66_124 : decode (mB 66) 124 = .ok (.getfield 112, 3) := by decide +kernel
set_option maxRecDepth 100000 in
theorem d_66_127 : decode (mB 66) 127 = .ok (.iload 4, 2) := by decide +kernel
set_option maxRecDepth 100000 in
theorem d_66_129 : decode (mB 66) 129 = .ok (.iaload, 1) := by decide +kernel
set_option maxRecDepth 100000 in
theorem d_66_130 : decode (mB 66) 130 = .ok (.iadd, 1) := by decide +kernel
set_option maxRecDepth 100000 in
theorem d_66_131 : decode (mB 66) 131 = .ok (.invokevirtual 126, 3) := by decide +kernel
set_option maxRecDepth 100000 in
theorem d_66_134 : decode (mB 66) 134 = .ok (.return_, 1) := by decide +kernel
set_option maxRecDepth 100000 in
theorem d_67_0 : decode (mB 67) 0 = .ok (.aload_n 0, 1) := by decide +kernel
set_option maxRecDepth 100000 in
theorem d_67_1 : decode (mB 67) 1 = .ok (.getfield 27, 3) := by decide +kernel
set_option maxRecDepth 100000 in
theorem d_67_4 : decode (mB 67) 4 = .ok (.aload_n 0, 1) := by decide +kernel
set_option maxRecDepth 100000 in
theorem d_67_5 : decode (mB 67) 5 = .ok (.getfield 50, 3) := by decide +kernel
set_option maxRecDepth 100000 in
theorem d_67_8 : decode (mB 67) 8 = .ok (.iload_n 1, 1) := by decide +kernel
set_option maxRecDepth 100000 in
theorem d_67_9 : decode (mB 67) 9 = .ok (.iastore, 1) := by decide +kernel
set_option maxRecDepth 100000 in
theorem d_67_10 : decode (mB 67) 10 = .ok (.aload_n 0, 1) := by decide +kernel
set_option maxRecDepth 100000 in
theorem d_67_11 : decode (mB 67) 11 = .ok (.getfield 30, 3) := by decide +kernel
set_option maxRecDepth 100000 in
theorem d_67_14 : decode (mB 67) 14 = .ok (.aload_n 0, 1) := by decide +kernel
set_option maxRecDepth 100000 in
theorem d_67_15 : decode (mB 67) 15 = .ok (.getfield 50, 3) := by decide +kernel
set_option maxRecDepth 100000 in
theorem d_67_18 : decode (mB 67) 18 = .ok (.iload_n 2, 1) := by decide +kernel
set_option maxRecDepth 100000 in
theorem d_67_19 : decode (mB 67) 19 = .ok (.iastore, 1) := by decide +kernel
set_option maxRecDepth 100000 in
theorem d_67_20 : decode (mB 67) 20 = .ok (.aload_n 0, 1) := by decide +kernel
set_option maxRecDepth 100000 in
theorem d_67_21 : decode (mB 67) 21 = .ok (.getfield 33, 3) := by decide +kernel
set_option maxRecDepth 100000 in
theorem d_67_24 : decode (mB 67) 24 = .ok (.aload_n 0, 1) := by decide +kernel
set_option maxRecDepth 100000 in
theorem d_67_25 : decode (mB 67) 25 = .ok (.getfield 50, 3) := by decide +kernel
set_option maxRecDepth 100000 in
theorem d_67_28 : decode (mB 67) 28 = .ok (.iload_n 3, 1) := by decide +kernel
set_option maxRecDepth 100000 in
theorem d_67_29 : decode (mB 67) 29 = .ok (.iastore, 1) := by decide +kernel
set_option maxRecDepth 100000 in
theorem d_67_30 : decode (mB 67) 30 = .ok (.aload_n 0, 1) := by decide +kernel
set_option maxRecDepth 100000 in
theorem d_67_31 : decode (mB 67) 31 = .ok (.dup, 1) := by decide +kernel
set_option maxRecDepth 100000 in
theorem d_67_32 : decode (mB 67) 32 = .ok (.getfield 50, 3) := by decide +kernel
set_option maxRecDepth 100000 in
theorem d_67_35 : decode (mB 67) 35 = .ok (.iconst 1, 1) := by decide +kernel
set_option maxRecDepth 100000 in
theorem d_67_36 : decode (mB 67) 36 = .ok (.iadd, 1) := by decide +kernel
set_option maxRecDepth 100000 in
theorem d_67_37 : decode (mB 67) 37 = .ok (.putfield 50, 3) := by decide +kernel
set_option maxRecDepth 100000 in
theorem d_67_40 : decode (mB 67) 40 = .ok (.return_, 1) := by decide +kernel
