set_option maxRecDepth 100000 in
theorem cd_50 : cdP 50 := ⟨okr (k := 920) rfl (by decide +kernel), by decide +kernel, by decide +kernel, okk_w (k := 48) (by decide +kernel)⟩
set_option maxRecDepth 100000 in
theorem cd_58 : cdP 58 := ⟨okr (k := 888) rfl (by decide +kernel), by decide +kernel, by decide +kernel, okk_w (k := 47) (by decide +kernel)⟩
set_option maxRecDepth 100000 in
theorem cd_97 : cdP 97 := ⟨okr (k := 950) rfl (by decide +kernel), by decide +kernel, by decide +kernel, okk_w (k := 50) (by decide +kernel)⟩
set_option maxRecDepth 100000 in
theorem cd_98 : cdP 98 := ⟨okr (k := 1005) rfl (by decide +kernel), by decide +kernel, by decide +kernel, okk_w (k := 50) (by decide +kernel)⟩
set_option maxRecDepth 100000 in
theorem fl_0_97 : flP "WhistleStop" 97 7 6 := ⟨_, rfl, by decide, okk_w (k := 569) (by decide +kernel)⟩
set_option maxRecDepth 100000 in
theorem c_31_107 : csP 31 107 2 2 := ⟨cd_2, okk_w (k := 62) (by decide +kernel), okk_w (k := 63) (by decide +kernel), by decide +kernel, by decide +kernel⟩
set_option maxRecDepth 100000 in
theorem c_31_93 : csP 31 93 7 1 := ⟨cd_7, okk_w (k := 870) (by decide +kernel), okk_w (k := 187) (by decide +kernel), by decide +kernel, by decide +kernel⟩
set_option maxRecDepth 100000 in
theorem c_31_62 : csP 31 62 5 1 := ⟨cd_5, okk_w (k := 142) (by decide +kernel), okk_w (k := 143) (by decide +kernel), by decide +kernel, by decide +kernel⟩
set_option maxRecDepth 100000 in
theorem fl_0_100 : flP "WhistleStop" 100 7 2 := ⟨_, rfl, by decide, okk_w (k := 557) (by decide +kernel)⟩
set_option maxRecDepth 100000 in
theorem c_31_111 : cvP 31 111 49 1 := ⟨cd_49, okk_w (k := 871) (by decide +kernel), okk_w (k := 190) (by decide +kernel), okk_w (k := 191) (by decide +kernel), by decide +kernel, by decide +kernel⟩
set_option maxRecDepth 100000 in
theorem fl_0_114 : flP "WhistleStop" 114 3 3 := ⟨_, rfl, by decide, okk_w (k := 926) (by decide +kernel)⟩
set_option maxRecDepth 100000 in
theorem d_31_0 : decode (mB 31) 0 = .ok (.iload_n 1, 1) := by decide +kernel
set_option maxRecDepth 100000 in
theorem d_31_1 : decode (mB 31) 1 = .ok (.aload_n 0, 1) := by decide +kernel
set_option maxRecDepth 100000 in
theorem d_31_2 : decode (mB 31) 2 = .ok (.getfield 12, 3) := by decide +kernel
set_option maxRecDepth 100000 in
theorem d_31_5 : decode (mB 31) 5 = .ok (.getfield 97, 3) := by decide +kernel
set_option maxRecDepth 100000 in
theorem d_31_8 : decode (mB 31) 8 = .ok (.invokestatic 107, 3) := by decide +kernel
set_option maxRecDepth 100000 in
theorem d_31_11 : decode (mB 31) 11 = .ok (.iload_n 2, 1) := by decide +kernel
set_option maxRecDepth 100000 in
theorem d_31_12 : decode (mB 31) 12 = .ok (.invokestatic 93, 3) := by decide +kernel
set_option maxRecDepth 100000 in
theorem d_31_15 : decode (mB 31) 15 = .ok (.invokestatic 62, 3) := by decide +kernel
set_option maxRecDepth 100000 in
theorem d_31_18 : decode (mB 31) 18 = .ok (.aload_n 0, 1) := by decide +kernel
set_option maxRecDepth 100000 in
theorem d_31_19 : decode (mB 31) 19 = .ok (.getfield 12, 3) := by decide +kernel
set_option maxRecDepth 100000 in
theorem d_31_22 : decode (mB 31) 22 = .ok (.getfield 100, 3) := by decide +kernel
set_option maxRecDepth 100000 in
theorem d_31_25 : decode (mB 31) 25 = .ok (.iload_n 1, 1) := by decide +kernel
set_option maxRecDepth 100000 in
theorem d_31_26 : decode (mB 31) 26 = .ok (.aaload, 1) := by decide +kernel
set_option maxRecDepth 100000 in
theorem d_31_27 : decode (mB 31) 27 = .ok (.astore 4, 2) := by decide +kernel
set_option maxRecDepth 100000 in
theorem d_31_29 : decode (mB 31) 29 = .ok (.aload 4, 2) := by decide +kernel
set_option maxRecDepth 100000 in
theorem d_31_31 : decode (mB 31) 31 = .ok (.iload_n 2, 1) := by decide +kernel
set_option maxRecDepth 100000 in
theorem d_31_32 : decode (mB 31) 32 = .ok (.invokevirtual 111, 3) := by decide +kernel
set_option maxRecDepth 100000 in
theorem d_31_35 : decode (mB 31) 35 = .ok (.istore 5, 2) := by decide +kernel
set_option maxRecDepth 100000 in
theorem d_31_37 : decode (mB 31) 37 = .ok (.aload 4, 2) := by decide +kernel
set_option maxRecDepth 100000 in
theorem d_31_39 : decode (mB 31) 39 = .ok (.getfield 114, 3) := by decide +kernel
set_option maxRecDepth 100000 in
theorem d_31_42 : decode (mB 31) 42 = .ok (.iload_n 2, 1) := by decide +kernel
set_option maxRecDepth 100000 in
theorem d_31_43 : decode (mB 31) 43 = .ok (.iload_n 3, 1) := by decide +kernel
set_option maxRecDepth 100000 in
theorem d_31_44 : decode (mB 31) 44 = .ok (.ifCond .eq 7, 3) := by decide +kernel
set_option maxRecDepth 100000 in
theorem d_31_47 : decode (mB 31) 47 = .ok (.iconst 1, 1) := by decide +kernel
set_option maxRecDepth 100000 in
theorem d_31_48 : decode (mB 31) 48 = .ok (.goto 4, 3) := by decide +kernel
set_option maxRecDepth 100000 in
theorem d_31_51 : decode (mB 31) 51 = .ok (.iconst 2, 1) := by decide +kernel
set_option maxRecDepth 100000 in
theorem d_31_52 : decode (mB 31) 52 = .ok (.iastore, 1) := by decide +kernel
set_option maxRecDepth 100000 in
theorem d_31_53 : decode (mB 31) 53 = .ok (.iload 5, 2) := by decide +kernel
set_option maxRecDepth 100000 in
theorem d_31_55 : decode (mB 31) 55 = .ok (.ireturn, 1) := by decide +kernel
set_option maxRecDepth 100000 in
theorem c_32_58 : csP 32 58 4 3 := ⟨cd_4, okk_w (k := 139) (by decide +kernel), okk_w (k := 140) (by decide +kernel), by decide +kernel, by decide +kernel⟩
set_option maxRecDepth 100000 in
theorem c_32_62 : csP 32 62 5 1 := ⟨cd_5, okk_w (k := 142) (by decide +kernel), okk_w (k := 143) (by decide +kernel), by decide +kernel, by decide +kernel⟩
set_option maxRecDepth 100000 in
theorem c_32_70 : csP 32 70 17 1 := ⟨cd_17, okk_w (k := 435) (by decide +kernel), okk_w (k := 436) (by decide +kernel), by decide +kernel, by decide +kernel⟩
set_option maxRecDepth 100000 in
theorem fl_0_73 : flP "WhistleStop" 73 7 0 := ⟨_, rfl, by decide, okk_w (k := 545) (by decide +kernel)⟩
set_option maxRecDepth 100000 in
theorem d_32_0 : decode (mB 32) 0 = .ok (.iload_n 1, 1) := by decide +kernel
set_option maxRecDepth 100000 in
theorem d_32_1 : decode (mB 32) 1 = .ok (.iconst 0, 1) := by decide +kernel
set_option maxRecDepth 100000 in
theorem d_32_2 : decode (mB 32) 2 = .ok (.bipush 30, 2) := by decide +kernel
set_option maxRecDepth 100000 in
theorem d_32_4 : decode (mB 32) 4 = .ok (.invokestatic 58, 3) := by decide +kernel
set_option maxRecDepth 100000 in
theorem d_32_7 : decode (mB 32) 7 = .ok (.invokestatic 62, 3) := by decide +kernel
set_option maxRecDepth 100000 in
theorem d_32_10 : decode (mB 32) 10 = .ok (.aload_n 0, 1) := by decide +kernel
set_option maxRecDepth 100000 in
theorem d_32_11 : decode (mB 32) 11 = .ok (.getfield 12, 3) := by decide +kernel
set_option maxRecDepth 100000 in
theorem d_32_14 : decode (mB 32) 14 = .ok (.getfield 66, 3) := by decide +kernel
set_option maxRecDepth 100000 in
theorem d_32_17 : decode (mB 32) 17 = .ok (.bipush 16, 2) := by decide +kernel
set_option maxRecDepth 100000 in
theorem d_32_19 : decode (mB 32) 19 = .ok (.if_icmp .ge 7, 3) := by decide +kernel
set_option maxRecDepth 100000 in
theorem d_32_22 : decode (mB 32) 22 = .ok (.iconst 1, 1) := by decide +kernel
set_option maxRecDepth 100000 in
theorem d_32_23 : decode (mB 32) 23 = .ok (.goto 4, 3) := by decide +kernel
set_option maxRecDepth 100000 in
theorem d_32_27 : decode (mB 32) 27 = .ok (.invokestatic 70, 3) := by decide +kernel
set_option maxRecDepth 100000 in
theorem d_32_30 : decode (mB 32) 30 = .ok (.aload_n 0, 1) := by decide +kernel
set_option maxRecDepth 100000 in
theorem d_32_31 : decode (mB 32) 31 = .ok (.getfield 12, 3) := by decide +kernel
set_option maxRecDepth 100000 in
theorem d_32_34 : decode (mB 32) 34 = .ok (.getfield 73, 3) := by decide +kernel
set_option maxRecDepth 100000 in
theorem d_32_37 : decode (mB 32) 37 = .ok (.aload_n 0, 1) := by decide +kernel
set_option maxRecDepth 100000 in
theorem d_32_38 : decode (mB 32) 38 = .ok (.getfield 12, 3) := by decide +kernel
set_option maxRecDepth 100000 in
theorem d_32_41 : decode (mB 32) 41 = .ok (.getfield 66, 3) := by decide +kernel
set_option maxRecDepth 100000 in
theorem d_32_44 : decode (mB 32) 44 = .ok (.iload_n 1, 1) := by decide +kernel
set_option maxRecDepth 100000 in
theorem d_32_45 : decode (mB 32) 45 = .ok (.iastore, 1) := by decide +kernel
set_option maxRecDepth 100000 in
theorem d_32_46 : decode (mB 32) 46 = .ok (.aload_n 0, 1) := by decide +kernel
set_option maxRecDepth 100000 in
theorem d_32_47 : decode (mB 32) 47 = .ok (.getfield 12, 3) := by decide +kernel
set_option maxRecDepth 100000 in
theorem d_32_50 : decode (mB 32) 50 = .ok (.dup, 1) := by decide +kernel
set_option maxRecDepth 100000 in
theorem d_32_51 : decode (mB 32) 51 = .ok (.getfield 66, 3) := by decide +kernel
set_option maxRecDepth 100000 in
theorem d_32_54 : decode (mB 32) 54 = .ok (.iconst 1, 1) := by decide +kernel
set_option maxRecDepth 100000 in
theorem d_32_55 : decode (mB 32) 55 = .ok (.iadd, 1) := by decide +kernel
set_option maxRecDepth 100000 in
theorem d_32_56 : decode (mB 32) 56 = .ok (.putfield 66, 3) := by decide +kernel
set_option maxRecDepth 100000 in
theorem d_32_59 : decode (mB 32) 59 = .ok (.aload_n 0, 1) := by decide +kernel
set_option maxRecDepth 100000 in
theorem d_32_60 : decode (mB 32) 60 = .ok (.getfield 12, 3) := by decide +kernel
set_option maxRecDepth 100000 in
theorem d_32_63 : decode (mB 32) 63 = .ok (.getfield 66, 3) := by decide +kernel
set_option maxRecDepth 100000 in
theorem d_32_66 : decode (mB 32) 66 = .ok (.iconst 1, 1) := by decide +kernel
set_option maxRecDepth 100000 in
theorem d_32_67 : decode (mB 32) 67 = .ok (.isub, 1) := by decide +kernel
set_option maxRecDepth 100000 in
theorem d_32_68 : decode (mB 32) 68 = .ok (.ireturn, 1) := by decide +kernel
set_option maxRecDepth 100000 in
theorem c_33_77 : cvP 33 77 1 1 := ⟨cd_1, okk_w (k := 57) (by decide +kernel), okk_w (k := 59) (by decide +kernel), okk_w (k := 0) (by decide +kernel), by decide +kernel, by decide +kernel⟩
set_option maxRecDepth 100000 in
theorem c_33_58 : csP 33 58 4 3 := ⟨cd_4, okk_w (k := 139) (by decide +kernel), okk_w (k := 140) (by decide +kernel), by decide +kernel, by decide +kernel⟩
set_option maxRecDepth 100000 in
theorem c_33_62 : csP 33 62 5 1 := ⟨cd_5, okk_w (k := 142) (by decide +kernel), okk_w (k := 143) (by decide +kernel), by decide +kernel, by decide +kernel⟩
set_option maxRecDepth 100000 in
theorem fl_0_81 : flP "WhistleStop" 81 7 5 := ⟨_, rfl, by decide, okk_w (k := 565) (by decide +kernel)⟩
set_option maxRecDepth 100000 in
theorem c_33_70 : csP 33 70 17 1 := ⟨cd_17, okk_w (k := 435) (by decide +kernel), okk_w (k := 436) (by decide +kernel), by decide +kernel, by decide +kernel⟩
set_option maxRecDepth 100000 in
theorem fl_0_84 : flP "WhistleStop" 84 7 1 := ⟨_, rfl, by decide, okk_w (k := 552) (by decide +kernel)⟩
set_option maxRecDepth 100000 in
theorem cl_0_88 : okw (.classLink "WhistleStop" 88 "WhistleStop$Footway") := okk_w (k := 884) (by decide +kernel)
set_option maxRecDepth 100000 in
theorem c_33_90 : ciP 33 90 58 3 := ⟨cd_58, okk_w (k := 886) (by decide +kernel), okk_w (k := 887) (by decide +kernel), by decide +kernel, by decide +kernel, by decide +kernel⟩
set_option maxRecDepth 100000 in
theorem d_33_0 : decode (mB 33) 0 = .ok (.aload_n 0, 1) := by decide +kernel
set_option maxRecDepth 100000 in
theorem d_33_1 : decode (mB 33) 1 = .ok (.iload_n 1, 1) := by decide +kernel
set_option maxRecDepth 100000 in
theorem d_33_2 : decode (mB 33) 2 = .ok (.invokevirtual 77, 3) := by decide +kernel
set_option maxRecDepth 100000 in
theorem d_33_5 : decode (mB 33) 5 = .ok (.aload_n 0, 1) := by decide +kernel
set_option maxRecDepth 100000 in
theorem d_33_6 : decode (mB 33) 6 = .ok (.iload_n 2, 1) := by decide +kernel
set_option maxRecDepth 100000 in
theorem d_33_7 : decode (mB 33) 7 = .ok (.invokevirtual 77, 3) := by decide +kernel
set_option maxRecDepth 100000 in
theorem d_33_10 : decode (mB 33) 10 = .ok (.iload_n 1, 1) := by decide +kernel
set_option maxRecDepth 100000 in
theorem d_33_11 : decode (mB 33) 11 = .ok (.iload_n 2, 1) := by decide +kernel
set_option maxRecDepth 100000 in
theorem d_33_12 : decode (mB 33) 12 = .ok (.if_icmp .eq 17, 3) := by decide +kernel
set_option maxRecDepth 100000 in
theorem d_33_15 : decode (mB 33) 15 = .ok (.iload_n 3, 1) := by decide +kernel
set_option maxRecDepth 100000 in
theorem d_33_16 : decode (mB 33) 16 = .ok (.iconst 1, 1) := by decide +kernel
set_option maxRecDepth 100000 in
theorem d_33_17 : decode (mB 33) 17 = .ok (.bipush 60, 2) := by decide +kernel
set_option maxRecDepth 100000 in
theorem d_33_19 : decode (mB 33) 19 = .ok (.invokestatic 58, 3) := by decide +kernel
set_option maxRecDepth 100000 in
theorem d_33_22 : decode (mB 33) 22 = .ok (.ifCond .eq 7, 3) := by decide +kernel
set_option maxRecDepth 100000 in
theorem d_33_25 : decode (mB 33) 25 = .ok (.iconst 1, 1) := by decide +kernel
set_option maxRecDepth 100000 in
theorem d_33_26 : decode (mB 33) 26 = .ok (.goto 4, 3) := by decide +kernel
set_option maxRecDepth 100000 in
theorem d_33_30 : decode (mB 33) 30 = .ok (.invokestatic 62, 3) := by decide +kernel
set_option maxRecDepth 100000 in
theorem d_33_33 : decode (mB 33) 33 = .ok (.aload_n 0, 1) := by decide +kernel
set_option maxRecDepth 100000 in
theorem d_33_34 : decode (mB 33) 34 = .ok (.getfield 12, 3) := by decide +kernel
set_option maxRecDepth 100000 in
theorem d_33_37 : decode (mB 33) 37 = .ok (.getfield 81, 3) := by decide +kernel
set_option maxRecDepth 100000 in
theorem d_33_40 : decode (mB 33) 40 = .ok (.bipush 20, 2) := by decide +kernel
set_option maxRecDepth 100000 in
theorem d_33_42 : decode (mB 33) 42 = .ok (.if_icmp .ge 7, 3) := by decide +kernel
set_option maxRecDepth 100000 in
theorem d_33_45 : decode (mB 33) 45 = .ok (.iconst 1, 1) := by decide +kernel
set_option maxRecDepth 100000 in
theorem d_33_46 : decode (mB 33) 46 = .ok (.goto 4, 3) := by decide +kernel
set_option maxRecDepth 100000 in
theorem d_33_50 : decode (mB 33) 50 = .ok (.invokestatic 70, 3) := by decide +kernel
set_option maxRecDepth 100000 in
theorem d_33_53 : decode (mB 33) 53 = .ok (.aload_n 0, 1) := by decide +kernel
set_option maxRecDepth 100000 in
theorem d_33_54 : decode (mB 33) 54 = .ok (.getfield 12, 3) := by decide +kernel
set_option maxRecDepth 100000 in
theorem d_33_57 : decode (mB 33) 57 = .ok (.getfield 84, 3) := by decide +kernel
set_option maxRecDepth 100000 in
theorem d_33_60 : decode (mB 33) 60 = .ok (.aload_n 0, 1) := by decide +kernel
set_option maxRecDepth 100000 in
theorem d_33_61 : decode (mB 33) 61 = .ok (.getfield 12, 3) := by decide +kernel
set_option maxRecDepth 100000 in
theorem d_33_64 : decode (mB 33) 64 = .ok (.getfield 81, 3) := by decide +kernel
set_option maxRecDepth 100000 in
theorem d_33_67 : decode (mB 33) 67 = .ok (.new 88, 3) := by decide +kernel
set_option maxRecDepth 100000 in
theorem d_33_70 : decode (mB 33) 70 = .ok (.dup, 1) := by decide +kernel
set_option maxRecDepth 100000 in
theorem d_33_71 : decode (mB 33) 71 = .ok (.iload_n 1, 1) := by decide +kernel
set_option maxRecDepth 100000 in
theorem d_33_72 : decode (mB 33) 72 = .ok (.iload_n 2, 1) := by decide +kernel
set_option maxRecDepth 100000 in
theorem d_33_73 : decode (mB 33) 73 = .ok (.iload_n 3, 1) := by decide +kernel
set_option maxRecDepth 100000 in
theorem d_33_74 : decode (mB 33) 74 = .ok (.invokespecial 90, 3) := by decide +kernel
set_option maxRecDepth 100000 in
theorem d_33_77 : decode (mB 33) 77 = .ok (.aastore, 1) := by decide +kernel
set_option maxRecDepth 100000 in
theorem d_33_78 : decode (mB 33) 78 = .ok (.aload_n 0, 1) := by decide +kernel
set_option maxRecDepth 100000 in
theorem d_33_79 : decode (mB 33) 79 = .ok (.getfield 12, 3) := by decide +kernel
set_option maxRecDepth 100000 in
theorem d_33_82 : decode (mB 33) 82 = .ok (.dup, 1) := by decide +kernel
set_option maxRecDepth 100000 in
theorem d_33_83 : decode (mB 33) 83 = .ok (.getfield 81, 3) := by decide +kernel
set_option maxRecDepth 100000 in
theorem d_33_86 : decode (mB 33) 86 = .ok (.iconst 1, 1) := by decide +kernel
set_option maxRecDepth 100000 in
theorem d_33_87 : decode (mB 33) 87 = .ok (.iadd, 1) := by decide +kernel
set_option maxRecDepth 100000 in
theorem d_33_88 : decode (mB 33) 88 = .ok (.putfield 81, 3) := by decide +kernel
set_option maxRecDepth 100000 in
theorem d_33_91 : decode (mB 33) 91 = .ok (.aload_n 0, 1) := by decide +kernel
set_option maxRecDepth 100000 in
theorem d_33_92 : decode (mB 33) 92 = .ok (.getfield 12, 3) := by decide +kernel
set_option maxRecDepth 100000 in
theorem d_33_95 : decode (mB 33) 95 = .ok (.getfield 81, 3) := by decide +kernel
set_option maxRecDepth 100000 in
theorem d_33_98 : decode (mB 33) 98 = .ok (.iconst 1, 1) := by decide +kernel
set_option maxRecDepth 100000 in
theorem d_33_99 : decode (mB 33) 99 = .ok (.isub, 1) := by decide +kernel
set_option maxRecDepth 100000 in
theorem d_33_100 : decode (mB 33) 100 = .ok (.ireturn, 1) := by decide +kernel
set_option maxRecDepth 100000 in
theorem c_34_58 : csP 34 58 4 3 := ⟨cd_4, okk_w (k := 139) (by decide +kernel), okk_w (k := 140) (by decide +kernel), by decide +kernel, by decide +kernel⟩
set_option maxRecDepth 100000 in
theorem c_34_93 : csP 34 93 7 1 := ⟨cd_7, okk_w (k := 870) (by decide +kernel), okk_w (k := 187) (by decide +kernel), by decide +kernel, by decide +kernel⟩
set_option maxRecDepth 100000 in
theorem c_34_62 : csP 34 62 5 1 := ⟨cd_5, okk_w (k := 142) (by decide +kernel), okk_w (k := 143) (by decide +kernel), by decide +kernel, by decide +kernel⟩
set_option maxRecDepth 100000 in
theorem c_34_70 : csP 34 70 17 1 := ⟨cd_17, okk_w (k := 435) (by decide +kernel), okk_w (k := 436) (by decide +kernel), by decide +kernel, by decide +kernel⟩
set_option maxRecDepth 100000 in
theorem cl_0_104 : okw (.classLink "WhistleStop" 104 "WhistleStop$Calendar") := okk_w (k := 916) (by decide +kernel)
set_option maxRecDepth 100000 in
theorem c_34_106 : ciP 34 106 50 3 := ⟨cd_50, okk_w (k := 918) (by decide +kernel), okk_w (k := 919) (by decide +kernel), by decide +kernel, by decide +kernel, by decide +kernel⟩
set_option maxRecDepth 100000 in
theorem d_34_0 : decode (mB 34) 0 = .ok (.iload_n 1, 1) := by decide +kernel
set_option maxRecDepth 100000 in
theorem d_34_1 : decode (mB 34) 1 = .ok (.iconst 0, 1) := by decide +kernel
set_option maxRecDepth 100000 in
theorem d_34_2 : decode (mB 34) 2 = .ok (.bipush 127, 2) := by decide +kernel
set_option maxRecDepth 100000 in
theorem d_34_4 : decode (mB 34) 4 = .ok (.invokestatic 58, 3) := by decide +kernel
set_option maxRecDepth 100000 in
theorem d_34_7 : decode (mB 34) 7 = .ok (.ifCond .eq 26, 3) := by decide +kernel
set_option maxRecDepth 100000 in
theorem d_34_10 : decode (mB 34) 10 = .ok (.iload_n 2, 1) := by decide +kernel
set_option maxRecDepth 100000 in
theorem d_34_11 : decode (mB 34) 11 = .ok (.invokestatic 93, 3) := by decide +kernel
set_option maxRecDepth 100000 in
theorem d_34_14 : decode (mB 34) 14 = .ok (.ifCond .eq 19, 3) := by decide +kernel
set_option maxRecDepth 100000 in
theorem d_34_17 : decode (mB 34) 17 = .ok (.iload_n 3, 1) := by decide +kernel
set_option maxRecDepth 100000 in
theorem d_34_18 : decode (mB 34) 18 = .ok (.invokestatic 93, 3) := by decide +kernel
set_option maxRecDepth 100000 in
theorem d_34_21 : decode (mB 34) 21 = .ok (.ifCond .eq 12, 3) := by decide +kernel
set_option maxRecDepth 100000 in
theorem d_34_24 : decode (mB 34) 24 = .ok (.iload_n 2, 1) := by decide +kernel
set_option maxRecDepth 100000 in
theorem d_34_25 : decode (mB 34) 25 = .ok (.iload_n 3, 1) := by decide +kernel
set_option maxRecDepth 100000 in
theorem d_34_26 : decode (mB 34) 26 = .ok (.if_icmp .gt 7, 3) := by decide +kernel
set_option maxRecDepth 100000 in
theorem d_34_29 : decode (mB 34) 29 = .ok (.iconst 1, 1) := by decide +kernel
set_option maxRecDepth 100000 in
theorem d_34_30 : decode (mB 34) 30 = .ok (.goto 4, 3) := by decide +kernel
set_option maxRecDepth 100000 in
theorem d_34_34 : decode (mB 34) 34 = .ok (.invokestatic 62, 3) := by decide +kernel
set_option maxRecDepth 100000 in
theorem d_34_37 : decode (mB 34) 37 = .ok (.aload_n 0, 1) := by decide +kernel
set_option maxRecDepth 100000 in
theorem d_34_38 : decode (mB 34) 38 = .ok (.getfield 12, 3) := by decide +kernel
set_option maxRecDepth 100000 in
theorem d_34_41 : decode (mB 34) 41 = .ok (.getfield 97, 3) := by decide +kernel
set_option maxRecDepth 100000 in
theorem d_34_44 : decode (mB 34) 44 = .ok (.bipush 6, 2) := by decide +kernel
set_option maxRecDepth 100000 in
theorem d_34_46 : decode (mB 34) 46 = .ok (.if_icmp .ge 7, 3) := by decide +kernel
set_option maxRecDepth 100000 in
theorem d_34_49 : decode (mB 34) 49 = .ok (.iconst 1, 1) := by decide +kernel
set_option maxRecDepth 100000 in
theorem d_34_50 : decode (mB 34) 50 = .ok (.goto 4, 3) := by decide +kernel
set_option maxRecDepth 100000 in
theorem d_34_54 : decode (mB 34) 54 = .ok (.invokestatic 70, 3) := by decide +kernel
set_option maxRecDepth 100000 in
theorem d_34_57 : decode (mB 34) 57 = .ok (.aload_n 0, 1) := by decide +kernel
set_option maxRecDepth 100000 in
theorem d_34_58 : decode (mB 34) 58 = .ok (.getfield 12, 3) := by decide +kernel
set_option maxRecDepth 100000 in
theorem d_34_61 : decode (mB 34) 61 = .ok (.getfield 100, 3) := by decide +kernel
set_option maxRecDepth 100000 in
theorem d_34_64 : decode (mB 34) 64 = .ok (.aload_n 0, 1) := by decide +kernel
set_option maxRecDepth 100000 in
theorem d_34_65 : decode (mB 34) 65 = .ok (.getfield 12, 3) := by decide +kernel
set_option maxRecDepth 100000 in
theorem d_34_68 : decode (mB 34) 68 = .ok (.getfield 97, 3) := by decide +kernel
set_option maxRecDepth 100000 in
theorem d_34_71 : decode (mB 34) 71 = .ok (.new 104, 3) := by decide +kernel
set_option maxRecDepth 100000 in
theorem d_34_74 : decode (mB 34) 74 = .ok (.dup, 1) := by decide +kernel
set_option maxRecDepth 100000 in
theorem d_34_75 : decode (mB 34) 75 = .ok (.iload_n 1, 1) := by decide +kernel
set_option maxRecDepth 100000 in
theorem d_34_76 : decode (mB 34) 76 = .ok (.iload_n 2, 1) := by decide +kernel
set_option maxRecDepth 100000 in
theorem d_34_77 : decode (mB 34) 77 = .ok (.iload_n 3, 1) := by decide +kernel
set_option maxRecDepth 100000 in
theorem d_34_78 : decode (mB 34) 78 = .ok (.invokespecial 106, 3) := by decide +kernel
set_option maxRecDepth 100000 in
theorem d_34_81 : decode (mB 34) 81 = .ok (.aastore, 1) := by decide +kernel
set_option maxRecDepth 100000 in
theorem d_34_82 : decode (mB 34) 82 = .ok (.aload_n 0, 1) := by decide +kernel
set_option maxRecDepth 100000 in
theorem d_34_83 : decode (mB 34) 83 = .ok (.getfield 12, 3) := by decide +kernel
set_option maxRecDepth 100000 in
theorem d_34_86 : decode (mB 34) 86 = .ok (.dup, 1) := by decide +kernel
set_option maxRecDepth 100000 in
theorem d_34_87 : decode (mB 34) 87 = .ok (.getfield 97, 3) := by decide +kernel
set_option maxRecDepth 100000 in
theorem d_34_90 : decode (mB 34) 90 = .ok (.iconst 1, 1) := by decide +kernel
set_option maxRecDepth 100000 in
theorem d_34_91 : decode (mB 34) 91 = .ok (.iadd, 1) := by decide +kernel
set_option maxRecDepth 100000 in
theorem d_34_92 : decode (mB 34) 92 = .ok (.putfield 97, 3) := by decide +kernel
set_option maxRecDepth 100000 in
theorem d_34_95 : decode (mB 34) 95 = .ok (.aload_n 0, 1) := by decide +kernel
set_option maxRecDepth 100000 in
theorem d_34_96 : decode (mB 34) 96 = .ok (.getfield 12, 3) := by decide +kernel
set_option maxRecDepth 100000 in
theorem d_34_99 : decode (mB 34) 99 = .ok (.getfield 97, 3) := by decide +kernel
set_option maxRecDepth 100000 in
theorem d_34_102 : decode (mB 34) 102 = .ok (.iconst 1, 1) := by decide +kernel
set_option maxRecDepth 100000 in
theorem d_34_103 : decode (mB 34) 103 = .ok (.isub, 1) := by decide +kernel
set_option maxRecDepth 100000 in
theorem d_34_104 : decode (mB 34) 104 = .ok (.ireturn, 1) := by decide +kernel
set_option maxRecDepth 100000 in
theorem c_35_107 : csP 35 107 2 2 := ⟨cd_2, okk_w (k := 62) (by decide +kernel), okk_w (k := 63) (by decide +kernel), by decide +kernel, by decide +kernel⟩
set_option maxRecDepth 100000 in
theorem c_35_77 : cvP 35 77 1 1 := ⟨cd_1, okk_w (k := 57) (by decide +kernel), okk_w (k := 59) (by decide +kernel), okk_w (k := 0) (by decide +kernel), by decide +kernel, by decide +kernel⟩
set_option maxRecDepth 100000 in
theorem c_35_58 : csP 35 58 4 3 := ⟨cd_4, okk_w (k := 139) (by decide +kernel), okk_w (k := 140) (by decide +kernel), by decide +kernel, by decide +kernel⟩
set_option maxRecDepth 100000 in
theorem c_35_62 : csP 35 62 5 1 := ⟨cd_5, okk_w (k := 142) (by decide +kernel), okk_w (k := 143) (by decide +kernel), by decide +kernel, by decide +kernel⟩
set_option maxRecDepth 100000 in
theorem c_35_70 : csP 35 70 17 1 := ⟨cd_17, okk_w (k := 435) (by decide +kernel), okk_w (k := 436) (by decide +kernel), by decide +kernel, by decide +kernel⟩
set_option maxRecDepth 100000 in
theorem cl_0_120 : okw (.classLink "WhistleStop" 120 "WhistleStop$Trip") := okk_w (k := 946) (by decide +kernel)
set_option maxRecDepth 100000 in
theorem c_35_122 : ciP 35 122 97 3 := ⟨cd_97, okk_w (k := 948) (by decide +kernel), okk_w (k := 949) (by decide +kernel), by decide +kernel, by decide +kernel, by decide +kernel⟩
set_option maxRecDepth 100000 in
theorem c_35_125 : cvP 35 125 98 3 := ⟨cd_98, okk_w (k := 1002) (by decide +kernel), okk_w (k := 1003) (by decide +kernel), okk_w (k := 1004) (by decide +kernel), by decide +kernel, by decide +kernel⟩
set_option maxRecDepth 100000 in
theorem fl_0_132 : flP "WhistleStop" 132 11 0 := ⟨_, rfl, by decide, okk_w (k := 953) (by decide +kernel)⟩
set_option maxRecDepth 100000 in
theorem d_35_0 : decode (mB 35) 0 = .ok (.iload_n 1, 1) := by decide +kernel
set_option maxRecDepth 100000 in
theorem d_35_1 : decode (mB 35) 1 = .ok (.aload_n 0, 1) := by decide +kernel
set_option maxRecDepth 100000 in
theorem d_35_2 : decode (mB 35) 2 = .ok (.getfield 12, 3) := by decide +kernel
set_option maxRecDepth 100000 in
theorem d_35_5 : decode (mB 35) 5 = .ok (.getfield 97, 3) := by decide +kernel
set_option maxRecDepth 100000 in
theorem d_35_8 : decode (mB 35) 8 = .ok (.invokestatic 107, 3) := by decide +kernel
set_option maxRecDepth 100000 in
theorem d_35_11 : decode (mB 35) 11 = .ok (.aload_n 0, 1) := by decide +kernel
set_option maxRecDepth 100000 in
theorem d_35_12 : decode (mB 35) 12 = .ok (.iload_n 3, 1) := by decide +kernel
set_option maxRecDepth 100000 in
theorem d_35_13 : decode (mB 35) 13 = .ok (.invokevirtual 77, 3) := by decide +kernel
set_option maxRecDepth 100000 in
theorem d_35_16 : decode (mB 35) 16 = .ok (.iload_n 2, 1) := by decide +kernel
set_option maxRecDepth 100000 in
theorem d_35_17 : decode (mB 35) 17 = .ok (.iconst 0, 1) := by decide +kernel
set_option maxRecDepth 100000 in
theorem d_35_18 : decode (mB 35) 18 = .ok (.sipush 500, 3) := by decide +kernel
set_option maxRecDepth 100000 in
theorem d_35_21 : decode (mB 35) 21 = .ok (.invokestatic 58, 3) := by decide +kernel
set_option maxRecDepth 100000 in
theorem d_35_24 : decode (mB 35) 24 = .ok (.ifCond .eq 19, 3) := by decide +kernel
set_option maxRecDepth 100000 in
theorem d_35_27 : decode (mB 35) 27 = .ok (.iload 4, 2) := by decide +kernel
set_option maxRecDepth 100000 in
theorem d_35_29 : decode (mB 35) 29 = .ok (.iconst 0, 1) := by decide +kernel
set_option maxRecDepth 100000 in
theorem d_35_30 : decode (mB 35) 30 = .ok (.sipush 2879, 3) := by decide +kernel
set_option maxRecDepth 100000 in
theorem d_35_33 : decode (mB 35) 33 = .ok (.invokestatic 58, 3) := by decide +kernel
set_option maxRecDepth 100000 in
theorem d_35_36 : decode (mB 35) 36 = .ok (.ifCond .eq 7, 3) := by decide +kernel
set_option maxRecDepth 100000 in
theorem d_35_39 : decode (mB 35) 39 = .ok (.iconst 1, 1) := by decide +kernel
set_option maxRecDepth 100000 in
theorem d_35_40 : decode (mB 35) 40 = .ok (.goto 4, 3) := by decide +kernel
set_option maxRecDepth 100000 in
theorem d_35_44 : decode (mB 35) 44 = .ok (.invokestatic 62, 3) := by decide +kernel
set_option maxRecDepth 100000 in
theorem d_35_47 : decode (mB 35) 47 = .ok (.aload_n 0, 1) := by decide +kernel
set_option maxRecDepth 100000 in
theorem d_35_48 : decode (mB 35) 48 = .ok (.getfield 12, 3) := by decide +kernel
set_option maxRecDepth 100000 in
theorem d_35_51 : decode (mB 35) 51 = .ok (.getfield 117, 3) := by decide +kernel
set_option maxRecDepth 100000 in
theorem d_35_54 : decode (mB 35) 54 = .ok (.bipush 24, 2) := by decide +kernel
set_option maxRecDepth 100000 in
theorem d_35_56 : decode (mB 35) 56 = .ok (.if_icmp .ge 7, 3) := by decide +kernel
set_option maxRecDepth 100000 in
theorem d_35_59 : decode (mB 35) 59 = .ok (.iconst 1, 1) := by decide +kernel
set_option maxRecDepth 100000 in
theorem d_35_60 : decode (mB 35) 60 = .ok (.goto 4, 3) := by decide +kernel
set_option maxRecDepth 100000 in
theorem d_35_64 : decode (mB 35) 64 = .ok (.invokestatic 70, 3) := by decide +kernel
set_option maxRecDepth 100000 in
theorem d_35_67 : decode (mB 35) 67 = .ok (.new 120, 3) := by decide +kernel
set_option maxRecDepth 100000 in
theorem d_35_70 : decode (mB 35) 70 = .ok (.dup, 1) := by decide +kernel
set_option maxRecDepth 100000 in
theorem d_35_71 : decode (mB 35) 71 = .ok (.aload_n 0, 1) := by decide +kernel
set_option maxRecDepth 100000 in
theorem d_35_72 : decode (mB 35) 72 = .ok (.getfield 12, 3) := by decide +kernel
set_option maxRecDepth 100000 in
theorem d_35_75 : decode (mB 35) 75 = .ok (.getfield 117, 3) := by decide +kernel
set_option maxRecDepth 100000 in
theorem d_35_78 : decode (mB 35) 78 = .ok (.aload_n 0, 1) := by decide +kernel
set_option maxRecDepth 100000 in
theorem d_35_79 : decode (mB 35) 79 = .ok (.getfield 12, 3) := by decide +kernel
set_option maxRecDepth 100000 in
theorem d_35_82 : decode (mB 35) 82 = .ok (.getfield 100, 3) := by decide +kernel
set_option maxRecDepth 100000 in
theorem d_35_85 : decode (mB 35) 85 = .ok (.iload_n 1, 1) := by decide +kernel
set_option maxRecDepth 100000 in
theorem d_35_86 : decode (mB 35) 86 = .ok (.aaload, 1) := by decide +kernel
set_option maxRecDepth 100000 in
theorem d_35_87 : decode (mB 35) 87 = .ok (.iload_n 2, 1) := by decide +kernel
set_option maxRecDepth 100000 in
theorem d_35_88 : decode (mB 35) 88 = .ok (.invokespecial 122, 3) := by decide +kernel
set_option maxRecDepth 100000 in
theorem d_35_91 : decode (mB 35) 91 = .ok (.astore 5, 2) := by decide +kernel
set_option maxRecDepth 100000 in
theorem d_35_93 : decode (mB 35) 93 = .ok (.aload 5, 2) := by decide +kernel
set_option maxRecDepth 100000 in
theorem d_35_95 : decode (mB 35) 95 = .ok (.iload_n 3, 1) := by decide +kernel
set_option maxRecDepth 100000 in
theorem d_35_96 : decode (mB 35) 96 = .ok (.iload 4, 2) := by decide +kernel
set_option maxRecDepth 100000 in
theorem d_35_98 : decode (mB 35) 98 = .ok (.iload 4, 2) := by decide +kernel
set_option maxRecDepth 100000 in
theorem d_35_100 : decode (mB 35) 100 = .ok (.invokevirtual 125, 3) := by decide +kernel
set_option maxRecDepth 100000 in
theorem d_35_103 : decode (mB 35) 103 = .ok (.aload_n 0, 1) := by decide +kernel
set_option maxRecDepth 100000 in
theorem d_35_104 : decode (mB 35) 104 = .ok (.getfield 12, 3) := by decide +kernel
set_option maxRecDepth 100000 in
theorem d_35_107 : decode (mB 35) 107 = .ok (.getfield 128, 3) := by decide +kernel
set_option maxRecDepth 100000 in
theorem d_35_110 : decode (mB 35) 110 = .ok (.aload_n 0, 1) := by decide +kernel
set_option maxRecDepth 100000 in
theorem d_35_111 : decode (mB 35) 111 = .ok (.getfield 12, 3) := by decide +kernel
set_option maxRecDepth 100000 in
theorem d_35_114 : decode (mB 35) 114 = .ok (.getfield 117, 3) := by decide +kernel
set_option maxRecDepth 100000 in
theorem d_35_117 : decode (mB 35) 117 = .ok (.aload 5, 2) := by decide +kernel
set_option maxRecDepth 100000 in
theorem d_35_119 : decode (mB 35) 119 = .ok (.aastore, 1) := by decide +kernel
set_option maxRecDepth 100000 in
theorem d_35_120 : decode (mB 35) 120 = .ok (.aload_n 0, 1) := by decide +kernel
set_option maxRecDepth 100000 in
theorem d_35_121 : decode (mB 35) 121 = .ok (.getfield 12, 3) := by decide +kernel
set_option maxRecDepth 100000 in
theorem d_35_124 : decode (mB 35) 124 = .ok (.dup, 1) := by decide +kernel
set_option maxRecDepth 100000 in
theorem d_35_125 : decode (mB 35) 125 = .ok (.getfield 117, 3) := by decide +kernel
set_option maxRecDepth 100000 in
theorem d_35_128 : decode (mB 35) 128 = .ok (.iconst 1, 1) := by decide +kernel
set_option maxRecDepth 100000 in
theorem d_35_129 : decode (mB 35) 129 = .ok (.iadd, 1) := by decide +kernel
set_option maxRecDepth 100000 in
theorem d_35_130 : decode (mB 35) 130 = .ok (.putfield 117, 3) := by decide +kernel
set_option maxRecDepth 100000 in
theorem d_35_133 : decode (mB 35) 133 = .ok (.aload 5, 2) := by decide +kernel
set_option maxRecDepth 100000 in
theorem d_35_135 : decode (mB 35) 135 = .ok (.getfield 132, 3) := by decide +kernel
set_option maxRecDepth 100000 in
theorem d_35_138 : decode (mB 35) 138 = .ok (.ireturn, 1) := by decide +kernel
set_option maxRecDepth 100000 in
theorem c_36_135 : cvP 36 135 28 1 := ⟨cd_28, okk_w (k := 512) (by decide +kernel), okk_w (k := 514) (by decide +kernel), okk_w (k := 28) (by decide +kernel), by decide +kernel, by decide +kernel⟩
set_option maxRecDepth 100000 in
theorem c_36_77 : cvP 36 77 1 1 := ⟨cd_1, okk_w (k := 57) (by decide +kernel), okk_w (k := 59) (by decide +kernel), okk_w (k := 0) (by decide +kernel), by decide +kernel, by decide +kernel⟩
set_option maxRecDepth 100000 in
theorem c_36_138 : cvP 36 138 96 0 := ⟨cd_96, okk_w (k := 1010) (by decide +kernel), okk_w (k := 206) (by decide +kernel), okk_w (k := 207) (by decide +kernel), by decide +kernel, by decide +kernel⟩
set_option maxRecDepth 100000 in
theorem c_36_62 : csP 36 62 5 1 := ⟨cd_5, okk_w (k := 142) (by decide +kernel), okk_w (k := 143) (by decide +kernel), by decide +kernel, by decide +kernel⟩
set_option maxRecDepth 100000 in
theorem c_36_70 : csP 36 70 17 1 := ⟨cd_17, okk_w (k := 435) (by decide +kernel), okk_w (k := 436) (by decide +kernel), by decide +kernel, by decide +kernel⟩
set_option maxRecDepth 100000 in
theorem c_36_125 : cvP 36 125 98 3 := ⟨cd_98, okk_w (k := 1002) (by decide +kernel), okk_w (k := 1003) (by decide +kernel), okk_w (k := 1004) (by decide +kernel), by decide +kernel, by decide +kernel⟩
set_option maxRecDepth 100000 in
theorem d_36_0 : decode (mB 36) 0 = .ok (.aload_n 0, 1) := by decide +kernel
set_option maxRecDepth 100000 in
theorem d_36_1 : decode (mB 36) 1 = .ok (.iload_n 1, 1) := by decide +kernel
set_option maxRecDepth 100000 in
theorem d_36_2 : decode (mB 36) 2 = .ok (.invokevirtual 135, 3) := by decide +kernel
set_option maxRecDepth 100000 in
theorem d_36_5 : decode (mB 36) 5 = .ok (.aload_n 0, 1) := by decide +kernel
set_option maxRecDepth 100000 in
theorem d_36_6 : decode (mB 36) 6 = .ok (.iload_n 2, 1) := by decide +kernel
set_option maxRecDepth 100000 in
theorem d_36_7 : decode (mB 36) 7 = .ok (.invokevirtual 77, 3) := by decide +kernel
set_option maxRecDepth 100000 in
theorem d_36_10 : decode (mB 36) 10 = .ok (.aload_n 0, 1) := by decide +kernel
set_option maxRecDepth 100000 in
theorem d_36_11 : decode (mB 36) 11 = .ok (.getfield 12, 3) := by decide +kernel
set_option maxRecDepth 100000 in
theorem d_36_14 : decode (mB 36) 14 = .ok (.getfield 128, 3) := by decide +kernel
set_option maxRecDepth 100000 in
theorem d_36_17 : decode (mB 36) 17 = .ok (.iload_n 1, 1) := by decide +kernel
set_option maxRecDepth 100000 in
theorem d_36_18 : decode (mB 36) 18 = .ok (.aaload, 1) := by decide +kernel
set_option maxRecDepth 100000 in
theorem d_36_19 : decode (mB 36) 19 = .ok (.astore 5, 2) := by decide +kernel
set_option maxRecDepth 100000 in
theorem d_36_21 : decode (mB 36) 21 = .ok (.iload_n 3, 1) := by decide +kernel
set_option maxRecDepth 100000 in
theorem d_36_22 : decode (mB 36) 22 = .ok (.aload 5, 2) := by decide +kernel
set_option maxRecDepth 100000 in
theorem d_36_24 : decode (mB 36) 24 = .ok (.invokevirtual 138, 3) := by decide +kernel
set_option maxRecDepth 100000 in
theorem d_36_27 : decode (mB 36) 27 = .ok (.if_icmp .lt 21, 3) := by decide +kernel
set_option maxRecDepth 100000 in
theorem d_36_30 : decode (mB 36) 30 = .ok (.iload 4, 2) := by decide +kernel
set_option maxRecDepth 100000 in
theorem d_36_32 : decode (mB 36) 32 = .ok (.iload_n 3, 1) := by decide +kernel
set_option maxRecDepth 100000 in
theorem d_36_33 : decode (mB 36) 33 = .ok (.if_icmp .lt 15, 3) := by decide +kernel
set_option maxRecDepth 100000 in
theorem d_36_36 : decode (mB 36) 36 = .ok (.iload 4, 2) := by decide +kernel
set_option maxRecDepth 100000 in
theorem d_36_38 : decode (mB 36) 38 = .ok (.sipush 2879, 3) := by decide +kernel
set_option maxRecDepth 100000 in
theorem d_36_41 : decode (mB 36) 41 = .ok (.if_icmp .gt 7, 3) := by decide +kernel
set_option maxRecDepth 100000 in
theorem d_36_44 : decode (mB 36) 44 = .ok (.iconst 1, 1) := by decide +kernel
set_option maxRecDepth 100000 in
theorem d_36_45 : decode (mB 36) 45 = .ok (.goto 4, 3) := by decide +kernel
set_option maxRecDepth 100000 in
theorem d_36_49 : decode (mB 36) 49 = .ok (.invokestatic 62, 3) := by decide +kernel
set_option maxRecDepth 100000 in
theorem d_36_52 : decode (mB 36) 52 = .ok (.aload 5, 2) := by decide +kernel
set_option maxRecDepth 100000 in
theorem d_36_54 : decode (mB 36) 54 = .ok (.getfield 142, 3) := by decide +kernel
set_option maxRecDepth 100000 in
theorem d_36_57 : decode (mB 36) 57 = .ok (.bipush 8, 2) := by decide +kernel
set_option maxRecDepth 100000 in
theorem d_36_59 : decode (mB 36) 59 = .ok (.if_icmp .ge 7, 3) := by decide +kernel
set_option maxRecDepth 100000 in
theorem d_36_62 : decode (mB 36) 62 = .ok (.iconst 1, 1) := by decide +kernel
set_option maxRecDepth 100000 in
theorem d_36_63 : decode (mB 36) 63 = .ok (.goto 4, 3) := by decide +kernel
set_option maxRecDepth 100000 in
theorem d_36_67 : decode (mB 36) 67 = .ok (.invokestatic 70, 3) := by decide +kernel
set_option maxRecDepth 100000 in
theorem d_36_70 : decode (mB 36) 70 = .ok (.aload 5, 2) := by decide +kernel
set_option maxRecDepth 100000 in
theorem d_36_72 : decode (mB 36) 72 = .ok (.iload_n 2, 1) := by decide +kernel
set_option maxRecDepth 100000 in
theorem d_36_73 : decode (mB 36) 73 = .ok (.iload_n 3, 1) := by decide +kernel
set_option maxRecDepth 100000 in
theorem d_36_74 : decode (mB 36) 74 = .ok (.iload 4, 2) := by decide +kernel
set_option maxRecDepth 100000 in
theorem d_36_76 : decode (mB 36) 76 = .ok (.invokevirtual 125, 3) := by decide +kernel
set_option maxRecDepth 100000 in
theorem d_36_79 : decode (mB 36) 79 = .ok (.aload 5, 2) := by decide +kernel
set_option maxRecDepth 100000 in
theorem d_36_81 : decode (mB 36) 81 = .ok (.getfield 142, 3) := by decide +kernel
set_option maxRecDepth 100000 in
theorem d_36_84 : decode (mB 36) 84 = .ok (.iconst 1, 1) := by decide +kernel
set_option maxRecDepth 100000 in
theorem d_36_85 : decode (mB 36) 85 = .ok (.isub, 1) := by decide +kernel
set_option maxRecDepth 100000 in
theorem d_36_86 : decode (mB 36) 86 = .ok (.ireturn, 1) := by decide +kernel
set_option maxRecDepth 100000 in
theorem c_37_135 : cvP 37 135 28 1 := ⟨cd_28, okk_w (k := 512) (by decide +kernel), okk_w (k := 514) (by decide +kernel), okk_w (k := 28) (by decide +kernel), by decide +kernel, by decide +kernel⟩
set_option maxRecDepth 100000 in
theorem d_37_0 : decode (mB 37) 0 = .ok (.aload_n 0, 1) := by decide +kernel
set_option maxRecDepth 100000 in
theorem d_37_1 : decode (mB 37) 1 = .ok (.iload_n 1, 1) := by decide +kernel
set_option maxRecDepth 100000 in
theorem d_37_2 : decode (mB 37) 2 = .ok (.invokevirtual 135, 3) := by decide +kernel
set_option maxRecDepth 100000 in
theorem d_37_5 : decode (mB 37) 5 = .ok (.aload_n 0, 1) := by decide +kernel
set_option maxRecDepth 100000 in
theorem d_37_6 : decode (mB 37) 6 = .ok (.getfield 12, 3) := by decide +kernel
set_option maxRecDepth 100000 in
theorem d_37_9 : decode (mB 37) 9 = .ok (.getfield 128, 3) := by decide +kernel
set_option maxRecDepth 100000 in
theorem d_37_12 : decode (mB 37) 12 = .ok (.iload_n 1, 1) := by decide +kernel
set_option maxRecDepth 100000 in
theorem d_37_13 : decode (mB 37) 13 = .ok (.aaload, 1) := by decide +kernel
set_option maxRecDepth 100000 in
theorem d_37_14 : decode (mB 37) 14 = .ok (.getfield 142, 3) := by decide +kernel
set_option maxRecDepth 100000 in
theorem d_37_17 : decode (mB 37) 17 = .ok (.ireturn, 1) := by decide +kernel
set_option maxRecDepth 100000 in
theorem c_38_135 : cvP 38 135 28 1 := ⟨cd_28, okk_w (k := 512) (by decide +kernel), okk_w (k := 514) (by decide +kernel), okk_w (k := 28) (by decide +kernel), by decide +kernel, by decide +kernel⟩
set_option maxRecDepth 100000 in
theorem c_38_93 : csP 38 93 7 1 := ⟨cd_7, okk_w (k := 870) (by decide +kernel), okk_w (k := 187) (by decide +kernel), by decide +kernel, by decide +kernel⟩
set_option maxRecDepth 100000 in
theorem c_38_62 : csP 38 62 5 1 := ⟨cd_5, okk_w (k := 142) (by decide +kernel), okk_w (k := 143) (by decide +kernel), by decide +kernel, by decide +kernel⟩
set_option maxRecDepth 100000 in
theorem c_38_151 : cvP 38 151 94 1 := ⟨cd_94, okk_w (k := 516) (by decide +kernel), okk_w (k := 183) (by decide +kernel), okk_w (k := 184) (by decide +kernel), by decide +kernel, by decide +kernel⟩
set_option maxRecDepth 100000 in
theorem d_38_0 : decode (mB 38) 0 = .ok (.aload_n 0, 1) := by decide +kernel
set_option maxRecDepth 100000 in
theorem d_38_1 : decode (mB 38) 1 = .ok (.iload_n 1, 1) := by decide +kernel
set_option maxRecDepth 100000 in
theorem d_38_2 : decode (mB 38) 2 = .ok (.invokevirtual 135, 3) := by decide +kernel
set_option maxRecDepth 100000 in
theorem d_38_5 : decode (mB 38) 5 = .ok (.iload_n 2, 1) := by decide +kernel
set_option maxRecDepth 100000 in
theorem d_38_6 : decode (mB 38) 6 = .ok (.invokestatic 93, 3) := by decide +kernel
set_option maxRecDepth 100000 in
theorem d_38_9 : decode (mB 38) 9 = .ok (.invokestatic 62, 3) := by decide +kernel
set_option maxRecDepth 100000 in
theorem d_38_12 : decode (mB 38) 12 = .ok (.aload_n 0, 1) := by decide +kernel
set_option maxRecDepth 100000 in
theorem d_38_13 : decode (mB 38) 13 = .ok (.getfield 12, 3) := by decide +kernel
set_option maxRecDepth 100000 in
theorem d_38_16 : decode (mB 38) 16 = .ok (.getfield 128, 3) := by decide +kernel
set_option maxRecDepth 100000 in
theorem d_38_19 : decode (mB 38) 19 = .ok (.iload_n 1, 1) := by decide +kernel
set_option maxRecDepth 100000 in
theorem d_38_20 : decode (mB 38) 20 = .ok (.aaload, 1) := by decide +kernel
set_option maxRecDepth 100000 in
theorem d_38_21 : decode (mB 38) 21 = .ok (.iload_n 2, 1) := by decide +kernel
set_option maxRecDepth 100000 in
theorem d_38_22 : decode (mB 38) 22 = .ok (.invokevirtual 151, 3) := by decide +kernel
set_option maxRecDepth 100000 in
theorem d_38_25 : decode (mB 38) 25 = .ok (.istore_n 3, 1) := by decide +kernel
set_option maxRecDepth 100000 in
theorem d_38_26 : decode (mB 38) 26 = .ok (.aload_n 0, 1) := by decide +kernel
set_option maxRecDepth 100000 in
theorem d_38_27 : decode (mB 38) 27 = .ok (.getfield 12, 3) := by decide +kernel
set_option maxRecDepth 100000 in
theorem d_38_30 : decode (mB 38) 30 = .ok (.getfield 128, 3) := by decide +kernel
set_option maxRecDepth 100000 in
theorem d_38_33 : decode (mB 38) 33 = .ok (.iload_n 1, 1) := by decide +kernel
set_option maxRecDepth 100000 in
theorem d_38_34 : decode (mB 38) 34 = .ok (.aaload, 1) := by decide +kernel
set_option maxRecDepth 100000 in
theorem d_38_35 : decode (mB 38) 35 = .ok (.getfield 148, 3) := by decide +kernel
set_option maxRecDepth 100000 in
theorem d_38_38 : decode (mB 38) 38 = .ok (.iload_n 2, 1) := by decide +kernel
set_option maxRecDepth 100000 in
theorem d_38_39 : decode (mB 38) 39 = .ok (.iconst (-1), 1) := by decide +kernel
set_option maxRecDepth 100000 in
theorem d_38_40 : decode (mB 38) 40 = .ok (.iastore, 1) := by decide +kernel
set_option maxRecDepth 100000 in
theorem d_38_41 : decode (mB 38) 41 = .ok (.iload_n 3, 1) := by decide +kernel
set_option maxRecDepth 100000 in
theorem d_38_42 : decode (mB 38) 42 = .ok (.ireturn, 1) := by decide +kernel
set_option maxRecDepth 100000 in
theorem c_39_135 : cvP 39 135 28 1 := ⟨cd_28, okk_w (k := 512) (by decide +kernel), okk_w (k := 514) (by decide +kernel), okk_w (k := 28) (by decide +kernel), by decide +kernel, by decide +kernel⟩
set_option maxRecDepth 100000 in
theorem c_39_93 : csP 39 93 7 1 := ⟨cd_7, okk_w (k := 870) (by decide +kernel), okk_w (k := 187) (by decide +kernel), by decide +kernel, by decide +kernel⟩
set_option maxRecDepth 100000 in
theorem c_39_58 : csP 39 58 4 3 := ⟨cd_4, okk_w (k := 139) (by decide +kernel), okk_w (k := 140) (by decide +kernel), by decide +kernel, by decide +kernel⟩
set_option maxRecDepth 100000 in
theorem c_39_62 : csP 39 62 5 1 := ⟨cd_5, okk_w (k := 142) (by decide +kernel), okk_w (k := 143) (by decide +kernel), by decide +kernel, by decide +kernel⟩
set_option maxRecDepth 100000 in
theorem d_39_0 : decode (mB 39) 0 = .ok (.aload_n 0, 1) := by decide +kernel
set_option maxRecDepth 100000 in
theorem d_39_1 : decode (mB 39) 1 = .ok (.iload_n 1, 1) := by decide +kernel
set_option maxRecDepth 100000 in
theorem d_39_2 : decode (mB 39) 2 = .ok (.invokevirtual 135, 3) := by decide +kernel
set_option maxRecDepth 100000 in
theorem d_39_5 : decode (mB 39) 5 = .ok (.iload_n 2, 1) := by decide +kernel
set_option maxRecDepth 100000 in
theorem d_39_6 : decode (mB 39) 6 = .ok (.invokestatic 93, 3) := by decide +kernel
set_option maxRecDepth 100000 in
theorem d_39_9 : decode (mB 39) 9 = .ok (.ifCond .eq 18, 3) := by decide +kernel
set_option maxRecDepth 100000 in
theorem d_39_12 : decode (mB 39) 12 = .ok (.iload_n 3, 1) := by decide +kernel
set_option maxRecDepth 100000 in
theorem d_39_13 : decode (mB 39) 13 = .ok (.iconst 0, 1) := by decide +kernel
set_option maxRecDepth 100000 in
theorem d_39_14 : decode (mB 39) 14 = .ok (.sipush 180, 3) := by decide +kernel
set_option maxRecDepth 100000 in
theorem d_39_17 : decode (mB 39) 17 = .ok (.invokestatic 58, 3) := by decide +kernel
set_option maxRecDepth 100000 in
theorem d_39_20 : decode (mB 39) 20 = .ok (.ifCond .eq 7, 3) := by decide +kernel
set_option maxRecDepth 100000 in
theorem d_39_23 : decode (mB 39) 23 = .ok (.iconst 1, 1) := by decide +kernel
set_option maxRecDepth 100000 in
theorem d_39_24 : decode (mB 39) 24 = .ok (.goto 4, 3) := by decide +kernel
set_option maxRecDepth 100000 in
theorem d_39_28 : decode (mB 39) 28 = .ok (.invokestatic 62, 3) := by decide +kernel
set_option maxRecDepth 100000 in
theorem d_39_31 : decode (mB 39) 31 = .ok (.aload_n 0, 1) := by decide +kernel
set_option maxRecDepth 100000 in
theorem d_39_32 : decode (mB 39) 32 = .ok (.getfield 12, 3) := by decide +kernel
set_option maxRecDepth 100000 in
theorem d_39_35 : decode (mB 39) 35 = .ok (.getfield 128, 3) := by decide +kernel
set_option maxRecDepth 100000 in
theorem d_39_38 : decode (mB 39) 38 = .ok (.iload_n 1, 1) := by decide +kernel
set_option maxRecDepth 100000 in
theorem d_39_39 : decode (mB 39) 39 = .ok (.aaload, 1) := by decide +kernel
set_option maxRecDepth 100000 in
theorem d_39_40 : decode (mB 39) 40 = .ok (.getfield 148, 3) := by decide +kernel
set_option maxRecDepth 100000 in
theorem d_39_43 : decode (mB 39) 43 = .ok (.iload_n 2, 1) := by decide +kernel
set_option maxRecDepth 100000 in
theorem d_39_44 : decode (mB 39) 44 = .ok (.iaload, 1) := by decide +kernel
set_option maxRecDepth 100000 in
theorem d_39_45 : decode (mB 39) 45 = .ok (.istore 4, 2) := by decide +kernel
set_option maxRecDepth 100000 in
theorem d_39_47 : decode (mB 39) 47 = .ok (.aload_n 0, 1) := by decide +kernel
set_option maxRecDepth 100000 in
theorem d_39_48 : decode (mB 39) 48 = .ok (.getfield 12, 3) := by decide +kernel
set_option maxRecDepth 100000 in
theorem d_39_51 : decode (mB 39) 51 = .ok (.getfield 128, 3) := by decide +kernel
set_option maxRecDepth 100000 in
theorem d_39_54 : decode (mB 39) 54 = .ok (.iload_n 1, 1) := by decide +kernel
set_option maxRecDepth 100000 in
theorem d_39_55 : decode (mB 39) 55 = .ok (.aaload, 1) := by decide +kernel
set_option maxRecDepth 100000 in
theorem d_39_56 : decode (mB 39) 56 = .ok (.getfield 148, 3) := by decide +kernel
set_option maxRecDepth 100000 in
theorem d_39_59 : decode (mB 39) 59 = .ok (.iload_n 2, 1) := by decide +kernel
set_option maxRecDepth 100000 in
theorem d_39_60 : decode (mB 39) 60 = .ok (.iload_n 3, 1) := by decide +kernel
set_option maxRecDepth 100000 in
theorem d_39_61 : decode (mB 39) 61 = .ok (.iastore, 1) := by decide +kernel
set_option maxRecDepth 100000 in
theorem d_39_62 : decode (mB 39) 62 = .ok (.iload 4, 2) := by decide +kernel
set_option maxRecDepth 100000 in
theorem d_39_64 : decode (mB 39) 64 = .ok (.ireturn, 1) := by decide +kernel
