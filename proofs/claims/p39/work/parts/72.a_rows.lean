set_option maxRecDepth 100000 in
theorem cd_30 : cdP 30 := ⟨okr (k := 530) rfl (by decide +kernel), by decide +kernel, by decide +kernel, okk_w (k := 32) (by decide +kernel)⟩
set_option maxRecDepth 100000 in
theorem cd_106 : cdP 106 := ⟨okr (k := 855) rfl (by decide +kernel), by decide +kernel, by decide +kernel, okk_w (k := 30) (by decide +kernel)⟩
set_option maxRecDepth 100000 in
theorem cd_107 : cdP 107 := ⟨okr (k := 859) rfl (by decide +kernel), by decide +kernel, by decide +kernel, okk_w (k := 30) (by decide +kernel)⟩
set_option maxRecDepth 100000 in
theorem oi_12 : okw (.methodLink "WhistleStopLaw$Table" 1 Lib.objectInit) := okk_w (k := 526) (by decide +kernel)
set_option maxRecDepth 100000 in
theorem cl_12_7 : okw (.classLink "WhistleStopLaw$Table" 7 "WhistleStop") := okk_w (k := 527) (by decide +kernel)
set_option maxRecDepth 100000 in
theorem c_99_9 : ciP 99 9 30 0 := ⟨cd_30, okk_w (k := 528) (by decide +kernel), okk_w (k := 529) (by decide +kernel), by decide +kernel, by decide +kernel, by decide +kernel⟩
set_option maxRecDepth 100000 in
theorem fl_12_10 : flP "WhistleStopLaw$Table" 10 12 0 := ⟨_, rfl, by decide, okk_w (k := 794) (by decide +kernel)⟩
set_option maxRecDepth 100000 in
theorem fl_12_16 : flP "WhistleStopLaw$Table" 16 12 4 := ⟨_, rfl, by decide, okk_w (k := 800) (by decide +kernel)⟩
set_option maxRecDepth 100000 in
theorem cl_12_20 : okw (.classLink "WhistleStopLaw$Table" 20 "[I") := okk_w (k := 790) (by decide +kernel)
set_option maxRecDepth 100000 in
theorem fl_12_21 : flP "WhistleStopLaw$Table" 21 12 6 := ⟨_, rfl, by decide, okk_w (k := 802) (by decide +kernel)⟩
set_option maxRecDepth 100000 in
theorem cl_12_25 : okw (.classLink "WhistleStopLaw$Table" 25 "[[Z") := okk_w (k := 791) (by decide +kernel)
set_option maxRecDepth 100000 in
theorem fl_12_27 : flP "WhistleStopLaw$Table" 27 12 8 := ⟨_, rfl, by decide, okk_w (k := 804) (by decide +kernel)⟩
set_option maxRecDepth 100000 in
theorem fl_12_30 : flP "WhistleStopLaw$Table" 30 12 10 := ⟨_, rfl, by decide, okk_w (k := 806) (by decide +kernel)⟩
set_option maxRecDepth 100000 in
theorem fl_12_33 : flP "WhistleStopLaw$Table" 33 12 11 := ⟨_, rfl, by decide, okk_w (k := 807) (by decide +kernel)⟩
set_option maxRecDepth 100000 in
theorem fl_12_36 : flP "WhistleStopLaw$Table" 36 12 12 := ⟨_, rfl, by decide, okk_w (k := 808) (by decide +kernel)⟩
set_option maxRecDepth 100000 in
theorem cl_12_39 : okw (.classLink "WhistleStopLaw$Table" 39 "[[I") := okk_w (k := 793) (by decide +kernel)
set_option maxRecDepth 100000 in
theorem fl_12_40 : flP "WhistleStopLaw$Table" 40 12 13 := ⟨_, rfl, by decide, okk_w (k := 809) (by decide +kernel)⟩
set_option maxRecDepth 100000 in
theorem fl_12_43 : flP "WhistleStopLaw$Table" 43 12 14 := ⟨_, rfl, by decide, okk_w (k := 810) (by decide +kernel)⟩
set_option maxRecDepth 100000 in
theorem fl_12_46 : flP "WhistleStopLaw$Table" 46 12 15 := ⟨_, rfl, by decide, okk_w (k := 811) (by decide +kernel)⟩
set_option maxRecDepth 100000 in
theorem fl_12_49 : flP "WhistleStopLaw$Table" 49 12 16 := ⟨_, rfl, by decide, okk_w (k := 812) (by decide +kernel)⟩
set_option maxRecDepth 100000 in
theorem fl_12_52 : flP "WhistleStopLaw$Table" 52 12 1 := ⟨_, rfl, by decide, okk_w (k := 796) (by decide +kernel)⟩
set_option maxRecDepth 100000 in
theorem fl_12_55 : flP "WhistleStopLaw$Table" 55 12 2 := ⟨_, rfl, by decide, okk_w (k := 797) (by decide +kernel)⟩
set_option maxRecDepth 100000 in
theorem d_99_0 : decode (mB 99) 0 = .ok (.aload_n 0, 1) := by decide +kernel
set_option maxRecDepth 100000 in
theorem d_99_1 : decode (mB 99) 1 = .ok (.invokespecial 1, 3) := by decide +kernel
set_option maxRecDepth 100000 in
theorem d_99_4 : decode (mB 99) 4 = .ok (.aload_n 0, 1) := by decide +kernel
set_option maxRecDepth 100000 in
theorem d_99_5 : decode (mB 99) 5 = .ok (.new 7, 3) := by decide +kernel
set_option maxRecDepth 100000 in
theorem d_99_8 : decode (mB 99) 8 = .ok (.dup, 1) := by decide +kernel
set_option maxRecDepth 100000 in
theorem d_99_9 : decode (mB 99) 9 = .ok (.invokespecial 9, 3) := by decide +kernel
set_option maxRecDepth 100000 in
theorem d_99_12 : decode (mB 99) 12 = .ok (.putfield 10, 3) := by decide +kernel
set_option maxRecDepth 100000 in
theorem d_99_15 : decode (mB 99) 15 = .ok (.aload_n 0, 1) := by decide +kernel
set_option maxRecDepth 100000 in
theorem d_99_16 : decode (mB 99) 16 = .ok (.bipush 7, 2) := by decide +kernel
set_option maxRecDepth 100000 in
theorem d_99_18 : decode (mB 99) 18 = .ok (.newarray .int, 2) := by decide +kernel
set_option maxRecDepth 100000 in
theorem d_99_20 : decode (mB 99) 20 = .ok (.putfield 16, 3) := by decide +kernel
set_option maxRecDepth 100000 in
theorem d_99_23 : decode (mB 99) 23 = .ok (.aload_n 0, 1) := by decide +kernel
set_option maxRecDepth 100000 in
theorem d_99_24 : decode (mB 99) 24 = .ok (.bipush 8, 2) := by decide +kernel
set_option maxRecDepth 100000 in
theorem d_99_26 : decode (mB 99) 26 = .ok (.anewarray 20, 3) := by decide +kernel
set_option maxRecDepth 100000 in
theorem d_99_29 : decode (mB 99) 29 = .ok (.putfield 21, 3) := by decide +kernel
set_option maxRecDepth 100000 in
theorem d_99_32 : decode (mB 99) 32 = .ok (.aload_n 0, 1) := by decide +kernel
set_option maxRecDepth 100000 in
theorem d_99_33 : decode (mB 99) 33 = .ok (.iconst 3, 1) := by decide +kernel
set_option maxRecDepth 100000 in
theorem d_99_34 : decode (mB 99) 34 = .ok (.bipush 12, 2) := by decide +kernel
set_option maxRecDepth 100000 in
theorem d_99_36 : decode (mB 99) 36 = .ok (.multianewarray 25 2, 4) := by decide +kernel
set_option maxRecDepth 100000 in
theorem d_99_40 : decode (mB 99) 40 = .ok (.putfield 27, 3) := by decide +kernel
set_option maxRecDepth 100000 in
theorem d_99_43 : decode (mB 99) 43 = .ok (.aload_n 0, 1) := by decide +kernel
set_option maxRecDepth 100000 in
theorem d_99_44 : decode (mB 99) 44 = .ok (.bipush 8, 2) := by decide +kernel
set_option maxRecDepth 100000 in
theorem d_99_46 : decode (mB 99) 46 = .ok (.newarray .int, 2) := by decide +kernel
set_option maxRecDepth 100000 in
theorem d_99_48 : decode (mB 99) 48 = .ok (.putfield 30, 3) := by decide +kernel
set_option maxRecDepth 100000 in
theorem d_99_51 : decode (mB 99) 51 = .ok (.aload_n 0, 1) := by decide +kernel
set_option maxRecDepth 100000 in
theorem d_99_52 : decode (mB 99) 52 = .ok (.bipush 8, 2) := by decide +kernel
set_option maxRecDepth 100000 in
theorem d_99_54 : decode (mB 99) 54 = .ok (.newarray .int, 2) := by decide +kernel
set_option maxRecDepth 100000 in
theorem d_99_56 : decode (mB 99) 56 = .ok (.putfield 33, 3) := by decide +kernel
set_option maxRecDepth 100000 in
theorem d_99_59 : decode (mB 99) 59 = .ok (.aload_n 0, 1) := by decide +kernel
set_option maxRecDepth 100000 in
theorem d_99_60 : decode (mB 99) 60 = .ok (.bipush 8, 2) := by decide +kernel
set_option maxRecDepth 100000 in
theorem d_99_62 : decode (mB 99) 62 = .ok (.newarray .int, 2) := by decide +kernel
set_option maxRecDepth 100000 in
theorem d_99_64 : decode (mB 99) 64 = .ok (.putfield 36, 3) := by decide +kernel
set_option maxRecDepth 100000 in
theorem d_99_67 : decode (mB 99) 67 = .ok (.aload_n 0, 1) := by decide +kernel
set_option maxRecDepth 100000 in
theorem d_99_68 : decode (mB 99) 68 = .ok (.bipush 8, 2) := by decide +kernel
set_option maxRecDepth 100000 in
theorem d_99_70 : decode (mB 99) 70 = .ok (.iconst 5, 1) := by decide +kernel
set_option maxRecDepth 100000 in
theorem d_99_71 : decode (mB 99) 71 = .ok (.multianewarray 39 2, 4) := by decide +kernel
set_option maxRecDepth 100000 in
theorem d_99_75 : decode (mB 99) 75 = .ok (.putfield 40, 3) := by decide +kernel
set_option maxRecDepth 100000 in
theorem d_99_78 : decode (mB 99) 78 = .ok (.aload_n 0, 1) := by decide +kernel
set_option maxRecDepth 100000 in
theorem d_99_79 : decode (mB 99) 79 = .ok (.bipush 8, 2) := by decide +kernel
set_option maxRecDepth 100000 in
theorem d_99_81 : decode (mB 99) 81 = .ok (.iconst 5, 1) := by decide +kernel
set_option maxRecDepth 100000 in
theorem d_99_82 : decode (mB 99) 82 = .ok (.multianewarray 39 2, 4) := by decide +kernel
set_option maxRecDepth 100000 in
theorem d_99_86 : decode (mB 99) 86 = .ok (.putfield 43, 3) := by decide +kernel
set_option maxRecDepth 100000 in
theorem d_99_89 : decode (mB 99) 89 = .ok (.aload_n 0, 1) := by decide +kernel
set_option maxRecDepth 100000 in
theorem d_99_90 : decode (mB 99) 90 = .ok (.bipush 8, 2) := by decide +kernel
set_option maxRecDepth 100000 in
theorem d_99_92 : decode (mB 99) 92 = .ok (.iconst 5, 1) := by decide +kernel
set_option maxRecDepth 100000 in
theorem d_99_93 : decode (mB 99) 93 = .ok (.multianewarray 39 2, 4) := by decide +kernel
set_option maxRecDepth 100000 in
theorem d_99_97 : decode (mB 99) 97 = .ok (.putfield 46, 3) := by decide +kernel
set_option maxRecDepth 100000 in
theorem d_99_100 : decode (mB 99) 100 = .ok (.aload_n 0, 1) := by decide +kernel
set_option maxRecDepth 100000 in
theorem d_99_101 : decode (mB 99) 101 = .ok (.bipush 8, 2) := by decide +kernel
set_option maxRecDepth 100000 in
theorem d_99_103 : decode (mB 99) 103 = .ok (.bipush 12, 2) := by decide +kernel
set_option maxRecDepth 100000 in
theorem d_99_105 : decode (mB 99) 105 = .ok (.multianewarray 39 2, 4) := by decide +kernel
set_option maxRecDepth 100000 in
theorem d_99_109 : decode (mB 99) 109 = .ok (.putfield 49, 3) := by decide +kernel
set_option maxRecDepth 100000 in
theorem d_99_112 : decode (mB 99) 112 = .ok (.aload_n 0, 1) := by decide +kernel
set_option maxRecDepth 100000 in
theorem d_99_113 : decode (mB 99) 113 = .ok (.aload_n 1, 1) := by decide +kernel
set_option maxRecDepth 100000 in
theorem d_99_114 : decode (mB 99) 114 = .ok (.putfield 52, 3) := by decide +kernel
set_option maxRecDepth 100000 in
theorem d_99_117 : decode (mB 99) 117 = .ok (.aload_n 0, 1) := by decide +kernel
set_option maxRecDepth 100000 in
theorem d_99_118 : decode (mB 99) 118 = .ok (.iload_n 2, 1) := by decide +kernel
set_option maxRecDepth 100000 in
theorem d_99_119 : decode (mB 99) 119 = .ok (.putfield 55, 3) := by decide +kernel
set_option maxRecDepth 100000 in
theorem d_99_122 : decode (mB 99) 122 = .ok (.return_, 1) := by decide +kernel
set_option maxRecDepth 100000 in
theorem c_100_59 : csnP 100 59 106 2 := ⟨cd_106, ⟨"WhistleStopLaw", okk_w (k := 853) (by decide +kernel)⟩, okk_w (k := 854) (by decide +kernel), by decide +kernel, by decide +kernel⟩
set_option maxRecDepth 100000 in
theorem c_100_65 : csnP 100 65 107 2 := ⟨cd_107, ⟨"WhistleStopLaw", okk_w (k := 857) (by decide +kernel)⟩, okk_w (k := 858) (by decide +kernel), by decide +kernel, by decide +kernel⟩
set_option maxRecDepth 100000 in
theorem d_100_0 : decode (mB 100) 0 = .ok (.aload_n 0, 1) := by decide +kernel
set_option maxRecDepth 100000 in
theorem d_100_1 : decode (mB 100) 1 = .ok (.getfield 52, 3) := by decide +kernel
set_option maxRecDepth 100000 in
theorem d_100_4 : decode (mB 100) 4 = .ok (.aload_n 0, 1) := by decide +kernel
set_option maxRecDepth 100000 in
theorem d_100_5 : decode (mB 100) 5 = .ok (.getfield 55, 3) := by decide +kernel
set_option maxRecDepth 100000 in
theorem d_100_8 : decode (mB 100) 8 = .ok (.bipush 24, 2) := by decide +kernel
set_option maxRecDepth 100000 in
theorem d_100_10 : decode (mB 100) 10 = .ok (.irem, 1) := by decide +kernel
set_option maxRecDepth 100000 in
theorem d_100_11 : decode (mB 100) 11 = .ok (.invokestatic 59, 3) := by decide +kernel
set_option maxRecDepth 100000 in
theorem d_100_14 : decode (mB 100) 14 = .ok (.aload_n 0, 1) := by decide +kernel
set_option maxRecDepth 100000 in
theorem d_100_15 : decode (mB 100) 15 = .ok (.getfield 55, 3) := by decide +kernel
set_option maxRecDepth 100000 in
theorem d_100_18 : decode (mB 100) 18 = .ok (.bipush 24, 2) := by decide +kernel
set_option maxRecDepth 100000 in
theorem d_100_20 : decode (mB 100) 20 = .ok (.idiv, 1) := by decide +kernel
set_option maxRecDepth 100000 in
theorem d_100_21 : decode (mB 100) 21 = .ok (.bipush 8, 2) := by decide +kernel
set_option maxRecDepth 100000 in
theorem d_100_23 : decode (mB 100) 23 = .ok (.irem, 1) := by decide +kernel
set_option maxRecDepth 100000 in
theorem d_100_24 : decode (mB 100) 24 = .ok (.ishr, 1) := by decide +kernel
set_option maxRecDepth 100000 in
theorem d_100_25 : decode (mB 100) 25 = .ok (.bipush 47, 2) := by decide +kernel
set_option maxRecDepth 100000 in
theorem d_100_27 : decode (mB 100) 27 = .ok (.aload_n 0, 1) := by decide +kernel
set_option maxRecDepth 100000 in
theorem d_100_28 : decode (mB 100) 28 = .ok (.getfield 55, 3) := by decide +kernel
set_option maxRecDepth 100000 in
theorem d_100_31 : decode (mB 100) 31 = .ok (.imul, 1) := by decide +kernel
set_option maxRecDepth 100000 in
theorem d_100_32 : decode (mB 100) 32 = .ok (.iadd, 1) := by decide +kernel
set_option maxRecDepth 100000 in
theorem d_100_33 : decode (mB 100) 33 = .ok (.iload_n 1, 1) := by decide +kernel
set_option maxRecDepth 100000 in
theorem d_100_34 : decode (mB 100) 34 = .ok (.invokestatic 65, 3) := by decide +kernel
set_option maxRecDepth 100000 in
theorem d_100_37 : decode (mB 100) 37 = .ok (.istore_n 2, 1) := by decide +kernel
set_option maxRecDepth 100000 in
theorem d_100_38 : decode (mB 100) 38 = .ok (.aload_n 0, 1) := by decide +kernel
set_option maxRecDepth 100000 in
theorem d_100_39 : decode (mB 100) 39 = .ok (.dup, 1) := by decide +kernel
set_option maxRecDepth 100000 in
theorem d_100_40 : decode (mB 100) 40 = .ok (.getfield 55, 3) := by decide +kernel
set_option maxRecDepth 100000 in
theorem d_100_43 : decode (mB 100) 43 = .ok (.iconst 1, 1) := by decide +kernel
set_option maxRecDepth 100000 in
theorem d_100_44 : decode (mB 100) 44 = .ok (.iadd, 1) := by decide +kernel
set_option maxRecDepth 100000 in
theorem d_100_45 : decode (mB 100) 45 = .ok (.putfield 55, 3) := by decide +kernel
set_option maxRecDepth 100000 in
theorem d_100_48 : decode (mB 100) 48 = .ok (.iload_n 2, 1) := by decide +kernel
set_option maxRecDepth 100000 in
theorem d_100_49 : decode (mB 100) 49 = .ok (.ireturn, 1) := by decide +kernel
set_option maxRecDepth 100000 in
theorem ck_13_8 : okw (.constant "WhistleStopLaw" 8 (790386105)) := okk_w (k := 856) (by decide +kernel)
set_option maxRecDepth 100000 in
theorem d_106_0 : decode (mB 106) 0 = .ok (.iload_n 1, 1) := by decide +kernel
set_option maxRecDepth 100000 in
theorem d_106_1 : decode (mB 106) 1 = .ok (.aload_n 0, 1) := by decide +kernel
set_option maxRecDepth 100000 in
theorem d_106_2 : decode (mB 106) 2 = .ok (.arraylength, 1) := by decide +kernel
set_option maxRecDepth 100000 in
theorem d_106_3 : decode (mB 106) 3 = .ok (.if_icmp .ge 9, 3) := by decide +kernel
set_option maxRecDepth 100000 in
theorem d_106_6 : decode (mB 106) 6 = .ok (.aload_n 0, 1) := by decide +kernel
set_option maxRecDepth 100000 in
theorem d_106_7 : decode (mB 106) 7 = .ok (.iload_n 1, 1) := by decide +kernel
set_option maxRecDepth 100000 in
theorem d_106_8 : decode (mB 106) 8 = .ok (.iaload, 1) := by decide +kernel
set_option maxRecDepth 100000 in
theorem d_106_9 : decode (mB 106) 9 = .ok (.goto 9, 3) := by decide +kernel
set_option maxRecDepth 100000 in
theorem d_106_12 : decode (mB 106) 12 = .ok (.ldc 8, 2) := by decide +kernel
set_option maxRecDepth 100000 in
theorem d_106_14 : decode (mB 106) 14 = .ok (.iload_n 1, 1) := by decide +kernel
set_option maxRecDepth 100000 in
theorem d_106_15 : decode (mB 106) 15 = .ok (.iconst 3, 1) := by decide +kernel
set_option maxRecDepth 100000 in
theorem d_106_16 : decode (mB 106) 16 = .ok (.iadd, 1) := by decide +kernel
set_option maxRecDepth 100000 in
theorem d_106_17 : decode (mB 106) 17 = .ok (.imul, 1) := by decide +kernel
set_option maxRecDepth 100000 in
theorem d_106_18 : decode (mB 106) 18 = .ok (.ireturn, 1) := by decide +kernel
set_option maxRecDepth 100000 in
theorem ck_13_7 : okw (.constant "WhistleStopLaw" 7 (2147483647)) := okk_w (k := 860) (by decide +kernel)
set_option maxRecDepth 100000 in
theorem d_107_0 : decode (mB 107) 0 = .ok (.iload_n 0, 1) := by decide +kernel
set_option maxRecDepth 100000 in
theorem d_107_1 : decode (mB 107) 1 = .ok (.ldc 7, 2) := by decide +kernel
set_option maxRecDepth 100000 in
theorem d_107_3 : decode (mB 107) 3 = .ok (.iand, 1) := by decide +kernel
set_option maxRecDepth 100000 in
theorem d_107_4 : decode (mB 107) 4 = .ok (.iload_n 1, 1) := by decide +kernel
set_option maxRecDepth 100000 in
theorem d_107_5 : decode (mB 107) 5 = .ok (.irem, 1) := by decide +kernel
set_option maxRecDepth 100000 in
theorem d_107_6 : decode (mB 107) 6 = .ok (.ireturn, 1) := by decide +kernel
set_option maxRecDepth 100000 in
theorem ca_102 : okw (.arrayClass (AT 102)) := okk_w (k := 848) (by decide +kernel)
set_option maxRecDepth 100000 in
theorem ca_108 : okw (.arrayOver (AT 108)) := okk_w (k := 792) (by decide +kernel)
