set_option maxRecDepth 100000 in
theorem cd_0 : cdP 0 := ⟨okr (k := 84) rfl (by decide +kernel), by decide +kernel, by decide +kernel, okk_w (k := 58) (by decide +kernel)⟩
set_option maxRecDepth 100000 in
theorem cd_9 : cdP 9 := ⟨okr (k := 409) rfl (by decide +kernel), by decide +kernel, by decide +kernel, okk_w (k := 58) (by decide +kernel)⟩
set_option maxRecDepth 100000 in
theorem cd_10 : cdP 10 := ⟨okr (k := 484) rfl (by decide +kernel), by decide +kernel, by decide +kernel, okk_w (k := 58) (by decide +kernel)⟩
set_option maxRecDepth 100000 in
theorem cd_11 : cdP 11 := ⟨okr (k := 487) rfl (by decide +kernel), by decide +kernel, by decide +kernel, okk_w (k := 58) (by decide +kernel)⟩
set_option maxRecDepth 100000 in
theorem cd_13 : cdP 13 := ⟨okr (k := 521) rfl (by decide +kernel), by decide +kernel, by decide +kernel, okk_w (k := 58) (by decide +kernel)⟩
set_option maxRecDepth 100000 in
theorem cd_14 : cdP 14 := ⟨okr (k := 524) rfl (by decide +kernel), by decide +kernel, by decide +kernel, okk_w (k := 58) (by decide +kernel)⟩
set_option maxRecDepth 100000 in
theorem cd_15 : cdP 15 := ⟨okr (k := 543) rfl (by decide +kernel), by decide +kernel, by decide +kernel, okk_w (k := 58) (by decide +kernel)⟩
set_option maxRecDepth 100000 in
theorem cd_17 : cdP 17 := ⟨okr (k := 571) rfl (by decide +kernel), by decide +kernel, by decide +kernel, okk_w (k := 58) (by decide +kernel)⟩
set_option maxRecDepth 100000 in
theorem cd_29 : cdP 29 := ⟨okr (k := 769) rfl (by decide +kernel), by decide +kernel, by decide +kernel, okk_w (k := 58) (by decide +kernel)⟩
set_option maxRecDepth 100000 in
theorem cd_37 : cdP 37 := ⟨okr (k := 975) rfl (by decide +kernel), by decide +kernel, by decide +kernel, okk_w (k := 58) (by decide +kernel)⟩
set_option maxRecDepth 100000 in
theorem cd_49 : cdP 49 := ⟨okr (k := 1128) rfl (by decide +kernel), by decide +kernel, by decide +kernel, okk_w (k := 67) (by decide +kernel)⟩
set_option maxRecDepth 100000 in
theorem cd_50 : cdP 50 := ⟨okr (k := 1252) rfl (by decide +kernel), by decide +kernel, by decide +kernel, okk_w (k := 67) (by decide +kernel)⟩
set_option maxRecDepth 100000 in
theorem cd_51 : cdP 51 := ⟨okr (k := 1256) rfl (by decide +kernel), by decide +kernel, by decide +kernel, okk_w (k := 67) (by decide +kernel)⟩
set_option maxRecDepth 100000 in
theorem cd_52 : cdP 52 := ⟨okr (k := 1259) rfl (by decide +kernel), by decide +kernel, by decide +kernel, okk_w (k := 67) (by decide +kernel)⟩
set_option maxRecDepth 100000 in
theorem cd_53 : cdP 53 := ⟨okr (k := 1263) rfl (by decide +kernel), by decide +kernel, by decide +kernel, okk_w (k := 67) (by decide +kernel)⟩
set_option maxRecDepth 100000 in
theorem cd_55 : cdP 55 := ⟨okr (k := 1271) rfl (by decide +kernel), by decide +kernel, by decide +kernel, okk_w (k := 67) (by decide +kernel)⟩
set_option maxRecDepth 100000 in
theorem cd_60 : cdP 60 := ⟨okr (k := 1291) rfl (by decide +kernel), by decide +kernel, by decide +kernel, okk_w (k := 67) (by decide +kernel)⟩
set_option maxRecDepth 100000 in
theorem cd_72 : cdP 72 := ⟨okr (k := 1339) rfl (by decide +kernel), by decide +kernel, by decide +kernel, okk_w (k := 67) (by decide +kernel)⟩
set_option maxRecDepth 100000 in
theorem cd_76 : cdP 76 := ⟨okr (k := 1355) rfl (by decide +kernel), by decide +kernel, by decide +kernel, okk_w (k := 67) (by decide +kernel)⟩
set_option maxRecDepth 100000 in
theorem cd_77 : cdP 77 := ⟨okr (k := 1359) rfl (by decide +kernel), by decide +kernel, by decide +kernel, okk_w (k := 67) (by decide +kernel)⟩
set_option maxRecDepth 100000 in
theorem cd_81 : cdP 81 := ⟨okr (k := 1376) rfl (by decide +kernel), by decide +kernel, by decide +kernel, okk_w (k := 67) (by decide +kernel)⟩
set_option maxRecDepth 100000 in
theorem cd_84 : cdP 84 := ⟨okr (k := 1389) rfl (by decide +kernel), by decide +kernel, by decide +kernel, okk_w (k := 67) (by decide +kernel)⟩
set_option maxRecDepth 100000 in
theorem cd_96 : cdP 96 := ⟨okr (k := 1437) rfl (by decide +kernel), by decide +kernel, by decide +kernel, okk_w (k := 67) (by decide +kernel)⟩
set_option maxRecDepth 100000 in
theorem cd_97 : cdP 97 := ⟨okr (k := 1441) rfl (by decide +kernel), by decide +kernel, by decide +kernel, okk_w (k := 67) (by decide +kernel)⟩
set_option maxRecDepth 100000 in
theorem cd_98 : cdP 98 := ⟨okr (k := 1445) rfl (by decide +kernel), by decide +kernel, by decide +kernel, okk_w (k := 67) (by decide +kernel)⟩
set_option maxRecDepth 100000 in
theorem cd_99 : cdP 99 := ⟨okr (k := 1450) rfl (by decide +kernel), by decide +kernel, by decide +kernel, okk_w (k := 67) (by decide +kernel)⟩
set_option maxRecDepth 100000 in
theorem cd_118 : cdP 118 := ⟨okr (k := 223) rfl (by decide +kernel), by decide +kernel, by decide +kernel, okk_w (k := 63) (by decide +kernel)⟩
set_option maxRecDepth 100000 in
theorem cd_119 : cdP 119 := ⟨okr (k := 979) rfl (by decide +kernel), by decide +kernel, by decide +kernel, okk_w (k := 63) (by decide +kernel)⟩
set_option maxRecDepth 100000 in
theorem cd_120 : cdP 120 := ⟨okr (k := 985) rfl (by decide +kernel), by decide +kernel, by decide +kernel, okk_w (k := 63) (by decide +kernel)⟩
set_option maxRecDepth 100000 in
theorem cd_121 : cdP 121 := ⟨okr (k := 989) rfl (by decide +kernel), by decide +kernel, by decide +kernel, okk_w (k := 63) (by decide +kernel)⟩
set_option maxRecDepth 100000 in
theorem cd_122 : cdP 122 := ⟨okr (k := 993) rfl (by decide +kernel), by decide +kernel, by decide +kernel, okk_w (k := 63) (by decide +kernel)⟩
set_option maxRecDepth 100000 in
theorem cd_123 : cdP 123 := ⟨okr (k := 1000) rfl (by decide +kernel), by decide +kernel, by decide +kernel, okk_w (k := 63) (by decide +kernel)⟩
set_option maxRecDepth 100000 in
theorem cd_124 : cdP 124 := ⟨okr (k := 1004) rfl (by decide +kernel), by decide +kernel, by decide +kernel, okk_w (k := 63) (by decide +kernel)⟩
set_option maxRecDepth 100000 in
theorem cd_125 : cdP 125 := ⟨okr (k := 1008) rfl (by decide +kernel), by decide +kernel, by decide +kernel, okk_w (k := 63) (by decide +kernel)⟩
set_option maxRecDepth 100000 in
theorem cd_126 : cdP 126 := ⟨okr (k := 187) rfl (by decide +kernel), by decide +kernel, by decide +kernel, okk_w (k := 61) (by decide +kernel)⟩
set_option maxRecDepth 100000 in
theorem cd_131 : cdP 131 := ⟨okr (k := 491) rfl (by decide +kernel), by decide +kernel, by decide +kernel, okk_w (k := 75) (by decide +kernel)⟩
set_option maxRecDepth 100000 in
theorem cd_133 : cdP 133 := ⟨okr (k := 244) rfl (by decide +kernel), by decide +kernel, by decide +kernel, okk_w (k := 64) (by decide +kernel)⟩
set_option maxRecDepth 100000 in
theorem cd_140 : cdP 140 := ⟨okr (k := 950) rfl (by decide +kernel), by decide +kernel, by decide +kernel, okk_w (k := 74) (by decide +kernel)⟩
set_option maxRecDepth 100000 in
theorem cd_141 : cdP 141 := ⟨okr (k := 284) rfl (by decide +kernel), by decide +kernel, by decide +kernel, okk_w (k := 66) (by decide +kernel)⟩
set_option maxRecDepth 100000 in
theorem cd_156 : cdP 156 := ⟨okr (k := 92) rfl (by decide +kernel), by decide +kernel, by decide +kernel, okk_w (k := 59) (by decide +kernel)⟩
set_option maxRecDepth 100000 in
theorem cd_157 : cdP 157 := ⟨okr (k := 251) rfl (by decide +kernel), by decide +kernel, by decide +kernel, okk_w (k := 65) (by decide +kernel)⟩
set_option maxRecDepth 100000 in
theorem cd_162 : cdP 162 := ⟨okr (k := 202) rfl (by decide +kernel), by decide +kernel, by decide +kernel, okk_w (k := 62) (by decide +kernel)⟩
set_option maxRecDepth 100000 in
theorem cd_173 : cdP 173 := ⟨okr (k := 150) rfl (by decide +kernel), by decide +kernel, by decide +kernel, okk_w (k := 60) (by decide +kernel)⟩
set_option maxRecDepth 100000 in
theorem cd_174 : cdP 174 := ⟨okr (k := 778) rfl (by decide +kernel), by decide +kernel, by decide +kernel, okk_w (k := 60) (by decide +kernel)⟩
set_option maxRecDepth 100000 in
theorem cd_175 : cdP 175 := ⟨okr (k := 792) rfl (by decide +kernel), by decide +kernel, by decide +kernel, okk_w (k := 60) (by decide +kernel)⟩
set_option maxRecDepth 100000 in
theorem cd_176 : cdP 176 := ⟨okr (k := 481) rfl (by decide +kernel), by decide +kernel, by decide +kernel, okk_w (k := 76) (by decide +kernel)⟩
set_option maxRecDepth 100000 in
theorem cd_177 : cdP 177 := ⟨okr (k := 510) rfl (by decide +kernel), by decide +kernel, by decide +kernel, okk_w (k := 76) (by decide +kernel)⟩
set_option maxRecDepth 100000 in
theorem cd_180 : cdP 180 := ⟨okr (k := 727) rfl (by decide +kernel), by decide +kernel, by decide +kernel, okk_w (k := 76) (by decide +kernel)⟩
set_option maxRecDepth 100000 in
theorem cd_213 : cdP 213 := ⟨okr (k := 781) rfl (by decide +kernel), by decide +kernel, by decide +kernel, okk_w (k := 77) (by decide +kernel)⟩
set_option maxRecDepth 100000 in
theorem cd_214 : cdP 214 := ⟨okr (k := 784) rfl (by decide +kernel), by decide +kernel, by decide +kernel, okk_w (k := 77) (by decide +kernel)⟩
set_option maxRecDepth 100000 in
theorem cd_215 : cdP 215 := ⟨okr (k := 787) rfl (by decide +kernel), by decide +kernel, by decide +kernel, okk_w (k := 77) (by decide +kernel)⟩
set_option maxRecDepth 100000 in
theorem cd_216 : cdP 216 := ⟨okr (k := 850) rfl (by decide +kernel), by decide +kernel, by decide +kernel, okk_w (k := 78) (by decide +kernel)⟩
set_option maxRecDepth 100000 in
theorem oi_0 : okw (.methodLink "WhistleStop" 3 Lib.objectInit) := okk_w (k := 85) (by decide +kernel)
set_option maxRecDepth 100000 in
theorem cl_0_9 : okw (.classLink "WhistleStop" 9 "WhistleStop$Network") := okk_w (k := 88) (by decide +kernel)
set_option maxRecDepth 100000 in
theorem c_0_11 : cinP 0 11 156 0 := ⟨cd_156, ⟨"WhistleStop", okk_w (k := 90) (by decide +kernel)⟩, okk_w (k := 91) (by decide +kernel), by decide +kernel, by decide +kernel, by decide +kernel⟩
set_option maxRecDepth 100000 in
theorem fl_0_12 : flP "WhistleStop" 12 0 0 := ⟨_, rfl, by decide, okk_w (k := 340) (by decide +kernel)⟩
set_option maxRecDepth 100000 in
theorem cl_0_16 : okw (.classLink "WhistleStop" 16 "WhistleStop$Runs") := okk_w (k := 146) (by decide +kernel)
set_option maxRecDepth 100000 in
theorem c_0_18 : cinP 0 18 173 0 := ⟨cd_173, ⟨"WhistleStop", okk_w (k := 148) (by decide +kernel)⟩, okk_w (k := 149) (by decide +kernel), by decide +kernel, by decide +kernel, by decide +kernel⟩
set_option maxRecDepth 100000 in
theorem fl_0_19 : flP "WhistleStop" 19 0 1 := ⟨_, rfl, by decide, okk_w (k := 341) (by decide +kernel)⟩
set_option maxRecDepth 100000 in
theorem cl_0_23 : okw (.classLink "WhistleStop" 23 "WhistleStop$Board") := okk_w (k := 183) (by decide +kernel)
set_option maxRecDepth 100000 in
theorem c_0_25 : cinP 0 25 126 0 := ⟨cd_126, ⟨"WhistleStop", okk_w (k := 185) (by decide +kernel)⟩, okk_w (k := 186) (by decide +kernel), by decide +kernel, by decide +kernel, by decide +kernel⟩
set_option maxRecDepth 100000 in
theorem fl_0_26 : flP "WhistleStop" 26 0 2 := ⟨_, rfl, by decide, okk_w (k := 342) (by decide +kernel)⟩
set_option maxRecDepth 100000 in
theorem cl_0_30 : okw (.classLink "WhistleStop" 30 "WhistleStop$Onward") := okk_w (k := 198) (by decide +kernel)
set_option maxRecDepth 100000 in
theorem c_0_32 : cinP 0 32 162 0 := ⟨cd_162, ⟨"WhistleStop", okk_w (k := 200) (by decide +kernel)⟩, okk_w (k := 201) (by decide +kernel), by decide +kernel, by decide +kernel, by decide +kernel⟩
set_option maxRecDepth 100000 in
theorem fl_0_33 : flP "WhistleStop" 33 0 3 := ⟨_, rfl, by decide, okk_w (k := 343) (by decide +kernel)⟩
set_option maxRecDepth 100000 in
theorem cl_0_37 : okw (.classLink "WhistleStop" 37 "WhistleStop$Backward") := okk_w (k := 219) (by decide +kernel)
set_option maxRecDepth 100000 in
theorem c_0_39 : cinP 0 39 118 0 := ⟨cd_118, ⟨"WhistleStop", okk_w (k := 221) (by decide +kernel)⟩, okk_w (k := 222) (by decide +kernel), by decide +kernel, by decide +kernel, by decide +kernel⟩
set_option maxRecDepth 100000 in
theorem fl_0_40 : flP "WhistleStop" 40 0 4 := ⟨_, rfl, by decide, okk_w (k := 344) (by decide +kernel)⟩
set_option maxRecDepth 100000 in
theorem cl_0_44 : okw (.classLink "WhistleStop" 44 "WhistleStop$Fares") := okk_w (k := 240) (by decide +kernel)
set_option maxRecDepth 100000 in
theorem c_0_46 : ciP 0 46 133 0 := ⟨cd_133, okk_w (k := 242) (by decide +kernel), okk_w (k := 243) (by decide +kernel), by decide +kernel, by decide +kernel, by decide +kernel⟩
set_option maxRecDepth 100000 in
theorem fl_0_47 : flP "WhistleStop" 47 0 5 := ⟨_, rfl, by decide, okk_w (k := 345) (by decide +kernel)⟩
set_option maxRecDepth 100000 in
theorem cl_0_51 : okw (.classLink "WhistleStop" 51 "WhistleStop$Journey") := okk_w (k := 280) (by decide +kernel)
set_option maxRecDepth 100000 in
theorem c_0_53 : cinP 0 53 141 0 := ⟨cd_141, ⟨"WhistleStop", okk_w (k := 282) (by decide +kernel)⟩, okk_w (k := 283) (by decide +kernel), by decide +kernel, by decide +kernel, by decide +kernel⟩
set_option maxRecDepth 100000 in
theorem fl_0_54 : flP "WhistleStop" 54 0 6 := ⟨_, rfl, by decide, okk_w (k := 346) (by decide +kernel)⟩
set_option maxRecDepth 100000 in
theorem d_0_0 : decode (mB 0) 0 = .ok (.aload_n 0, 1) := by decide +kernel
set_option maxRecDepth 100000 in
theorem d_0_1 : decode (mB 0) 1 = .ok (.invokespecial 3, 3) := by decide +kernel
set_option maxRecDepth 100000 in
theorem d_0_4 : decode (mB 0) 4 = .ok (.aload_n 0, 1) := by decide +kernel
set_option maxRecDepth 100000 in
theorem d_0_5 : decode (mB 0) 5 = .ok (.new 9, 3) := by decide +kernel
set_option maxRecDepth 100000 in
theorem d_0_8 : decode (mB 0) 8 = .ok (.dup, 1) := by decide +kernel
set_option maxRecDepth 100000 in
theorem d_0_9 : decode (mB 0) 9 = .ok (.invokespecial 11, 3) := by decide +kernel
set_option maxRecDepth 100000 in
theorem d_0_12 : decode (mB 0) 12 = .ok (.putfield 12, 3) := by decide +kernel
set_option maxRecDepth 100000 in
theorem d_0_15 : decode (mB 0) 15 = .ok (.aload_n 0, 1) := by decide +kernel
set_option maxRecDepth 100000 in
theorem d_0_16 : decode (mB 0) 16 = .ok (.new 16, 3) := by decide +kernel
set_option maxRecDepth 100000 in
theorem d_0_19 : decode (mB 0) 19 = .ok (.dup, 1) := by decide +kernel
set_option maxRecDepth 100000 in
theorem d_0_20 : decode (mB 0) 20 = .ok (.invokespecial 18, 3) := by decide +kernel
set_option maxRecDepth 100000 in
theorem d_0_23 : decode (mB 0) 23 = .ok (.putfield 19, 3) := by decide +kernel
set_option maxRecDepth 100000 in
theorem d_0_26 : decode (mB 0) 26 = .ok (.aload_n 0, 1) := by decide +kernel
set_option maxRecDepth 100000 in
theorem d_0_27 : decode (mB 0) 27 = .ok (.new 23, 3) := by decide +kernel
set_option maxRecDepth 100000 in
theorem d_0_30 : decode (mB 0) 30 = .ok (.dup, 1) := by decide +kernel
set_option maxRecDepth 100000 in
theorem d_0_31 : decode (mB 0) 31 = .ok (.invokespecial 25, 3) := by decide +kernel
set_option maxRecDepth 100000 in
theorem d_0_34 : decode (mB 0) 34 = .ok (.putfield 26, 3) := by decide +kernel
set_option maxRecDepth 100000 in
theorem d_0_37 : decode (mB 0) 37 = .ok (.aload_n 0, 1) := by decide +kernel
set_option maxRecDepth 100000 in
theorem d_0_38 : decode (mB 0) 38 = .ok (.new 30, 3) := by decide +kernel
set_option maxRecDepth 100000 in
theorem d_0_41 : decode (mB 0) 41 = .ok (.dup, 1) := by decide +kernel
set_option maxRecDepth 100000 in
theorem d_0_42 : decode (mB 0) 42 = .ok (.invokespecial 32, 3) := by decide +kernel
set_option maxRecDepth 100000 in
theorem d_0_45 : decode (mB 0) 45 = .ok (.putfield 33, 3) := by decide +kernel
set_option maxRecDepth 100000 in
theorem d_0_48 : decode (mB 0) 48 = .ok (.aload_n 0, 1) := by decide +kernel
set_option maxRecDepth 100000 in
theorem d_0_49 : decode (mB 0) 49 = .ok (.new 37, 3) := by decide +kernel
set_option maxRecDepth 100000 in
theorem d_0_52 : decode (mB 0) 52 = .ok (.dup, 1) := by decide +kernel
set_option maxRecDepth 100000 in
theorem d_0_53 : decode (mB 0) 53 = .ok (.invokespecial 39, 3) := by decide +kernel
set_option maxRecDepth 100000 in
theorem d_0_56 : decode (mB 0) 56 = .ok (.putfield 40, 3) := by decide +kernel
set_option maxRecDepth 100000 in
theorem d_0_59 : decode (mB 0) 59 = .ok (.aload_n 0, 1) := by decide +kernel
set_option maxRecDepth 100000 in
theorem d_0_60 : decode (mB 0) 60 = .ok (.new 44, 3) := by decide +kernel
set_option maxRecDepth 100000 in
theorem d_0_63 : decode (mB 0) 63 = .ok (.dup, 1) := by decide +kernel
set_option maxRecDepth 100000 in
theorem d_0_64 : decode (mB 0) 64 = .ok (.invokespecial 46, 3) := by decide +kernel
set_option maxRecDepth 100000 in
theorem d_0_67 : decode (mB 0) 67 = .ok (.putfield 47, 3) := by decide +kernel
set_option maxRecDepth 100000 in
theorem d_0_70 : decode (mB 0) 70 = .ok (.aload_n 0, 1) := by decide +kernel
set_option maxRecDepth 100000 in
theorem d_0_71 : decode (mB 0) 71 = .ok (.new 51, 3) := by decide +kernel
set_option maxRecDepth 100000 in
theorem d_0_74 : decode (mB 0) 74 = .ok (.dup, 1) := by decide +kernel
set_option maxRecDepth 100000 in
theorem d_0_75 : decode (mB 0) 75 = .ok (.invokespecial 53, 3) := by decide +kernel
set_option maxRecDepth 100000 in
theorem d_0_78 : decode (mB 0) 78 = .ok (.putfield 54, 3) := by decide +kernel
set_option maxRecDepth 100000 in
theorem d_0_81 : decode (mB 0) 81 = .ok (.return_, 1) := by decide +kernel
set_option maxRecDepth 100000 in
theorem cl_0_277 : okw (.classLink "WhistleStop" 277 "java/lang/IndexOutOfBoundsException") := okk_w (k := 410) (by decide +kernel)
set_option maxRecDepth 100000 in
theorem d_9_0 : decode (mB 9) 0 = .ok (.iload_n 0, 1) := by decide +kernel
set_option maxRecDepth 100000 in
theorem d_9_1 : decode (mB 9) 1 = .ok (.ifCond .lt 8, 3) := by decide +kernel
set_option maxRecDepth 100000 in
theorem d_9_4 : decode (mB 9) 4 = .ok (.iload_n 0, 1) := by decide +kernel
set_option maxRecDepth 100000 in
theorem d_9_5 : decode (mB 9) 5 = .ok (.iload_n 1, 1) := by decide +kernel
set_option maxRecDepth 100000 in
theorem d_9_6 : decode (mB 9) 6 = .ok (.if_icmp .lt 14, 3) := by decide +kernel
set_option maxRecDepth 100000 in
theorem d_9_9 : decode (mB 9) 9 = .ok (.new 277, 3) := by decide +kernel
set_option maxRecDepth 100000 in
theorem d_9_12 : decode (mB 9) 12 = .ok (.dup, 1) := by decide +kernel
set_option maxRecDepth 100000 in
theorem d_9_13 : decode (mB 9) 13 = .ok (.ldc_w 279, 3) := by decide +kernel
set_option maxRecDepth 100000 in
theorem d_9_16 : decode (mB 9) 16 = .ok (.invokespecial 281, 3) := by decide +kernel
set_option maxRecDepth 100000 in
theorem d_9_19 : decode (mB 9) 19 = .ok (.athrow, 1) := by decide +kernel
set_option maxRecDepth 100000 in
theorem d_9_20 : decode (mB 9) 20 = .ok (.return_, 1) := by decide +kernel
set_option maxRecDepth 100000 in
theorem c_10_58 : csP 10 58 11 3 := ⟨cd_11, okk_w (k := 485) (by decide +kernel), okk_w (k := 486) (by decide +kernel), by decide +kernel, by decide +kernel⟩
set_option maxRecDepth 100000 in
theorem d_10_0 : decode (mB 10) 0 = .ok (.iload_n 0, 1) := by decide +kernel
set_option maxRecDepth 100000 in
theorem d_10_1 : decode (mB 10) 1 = .ok (.iconst 0, 1) := by decide +kernel
set_option maxRecDepth 100000 in
theorem d_10_2 : decode (mB 10) 2 = .ok (.sipush 365, 3) := by decide +kernel
set_option maxRecDepth 100000 in
theorem d_10_5 : decode (mB 10) 5 = .ok (.invokestatic 58, 3) := by decide +kernel
set_option maxRecDepth 100000 in
theorem d_10_8 : decode (mB 10) 8 = .ok (.ireturn, 1) := by decide +kernel
set_option maxRecDepth 100000 in
theorem d_11_0 : decode (mB 11) 0 = .ok (.iload_n 0, 1) := by decide +kernel
set_option maxRecDepth 100000 in
theorem d_11_1 : decode (mB 11) 1 = .ok (.iload_n 1, 1) := by decide +kernel
set_option maxRecDepth 100000 in
theorem d_11_2 : decode (mB 11) 2 = .ok (.if_icmp .lt 12, 3) := by decide +kernel
set_option maxRecDepth 100000 in
theorem d_11_5 : decode (mB 11) 5 = .ok (.iload_n 0, 1) := by decide +kernel
set_option maxRecDepth 100000 in
theorem d_11_6 : decode (mB 11) 6 = .ok (.iload_n 2, 1) := by decide +kernel
set_option maxRecDepth 100000 in
theorem d_11_7 : decode (mB 11) 7 = .ok (.if_icmp .gt 7, 3) := by decide +kernel
set_option maxRecDepth 100000 in
theorem d_11_10 : decode (mB 11) 10 = .ok (.iconst 1, 1) := by decide +kernel
set_option maxRecDepth 100000 in
theorem d_11_11 : decode (mB 11) 11 = .ok (.goto 4, 3) := by decide +kernel
set_option maxRecDepth 100000 in
theorem d_11_14 : decode (mB 11) 14 = .ok (.iconst 0, 1) := by decide +kernel
set_option maxRecDepth 100000 in
theorem d_11_15 : decode (mB 11) 15 = .ok (.ireturn, 1) := by decide +kernel
set_option maxRecDepth 100000 in
theorem c_13_58 : csP 13 58 11 3 := ⟨cd_11, okk_w (k := 485) (by decide +kernel), okk_w (k := 486) (by decide +kernel), by decide +kernel, by decide +kernel⟩
set_option maxRecDepth 100000 in
theorem c_13_62 : csP 13 62 14 1 := ⟨cd_14, okk_w (k := 522) (by decide +kernel), okk_w (k := 523) (by decide +kernel), by decide +kernel, by decide +kernel⟩
set_option maxRecDepth 100000 in
theorem fl_0_66 : flP "WhistleStop" 66 8 4 := ⟨_, rfl, by decide, okk_w (k := 117) (by decide +kernel)⟩
set_option maxRecDepth 100000 in
theorem c_13_70 : csP 13 70 15 1 := ⟨cd_15, okk_w (k := 541) (by decide +kernel), okk_w (k := 542) (by decide +kernel), by decide +kernel, by decide +kernel⟩
set_option maxRecDepth 100000 in
theorem fl_0_73 : flP "WhistleStop" 73 8 0 := ⟨_, rfl, by decide, okk_w (k := 101) (by decide +kernel)⟩
set_option maxRecDepth 100000 in
theorem d_13_0 : decode (mB 13) 0 = .ok (.iload_n 1, 1) := by decide +kernel
set_option maxRecDepth 100000 in
theorem d_13_1 : decode (mB 13) 1 = .ok (.iconst 0, 1) := by decide +kernel
set_option maxRecDepth 100000 in
theorem d_13_2 : decode (mB 13) 2 = .ok (.bipush 30, 2) := by decide +kernel
set_option maxRecDepth 100000 in
theorem d_13_4 : decode (mB 13) 4 = .ok (.invokestatic 58, 3) := by decide +kernel
set_option maxRecDepth 100000 in
theorem d_13_7 : decode (mB 13) 7 = .ok (.invokestatic 62, 3) := by decide +kernel
set_option maxRecDepth 100000 in
theorem d_13_10 : decode (mB 13) 10 = .ok (.aload_n 0, 1) := by decide +kernel
set_option maxRecDepth 100000 in
theorem d_13_11 : decode (mB 13) 11 = .ok (.getfield 12, 3) := by decide +kernel
set_option maxRecDepth 100000 in
theorem d_13_14 : decode (mB 13) 14 = .ok (.getfield 66, 3) := by decide +kernel
set_option maxRecDepth 100000 in
theorem d_13_17 : decode (mB 13) 17 = .ok (.bipush 16, 2) := by decide +kernel
set_option maxRecDepth 100000 in
theorem d_13_19 : decode (mB 13) 19 = .ok (.if_icmp .ge 7, 3) := by decide +kernel
set_option maxRecDepth 100000 in
theorem d_13_22 : decode (mB 13) 22 = .ok (.iconst 1, 1) := by decide +kernel
set_option maxRecDepth 100000 in
theorem d_13_23 : decode (mB 13) 23 = .ok (.goto 4, 3) := by decide +kernel
set_option maxRecDepth 100000 in
theorem d_13_26 : decode (mB 13) 26 = .ok (.iconst 0, 1) := by decide +kernel
set_option maxRecDepth 100000 in
theorem d_13_27 : decode (mB 13) 27 = .ok (.invokestatic 70, 3) := by decide +kernel
set_option maxRecDepth 100000 in
theorem d_13_30 : decode (mB 13) 30 = .ok (.aload_n 0, 1) := by decide +kernel
set_option maxRecDepth 100000 in
theorem d_13_31 : decode (mB 13) 31 = .ok (.getfield 12, 3) := by decide +kernel
set_option maxRecDepth 100000 in
theorem d_13_34 : decode (mB 13) 34 = .ok (.getfield 73, 3) := by decide +kernel
set_option maxRecDepth 100000 in
theorem d_13_37 : decode (mB 13) 37 = .ok (.aload_n 0, 1) := by decide +kernel
set_option maxRecDepth 100000 in
theorem d_13_38 : decode (mB 13) 38 = .ok (.getfield 12, 3) := by decide +kernel
set_option maxRecDepth 100000 in
theorem d_13_41 : decode (mB 13) 41 = .ok (.getfield 66, 3) := by decide +kernel
set_option maxRecDepth 100000 in
theorem d_13_44 : decode (mB 13) 44 = .ok (.iload_n 1, 1) := by decide +kernel
set_option maxRecDepth 100000 in
theorem d_13_45 : decode (mB 13) 45 = .ok (.iastore, 1) := by decide +kernel
set_option maxRecDepth 100000 in
theorem d_13_46 : decode (mB 13) 46 = .ok (.aload_n 0, 1) := by decide +kernel
set_option maxRecDepth 100000 in
theorem d_13_47 : decode (mB 13) 47 = .ok (.getfield 12, 3) := by decide +kernel
set_option maxRecDepth 100000 in
theorem d_13_50 : decode (mB 13) 50 = .ok (.dup, 1) := by decide +kernel
set_option maxRecDepth 100000 in
theorem d_13_51 : decode (mB 13) 51 = .ok (.getfield 66, 3) := by decide +kernel
set_option maxRecDepth 100000 in
theorem d_13_54 : decode (mB 13) 54 = .ok (.iconst 1, 1) := by decide +kernel
set_option maxRecDepth 100000 in
theorem d_13_55 : decode (mB 13) 55 = .ok (.iadd, 1) := by decide +kernel
set_option maxRecDepth 100000 in
theorem d_13_56 : decode (mB 13) 56 = .ok (.putfield 66, 3) := by decide +kernel
set_option maxRecDepth 100000 in
theorem d_13_59 : decode (mB 13) 59 = .ok (.aload_n 0, 1) := by decide +kernel
set_option maxRecDepth 100000 in
theorem d_13_60 : decode (mB 13) 60 = .ok (.getfield 12, 3) := by decide +kernel
set_option maxRecDepth 100000 in
theorem d_13_63 : decode (mB 13) 63 = .ok (.getfield 66, 3) := by decide +kernel
set_option maxRecDepth 100000 in
theorem d_13_66 : decode (mB 13) 66 = .ok (.iconst 1, 1) := by decide +kernel
set_option maxRecDepth 100000 in
theorem d_13_67 : decode (mB 13) 67 = .ok (.isub, 1) := by decide +kernel
set_option maxRecDepth 100000 in
theorem d_13_68 : decode (mB 13) 68 = .ok (.ireturn, 1) := by decide +kernel
set_option maxRecDepth 100000 in
theorem cl_0_284 : okw (.classLink "WhistleStop" 284 "java/lang/IllegalArgumentException") := okk_w (k := 525) (by decide +kernel)
set_option maxRecDepth 100000 in
theorem d_14_0 : decode (mB 14) 0 = .ok (.iload_n 0, 1) := by decide +kernel
set_option maxRecDepth 100000 in
theorem d_14_1 : decode (mB 14) 1 = .ok (.ifCond .ne 14, 3) := by decide +kernel
set_option maxRecDepth 100000 in
theorem d_14_4 : decode (mB 14) 4 = .ok (.new 284, 3) := by decide +kernel
set_option maxRecDepth 100000 in
theorem d_14_7 : decode (mB 14) 7 = .ok (.dup, 1) := by decide +kernel
set_option maxRecDepth 100000 in
theorem d_14_8 : decode (mB 14) 8 = .ok (.ldc_w 286, 3) := by decide +kernel
set_option maxRecDepth 100000 in
theorem d_14_11 : decode (mB 14) 11 = .ok (.invokespecial 288, 3) := by decide +kernel
set_option maxRecDepth 100000 in
theorem d_14_14 : decode (mB 14) 14 = .ok (.athrow, 1) := by decide +kernel
set_option maxRecDepth 100000 in
theorem d_14_15 : decode (mB 14) 15 = .ok (.return_, 1) := by decide +kernel
set_option maxRecDepth 100000 in
theorem cl_0_289 : okw (.classLink "WhistleStop" 289 "java/lang/IllegalStateException") := okk_w (k := 544) (by decide +kernel)
set_option maxRecDepth 100000 in
theorem d_15_0 : decode (mB 15) 0 = .ok (.iload_n 0, 1) := by decide +kernel
set_option maxRecDepth 100000 in
theorem d_15_1 : decode (mB 15) 1 = .ok (.ifCond .ne 14, 3) := by decide +kernel
set_option maxRecDepth 100000 in
theorem d_15_4 : decode (mB 15) 4 = .ok (.new 289, 3) := by decide +kernel
set_option maxRecDepth 100000 in
theorem d_15_7 : decode (mB 15) 7 = .ok (.dup, 1) := by decide +kernel
set_option maxRecDepth 100000 in
theorem d_15_8 : decode (mB 15) 8 = .ok (.ldc_w 291, 3) := by decide +kernel
set_option maxRecDepth 100000 in
theorem d_15_11 : decode (mB 15) 11 = .ok (.invokespecial 293, 3) := by decide +kernel
set_option maxRecDepth 100000 in
theorem d_15_14 : decode (mB 15) 14 = .ok (.athrow, 1) := by decide +kernel
set_option maxRecDepth 100000 in
theorem d_15_15 : decode (mB 15) 15 = .ok (.return_, 1) := by decide +kernel
set_option maxRecDepth 100000 in
theorem c_17_107 : csP 17 107 9 2 := ⟨cd_9, okk_w (k := 407) (by decide +kernel), okk_w (k := 408) (by decide +kernel), by decide +kernel, by decide +kernel⟩
set_option maxRecDepth 100000 in
theorem d_17_0 : decode (mB 17) 0 = .ok (.iload_n 1, 1) := by decide +kernel
set_option maxRecDepth 100000 in
theorem d_17_1 : decode (mB 17) 1 = .ok (.aload_n 0, 1) := by decide +kernel
set_option maxRecDepth 100000 in
theorem d_17_2 : decode (mB 17) 2 = .ok (.getfield 12, 3) := by decide +kernel
set_option maxRecDepth 100000 in
theorem d_17_5 : decode (mB 17) 5 = .ok (.getfield 66, 3) := by decide +kernel
set_option maxRecDepth 100000 in
theorem d_17_8 : decode (mB 17) 8 = .ok (.invokestatic 107, 3) := by decide +kernel
set_option maxRecDepth 100000 in
theorem d_17_11 : decode (mB 17) 11 = .ok (.return_, 1) := by decide +kernel
set_option maxRecDepth 100000 in
theorem ck_0_294 : okw (.constant "WhistleStop" 294 (500000)) := okk_w (k := 770) (by decide +kernel)
set_option maxRecDepth 100000 in
theorem c_29_58 : csP 29 58 11 3 := ⟨cd_11, okk_w (k := 485) (by decide +kernel), okk_w (k := 486) (by decide +kernel), by decide +kernel, by decide +kernel⟩
set_option maxRecDepth 100000 in
theorem c_29_62 : csP 29 62 14 1 := ⟨cd_14, okk_w (k := 522) (by decide +kernel), okk_w (k := 523) (by decide +kernel), by decide +kernel, by decide +kernel⟩
set_option maxRecDepth 100000 in
theorem d_29_0 : decode (mB 29) 0 = .ok (.iload_n 0, 1) := by decide +kernel
set_option maxRecDepth 100000 in
theorem d_29_1 : decode (mB 29) 1 = .ok (.iconst 0, 1) := by decide +kernel
set_option maxRecDepth 100000 in
theorem d_29_2 : decode (mB 29) 2 = .ok (.ldc_w 294, 3) := by decide +kernel
set_option maxRecDepth 100000 in
theorem d_29_5 : decode (mB 29) 5 = .ok (.invokestatic 58, 3) := by decide +kernel
set_option maxRecDepth 100000 in
theorem d_29_8 : decode (mB 29) 8 = .ok (.invokestatic 62, 3) := by decide +kernel
set_option maxRecDepth 100000 in
theorem d_29_11 : decode (mB 29) 11 = .ok (.return_, 1) := by decide +kernel
set_option maxRecDepth 100000 in
theorem c_37_77 : cvP 37 77 17 1 := ⟨cd_17, okk_w (k := 568) (by decide +kernel), okk_w (k := 570) (by decide +kernel), okk_w (k := 4) (by decide +kernel), by decide +kernel, by decide +kernel⟩
set_option maxRecDepth 100000 in
theorem c_37_154 : csP 37 154 29 1 := ⟨cd_29, okk_w (k := 767) (by decide +kernel), okk_w (k := 768) (by decide +kernel), by decide +kernel, by decide +kernel⟩
set_option maxRecDepth 100000 in
theorem c_37_183 : cvP 37 183 174 3 := ⟨cd_174, okk_w (k := 910) (by decide +kernel), okk_w (k := 776) (by decide +kernel), okk_w (k := 777) (by decide +kernel), by decide +kernel, by decide +kernel⟩
set_option maxRecDepth 100000 in
theorem c_37_198 : cvP 37 198 119 5 := ⟨cd_119, okk_w (k := 976) (by decide +kernel), okk_w (k := 977) (by decide +kernel), okk_w (k := 978) (by decide +kernel), by decide +kernel, by decide +kernel⟩
set_option maxRecDepth 100000 in
theorem c_37_199 : cvP 37 199 125 3 := ⟨cd_125, okk_w (k := 1005) (by decide +kernel), okk_w (k := 1006) (by decide +kernel), okk_w (k := 1007) (by decide +kernel), by decide +kernel, by decide +kernel⟩
set_option maxRecDepth 100000 in
theorem c_37_203 : csP 37 203 214 2 := ⟨cd_214, okk_w (k := 1010) (by decide +kernel), okk_w (k := 783) (by decide +kernel), by decide +kernel, by decide +kernel⟩
set_option maxRecDepth 100000 in
theorem c_37_187 : csP 37 187 215 2 := ⟨cd_215, okk_w (k := 911) (by decide +kernel), okk_w (k := 786) (by decide +kernel), by decide +kernel, by decide +kernel⟩
set_option maxRecDepth 100000 in
theorem d_37_0 : decode (mB 37) 0 = .ok (.aload_n 0, 1) := by decide +kernel
set_option maxRecDepth 100000 in
theorem d_37_1 : decode (mB 37) 1 = .ok (.iload_n 1, 1) := by decide +kernel
set_option maxRecDepth 100000 in
theorem d_37_2 : decode (mB 37) 2 = .ok (.invokevirtual 77, 3) := by decide +kernel
set_option maxRecDepth 100000 in
theorem d_37_5 : decode (mB 37) 5 = .ok (.aload_n 0, 1) := by decide +kernel
set_option maxRecDepth 100000 in
theorem d_37_6 : decode (mB 37) 6 = .ok (.iload_n 2, 1) := by decide +kernel
set_option maxRecDepth 100000 in
theorem d_37_7 : decode (mB 37) 7 = .ok (.invokevirtual 77, 3) := by decide +kernel
set_option maxRecDepth 100000 in
theorem d_37_10 : decode (mB 37) 10 = .ok (.iload_n 3, 1) := by decide +kernel
set_option maxRecDepth 100000 in
theorem d_37_11 : decode (mB 37) 11 = .ok (.invokestatic 154, 3) := by decide +kernel
set_option maxRecDepth 100000 in
theorem d_37_14 : decode (mB 37) 14 = .ok (.iload_n 3, 1) := by decide +kernel
set_option maxRecDepth 100000 in
theorem d_37_15 : decode (mB 37) 15 = .ok (.istore 4, 2) := by decide +kernel
set_option maxRecDepth 100000 in
theorem d_37_17 : decode (mB 37) 17 = .ok (.iload 4, 2) := by decide +kernel
set_option maxRecDepth 100000 in
theorem d_37_19 : decode (mB 37) 19 = .ok (.ifCond .lt 121, 3) := by decide +kernel
set_option maxRecDepth 100000 in
theorem d_37_22 : decode (mB 37) 22 = .ok (.aload_n 0, 1) := by decide +kernel
set_option maxRecDepth 100000 in
theorem d_37_23 : decode (mB 37) 23 = .ok (.getfield 19, 3) := by decide +kernel
set_option maxRecDepth 100000 in
theorem d_37_26 : decode (mB 37) 26 = .ok (.aload_n 0, 1) := by decide +kernel
set_option maxRecDepth 100000 in
theorem d_37_27 : decode (mB 37) 27 = .ok (.getfield 12, 3) := by decide +kernel
set_option maxRecDepth 100000 in
theorem d_37_30 : decode (mB 37) 30 = .ok (.iload 4, 2) := by decide +kernel
set_option maxRecDepth 100000 in
theorem d_37_32 : decode (mB 37) 32 = .ok (.sipush 5760, 3) := by decide +kernel
set_option maxRecDepth 100000 in
theorem d_37_35 : decode (mB 37) 35 = .ok (.isub, 1) := by decide +kernel
set_option maxRecDepth 100000 in
theorem d_37_36 : decode (mB 37) 36 = .ok (.iload 4, 2) := by decide +kernel
set_option maxRecDepth 100000 in
theorem d_37_38 : decode (mB 37) 38 = .ok (.invokevirtual 183, 3) := by decide +kernel
set_option maxRecDepth 100000 in
theorem d_37_41 : decode (mB 37) 41 = .ok (.aload_n 0, 1) := by decide +kernel
set_option maxRecDepth 100000 in
theorem d_37_42 : decode (mB 37) 42 = .ok (.getfield 40, 3) := by decide +kernel
set_option maxRecDepth 100000 in
theorem d_37_45 : decode (mB 37) 45 = .ok (.aload_n 0, 1) := by decide +kernel
set_option maxRecDepth 100000 in
theorem d_37_46 : decode (mB 37) 46 = .ok (.getfield 12, 3) := by decide +kernel
set_option maxRecDepth 100000 in
theorem d_37_49 : decode (mB 37) 49 = .ok (.aload_n 0, 1) := by decide +kernel
set_option maxRecDepth 100000 in
theorem d_37_50 : decode (mB 37) 50 = .ok (.getfield 19, 3) := by decide +kernel
set_option maxRecDepth 100000 in
theorem d_37_53 : decode (mB 37) 53 = .ok (.iload_n 2, 1) := by decide +kernel
set_option maxRecDepth 100000 in
theorem d_37_54 : decode (mB 37) 54 = .ok (.iload 4, 2) := by decide +kernel
set_option maxRecDepth 100000 in
theorem d_37_56 : decode (mB 37) 56 = .ok (.bipush 6, 2) := by decide +kernel
set_option maxRecDepth 100000 in
theorem d_37_58 : decode (mB 37) 58 = .ok (.invokevirtual 198, 3) := by decide +kernel
set_option maxRecDepth 100000 in
theorem d_37_61 : decode (mB 37) 61 = .ok (.aload_n 0, 1) := by decide +kernel
set_option maxRecDepth 100000 in
theorem d_37_62 : decode (mB 37) 62 = .ok (.getfield 40, 3) := by decide +kernel
set_option maxRecDepth 100000 in
theorem d_37_65 : decode (mB 37) 65 = .ok (.aload_n 0, 1) := by decide +kernel
set_option maxRecDepth 100000 in
theorem d_37_66 : decode (mB 37) 66 = .ok (.getfield 12, 3) := by decide +kernel
set_option maxRecDepth 100000 in
theorem d_37_69 : decode (mB 37) 69 = .ok (.iload_n 1, 1) := by decide +kernel
set_option maxRecDepth 100000 in
theorem d_37_70 : decode (mB 37) 70 = .ok (.bipush 6, 2) := by decide +kernel
set_option maxRecDepth 100000 in
theorem d_37_72 : decode (mB 37) 72 = .ok (.invokevirtual 199, 3) := by decide +kernel
set_option maxRecDepth 100000 in
theorem d_37_75 : decode (mB 37) 75 = .ok (.istore 5, 2) := by decide +kernel
set_option maxRecDepth 100000 in
theorem d_37_77 : decode (mB 37) 77 = .ok (.iload 5, 2) := by decide +kernel
set_option maxRecDepth 100000 in
theorem d_37_79 : decode (mB 37) 79 = .ok (.iload 4, 2) := by decide +kernel
set_option maxRecDepth 100000 in
theorem d_37_81 : decode (mB 37) 81 = .ok (.sipush 2880, 3) := by decide +kernel
set_option maxRecDepth 100000 in
theorem d_37_84 : decode (mB 37) 84 = .ok (.isub, 1) := by decide +kernel
set_option maxRecDepth 100000 in
theorem d_37_85 : decode (mB 37) 85 = .ok (.if_icmp .lt 15, 3) := by decide +kernel
set_option maxRecDepth 100000 in
theorem d_37_88 : decode (mB 37) 88 = .ok (.iload 5, 2) := by decide +kernel
set_option maxRecDepth 100000 in
theorem d_37_90 : decode (mB 37) 90 = .ok (.ifCond .lt 8, 3) := by decide +kernel
set_option maxRecDepth 100000 in
theorem d_37_93 : decode (mB 37) 93 = .ok (.iload 5, 2) := by decide +kernel
set_option maxRecDepth 100000 in
theorem d_37_95 : decode (mB 37) 95 = .ok (.goto 4, 3) := by decide +kernel
set_option maxRecDepth 100000 in
theorem d_37_98 : decode (mB 37) 98 = .ok (.iconst (-1), 1) := by decide +kernel
set_option maxRecDepth 100000 in
theorem d_37_99 : decode (mB 37) 99 = .ok (.ireturn, 1) := by decide +kernel
set_option maxRecDepth 100000 in
theorem d_37_100 : decode (mB 37) 100 = .ok (.iload 5, 2) := by decide +kernel
set_option maxRecDepth 100000 in
theorem d_37_102 : decode (mB 37) 102 = .ok (.iload 4, 2) := by decide +kernel
set_option maxRecDepth 100000 in
theorem d_37_104 : decode (mB 37) 104 = .ok (.sipush 5760, 3) := by decide +kernel
set_option maxRecDepth 100000 in
theorem d_37_107 : decode (mB 37) 107 = .ok (.isub, 1) := by decide +kernel
set_option maxRecDepth 100000 in
theorem d_37_108 : decode (mB 37) 108 = .ok (.iconst 1, 1) := by decide +kernel
set_option maxRecDepth 100000 in
theorem d_37_109 : decode (mB 37) 109 = .ok (.isub, 1) := by decide +kernel
set_option maxRecDepth 100000 in
theorem d_37_110 : decode (mB 37) 110 = .ok (.invokestatic 203, 3) := by decide +kernel
set_option maxRecDepth 100000 in
theorem d_37_113 : decode (mB 37) 113 = .ok (.istore 6, 2) := by decide +kernel
set_option maxRecDepth 100000 in
theorem d_37_115 : decode (mB 37) 115 = .ok (.iload 6, 2) := by decide +kernel
set_option maxRecDepth 100000 in
theorem d_37_117 : decode (mB 37) 117 = .ok (.ifCond .ge 5, 3) := by decide +kernel
set_option maxRecDepth 100000 in
theorem d_37_120 : decode (mB 37) 120 = .ok (.iconst (-1), 1) := by decide +kernel
set_option maxRecDepth 100000 in
theorem d_37_121 : decode (mB 37) 121 = .ok (.ireturn, 1) := by decide +kernel
set_option maxRecDepth 100000 in
theorem d_37_122 : decode (mB 37) 122 = .ok (.iload 4, 2) := by decide +kernel
set_option maxRecDepth 100000 in
theorem d_37_124 : decode (mB 37) 124 = .ok (.iconst 1, 1) := by decide +kernel
set_option maxRecDepth 100000 in
theorem d_37_125 : decode (mB 37) 125 = .ok (.isub, 1) := by decide +kernel
set_option maxRecDepth 100000 in
theorem d_37_126 : decode (mB 37) 126 = .ok (.iload 6, 2) := by decide +kernel
set_option maxRecDepth 100000 in
theorem d_37_128 : decode (mB 37) 128 = .ok (.sipush 2880, 3) := by decide +kernel
set_option maxRecDepth 100000 in
theorem d_37_131 : decode (mB 37) 131 = .ok (.iadd, 1) := by decide +kernel
set_option maxRecDepth 100000 in
theorem d_37_132 : decode (mB 37) 132 = .ok (.invokestatic 187, 3) := by decide +kernel
set_option maxRecDepth 100000 in
theorem d_37_135 : decode (mB 37) 135 = .ok (.istore 4, 2) := by decide +kernel
set_option maxRecDepth 100000 in
theorem d_37_137 : decode (mB 37) 137 = .ok (.goto (-120), 3) := by decide +kernel
set_option maxRecDepth 100000 in
theorem d_37_140 : decode (mB 37) 140 = .ok (.iconst (-1), 1) := by decide +kernel
set_option maxRecDepth 100000 in
theorem d_37_141 : decode (mB 37) 141 = .ok (.ireturn, 1) := by decide +kernel
set_option maxRecDepth 100000 in
theorem oi_1 : okw (.methodLink "WhistleStopModel" 1 Lib.objectInit) := okk_w (k := 1129) (by decide +kernel)
set_option maxRecDepth 100000 in
theorem fl_1_9 : flP "WhistleStopModel" 9 1 2 := ⟨_, rfl, by decide, okk_w (k := 1133) (by decide +kernel)⟩
set_option maxRecDepth 100000 in
theorem fl_1_13 : flP "WhistleStopModel" 13 1 4 := ⟨_, rfl, by decide, okk_w (k := 1135) (by decide +kernel)⟩
set_option maxRecDepth 100000 in
theorem fl_1_16 : flP "WhistleStopModel" 16 1 5 := ⟨_, rfl, by decide, okk_w (k := 1136) (by decide +kernel)⟩
set_option maxRecDepth 100000 in
theorem fl_1_19 : flP "WhistleStopModel" 19 1 6 := ⟨_, rfl, by decide, okk_w (k := 1137) (by decide +kernel)⟩
set_option maxRecDepth 100000 in
theorem fl_1_22 : flP "WhistleStopModel" 22 1 8 := ⟨_, rfl, by decide, okk_w (k := 1139) (by decide +kernel)⟩
set_option maxRecDepth 100000 in
theorem fl_1_25 : flP "WhistleStopModel" 25 1 9 := ⟨_, rfl, by decide, okk_w (k := 1140) (by decide +kernel)⟩
set_option maxRecDepth 100000 in
theorem fl_1_28 : flP "WhistleStopModel" 28 1 10 := ⟨_, rfl, by decide, okk_w (k := 1141) (by decide +kernel)⟩
set_option maxRecDepth 100000 in
theorem cl_1_31 : okw (.classLink "WhistleStopModel" 31 "[[I") := okk_w (k := 1130) (by decide +kernel)
set_option maxRecDepth 100000 in
theorem fl_1_33 : flP "WhistleStopModel" 33 1 11 := ⟨_, rfl, by decide, okk_w (k := 1142) (by decide +kernel)⟩
set_option maxRecDepth 100000 in
theorem fl_1_36 : flP "WhistleStopModel" 36 1 13 := ⟨_, rfl, by decide, okk_w (k := 1144) (by decide +kernel)⟩
set_option maxRecDepth 100000 in
theorem fl_1_39 : flP "WhistleStopModel" 39 1 14 := ⟨_, rfl, by decide, okk_w (k := 1145) (by decide +kernel)⟩
set_option maxRecDepth 100000 in
theorem fl_1_42 : flP "WhistleStopModel" 42 1 15 := ⟨_, rfl, by decide, okk_w (k := 1146) (by decide +kernel)⟩
set_option maxRecDepth 100000 in
theorem fl_1_45 : flP "WhistleStopModel" 45 1 16 := ⟨_, rfl, by decide, okk_w (k := 1147) (by decide +kernel)⟩
set_option maxRecDepth 100000 in
theorem fl_1_48 : flP "WhistleStopModel" 48 1 17 := ⟨_, rfl, by decide, okk_w (k := 1148) (by decide +kernel)⟩
set_option maxRecDepth 100000 in
theorem fl_1_51 : flP "WhistleStopModel" 51 1 18 := ⟨_, rfl, by decide, okk_w (k := 1149) (by decide +kernel)⟩
set_option maxRecDepth 100000 in
theorem fl_1_54 : flP "WhistleStopModel" 54 1 19 := ⟨_, rfl, by decide, okk_w (k := 1150) (by decide +kernel)⟩
set_option maxRecDepth 100000 in
theorem fl_1_57 : flP "WhistleStopModel" 57 1 20 := ⟨_, rfl, by decide, okk_w (k := 1151) (by decide +kernel)⟩
set_option maxRecDepth 100000 in
theorem fl_1_61 : flP "WhistleStopModel" 61 1 23 := ⟨_, rfl, by decide, okk_w (k := 1154) (by decide +kernel)⟩
set_option maxRecDepth 100000 in
theorem fl_1_64 : flP "WhistleStopModel" 64 1 27 := ⟨_, rfl, by decide, okk_w (k := 1158) (by decide +kernel)⟩
set_option maxRecDepth 100000 in
theorem fl_1_67 : flP "WhistleStopModel" 67 1 28 := ⟨_, rfl, by decide, okk_w (k := 1159) (by decide +kernel)⟩
set_option maxRecDepth 100000 in
theorem fl_1_70 : flP "WhistleStopModel" 70 1 29 := ⟨_, rfl, by decide, okk_w (k := 1160) (by decide +kernel)⟩
set_option maxRecDepth 100000 in
theorem fl_1_73 : flP "WhistleStopModel" 73 1 30 := ⟨_, rfl, by decide, okk_w (k := 1161) (by decide +kernel)⟩
set_option maxRecDepth 100000 in
theorem fl_1_76 : flP "WhistleStopModel" 76 1 31 := ⟨_, rfl, by decide, okk_w (k := 1162) (by decide +kernel)⟩
set_option maxRecDepth 100000 in
theorem fl_1_79 : flP "WhistleStopModel" 79 1 32 := ⟨_, rfl, by decide, okk_w (k := 1163) (by decide +kernel)⟩
set_option maxRecDepth 100000 in
theorem fl_1_82 : flP "WhistleStopModel" 82 1 33 := ⟨_, rfl, by decide, okk_w (k := 1164) (by decide +kernel)⟩
set_option maxRecDepth 100000 in
theorem fl_1_85 : flP "WhistleStopModel" 85 1 34 := ⟨_, rfl, by decide, okk_w (k := 1165) (by decide +kernel)⟩
set_option maxRecDepth 100000 in
theorem d_49_0 : decode (mB 49) 0 = .ok (.aload_n 0, 1) := by decide +kernel
set_option maxRecDepth 100000 in
theorem d_49_1 : decode (mB 49) 1 = .ok (.invokespecial 1, 3) := by decide +kernel
set_option maxRecDepth 100000 in
theorem d_49_4 : decode (mB 49) 4 = .ok (.aload_n 0, 1) := by decide +kernel
set_option maxRecDepth 100000 in
theorem d_49_5 : decode (mB 49) 5 = .ok (.bipush 16, 2) := by decide +kernel
set_option maxRecDepth 100000 in
theorem d_49_7 : decode (mB 49) 7 = .ok (.newarray .int, 2) := by decide +kernel
set_option maxRecDepth 100000 in
theorem d_49_9 : decode (mB 49) 9 = .ok (.putfield 9, 3) := by decide +kernel
set_option maxRecDepth 100000 in
theorem d_49_12 : decode (mB 49) 12 = .ok (.aload_n 0, 1) := by decide +kernel
set_option maxRecDepth 100000 in
theorem d_49_13 : decode (mB 49) 13 = .ok (.bipush 20, 2) := by decide +kernel
set_option maxRecDepth 100000 in
theorem d_49_15 : decode (mB 49) 15 = .ok (.newarray .int, 2) := by decide +kernel
set_option maxRecDepth 100000 in
theorem d_49_17 : decode (mB 49) 17 = .ok (.putfield 13, 3) := by decide +kernel
set_option maxRecDepth 100000 in
theorem d_49_20 : decode (mB 49) 20 = .ok (.aload_n 0, 1) := by decide +kernel
set_option maxRecDepth 100000 in
theorem d_49_21 : decode (mB 49) 21 = .ok (.bipush 20, 2) := by decide +kernel
set_option maxRecDepth 100000 in
theorem d_49_23 : decode (mB 49) 23 = .ok (.newarray .int, 2) := by decide +kernel
set_option maxRecDepth 100000 in
theorem d_49_25 : decode (mB 49) 25 = .ok (.putfield 16, 3) := by decide +kernel
set_option maxRecDepth 100000 in
theorem d_49_28 : decode (mB 49) 28 = .ok (.aload_n 0, 1) := by decide +kernel
set_option maxRecDepth 100000 in
theorem d_49_29 : decode (mB 49) 29 = .ok (.bipush 20, 2) := by decide +kernel
set_option maxRecDepth 100000 in
theorem d_49_31 : decode (mB 49) 31 = .ok (.newarray .int, 2) := by decide +kernel
set_option maxRecDepth 100000 in
theorem d_49_33 : decode (mB 49) 33 = .ok (.putfield 19, 3) := by decide +kernel
set_option maxRecDepth 100000 in
theorem d_49_36 : decode (mB 49) 36 = .ok (.aload_n 0, 1) := by decide +kernel
set_option maxRecDepth 100000 in
theorem d_49_37 : decode (mB 49) 37 = .ok (.bipush 6, 2) := by decide +kernel
set_option maxRecDepth 100000 in
theorem d_49_39 : decode (mB 49) 39 = .ok (.newarray .int, 2) := by decide +kernel
set_option maxRecDepth 100000 in
theorem d_49_41 : decode (mB 49) 41 = .ok (.putfield 22, 3) := by decide +kernel
set_option maxRecDepth 100000 in
theorem d_49_44 : decode (mB 49) 44 = .ok (.aload_n 0, 1) := by decide +kernel
set_option maxRecDepth 100000 in
theorem d_49_45 : decode (mB 49) 45 = .ok (.bipush 6, 2) := by decide +kernel
set_option maxRecDepth 100000 in
theorem d_49_47 : decode (mB 49) 47 = .ok (.newarray .int, 2) := by decide +kernel
set_option maxRecDepth 100000 in
theorem d_49_49 : decode (mB 49) 49 = .ok (.putfield 25, 3) := by decide +kernel
set_option maxRecDepth 100000 in
theorem d_49_52 : decode (mB 49) 52 = .ok (.aload_n 0, 1) := by decide +kernel
set_option maxRecDepth 100000 in
theorem d_49_53 : decode (mB 49) 53 = .ok (.bipush 6, 2) := by decide +kernel
set_option maxRecDepth 100000 in
theorem d_49_55 : decode (mB 49) 55 = .ok (.newarray .int, 2) := by decide +kernel
set_option maxRecDepth 100000 in
theorem d_49_57 : decode (mB 49) 57 = .ok (.putfield 28, 3) := by decide +kernel
set_option maxRecDepth 100000 in
theorem d_49_60 : decode (mB 49) 60 = .ok (.aload_n 0, 1) := by decide +kernel
set_option maxRecDepth 100000 in
theorem d_49_61 : decode (mB 49) 61 = .ok (.bipush 6, 2) := by decide +kernel
set_option maxRecDepth 100000 in
theorem d_49_63 : decode (mB 49) 63 = .ok (.sipush 366, 3) := by decide +kernel
set_option maxRecDepth 100000 in
theorem d_49_66 : decode (mB 49) 66 = .ok (.multianewarray 31 2, 4) := by decide +kernel
set_option maxRecDepth 100000 in
theorem d_49_70 : decode (mB 49) 70 = .ok (.putfield 33, 3) := by decide +kernel
set_option maxRecDepth 100000 in
theorem d_49_73 : decode (mB 49) 73 = .ok (.aload_n 0, 1) := by decide +kernel
set_option maxRecDepth 100000 in
theorem d_49_74 : decode (mB 49) 74 = .ok (.bipush 24, 2) := by decide +kernel
set_option maxRecDepth 100000 in
theorem d_49_76 : decode (mB 49) 76 = .ok (.newarray .int, 2) := by decide +kernel
set_option maxRecDepth 100000 in
theorem d_49_78 : decode (mB 49) 78 = .ok (.putfield 36, 3) := by decide +kernel
set_option maxRecDepth 100000 in
theorem d_49_81 : decode (mB 49) 81 = .ok (.aload_n 0, 1) := by decide +kernel
set_option maxRecDepth 100000 in
theorem d_49_82 : decode (mB 49) 82 = .ok (.bipush 24, 2) := by decide +kernel
set_option maxRecDepth 100000 in
theorem d_49_84 : decode (mB 49) 84 = .ok (.newarray .int, 2) := by decide +kernel
set_option maxRecDepth 100000 in
theorem d_49_86 : decode (mB 49) 86 = .ok (.putfield 39, 3) := by decide +kernel
set_option maxRecDepth 100000 in
theorem d_49_89 : decode (mB 49) 89 = .ok (.aload_n 0, 1) := by decide +kernel
set_option maxRecDepth 100000 in
theorem d_49_90 : decode (mB 49) 90 = .ok (.bipush 24, 2) := by decide +kernel
set_option maxRecDepth 100000 in
theorem d_49_92 : decode (mB 49) 92 = .ok (.newarray .int, 2) := by decide +kernel
set_option maxRecDepth 100000 in
theorem d_49_94 : decode (mB 49) 94 = .ok (.putfield 42, 3) := by decide +kernel
set_option maxRecDepth 100000 in
theorem d_49_97 : decode (mB 49) 97 = .ok (.aload_n 0, 1) := by decide +kernel
set_option maxRecDepth 100000 in
theorem d_49_98 : decode (mB 49) 98 = .ok (.bipush 24, 2) := by decide +kernel
set_option maxRecDepth 100000 in
theorem d_49_100 : decode (mB 49) 100 = .ok (.bipush 8, 2) := by decide +kernel
set_option maxRecDepth 100000 in
theorem d_49_102 : decode (mB 49) 102 = .ok (.multianewarray 31 2, 4) := by decide +kernel
set_option maxRecDepth 100000 in
theorem d_49_106 : decode (mB 49) 106 = .ok (.putfield 45, 3) := by decide +kernel
set_option maxRecDepth 100000 in
theorem d_49_109 : decode (mB 49) 109 = .ok (.aload_n 0, 1) := by decide +kernel
set_option maxRecDepth 100000 in
theorem d_49_110 : decode (mB 49) 110 = .ok (.bipush 24, 2) := by decide +kernel
set_option maxRecDepth 100000 in
theorem d_49_112 : decode (mB 49) 112 = .ok (.bipush 8, 2) := by decide +kernel
set_option maxRecDepth 100000 in
theorem d_49_114 : decode (mB 49) 114 = .ok (.multianewarray 31 2, 4) := by decide +kernel
set_option maxRecDepth 100000 in
theorem d_49_118 : decode (mB 49) 118 = .ok (.putfield 48, 3) := by decide +kernel
set_option maxRecDepth 100000 in
theorem d_49_121 : decode (mB 49) 121 = .ok (.aload_n 0, 1) := by decide +kernel
set_option maxRecDepth 100000 in
theorem d_49_122 : decode (mB 49) 122 = .ok (.bipush 24, 2) := by decide +kernel
set_option maxRecDepth 100000 in
theorem d_49_124 : decode (mB 49) 124 = .ok (.bipush 8, 2) := by decide +kernel
set_option maxRecDepth 100000 in
theorem d_49_126 : decode (mB 49) 126 = .ok (.multianewarray 31 2, 4) := by decide +kernel
set_option maxRecDepth 100000 in
theorem d_49_130 : decode (mB 49) 130 = .ok (.putfield 51, 3) := by decide +kernel
set_option maxRecDepth 100000 in
theorem d_49_133 : decode (mB 49) 133 = .ok (.aload_n 0, 1) := by decide +kernel
set_option maxRecDepth 100000 in
theorem d_49_134 : decode (mB 49) 134 = .ok (.bipush 24, 2) := by decide +kernel
set_option maxRecDepth 100000 in
theorem d_49_136 : decode (mB 49) 136 = .ok (.sipush 366, 3) := by decide +kernel
set_option maxRecDepth 100000 in
theorem d_49_139 : decode (mB 49) 139 = .ok (.multianewarray 31 2, 4) := by decide +kernel
set_option maxRecDepth 100000 in
theorem d_49_143 : decode (mB 49) 143 = .ok (.putfield 54, 3) := by decide +kernel
set_option maxRecDepth 100000 in
theorem d_49_146 : decode (mB 49) 146 = .ok (.aload_n 0, 1) := by decide +kernel
set_option maxRecDepth 100000 in
theorem d_49_147 : decode (mB 49) 147 = .ok (.iconst (-1), 1) := by decide +kernel
set_option maxRecDepth 100000 in
theorem d_49_148 : decode (mB 49) 148 = .ok (.putfield 57, 3) := by decide +kernel
set_option maxRecDepth 100000 in
theorem d_49_151 : decode (mB 49) 151 = .ok (.aload_n 0, 1) := by decide +kernel
set_option maxRecDepth 100000 in
theorem d_49_152 : decode (mB 49) 152 = .ok (.iconst (-1), 1) := by decide +kernel
set_option maxRecDepth 100000 in
theorem d_49_153 : decode (mB 49) 153 = .ok (.putfield 61, 3) := by decide +kernel
set_option maxRecDepth 100000 in
theorem d_49_156 : decode (mB 49) 156 = .ok (.aload_n 0, 1) := by decide +kernel
set_option maxRecDepth 100000 in
theorem d_49_157 : decode (mB 49) 157 = .ok (.bipush 14, 2) := by decide +kernel
set_option maxRecDepth 100000 in
theorem d_49_159 : decode (mB 49) 159 = .ok (.newarray .int, 2) := by decide +kernel
set_option maxRecDepth 100000 in
theorem d_49_161 : decode (mB 49) 161 = .ok (.putfield 64, 3) := by decide +kernel
set_option maxRecDepth 100000 in
theorem d_49_164 : decode (mB 49) 164 = .ok (.aload_n 0, 1) := by decide +kernel
set_option maxRecDepth 100000 in
theorem d_49_165 : decode (mB 49) 165 = .ok (.bipush 14, 2) := by decide +kernel
set_option maxRecDepth 100000 in
theorem d_49_167 : decode (mB 49) 167 = .ok (.newarray .int, 2) := by decide +kernel
set_option maxRecDepth 100000 in
theorem d_49_169 : decode (mB 49) 169 = .ok (.putfield 67, 3) := by decide +kernel
set_option maxRecDepth 100000 in
theorem d_49_172 : decode (mB 49) 172 = .ok (.aload_n 0, 1) := by decide +kernel
set_option maxRecDepth 100000 in
theorem d_49_173 : decode (mB 49) 173 = .ok (.bipush 14, 2) := by decide +kernel
set_option maxRecDepth 100000 in
theorem d_49_175 : decode (mB 49) 175 = .ok (.newarray .int, 2) := by decide +kernel
set_option maxRecDepth 100000 in
theorem d_49_177 : decode (mB 49) 177 = .ok (.putfield 70, 3) := by decide +kernel
set_option maxRecDepth 100000 in
theorem d_49_180 : decode (mB 49) 180 = .ok (.aload_n 0, 1) := by decide +kernel
set_option maxRecDepth 100000 in
theorem d_49_181 : decode (mB 49) 181 = .ok (.bipush 14, 2) := by decide +kernel
set_option maxRecDepth 100000 in
theorem d_49_183 : decode (mB 49) 183 = .ok (.newarray .int, 2) := by decide +kernel
set_option maxRecDepth 100000 in
theorem d_49_185 : decode (mB 49) 185 = .ok (.putfield 73, 3) := by decide +kernel
set_option maxRecDepth 100000 in
theorem d_49_188 : decode (mB 49) 188 = .ok (.aload_n 0, 1) := by decide +kernel
set_option maxRecDepth 100000 in
theorem d_49_189 : decode (mB 49) 189 = .ok (.bipush 14, 2) := by decide +kernel
set_option maxRecDepth 100000 in
theorem d_49_191 : decode (mB 49) 191 = .ok (.newarray .int, 2) := by decide +kernel
set_option maxRecDepth 100000 in
theorem d_49_193 : decode (mB 49) 193 = .ok (.putfield 76, 3) := by decide +kernel
set_option maxRecDepth 100000 in
theorem d_49_196 : decode (mB 49) 196 = .ok (.aload_n 0, 1) := by decide +kernel
set_option maxRecDepth 100000 in
theorem d_49_197 : decode (mB 49) 197 = .ok (.bipush 14, 2) := by decide +kernel
set_option maxRecDepth 100000 in
theorem d_49_199 : decode (mB 49) 199 = .ok (.newarray .int, 2) := by decide +kernel
set_option maxRecDepth 100000 in
theorem d_49_201 : decode (mB 49) 201 = .ok (.putfield 79, 3) := by decide +kernel
set_option maxRecDepth 100000 in
theorem d_49_204 : decode (mB 49) 204 = .ok (.aload_n 0, 1) := by decide +kernel
set_option maxRecDepth 100000 in
theorem d_49_205 : decode (mB 49) 205 = .ok (.bipush 14, 2) := by decide +kernel
set_option maxRecDepth 100000 in
theorem d_49_207 : decode (mB 49) 207 = .ok (.newarray .int, 2) := by decide +kernel
set_option maxRecDepth 100000 in
theorem d_49_209 : decode (mB 49) 209 = .ok (.putfield 82, 3) := by decide +kernel
set_option maxRecDepth 100000 in
theorem d_49_212 : decode (mB 49) 212 = .ok (.aload_n 0, 1) := by decide +kernel
set_option maxRecDepth 100000 in
theorem d_49_213 : decode (mB 49) 213 = .ok (.bipush 14, 2) := by decide +kernel
set_option maxRecDepth 100000 in
theorem d_49_215 : decode (mB 49) 215 = .ok (.newarray .int, 2) := by decide +kernel
set_option maxRecDepth 100000 in
theorem d_49_217 : decode (mB 49) 217 = .ok (.putfield 85, 3) := by decide +kernel
set_option maxRecDepth 100000 in
theorem d_49_220 : decode (mB 49) 220 = .ok (.return_, 1) := by decide +kernel
set_option maxRecDepth 100000 in
theorem fl_1_88 : flP "WhistleStopModel" 88 1 0 := ⟨_, rfl, by decide, okk_w (k := 1131) (by decide +kernel)⟩
set_option maxRecDepth 100000 in
theorem d_50_0 : decode (mB 50) 0 = .ok (.aload_n 0, 1) := by decide +kernel
set_option maxRecDepth 100000 in
theorem d_50_1 : decode (mB 50) 1 = .ok (.getfield 88, 3) := by decide +kernel
set_option maxRecDepth 100000 in
theorem d_50_4 : decode (mB 50) 4 = .ok (.ireturn, 1) := by decide +kernel
set_option maxRecDepth 100000 in
theorem c_51_94 : csP 51 94 52 3 := ⟨cd_52, okk_w (k := 1257) (by decide +kernel), okk_w (k := 1258) (by decide +kernel), by decide +kernel, by decide +kernel⟩
set_option maxRecDepth 100000 in
theorem c_51_101 : cvP 51 101 53 1 := ⟨cd_53, okk_w (k := 1260) (by decide +kernel), okk_w (k := 1262) (by decide +kernel), okk_w (k := 31) (by decide +kernel), by decide +kernel, by decide +kernel⟩
set_option maxRecDepth 100000 in
theorem fl_1_91 : flP "WhistleStopModel" 91 1 1 := ⟨_, rfl, by decide, okk_w (k := 1132) (by decide +kernel)⟩
set_option maxRecDepth 100000 in
theorem d_51_0 : decode (mB 51) 0 = .ok (.aload_n 0, 1) := by decide +kernel
set_option maxRecDepth 100000 in
theorem d_51_1 : decode (mB 51) 1 = .ok (.iconst 0, 1) := by decide +kernel
set_option maxRecDepth 100000 in
theorem d_51_2 : decode (mB 51) 2 = .ok (.putfield 88, 3) := by decide +kernel
set_option maxRecDepth 100000 in
theorem d_51_5 : decode (mB 51) 5 = .ok (.iload_n 1, 1) := by decide +kernel
set_option maxRecDepth 100000 in
theorem d_51_6 : decode (mB 51) 6 = .ok (.iconst 0, 1) := by decide +kernel
set_option maxRecDepth 100000 in
theorem d_51_7 : decode (mB 51) 7 = .ok (.bipush 30, 2) := by decide +kernel
set_option maxRecDepth 100000 in
theorem d_51_9 : decode (mB 51) 9 = .ok (.invokestatic 94, 3) := by decide +kernel
set_option maxRecDepth 100000 in
theorem d_51_12 : decode (mB 51) 12 = .ok (.ifCond .ne 9, 3) := by decide +kernel
set_option maxRecDepth 100000 in
theorem d_51_15 : decode (mB 51) 15 = .ok (.aload_n 0, 1) := by decide +kernel
set_option maxRecDepth 100000 in
theorem d_51_16 : decode (mB 51) 16 = .ok (.iconst 1, 1) := by decide +kernel
set_option maxRecDepth 100000 in
theorem d_51_17 : decode (mB 51) 17 = .ok (.invokevirtual 101, 3) := by decide +kernel
set_option maxRecDepth 100000 in
theorem d_51_20 : decode (mB 51) 20 = .ok (.ireturn, 1) := by decide +kernel
set_option maxRecDepth 100000 in
theorem d_51_21 : decode (mB 51) 21 = .ok (.aload_n 0, 1) := by decide +kernel
set_option maxRecDepth 100000 in
theorem d_51_22 : decode (mB 51) 22 = .ok (.getfield 91, 3) := by decide +kernel
set_option maxRecDepth 100000 in
theorem d_51_25 : decode (mB 51) 25 = .ok (.bipush 16, 2) := by decide +kernel
set_option maxRecDepth 100000 in
theorem d_51_27 : decode (mB 51) 27 = .ok (.if_icmp .ne 9, 3) := by decide +kernel
set_option maxRecDepth 100000 in
theorem d_51_30 : decode (mB 51) 30 = .ok (.aload_n 0, 1) := by decide +kernel
set_option maxRecDepth 100000 in
theorem d_51_31 : decode (mB 51) 31 = .ok (.iconst 2, 1) := by decide +kernel
set_option maxRecDepth 100000 in
theorem d_51_32 : decode (mB 51) 32 = .ok (.invokevirtual 101, 3) := by decide +kernel
set_option maxRecDepth 100000 in
theorem d_51_35 : decode (mB 51) 35 = .ok (.ireturn, 1) := by decide +kernel
set_option maxRecDepth 100000 in
theorem d_51_36 : decode (mB 51) 36 = .ok (.aload_n 0, 1) := by decide +kernel
set_option maxRecDepth 100000 in
theorem d_51_37 : decode (mB 51) 37 = .ok (.getfield 9, 3) := by decide +kernel
set_option maxRecDepth 100000 in
theorem d_51_40 : decode (mB 51) 40 = .ok (.aload_n 0, 1) := by decide +kernel
set_option maxRecDepth 100000 in
theorem d_51_41 : decode (mB 51) 41 = .ok (.getfield 91, 3) := by decide +kernel
set_option maxRecDepth 100000 in
theorem d_51_44 : decode (mB 51) 44 = .ok (.iload_n 1, 1) := by decide +kernel
set_option maxRecDepth 100000 in
theorem d_51_45 : decode (mB 51) 45 = .ok (.iastore, 1) := by decide +kernel
set_option maxRecDepth 100000 in
theorem d_51_46 : decode (mB 51) 46 = .ok (.aload_n 0, 1) := by decide +kernel
set_option maxRecDepth 100000 in
theorem d_51_47 : decode (mB 51) 47 = .ok (.dup, 1) := by decide +kernel
set_option maxRecDepth 100000 in
theorem d_51_48 : decode (mB 51) 48 = .ok (.getfield 91, 3) := by decide +kernel
set_option maxRecDepth 100000 in
theorem d_51_51 : decode (mB 51) 51 = .ok (.dup_x1, 1) := by decide +kernel
set_option maxRecDepth 100000 in
theorem d_51_52 : decode (mB 51) 52 = .ok (.iconst 1, 1) := by decide +kernel
set_option maxRecDepth 100000 in
theorem d_51_53 : decode (mB 51) 53 = .ok (.iadd, 1) := by decide +kernel
set_option maxRecDepth 100000 in
theorem d_51_54 : decode (mB 51) 54 = .ok (.putfield 91, 3) := by decide +kernel
set_option maxRecDepth 100000 in
theorem d_51_57 : decode (mB 51) 57 = .ok (.ireturn, 1) := by decide +kernel
set_option maxRecDepth 100000 in
theorem d_52_0 : decode (mB 52) 0 = .ok (.iload_n 0, 1) := by decide +kernel
set_option maxRecDepth 100000 in
theorem d_52_1 : decode (mB 52) 1 = .ok (.iload_n 1, 1) := by decide +kernel
set_option maxRecDepth 100000 in
theorem d_52_2 : decode (mB 52) 2 = .ok (.if_icmp .lt 12, 3) := by decide +kernel
set_option maxRecDepth 100000 in
theorem d_52_5 : decode (mB 52) 5 = .ok (.iload_n 0, 1) := by decide +kernel
set_option maxRecDepth 100000 in
theorem d_52_6 : decode (mB 52) 6 = .ok (.iload_n 2, 1) := by decide +kernel
set_option maxRecDepth 100000 in
theorem d_52_7 : decode (mB 52) 7 = .ok (.if_icmp .gt 7, 3) := by decide +kernel
set_option maxRecDepth 100000 in
theorem d_52_10 : decode (mB 52) 10 = .ok (.iconst 1, 1) := by decide +kernel
set_option maxRecDepth 100000 in
theorem d_52_11 : decode (mB 52) 11 = .ok (.goto 4, 3) := by decide +kernel
set_option maxRecDepth 100000 in
theorem d_52_14 : decode (mB 52) 14 = .ok (.iconst 0, 1) := by decide +kernel
set_option maxRecDepth 100000 in
theorem d_52_15 : decode (mB 52) 15 = .ok (.ireturn, 1) := by decide +kernel
set_option maxRecDepth 100000 in
theorem d_53_0 : decode (mB 53) 0 = .ok (.aload_n 0, 1) := by decide +kernel
set_option maxRecDepth 100000 in
theorem d_53_1 : decode (mB 53) 1 = .ok (.iload_n 1, 1) := by decide +kernel
set_option maxRecDepth 100000 in
theorem d_53_2 : decode (mB 53) 2 = .ok (.putfield 88, 3) := by decide +kernel
set_option maxRecDepth 100000 in
theorem d_53_5 : decode (mB 53) 5 = .ok (.iconst 0, 1) := by decide +kernel
set_option maxRecDepth 100000 in
theorem d_53_6 : decode (mB 53) 6 = .ok (.ireturn, 1) := by decide +kernel
set_option maxRecDepth 100000 in
theorem c_55_94 : csP 55 94 52 3 := ⟨cd_52, okk_w (k := 1257) (by decide +kernel), okk_w (k := 1258) (by decide +kernel), by decide +kernel, by decide +kernel⟩
set_option maxRecDepth 100000 in
theorem d_55_0 : decode (mB 55) 0 = .ok (.iload_n 1, 1) := by decide +kernel
set_option maxRecDepth 100000 in
theorem d_55_1 : decode (mB 55) 1 = .ok (.iconst 0, 1) := by decide +kernel
set_option maxRecDepth 100000 in
theorem d_55_2 : decode (mB 55) 2 = .ok (.aload_n 0, 1) := by decide +kernel
set_option maxRecDepth 100000 in
theorem d_55_3 : decode (mB 55) 3 = .ok (.getfield 91, 3) := by decide +kernel
set_option maxRecDepth 100000 in
theorem d_55_6 : decode (mB 55) 6 = .ok (.iconst 1, 1) := by decide +kernel
set_option maxRecDepth 100000 in
theorem d_55_7 : decode (mB 55) 7 = .ok (.isub, 1) := by decide +kernel
set_option maxRecDepth 100000 in
theorem d_55_8 : decode (mB 55) 8 = .ok (.invokestatic 94, 3) := by decide +kernel
set_option maxRecDepth 100000 in
theorem d_55_11 : decode (mB 55) 11 = .ok (.ireturn, 1) := by decide +kernel
set_option maxRecDepth 100000 in
theorem c_60_94 : csP 60 94 52 3 := ⟨cd_52, okk_w (k := 1257) (by decide +kernel), okk_w (k := 1258) (by decide +kernel), by decide +kernel, by decide +kernel⟩
set_option maxRecDepth 100000 in
theorem d_60_0 : decode (mB 60) 0 = .ok (.iload_n 2, 1) := by decide +kernel
set_option maxRecDepth 100000 in
theorem d_60_1 : decode (mB 60) 1 = .ok (.iconst 0, 1) := by decide +kernel
set_option maxRecDepth 100000 in
theorem d_60_2 : decode (mB 60) 2 = .ok (.sipush 365, 3) := by decide +kernel
set_option maxRecDepth 100000 in
theorem d_60_5 : decode (mB 60) 5 = .ok (.invokestatic 94, 3) := by decide +kernel
set_option maxRecDepth 100000 in
theorem d_60_8 : decode (mB 60) 8 = .ok (.ifCond .ne 5, 3) := by decide +kernel
set_option maxRecDepth 100000 in
theorem d_60_11 : decode (mB 60) 11 = .ok (.iconst 0, 1) := by decide +kernel
set_option maxRecDepth 100000 in
theorem d_60_12 : decode (mB 60) 12 = .ok (.ireturn, 1) := by decide +kernel
set_option maxRecDepth 100000 in
theorem d_60_13 : decode (mB 60) 13 = .ok (.aload_n 0, 1) := by decide +kernel
set_option maxRecDepth 100000 in
theorem d_60_14 : decode (mB 60) 14 = .ok (.getfield 33, 3) := by decide +kernel
set_option maxRecDepth 100000 in
theorem d_60_17 : decode (mB 60) 17 = .ok (.iload_n 1, 1) := by decide +kernel
set_option maxRecDepth 100000 in
theorem d_60_18 : decode (mB 60) 18 = .ok (.aaload, 1) := by decide +kernel
set_option maxRecDepth 100000 in
theorem d_60_19 : decode (mB 60) 19 = .ok (.iload_n 2, 1) := by decide +kernel
set_option maxRecDepth 100000 in
theorem d_60_20 : decode (mB 60) 20 = .ok (.iaload, 1) := by decide +kernel
set_option maxRecDepth 100000 in
theorem d_60_21 : decode (mB 60) 21 = .ok (.ifCond .eq 21, 3) := by decide +kernel
set_option maxRecDepth 100000 in
theorem d_60_24 : decode (mB 60) 24 = .ok (.aload_n 0, 1) := by decide +kernel
set_option maxRecDepth 100000 in
theorem d_60_25 : decode (mB 60) 25 = .ok (.getfield 33, 3) := by decide +kernel
set_option maxRecDepth 100000 in
theorem d_60_28 : decode (mB 60) 28 = .ok (.iload_n 1, 1) := by decide +kernel
set_option maxRecDepth 100000 in
theorem d_60_29 : decode (mB 60) 29 = .ok (.aaload, 1) := by decide +kernel
set_option maxRecDepth 100000 in
theorem d_60_30 : decode (mB 60) 30 = .ok (.iload_n 2, 1) := by decide +kernel
set_option maxRecDepth 100000 in
theorem d_60_31 : decode (mB 60) 31 = .ok (.iaload, 1) := by decide +kernel
set_option maxRecDepth 100000 in
theorem d_60_32 : decode (mB 60) 32 = .ok (.iconst 1, 1) := by decide +kernel
set_option maxRecDepth 100000 in
theorem d_60_33 : decode (mB 60) 33 = .ok (.if_icmp .ne 7, 3) := by decide +kernel
set_option maxRecDepth 100000 in
theorem d_60_36 : decode (mB 60) 36 = .ok (.iconst 1, 1) := by decide +kernel
set_option maxRecDepth 100000 in
theorem d_60_37 : decode (mB 60) 37 = .ok (.goto 4, 3) := by decide +kernel
set_option maxRecDepth 100000 in
theorem d_60_40 : decode (mB 60) 40 = .ok (.iconst 0, 1) := by decide +kernel
set_option maxRecDepth 100000 in
theorem d_60_41 : decode (mB 60) 41 = .ok (.ireturn, 1) := by decide +kernel
set_option maxRecDepth 100000 in
theorem d_60_42 : decode (mB 60) 42 = .ok (.iload_n 2, 1) := by decide +kernel
set_option maxRecDepth 100000 in
theorem d_60_43 : decode (mB 60) 43 = .ok (.aload_n 0, 1) := by decide +kernel
set_option maxRecDepth 100000 in
theorem d_60_44 : decode (mB 60) 44 = .ok (.getfield 25, 3) := by decide +kernel
set_option maxRecDepth 100000 in
theorem d_60_47 : decode (mB 60) 47 = .ok (.iload_n 1, 1) := by decide +kernel
set_option maxRecDepth 100000 in
theorem d_60_48 : decode (mB 60) 48 = .ok (.iaload, 1) := by decide +kernel
set_option maxRecDepth 100000 in
theorem d_60_49 : decode (mB 60) 49 = .ok (.aload_n 0, 1) := by decide +kernel
set_option maxRecDepth 100000 in
theorem d_60_50 : decode (mB 60) 50 = .ok (.getfield 28, 3) := by decide +kernel
set_option maxRecDepth 100000 in
theorem d_60_53 : decode (mB 60) 53 = .ok (.iload_n 1, 1) := by decide +kernel
set_option maxRecDepth 100000 in
theorem d_60_54 : decode (mB 60) 54 = .ok (.iaload, 1) := by decide +kernel
set_option maxRecDepth 100000 in
theorem d_60_55 : decode (mB 60) 55 = .ok (.invokestatic 94, 3) := by decide +kernel
set_option maxRecDepth 100000 in
theorem d_60_58 : decode (mB 60) 58 = .ok (.ifCond .eq 23, 3) := by decide +kernel
set_option maxRecDepth 100000 in
theorem d_60_61 : decode (mB 60) 61 = .ok (.aload_n 0, 1) := by decide +kernel
set_option maxRecDepth 100000 in
theorem d_60_62 : decode (mB 60) 62 = .ok (.getfield 22, 3) := by decide +kernel
set_option maxRecDepth 100000 in
theorem d_60_65 : decode (mB 60) 65 = .ok (.iload_n 1, 1) := by decide +kernel
set_option maxRecDepth 100000 in
theorem d_60_66 : decode (mB 60) 66 = .ok (.iaload, 1) := by decide +kernel
set_option maxRecDepth 100000 in
theorem d_60_67 : decode (mB 60) 67 = .ok (.iload_n 2, 1) := by decide +kernel
set_option maxRecDepth 100000 in
theorem d_60_68 : decode (mB 60) 68 = .ok (.bipush 7, 2) := by decide +kernel
set_option maxRecDepth 100000 in
theorem d_60_70 : decode (mB 60) 70 = .ok (.irem, 1) := by decide +kernel
set_option maxRecDepth 100000 in
theorem d_60_71 : decode (mB 60) 71 = .ok (.ishr, 1) := by decide +kernel
set_option maxRecDepth 100000 in
theorem d_60_72 : decode (mB 60) 72 = .ok (.iconst 1, 1) := by decide +kernel
set_option maxRecDepth 100000 in
theorem d_60_73 : decode (mB 60) 73 = .ok (.iand, 1) := by decide +kernel
set_option maxRecDepth 100000 in
theorem d_60_74 : decode (mB 60) 74 = .ok (.ifCond .eq 7, 3) := by decide +kernel
set_option maxRecDepth 100000 in
theorem d_60_77 : decode (mB 60) 77 = .ok (.iconst 1, 1) := by decide +kernel
set_option maxRecDepth 100000 in
theorem d_60_78 : decode (mB 60) 78 = .ok (.goto 4, 3) := by decide +kernel
set_option maxRecDepth 100000 in
theorem d_60_81 : decode (mB 60) 81 = .ok (.iconst 0, 1) := by decide +kernel
set_option maxRecDepth 100000 in
theorem d_60_82 : decode (mB 60) 82 = .ok (.ireturn, 1) := by decide +kernel
set_option maxRecDepth 100000 in
theorem c_72_118 : cvP 72 118 60 2 := ⟨cd_60, okk_w (k := 1288) (by decide +kernel), okk_w (k := 1290) (by decide +kernel), okk_w (k := 34) (by decide +kernel), by decide +kernel, by decide +kernel⟩
set_option maxRecDepth 100000 in
theorem fl_1_128 : flP "WhistleStopModel" 128 1 21 := ⟨_, rfl, by decide, okk_w (k := 1152) (by decide +kernel)⟩
set_option maxRecDepth 100000 in
theorem fl_1_131 : flP "WhistleStopModel" 131 1 22 := ⟨_, rfl, by decide, okk_w (k := 1153) (by decide +kernel)⟩
set_option maxRecDepth 100000 in
theorem d_72_0 : decode (mB 72) 0 = .ok (.aload_n 0, 1) := by decide +kernel
set_option maxRecDepth 100000 in
theorem d_72_1 : decode (mB 72) 1 = .ok (.aload_n 0, 1) := by decide +kernel
set_option maxRecDepth 100000 in
theorem d_72_2 : decode (mB 72) 2 = .ok (.getfield 36, 3) := by decide +kernel
set_option maxRecDepth 100000 in
theorem d_72_5 : decode (mB 72) 5 = .ok (.iload_n 1, 1) := by decide +kernel
set_option maxRecDepth 100000 in
theorem d_72_6 : decode (mB 72) 6 = .ok (.iaload, 1) := by decide +kernel
set_option maxRecDepth 100000 in
theorem d_72_7 : decode (mB 72) 7 = .ok (.iload_n 2, 1) := by decide +kernel
set_option maxRecDepth 100000 in
theorem d_72_8 : decode (mB 72) 8 = .ok (.invokevirtual 118, 3) := by decide +kernel
set_option maxRecDepth 100000 in
theorem d_72_11 : decode (mB 72) 11 = .ok (.ifCond .ne 5, 3) := by decide +kernel
set_option maxRecDepth 100000 in
theorem d_72_14 : decode (mB 72) 14 = .ok (.iconst (-1), 1) := by decide +kernel
set_option maxRecDepth 100000 in
theorem d_72_15 : decode (mB 72) 15 = .ok (.ireturn, 1) := by decide +kernel
set_option maxRecDepth 100000 in
theorem d_72_16 : decode (mB 72) 16 = .ok (.iload_n 1, 1) := by decide +kernel
set_option maxRecDepth 100000 in
theorem d_72_17 : decode (mB 72) 17 = .ok (.aload_n 0, 1) := by decide +kernel
set_option maxRecDepth 100000 in
theorem d_72_18 : decode (mB 72) 18 = .ok (.getfield 57, 3) := by decide +kernel
set_option maxRecDepth 100000 in
theorem d_72_21 : decode (mB 72) 21 = .ok (.if_icmp .ne 18, 3) := by decide +kernel
set_option maxRecDepth 100000 in
theorem d_72_24 : decode (mB 72) 24 = .ok (.iload_n 2, 1) := by decide +kernel
set_option maxRecDepth 100000 in
theorem d_72_25 : decode (mB 72) 25 = .ok (.aload_n 0, 1) := by decide +kernel
set_option maxRecDepth 100000 in
theorem d_72_26 : decode (mB 72) 26 = .ok (.getfield 128, 3) := by decide +kernel
set_option maxRecDepth 100000 in
theorem d_72_29 : decode (mB 72) 29 = .ok (.if_icmp .ne 10, 3) := by decide +kernel
set_option maxRecDepth 100000 in
theorem d_72_32 : decode (mB 72) 32 = .ok (.aload_n 0, 1) := by decide +kernel
set_option maxRecDepth 100000 in
theorem d_72_33 : decode (mB 72) 33 = .ok (.getfield 131, 3) := by decide +kernel
set_option maxRecDepth 100000 in
theorem d_72_36 : decode (mB 72) 36 = .ok (.goto 11, 3) := by decide +kernel
set_option maxRecDepth 100000 in
theorem d_72_39 : decode (mB 72) 39 = .ok (.aload_n 0, 1) := by decide +kernel
set_option maxRecDepth 100000 in
theorem d_72_40 : decode (mB 72) 40 = .ok (.getfield 54, 3) := by decide +kernel
set_option maxRecDepth 100000 in
theorem d_72_43 : decode (mB 72) 43 = .ok (.iload_n 1, 1) := by decide +kernel
set_option maxRecDepth 100000 in
theorem d_72_44 : decode (mB 72) 44 = .ok (.aaload, 1) := by decide +kernel
set_option maxRecDepth 100000 in
theorem d_72_45 : decode (mB 72) 45 = .ok (.iload_n 2, 1) := by decide +kernel
set_option maxRecDepth 100000 in
theorem d_72_46 : decode (mB 72) 46 = .ok (.iaload, 1) := by decide +kernel
set_option maxRecDepth 100000 in
theorem d_72_47 : decode (mB 72) 47 = .ok (.ireturn, 1) := by decide +kernel
set_option maxRecDepth 100000 in
theorem c_76_138 : csP 76 138 214 2 := ⟨cd_214, okk_w (k := 1356) (by decide +kernel), okk_w (k := 783) (by decide +kernel), by decide +kernel, by decide +kernel⟩
set_option maxRecDepth 100000 in
theorem d_76_0 : decode (mB 76) 0 = .ok (.iconst 0, 1) := by decide +kernel
set_option maxRecDepth 100000 in
theorem d_76_1 : decode (mB 76) 1 = .ok (.iload_n 0, 1) := by decide +kernel
set_option maxRecDepth 100000 in
theorem d_76_2 : decode (mB 76) 2 = .ok (.sipush 3059, 3) := by decide +kernel
set_option maxRecDepth 100000 in
theorem d_76_5 : decode (mB 76) 5 = .ok (.isub, 1) := by decide +kernel
set_option maxRecDepth 100000 in
theorem d_76_6 : decode (mB 76) 6 = .ok (.sipush 1440, 3) := by decide +kernel
set_option maxRecDepth 100000 in
theorem d_76_9 : decode (mB 76) 9 = .ok (.idiv, 1) := by decide +kernel
set_option maxRecDepth 100000 in
theorem d_76_10 : decode (mB 76) 10 = .ok (.invokestatic 138, 3) := by decide +kernel
set_option maxRecDepth 100000 in
theorem d_76_13 : decode (mB 76) 13 = .ok (.ireturn, 1) := by decide +kernel
set_option maxRecDepth 100000 in
theorem c_77_143 : csP 77 143 215 2 := ⟨cd_215, okk_w (k := 1360) (by decide +kernel), okk_w (k := 786) (by decide +kernel), by decide +kernel, by decide +kernel⟩
set_option maxRecDepth 100000 in
theorem d_77_0 : decode (mB 77) 0 = .ok (.sipush 365, 3) := by decide +kernel
set_option maxRecDepth 100000 in
theorem d_77_3 : decode (mB 77) 3 = .ok (.iload_n 0, 1) := by decide +kernel
set_option maxRecDepth 100000 in
theorem d_77_4 : decode (mB 77) 4 = .ok (.sipush 1440, 3) := by decide +kernel
set_option maxRecDepth 100000 in
theorem d_77_7 : decode (mB 77) 7 = .ok (.idiv, 1) := by decide +kernel
set_option maxRecDepth 100000 in
theorem d_77_8 : decode (mB 77) 8 = .ok (.invokestatic 143, 3) := by decide +kernel
set_option maxRecDepth 100000 in
theorem d_77_11 : decode (mB 77) 11 = .ok (.ireturn, 1) := by decide +kernel
set_option maxRecDepth 100000 in
theorem c_81_105 : cvP 81 105 55 1 := ⟨cd_55, okk_w (k := 1268) (by decide +kernel), okk_w (k := 1270) (by decide +kernel), okk_w (k := 32) (by decide +kernel), by decide +kernel, by decide +kernel⟩
set_option maxRecDepth 100000 in
theorem ck_1_152 : okw (.constant "WhistleStopModel" 152 (500000)) := okk_w (k := 1348) (by decide +kernel)
set_option maxRecDepth 100000 in
theorem c_81_94 : csP 81 94 52 3 := ⟨cd_52, okk_w (k := 1257) (by decide +kernel), okk_w (k := 1258) (by decide +kernel), by decide +kernel, by decide +kernel⟩
set_option maxRecDepth 100000 in
theorem d_81_0 : decode (mB 81) 0 = .ok (.aload_n 0, 1) := by decide +kernel
set_option maxRecDepth 100000 in
theorem d_81_1 : decode (mB 81) 1 = .ok (.iload_n 1, 1) := by decide +kernel
set_option maxRecDepth 100000 in
theorem d_81_2 : decode (mB 81) 2 = .ok (.invokevirtual 105, 3) := by decide +kernel
set_option maxRecDepth 100000 in
theorem d_81_5 : decode (mB 81) 5 = .ok (.ifCond .eq 11, 3) := by decide +kernel
set_option maxRecDepth 100000 in
theorem d_81_8 : decode (mB 81) 8 = .ok (.aload_n 0, 1) := by decide +kernel
set_option maxRecDepth 100000 in
theorem d_81_9 : decode (mB 81) 9 = .ok (.iload_n 2, 1) := by decide +kernel
set_option maxRecDepth 100000 in
theorem d_81_10 : decode (mB 81) 10 = .ok (.invokevirtual 105, 3) := by decide +kernel
set_option maxRecDepth 100000 in
theorem d_81_13 : decode (mB 81) 13 = .ok (.ifCond .ne 7, 3) := by decide +kernel
set_option maxRecDepth 100000 in
theorem d_81_16 : decode (mB 81) 16 = .ok (.iconst 1, 1) := by decide +kernel
set_option maxRecDepth 100000 in
theorem d_81_17 : decode (mB 81) 17 = .ok (.goto 18, 3) := by decide +kernel
set_option maxRecDepth 100000 in
theorem d_81_20 : decode (mB 81) 20 = .ok (.iload_n 3, 1) := by decide +kernel
set_option maxRecDepth 100000 in
theorem d_81_21 : decode (mB 81) 21 = .ok (.iconst 0, 1) := by decide +kernel
set_option maxRecDepth 100000 in
theorem d_81_22 : decode (mB 81) 22 = .ok (.ldc 152, 2) := by decide +kernel
set_option maxRecDepth 100000 in
theorem d_81_24 : decode (mB 81) 24 = .ok (.invokestatic 94, 3) := by decide +kernel
set_option maxRecDepth 100000 in
theorem d_81_27 : decode (mB 81) 27 = .ok (.ifCond .eq 7, 3) := by decide +kernel
set_option maxRecDepth 100000 in
theorem d_81_30 : decode (mB 81) 30 = .ok (.iconst 0, 1) := by decide +kernel
set_option maxRecDepth 100000 in
theorem d_81_31 : decode (mB 81) 31 = .ok (.goto 4, 3) := by decide +kernel
set_option maxRecDepth 100000 in
theorem d_81_34 : decode (mB 81) 34 = .ok (.iconst 2, 1) := by decide +kernel
set_option maxRecDepth 100000 in
theorem d_81_35 : decode (mB 81) 35 = .ok (.ireturn, 1) := by decide +kernel
set_option maxRecDepth 100000 in
theorem d_84_0 : decode (mB 84) 0 = .ok (.bipush 16, 2) := by decide +kernel
set_option maxRecDepth 100000 in
theorem d_84_2 : decode (mB 84) 2 = .ok (.newarray .int, 2) := by decide +kernel
set_option maxRecDepth 100000 in
theorem d_84_4 : decode (mB 84) 4 = .ok (.astore_n 1, 1) := by decide +kernel
set_option maxRecDepth 100000 in
theorem d_84_5 : decode (mB 84) 5 = .ok (.iconst 0, 1) := by decide +kernel
set_option maxRecDepth 100000 in
theorem d_84_6 : decode (mB 84) 6 = .ok (.istore_n 2, 1) := by decide +kernel
set_option maxRecDepth 100000 in
theorem d_84_7 : decode (mB 84) 7 = .ok (.iload_n 2, 1) := by decide +kernel
set_option maxRecDepth 100000 in
theorem d_84_8 : decode (mB 84) 8 = .ok (.bipush 16, 2) := by decide +kernel
set_option maxRecDepth 100000 in
theorem d_84_10 : decode (mB 84) 10 = .ok (.if_icmp .ge 13, 3) := by decide +kernel
set_option maxRecDepth 100000 in
theorem d_84_13 : decode (mB 84) 13 = .ok (.aload_n 1, 1) := by decide +kernel
set_option maxRecDepth 100000 in
theorem d_84_14 : decode (mB 84) 14 = .ok (.iload_n 2, 1) := by decide +kernel
set_option maxRecDepth 100000 in
theorem d_84_15 : decode (mB 84) 15 = .ok (.iload_n 0, 1) := by decide +kernel
set_option maxRecDepth 100000 in
theorem d_84_16 : decode (mB 84) 16 = .ok (.iastore, 1) := by decide +kernel
set_option maxRecDepth 100000 in
theorem d_84_17 : decode (mB 84) 17 = .ok (.iinc 2 1, 3) := by decide +kernel
set_option maxRecDepth 100000 in
theorem d_84_20 : decode (mB 84) 20 = .ok (.goto (-13), 3) := by decide +kernel
set_option maxRecDepth 100000 in
theorem d_84_23 : decode (mB 84) 23 = .ok (.aload_n 1, 1) := by decide +kernel
set_option maxRecDepth 100000 in
theorem d_84_24 : decode (mB 84) 24 = .ok (.areturn, 1) := by decide +kernel
set_option maxRecDepth 100000 in
theorem c_96_184 : cvP 96 184 81 3 := ⟨cd_81, okk_w (k := 1373) (by decide +kernel), okk_w (k := 1375) (by decide +kernel), okk_w (k := 39) (by decide +kernel), by decide +kernel, by decide +kernel⟩
set_option maxRecDepth 100000 in
theorem c_96_224 : cvP 96 224 97 3 := ⟨cd_97, okk_w (k := 1438) (by decide +kernel), okk_w (k := 1440) (by decide +kernel), okk_w (k := 48) (by decide +kernel), by decide +kernel, by decide +kernel⟩
set_option maxRecDepth 100000 in
theorem d_96_0 : decode (mB 96) 0 = .ok (.aload_n 0, 1) := by decide +kernel
set_option maxRecDepth 100000 in
theorem d_96_1 : decode (mB 96) 1 = .ok (.aload_n 0, 1) := by decide +kernel
set_option maxRecDepth 100000 in
theorem d_96_2 : decode (mB 96) 2 = .ok (.iload_n 1, 1) := by decide +kernel
set_option maxRecDepth 100000 in
theorem d_96_3 : decode (mB 96) 3 = .ok (.iload_n 2, 1) := by decide +kernel
set_option maxRecDepth 100000 in
theorem d_96_4 : decode (mB 96) 4 = .ok (.iload_n 3, 1) := by decide +kernel
set_option maxRecDepth 100000 in
theorem d_96_5 : decode (mB 96) 5 = .ok (.invokevirtual 184, 3) := by decide +kernel
set_option maxRecDepth 100000 in
theorem d_96_8 : decode (mB 96) 8 = .ok (.putfield 88, 3) := by decide +kernel
set_option maxRecDepth 100000 in
theorem d_96_11 : decode (mB 96) 11 = .ok (.aload_n 0, 1) := by decide +kernel
set_option maxRecDepth 100000 in
theorem d_96_12 : decode (mB 96) 12 = .ok (.getfield 88, 3) := by decide +kernel
set_option maxRecDepth 100000 in
theorem d_96_15 : decode (mB 96) 15 = .ok (.ifCond .eq 7, 3) := by decide +kernel
set_option maxRecDepth 100000 in
theorem d_96_18 : decode (mB 96) 18 = .ok (.iconst 0, 1) := by decide +kernel
set_option maxRecDepth 100000 in
theorem d_96_19 : decode (mB 96) 19 = .ok (.goto 10, 3) := by decide +kernel
set_option maxRecDepth 100000 in
theorem d_96_22 : decode (mB 96) 22 = .ok (.aload_n 0, 1) := by decide +kernel
set_option maxRecDepth 100000 in
theorem d_96_23 : decode (mB 96) 23 = .ok (.iload_n 1, 1) := by decide +kernel
set_option maxRecDepth 100000 in
theorem d_96_24 : decode (mB 96) 24 = .ok (.iload_n 2, 1) := by decide +kernel
set_option maxRecDepth 100000 in
theorem d_96_25 : decode (mB 96) 25 = .ok (.iload_n 3, 1) := by decide +kernel
set_option maxRecDepth 100000 in
theorem d_96_26 : decode (mB 96) 26 = .ok (.invokevirtual 224, 3) := by decide +kernel
set_option maxRecDepth 100000 in
theorem d_96_29 : decode (mB 96) 29 = .ok (.ireturn, 1) := by decide +kernel
set_option maxRecDepth 100000 in
theorem c_97_138 : csP 97 138 214 2 := ⟨cd_214, okk_w (k := 1356) (by decide +kernel), okk_w (k := 783) (by decide +kernel), by decide +kernel, by decide +kernel⟩
set_option maxRecDepth 100000 in
theorem c_97_143 : csP 97 143 215 2 := ⟨cd_215, okk_w (k := 1360) (by decide +kernel), okk_w (k := 786) (by decide +kernel), by decide +kernel, by decide +kernel⟩
set_option maxRecDepth 100000 in
theorem c_97_220 : cvP 97 220 98 3 := ⟨cd_98, okk_w (k := 1442) (by decide +kernel), okk_w (k := 1444) (by decide +kernel), okk_w (k := 49) (by decide +kernel), by decide +kernel, by decide +kernel⟩
set_option maxRecDepth 100000 in
theorem fl_1_109 : flP "WhistleStopModel" 109 1 3 := ⟨_, rfl, by decide, okk_w (k := 1134) (by decide +kernel)⟩
set_option maxRecDepth 100000 in
theorem d_97_0 : decode (mB 97) 0 = .ok (.iload_n 1, 1) := by decide +kernel
set_option maxRecDepth 100000 in
theorem d_97_1 : decode (mB 97) 1 = .ok (.iload_n 2, 1) := by decide +kernel
set_option maxRecDepth 100000 in
theorem d_97_2 : decode (mB 97) 2 = .ok (.if_icmp .ne 5, 3) := by decide +kernel
set_option maxRecDepth 100000 in
theorem d_97_5 : decode (mB 97) 5 = .ok (.iload_n 3, 1) := by decide +kernel
set_option maxRecDepth 100000 in
theorem d_97_6 : decode (mB 97) 6 = .ok (.ireturn, 1) := by decide +kernel
set_option maxRecDepth 100000 in
theorem d_97_7 : decode (mB 97) 7 = .ok (.iload_n 3, 1) := by decide +kernel
set_option maxRecDepth 100000 in
theorem d_97_8 : decode (mB 97) 8 = .ok (.istore 4, 2) := by decide +kernel
set_option maxRecDepth 100000 in
theorem d_97_10 : decode (mB 97) 10 = .ok (.iload 4, 2) := by decide +kernel
set_option maxRecDepth 100000 in
theorem d_97_12 : decode (mB 97) 12 = .ok (.ifCond .lt 215, 3) := by decide +kernel
set_option maxRecDepth 100000 in
theorem d_97_15 : decode (mB 97) 15 = .ok (.iconst 0, 1) := by decide +kernel
set_option maxRecDepth 100000 in
theorem d_97_16 : decode (mB 97) 16 = .ok (.iload 4, 2) := by decide +kernel
set_option maxRecDepth 100000 in
theorem d_97_18 : decode (mB 97) 18 = .ok (.sipush 1440, 3) := by decide +kernel
set_option maxRecDepth 100000 in
theorem d_97_21 : decode (mB 97) 21 = .ok (.isub, 1) := by decide +kernel
set_option maxRecDepth 100000 in
theorem d_97_22 : decode (mB 97) 22 = .ok (.invokestatic 138, 3) := by decide +kernel
set_option maxRecDepth 100000 in
theorem d_97_25 : decode (mB 97) 25 = .ok (.istore 5, 2) := by decide +kernel
set_option maxRecDepth 100000 in
theorem d_97_27 : decode (mB 97) 27 = .ok (.iload_n 3, 1) := by decide +kernel
set_option maxRecDepth 100000 in
theorem d_97_28 : decode (mB 97) 28 = .ok (.iload 4, 2) := by decide +kernel
set_option maxRecDepth 100000 in
theorem d_97_30 : decode (mB 97) 30 = .ok (.sipush 2880, 3) := by decide +kernel
set_option maxRecDepth 100000 in
theorem d_97_33 : decode (mB 97) 33 = .ok (.iadd, 1) := by decide +kernel
set_option maxRecDepth 100000 in
theorem d_97_34 : decode (mB 97) 34 = .ok (.invokestatic 143, 3) := by decide +kernel
set_option maxRecDepth 100000 in
theorem d_97_37 : decode (mB 97) 37 = .ok (.istore 6, 2) := by decide +kernel
set_option maxRecDepth 100000 in
theorem d_97_39 : decode (mB 97) 39 = .ok (.aload_n 0, 1) := by decide +kernel
set_option maxRecDepth 100000 in
theorem d_97_40 : decode (mB 97) 40 = .ok (.iload_n 2, 1) := by decide +kernel
set_option maxRecDepth 100000 in
theorem d_97_41 : decode (mB 97) 41 = .ok (.iload 6, 2) := by decide +kernel
set_option maxRecDepth 100000 in
theorem d_97_43 : decode (mB 97) 43 = .ok (.iload 5, 2) := by decide +kernel
set_option maxRecDepth 100000 in
theorem d_97_45 : decode (mB 97) 45 = .ok (.invokevirtual 220, 3) := by decide +kernel
set_option maxRecDepth 100000 in
theorem d_97_48 : decode (mB 97) 48 = .ok (.bipush 6, 2) := by decide +kernel
set_option maxRecDepth 100000 in
theorem d_97_50 : decode (mB 97) 50 = .ok (.aaload, 1) := by decide +kernel
set_option maxRecDepth 100000 in
theorem d_97_51 : decode (mB 97) 51 = .ok (.astore 7, 2) := by decide +kernel
set_option maxRecDepth 100000 in
theorem d_97_53 : decode (mB 97) 53 = .ok (.iload 4, 2) := by decide +kernel
set_option maxRecDepth 100000 in
theorem d_97_55 : decode (mB 97) 55 = .ok (.aload 7, 2) := by decide +kernel
set_option maxRecDepth 100000 in
theorem d_97_57 : decode (mB 97) 57 = .ok (.iload_n 1, 1) := by decide +kernel
set_option maxRecDepth 100000 in
theorem d_97_58 : decode (mB 97) 58 = .ok (.iaload, 1) := by decide +kernel
set_option maxRecDepth 100000 in
theorem d_97_59 : decode (mB 97) 59 = .ok (.invokestatic 143, 3) := by decide +kernel
set_option maxRecDepth 100000 in
theorem d_97_62 : decode (mB 97) 62 = .ok (.istore 8, 2) := by decide +kernel
set_option maxRecDepth 100000 in
theorem d_97_64 : decode (mB 97) 64 = .ok (.iconst 0, 1) := by decide +kernel
set_option maxRecDepth 100000 in
theorem d_97_65 : decode (mB 97) 65 = .ok (.istore 9, 2) := by decide +kernel
set_option maxRecDepth 100000 in
theorem d_97_67 : decode (mB 97) 67 = .ok (.iload 9, 2) := by decide +kernel
set_option maxRecDepth 100000 in
theorem d_97_69 : decode (mB 97) 69 = .ok (.aload_n 0, 1) := by decide +kernel
set_option maxRecDepth 100000 in
theorem d_97_70 : decode (mB 97) 70 = .ok (.getfield 109, 3) := by decide +kernel
set_option maxRecDepth 100000 in
theorem d_97_73 : decode (mB 97) 73 = .ok (.if_icmp .ge 108, 3) := by decide +kernel
set_option maxRecDepth 100000 in
theorem d_97_76 : decode (mB 97) 76 = .ok (.aload_n 0, 1) := by decide +kernel
set_option maxRecDepth 100000 in
theorem d_97_77 : decode (mB 97) 77 = .ok (.getfield 13, 3) := by decide +kernel
set_option maxRecDepth 100000 in
theorem d_97_80 : decode (mB 97) 80 = .ok (.iload 9, 2) := by decide +kernel
set_option maxRecDepth 100000 in
theorem d_97_82 : decode (mB 97) 82 = .ok (.iaload, 1) := by decide +kernel
set_option maxRecDepth 100000 in
theorem d_97_83 : decode (mB 97) 83 = .ok (.iload_n 1, 1) := by decide +kernel
set_option maxRecDepth 100000 in
theorem d_97_84 : decode (mB 97) 84 = .ok (.if_icmp .eq 17, 3) := by decide +kernel
set_option maxRecDepth 100000 in
theorem d_97_87 : decode (mB 97) 87 = .ok (.aload_n 0, 1) := by decide +kernel
set_option maxRecDepth 100000 in
theorem d_97_88 : decode (mB 97) 88 = .ok (.getfield 16, 3) := by decide +kernel
set_option maxRecDepth 100000 in
theorem d_97_91 : decode (mB 97) 91 = .ok (.iload 9, 2) := by decide +kernel
set_option maxRecDepth 100000 in
theorem d_97_93 : decode (mB 97) 93 = .ok (.iaload, 1) := by decide +kernel
set_option maxRecDepth 100000 in
theorem d_97_94 : decode (mB 97) 94 = .ok (.iload_n 1, 1) := by decide +kernel
set_option maxRecDepth 100000 in
theorem d_97_95 : decode (mB 97) 95 = .ok (.if_icmp .eq 6, 3) := by decide +kernel
set_option maxRecDepth 100000 in
theorem d_97_98 : decode (mB 97) 98 = .ok (.goto 77, 3) := by decide +kernel
set_option maxRecDepth 100000 in
theorem d_97_101 : decode (mB 97) 101 = .ok (.aload_n 0, 1) := by decide +kernel
set_option maxRecDepth 100000 in
theorem d_97_102 : decode (mB 97) 102 = .ok (.getfield 13, 3) := by decide +kernel
set_option maxRecDepth 100000 in
theorem d_97_105 : decode (mB 97) 105 = .ok (.iload 9, 2) := by decide +kernel
set_option maxRecDepth 100000 in
theorem d_97_107 : decode (mB 97) 107 = .ok (.iaload, 1) := by decide +kernel
set_option maxRecDepth 100000 in
theorem d_97_108 : decode (mB 97) 108 = .ok (.iload_n 1, 1) := by decide +kernel
set_option maxRecDepth 100000 in
theorem d_97_109 : decode (mB 97) 109 = .ok (.if_icmp .ne 13, 3) := by decide +kernel
set_option maxRecDepth 100000 in
theorem d_97_112 : decode (mB 97) 112 = .ok (.aload_n 0, 1) := by decide +kernel
set_option maxRecDepth 100000 in
theorem d_97_113 : decode (mB 97) 113 = .ok (.getfield 16, 3) := by decide +kernel
set_option maxRecDepth 100000 in
theorem d_97_116 : decode (mB 97) 116 = .ok (.iload 9, 2) := by decide +kernel
set_option maxRecDepth 100000 in
theorem d_97_118 : decode (mB 97) 118 = .ok (.iaload, 1) := by decide +kernel
set_option maxRecDepth 100000 in
theorem d_97_119 : decode (mB 97) 119 = .ok (.goto 10, 3) := by decide +kernel
set_option maxRecDepth 100000 in
theorem d_97_122 : decode (mB 97) 122 = .ok (.aload_n 0, 1) := by decide +kernel
set_option maxRecDepth 100000 in
theorem d_97_123 : decode (mB 97) 123 = .ok (.getfield 13, 3) := by decide +kernel
set_option maxRecDepth 100000 in
theorem d_97_126 : decode (mB 97) 126 = .ok (.iload 9, 2) := by decide +kernel
set_option maxRecDepth 100000 in
theorem d_97_128 : decode (mB 97) 128 = .ok (.iaload, 1) := by decide +kernel
set_option maxRecDepth 100000 in
theorem d_97_129 : decode (mB 97) 129 = .ok (.istore 10, 2) := by decide +kernel
set_option maxRecDepth 100000 in
theorem d_97_131 : decode (mB 97) 131 = .ok (.iload 8, 2) := by decide +kernel
set_option maxRecDepth 100000 in
theorem d_97_133 : decode (mB 97) 133 = .ok (.iload 4, 2) := by decide +kernel
set_option maxRecDepth 100000 in
theorem d_97_135 : decode (mB 97) 135 = .ok (.iload 10, 2) := by decide +kernel
set_option maxRecDepth 100000 in
theorem d_97_137 : decode (mB 97) 137 = .ok (.iload_n 2, 1) := by decide +kernel
set_option maxRecDepth 100000 in
theorem d_97_138 : decode (mB 97) 138 = .ok (.if_icmp .ne 16, 3) := by decide +kernel
set_option maxRecDepth 100000 in
theorem d_97_141 : decode (mB 97) 141 = .ok (.iload 6, 2) := by decide +kernel
set_option maxRecDepth 100000 in
theorem d_97_143 : decode (mB 97) 143 = .ok (.aload 7, 2) := by decide +kernel
set_option maxRecDepth 100000 in
theorem d_97_145 : decode (mB 97) 145 = .ok (.iload 10, 2) := by decide +kernel
set_option maxRecDepth 100000 in
theorem d_97_147 : decode (mB 97) 147 = .ok (.iaload, 1) := by decide +kernel
set_option maxRecDepth 100000 in
theorem d_97_148 : decode (mB 97) 148 = .ok (.invokestatic 138, 3) := by decide +kernel
set_option maxRecDepth 100000 in
theorem d_97_151 : decode (mB 97) 151 = .ok (.goto 8, 3) := by decide +kernel
set_option maxRecDepth 100000 in
theorem d_97_154 : decode (mB 97) 154 = .ok (.aload 7, 2) := by decide +kernel
set_option maxRecDepth 100000 in
theorem d_97_156 : decode (mB 97) 156 = .ok (.iload 10, 2) := by decide +kernel
set_option maxRecDepth 100000 in
theorem d_97_158 : decode (mB 97) 158 = .ok (.iaload, 1) := by decide +kernel
set_option maxRecDepth 100000 in
theorem d_97_159 : decode (mB 97) 159 = .ok (.aload_n 0, 1) := by decide +kernel
set_option maxRecDepth 100000 in
theorem d_97_160 : decode (mB 97) 160 = .ok (.getfield 19, 3) := by decide +kernel
set_option maxRecDepth 100000 in
theorem d_97_163 : decode (mB 97) 163 = .ok (.iload 9, 2) := by decide +kernel
set_option maxRecDepth 100000 in
theorem d_97_165 : decode (mB 97) 165 = .ok (.iaload, 1) := by decide +kernel
set_option maxRecDepth 100000 in
theorem d_97_166 : decode (mB 97) 166 = .ok (.isub, 1) := by decide +kernel
set_option maxRecDepth 100000 in
theorem d_97_167 : decode (mB 97) 167 = .ok (.invokestatic 143, 3) := by decide +kernel
set_option maxRecDepth 100000 in
theorem d_97_170 : decode (mB 97) 170 = .ok (.invokestatic 138, 3) := by decide +kernel
set_option maxRecDepth 100000 in
theorem d_97_173 : decode (mB 97) 173 = .ok (.istore 8, 2) := by decide +kernel
set_option maxRecDepth 100000 in
theorem d_97_175 : decode (mB 97) 175 = .ok (.iinc 9 1, 3) := by decide +kernel
set_option maxRecDepth 100000 in
theorem d_97_178 : decode (mB 97) 178 = .ok (.goto (-111), 3) := by decide +kernel
set_option maxRecDepth 100000 in
theorem d_97_181 : decode (mB 97) 181 = .ok (.iload 8, 2) := by decide +kernel
set_option maxRecDepth 100000 in
theorem d_97_183 : decode (mB 97) 183 = .ok (.iload 5, 2) := by decide +kernel
set_option maxRecDepth 100000 in
theorem d_97_185 : decode (mB 97) 185 = .ok (.if_icmp .ge 21, 3) := by decide +kernel
set_option maxRecDepth 100000 in
theorem d_97_188 : decode (mB 97) 188 = .ok (.iload 5, 2) := by decide +kernel
set_option maxRecDepth 100000 in
theorem d_97_190 : decode (mB 97) 190 = .ok (.ifCond .ne 7, 3) := by decide +kernel
set_option maxRecDepth 100000 in
theorem d_97_193 : decode (mB 97) 193 = .ok (.iconst (-1), 1) := by decide +kernel
set_option maxRecDepth 100000 in
theorem d_97_194 : decode (mB 97) 194 = .ok (.goto 7, 3) := by decide +kernel
set_option maxRecDepth 100000 in
theorem d_97_197 : decode (mB 97) 197 = .ok (.iload 5, 2) := by decide +kernel
set_option maxRecDepth 100000 in
theorem d_97_199 : decode (mB 97) 199 = .ok (.iconst 1, 1) := by decide +kernel
set_option maxRecDepth 100000 in
theorem d_97_200 : decode (mB 97) 200 = .ok (.isub, 1) := by decide +kernel
set_option maxRecDepth 100000 in
theorem d_97_201 : decode (mB 97) 201 = .ok (.istore 4, 2) := by decide +kernel
set_option maxRecDepth 100000 in
theorem d_97_203 : decode (mB 97) 203 = .ok (.goto 21, 3) := by decide +kernel
set_option maxRecDepth 100000 in
theorem d_97_206 : decode (mB 97) 206 = .ok (.iload 6, 2) := by decide +kernel
set_option maxRecDepth 100000 in
theorem d_97_208 : decode (mB 97) 208 = .ok (.iload 8, 2) := by decide +kernel
set_option maxRecDepth 100000 in
theorem d_97_210 : decode (mB 97) 210 = .ok (.sipush 2880, 3) := by decide +kernel
set_option maxRecDepth 100000 in
theorem d_97_213 : decode (mB 97) 213 = .ok (.iadd, 1) := by decide +kernel
set_option maxRecDepth 100000 in
theorem d_97_214 : decode (mB 97) 214 = .ok (.if_icmp .gt 6, 3) := by decide +kernel
set_option maxRecDepth 100000 in
theorem d_97_217 : decode (mB 97) 217 = .ok (.iload 8, 2) := by decide +kernel
set_option maxRecDepth 100000 in
theorem d_97_219 : decode (mB 97) 219 = .ok (.ireturn, 1) := by decide +kernel
set_option maxRecDepth 100000 in
theorem d_97_220 : decode (mB 97) 220 = .ok (.iload 8, 2) := by decide +kernel
set_option maxRecDepth 100000 in
theorem d_97_222 : decode (mB 97) 222 = .ok (.istore 4, 2) := by decide +kernel
set_option maxRecDepth 100000 in
theorem d_97_224 : decode (mB 97) 224 = .ok (.goto (-214), 3) := by decide +kernel
set_option maxRecDepth 100000 in
theorem d_97_227 : decode (mB 97) 227 = .ok (.iconst (-1), 1) := by decide +kernel
set_option maxRecDepth 100000 in
theorem d_97_228 : decode (mB 97) 228 = .ok (.ireturn, 1) := by decide +kernel
set_option maxRecDepth 100000 in
theorem cl_1_157 : okw (.classLink "WhistleStopModel" 157 "[I") := okk_w (k := 1385) (by decide +kernel)
set_option maxRecDepth 100000 in
theorem ck_1_215 : okw (.constant "WhistleStopModel" 215 (-268435456)) := okk_w (k := 1446) (by decide +kernel)
set_option maxRecDepth 100000 in
theorem c_98_159 : csP 98 159 84 1 := ⟨cd_84, okk_w (k := 1387) (by decide +kernel), okk_w (k := 1388) (by decide +kernel), by decide +kernel, by decide +kernel⟩
set_option maxRecDepth 100000 in
theorem fl_1_98 : flP "WhistleStopModel" 98 1 12 := ⟨_, rfl, by decide, okk_w (k := 1143) (by decide +kernel)⟩
set_option maxRecDepth 100000 in
theorem c_98_146 : csP 98 146 76 1 := ⟨cd_76, okk_w (k := 1353) (by decide +kernel), okk_w (k := 1354) (by decide +kernel), by decide +kernel, by decide +kernel⟩
set_option maxRecDepth 100000 in
theorem c_98_149 : csP 98 149 77 1 := ⟨cd_77, okk_w (k := 1357) (by decide +kernel), okk_w (k := 1358) (by decide +kernel), by decide +kernel, by decide +kernel⟩
set_option maxRecDepth 100000 in
theorem c_98_134 : cvP 98 134 72 2 := ⟨cd_72, okk_w (k := 1336) (by decide +kernel), okk_w (k := 1338) (by decide +kernel), okk_w (k := 37) (by decide +kernel), by decide +kernel, by decide +kernel⟩
set_option maxRecDepth 100000 in
theorem c_98_138 : csP 98 138 214 2 := ⟨cd_214, okk_w (k := 1356) (by decide +kernel), okk_w (k := 783) (by decide +kernel), by decide +kernel, by decide +kernel⟩
set_option maxRecDepth 100000 in
theorem c_98_216 : cvP 98 216 99 5 := ⟨cd_99, okk_w (k := 1447) (by decide +kernel), okk_w (k := 1449) (by decide +kernel), okk_w (k := 50) (by decide +kernel), by decide +kernel, by decide +kernel⟩
set_option maxRecDepth 100000 in
theorem d_98_0 : decode (mB 98) 0 = .ok (.bipush 7, 2) := by decide +kernel
set_option maxRecDepth 100000 in
theorem d_98_2 : decode (mB 98) 2 = .ok (.anewarray 157, 3) := by decide +kernel
set_option maxRecDepth 100000 in
theorem d_98_5 : decode (mB 98) 5 = .ok (.astore 4, 2) := by decide +kernel
set_option maxRecDepth 100000 in
theorem d_98_7 : decode (mB 98) 7 = .ok (.aload 4, 2) := by decide +kernel
set_option maxRecDepth 100000 in
theorem d_98_9 : decode (mB 98) 9 = .ok (.iconst 0, 1) := by decide +kernel
set_option maxRecDepth 100000 in
theorem d_98_10 : decode (mB 98) 10 = .ok (.ldc 215, 2) := by decide +kernel
set_option maxRecDepth 100000 in
theorem d_98_12 : decode (mB 98) 12 = .ok (.invokestatic 159, 3) := by decide +kernel
set_option maxRecDepth 100000 in
theorem d_98_15 : decode (mB 98) 15 = .ok (.aastore, 1) := by decide +kernel
set_option maxRecDepth 100000 in
theorem d_98_16 : decode (mB 98) 16 = .ok (.iconst 1, 1) := by decide +kernel
set_option maxRecDepth 100000 in
theorem d_98_17 : decode (mB 98) 17 = .ok (.istore 5, 2) := by decide +kernel
set_option maxRecDepth 100000 in
theorem d_98_19 : decode (mB 98) 19 = .ok (.iload 5, 2) := by decide +kernel
set_option maxRecDepth 100000 in
theorem d_98_21 : decode (mB 98) 21 = .ok (.bipush 6, 2) := by decide +kernel
set_option maxRecDepth 100000 in
theorem d_98_23 : decode (mB 98) 23 = .ok (.if_icmp .gt 230, 3) := by decide +kernel
set_option maxRecDepth 100000 in
theorem d_98_26 : decode (mB 98) 26 = .ok (.aload 4, 2) := by decide +kernel
set_option maxRecDepth 100000 in
theorem d_98_28 : decode (mB 98) 28 = .ok (.iload 5, 2) := by decide +kernel
set_option maxRecDepth 100000 in
theorem d_98_30 : decode (mB 98) 30 = .ok (.bipush 16, 2) := by decide +kernel
set_option maxRecDepth 100000 in
theorem d_98_32 : decode (mB 98) 32 = .ok (.newarray .int, 2) := by decide +kernel
set_option maxRecDepth 100000 in
theorem d_98_34 : decode (mB 98) 34 = .ok (.aastore, 1) := by decide +kernel
set_option maxRecDepth 100000 in
theorem d_98_35 : decode (mB 98) 35 = .ok (.aload 4, 2) := by decide +kernel
set_option maxRecDepth 100000 in
theorem d_98_37 : decode (mB 98) 37 = .ok (.iload 5, 2) := by decide +kernel
set_option maxRecDepth 100000 in
theorem d_98_39 : decode (mB 98) 39 = .ok (.iconst 1, 1) := by decide +kernel
set_option maxRecDepth 100000 in
theorem d_98_40 : decode (mB 98) 40 = .ok (.isub, 1) := by decide +kernel
set_option maxRecDepth 100000 in
theorem d_98_41 : decode (mB 98) 41 = .ok (.aaload, 1) := by decide +kernel
set_option maxRecDepth 100000 in
theorem d_98_42 : decode (mB 98) 42 = .ok (.iconst 0, 1) := by decide +kernel
set_option maxRecDepth 100000 in
theorem d_98_43 : decode (mB 98) 43 = .ok (.aload 4, 2) := by decide +kernel
set_option maxRecDepth 100000 in
theorem d_98_45 : decode (mB 98) 45 = .ok (.iload 5, 2) := by decide +kernel
set_option maxRecDepth 100000 in
theorem d_98_47 : decode (mB 98) 47 = .ok (.aaload, 1) := by decide +kernel
set_option maxRecDepth 100000 in
theorem d_98_48 : decode (mB 98) 48 = .ok (.iconst 0, 1) := by decide +kernel
set_option maxRecDepth 100000 in
theorem d_98_49 : decode (mB 98) 49 = .ok (.bipush 16, 2) := by decide +kernel
set_option maxRecDepth 100000 in
theorem d_98_51 : decode (mB 98) 51 = .ok (.invokestatic 167, 3) := by decide +kernel
set_option maxRecDepth 100000 in
theorem d_98_54 : decode (mB 98) 54 = .ok (.iconst 0, 1) := by decide +kernel
set_option maxRecDepth 100000 in
theorem d_98_55 : decode (mB 98) 55 = .ok (.istore 6, 2) := by decide +kernel
set_option maxRecDepth 100000 in
theorem d_98_57 : decode (mB 98) 57 = .ok (.iload 6, 2) := by decide +kernel
set_option maxRecDepth 100000 in
theorem d_98_59 : decode (mB 98) 59 = .ok (.aload_n 0, 1) := by decide +kernel
set_option maxRecDepth 100000 in
theorem d_98_60 : decode (mB 98) 60 = .ok (.getfield 98, 3) := by decide +kernel
set_option maxRecDepth 100000 in
theorem d_98_63 : decode (mB 98) 63 = .ok (.if_icmp .ge 184, 3) := by decide +kernel
set_option maxRecDepth 100000 in
theorem d_98_66 : decode (mB 98) 66 = .ok (.iload_n 3, 1) := by decide +kernel
set_option maxRecDepth 100000 in
theorem d_98_67 : decode (mB 98) 67 = .ok (.invokestatic 146, 3) := by decide +kernel
set_option maxRecDepth 100000 in
theorem d_98_70 : decode (mB 98) 70 = .ok (.istore 7, 2) := by decide +kernel
set_option maxRecDepth 100000 in
theorem d_98_72 : decode (mB 98) 72 = .ok (.iload 7, 2) := by decide +kernel
set_option maxRecDepth 100000 in
theorem d_98_74 : decode (mB 98) 74 = .ok (.iload_n 2, 1) := by decide +kernel
set_option maxRecDepth 100000 in
theorem d_98_75 : decode (mB 98) 75 = .ok (.invokestatic 149, 3) := by decide +kernel
set_option maxRecDepth 100000 in
theorem d_98_78 : decode (mB 98) 78 = .ok (.if_icmp .gt 163, 3) := by decide +kernel
set_option maxRecDepth 100000 in
theorem d_98_81 : decode (mB 98) 81 = .ok (.aload_n 0, 1) := by decide +kernel
set_option maxRecDepth 100000 in
theorem d_98_82 : decode (mB 98) 82 = .ok (.iload 6, 2) := by decide +kernel
set_option maxRecDepth 100000 in
theorem d_98_84 : decode (mB 98) 84 = .ok (.iload 7, 2) := by decide +kernel
set_option maxRecDepth 100000 in
theorem d_98_86 : decode (mB 98) 86 = .ok (.invokevirtual 134, 3) := by decide +kernel
set_option maxRecDepth 100000 in
theorem d_98_89 : decode (mB 98) 89 = .ok (.istore 8, 2) := by decide +kernel
set_option maxRecDepth 100000 in
theorem d_98_91 : decode (mB 98) 91 = .ok (.iload 8, 2) := by decide +kernel
set_option maxRecDepth 100000 in
theorem d_98_93 : decode (mB 98) 93 = .ok (.iconst (-1), 1) := by decide +kernel
set_option maxRecDepth 100000 in
theorem d_98_94 : decode (mB 98) 94 = .ok (.if_icmp .ne 6, 3) := by decide +kernel
set_option maxRecDepth 100000 in
theorem d_98_97 : decode (mB 98) 97 = .ok (.goto 138, 3) := by decide +kernel
set_option maxRecDepth 100000 in
theorem d_98_100 : decode (mB 98) 100 = .ok (.sipush 1440, 3) := by decide +kernel
set_option maxRecDepth 100000 in
theorem d_98_103 : decode (mB 98) 103 = .ok (.iload 7, 2) := by decide +kernel
set_option maxRecDepth 100000 in
theorem d_98_105 : decode (mB 98) 105 = .ok (.imul, 1) := by decide +kernel
set_option maxRecDepth 100000 in
theorem d_98_106 : decode (mB 98) 106 = .ok (.iload 8, 2) := by decide +kernel
set_option maxRecDepth 100000 in
theorem d_98_108 : decode (mB 98) 108 = .ok (.iadd, 1) := by decide +kernel
set_option maxRecDepth 100000 in
theorem d_98_109 : decode (mB 98) 109 = .ok (.istore 9, 2) := by decide +kernel
set_option maxRecDepth 100000 in
theorem d_98_111 : decode (mB 98) 111 = .ok (.iconst 0, 1) := by decide +kernel
set_option maxRecDepth 100000 in
theorem d_98_112 : decode (mB 98) 112 = .ok (.istore 10, 2) := by decide +kernel
set_option maxRecDepth 100000 in
theorem d_98_114 : decode (mB 98) 114 = .ok (.aload_n 0, 1) := by decide +kernel
set_option maxRecDepth 100000 in
theorem d_98_115 : decode (mB 98) 115 = .ok (.getfield 42, 3) := by decide +kernel
set_option maxRecDepth 100000 in
theorem d_98_118 : decode (mB 98) 118 = .ok (.iload 6, 2) := by decide +kernel
set_option maxRecDepth 100000 in
theorem d_98_120 : decode (mB 98) 120 = .ok (.iaload, 1) := by decide +kernel
set_option maxRecDepth 100000 in
theorem d_98_121 : decode (mB 98) 121 = .ok (.iconst 1, 1) := by decide +kernel
set_option maxRecDepth 100000 in
theorem d_98_122 : decode (mB 98) 122 = .ok (.isub, 1) := by decide +kernel
set_option maxRecDepth 100000 in
theorem d_98_123 : decode (mB 98) 123 = .ok (.istore 11, 2) := by decide +kernel
set_option maxRecDepth 100000 in
theorem d_98_125 : decode (mB 98) 125 = .ok (.iload 11, 2) := by decide +kernel
set_option maxRecDepth 100000 in
theorem d_98_127 : decode (mB 98) 127 = .ok (.ifCond .lt 108, 3) := by decide +kernel
set_option maxRecDepth 100000 in
theorem d_98_130 : decode (mB 98) 130 = .ok (.aload_n 0, 1) := by decide +kernel
set_option maxRecDepth 100000 in
theorem d_98_131 : decode (mB 98) 131 = .ok (.getfield 45, 3) := by decide +kernel
set_option maxRecDepth 100000 in
theorem d_98_134 : decode (mB 98) 134 = .ok (.iload 6, 2) := by decide +kernel
set_option maxRecDepth 100000 in
theorem d_98_136 : decode (mB 98) 136 = .ok (.aaload, 1) := by decide +kernel
set_option maxRecDepth 100000 in
theorem d_98_137 : decode (mB 98) 137 = .ok (.iload 11, 2) := by decide +kernel
set_option maxRecDepth 100000 in
theorem d_98_139 : decode (mB 98) 139 = .ok (.iaload, 1) := by decide +kernel
set_option maxRecDepth 100000 in
theorem d_98_140 : decode (mB 98) 140 = .ok (.istore 12, 2) := by decide +kernel
set_option maxRecDepth 100000 in
theorem d_98_142 : decode (mB 98) 142 = .ok (.iload 10, 2) := by decide +kernel
set_option maxRecDepth 100000 in
theorem d_98_144 : decode (mB 98) 144 = .ok (.ifCond .eq 52, 3) := by decide +kernel
set_option maxRecDepth 100000 in
theorem d_98_147 : decode (mB 98) 147 = .ok (.iload 9, 2) := by decide +kernel
set_option maxRecDepth 100000 in
theorem d_98_149 : decode (mB 98) 149 = .ok (.aload_n 0, 1) := by decide +kernel
set_option maxRecDepth 100000 in
theorem d_98_150 : decode (mB 98) 150 = .ok (.getfield 51, 3) := by decide +kernel
set_option maxRecDepth 100000 in
theorem d_98_153 : decode (mB 98) 153 = .ok (.iload 6, 2) := by decide +kernel
set_option maxRecDepth 100000 in
theorem d_98_155 : decode (mB 98) 155 = .ok (.aaload, 1) := by decide +kernel
set_option maxRecDepth 100000 in
theorem d_98_156 : decode (mB 98) 156 = .ok (.iload 11, 2) := by decide +kernel
set_option maxRecDepth 100000 in
theorem d_98_158 : decode (mB 98) 158 = .ok (.iaload, 1) := by decide +kernel
set_option maxRecDepth 100000 in
theorem d_98_159 : decode (mB 98) 159 = .ok (.iadd, 1) := by decide +kernel
set_option maxRecDepth 100000 in
theorem d_98_160 : decode (mB 98) 160 = .ok (.iload_n 3, 1) := by decide +kernel
set_option maxRecDepth 100000 in
theorem d_98_161 : decode (mB 98) 161 = .ok (.if_icmp .lt 35, 3) := by decide +kernel
set_option maxRecDepth 100000 in
theorem d_98_164 : decode (mB 98) 164 = .ok (.aload 4, 2) := by decide +kernel
set_option maxRecDepth 100000 in
theorem d_98_166 : decode (mB 98) 166 = .ok (.iload 5, 2) := by decide +kernel
set_option maxRecDepth 100000 in
theorem d_98_168 : decode (mB 98) 168 = .ok (.aaload, 1) := by decide +kernel
set_option maxRecDepth 100000 in
theorem d_98_169 : decode (mB 98) 169 = .ok (.iload 12, 2) := by decide +kernel
set_option maxRecDepth 100000 in
theorem d_98_171 : decode (mB 98) 171 = .ok (.aload 4, 2) := by decide +kernel
set_option maxRecDepth 100000 in
theorem d_98_173 : decode (mB 98) 173 = .ok (.iload 5, 2) := by decide +kernel
set_option maxRecDepth 100000 in
theorem d_98_175 : decode (mB 98) 175 = .ok (.aaload, 1) := by decide +kernel
set_option maxRecDepth 100000 in
theorem d_98_176 : decode (mB 98) 176 = .ok (.iload 12, 2) := by decide +kernel
set_option maxRecDepth 100000 in
theorem d_98_178 : decode (mB 98) 178 = .ok (.iaload, 1) := by decide +kernel
set_option maxRecDepth 100000 in
theorem d_98_179 : decode (mB 98) 179 = .ok (.iload 9, 2) := by decide +kernel
set_option maxRecDepth 100000 in
theorem d_98_181 : decode (mB 98) 181 = .ok (.aload_n 0, 1) := by decide +kernel
set_option maxRecDepth 100000 in
theorem d_98_182 : decode (mB 98) 182 = .ok (.getfield 51, 3) := by decide +kernel
set_option maxRecDepth 100000 in
theorem d_98_185 : decode (mB 98) 185 = .ok (.iload 6, 2) := by decide +kernel
set_option maxRecDepth 100000 in
theorem d_98_187 : decode (mB 98) 187 = .ok (.aaload, 1) := by decide +kernel
set_option maxRecDepth 100000 in
theorem d_98_188 : decode (mB 98) 188 = .ok (.iload 11, 2) := by decide +kernel
set_option maxRecDepth 100000 in
theorem d_98_190 : decode (mB 98) 190 = .ok (.iaload, 1) := by decide +kernel
set_option maxRecDepth 100000 in
theorem d_98_191 : decode (mB 98) 191 = .ok (.iadd, 1) := by decide +kernel
set_option maxRecDepth 100000 in
theorem d_98_192 : decode (mB 98) 192 = .ok (.invokestatic 138, 3) := by decide +kernel
set_option maxRecDepth 100000 in
theorem d_98_195 : decode (mB 98) 195 = .ok (.iastore, 1) := by decide +kernel
set_option maxRecDepth 100000 in
theorem d_98_196 : decode (mB 98) 196 = .ok (.iload 10, 2) := by decide +kernel
set_option maxRecDepth 100000 in
theorem d_98_198 : decode (mB 98) 198 = .ok (.aload_n 0, 1) := by decide +kernel
set_option maxRecDepth 100000 in
theorem d_98_199 : decode (mB 98) 199 = .ok (.iload 12, 2) := by decide +kernel
set_option maxRecDepth 100000 in
theorem d_98_201 : decode (mB 98) 201 = .ok (.iload 9, 2) := by decide +kernel
set_option maxRecDepth 100000 in
theorem d_98_203 : decode (mB 98) 203 = .ok (.aload_n 0, 1) := by decide +kernel
set_option maxRecDepth 100000 in
theorem d_98_204 : decode (mB 98) 204 = .ok (.getfield 48, 3) := by decide +kernel
set_option maxRecDepth 100000 in
theorem d_98_207 : decode (mB 98) 207 = .ok (.iload 6, 2) := by decide +kernel
set_option maxRecDepth 100000 in
theorem d_98_209 : decode (mB 98) 209 = .ok (.aaload, 1) := by decide +kernel
set_option maxRecDepth 100000 in
theorem d_98_210 : decode (mB 98) 210 = .ok (.iload 11, 2) := by decide +kernel
set_option maxRecDepth 100000 in
theorem d_98_212 : decode (mB 98) 212 = .ok (.iaload, 1) := by decide +kernel
set_option maxRecDepth 100000 in
theorem d_98_213 : decode (mB 98) 213 = .ok (.iadd, 1) := by decide +kernel
set_option maxRecDepth 100000 in
theorem d_98_214 : decode (mB 98) 214 = .ok (.iload_n 1, 1) := by decide +kernel
set_option maxRecDepth 100000 in
theorem d_98_215 : decode (mB 98) 215 = .ok (.iload_n 2, 1) := by decide +kernel
set_option maxRecDepth 100000 in
theorem d_98_216 : decode (mB 98) 216 = .ok (.aload 4, 2) := by decide +kernel
set_option maxRecDepth 100000 in
theorem d_98_218 : decode (mB 98) 218 = .ok (.iload 5, 2) := by decide +kernel
set_option maxRecDepth 100000 in
theorem d_98_220 : decode (mB 98) 220 = .ok (.iconst 1, 1) := by decide +kernel
set_option maxRecDepth 100000 in
theorem d_98_221 : decode (mB 98) 221 = .ok (.isub, 1) := by decide +kernel
set_option maxRecDepth 100000 in
theorem d_98_222 : decode (mB 98) 222 = .ok (.aaload, 1) := by decide +kernel
set_option maxRecDepth 100000 in
theorem d_98_223 : decode (mB 98) 223 = .ok (.invokevirtual 216, 3) := by decide +kernel
set_option maxRecDepth 100000 in
theorem d_98_226 : decode (mB 98) 226 = .ok (.ior, 1) := by decide +kernel
set_option maxRecDepth 100000 in
theorem d_98_227 : decode (mB 98) 227 = .ok (.istore 10, 2) := by decide +kernel
set_option maxRecDepth 100000 in
theorem d_98_229 : decode (mB 98) 229 = .ok (.iinc 11 (-1), 3) := by decide +kernel
set_option maxRecDepth 100000 in
theorem d_98_232 : decode (mB 98) 232 = .ok (.goto (-107), 3) := by decide +kernel
set_option maxRecDepth 100000 in
theorem d_98_235 : decode (mB 98) 235 = .ok (.iinc 7 1, 3) := by decide +kernel
set_option maxRecDepth 100000 in
theorem d_98_238 : decode (mB 98) 238 = .ok (.goto (-166), 3) := by decide +kernel
set_option maxRecDepth 100000 in
theorem d_98_241 : decode (mB 98) 241 = .ok (.iinc 6 1, 3) := by decide +kernel
set_option maxRecDepth 100000 in
theorem d_98_244 : decode (mB 98) 244 = .ok (.goto (-187), 3) := by decide +kernel
set_option maxRecDepth 100000 in
theorem d_98_247 : decode (mB 98) 247 = .ok (.iinc 5 1, 3) := by decide +kernel
set_option maxRecDepth 100000 in
theorem d_98_250 : decode (mB 98) 250 = .ok (.goto (-231), 3) := by decide +kernel
set_option maxRecDepth 100000 in
theorem d_98_253 : decode (mB 98) 253 = .ok (.aload 4, 2) := by decide +kernel
set_option maxRecDepth 100000 in
theorem d_98_255 : decode (mB 98) 255 = .ok (.areturn, 1) := by decide +kernel
set_option maxRecDepth 100000 in
theorem d_99_0 : decode (mB 99) 0 = .ok (.iload_n 2, 1) := by decide +kernel
set_option maxRecDepth 100000 in
theorem d_99_1 : decode (mB 99) 1 = .ok (.iload 4, 2) := by decide +kernel
set_option maxRecDepth 100000 in
theorem d_99_3 : decode (mB 99) 3 = .ok (.if_icmp .le 5, 3) := by decide +kernel
set_option maxRecDepth 100000 in
theorem d_99_6 : decode (mB 99) 6 = .ok (.iconst 0, 1) := by decide +kernel
set_option maxRecDepth 100000 in
theorem d_99_7 : decode (mB 99) 7 = .ok (.ireturn, 1) := by decide +kernel
set_option maxRecDepth 100000 in
theorem d_99_8 : decode (mB 99) 8 = .ok (.iload_n 1, 1) := by decide +kernel
set_option maxRecDepth 100000 in
theorem d_99_9 : decode (mB 99) 9 = .ok (.iload_n 3, 1) := by decide +kernel
set_option maxRecDepth 100000 in
theorem d_99_10 : decode (mB 99) 10 = .ok (.if_icmp .eq 18, 3) := by decide +kernel
set_option maxRecDepth 100000 in
theorem d_99_13 : decode (mB 99) 13 = .ok (.iload_n 2, 1) := by decide +kernel
set_option maxRecDepth 100000 in
theorem d_99_14 : decode (mB 99) 14 = .ok (.aload_n 0, 1) := by decide +kernel
set_option maxRecDepth 100000 in
theorem d_99_15 : decode (mB 99) 15 = .ok (.getfield 9, 3) := by decide +kernel
set_option maxRecDepth 100000 in
theorem d_99_18 : decode (mB 99) 18 = .ok (.iload_n 1, 1) := by decide +kernel
set_option maxRecDepth 100000 in
theorem d_99_19 : decode (mB 99) 19 = .ok (.iaload, 1) := by decide +kernel
set_option maxRecDepth 100000 in
theorem d_99_20 : decode (mB 99) 20 = .ok (.iadd, 1) := by decide +kernel
set_option maxRecDepth 100000 in
theorem d_99_21 : decode (mB 99) 21 = .ok (.aload 5, 2) := by decide +kernel
set_option maxRecDepth 100000 in
theorem d_99_23 : decode (mB 99) 23 = .ok (.iload_n 1, 1) := by decide +kernel
set_option maxRecDepth 100000 in
theorem d_99_24 : decode (mB 99) 24 = .ok (.iaload, 1) := by decide +kernel
set_option maxRecDepth 100000 in
theorem d_99_25 : decode (mB 99) 25 = .ok (.if_icmp .gt 5, 3) := by decide +kernel
set_option maxRecDepth 100000 in
theorem d_99_28 : decode (mB 99) 28 = .ok (.iconst 1, 1) := by decide +kernel
set_option maxRecDepth 100000 in
theorem d_99_29 : decode (mB 99) 29 = .ok (.ireturn, 1) := by decide +kernel
set_option maxRecDepth 100000 in
theorem d_99_30 : decode (mB 99) 30 = .ok (.iconst 0, 1) := by decide +kernel
set_option maxRecDepth 100000 in
theorem d_99_31 : decode (mB 99) 31 = .ok (.istore 6, 2) := by decide +kernel
set_option maxRecDepth 100000 in
theorem d_99_33 : decode (mB 99) 33 = .ok (.iload 6, 2) := by decide +kernel
set_option maxRecDepth 100000 in
theorem d_99_35 : decode (mB 99) 35 = .ok (.aload_n 0, 1) := by decide +kernel
set_option maxRecDepth 100000 in
theorem d_99_36 : decode (mB 99) 36 = .ok (.getfield 109, 3) := by decide +kernel
set_option maxRecDepth 100000 in
theorem d_99_39 : decode (mB 99) 39 = .ok (.if_icmp .ge 103, 3) := by decide +kernel
set_option maxRecDepth 100000 in
theorem d_99_42 : decode (mB 99) 42 = .ok (.aload_n 0, 1) := by decide +kernel
set_option maxRecDepth 100000 in
theorem d_99_43 : decode (mB 99) 43 = .ok (.getfield 13, 3) := by decide +kernel
set_option maxRecDepth 100000 in
theorem d_99_46 : decode (mB 99) 46 = .ok (.iload 6, 2) := by decide +kernel
set_option maxRecDepth 100000 in
theorem d_99_48 : decode (mB 99) 48 = .ok (.iaload, 1) := by decide +kernel
set_option maxRecDepth 100000 in
theorem d_99_49 : decode (mB 99) 49 = .ok (.iload_n 1, 1) := by decide +kernel
set_option maxRecDepth 100000 in
theorem d_99_50 : decode (mB 99) 50 = .ok (.if_icmp .eq 17, 3) := by decide +kernel
set_option maxRecDepth 100000 in
theorem d_99_53 : decode (mB 99) 53 = .ok (.aload_n 0, 1) := by decide +kernel
set_option maxRecDepth 100000 in
theorem d_99_54 : decode (mB 99) 54 = .ok (.getfield 16, 3) := by decide +kernel
set_option maxRecDepth 100000 in
theorem d_99_57 : decode (mB 99) 57 = .ok (.iload 6, 2) := by decide +kernel
set_option maxRecDepth 100000 in
theorem d_99_59 : decode (mB 99) 59 = .ok (.iaload, 1) := by decide +kernel
set_option maxRecDepth 100000 in
theorem d_99_60 : decode (mB 99) 60 = .ok (.iload_n 1, 1) := by decide +kernel
set_option maxRecDepth 100000 in
theorem d_99_61 : decode (mB 99) 61 = .ok (.if_icmp .eq 6, 3) := by decide +kernel
set_option maxRecDepth 100000 in
theorem d_99_64 : decode (mB 99) 64 = .ok (.goto 72, 3) := by decide +kernel
set_option maxRecDepth 100000 in
theorem d_99_67 : decode (mB 99) 67 = .ok (.aload_n 0, 1) := by decide +kernel
set_option maxRecDepth 100000 in
theorem d_99_68 : decode (mB 99) 68 = .ok (.getfield 13, 3) := by decide +kernel
set_option maxRecDepth 100000 in
theorem d_99_71 : decode (mB 99) 71 = .ok (.iload 6, 2) := by decide +kernel
set_option maxRecDepth 100000 in
theorem d_99_73 : decode (mB 99) 73 = .ok (.iaload, 1) := by decide +kernel
set_option maxRecDepth 100000 in
theorem d_99_74 : decode (mB 99) 74 = .ok (.iload_n 1, 1) := by decide +kernel
set_option maxRecDepth 100000 in
theorem d_99_75 : decode (mB 99) 75 = .ok (.if_icmp .ne 13, 3) := by decide +kernel
set_option maxRecDepth 100000 in
theorem d_99_78 : decode (mB 99) 78 = .ok (.aload_n 0, 1) := by decide +kernel
set_option maxRecDepth 100000 in
theorem d_99_79 : decode (mB 99) 79 = .ok (.getfield 16, 3) := by decide +kernel
set_option maxRecDepth 100000 in
theorem d_99_82 : decode (mB 99) 82 = .ok (.iload 6, 2) := by decide +kernel
set_option maxRecDepth 100000 in
theorem d_99_84 : decode (mB 99) 84 = .ok (.iaload, 1) := by decide +kernel
set_option maxRecDepth 100000 in
theorem d_99_85 : decode (mB 99) 85 = .ok (.goto 10, 3) := by decide +kernel
set_option maxRecDepth 100000 in
theorem d_99_88 : decode (mB 99) 88 = .ok (.aload_n 0, 1) := by decide +kernel
set_option maxRecDepth 100000 in
theorem d_99_89 : decode (mB 99) 89 = .ok (.getfield 13, 3) := by decide +kernel
set_option maxRecDepth 100000 in
theorem d_99_92 : decode (mB 99) 92 = .ok (.iload 6, 2) := by decide +kernel
set_option maxRecDepth 100000 in
theorem d_99_94 : decode (mB 99) 94 = .ok (.iaload, 1) := by decide +kernel
set_option maxRecDepth 100000 in
theorem d_99_95 : decode (mB 99) 95 = .ok (.istore 7, 2) := by decide +kernel
set_option maxRecDepth 100000 in
theorem d_99_97 : decode (mB 99) 97 = .ok (.iload 7, 2) := by decide +kernel
set_option maxRecDepth 100000 in
theorem d_99_99 : decode (mB 99) 99 = .ok (.iload_n 3, 1) := by decide +kernel
set_option maxRecDepth 100000 in
theorem d_99_100 : decode (mB 99) 100 = .ok (.if_icmp .ne 17, 3) := by decide +kernel
set_option maxRecDepth 100000 in
theorem d_99_103 : decode (mB 99) 103 = .ok (.iload_n 2, 1) := by decide +kernel
set_option maxRecDepth 100000 in
theorem d_99_104 : decode (mB 99) 104 = .ok (.aload_n 0, 1) := by decide +kernel
set_option maxRecDepth 100000 in
theorem d_99_105 : decode (mB 99) 105 = .ok (.getfield 19, 3) := by decide +kernel
set_option maxRecDepth 100000 in
theorem d_99_108 : decode (mB 99) 108 = .ok (.iload 6, 2) := by decide +kernel
set_option maxRecDepth 100000 in
theorem d_99_110 : decode (mB 99) 110 = .ok (.iaload, 1) := by decide +kernel
set_option maxRecDepth 100000 in
theorem d_99_111 : decode (mB 99) 111 = .ok (.iadd, 1) := by decide +kernel
set_option maxRecDepth 100000 in
theorem d_99_112 : decode (mB 99) 112 = .ok (.iload 4, 2) := by decide +kernel
set_option maxRecDepth 100000 in
theorem d_99_114 : decode (mB 99) 114 = .ok (.if_icmp .le 20, 3) := by decide +kernel
set_option maxRecDepth 100000 in
theorem d_99_117 : decode (mB 99) 117 = .ok (.iload_n 2, 1) := by decide +kernel
set_option maxRecDepth 100000 in
theorem d_99_118 : decode (mB 99) 118 = .ok (.aload_n 0, 1) := by decide +kernel
set_option maxRecDepth 100000 in
theorem d_99_119 : decode (mB 99) 119 = .ok (.getfield 19, 3) := by decide +kernel
set_option maxRecDepth 100000 in
theorem d_99_122 : decode (mB 99) 122 = .ok (.iload 6, 2) := by decide +kernel
set_option maxRecDepth 100000 in
theorem d_99_124 : decode (mB 99) 124 = .ok (.iaload, 1) := by decide +kernel
set_option maxRecDepth 100000 in
theorem d_99_125 : decode (mB 99) 125 = .ok (.iadd, 1) := by decide +kernel
set_option maxRecDepth 100000 in
theorem d_99_126 : decode (mB 99) 126 = .ok (.aload 5, 2) := by decide +kernel
set_option maxRecDepth 100000 in
theorem d_99_128 : decode (mB 99) 128 = .ok (.iload 7, 2) := by decide +kernel
set_option maxRecDepth 100000 in
theorem d_99_130 : decode (mB 99) 130 = .ok (.iaload, 1) := by decide +kernel
set_option maxRecDepth 100000 in
theorem d_99_131 : decode (mB 99) 131 = .ok (.if_icmp .gt 5, 3) := by decide +kernel
set_option maxRecDepth 100000 in
theorem d_99_134 : decode (mB 99) 134 = .ok (.iconst 1, 1) := by decide +kernel
set_option maxRecDepth 100000 in
theorem d_99_135 : decode (mB 99) 135 = .ok (.ireturn, 1) := by decide +kernel
set_option maxRecDepth 100000 in
theorem d_99_136 : decode (mB 99) 136 = .ok (.iinc 6 1, 3) := by decide +kernel
set_option maxRecDepth 100000 in
theorem d_99_139 : decode (mB 99) 139 = .ok (.goto (-106), 3) := by decide +kernel
set_option maxRecDepth 100000 in
theorem d_99_142 : decode (mB 99) 142 = .ok (.iconst 0, 1) := by decide +kernel
set_option maxRecDepth 100000 in
theorem d_99_143 : decode (mB 99) 143 = .ok (.ireturn, 1) := by decide +kernel
set_option maxRecDepth 100000 in
theorem oi_2 : okw (.methodLink "WhistleStop$Backward" 3 Lib.objectInit) := okk_w (k := 224) (by decide +kernel)
set_option maxRecDepth 100000 in
theorem cl_2_9 : okw (.classLink "WhistleStop$Backward" 9 "[[I") := okk_w (k := 225) (by decide +kernel)
set_option maxRecDepth 100000 in
theorem fl_2_11 : flP "WhistleStop$Backward" 11 2 0 := ⟨_, rfl, by decide, okk_w (k := 226) (by decide +kernel)⟩
set_option maxRecDepth 100000 in
theorem fl_2_16 : flP "WhistleStop$Backward" 16 2 1 := ⟨_, rfl, by decide, okk_w (k := 227) (by decide +kernel)⟩
set_option maxRecDepth 100000 in
theorem d_118_0 : decode (mB 118) 0 = .ok (.aload_n 0, 1) := by decide +kernel
set_option maxRecDepth 100000 in
theorem d_118_1 : decode (mB 118) 1 = .ok (.invokespecial 3, 3) := by decide +kernel
set_option maxRecDepth 100000 in
theorem d_118_4 : decode (mB 118) 4 = .ok (.aload_n 0, 1) := by decide +kernel
set_option maxRecDepth 100000 in
theorem d_118_5 : decode (mB 118) 5 = .ok (.bipush 7, 2) := by decide +kernel
set_option maxRecDepth 100000 in
theorem d_118_7 : decode (mB 118) 7 = .ok (.bipush 16, 2) := by decide +kernel
set_option maxRecDepth 100000 in
theorem d_118_9 : decode (mB 118) 9 = .ok (.multianewarray 9 2, 4) := by decide +kernel
set_option maxRecDepth 100000 in
theorem d_118_13 : decode (mB 118) 13 = .ok (.putfield 11, 3) := by decide +kernel
set_option maxRecDepth 100000 in
theorem d_118_16 : decode (mB 118) 16 = .ok (.aload_n 0, 1) := by decide +kernel
set_option maxRecDepth 100000 in
theorem d_118_17 : decode (mB 118) 17 = .ok (.bipush 7, 2) := by decide +kernel
set_option maxRecDepth 100000 in
theorem d_118_19 : decode (mB 118) 19 = .ok (.bipush 16, 2) := by decide +kernel
set_option maxRecDepth 100000 in
theorem d_118_21 : decode (mB 118) 21 = .ok (.multianewarray 9 2, 4) := by decide +kernel
set_option maxRecDepth 100000 in
theorem d_118_25 : decode (mB 118) 25 = .ok (.putfield 16, 3) := by decide +kernel
set_option maxRecDepth 100000 in
theorem d_118_28 : decode (mB 118) 28 = .ok (.return_, 1) := by decide +kernel
set_option maxRecDepth 100000 in
theorem fl_2_19 : flP "WhistleStop$Backward" 19 2 2 := ⟨_, rfl, by decide, okk_w (k := 229) (by decide +kernel)⟩
set_option maxRecDepth 100000 in
theorem fl_2_23 : flP "WhistleStop$Backward" 23 2 3 := ⟨_, rfl, by decide, okk_w (k := 230) (by decide +kernel)⟩
set_option maxRecDepth 100000 in
theorem ck_2_26 : okw (.constant "WhistleStop$Backward" 26 (-1000000000)) := okk_w (k := 980) (by decide +kernel)
set_option maxRecDepth 100000 in
theorem c_119_27 : csP 119 27 216 2 := ⟨cd_216, okk_w (k := 981) (by decide +kernel), okk_w (k := 849) (by decide +kernel), by decide +kernel, by decide +kernel⟩
set_option maxRecDepth 100000 in
theorem c_119_33 : cvP 119 33 120 2 := ⟨cd_120, okk_w (k := 982) (by decide +kernel), okk_w (k := 984) (by decide +kernel), okk_w (k := 19) (by decide +kernel), by decide +kernel, by decide +kernel⟩
set_option maxRecDepth 100000 in
theorem c_119_37 : csP 119 37 215 2 := ⟨cd_215, okk_w (k := 995) (by decide +kernel), okk_w (k := 786) (by decide +kernel), by decide +kernel, by decide +kernel⟩
set_option maxRecDepth 100000 in
theorem c_119_49 : cvP 119 49 123 3 := ⟨cd_123, okk_w (k := 997) (by decide +kernel), okk_w (k := 999) (by decide +kernel), okk_w (k := 21) (by decide +kernel), by decide +kernel, by decide +kernel⟩
set_option maxRecDepth 100000 in
theorem d_119_0 : decode (mB 119) 0 = .ok (.aload_n 0, 1) := by decide +kernel
set_option maxRecDepth 100000 in
theorem d_119_1 : decode (mB 119) 1 = .ok (.iload_n 3, 1) := by decide +kernel
set_option maxRecDepth 100000 in
theorem d_119_2 : decode (mB 119) 2 = .ok (.putfield 19, 3) := by decide +kernel
set_option maxRecDepth 100000 in
theorem d_119_5 : decode (mB 119) 5 = .ok (.aload_n 0, 1) := by decide +kernel
set_option maxRecDepth 100000 in
theorem d_119_6 : decode (mB 119) 6 = .ok (.iload 4, 2) := by decide +kernel
set_option maxRecDepth 100000 in
theorem d_119_8 : decode (mB 119) 8 = .ok (.putfield 23, 3) := by decide +kernel
set_option maxRecDepth 100000 in
theorem d_119_11 : decode (mB 119) 11 = .ok (.aload_n 0, 1) := by decide +kernel
set_option maxRecDepth 100000 in
theorem d_119_12 : decode (mB 119) 12 = .ok (.getfield 11, 3) := by decide +kernel
set_option maxRecDepth 100000 in
theorem d_119_15 : decode (mB 119) 15 = .ok (.iconst 0, 1) := by decide +kernel
set_option maxRecDepth 100000 in
theorem d_119_16 : decode (mB 119) 16 = .ok (.aaload, 1) := by decide +kernel
set_option maxRecDepth 100000 in
theorem d_119_17 : decode (mB 119) 17 = .ok (.ldc 26, 2) := by decide +kernel
set_option maxRecDepth 100000 in
theorem d_119_19 : decode (mB 119) 19 = .ok (.invokestatic 27, 3) := by decide +kernel
set_option maxRecDepth 100000 in
theorem d_119_22 : decode (mB 119) 22 = .ok (.aload_n 0, 1) := by decide +kernel
set_option maxRecDepth 100000 in
theorem d_119_23 : decode (mB 119) 23 = .ok (.aload_n 1, 1) := by decide +kernel
set_option maxRecDepth 100000 in
theorem d_119_24 : decode (mB 119) 24 = .ok (.iconst 0, 1) := by decide +kernel
set_option maxRecDepth 100000 in
theorem d_119_25 : decode (mB 119) 25 = .ok (.invokevirtual 33, 3) := by decide +kernel
set_option maxRecDepth 100000 in
theorem d_119_28 : decode (mB 119) 28 = .ok (.iconst 1, 1) := by decide +kernel
set_option maxRecDepth 100000 in
theorem d_119_29 : decode (mB 119) 29 = .ok (.istore 6, 2) := by decide +kernel
set_option maxRecDepth 100000 in
theorem d_119_31 : decode (mB 119) 31 = .ok (.iconst 1, 1) := by decide +kernel
set_option maxRecDepth 100000 in
theorem d_119_32 : decode (mB 119) 32 = .ok (.istore 7, 2) := by decide +kernel
set_option maxRecDepth 100000 in
theorem d_119_34 : decode (mB 119) 34 = .ok (.iload 7, 2) := by decide +kernel
set_option maxRecDepth 100000 in
theorem d_119_36 : decode (mB 119) 36 = .ok (.iload 5, 2) := by decide +kernel
set_option maxRecDepth 100000 in
theorem d_119_38 : decode (mB 119) 38 = .ok (.bipush 6, 2) := by decide +kernel
set_option maxRecDepth 100000 in
theorem d_119_40 : decode (mB 119) 40 = .ok (.invokestatic 37, 3) := by decide +kernel
set_option maxRecDepth 100000 in
theorem d_119_43 : decode (mB 119) 43 = .ok (.if_icmp .gt 90, 3) := by decide +kernel
set_option maxRecDepth 100000 in
theorem d_119_46 : decode (mB 119) 46 = .ok (.aload_n 0, 1) := by decide +kernel
set_option maxRecDepth 100000 in
theorem d_119_47 : decode (mB 119) 47 = .ok (.getfield 11, 3) := by decide +kernel
set_option maxRecDepth 100000 in
theorem d_119_50 : decode (mB 119) 50 = .ok (.iload 7, 2) := by decide +kernel
set_option maxRecDepth 100000 in
theorem d_119_52 : decode (mB 119) 52 = .ok (.iconst 1, 1) := by decide +kernel
set_option maxRecDepth 100000 in
theorem d_119_53 : decode (mB 119) 53 = .ok (.isub, 1) := by decide +kernel
set_option maxRecDepth 100000 in
theorem d_119_54 : decode (mB 119) 54 = .ok (.aaload, 1) := by decide +kernel
set_option maxRecDepth 100000 in
theorem d_119_55 : decode (mB 119) 55 = .ok (.iconst 0, 1) := by decide +kernel
set_option maxRecDepth 100000 in
theorem d_119_56 : decode (mB 119) 56 = .ok (.aload_n 0, 1) := by decide +kernel
set_option maxRecDepth 100000 in
theorem d_119_57 : decode (mB 119) 57 = .ok (.getfield 11, 3) := by decide +kernel
set_option maxRecDepth 100000 in
theorem d_119_60 : decode (mB 119) 60 = .ok (.iload 7, 2) := by decide +kernel
set_option maxRecDepth 100000 in
theorem d_119_62 : decode (mB 119) 62 = .ok (.aaload, 1) := by decide +kernel
set_option maxRecDepth 100000 in
theorem d_119_63 : decode (mB 119) 63 = .ok (.iconst 0, 1) := by decide +kernel
set_option maxRecDepth 100000 in
theorem d_119_64 : decode (mB 119) 64 = .ok (.bipush 16, 2) := by decide +kernel
set_option maxRecDepth 100000 in
theorem d_119_66 : decode (mB 119) 66 = .ok (.invokestatic 43, 3) := by decide +kernel
set_option maxRecDepth 100000 in
theorem d_119_69 : decode (mB 119) 69 = .ok (.aload_n 0, 1) := by decide +kernel
set_option maxRecDepth 100000 in
theorem d_119_70 : decode (mB 119) 70 = .ok (.getfield 16, 3) := by decide +kernel
set_option maxRecDepth 100000 in
theorem d_119_73 : decode (mB 119) 73 = .ok (.iload 7, 2) := by decide +kernel
set_option maxRecDepth 100000 in
theorem d_119_75 : decode (mB 119) 75 = .ok (.iconst 1, 1) := by decide +kernel
set_option maxRecDepth 100000 in
theorem d_119_76 : decode (mB 119) 76 = .ok (.isub, 1) := by decide +kernel
set_option maxRecDepth 100000 in
theorem d_119_77 : decode (mB 119) 77 = .ok (.aaload, 1) := by decide +kernel
set_option maxRecDepth 100000 in
theorem d_119_78 : decode (mB 119) 78 = .ok (.iconst 0, 1) := by decide +kernel
set_option maxRecDepth 100000 in
theorem d_119_79 : decode (mB 119) 79 = .ok (.aload_n 0, 1) := by decide +kernel
set_option maxRecDepth 100000 in
theorem d_119_80 : decode (mB 119) 80 = .ok (.getfield 16, 3) := by decide +kernel
set_option maxRecDepth 100000 in
theorem d_119_83 : decode (mB 119) 83 = .ok (.iload 7, 2) := by decide +kernel
set_option maxRecDepth 100000 in
theorem d_119_85 : decode (mB 119) 85 = .ok (.aaload, 1) := by decide +kernel
set_option maxRecDepth 100000 in
theorem d_119_86 : decode (mB 119) 86 = .ok (.iconst 0, 1) := by decide +kernel
set_option maxRecDepth 100000 in
theorem d_119_87 : decode (mB 119) 87 = .ok (.bipush 16, 2) := by decide +kernel
set_option maxRecDepth 100000 in
theorem d_119_89 : decode (mB 119) 89 = .ok (.invokestatic 43, 3) := by decide +kernel
set_option maxRecDepth 100000 in
theorem d_119_92 : decode (mB 119) 92 = .ok (.iload 6, 2) := by decide +kernel
set_option maxRecDepth 100000 in
theorem d_119_94 : decode (mB 119) 94 = .ok (.ifCond .eq 33, 3) := by decide +kernel
set_option maxRecDepth 100000 in
theorem d_119_97 : decode (mB 119) 97 = .ok (.aload_n 0, 1) := by decide +kernel
set_option maxRecDepth 100000 in
theorem d_119_98 : decode (mB 119) 98 = .ok (.aload_n 2, 1) := by decide +kernel
set_option maxRecDepth 100000 in
theorem d_119_99 : decode (mB 119) 99 = .ok (.aload_n 0, 1) := by decide +kernel
set_option maxRecDepth 100000 in
theorem d_119_100 : decode (mB 119) 100 = .ok (.getfield 11, 3) := by decide +kernel
set_option maxRecDepth 100000 in
theorem d_119_103 : decode (mB 119) 103 = .ok (.iload 7, 2) := by decide +kernel
set_option maxRecDepth 100000 in
theorem d_119_105 : decode (mB 119) 105 = .ok (.aaload, 1) := by decide +kernel
set_option maxRecDepth 100000 in
theorem d_119_106 : decode (mB 119) 106 = .ok (.aload_n 0, 1) := by decide +kernel
set_option maxRecDepth 100000 in
theorem d_119_107 : decode (mB 119) 107 = .ok (.getfield 16, 3) := by decide +kernel
set_option maxRecDepth 100000 in
theorem d_119_110 : decode (mB 119) 110 = .ok (.iload 7, 2) := by decide +kernel
set_option maxRecDepth 100000 in
theorem d_119_112 : decode (mB 119) 112 = .ok (.iconst 1, 1) := by decide +kernel
set_option maxRecDepth 100000 in
theorem d_119_113 : decode (mB 119) 113 = .ok (.isub, 1) := by decide +kernel
set_option maxRecDepth 100000 in
theorem d_119_114 : decode (mB 119) 114 = .ok (.aaload, 1) := by decide +kernel
set_option maxRecDepth 100000 in
theorem d_119_115 : decode (mB 119) 115 = .ok (.invokevirtual 49, 3) := by decide +kernel
set_option maxRecDepth 100000 in
theorem d_119_118 : decode (mB 119) 118 = .ok (.istore 6, 2) := by decide +kernel
set_option maxRecDepth 100000 in
theorem d_119_120 : decode (mB 119) 120 = .ok (.aload_n 0, 1) := by decide +kernel
set_option maxRecDepth 100000 in
theorem d_119_121 : decode (mB 119) 121 = .ok (.aload_n 1, 1) := by decide +kernel
set_option maxRecDepth 100000 in
theorem d_119_122 : decode (mB 119) 122 = .ok (.iload 7, 2) := by decide +kernel
set_option maxRecDepth 100000 in
theorem d_119_124 : decode (mB 119) 124 = .ok (.invokevirtual 33, 3) := by decide +kernel
set_option maxRecDepth 100000 in
theorem d_119_127 : decode (mB 119) 127 = .ok (.iinc 7 1, 3) := by decide +kernel
set_option maxRecDepth 100000 in
theorem d_119_130 : decode (mB 119) 130 = .ok (.goto (-96), 3) := by decide +kernel
set_option maxRecDepth 100000 in
theorem d_119_133 : decode (mB 119) 133 = .ok (.return_, 1) := by decide +kernel
set_option maxRecDepth 100000 in
theorem fl_2_106 : flP "WhistleStop$Backward" 106 8 4 := ⟨_, rfl, by decide, okk_w (k := 118) (by decide +kernel)⟩
set_option maxRecDepth 100000 in
theorem fl_2_109 : flP "WhistleStop$Backward" 109 8 0 := ⟨_, rfl, by decide, okk_w (k := 104) (by decide +kernel)⟩
set_option maxRecDepth 100000 in
theorem fl_2_56 : flP "WhistleStop$Backward" 56 8 5 := ⟨_, rfl, by decide, okk_w (k := 120) (by decide +kernel)⟩
set_option maxRecDepth 100000 in
theorem fl_2_61 : flP "WhistleStop$Backward" 61 8 1 := ⟨_, rfl, by decide, okk_w (k := 107) (by decide +kernel)⟩
set_option maxRecDepth 100000 in
theorem fl_2_112 : flP "WhistleStop$Backward" 112 6 0 := ⟨_, rfl, by decide, okk_w (k := 586) (by decide +kernel)⟩
set_option maxRecDepth 100000 in
theorem fl_2_115 : flP "WhistleStop$Backward" 115 6 1 := ⟨_, rfl, by decide, okk_w (k := 589) (by decide +kernel)⟩
set_option maxRecDepth 100000 in
theorem fl_2_71 : flP "WhistleStop$Backward" 71 6 2 := ⟨_, rfl, by decide, okk_w (k := 592) (by decide +kernel)⟩
set_option maxRecDepth 100000 in
theorem c_120_118 : cvP 120 118 121 4 := ⟨cd_121, okk_w (k := 986) (by decide +kernel), okk_w (k := 988) (by decide +kernel), okk_w (k := 20) (by decide +kernel), by decide +kernel, by decide +kernel⟩
set_option maxRecDepth 100000 in
theorem d_120_0 : decode (mB 120) 0 = .ok (.iconst 0, 1) := by decide +kernel
set_option maxRecDepth 100000 in
theorem d_120_1 : decode (mB 120) 1 = .ok (.istore_n 3, 1) := by decide +kernel
set_option maxRecDepth 100000 in
theorem d_120_2 : decode (mB 120) 2 = .ok (.iload_n 3, 1) := by decide +kernel
set_option maxRecDepth 100000 in
theorem d_120_3 : decode (mB 120) 3 = .ok (.aload_n 1, 1) := by decide +kernel
set_option maxRecDepth 100000 in
theorem d_120_4 : decode (mB 120) 4 = .ok (.getfield 106, 3) := by decide +kernel
set_option maxRecDepth 100000 in
theorem d_120_7 : decode (mB 120) 7 = .ok (.if_icmp .ge 47, 3) := by decide +kernel
set_option maxRecDepth 100000 in
theorem d_120_10 : decode (mB 120) 10 = .ok (.aload_n 0, 1) := by decide +kernel
set_option maxRecDepth 100000 in
theorem d_120_11 : decode (mB 120) 11 = .ok (.getfield 16, 3) := by decide +kernel
set_option maxRecDepth 100000 in
theorem d_120_14 : decode (mB 120) 14 = .ok (.iload_n 2, 1) := by decide +kernel
set_option maxRecDepth 100000 in
theorem d_120_15 : decode (mB 120) 15 = .ok (.aaload, 1) := by decide +kernel
set_option maxRecDepth 100000 in
theorem d_120_16 : decode (mB 120) 16 = .ok (.iload_n 3, 1) := by decide +kernel
set_option maxRecDepth 100000 in
theorem d_120_17 : decode (mB 120) 17 = .ok (.iload_n 3, 1) := by decide +kernel
set_option maxRecDepth 100000 in
theorem d_120_18 : decode (mB 120) 18 = .ok (.aload_n 0, 1) := by decide +kernel
set_option maxRecDepth 100000 in
theorem d_120_19 : decode (mB 120) 19 = .ok (.getfield 19, 3) := by decide +kernel
set_option maxRecDepth 100000 in
theorem d_120_22 : decode (mB 120) 22 = .ok (.if_icmp .ne 10, 3) := by decide +kernel
set_option maxRecDepth 100000 in
theorem d_120_25 : decode (mB 120) 25 = .ok (.aload_n 0, 1) := by decide +kernel
set_option maxRecDepth 100000 in
theorem d_120_26 : decode (mB 120) 26 = .ok (.getfield 23, 3) := by decide +kernel
set_option maxRecDepth 100000 in
theorem d_120_29 : decode (mB 120) 29 = .ok (.goto 18, 3) := by decide +kernel
set_option maxRecDepth 100000 in
theorem d_120_32 : decode (mB 120) 32 = .ok (.aload_n 0, 1) := by decide +kernel
set_option maxRecDepth 100000 in
theorem d_120_33 : decode (mB 120) 33 = .ok (.getfield 11, 3) := by decide +kernel
set_option maxRecDepth 100000 in
theorem d_120_36 : decode (mB 120) 36 = .ok (.iload_n 2, 1) := by decide +kernel
set_option maxRecDepth 100000 in
theorem d_120_37 : decode (mB 120) 37 = .ok (.aaload, 1) := by decide +kernel
set_option maxRecDepth 100000 in
theorem d_120_38 : decode (mB 120) 38 = .ok (.iload_n 3, 1) := by decide +kernel
set_option maxRecDepth 100000 in
theorem d_120_39 : decode (mB 120) 39 = .ok (.iaload, 1) := by decide +kernel
set_option maxRecDepth 100000 in
theorem d_120_40 : decode (mB 120) 40 = .ok (.aload_n 1, 1) := by decide +kernel
set_option maxRecDepth 100000 in
theorem d_120_41 : decode (mB 120) 41 = .ok (.getfield 109, 3) := by decide +kernel
set_option maxRecDepth 100000 in
theorem d_120_44 : decode (mB 120) 44 = .ok (.iload_n 3, 1) := by decide +kernel
set_option maxRecDepth 100000 in
theorem d_120_45 : decode (mB 120) 45 = .ok (.iaload, 1) := by decide +kernel
set_option maxRecDepth 100000 in
theorem d_120_46 : decode (mB 120) 46 = .ok (.isub, 1) := by decide +kernel
set_option maxRecDepth 100000 in
theorem d_120_47 : decode (mB 120) 47 = .ok (.iastore, 1) := by decide +kernel
set_option maxRecDepth 100000 in
theorem d_120_48 : decode (mB 120) 48 = .ok (.iinc 3 1, 3) := by decide +kernel
set_option maxRecDepth 100000 in
theorem d_120_51 : decode (mB 120) 51 = .ok (.goto (-49), 3) := by decide +kernel
set_option maxRecDepth 100000 in
theorem d_120_54 : decode (mB 120) 54 = .ok (.iconst 0, 1) := by decide +kernel
set_option maxRecDepth 100000 in
theorem d_120_55 : decode (mB 120) 55 = .ok (.istore_n 3, 1) := by decide +kernel
set_option maxRecDepth 100000 in
theorem d_120_56 : decode (mB 120) 56 = .ok (.iload_n 3, 1) := by decide +kernel
set_option maxRecDepth 100000 in
theorem d_120_57 : decode (mB 120) 57 = .ok (.aload_n 1, 1) := by decide +kernel
set_option maxRecDepth 100000 in
theorem d_120_58 : decode (mB 120) 58 = .ok (.getfield 56, 3) := by decide +kernel
set_option maxRecDepth 100000 in
theorem d_120_61 : decode (mB 120) 61 = .ok (.if_icmp .ge 57, 3) := by decide +kernel
set_option maxRecDepth 100000 in
theorem d_120_64 : decode (mB 120) 64 = .ok (.aload_n 1, 1) := by decide +kernel
set_option maxRecDepth 100000 in
theorem d_120_65 : decode (mB 120) 65 = .ok (.getfield 61, 3) := by decide +kernel
set_option maxRecDepth 100000 in
theorem d_120_68 : decode (mB 120) 68 = .ok (.iload_n 3, 1) := by decide +kernel
set_option maxRecDepth 100000 in
theorem d_120_69 : decode (mB 120) 69 = .ok (.aaload, 1) := by decide +kernel
set_option maxRecDepth 100000 in
theorem d_120_70 : decode (mB 120) 70 = .ok (.astore 4, 2) := by decide +kernel
set_option maxRecDepth 100000 in
theorem d_120_72 : decode (mB 120) 72 = .ok (.aload_n 0, 1) := by decide +kernel
set_option maxRecDepth 100000 in
theorem d_120_73 : decode (mB 120) 73 = .ok (.iload_n 2, 1) := by decide +kernel
set_option maxRecDepth 100000 in
theorem d_120_74 : decode (mB 120) 74 = .ok (.aload 4, 2) := by decide +kernel
set_option maxRecDepth 100000 in
theorem d_120_76 : decode (mB 120) 76 = .ok (.getfield 112, 3) := by decide +kernel
set_option maxRecDepth 100000 in
theorem d_120_79 : decode (mB 120) 79 = .ok (.aload 4, 2) := by decide +kernel
set_option maxRecDepth 100000 in
theorem d_120_81 : decode (mB 120) 81 = .ok (.getfield 115, 3) := by decide +kernel
set_option maxRecDepth 100000 in
theorem d_120_84 : decode (mB 120) 84 = .ok (.aload 4, 2) := by decide +kernel
set_option maxRecDepth 100000 in
theorem d_120_86 : decode (mB 120) 86 = .ok (.getfield 71, 3) := by decide +kernel
set_option maxRecDepth 100000 in
theorem d_120_89 : decode (mB 120) 89 = .ok (.invokevirtual 118, 3) := by decide +kernel
set_option maxRecDepth 100000 in
theorem d_120_92 : decode (mB 120) 92 = .ok (.aload_n 0, 1) := by decide +kernel
set_option maxRecDepth 100000 in
theorem d_120_93 : decode (mB 120) 93 = .ok (.iload_n 2, 1) := by decide +kernel
set_option maxRecDepth 100000 in
theorem d_120_94 : decode (mB 120) 94 = .ok (.aload 4, 2) := by decide +kernel
set_option maxRecDepth 100000 in
theorem d_120_96 : decode (mB 120) 96 = .ok (.getfield 115, 3) := by decide +kernel
set_option maxRecDepth 100000 in
theorem d_120_99 : decode (mB 120) 99 = .ok (.aload 4, 2) := by decide +kernel
set_option maxRecDepth 100000 in
theorem d_120_101 : decode (mB 120) 101 = .ok (.getfield 112, 3) := by decide +kernel
set_option maxRecDepth 100000 in
theorem d_120_104 : decode (mB 120) 104 = .ok (.aload 4, 2) := by decide +kernel
set_option maxRecDepth 100000 in
theorem d_120_106 : decode (mB 120) 106 = .ok (.getfield 71, 3) := by decide +kernel
set_option maxRecDepth 100000 in
theorem d_120_109 : decode (mB 120) 109 = .ok (.invokevirtual 118, 3) := by decide +kernel
set_option maxRecDepth 100000 in
theorem d_120_112 : decode (mB 120) 112 = .ok (.iinc 3 1, 3) := by decide +kernel
set_option maxRecDepth 100000 in
theorem d_120_115 : decode (mB 120) 115 = .ok (.goto (-59), 3) := by decide +kernel
set_option maxRecDepth 100000 in
theorem d_120_118 : decode (mB 120) 118 = .ok (.return_, 1) := by decide +kernel
set_option maxRecDepth 100000 in
theorem c_121_53 : cvP 121 53 122 2 := ⟨cd_122, okk_w (k := 990) (by decide +kernel), okk_w (k := 991) (by decide +kernel), okk_w (k := 992) (by decide +kernel), by decide +kernel, by decide +kernel⟩
set_option maxRecDepth 100000 in
theorem c_121_74 : csP 121 74 214 2 := ⟨cd_214, okk_w (k := 994) (by decide +kernel), okk_w (k := 783) (by decide +kernel), by decide +kernel, by decide +kernel⟩
set_option maxRecDepth 100000 in
theorem d_121_0 : decode (mB 121) 0 = .ok (.aload_n 0, 1) := by decide +kernel
set_option maxRecDepth 100000 in
theorem d_121_1 : decode (mB 121) 1 = .ok (.getfield 16, 3) := by decide +kernel
set_option maxRecDepth 100000 in
theorem d_121_4 : decode (mB 121) 4 = .ok (.iload_n 1, 1) := by decide +kernel
set_option maxRecDepth 100000 in
theorem d_121_5 : decode (mB 121) 5 = .ok (.aaload, 1) := by decide +kernel
set_option maxRecDepth 100000 in
theorem d_121_6 : decode (mB 121) 6 = .ok (.iload_n 2, 1) := by decide +kernel
set_option maxRecDepth 100000 in
theorem d_121_7 : decode (mB 121) 7 = .ok (.aload_n 0, 1) := by decide +kernel
set_option maxRecDepth 100000 in
theorem d_121_8 : decode (mB 121) 8 = .ok (.getfield 16, 3) := by decide +kernel
set_option maxRecDepth 100000 in
theorem d_121_11 : decode (mB 121) 11 = .ok (.iload_n 1, 1) := by decide +kernel
set_option maxRecDepth 100000 in
theorem d_121_12 : decode (mB 121) 12 = .ok (.aaload, 1) := by decide +kernel
set_option maxRecDepth 100000 in
theorem d_121_13 : decode (mB 121) 13 = .ok (.iload_n 2, 1) := by decide +kernel
set_option maxRecDepth 100000 in
theorem d_121_14 : decode (mB 121) 14 = .ok (.iaload, 1) := by decide +kernel
set_option maxRecDepth 100000 in
theorem d_121_15 : decode (mB 121) 15 = .ok (.aload_n 0, 1) := by decide +kernel
set_option maxRecDepth 100000 in
theorem d_121_16 : decode (mB 121) 16 = .ok (.iload_n 3, 1) := by decide +kernel
set_option maxRecDepth 100000 in
theorem d_121_17 : decode (mB 121) 17 = .ok (.iload_n 1, 1) := by decide +kernel
set_option maxRecDepth 100000 in
theorem d_121_18 : decode (mB 121) 18 = .ok (.invokevirtual 53, 3) := by decide +kernel
set_option maxRecDepth 100000 in
theorem d_121_21 : decode (mB 121) 21 = .ok (.iload 4, 2) := by decide +kernel
set_option maxRecDepth 100000 in
theorem d_121_23 : decode (mB 121) 23 = .ok (.isub, 1) := by decide +kernel
set_option maxRecDepth 100000 in
theorem d_121_24 : decode (mB 121) 24 = .ok (.invokestatic 74, 3) := by decide +kernel
set_option maxRecDepth 100000 in
theorem d_121_27 : decode (mB 121) 27 = .ok (.iastore, 1) := by decide +kernel
set_option maxRecDepth 100000 in
theorem d_121_28 : decode (mB 121) 28 = .ok (.return_, 1) := by decide +kernel
set_option maxRecDepth 100000 in
theorem d_122_0 : decode (mB 122) 0 = .ok (.iload_n 1, 1) := by decide +kernel
set_option maxRecDepth 100000 in
theorem d_122_1 : decode (mB 122) 1 = .ok (.aload_n 0, 1) := by decide +kernel
set_option maxRecDepth 100000 in
theorem d_122_2 : decode (mB 122) 2 = .ok (.getfield 19, 3) := by decide +kernel
set_option maxRecDepth 100000 in
theorem d_122_5 : decode (mB 122) 5 = .ok (.if_icmp .ne 10, 3) := by decide +kernel
set_option maxRecDepth 100000 in
theorem d_122_8 : decode (mB 122) 8 = .ok (.aload_n 0, 1) := by decide +kernel
set_option maxRecDepth 100000 in
theorem d_122_9 : decode (mB 122) 9 = .ok (.getfield 23, 3) := by decide +kernel
set_option maxRecDepth 100000 in
theorem d_122_12 : decode (mB 122) 12 = .ok (.goto 11, 3) := by decide +kernel
set_option maxRecDepth 100000 in
theorem d_122_15 : decode (mB 122) 15 = .ok (.aload_n 0, 1) := by decide +kernel
set_option maxRecDepth 100000 in
theorem d_122_16 : decode (mB 122) 16 = .ok (.getfield 11, 3) := by decide +kernel
set_option maxRecDepth 100000 in
theorem d_122_19 : decode (mB 122) 19 = .ok (.iload_n 2, 1) := by decide +kernel
set_option maxRecDepth 100000 in
theorem d_122_20 : decode (mB 122) 20 = .ok (.aaload, 1) := by decide +kernel
set_option maxRecDepth 100000 in
theorem d_122_21 : decode (mB 122) 21 = .ok (.iload_n 1, 1) := by decide +kernel
set_option maxRecDepth 100000 in
theorem d_122_22 : decode (mB 122) 22 = .ok (.iaload, 1) := by decide +kernel
set_option maxRecDepth 100000 in
theorem d_122_23 : decode (mB 122) 23 = .ok (.ireturn, 1) := by decide +kernel
set_option maxRecDepth 100000 in
theorem fl_2_77 : flP "WhistleStop$Backward" 77 11 3 := ⟨_, rfl, by decide, okk_w (k := 171) (by decide +kernel)⟩
set_option maxRecDepth 100000 in
theorem fl_2_82 : flP "WhistleStop$Backward" 82 11 0 := ⟨_, rfl, by decide, okk_w (k := 156) (by decide +kernel)⟩
set_option maxRecDepth 100000 in
theorem fl_2_86 : flP "WhistleStop$Backward" 86 11 2 := ⟨_, rfl, by decide, okk_w (k := 165) (by decide +kernel)⟩
set_option maxRecDepth 100000 in
theorem c_123_90 : cvP 123 90 124 4 := ⟨cd_124, okk_w (k := 1001) (by decide +kernel), okk_w (k := 1003) (by decide +kernel), okk_w (k := 22) (by decide +kernel), by decide +kernel, by decide +kernel⟩
set_option maxRecDepth 100000 in
theorem d_123_0 : decode (mB 123) 0 = .ok (.iconst 0, 1) := by decide +kernel
set_option maxRecDepth 100000 in
theorem d_123_1 : decode (mB 123) 1 = .ok (.istore 4, 2) := by decide +kernel
set_option maxRecDepth 100000 in
theorem d_123_3 : decode (mB 123) 3 = .ok (.iconst 0, 1) := by decide +kernel
set_option maxRecDepth 100000 in
theorem d_123_4 : decode (mB 123) 4 = .ok (.istore 5, 2) := by decide +kernel
set_option maxRecDepth 100000 in
theorem d_123_6 : decode (mB 123) 6 = .ok (.iload 5, 2) := by decide +kernel
set_option maxRecDepth 100000 in
theorem d_123_8 : decode (mB 123) 8 = .ok (.aload_n 1, 1) := by decide +kernel
set_option maxRecDepth 100000 in
theorem d_123_9 : decode (mB 123) 9 = .ok (.getfield 77, 3) := by decide +kernel
set_option maxRecDepth 100000 in
theorem d_123_12 : decode (mB 123) 12 = .ok (.if_icmp .ge 44, 3) := by decide +kernel
set_option maxRecDepth 100000 in
theorem d_123_15 : decode (mB 123) 15 = .ok (.aload_n 0, 1) := by decide +kernel
set_option maxRecDepth 100000 in
theorem d_123_16 : decode (mB 123) 16 = .ok (.aload_n 1, 1) := by decide +kernel
set_option maxRecDepth 100000 in
theorem d_123_17 : decode (mB 123) 17 = .ok (.getfield 82, 3) := by decide +kernel
set_option maxRecDepth 100000 in
theorem d_123_20 : decode (mB 123) 20 = .ok (.iload 5, 2) := by decide +kernel
set_option maxRecDepth 100000 in
theorem d_123_22 : decode (mB 123) 22 = .ok (.aaload, 1) := by decide +kernel
set_option maxRecDepth 100000 in
theorem d_123_23 : decode (mB 123) 23 = .ok (.aload_n 1, 1) := by decide +kernel
set_option maxRecDepth 100000 in
theorem d_123_24 : decode (mB 123) 24 = .ok (.getfield 86, 3) := by decide +kernel
set_option maxRecDepth 100000 in
theorem d_123_27 : decode (mB 123) 27 = .ok (.iload 5, 2) := by decide +kernel
set_option maxRecDepth 100000 in
theorem d_123_29 : decode (mB 123) 29 = .ok (.iaload, 1) := by decide +kernel
set_option maxRecDepth 100000 in
theorem d_123_30 : decode (mB 123) 30 = .ok (.aload_n 2, 1) := by decide +kernel
set_option maxRecDepth 100000 in
theorem d_123_31 : decode (mB 123) 31 = .ok (.aload_n 3, 1) := by decide +kernel
set_option maxRecDepth 100000 in
theorem d_123_32 : decode (mB 123) 32 = .ok (.invokevirtual 90, 3) := by decide +kernel
set_option maxRecDepth 100000 in
theorem d_123_35 : decode (mB 123) 35 = .ok (.ifCond .ne 8, 3) := by decide +kernel
set_option maxRecDepth 100000 in
theorem d_123_38 : decode (mB 123) 38 = .ok (.iload 4, 2) := by decide +kernel
set_option maxRecDepth 100000 in
theorem d_123_40 : decode (mB 123) 40 = .ok (.ifCond .eq 7, 3) := by decide +kernel
set_option maxRecDepth 100000 in
theorem d_123_43 : decode (mB 123) 43 = .ok (.iconst 1, 1) := by decide +kernel
set_option maxRecDepth 100000 in
theorem d_123_44 : decode (mB 123) 44 = .ok (.goto 4, 3) := by decide +kernel
set_option maxRecDepth 100000 in
theorem d_123_47 : decode (mB 123) 47 = .ok (.iconst 0, 1) := by decide +kernel
set_option maxRecDepth 100000 in
theorem d_123_48 : decode (mB 123) 48 = .ok (.istore 4, 2) := by decide +kernel
set_option maxRecDepth 100000 in
theorem d_123_50 : decode (mB 123) 50 = .ok (.iinc 5 1, 3) := by decide +kernel
set_option maxRecDepth 100000 in
theorem d_123_53 : decode (mB 123) 53 = .ok (.goto (-47), 3) := by decide +kernel
set_option maxRecDepth 100000 in
theorem d_123_56 : decode (mB 123) 56 = .ok (.iload 4, 2) := by decide +kernel
set_option maxRecDepth 100000 in
theorem d_123_58 : decode (mB 123) 58 = .ok (.ireturn, 1) := by decide +kernel
set_option maxRecDepth 100000 in
theorem fl_2_94 : flP "WhistleStop$Backward" 94 12 7 := ⟨_, rfl, by decide, okk_w (k := 692) (by decide +kernel)⟩
set_option maxRecDepth 100000 in
theorem fl_2_97 : flP "WhistleStop$Backward" 97 12 3 := ⟨_, rfl, by decide, okk_w (k := 670) (by decide +kernel)⟩
set_option maxRecDepth 100000 in
theorem fl_2_100 : flP "WhistleStop$Backward" 100 12 5 := ⟨_, rfl, by decide, okk_w (k := 683) (by decide +kernel)⟩
set_option maxRecDepth 100000 in
theorem fl_2_103 : flP "WhistleStop$Backward" 103 12 4 := ⟨_, rfl, by decide, okk_w (k := 676) (by decide +kernel)⟩
set_option maxRecDepth 100000 in
theorem d_124_0 : decode (mB 124) 0 = .ok (.iconst 0, 1) := by decide +kernel
set_option maxRecDepth 100000 in
theorem d_124_1 : decode (mB 124) 1 = .ok (.istore 5, 2) := by decide +kernel
set_option maxRecDepth 100000 in
theorem d_124_3 : decode (mB 124) 3 = .ok (.iconst 0, 1) := by decide +kernel
set_option maxRecDepth 100000 in
theorem d_124_4 : decode (mB 124) 4 = .ok (.istore 6, 2) := by decide +kernel
set_option maxRecDepth 100000 in
theorem d_124_6 : decode (mB 124) 6 = .ok (.aload_n 1, 1) := by decide +kernel
set_option maxRecDepth 100000 in
theorem d_124_7 : decode (mB 124) 7 = .ok (.getfield 94, 3) := by decide +kernel
set_option maxRecDepth 100000 in
theorem d_124_10 : decode (mB 124) 10 = .ok (.iconst 1, 1) := by decide +kernel
set_option maxRecDepth 100000 in
theorem d_124_11 : decode (mB 124) 11 = .ok (.isub, 1) := by decide +kernel
set_option maxRecDepth 100000 in
theorem d_124_12 : decode (mB 124) 12 = .ok (.istore 7, 2) := by decide +kernel
set_option maxRecDepth 100000 in
theorem d_124_14 : decode (mB 124) 14 = .ok (.iload 7, 2) := by decide +kernel
set_option maxRecDepth 100000 in
theorem d_124_16 : decode (mB 124) 16 = .ok (.ifCond .lt 81, 3) := by decide +kernel
set_option maxRecDepth 100000 in
theorem d_124_19 : decode (mB 124) 19 = .ok (.aload_n 1, 1) := by decide +kernel
set_option maxRecDepth 100000 in
theorem d_124_20 : decode (mB 124) 20 = .ok (.getfield 97, 3) := by decide +kernel
set_option maxRecDepth 100000 in
theorem d_124_23 : decode (mB 124) 23 = .ok (.iload 7, 2) := by decide +kernel
set_option maxRecDepth 100000 in
theorem d_124_25 : decode (mB 124) 25 = .ok (.iaload, 1) := by decide +kernel
set_option maxRecDepth 100000 in
theorem d_124_26 : decode (mB 124) 26 = .ok (.istore 8, 2) := by decide +kernel
set_option maxRecDepth 100000 in
theorem d_124_28 : decode (mB 124) 28 = .ok (.iload_n 2, 1) := by decide +kernel
set_option maxRecDepth 100000 in
theorem d_124_29 : decode (mB 124) 29 = .ok (.aload_n 1, 1) := by decide +kernel
set_option maxRecDepth 100000 in
theorem d_124_30 : decode (mB 124) 30 = .ok (.getfield 100, 3) := by decide +kernel
set_option maxRecDepth 100000 in
theorem d_124_33 : decode (mB 124) 33 = .ok (.iload 7, 2) := by decide +kernel
set_option maxRecDepth 100000 in
theorem d_124_35 : decode (mB 124) 35 = .ok (.iaload, 1) := by decide +kernel
set_option maxRecDepth 100000 in
theorem d_124_36 : decode (mB 124) 36 = .ok (.iadd, 1) := by decide +kernel
set_option maxRecDepth 100000 in
theorem d_124_37 : decode (mB 124) 37 = .ok (.istore 9, 2) := by decide +kernel
set_option maxRecDepth 100000 in
theorem d_124_39 : decode (mB 124) 39 = .ok (.iload 6, 2) := by decide +kernel
set_option maxRecDepth 100000 in
theorem d_124_41 : decode (mB 124) 41 = .ok (.ifCond .eq 21, 3) := by decide +kernel
set_option maxRecDepth 100000 in
theorem d_124_44 : decode (mB 124) 44 = .ok (.iload 9, 2) := by decide +kernel
set_option maxRecDepth 100000 in
theorem d_124_46 : decode (mB 124) 46 = .ok (.aload_n 3, 1) := by decide +kernel
set_option maxRecDepth 100000 in
theorem d_124_47 : decode (mB 124) 47 = .ok (.iload 8, 2) := by decide +kernel
set_option maxRecDepth 100000 in
theorem d_124_49 : decode (mB 124) 49 = .ok (.iaload, 1) := by decide +kernel
set_option maxRecDepth 100000 in
theorem d_124_50 : decode (mB 124) 50 = .ok (.if_icmp .le 12, 3) := by decide +kernel
set_option maxRecDepth 100000 in
theorem d_124_53 : decode (mB 124) 53 = .ok (.aload_n 3, 1) := by decide +kernel
set_option maxRecDepth 100000 in
theorem d_124_54 : decode (mB 124) 54 = .ok (.iload 8, 2) := by decide +kernel
set_option maxRecDepth 100000 in
theorem d_124_56 : decode (mB 124) 56 = .ok (.iload 9, 2) := by decide +kernel
set_option maxRecDepth 100000 in
theorem d_124_58 : decode (mB 124) 58 = .ok (.iastore, 1) := by decide +kernel
set_option maxRecDepth 100000 in
theorem d_124_59 : decode (mB 124) 59 = .ok (.iconst 1, 1) := by decide +kernel
set_option maxRecDepth 100000 in
theorem d_124_60 : decode (mB 124) 60 = .ok (.istore 5, 2) := by decide +kernel
set_option maxRecDepth 100000 in
theorem d_124_62 : decode (mB 124) 62 = .ok (.iload 6, 2) := by decide +kernel
set_option maxRecDepth 100000 in
theorem d_124_64 : decode (mB 124) 64 = .ok (.ifCond .ne 20, 3) := by decide +kernel
set_option maxRecDepth 100000 in
theorem d_124_67 : decode (mB 124) 67 = .ok (.iload_n 2, 1) := by decide +kernel
set_option maxRecDepth 100000 in
theorem d_124_68 : decode (mB 124) 68 = .ok (.aload_n 1, 1) := by decide +kernel
set_option maxRecDepth 100000 in
theorem d_124_69 : decode (mB 124) 69 = .ok (.getfield 103, 3) := by decide +kernel
set_option maxRecDepth 100000 in
theorem d_124_72 : decode (mB 124) 72 = .ok (.iload 7, 2) := by decide +kernel
set_option maxRecDepth 100000 in
theorem d_124_74 : decode (mB 124) 74 = .ok (.iaload, 1) := by decide +kernel
set_option maxRecDepth 100000 in
theorem d_124_75 : decode (mB 124) 75 = .ok (.iadd, 1) := by decide +kernel
set_option maxRecDepth 100000 in
theorem d_124_76 : decode (mB 124) 76 = .ok (.aload 4, 2) := by decide +kernel
set_option maxRecDepth 100000 in
theorem d_124_78 : decode (mB 124) 78 = .ok (.iload 8, 2) := by decide +kernel
set_option maxRecDepth 100000 in
theorem d_124_80 : decode (mB 124) 80 = .ok (.iaload, 1) := by decide +kernel
set_option maxRecDepth 100000 in
theorem d_124_81 : decode (mB 124) 81 = .ok (.if_icmp .gt 7, 3) := by decide +kernel
set_option maxRecDepth 100000 in
theorem d_124_84 : decode (mB 124) 84 = .ok (.iconst 1, 1) := by decide +kernel
set_option maxRecDepth 100000 in
theorem d_124_85 : decode (mB 124) 85 = .ok (.goto 4, 3) := by decide +kernel
set_option maxRecDepth 100000 in
theorem d_124_88 : decode (mB 124) 88 = .ok (.iconst 0, 1) := by decide +kernel
set_option maxRecDepth 100000 in
theorem d_124_89 : decode (mB 124) 89 = .ok (.istore 6, 2) := by decide +kernel
set_option maxRecDepth 100000 in
theorem d_124_91 : decode (mB 124) 91 = .ok (.iinc 7 (-1), 3) := by decide +kernel
set_option maxRecDepth 100000 in
theorem d_124_94 : decode (mB 124) 94 = .ok (.goto (-80), 3) := by decide +kernel
set_option maxRecDepth 100000 in
theorem d_124_97 : decode (mB 124) 97 = .ok (.iload 5, 2) := by decide +kernel
set_option maxRecDepth 100000 in
theorem d_124_99 : decode (mB 124) 99 = .ok (.ireturn, 1) := by decide +kernel
set_option maxRecDepth 100000 in
theorem c_125_53 : cvP 125 53 122 2 := ⟨cd_122, okk_w (k := 990) (by decide +kernel), okk_w (k := 991) (by decide +kernel), okk_w (k := 992) (by decide +kernel), by decide +kernel, by decide +kernel⟩
set_option maxRecDepth 100000 in
theorem c_125_65 : cvP 125 65 140 1 := ⟨cd_140, okk_w (k := 1009) (by decide +kernel), okk_w (k := 948) (by decide +kernel), okk_w (k := 949) (by decide +kernel), by decide +kernel, by decide +kernel⟩
set_option maxRecDepth 100000 in
theorem c_125_74 : csP 125 74 214 2 := ⟨cd_214, okk_w (k := 994) (by decide +kernel), okk_w (k := 783) (by decide +kernel), by decide +kernel, by decide +kernel⟩
set_option maxRecDepth 100000 in
theorem d_125_0 : decode (mB 125) 0 = .ok (.aload_n 0, 1) := by decide +kernel
set_option maxRecDepth 100000 in
theorem d_125_1 : decode (mB 125) 1 = .ok (.iload_n 2, 1) := by decide +kernel
set_option maxRecDepth 100000 in
theorem d_125_2 : decode (mB 125) 2 = .ok (.iload_n 3, 1) := by decide +kernel
set_option maxRecDepth 100000 in
theorem d_125_3 : decode (mB 125) 3 = .ok (.invokevirtual 53, 3) := by decide +kernel
set_option maxRecDepth 100000 in
theorem d_125_6 : decode (mB 125) 6 = .ok (.istore 4, 2) := by decide +kernel
set_option maxRecDepth 100000 in
theorem d_125_8 : decode (mB 125) 8 = .ok (.iconst 0, 1) := by decide +kernel
set_option maxRecDepth 100000 in
theorem d_125_9 : decode (mB 125) 9 = .ok (.istore 5, 2) := by decide +kernel
set_option maxRecDepth 100000 in
theorem d_125_11 : decode (mB 125) 11 = .ok (.iload 5, 2) := by decide +kernel
set_option maxRecDepth 100000 in
theorem d_125_13 : decode (mB 125) 13 = .ok (.aload_n 1, 1) := by decide +kernel
set_option maxRecDepth 100000 in
theorem d_125_14 : decode (mB 125) 14 = .ok (.getfield 56, 3) := by decide +kernel
set_option maxRecDepth 100000 in
theorem d_125_17 : decode (mB 125) 17 = .ok (.if_icmp .ge 52, 3) := by decide +kernel
set_option maxRecDepth 100000 in
theorem d_125_20 : decode (mB 125) 20 = .ok (.aload_n 1, 1) := by decide +kernel
set_option maxRecDepth 100000 in
theorem d_125_21 : decode (mB 125) 21 = .ok (.getfield 61, 3) := by decide +kernel
set_option maxRecDepth 100000 in
theorem d_125_24 : decode (mB 125) 24 = .ok (.iload 5, 2) := by decide +kernel
set_option maxRecDepth 100000 in
theorem d_125_26 : decode (mB 125) 26 = .ok (.aaload, 1) := by decide +kernel
set_option maxRecDepth 100000 in
theorem d_125_27 : decode (mB 125) 27 = .ok (.astore 6, 2) := by decide +kernel
set_option maxRecDepth 100000 in
theorem d_125_29 : decode (mB 125) 29 = .ok (.aload 6, 2) := by decide +kernel
set_option maxRecDepth 100000 in
theorem d_125_31 : decode (mB 125) 31 = .ok (.iload_n 2, 1) := by decide +kernel
set_option maxRecDepth 100000 in
theorem d_125_32 : decode (mB 125) 32 = .ok (.invokevirtual 65, 3) := by decide +kernel
set_option maxRecDepth 100000 in
theorem d_125_35 : decode (mB 125) 35 = .ok (.istore 7, 2) := by decide +kernel
set_option maxRecDepth 100000 in
theorem d_125_37 : decode (mB 125) 37 = .ok (.iload 7, 2) := by decide +kernel
set_option maxRecDepth 100000 in
theorem d_125_39 : decode (mB 125) 39 = .ok (.iconst (-1), 1) := by decide +kernel
set_option maxRecDepth 100000 in
theorem d_125_40 : decode (mB 125) 40 = .ok (.if_icmp .eq 23, 3) := by decide +kernel
set_option maxRecDepth 100000 in
theorem d_125_43 : decode (mB 125) 43 = .ok (.iload 4, 2) := by decide +kernel
set_option maxRecDepth 100000 in
theorem d_125_45 : decode (mB 125) 45 = .ok (.aload_n 0, 1) := by decide +kernel
set_option maxRecDepth 100000 in
theorem d_125_46 : decode (mB 125) 46 = .ok (.iload 7, 2) := by decide +kernel
set_option maxRecDepth 100000 in
theorem d_125_48 : decode (mB 125) 48 = .ok (.iload_n 3, 1) := by decide +kernel
set_option maxRecDepth 100000 in
theorem d_125_49 : decode (mB 125) 49 = .ok (.invokevirtual 53, 3) := by decide +kernel
set_option maxRecDepth 100000 in
theorem d_125_52 : decode (mB 125) 52 = .ok (.aload 6, 2) := by decide +kernel
set_option maxRecDepth 100000 in
theorem d_125_54 : decode (mB 125) 54 = .ok (.getfield 71, 3) := by decide +kernel
set_option maxRecDepth 100000 in
theorem d_125_57 : decode (mB 125) 57 = .ok (.isub, 1) := by decide +kernel
set_option maxRecDepth 100000 in
theorem d_125_58 : decode (mB 125) 58 = .ok (.invokestatic 74, 3) := by decide +kernel
set_option maxRecDepth 100000 in
theorem d_125_61 : decode (mB 125) 61 = .ok (.istore 4, 2) := by decide +kernel
set_option maxRecDepth 100000 in
theorem d_125_63 : decode (mB 125) 63 = .ok (.iinc 5 1, 3) := by decide +kernel
set_option maxRecDepth 100000 in
theorem d_125_66 : decode (mB 125) 66 = .ok (.goto (-55), 3) := by decide +kernel
set_option maxRecDepth 100000 in
theorem d_125_69 : decode (mB 125) 69 = .ok (.iload 4, 2) := by decide +kernel
set_option maxRecDepth 100000 in
theorem d_125_71 : decode (mB 125) 71 = .ok (.ireturn, 1) := by decide +kernel
set_option maxRecDepth 100000 in
theorem oi_3 : okw (.methodLink "WhistleStop$Board" 3 Lib.objectInit) := okk_w (k := 188) (by decide +kernel)
set_option maxRecDepth 100000 in
theorem fl_3_9 : flP "WhistleStop$Board" 9 3 0 := ⟨_, rfl, by decide, okk_w (k := 189) (by decide +kernel)⟩
set_option maxRecDepth 100000 in
theorem d_126_0 : decode (mB 126) 0 = .ok (.aload_n 0, 1) := by decide +kernel
set_option maxRecDepth 100000 in
theorem d_126_1 : decode (mB 126) 1 = .ok (.invokespecial 3, 3) := by decide +kernel
set_option maxRecDepth 100000 in
theorem d_126_4 : decode (mB 126) 4 = .ok (.aload_n 0, 1) := by decide +kernel
set_option maxRecDepth 100000 in
theorem d_126_5 : decode (mB 126) 5 = .ok (.sipush 1344, 3) := by decide +kernel
set_option maxRecDepth 100000 in
theorem d_126_8 : decode (mB 126) 8 = .ok (.newarray .long, 2) := by decide +kernel
set_option maxRecDepth 100000 in
theorem d_126_10 : decode (mB 126) 10 = .ok (.putfield 9, 3) := by decide +kernel
set_option maxRecDepth 100000 in
theorem d_126_13 : decode (mB 126) 13 = .ok (.return_, 1) := by decide +kernel
set_option maxRecDepth 100000 in
theorem c_131_25 : csnP 131 25 10 1 := ⟨cd_10, ⟨"WhistleStop", okk_w (k := 492) (by decide +kernel)⟩, okk_w (k := 483) (by decide +kernel), by decide +kernel, by decide +kernel⟩
set_option maxRecDepth 100000 in
theorem fl_4_9 : flP "WhistleStop$Calendar" 9 4 3 := ⟨_, rfl, by decide, okk_w (k := 620) (by decide +kernel)⟩
set_option maxRecDepth 100000 in
theorem fl_4_19 : flP "WhistleStop$Calendar" 19 4 1 := ⟨_, rfl, by decide, okk_w (k := 618) (by decide +kernel)⟩
set_option maxRecDepth 100000 in
theorem fl_4_22 : flP "WhistleStop$Calendar" 22 4 2 := ⟨_, rfl, by decide, okk_w (k := 619) (by decide +kernel)⟩
set_option maxRecDepth 100000 in
theorem c_131_29 : csnP 131 29 11 3 := ⟨cd_11, ⟨"WhistleStop", okk_w (k := 493) (by decide +kernel)⟩, okk_w (k := 486) (by decide +kernel), by decide +kernel, by decide +kernel⟩
set_option maxRecDepth 100000 in
theorem fl_4_15 : flP "WhistleStop$Calendar" 15 4 0 := ⟨_, rfl, by decide, okk_w (k := 617) (by decide +kernel)⟩
set_option maxRecDepth 100000 in
theorem d_131_0 : decode (mB 131) 0 = .ok (.iload_n 1, 1) := by decide +kernel
set_option maxRecDepth 100000 in
theorem d_131_1 : decode (mB 131) 1 = .ok (.invokestatic 25, 3) := by decide +kernel
set_option maxRecDepth 100000 in
theorem d_131_4 : decode (mB 131) 4 = .ok (.ifCond .ne 5, 3) := by decide +kernel
set_option maxRecDepth 100000 in
theorem d_131_7 : decode (mB 131) 7 = .ok (.iconst 0, 1) := by decide +kernel
set_option maxRecDepth 100000 in
theorem d_131_8 : decode (mB 131) 8 = .ok (.ireturn, 1) := by decide +kernel
set_option maxRecDepth 100000 in
theorem d_131_9 : decode (mB 131) 9 = .ok (.aload_n 0, 1) := by decide +kernel
set_option maxRecDepth 100000 in
theorem d_131_10 : decode (mB 131) 10 = .ok (.getfield 9, 3) := by decide +kernel
set_option maxRecDepth 100000 in
theorem d_131_13 : decode (mB 131) 13 = .ok (.iload_n 1, 1) := by decide +kernel
set_option maxRecDepth 100000 in
theorem d_131_14 : decode (mB 131) 14 = .ok (.iaload, 1) := by decide +kernel
set_option maxRecDepth 100000 in
theorem d_131_15 : decode (mB 131) 15 = .ok (.ifCond .eq 19, 3) := by decide +kernel
set_option maxRecDepth 100000 in
theorem d_131_18 : decode (mB 131) 18 = .ok (.aload_n 0, 1) := by decide +kernel
set_option maxRecDepth 100000 in
theorem d_131_19 : decode (mB 131) 19 = .ok (.getfield 9, 3) := by decide +kernel
set_option maxRecDepth 100000 in
theorem d_131_22 : decode (mB 131) 22 = .ok (.iload_n 1, 1) := by decide +kernel
set_option maxRecDepth 100000 in
theorem d_131_23 : decode (mB 131) 23 = .ok (.iaload, 1) := by decide +kernel
set_option maxRecDepth 100000 in
theorem d_131_24 : decode (mB 131) 24 = .ok (.iconst 1, 1) := by decide +kernel
set_option maxRecDepth 100000 in
theorem d_131_25 : decode (mB 131) 25 = .ok (.if_icmp .ne 7, 3) := by decide +kernel
set_option maxRecDepth 100000 in
theorem d_131_28 : decode (mB 131) 28 = .ok (.iconst 1, 1) := by decide +kernel
set_option maxRecDepth 100000 in
theorem d_131_29 : decode (mB 131) 29 = .ok (.goto 4, 3) := by decide +kernel
set_option maxRecDepth 100000 in
theorem d_131_32 : decode (mB 131) 32 = .ok (.iconst 0, 1) := by decide +kernel
set_option maxRecDepth 100000 in
theorem d_131_33 : decode (mB 131) 33 = .ok (.ireturn, 1) := by decide +kernel
set_option maxRecDepth 100000 in
theorem d_131_34 : decode (mB 131) 34 = .ok (.iload_n 1, 1) := by decide +kernel
set_option maxRecDepth 100000 in
theorem d_131_35 : decode (mB 131) 35 = .ok (.aload_n 0, 1) := by decide +kernel
set_option maxRecDepth 100000 in
theorem d_131_36 : decode (mB 131) 36 = .ok (.getfield 19, 3) := by decide +kernel
set_option maxRecDepth 100000 in
theorem d_131_39 : decode (mB 131) 39 = .ok (.aload_n 0, 1) := by decide +kernel
set_option maxRecDepth 100000 in
theorem d_131_40 : decode (mB 131) 40 = .ok (.getfield 22, 3) := by decide +kernel
set_option maxRecDepth 100000 in
theorem d_131_43 : decode (mB 131) 43 = .ok (.invokestatic 29, 3) := by decide +kernel
set_option maxRecDepth 100000 in
theorem d_131_46 : decode (mB 131) 46 = .ok (.ifCond .eq 22, 3) := by decide +kernel
set_option maxRecDepth 100000 in
theorem d_131_49 : decode (mB 131) 49 = .ok (.aload_n 0, 1) := by decide +kernel
set_option maxRecDepth 100000 in
theorem d_131_50 : decode (mB 131) 50 = .ok (.getfield 15, 3) := by decide +kernel
set_option maxRecDepth 100000 in
theorem d_131_53 : decode (mB 131) 53 = .ok (.iload_n 1, 1) := by decide +kernel
set_option maxRecDepth 100000 in
theorem d_131_54 : decode (mB 131) 54 = .ok (.bipush 7, 2) := by decide +kernel
set_option maxRecDepth 100000 in
theorem d_131_56 : decode (mB 131) 56 = .ok (.irem, 1) := by decide +kernel
set_option maxRecDepth 100000 in
theorem d_131_57 : decode (mB 131) 57 = .ok (.ishr, 1) := by decide +kernel
set_option maxRecDepth 100000 in
theorem d_131_58 : decode (mB 131) 58 = .ok (.iconst 1, 1) := by decide +kernel
set_option maxRecDepth 100000 in
theorem d_131_59 : decode (mB 131) 59 = .ok (.iand, 1) := by decide +kernel
set_option maxRecDepth 100000 in
theorem d_131_60 : decode (mB 131) 60 = .ok (.iconst 1, 1) := by decide +kernel
set_option maxRecDepth 100000 in
theorem d_131_61 : decode (mB 131) 61 = .ok (.if_icmp .ne 7, 3) := by decide +kernel
set_option maxRecDepth 100000 in
theorem d_131_64 : decode (mB 131) 64 = .ok (.iconst 1, 1) := by decide +kernel
set_option maxRecDepth 100000 in
theorem d_131_65 : decode (mB 131) 65 = .ok (.goto 4, 3) := by decide +kernel
set_option maxRecDepth 100000 in
theorem d_131_68 : decode (mB 131) 68 = .ok (.iconst 0, 1) := by decide +kernel
set_option maxRecDepth 100000 in
theorem d_131_69 : decode (mB 131) 69 = .ok (.ireturn, 1) := by decide +kernel
set_option maxRecDepth 100000 in
theorem oi_5 : okw (.methodLink "WhistleStop$Fares" 3 Lib.objectInit) := okk_w (k := 245) (by decide +kernel)
set_option maxRecDepth 100000 in
theorem cl_5_9 : okw (.classLink "WhistleStop$Fares" 9 "WhistleStop$Offers") := okk_w (k := 246) (by decide +kernel)
set_option maxRecDepth 100000 in
theorem fl_5_11 : flP "WhistleStop$Fares" 11 5 0 := ⟨_, rfl, by decide, okk_w (k := 264) (by decide +kernel)⟩
set_option maxRecDepth 100000 in
theorem fl_5_17 : flP "WhistleStop$Fares" 17 5 1 := ⟨_, rfl, by decide, okk_w (k := 265) (by decide +kernel)⟩
set_option maxRecDepth 100000 in
theorem c_133_20 : cinP 133 20 157 0 := ⟨cd_157, ⟨"WhistleStop", okk_w (k := 249) (by decide +kernel)⟩, okk_w (k := 250) (by decide +kernel), by decide +kernel, by decide +kernel, by decide +kernel⟩
set_option maxRecDepth 100000 in
theorem d_133_0 : decode (mB 133) 0 = .ok (.aload_n 0, 1) := by decide +kernel
set_option maxRecDepth 100000 in
theorem d_133_1 : decode (mB 133) 1 = .ok (.invokespecial 3, 3) := by decide +kernel
set_option maxRecDepth 100000 in
theorem d_133_4 : decode (mB 133) 4 = .ok (.aload_n 0, 1) := by decide +kernel
set_option maxRecDepth 100000 in
theorem d_133_5 : decode (mB 133) 5 = .ok (.bipush 16, 2) := by decide +kernel
set_option maxRecDepth 100000 in
theorem d_133_7 : decode (mB 133) 7 = .ok (.anewarray 9, 3) := by decide +kernel
set_option maxRecDepth 100000 in
theorem d_133_10 : decode (mB 133) 10 = .ok (.putfield 11, 3) := by decide +kernel
set_option maxRecDepth 100000 in
theorem d_133_13 : decode (mB 133) 13 = .ok (.aload_n 0, 1) := by decide +kernel
set_option maxRecDepth 100000 in
theorem d_133_14 : decode (mB 133) 14 = .ok (.bipush 16, 2) := by decide +kernel
set_option maxRecDepth 100000 in
theorem d_133_16 : decode (mB 133) 16 = .ok (.anewarray 9, 3) := by decide +kernel
set_option maxRecDepth 100000 in
theorem d_133_19 : decode (mB 133) 19 = .ok (.putfield 17, 3) := by decide +kernel
set_option maxRecDepth 100000 in
theorem d_133_22 : decode (mB 133) 22 = .ok (.iconst 0, 1) := by decide +kernel
set_option maxRecDepth 100000 in
theorem d_133_23 : decode (mB 133) 23 = .ok (.istore_n 1, 1) := by decide +kernel
set_option maxRecDepth 100000 in
theorem d_133_24 : decode (mB 133) 24 = .ok (.iload_n 1, 1) := by decide +kernel
set_option maxRecDepth 100000 in
theorem d_133_25 : decode (mB 133) 25 = .ok (.bipush 16, 2) := by decide +kernel
set_option maxRecDepth 100000 in
theorem d_133_27 : decode (mB 133) 27 = .ok (.if_icmp .ge 35, 3) := by decide +kernel
set_option maxRecDepth 100000 in
theorem d_133_30 : decode (mB 133) 30 = .ok (.aload_n 0, 1) := by decide +kernel
set_option maxRecDepth 100000 in
theorem d_133_31 : decode (mB 133) 31 = .ok (.getfield 11, 3) := by decide +kernel
set_option maxRecDepth 100000 in
theorem d_133_34 : decode (mB 133) 34 = .ok (.iload_n 1, 1) := by decide +kernel
set_option maxRecDepth 100000 in
theorem d_133_35 : decode (mB 133) 35 = .ok (.new 9, 3) := by decide +kernel
set_option maxRecDepth 100000 in
theorem d_133_38 : decode (mB 133) 38 = .ok (.dup, 1) := by decide +kernel
set_option maxRecDepth 100000 in
theorem d_133_39 : decode (mB 133) 39 = .ok (.invokespecial 20, 3) := by decide +kernel
set_option maxRecDepth 100000 in
theorem d_133_42 : decode (mB 133) 42 = .ok (.aastore, 1) := by decide +kernel
set_option maxRecDepth 100000 in
theorem d_133_43 : decode (mB 133) 43 = .ok (.aload_n 0, 1) := by decide +kernel
set_option maxRecDepth 100000 in
theorem d_133_44 : decode (mB 133) 44 = .ok (.getfield 17, 3) := by decide +kernel
set_option maxRecDepth 100000 in
theorem d_133_47 : decode (mB 133) 47 = .ok (.iload_n 1, 1) := by decide +kernel
set_option maxRecDepth 100000 in
theorem d_133_48 : decode (mB 133) 48 = .ok (.new 9, 3) := by decide +kernel
set_option maxRecDepth 100000 in
theorem d_133_51 : decode (mB 133) 51 = .ok (.dup, 1) := by decide +kernel
set_option maxRecDepth 100000 in
theorem d_133_52 : decode (mB 133) 52 = .ok (.invokespecial 20, 3) := by decide +kernel
set_option maxRecDepth 100000 in
theorem d_133_55 : decode (mB 133) 55 = .ok (.aastore, 1) := by decide +kernel
set_option maxRecDepth 100000 in
theorem d_133_56 : decode (mB 133) 56 = .ok (.iinc 1 1, 3) := by decide +kernel
set_option maxRecDepth 100000 in
theorem d_133_59 : decode (mB 133) 59 = .ok (.goto (-35), 3) := by decide +kernel
set_option maxRecDepth 100000 in
theorem d_133_62 : decode (mB 133) 62 = .ok (.return_, 1) := by decide +kernel
set_option maxRecDepth 100000 in
theorem fl_6_9 : flP "WhistleStop$Footway" 9 6 0 := ⟨_, rfl, by decide, okk_w (k := 585) (by decide +kernel)⟩
set_option maxRecDepth 100000 in
theorem fl_6_15 : flP "WhistleStop$Footway" 15 6 1 := ⟨_, rfl, by decide, okk_w (k := 588) (by decide +kernel)⟩
set_option maxRecDepth 100000 in
theorem d_140_0 : decode (mB 140) 0 = .ok (.iload_n 1, 1) := by decide +kernel
set_option maxRecDepth 100000 in
theorem d_140_1 : decode (mB 140) 1 = .ok (.aload_n 0, 1) := by decide +kernel
set_option maxRecDepth 100000 in
theorem d_140_2 : decode (mB 140) 2 = .ok (.getfield 9, 3) := by decide +kernel
set_option maxRecDepth 100000 in
theorem d_140_5 : decode (mB 140) 5 = .ok (.if_icmp .ne 8, 3) := by decide +kernel
set_option maxRecDepth 100000 in
theorem d_140_8 : decode (mB 140) 8 = .ok (.aload_n 0, 1) := by decide +kernel
set_option maxRecDepth 100000 in
theorem d_140_9 : decode (mB 140) 9 = .ok (.getfield 15, 3) := by decide +kernel
set_option maxRecDepth 100000 in
theorem d_140_12 : decode (mB 140) 12 = .ok (.ireturn, 1) := by decide +kernel
set_option maxRecDepth 100000 in
theorem d_140_13 : decode (mB 140) 13 = .ok (.iload_n 1, 1) := by decide +kernel
set_option maxRecDepth 100000 in
theorem d_140_14 : decode (mB 140) 14 = .ok (.aload_n 0, 1) := by decide +kernel
set_option maxRecDepth 100000 in
theorem d_140_15 : decode (mB 140) 15 = .ok (.getfield 15, 3) := by decide +kernel
set_option maxRecDepth 100000 in
theorem d_140_18 : decode (mB 140) 18 = .ok (.if_icmp .ne 10, 3) := by decide +kernel
set_option maxRecDepth 100000 in
theorem d_140_21 : decode (mB 140) 21 = .ok (.aload_n 0, 1) := by decide +kernel
set_option maxRecDepth 100000 in
theorem d_140_22 : decode (mB 140) 22 = .ok (.getfield 9, 3) := by decide +kernel
set_option maxRecDepth 100000 in
theorem d_140_25 : decode (mB 140) 25 = .ok (.goto 4, 3) := by decide +kernel
set_option maxRecDepth 100000 in
theorem d_140_28 : decode (mB 140) 28 = .ok (.iconst (-1), 1) := by decide +kernel
set_option maxRecDepth 100000 in
theorem d_140_29 : decode (mB 140) 29 = .ok (.ireturn, 1) := by decide +kernel
set_option maxRecDepth 100000 in
theorem oi_7 : okw (.methodLink "WhistleStop$Journey" 3 Lib.objectInit) := okk_w (k := 285) (by decide +kernel)
set_option maxRecDepth 100000 in
theorem cl_7_9 : okw (.classLink "WhistleStop$Journey" 9 "WhistleStop$Trip") := okk_w (k := 286) (by decide +kernel)
set_option maxRecDepth 100000 in
theorem fl_7_11 : flP "WhistleStop$Journey" 11 7 5 := ⟨_, rfl, by decide, okk_w (k := 297) (by decide +kernel)⟩
set_option maxRecDepth 100000 in
theorem fl_7_17 : flP "WhistleStop$Journey" 17 7 6 := ⟨_, rfl, by decide, okk_w (k := 298) (by decide +kernel)⟩
set_option maxRecDepth 100000 in
theorem fl_7_21 : flP "WhistleStop$Journey" 21 7 7 := ⟨_, rfl, by decide, okk_w (k := 299) (by decide +kernel)⟩
set_option maxRecDepth 100000 in
theorem fl_7_24 : flP "WhistleStop$Journey" 24 7 8 := ⟨_, rfl, by decide, okk_w (k := 300) (by decide +kernel)⟩
set_option maxRecDepth 100000 in
theorem fl_7_27 : flP "WhistleStop$Journey" 27 7 9 := ⟨_, rfl, by decide, okk_w (k := 301) (by decide +kernel)⟩
set_option maxRecDepth 100000 in
theorem fl_7_30 : flP "WhistleStop$Journey" 30 7 10 := ⟨_, rfl, by decide, okk_w (k := 303) (by decide +kernel)⟩
set_option maxRecDepth 100000 in
theorem fl_7_33 : flP "WhistleStop$Journey" 33 7 11 := ⟨_, rfl, by decide, okk_w (k := 305) (by decide +kernel)⟩
set_option maxRecDepth 100000 in
theorem d_141_0 : decode (mB 141) 0 = .ok (.aload_n 0, 1) := by decide +kernel
set_option maxRecDepth 100000 in
theorem d_141_1 : decode (mB 141) 1 = .ok (.invokespecial 3, 3) := by decide +kernel
set_option maxRecDepth 100000 in
theorem d_141_4 : decode (mB 141) 4 = .ok (.aload_n 0, 1) := by decide +kernel
set_option maxRecDepth 100000 in
theorem d_141_5 : decode (mB 141) 5 = .ok (.bipush 13, 2) := by decide +kernel
set_option maxRecDepth 100000 in
theorem d_141_7 : decode (mB 141) 7 = .ok (.anewarray 9, 3) := by decide +kernel
set_option maxRecDepth 100000 in
theorem d_141_10 : decode (mB 141) 10 = .ok (.putfield 11, 3) := by decide +kernel
set_option maxRecDepth 100000 in
theorem d_141_13 : decode (mB 141) 13 = .ok (.aload_n 0, 1) := by decide +kernel
set_option maxRecDepth 100000 in
theorem d_141_14 : decode (mB 141) 14 = .ok (.bipush 13, 2) := by decide +kernel
set_option maxRecDepth 100000 in
theorem d_141_16 : decode (mB 141) 16 = .ok (.newarray .int, 2) := by decide +kernel
set_option maxRecDepth 100000 in
theorem d_141_18 : decode (mB 141) 18 = .ok (.putfield 17, 3) := by decide +kernel
set_option maxRecDepth 100000 in
theorem d_141_21 : decode (mB 141) 21 = .ok (.aload_n 0, 1) := by decide +kernel
set_option maxRecDepth 100000 in
theorem d_141_22 : decode (mB 141) 22 = .ok (.bipush 13, 2) := by decide +kernel
set_option maxRecDepth 100000 in
theorem d_141_24 : decode (mB 141) 24 = .ok (.newarray .int, 2) := by decide +kernel
set_option maxRecDepth 100000 in
theorem d_141_26 : decode (mB 141) 26 = .ok (.putfield 21, 3) := by decide +kernel
set_option maxRecDepth 100000 in
theorem d_141_29 : decode (mB 141) 29 = .ok (.aload_n 0, 1) := by decide +kernel
set_option maxRecDepth 100000 in
theorem d_141_30 : decode (mB 141) 30 = .ok (.bipush 13, 2) := by decide +kernel
set_option maxRecDepth 100000 in
theorem d_141_32 : decode (mB 141) 32 = .ok (.newarray .int, 2) := by decide +kernel
set_option maxRecDepth 100000 in
theorem d_141_34 : decode (mB 141) 34 = .ok (.putfield 24, 3) := by decide +kernel
set_option maxRecDepth 100000 in
theorem d_141_37 : decode (mB 141) 37 = .ok (.aload_n 0, 1) := by decide +kernel
set_option maxRecDepth 100000 in
theorem d_141_38 : decode (mB 141) 38 = .ok (.bipush 13, 2) := by decide +kernel
set_option maxRecDepth 100000 in
theorem d_141_40 : decode (mB 141) 40 = .ok (.newarray .int, 2) := by decide +kernel
set_option maxRecDepth 100000 in
theorem d_141_42 : decode (mB 141) 42 = .ok (.putfield 27, 3) := by decide +kernel
set_option maxRecDepth 100000 in
theorem d_141_45 : decode (mB 141) 45 = .ok (.aload_n 0, 1) := by decide +kernel
set_option maxRecDepth 100000 in
theorem d_141_46 : decode (mB 141) 46 = .ok (.bipush 13, 2) := by decide +kernel
set_option maxRecDepth 100000 in
theorem d_141_48 : decode (mB 141) 48 = .ok (.newarray .int, 2) := by decide +kernel
set_option maxRecDepth 100000 in
theorem d_141_50 : decode (mB 141) 50 = .ok (.putfield 30, 3) := by decide +kernel
set_option maxRecDepth 100000 in
theorem d_141_53 : decode (mB 141) 53 = .ok (.aload_n 0, 1) := by decide +kernel
set_option maxRecDepth 100000 in
theorem d_141_54 : decode (mB 141) 54 = .ok (.bipush 13, 2) := by decide +kernel
set_option maxRecDepth 100000 in
theorem d_141_56 : decode (mB 141) 56 = .ok (.newarray .int, 2) := by decide +kernel
set_option maxRecDepth 100000 in
theorem d_141_58 : decode (mB 141) 58 = .ok (.putfield 33, 3) := by decide +kernel
set_option maxRecDepth 100000 in
theorem d_141_61 : decode (mB 141) 61 = .ok (.return_, 1) := by decide +kernel
set_option maxRecDepth 100000 in
theorem oi_8 : okw (.methodLink "WhistleStop$Network" 3 Lib.objectInit) := okk_w (k := 93) (by decide +kernel)
set_option maxRecDepth 100000 in
theorem fl_8_9 : flP "WhistleStop$Network" 9 8 0 := ⟨_, rfl, by decide, okk_w (k := 100) (by decide +kernel)⟩
set_option maxRecDepth 100000 in
theorem cl_8_15 : okw (.classLink "WhistleStop$Network" 15 "WhistleStop$Footway") := okk_w (k := 94) (by decide +kernel)
set_option maxRecDepth 100000 in
theorem fl_8_17 : flP "WhistleStop$Network" 17 8 1 := ⟨_, rfl, by decide, okk_w (k := 106) (by decide +kernel)⟩
set_option maxRecDepth 100000 in
theorem cl_8_21 : okw (.classLink "WhistleStop$Network" 21 "WhistleStop$Calendar") := okk_w (k := 96) (by decide +kernel)
set_option maxRecDepth 100000 in
theorem fl_8_23 : flP "WhistleStop$Network" 23 8 2 := ⟨_, rfl, by decide, okk_w (k := 112) (by decide +kernel)⟩
set_option maxRecDepth 100000 in
theorem cl_8_27 : okw (.classLink "WhistleStop$Network" 27 "WhistleStop$Trip") := okk_w (k := 98) (by decide +kernel)
set_option maxRecDepth 100000 in
theorem fl_8_29 : flP "WhistleStop$Network" 29 8 3 := ⟨_, rfl, by decide, okk_w (k := 114) (by decide +kernel)⟩
set_option maxRecDepth 100000 in
theorem d_156_0 : decode (mB 156) 0 = .ok (.aload_n 0, 1) := by decide +kernel
set_option maxRecDepth 100000 in
theorem d_156_1 : decode (mB 156) 1 = .ok (.invokespecial 3, 3) := by decide +kernel
set_option maxRecDepth 100000 in
theorem d_156_4 : decode (mB 156) 4 = .ok (.aload_n 0, 1) := by decide +kernel
set_option maxRecDepth 100000 in
theorem d_156_5 : decode (mB 156) 5 = .ok (.bipush 16, 2) := by decide +kernel
set_option maxRecDepth 100000 in
theorem d_156_7 : decode (mB 156) 7 = .ok (.newarray .int, 2) := by decide +kernel
set_option maxRecDepth 100000 in
theorem d_156_9 : decode (mB 156) 9 = .ok (.putfield 9, 3) := by decide +kernel
set_option maxRecDepth 100000 in
theorem d_156_12 : decode (mB 156) 12 = .ok (.aload_n 0, 1) := by decide +kernel
set_option maxRecDepth 100000 in
theorem d_156_13 : decode (mB 156) 13 = .ok (.bipush 20, 2) := by decide +kernel
set_option maxRecDepth 100000 in
theorem d_156_15 : decode (mB 156) 15 = .ok (.anewarray 15, 3) := by decide +kernel
set_option maxRecDepth 100000 in
theorem d_156_18 : decode (mB 156) 18 = .ok (.putfield 17, 3) := by decide +kernel
set_option maxRecDepth 100000 in
theorem d_156_21 : decode (mB 156) 21 = .ok (.aload_n 0, 1) := by decide +kernel
set_option maxRecDepth 100000 in
theorem d_156_22 : decode (mB 156) 22 = .ok (.bipush 6, 2) := by decide +kernel
set_option maxRecDepth 100000 in
theorem d_156_24 : decode (mB 156) 24 = .ok (.anewarray 21, 3) := by decide +kernel
set_option maxRecDepth 100000 in
theorem d_156_27 : decode (mB 156) 27 = .ok (.putfield 23, 3) := by decide +kernel
set_option maxRecDepth 100000 in
theorem d_156_30 : decode (mB 156) 30 = .ok (.aload_n 0, 1) := by decide +kernel
set_option maxRecDepth 100000 in
theorem d_156_31 : decode (mB 156) 31 = .ok (.bipush 24, 2) := by decide +kernel
set_option maxRecDepth 100000 in
theorem d_156_33 : decode (mB 156) 33 = .ok (.anewarray 27, 3) := by decide +kernel
set_option maxRecDepth 100000 in
theorem d_156_36 : decode (mB 156) 36 = .ok (.putfield 29, 3) := by decide +kernel
set_option maxRecDepth 100000 in
theorem d_156_39 : decode (mB 156) 39 = .ok (.return_, 1) := by decide +kernel
set_option maxRecDepth 100000 in
theorem oi_9 : okw (.methodLink "WhistleStop$Offers" 3 Lib.objectInit) := okk_w (k := 252) (by decide +kernel)
set_option maxRecDepth 100000 in
theorem fl_9_11 : flP "WhistleStop$Offers" 11 9 0 := ⟨_, rfl, by decide, okk_w (k := 253) (by decide +kernel)⟩
set_option maxRecDepth 100000 in
theorem fl_9_15 : flP "WhistleStop$Offers" 15 9 1 := ⟨_, rfl, by decide, okk_w (k := 254) (by decide +kernel)⟩
set_option maxRecDepth 100000 in
theorem d_157_0 : decode (mB 157) 0 = .ok (.aload_n 0, 1) := by decide +kernel
set_option maxRecDepth 100000 in
theorem d_157_1 : decode (mB 157) 1 = .ok (.invokespecial 3, 3) := by decide +kernel
set_option maxRecDepth 100000 in
theorem d_157_4 : decode (mB 157) 4 = .ok (.aload_n 0, 1) := by decide +kernel
set_option maxRecDepth 100000 in
theorem d_157_5 : decode (mB 157) 5 = .ok (.bipush 16, 2) := by decide +kernel
set_option maxRecDepth 100000 in
theorem d_157_7 : decode (mB 157) 7 = .ok (.newarray .int, 2) := by decide +kernel
set_option maxRecDepth 100000 in
theorem d_157_9 : decode (mB 157) 9 = .ok (.putfield 11, 3) := by decide +kernel
set_option maxRecDepth 100000 in
theorem d_157_12 : decode (mB 157) 12 = .ok (.aload_n 0, 1) := by decide +kernel
set_option maxRecDepth 100000 in
theorem d_157_13 : decode (mB 157) 13 = .ok (.bipush 16, 2) := by decide +kernel
set_option maxRecDepth 100000 in
theorem d_157_15 : decode (mB 157) 15 = .ok (.newarray .int, 2) := by decide +kernel
set_option maxRecDepth 100000 in
theorem d_157_17 : decode (mB 157) 17 = .ok (.putfield 15, 3) := by decide +kernel
set_option maxRecDepth 100000 in
theorem d_157_20 : decode (mB 157) 20 = .ok (.return_, 1) := by decide +kernel
set_option maxRecDepth 100000 in
theorem oi_10 : okw (.methodLink "WhistleStop$Onward" 3 Lib.objectInit) := okk_w (k := 203) (by decide +kernel)
set_option maxRecDepth 100000 in
theorem cl_10_9 : okw (.classLink "WhistleStop$Onward" 9 "[[I") := okk_w (k := 204) (by decide +kernel)
set_option maxRecDepth 100000 in
theorem fl_10_11 : flP "WhistleStop$Onward" 11 10 0 := ⟨_, rfl, by decide, okk_w (k := 206) (by decide +kernel)⟩
set_option maxRecDepth 100000 in
theorem fl_10_16 : flP "WhistleStop$Onward" 16 10 1 := ⟨_, rfl, by decide, okk_w (k := 207) (by decide +kernel)⟩
set_option maxRecDepth 100000 in
theorem fl_10_19 : flP "WhistleStop$Onward" 19 10 2 := ⟨_, rfl, by decide, okk_w (k := 208) (by decide +kernel)⟩
set_option maxRecDepth 100000 in
theorem d_162_0 : decode (mB 162) 0 = .ok (.aload_n 0, 1) := by decide +kernel
set_option maxRecDepth 100000 in
theorem d_162_1 : decode (mB 162) 1 = .ok (.invokespecial 3, 3) := by decide +kernel
set_option maxRecDepth 100000 in
theorem d_162_4 : decode (mB 162) 4 = .ok (.aload_n 0, 1) := by decide +kernel
set_option maxRecDepth 100000 in
theorem d_162_5 : decode (mB 162) 5 = .ok (.bipush 7, 2) := by decide +kernel
set_option maxRecDepth 100000 in
theorem d_162_7 : decode (mB 162) 7 = .ok (.bipush 16, 2) := by decide +kernel
set_option maxRecDepth 100000 in
theorem d_162_9 : decode (mB 162) 9 = .ok (.multianewarray 9 2, 4) := by decide +kernel
set_option maxRecDepth 100000 in
theorem d_162_13 : decode (mB 162) 13 = .ok (.putfield 11, 3) := by decide +kernel
set_option maxRecDepth 100000 in
theorem d_162_16 : decode (mB 162) 16 = .ok (.aload_n 0, 1) := by decide +kernel
set_option maxRecDepth 100000 in
theorem d_162_17 : decode (mB 162) 17 = .ok (.bipush 7, 2) := by decide +kernel
set_option maxRecDepth 100000 in
theorem d_162_19 : decode (mB 162) 19 = .ok (.bipush 16, 2) := by decide +kernel
set_option maxRecDepth 100000 in
theorem d_162_21 : decode (mB 162) 21 = .ok (.multianewarray 9 2, 4) := by decide +kernel
set_option maxRecDepth 100000 in
theorem d_162_25 : decode (mB 162) 25 = .ok (.putfield 16, 3) := by decide +kernel
set_option maxRecDepth 100000 in
theorem d_162_28 : decode (mB 162) 28 = .ok (.aload_n 0, 1) := by decide +kernel
set_option maxRecDepth 100000 in
theorem d_162_29 : decode (mB 162) 29 = .ok (.bipush 16, 2) := by decide +kernel
set_option maxRecDepth 100000 in
theorem d_162_31 : decode (mB 162) 31 = .ok (.newarray .int, 2) := by decide +kernel
set_option maxRecDepth 100000 in
theorem d_162_33 : decode (mB 162) 33 = .ok (.putfield 19, 3) := by decide +kernel
set_option maxRecDepth 100000 in
theorem d_162_36 : decode (mB 162) 36 = .ok (.return_, 1) := by decide +kernel
set_option maxRecDepth 100000 in
theorem oi_11 : okw (.methodLink "WhistleStop$Runs" 3 Lib.objectInit) := okk_w (k := 151) (by decide +kernel)
set_option maxRecDepth 100000 in
theorem cl_11_9 : okw (.classLink "WhistleStop$Runs" 9 "WhistleStop$Trip") := okk_w (k := 152) (by decide +kernel)
set_option maxRecDepth 100000 in
theorem fl_11_11 : flP "WhistleStop$Runs" 11 11 0 := ⟨_, rfl, by decide, okk_w (k := 153) (by decide +kernel)⟩
set_option maxRecDepth 100000 in
theorem fl_11_17 : flP "WhistleStop$Runs" 17 11 1 := ⟨_, rfl, by decide, okk_w (k := 159) (by decide +kernel)⟩
set_option maxRecDepth 100000 in
theorem fl_11_21 : flP "WhistleStop$Runs" 21 11 2 := ⟨_, rfl, by decide, okk_w (k := 162) (by decide +kernel)⟩
set_option maxRecDepth 100000 in
theorem d_173_0 : decode (mB 173) 0 = .ok (.aload_n 0, 1) := by decide +kernel
set_option maxRecDepth 100000 in
theorem d_173_1 : decode (mB 173) 1 = .ok (.invokespecial 3, 3) := by decide +kernel
set_option maxRecDepth 100000 in
theorem d_173_4 : decode (mB 173) 4 = .ok (.aload_n 0, 1) := by decide +kernel
set_option maxRecDepth 100000 in
theorem d_173_5 : decode (mB 173) 5 = .ok (.sipush 192, 3) := by decide +kernel
set_option maxRecDepth 100000 in
theorem d_173_8 : decode (mB 173) 8 = .ok (.anewarray 9, 3) := by decide +kernel
set_option maxRecDepth 100000 in
theorem d_173_11 : decode (mB 173) 11 = .ok (.putfield 11, 3) := by decide +kernel
set_option maxRecDepth 100000 in
theorem d_173_14 : decode (mB 173) 14 = .ok (.aload_n 0, 1) := by decide +kernel
set_option maxRecDepth 100000 in
theorem d_173_15 : decode (mB 173) 15 = .ok (.sipush 192, 3) := by decide +kernel
set_option maxRecDepth 100000 in
theorem d_173_18 : decode (mB 173) 18 = .ok (.newarray .int, 2) := by decide +kernel
set_option maxRecDepth 100000 in
theorem d_173_20 : decode (mB 173) 20 = .ok (.putfield 17, 3) := by decide +kernel
set_option maxRecDepth 100000 in
theorem d_173_23 : decode (mB 173) 23 = .ok (.aload_n 0, 1) := by decide +kernel
set_option maxRecDepth 100000 in
theorem d_173_24 : decode (mB 173) 24 = .ok (.sipush 192, 3) := by decide +kernel
set_option maxRecDepth 100000 in
theorem d_173_27 : decode (mB 173) 27 = .ok (.newarray .int, 2) := by decide +kernel
set_option maxRecDepth 100000 in
theorem d_173_29 : decode (mB 173) 29 = .ok (.putfield 21, 3) := by decide +kernel
set_option maxRecDepth 100000 in
theorem d_173_32 : decode (mB 173) 32 = .ok (.return_, 1) := by decide +kernel
set_option maxRecDepth 100000 in
theorem fl_11_24 : flP "WhistleStop$Runs" 24 11 3 := ⟨_, rfl, by decide, okk_w (k := 168) (by decide +kernel)⟩
set_option maxRecDepth 100000 in
theorem c_174_28 : csP 174 28 213 2 := ⟨cd_213, okk_w (k := 779) (by decide +kernel), okk_w (k := 780) (by decide +kernel), by decide +kernel, by decide +kernel⟩
set_option maxRecDepth 100000 in
theorem c_174_34 : csP 174 34 214 2 := ⟨cd_214, okk_w (k := 782) (by decide +kernel), okk_w (k := 783) (by decide +kernel), by decide +kernel, by decide +kernel⟩
set_option maxRecDepth 100000 in
theorem c_174_37 : csP 174 37 215 2 := ⟨cd_215, okk_w (k := 785) (by decide +kernel), okk_w (k := 786) (by decide +kernel), by decide +kernel, by decide +kernel⟩
set_option maxRecDepth 100000 in
theorem fl_11_40 : flP "WhistleStop$Runs" 40 8 7 := ⟨_, rfl, by decide, okk_w (k := 126) (by decide +kernel)⟩
set_option maxRecDepth 100000 in
theorem fl_11_45 : flP "WhistleStop$Runs" 45 8 3 := ⟨_, rfl, by decide, okk_w (k := 115) (by decide +kernel)⟩
set_option maxRecDepth 100000 in
theorem fl_11_46 : flP "WhistleStop$Runs" 46 12 7 := ⟨_, rfl, by decide, okk_w (k := 690) (by decide +kernel)⟩
set_option maxRecDepth 100000 in
theorem c_174_47 : cvP 174 47 176 1 := ⟨cd_176, okk_w (k := 788) (by decide +kernel), okk_w (k := 479) (by decide +kernel), okk_w (k := 480) (by decide +kernel), by decide +kernel, by decide +kernel⟩
set_option maxRecDepth 100000 in
theorem c_174_51 : cvP 174 51 175 4 := ⟨cd_175, okk_w (k := 789) (by decide +kernel), okk_w (k := 791) (by decide +kernel), okk_w (k := 5) (by decide +kernel), by decide +kernel, by decide +kernel⟩
set_option maxRecDepth 100000 in
theorem d_174_0 : decode (mB 174) 0 = .ok (.aload_n 0, 1) := by decide +kernel
set_option maxRecDepth 100000 in
theorem d_174_1 : decode (mB 174) 1 = .ok (.iconst 0, 1) := by decide +kernel
set_option maxRecDepth 100000 in
theorem d_174_2 : decode (mB 174) 2 = .ok (.putfield 24, 3) := by decide +kernel
set_option maxRecDepth 100000 in
theorem d_174_5 : decode (mB 174) 5 = .ok (.iconst 0, 1) := by decide +kernel
set_option maxRecDepth 100000 in
theorem d_174_6 : decode (mB 174) 6 = .ok (.iload_n 2, 1) := by decide +kernel
set_option maxRecDepth 100000 in
theorem d_174_7 : decode (mB 174) 7 = .ok (.sipush 2879, 3) := by decide +kernel
set_option maxRecDepth 100000 in
theorem d_174_10 : decode (mB 174) 10 = .ok (.isub, 1) := by decide +kernel
set_option maxRecDepth 100000 in
theorem d_174_11 : decode (mB 174) 11 = .ok (.sipush 180, 3) := by decide +kernel
set_option maxRecDepth 100000 in
theorem d_174_14 : decode (mB 174) 14 = .ok (.isub, 1) := by decide +kernel
set_option maxRecDepth 100000 in
theorem d_174_15 : decode (mB 174) 15 = .ok (.sipush 1440, 3) := by decide +kernel
set_option maxRecDepth 100000 in
theorem d_174_18 : decode (mB 174) 18 = .ok (.invokestatic 28, 3) := by decide +kernel
set_option maxRecDepth 100000 in
theorem d_174_21 : decode (mB 174) 21 = .ok (.invokestatic 34, 3) := by decide +kernel
set_option maxRecDepth 100000 in
theorem d_174_24 : decode (mB 174) 24 = .ok (.istore 4, 2) := by decide +kernel
set_option maxRecDepth 100000 in
theorem d_174_26 : decode (mB 174) 26 = .ok (.sipush 365, 3) := by decide +kernel
set_option maxRecDepth 100000 in
theorem d_174_29 : decode (mB 174) 29 = .ok (.iload_n 3, 1) := by decide +kernel
set_option maxRecDepth 100000 in
theorem d_174_30 : decode (mB 174) 30 = .ok (.sipush 1440, 3) := by decide +kernel
set_option maxRecDepth 100000 in
theorem d_174_33 : decode (mB 174) 33 = .ok (.invokestatic 28, 3) := by decide +kernel
set_option maxRecDepth 100000 in
theorem d_174_36 : decode (mB 174) 36 = .ok (.invokestatic 37, 3) := by decide +kernel
set_option maxRecDepth 100000 in
theorem d_174_39 : decode (mB 174) 39 = .ok (.istore 5, 2) := by decide +kernel
set_option maxRecDepth 100000 in
theorem d_174_41 : decode (mB 174) 41 = .ok (.iconst 0, 1) := by decide +kernel
set_option maxRecDepth 100000 in
theorem d_174_42 : decode (mB 174) 42 = .ok (.istore 6, 2) := by decide +kernel
set_option maxRecDepth 100000 in
theorem d_174_44 : decode (mB 174) 44 = .ok (.iload 6, 2) := by decide +kernel
set_option maxRecDepth 100000 in
theorem d_174_46 : decode (mB 174) 46 = .ok (.aload_n 1, 1) := by decide +kernel
set_option maxRecDepth 100000 in
theorem d_174_47 : decode (mB 174) 47 = .ok (.getfield 40, 3) := by decide +kernel
set_option maxRecDepth 100000 in
theorem d_174_50 : decode (mB 174) 50 = .ok (.if_icmp .ge 64, 3) := by decide +kernel
set_option maxRecDepth 100000 in
theorem d_174_53 : decode (mB 174) 53 = .ok (.aload_n 1, 1) := by decide +kernel
set_option maxRecDepth 100000 in
theorem d_174_54 : decode (mB 174) 54 = .ok (.getfield 45, 3) := by decide +kernel
set_option maxRecDepth 100000 in
theorem d_174_57 : decode (mB 174) 57 = .ok (.iload 6, 2) := by decide +kernel
set_option maxRecDepth 100000 in
theorem d_174_59 : decode (mB 174) 59 = .ok (.aaload, 1) := by decide +kernel
set_option maxRecDepth 100000 in
theorem d_174_60 : decode (mB 174) 60 = .ok (.astore 7, 2) := by decide +kernel
set_option maxRecDepth 100000 in
theorem d_174_62 : decode (mB 174) 62 = .ok (.iload 4, 2) := by decide +kernel
set_option maxRecDepth 100000 in
theorem d_174_64 : decode (mB 174) 64 = .ok (.istore 8, 2) := by decide +kernel
set_option maxRecDepth 100000 in
theorem d_174_66 : decode (mB 174) 66 = .ok (.iload 8, 2) := by decide +kernel
set_option maxRecDepth 100000 in
theorem d_174_68 : decode (mB 174) 68 = .ok (.iload 5, 2) := by decide +kernel
set_option maxRecDepth 100000 in
theorem d_174_70 : decode (mB 174) 70 = .ok (.if_icmp .gt 38, 3) := by decide +kernel
set_option maxRecDepth 100000 in
theorem d_174_73 : decode (mB 174) 73 = .ok (.aload 7, 2) := by decide +kernel
set_option maxRecDepth 100000 in
theorem d_174_75 : decode (mB 174) 75 = .ok (.getfield 46, 3) := by decide +kernel
set_option maxRecDepth 100000 in
theorem d_174_78 : decode (mB 174) 78 = .ok (.iconst 1, 1) := by decide +kernel
set_option maxRecDepth 100000 in
theorem d_174_79 : decode (mB 174) 79 = .ok (.if_icmp .le 23, 3) := by decide +kernel
set_option maxRecDepth 100000 in
theorem d_174_82 : decode (mB 174) 82 = .ok (.aload 7, 2) := by decide +kernel
set_option maxRecDepth 100000 in
theorem d_174_84 : decode (mB 174) 84 = .ok (.iload 8, 2) := by decide +kernel
set_option maxRecDepth 100000 in
theorem d_174_86 : decode (mB 174) 86 = .ok (.invokevirtual 47, 3) := by decide +kernel
set_option maxRecDepth 100000 in
theorem d_174_89 : decode (mB 174) 89 = .ok (.ifCond .eq 13, 3) := by decide +kernel
set_option maxRecDepth 100000 in
theorem d_174_92 : decode (mB 174) 92 = .ok (.aload_n 0, 1) := by decide +kernel
set_option maxRecDepth 100000 in
theorem d_174_93 : decode (mB 174) 93 = .ok (.aload 7, 2) := by decide +kernel
set_option maxRecDepth 100000 in
theorem d_174_95 : decode (mB 174) 95 = .ok (.iload 8, 2) := by decide +kernel
set_option maxRecDepth 100000 in
theorem d_174_97 : decode (mB 174) 97 = .ok (.iload_n 2, 1) := by decide +kernel
set_option maxRecDepth 100000 in
theorem d_174_98 : decode (mB 174) 98 = .ok (.iload_n 3, 1) := by decide +kernel
set_option maxRecDepth 100000 in
theorem d_174_99 : decode (mB 174) 99 = .ok (.invokevirtual 51, 3) := by decide +kernel
set_option maxRecDepth 100000 in
theorem d_174_102 : decode (mB 174) 102 = .ok (.iinc 8 1, 3) := by decide +kernel
set_option maxRecDepth 100000 in
theorem d_174_105 : decode (mB 174) 105 = .ok (.goto (-39), 3) := by decide +kernel
set_option maxRecDepth 100000 in
theorem d_174_108 : decode (mB 174) 108 = .ok (.iinc 6 1, 3) := by decide +kernel
set_option maxRecDepth 100000 in
theorem d_174_111 : decode (mB 174) 111 = .ok (.goto (-67), 3) := by decide +kernel
set_option maxRecDepth 100000 in
theorem d_174_114 : decode (mB 174) 114 = .ok (.return_, 1) := by decide +kernel
set_option maxRecDepth 100000 in
theorem c_175_55 : cvP 175 55 177 1 := ⟨cd_177, okk_w (k := 793) (by decide +kernel), okk_w (k := 508) (by decide +kernel), okk_w (k := 509) (by decide +kernel), by decide +kernel, by decide +kernel⟩
set_option maxRecDepth 100000 in
theorem fl_11_59 : flP "WhistleStop$Runs" 59 12 5 := ⟨_, rfl, by decide, okk_w (k := 681) (by decide +kernel)⟩
set_option maxRecDepth 100000 in
theorem c_175_62 : cvP 175 62 180 0 := ⟨cd_180, okk_w (k := 794) (by decide +kernel), okk_w (k := 725) (by decide +kernel), okk_w (k := 726) (by decide +kernel), by decide +kernel, by decide +kernel⟩
set_option maxRecDepth 100000 in
theorem d_175_0 : decode (mB 175) 0 = .ok (.aload_n 1, 1) := by decide +kernel
set_option maxRecDepth 100000 in
theorem d_175_1 : decode (mB 175) 1 = .ok (.iload_n 2, 1) := by decide +kernel
set_option maxRecDepth 100000 in
theorem d_175_2 : decode (mB 175) 2 = .ok (.invokevirtual 55, 3) := by decide +kernel
set_option maxRecDepth 100000 in
theorem d_175_5 : decode (mB 175) 5 = .ok (.istore 5, 2) := by decide +kernel
set_option maxRecDepth 100000 in
theorem d_175_7 : decode (mB 175) 7 = .ok (.iload 5, 2) := by decide +kernel
set_option maxRecDepth 100000 in
theorem d_175_9 : decode (mB 175) 9 = .ok (.aload_n 1, 1) := by decide +kernel
set_option maxRecDepth 100000 in
theorem d_175_10 : decode (mB 175) 10 = .ok (.getfield 59, 3) := by decide +kernel
set_option maxRecDepth 100000 in
theorem d_175_13 : decode (mB 175) 13 = .ok (.iconst 0, 1) := by decide +kernel
set_option maxRecDepth 100000 in
theorem d_175_14 : decode (mB 175) 14 = .ok (.iaload, 1) := by decide +kernel
set_option maxRecDepth 100000 in
theorem d_175_15 : decode (mB 175) 15 = .ok (.iadd, 1) := by decide +kernel
set_option maxRecDepth 100000 in
theorem d_175_16 : decode (mB 175) 16 = .ok (.iload 4, 2) := by decide +kernel
set_option maxRecDepth 100000 in
theorem d_175_18 : decode (mB 175) 18 = .ok (.if_icmp .gt 18, 3) := by decide +kernel
set_option maxRecDepth 100000 in
theorem d_175_21 : decode (mB 175) 21 = .ok (.iload 5, 2) := by decide +kernel
set_option maxRecDepth 100000 in
theorem d_175_23 : decode (mB 175) 23 = .ok (.aload_n 1, 1) := by decide +kernel
set_option maxRecDepth 100000 in
theorem d_175_24 : decode (mB 175) 24 = .ok (.invokevirtual 62, 3) := by decide +kernel
set_option maxRecDepth 100000 in
theorem d_175_27 : decode (mB 175) 27 = .ok (.iadd, 1) := by decide +kernel
set_option maxRecDepth 100000 in
theorem d_175_28 : decode (mB 175) 28 = .ok (.iload_n 3, 1) := by decide +kernel
set_option maxRecDepth 100000 in
theorem d_175_29 : decode (mB 175) 29 = .ok (.if_icmp .lt 7, 3) := by decide +kernel
set_option maxRecDepth 100000 in
theorem d_175_32 : decode (mB 175) 32 = .ok (.iconst 1, 1) := by decide +kernel
set_option maxRecDepth 100000 in
theorem d_175_33 : decode (mB 175) 33 = .ok (.goto 4, 3) := by decide +kernel
set_option maxRecDepth 100000 in
theorem d_175_36 : decode (mB 175) 36 = .ok (.iconst 0, 1) := by decide +kernel
set_option maxRecDepth 100000 in
theorem d_175_37 : decode (mB 175) 37 = .ok (.istore 6, 2) := by decide +kernel
set_option maxRecDepth 100000 in
theorem d_175_39 : decode (mB 175) 39 = .ok (.iload 6, 2) := by decide +kernel
set_option maxRecDepth 100000 in
theorem d_175_41 : decode (mB 175) 41 = .ok (.ifCond .eq 54, 3) := by decide +kernel
set_option maxRecDepth 100000 in
theorem d_175_44 : decode (mB 175) 44 = .ok (.aload_n 0, 1) := by decide +kernel
set_option maxRecDepth 100000 in
theorem d_175_45 : decode (mB 175) 45 = .ok (.getfield 24, 3) := by decide +kernel
set_option maxRecDepth 100000 in
theorem d_175_48 : decode (mB 175) 48 = .ok (.sipush 192, 3) := by decide +kernel
set_option maxRecDepth 100000 in
theorem d_175_51 : decode (mB 175) 51 = .ok (.if_icmp .ge 44, 3) := by decide +kernel
set_option maxRecDepth 100000 in
theorem d_175_54 : decode (mB 175) 54 = .ok (.aload_n 0, 1) := by decide +kernel
set_option maxRecDepth 100000 in
theorem d_175_55 : decode (mB 175) 55 = .ok (.getfield 11, 3) := by decide +kernel
set_option maxRecDepth 100000 in
theorem d_175_58 : decode (mB 175) 58 = .ok (.aload_n 0, 1) := by decide +kernel
set_option maxRecDepth 100000 in
theorem d_175_59 : decode (mB 175) 59 = .ok (.getfield 24, 3) := by decide +kernel
set_option maxRecDepth 100000 in
theorem d_175_62 : decode (mB 175) 62 = .ok (.aload_n 1, 1) := by decide +kernel
set_option maxRecDepth 100000 in
theorem d_175_63 : decode (mB 175) 63 = .ok (.aastore, 1) := by decide +kernel
set_option maxRecDepth 100000 in
theorem d_175_64 : decode (mB 175) 64 = .ok (.aload_n 0, 1) := by decide +kernel
set_option maxRecDepth 100000 in
theorem d_175_65 : decode (mB 175) 65 = .ok (.getfield 17, 3) := by decide +kernel
set_option maxRecDepth 100000 in
theorem d_175_68 : decode (mB 175) 68 = .ok (.aload_n 0, 1) := by decide +kernel
set_option maxRecDepth 100000 in
theorem d_175_69 : decode (mB 175) 69 = .ok (.getfield 24, 3) := by decide +kernel
set_option maxRecDepth 100000 in
theorem d_175_72 : decode (mB 175) 72 = .ok (.iload_n 2, 1) := by decide +kernel
set_option maxRecDepth 100000 in
theorem d_175_73 : decode (mB 175) 73 = .ok (.iastore, 1) := by decide +kernel
set_option maxRecDepth 100000 in
theorem d_175_74 : decode (mB 175) 74 = .ok (.aload_n 0, 1) := by decide +kernel
set_option maxRecDepth 100000 in
theorem d_175_75 : decode (mB 175) 75 = .ok (.getfield 21, 3) := by decide +kernel
set_option maxRecDepth 100000 in
theorem d_175_78 : decode (mB 175) 78 = .ok (.aload_n 0, 1) := by decide +kernel
set_option maxRecDepth 100000 in
theorem d_175_79 : decode (mB 175) 79 = .ok (.getfield 24, 3) := by decide +kernel
set_option maxRecDepth 100000 in
theorem d_175_82 : decode (mB 175) 82 = .ok (.iload 5, 2) := by decide +kernel
set_option maxRecDepth 100000 in
theorem d_175_84 : decode (mB 175) 84 = .ok (.iastore, 1) := by decide +kernel
set_option maxRecDepth 100000 in
theorem d_175_85 : decode (mB 175) 85 = .ok (.aload_n 0, 1) := by decide +kernel
set_option maxRecDepth 100000 in
theorem d_175_86 : decode (mB 175) 86 = .ok (.dup, 1) := by decide +kernel
set_option maxRecDepth 100000 in
theorem d_175_87 : decode (mB 175) 87 = .ok (.getfield 24, 3) := by decide +kernel
set_option maxRecDepth 100000 in
theorem d_175_90 : decode (mB 175) 90 = .ok (.iconst 1, 1) := by decide +kernel
set_option maxRecDepth 100000 in
theorem d_175_91 : decode (mB 175) 91 = .ok (.iadd, 1) := by decide +kernel
set_option maxRecDepth 100000 in
theorem d_175_92 : decode (mB 175) 92 = .ok (.putfield 24, 3) := by decide +kernel
set_option maxRecDepth 100000 in
theorem d_175_95 : decode (mB 175) 95 = .ok (.return_, 1) := by decide +kernel
set_option maxRecDepth 100000 in
theorem c_176_38 : csnP 176 38 10 1 := ⟨cd_10, ⟨"WhistleStop", okk_w (k := 482) (by decide +kernel)⟩, okk_w (k := 483) (by decide +kernel), by decide +kernel, by decide +kernel⟩
set_option maxRecDepth 100000 in
theorem fl_12_21 : flP "WhistleStop$Trip" 21 12 6 := ⟨_, rfl, by decide, okk_w (k := 686) (by decide +kernel)⟩
set_option maxRecDepth 100000 in
theorem fl_12_28 : flP "WhistleStop$Trip" 28 12 1 := ⟨_, rfl, by decide, okk_w (k := 663) (by decide +kernel)⟩
set_option maxRecDepth 100000 in
theorem c_176_42 : cvP 176 42 131 1 := ⟨cd_131, okk_w (k := 488) (by decide +kernel), okk_w (k := 489) (by decide +kernel), okk_w (k := 490) (by decide +kernel), by decide +kernel, by decide +kernel⟩
set_option maxRecDepth 100000 in
theorem d_176_0 : decode (mB 176) 0 = .ok (.iload_n 1, 1) := by decide +kernel
set_option maxRecDepth 100000 in
theorem d_176_1 : decode (mB 176) 1 = .ok (.invokestatic 38, 3) := by decide +kernel
set_option maxRecDepth 100000 in
theorem d_176_4 : decode (mB 176) 4 = .ok (.ifCond .eq 28, 3) := by decide +kernel
set_option maxRecDepth 100000 in
theorem d_176_7 : decode (mB 176) 7 = .ok (.aload_n 0, 1) := by decide +kernel
set_option maxRecDepth 100000 in
theorem d_176_8 : decode (mB 176) 8 = .ok (.getfield 21, 3) := by decide +kernel
set_option maxRecDepth 100000 in
theorem d_176_11 : decode (mB 176) 11 = .ok (.iload_n 1, 1) := by decide +kernel
set_option maxRecDepth 100000 in
theorem d_176_12 : decode (mB 176) 12 = .ok (.iaload, 1) := by decide +kernel
set_option maxRecDepth 100000 in
theorem d_176_13 : decode (mB 176) 13 = .ok (.iconst (-1), 1) := by decide +kernel
set_option maxRecDepth 100000 in
theorem d_176_14 : decode (mB 176) 14 = .ok (.if_icmp .eq 18, 3) := by decide +kernel
set_option maxRecDepth 100000 in
theorem d_176_17 : decode (mB 176) 17 = .ok (.aload_n 0, 1) := by decide +kernel
set_option maxRecDepth 100000 in
theorem d_176_18 : decode (mB 176) 18 = .ok (.getfield 28, 3) := by decide +kernel
set_option maxRecDepth 100000 in
theorem d_176_21 : decode (mB 176) 21 = .ok (.iload_n 1, 1) := by decide +kernel
set_option maxRecDepth 100000 in
theorem d_176_22 : decode (mB 176) 22 = .ok (.invokevirtual 42, 3) := by decide +kernel
set_option maxRecDepth 100000 in
theorem d_176_25 : decode (mB 176) 25 = .ok (.ifCond .eq 7, 3) := by decide +kernel
set_option maxRecDepth 100000 in
theorem d_176_28 : decode (mB 176) 28 = .ok (.iconst 1, 1) := by decide +kernel
set_option maxRecDepth 100000 in
theorem d_176_29 : decode (mB 176) 29 = .ok (.goto 4, 3) := by decide +kernel
set_option maxRecDepth 100000 in
theorem d_176_32 : decode (mB 176) 32 = .ok (.iconst 0, 1) := by decide +kernel
set_option maxRecDepth 100000 in
theorem d_176_33 : decode (mB 176) 33 = .ok (.ireturn, 1) := by decide +kernel
set_option maxRecDepth 100000 in
theorem c_177_38 : csnP 177 38 10 1 := ⟨cd_10, ⟨"WhistleStop", okk_w (k := 482) (by decide +kernel)⟩, okk_w (k := 483) (by decide +kernel), by decide +kernel, by decide +kernel⟩
set_option maxRecDepth 100000 in
theorem ck_12_47 : okw (.constant "WhistleStop$Trip" 47 (1000000000)) := okk_w (k := 511) (by decide +kernel)
set_option maxRecDepth 100000 in
theorem d_177_0 : decode (mB 177) 0 = .ok (.iload_n 1, 1) := by decide +kernel
set_option maxRecDepth 100000 in
theorem d_177_1 : decode (mB 177) 1 = .ok (.invokestatic 38, 3) := by decide +kernel
set_option maxRecDepth 100000 in
theorem d_177_4 : decode (mB 177) 4 = .ok (.ifCond .eq 18, 3) := by decide +kernel
set_option maxRecDepth 100000 in
theorem d_177_7 : decode (mB 177) 7 = .ok (.sipush 1440, 3) := by decide +kernel
set_option maxRecDepth 100000 in
theorem d_177_10 : decode (mB 177) 10 = .ok (.iload_n 1, 1) := by decide +kernel
set_option maxRecDepth 100000 in
theorem d_177_11 : decode (mB 177) 11 = .ok (.imul, 1) := by decide +kernel
set_option maxRecDepth 100000 in
theorem d_177_12 : decode (mB 177) 12 = .ok (.aload_n 0, 1) := by decide +kernel
set_option maxRecDepth 100000 in
theorem d_177_13 : decode (mB 177) 13 = .ok (.getfield 21, 3) := by decide +kernel
set_option maxRecDepth 100000 in
theorem d_177_16 : decode (mB 177) 16 = .ok (.iload_n 1, 1) := by decide +kernel
set_option maxRecDepth 100000 in
theorem d_177_17 : decode (mB 177) 17 = .ok (.iaload, 1) := by decide +kernel
set_option maxRecDepth 100000 in
theorem d_177_18 : decode (mB 177) 18 = .ok (.iadd, 1) := by decide +kernel
set_option maxRecDepth 100000 in
theorem d_177_19 : decode (mB 177) 19 = .ok (.goto 5, 3) := by decide +kernel
set_option maxRecDepth 100000 in
theorem d_177_22 : decode (mB 177) 22 = .ok (.ldc 47, 2) := by decide +kernel
set_option maxRecDepth 100000 in
theorem d_177_24 : decode (mB 177) 24 = .ok (.ireturn, 1) := by decide +kernel
set_option maxRecDepth 100000 in
theorem fl_12_35 : flP "WhistleStop$Trip" 35 12 7 := ⟨_, rfl, by decide, okk_w (k := 688) (by decide +kernel)⟩
set_option maxRecDepth 100000 in
theorem fl_12_18 : flP "WhistleStop$Trip" 18 12 5 := ⟨_, rfl, by decide, okk_w (k := 679) (by decide +kernel)⟩
set_option maxRecDepth 100000 in
theorem d_180_0 : decode (mB 180) 0 = .ok (.aload_n 0, 1) := by decide +kernel
set_option maxRecDepth 100000 in
theorem d_180_1 : decode (mB 180) 1 = .ok (.getfield 35, 3) := by decide +kernel
set_option maxRecDepth 100000 in
theorem d_180_4 : decode (mB 180) 4 = .ok (.ifCond .le 17, 3) := by decide +kernel
set_option maxRecDepth 100000 in
theorem d_180_7 : decode (mB 180) 7 = .ok (.aload_n 0, 1) := by decide +kernel
set_option maxRecDepth 100000 in
theorem d_180_8 : decode (mB 180) 8 = .ok (.getfield 18, 3) := by decide +kernel
set_option maxRecDepth 100000 in
theorem d_180_11 : decode (mB 180) 11 = .ok (.aload_n 0, 1) := by decide +kernel
set_option maxRecDepth 100000 in
theorem d_180_12 : decode (mB 180) 12 = .ok (.getfield 35, 3) := by decide +kernel
set_option maxRecDepth 100000 in
theorem d_180_15 : decode (mB 180) 15 = .ok (.iconst 1, 1) := by decide +kernel
set_option maxRecDepth 100000 in
theorem d_180_16 : decode (mB 180) 16 = .ok (.isub, 1) := by decide +kernel
set_option maxRecDepth 100000 in
theorem d_180_17 : decode (mB 180) 17 = .ok (.iaload, 1) := by decide +kernel
set_option maxRecDepth 100000 in
theorem d_180_18 : decode (mB 180) 18 = .ok (.goto 4, 3) := by decide +kernel
set_option maxRecDepth 100000 in
theorem d_180_21 : decode (mB 180) 21 = .ok (.iconst 0, 1) := by decide +kernel
set_option maxRecDepth 100000 in
theorem d_180_22 : decode (mB 180) 22 = .ok (.ireturn, 1) := by decide +kernel
set_option maxRecDepth 100000 in
theorem d_213_0 : decode (mB 213) 0 = .ok (.iload_n 0, 1) := by decide +kernel
set_option maxRecDepth 100000 in
theorem d_213_1 : decode (mB 213) 1 = .ok (.iload_n 1, 1) := by decide +kernel
set_option maxRecDepth 100000 in
theorem d_213_2 : decode (mB 213) 2 = .ok (.idiv, 1) := by decide +kernel
set_option maxRecDepth 100000 in
theorem d_213_3 : decode (mB 213) 3 = .ok (.istore_n 2, 1) := by decide +kernel
set_option maxRecDepth 100000 in
theorem d_213_4 : decode (mB 213) 4 = .ok (.iload_n 0, 1) := by decide +kernel
set_option maxRecDepth 100000 in
theorem d_213_5 : decode (mB 213) 5 = .ok (.iload_n 1, 1) := by decide +kernel
set_option maxRecDepth 100000 in
theorem d_213_6 : decode (mB 213) 6 = .ok (.ixor, 1) := by decide +kernel
set_option maxRecDepth 100000 in
theorem d_213_7 : decode (mB 213) 7 = .ok (.ifCond .ge 14, 3) := by decide +kernel
set_option maxRecDepth 100000 in
theorem d_213_10 : decode (mB 213) 10 = .ok (.iload_n 2, 1) := by decide +kernel
set_option maxRecDepth 100000 in
theorem d_213_11 : decode (mB 213) 11 = .ok (.iload_n 1, 1) := by decide +kernel
set_option maxRecDepth 100000 in
theorem d_213_12 : decode (mB 213) 12 = .ok (.imul, 1) := by decide +kernel
set_option maxRecDepth 100000 in
theorem d_213_13 : decode (mB 213) 13 = .ok (.iload_n 0, 1) := by decide +kernel
set_option maxRecDepth 100000 in
theorem d_213_14 : decode (mB 213) 14 = .ok (.if_icmp .eq 7, 3) := by decide +kernel
set_option maxRecDepth 100000 in
theorem d_213_17 : decode (mB 213) 17 = .ok (.iload_n 2, 1) := by decide +kernel
set_option maxRecDepth 100000 in
theorem d_213_18 : decode (mB 213) 18 = .ok (.iconst 1, 1) := by decide +kernel
set_option maxRecDepth 100000 in
theorem d_213_19 : decode (mB 213) 19 = .ok (.isub, 1) := by decide +kernel
set_option maxRecDepth 100000 in
theorem d_213_20 : decode (mB 213) 20 = .ok (.ireturn, 1) := by decide +kernel
set_option maxRecDepth 100000 in
theorem d_213_21 : decode (mB 213) 21 = .ok (.iload_n 2, 1) := by decide +kernel
set_option maxRecDepth 100000 in
theorem d_213_22 : decode (mB 213) 22 = .ok (.ireturn, 1) := by decide +kernel
set_option maxRecDepth 100000 in
theorem d_214_0 : decode (mB 214) 0 = .ok (.iload_n 0, 1) := by decide +kernel
set_option maxRecDepth 100000 in
theorem d_214_1 : decode (mB 214) 1 = .ok (.iload_n 1, 1) := by decide +kernel
set_option maxRecDepth 100000 in
theorem d_214_2 : decode (mB 214) 2 = .ok (.if_icmp .lt 7, 3) := by decide +kernel
set_option maxRecDepth 100000 in
theorem d_214_5 : decode (mB 214) 5 = .ok (.iload_n 0, 1) := by decide +kernel
set_option maxRecDepth 100000 in
theorem d_214_6 : decode (mB 214) 6 = .ok (.goto 4, 3) := by decide +kernel
set_option maxRecDepth 100000 in
theorem d_214_9 : decode (mB 214) 9 = .ok (.iload_n 1, 1) := by decide +kernel
set_option maxRecDepth 100000 in
theorem d_214_10 : decode (mB 214) 10 = .ok (.ireturn, 1) := by decide +kernel
set_option maxRecDepth 100000 in
theorem d_215_0 : decode (mB 215) 0 = .ok (.iload_n 0, 1) := by decide +kernel
set_option maxRecDepth 100000 in
theorem d_215_1 : decode (mB 215) 1 = .ok (.iload_n 1, 1) := by decide +kernel
set_option maxRecDepth 100000 in
theorem d_215_2 : decode (mB 215) 2 = .ok (.if_icmp .gt 7, 3) := by decide +kernel
set_option maxRecDepth 100000 in
theorem d_215_5 : decode (mB 215) 5 = .ok (.iload_n 0, 1) := by decide +kernel
set_option maxRecDepth 100000 in
theorem d_215_6 : decode (mB 215) 6 = .ok (.goto 4, 3) := by decide +kernel
set_option maxRecDepth 100000 in
theorem d_215_9 : decode (mB 215) 9 = .ok (.iload_n 1, 1) := by decide +kernel
set_option maxRecDepth 100000 in
theorem d_215_10 : decode (mB 215) 10 = .ok (.ireturn, 1) := by decide +kernel
set_option maxRecDepth 100000 in
theorem d_216_0 : decode (mB 216) 0 = .ok (.iconst 0, 1) := by decide +kernel
set_option maxRecDepth 100000 in
theorem d_216_1 : decode (mB 216) 1 = .ok (.istore_n 2, 1) := by decide +kernel
set_option maxRecDepth 100000 in
theorem d_216_2 : decode (mB 216) 2 = .ok (.aload_n 0, 1) := by decide +kernel
set_option maxRecDepth 100000 in
theorem d_216_3 : decode (mB 216) 3 = .ok (.arraylength, 1) := by decide +kernel
set_option maxRecDepth 100000 in
theorem d_216_4 : decode (mB 216) 4 = .ok (.istore_n 3, 1) := by decide +kernel
set_option maxRecDepth 100000 in
theorem d_216_5 : decode (mB 216) 5 = .ok (.iload_n 2, 1) := by decide +kernel
set_option maxRecDepth 100000 in
theorem d_216_6 : decode (mB 216) 6 = .ok (.iload_n 3, 1) := by decide +kernel
set_option maxRecDepth 100000 in
theorem d_216_7 : decode (mB 216) 7 = .ok (.if_icmp .ge 13, 3) := by decide +kernel
set_option maxRecDepth 100000 in
theorem d_216_10 : decode (mB 216) 10 = .ok (.aload_n 0, 1) := by decide +kernel
set_option maxRecDepth 100000 in
theorem d_216_11 : decode (mB 216) 11 = .ok (.iload_n 2, 1) := by decide +kernel
set_option maxRecDepth 100000 in
theorem d_216_12 : decode (mB 216) 12 = .ok (.iload_n 1, 1) := by decide +kernel
set_option maxRecDepth 100000 in
theorem d_216_13 : decode (mB 216) 13 = .ok (.iastore, 1) := by decide +kernel
set_option maxRecDepth 100000 in
theorem d_216_14 : decode (mB 216) 14 = .ok (.iinc 2 1, 3) := by decide +kernel
set_option maxRecDepth 100000 in
theorem d_216_17 : decode (mB 216) 17 = .ok (.goto (-12), 3) := by decide +kernel
set_option maxRecDepth 100000 in
theorem d_216_20 : decode (mB 216) 20 = .ok (.return_, 1) := by decide +kernel
set_option maxRecDepth 100000 in
theorem ca_100 : okw (.arrayClass (AT 100)) := okk_w (k := 145) (by decide +kernel)
set_option maxRecDepth 100000 in
theorem ca_101 : okw (.arrayClass (AT 101)) := okk_w (k := 197) (by decide +kernel)
set_option maxRecDepth 100000 in
theorem ca_104 : okw (.arrayOver (AT 104)) := okk_w (k := 95) (by decide +kernel)
set_option maxRecDepth 100000 in
theorem ca_105 : okw (.arrayOver (AT 105)) := okk_w (k := 97) (by decide +kernel)
set_option maxRecDepth 100000 in
theorem ca_106 : okw (.arrayOver (AT 106)) := okk_w (k := 99) (by decide +kernel)
set_option maxRecDepth 100000 in
theorem ca_103 : okw (.arrayOver (AT 103)) := okk_w (k := 205) (by decide +kernel)
set_option maxRecDepth 100000 in
theorem ca_107 : okw (.arrayOver (AT 107)) := okk_w (k := 247) (by decide +kernel)
set_option maxRecDepth 100000 in
theorem co_code : okw (.instanceMethod Lib.objectInit) ∧ okw (.code Lib.objectInit ⟨#[0xb1]⟩ 1 none) := ⟨okk_w (k := 86) (by decide +kernel), okk_w (k := 87) (by decide +kernel)⟩
