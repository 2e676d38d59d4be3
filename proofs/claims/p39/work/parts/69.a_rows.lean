set_option maxRecDepth 100000 in
theorem oi_3 : okw (.methodLink "WhistleStop$Calendar" 3 Lib.objectInit) := okk_w (k := 921) (by decide +kernel)
set_option maxRecDepth 100000 in
theorem d_50_0 : decode (mB 50) 0 = .ok (.aload_n 0, 1) := by decide +kernel
set_option maxRecDepth 100000 in
theorem d_50_1 : decode (mB 50) 1 = .ok (.invokespecial 3, 3) := by decide +kernel
set_option maxRecDepth 100000 in
theorem d_50_4 : decode (mB 50) 4 = .ok (.aload_n 0, 1) := by decide +kernel
set_option maxRecDepth 100000 in
theorem d_50_5 : decode (mB 50) 5 = .ok (.sipush 366, 3) := by decide +kernel
set_option maxRecDepth 100000 in
theorem d_50_8 : decode (mB 50) 8 = .ok (.newarray .int, 2) := by decide +kernel
set_option maxRecDepth 100000 in
theorem d_50_10 : decode (mB 50) 10 = .ok (.putfield 9, 3) := by decide +kernel
set_option maxRecDepth 100000 in
theorem d_50_13 : decode (mB 50) 13 = .ok (.aload_n 0, 1) := by decide +kernel
set_option maxRecDepth 100000 in
theorem d_50_14 : decode (mB 50) 14 = .ok (.iload_n 1, 1) := by decide +kernel
set_option maxRecDepth 100000 in
theorem d_50_15 : decode (mB 50) 15 = .ok (.putfield 15, 3) := by decide +kernel
set_option maxRecDepth 100000 in
theorem d_50_18 : decode (mB 50) 18 = .ok (.aload_n 0, 1) := by decide +kernel
set_option maxRecDepth 100000 in
theorem d_50_19 : decode (mB 50) 19 = .ok (.iload_n 2, 1) := by decide +kernel
set_option maxRecDepth 100000 in
theorem d_50_20 : decode (mB 50) 20 = .ok (.putfield 19, 3) := by decide +kernel
set_option maxRecDepth 100000 in
theorem d_50_23 : decode (mB 50) 23 = .ok (.aload_n 0, 1) := by decide +kernel
set_option maxRecDepth 100000 in
theorem d_50_24 : decode (mB 50) 24 = .ok (.iload_n 3, 1) := by decide +kernel
set_option maxRecDepth 100000 in
theorem d_50_25 : decode (mB 50) 25 = .ok (.putfield 22, 3) := by decide +kernel
set_option maxRecDepth 100000 in
theorem d_50_28 : decode (mB 50) 28 = .ok (.return_, 1) := by decide +kernel
set_option maxRecDepth 100000 in
theorem oi_5 : okw (.methodLink "WhistleStop$Footway" 3 Lib.objectInit) := okk_w (k := 889) (by decide +kernel)
set_option maxRecDepth 100000 in
theorem fl_5_18 : flP "WhistleStop$Footway" 18 5 2 := ⟨_, rfl, by decide, okk_w (k := 896) (by decide +kernel)⟩
set_option maxRecDepth 100000 in
theorem d_58_0 : decode (mB 58) 0 = .ok (.aload_n 0, 1) := by decide +kernel
set_option maxRecDepth 100000 in
theorem d_58_1 : decode (mB 58) 1 = .ok (.invokespecial 3, 3) := by decide +kernel
set_option maxRecDepth 100000 in
theorem d_58_4 : decode (mB 58) 4 = .ok (.aload_n 0, 1) := by decide +kernel
set_option maxRecDepth 100000 in
theorem d_58_5 : decode (mB 58) 5 = .ok (.iload_n 1, 1) := by decide +kernel
set_option maxRecDepth 100000 in
theorem d_58_6 : decode (mB 58) 6 = .ok (.putfield 9, 3) := by decide +kernel
set_option maxRecDepth 100000 in
theorem d_58_9 : decode (mB 58) 9 = .ok (.aload_n 0, 1) := by decide +kernel
set_option maxRecDepth 100000 in
theorem d_58_10 : decode (mB 58) 10 = .ok (.iload_n 2, 1) := by decide +kernel
set_option maxRecDepth 100000 in
theorem d_58_11 : decode (mB 58) 11 = .ok (.putfield 15, 3) := by decide +kernel
set_option maxRecDepth 100000 in
theorem d_58_14 : decode (mB 58) 14 = .ok (.aload_n 0, 1) := by decide +kernel
set_option maxRecDepth 100000 in
theorem d_58_15 : decode (mB 58) 15 = .ok (.iload_n 3, 1) := by decide +kernel
set_option maxRecDepth 100000 in
theorem d_58_16 : decode (mB 58) 16 = .ok (.putfield 18, 3) := by decide +kernel
set_option maxRecDepth 100000 in
theorem d_58_19 : decode (mB 58) 19 = .ok (.return_, 1) := by decide +kernel
set_option maxRecDepth 100000 in
theorem oi_11 : okw (.methodLink "WhistleStop$Trip" 3 Lib.objectInit) := okk_w (k := 951) (by decide +kernel)
set_option maxRecDepth 100000 in
theorem fl_11_9 : flP "WhistleStop$Trip" 9 11 3 := ⟨_, rfl, by decide, okk_w (k := 959) (by decide +kernel)⟩
set_option maxRecDepth 100000 in
theorem fl_11_15 : flP "WhistleStop$Trip" 15 11 4 := ⟨_, rfl, by decide, okk_w (k := 965) (by decide +kernel)⟩
set_option maxRecDepth 100000 in
theorem fl_11_24 : flP "WhistleStop$Trip" 24 11 0 := ⟨_, rfl, by decide, okk_w (k := 952) (by decide +kernel)⟩
set_option maxRecDepth 100000 in
theorem fl_11_32 : flP "WhistleStop$Trip" 32 11 2 := ⟨_, rfl, by decide, okk_w (k := 956) (by decide +kernel)⟩
set_option maxRecDepth 100000 in
theorem d_97_0 : decode (mB 97) 0 = .ok (.aload_n 0, 1) := by decide +kernel
set_option maxRecDepth 100000 in
theorem d_97_1 : decode (mB 97) 1 = .ok (.invokespecial 3, 3) := by decide +kernel
set_option maxRecDepth 100000 in
theorem d_97_4 : decode (mB 97) 4 = .ok (.aload_n 0, 1) := by decide +kernel
set_option maxRecDepth 100000 in
theorem d_97_5 : decode (mB 97) 5 = .ok (.bipush 8, 2) := by decide +kernel
set_option maxRecDepth 100000 in
theorem d_97_7 : decode (mB 97) 7 = .ok (.newarray .int, 2) := by decide +kernel
set_option maxRecDepth 100000 in
theorem d_97_9 : decode (mB 97) 9 = .ok (.putfield 9, 3) := by decide +kernel
set_option maxRecDepth 100000 in
theorem d_97_12 : decode (mB 97) 12 = .ok (.aload_n 0, 1) := by decide +kernel
set_option maxRecDepth 100000 in
theorem d_97_13 : decode (mB 97) 13 = .ok (.bipush 8, 2) := by decide +kernel
set_option maxRecDepth 100000 in
theorem d_97_15 : decode (mB 97) 15 = .ok (.newarray .int, 2) := by decide +kernel
set_option maxRecDepth 100000 in
theorem d_97_17 : decode (mB 97) 17 = .ok (.putfield 15, 3) := by decide +kernel
set_option maxRecDepth 100000 in
theorem d_97_20 : decode (mB 97) 20 = .ok (.aload_n 0, 1) := by decide +kernel
set_option maxRecDepth 100000 in
theorem d_97_21 : decode (mB 97) 21 = .ok (.bipush 8, 2) := by decide +kernel
set_option maxRecDepth 100000 in
theorem d_97_23 : decode (mB 97) 23 = .ok (.newarray .int, 2) := by decide +kernel
set_option maxRecDepth 100000 in
theorem d_97_25 : decode (mB 97) 25 = .ok (.putfield 18, 3) := by decide +kernel
set_option maxRecDepth 100000 in
theorem d_97_28 : decode (mB 97) 28 = .ok (.aload_n 0, 1) := by decide +kernel
set_option maxRecDepth 100000 in
theorem d_97_29 : decode (mB 97) 29 = .ok (.sipush 366, 3) := by decide +kernel
set_option maxRecDepth 100000 in
theorem d_97_32 : decode (mB 97) 32 = .ok (.newarray .int, 2) := by decide +kernel
set_option maxRecDepth 100000 in
theorem d_97_34 : decode (mB 97) 34 = .ok (.putfield 21, 3) := by decide +kernel
set_option maxRecDepth 100000 in
theorem d_97_37 : decode (mB 97) 37 = .ok (.aload_n 0, 1) := by decide +kernel
set_option maxRecDepth 100000 in
theorem d_97_38 : decode (mB 97) 38 = .ok (.iload_n 1, 1) := by decide +kernel
set_option maxRecDepth 100000 in
theorem d_97_39 : decode (mB 97) 39 = .ok (.putfield 24, 3) := by decide +kernel
set_option maxRecDepth 100000 in
theorem d_97_42 : decode (mB 97) 42 = .ok (.aload_n 0, 1) := by decide +kernel
set_option maxRecDepth 100000 in
theorem d_97_43 : decode (mB 97) 43 = .ok (.aload_n 2, 1) := by decide +kernel
set_option maxRecDepth 100000 in
theorem d_97_44 : decode (mB 97) 44 = .ok (.putfield 28, 3) := by decide +kernel
set_option maxRecDepth 100000 in
theorem d_97_47 : decode (mB 97) 47 = .ok (.aload_n 0, 1) := by decide +kernel
set_option maxRecDepth 100000 in
theorem d_97_48 : decode (mB 97) 48 = .ok (.iload_n 3, 1) := by decide +kernel
set_option maxRecDepth 100000 in
theorem d_97_49 : decode (mB 97) 49 = .ok (.putfield 32, 3) := by decide +kernel
set_option maxRecDepth 100000 in
theorem d_97_52 : decode (mB 97) 52 = .ok (.return_, 1) := by decide +kernel
set_option maxRecDepth 100000 in
theorem d_98_0 : decode (mB 98) 0 = .ok (.aload_n 0, 1) := by decide +kernel
set_option maxRecDepth 100000 in
theorem d_98_1 : decode (mB 98) 1 = .ok (.getfield 35, 3) := by decide +kernel
set_option maxRecDepth 100000 in
theorem d_98_4 : decode (mB 98) 4 = .ok (.bipush 8, 2) := by decide +kernel
set_option maxRecDepth 100000 in
theorem d_98_6 : decode (mB 98) 6 = .ok (.if_icmp .ge 43, 3) := by decide +kernel
set_option maxRecDepth 100000 in
theorem d_98_9 : decode (mB 98) 9 = .ok (.aload_n 0, 1) := by decide +kernel
set_option maxRecDepth 100000 in
theorem d_98_10 : decode (mB 98) 10 = .ok (.getfield 9, 3) := by decide +kernel
set_option maxRecDepth 100000 in
theorem d_98_13 : decode (mB 98) 13 = .ok (.aload_n 0, 1) := by decide +kernel
set_option maxRecDepth 100000 in
theorem d_98_14 : decode (mB 98) 14 = .ok (.getfield 35, 3) := by decide +kernel
set_option maxRecDepth 100000 in
theorem d_98_17 : decode (mB 98) 17 = .ok (.iload_n 1, 1) := by decide +kernel
set_option maxRecDepth 100000 in
theorem d_98_18 : decode (mB 98) 18 = .ok (.iastore, 1) := by decide +kernel
set_option maxRecDepth 100000 in
theorem d_98_19 : decode (mB 98) 19 = .ok (.aload_n 0, 1) := by decide +kernel
set_option maxRecDepth 100000 in
theorem d_98_20 : decode (mB 98) 20 = .ok (.getfield 15, 3) := by decide +kernel
set_option maxRecDepth 100000 in
theorem d_98_23 : decode (mB 98) 23 = .ok (.aload_n 0, 1) := by decide +kernel
set_option maxRecDepth 100000 in
theorem d_98_24 : decode (mB 98) 24 = .ok (.getfield 35, 3) := by decide +kernel
set_option maxRecDepth 100000 in
theorem d_98_27 : decode (mB 98) 27 = .ok (.iload_n 2, 1) := by decide +kernel
set_option maxRecDepth 100000 in
theorem d_98_28 : decode (mB 98) 28 = .ok (.iastore, 1) := by decide +kernel
set_option maxRecDepth 100000 in
theorem d_98_29 : decode (mB 98) 29 = .ok (.aload_n 0, 1) := by decide +kernel
set_option maxRecDepth 100000 in
theorem d_98_30 : decode (mB 98) 30 = .ok (.getfield 18, 3) := by decide +kernel
set_option maxRecDepth 100000 in
theorem d_98_33 : decode (mB 98) 33 = .ok (.aload_n 0, 1) := by decide +kernel
set_option maxRecDepth 100000 in
theorem d_98_34 : decode (mB 98) 34 = .ok (.getfield 35, 3) := by decide +kernel
set_option maxRecDepth 100000 in
theorem d_98_37 : decode (mB 98) 37 = .ok (.iload_n 3, 1) := by decide +kernel
set_option maxRecDepth 100000 in
theorem d_98_38 : decode (mB 98) 38 = .ok (.iastore, 1) := by decide +kernel
set_option maxRecDepth 100000 in
theorem d_98_39 : decode (mB 98) 39 = .ok (.aload_n 0, 1) := by decide +kernel
set_option maxRecDepth 100000 in
theorem d_98_40 : decode (mB 98) 40 = .ok (.dup, 1) := by decide +kernel
set_option maxRecDepth 100000 in
theorem d_98_41 : decode (mB 98) 41 = .ok (.getfield 35, 3) := by decide +kernel
set_option maxRecDepth 100000 in
theorem d_98_44 : decode (mB 98) 44 = .ok (.iconst 1, 1) := by decide +kernel
set_option maxRecDepth 100000 in
theorem d_98_45 : decode (mB 98) 45 = .ok (.iadd, 1) := by decide +kernel
set_option maxRecDepth 100000 in
theorem d_98_46 : decode (mB 98) 46 = .ok (.putfield 35, 3) := by decide +kernel
set_option maxRecDepth 100000 in
theorem d_98_49 : decode (mB 98) 49 = .ok (.return_, 1) := by decide +kernel
