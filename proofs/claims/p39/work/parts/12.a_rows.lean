set_option maxRecDepth 100000 in
theorem cd_47 : cdP 47 := ⟨okr (k := 657) rfl (by decide +kernel), by decide +kernel, by decide +kernel, okk_w (k := 37) (by decide +kernel)⟩
set_option maxRecDepth 100000 in
theorem cd_48 : cdP 48 := ⟨okr (k := 625) rfl (by decide +kernel), by decide +kernel, by decide +kernel, okk_w (k := 35) (by decide +kernel)⟩
set_option maxRecDepth 100000 in
theorem cd_56 : cdP 56 := ⟨okr (k := 677) rfl (by decide +kernel), by decide +kernel, by decide +kernel, okk_w (k := 38) (by decide +kernel)⟩
set_option maxRecDepth 100000 in
theorem cd_73 : cdP 73 := ⟨okr (k := 715) rfl (by decide +kernel), by decide +kernel, by decide +kernel, okk_w (k := 40) (by decide +kernel)⟩
set_option maxRecDepth 100000 in
theorem cd_74 : cdP 74 := ⟨okr (k := 536) rfl (by decide +kernel), by decide +kernel, by decide +kernel, okk_w (k := 33) (by decide +kernel)⟩
set_option maxRecDepth 100000 in
theorem cd_79 : cdP 79 := ⟨okr (k := 683) rfl (by decide +kernel), by decide +kernel, by decide +kernel, okk_w (k := 39) (by decide +kernel)⟩
set_option maxRecDepth 100000 in
theorem cd_90 : cdP 90 := ⟨okr (k := 637) rfl (by decide +kernel), by decide +kernel, by decide +kernel, okk_w (k := 36) (by decide +kernel)⟩
set_option maxRecDepth 100000 in
theorem cd_93 : cdP 93 := ⟨okr (k := 592) rfl (by decide +kernel), by decide +kernel, by decide +kernel, okk_w (k := 34) (by decide +kernel)⟩
set_option maxRecDepth 100000 in
theorem fl_0_12 : flP "WhistleStop" 12 0 0 := ⟨_, rfl, by decide, okk_w (k := 768) (by decide +kernel)⟩
set_option maxRecDepth 100000 in
theorem fl_0_33 : flP "WhistleStop" 33 0 3 := ⟨_, rfl, by decide, okk_w (k := 771) (by decide +kernel)⟩
set_option maxRecDepth 100000 in
theorem fl_0_19 : flP "WhistleStop" 19 0 1 := ⟨_, rfl, by decide, okk_w (k := 769) (by decide +kernel)⟩
set_option maxRecDepth 100000 in
theorem fl_0_47 : flP "WhistleStop" 47 0 5 := ⟨_, rfl, by decide, okk_w (k := 773) (by decide +kernel)⟩
set_option maxRecDepth 100000 in
theorem fl_0_40 : flP "WhistleStop" 40 0 4 := ⟨_, rfl, by decide, okk_w (k := 772) (by decide +kernel)⟩
set_option maxRecDepth 100000 in
theorem fl_0_54 : flP "WhistleStop" 54 0 6 := ⟨_, rfl, by decide, okk_w (k := 774) (by decide +kernel)⟩
set_option maxRecDepth 100000 in
theorem oi_0 : okw (.methodLink "WhistleStop" 3 Lib.objectInit) := okk_w (k := 531) (by decide +kernel)
set_option maxRecDepth 100000 in
theorem cl_0_9 : okw (.classLink "WhistleStop" 9 "WhistleStop$Network") := okk_w (k := 532) (by decide +kernel)
set_option maxRecDepth 100000 in
theorem c_30_11 : cinP 30 11 74 0 := ⟨cd_74, ⟨"WhistleStop", okk_w (k := 534) (by decide +kernel)⟩, okk_w (k := 535) (by decide +kernel), by decide +kernel, by decide +kernel, by decide +kernel⟩
set_option maxRecDepth 100000 in
theorem cl_0_16 : okw (.classLink "WhistleStop" 16 "WhistleStop$Runs") := okk_w (k := 589) (by decide +kernel)
set_option maxRecDepth 100000 in
theorem c_30_18 : cinP 30 18 93 0 := ⟨cd_93, ⟨"WhistleStop", okk_w (k := 590) (by decide +kernel)⟩, okk_w (k := 591) (by decide +kernel), by decide +kernel, by decide +kernel, by decide +kernel⟩
set_option maxRecDepth 100000 in
theorem cl_0_23 : okw (.classLink "WhistleStop" 23 "WhistleStop$Board") := okk_w (k := 621) (by decide +kernel)
set_option maxRecDepth 100000 in
theorem c_30_25 : cinP 30 25 48 0 := ⟨cd_48, ⟨"WhistleStop", okk_w (k := 623) (by decide +kernel)⟩, okk_w (k := 624) (by decide +kernel), by decide +kernel, by decide +kernel, by decide +kernel⟩
set_option maxRecDepth 100000 in
theorem fl_0_26 : flP "WhistleStop" 26 0 2 := ⟨_, rfl, by decide, okk_w (k := 770) (by decide +kernel)⟩
set_option maxRecDepth 100000 in
theorem cl_0_30 : okw (.classLink "WhistleStop" 30 "WhistleStop$Onward") := okk_w (k := 634) (by decide +kernel)
set_option maxRecDepth 100000 in
theorem c_30_32 : cinP 30 32 90 0 := ⟨cd_90, ⟨"WhistleStop", okk_w (k := 635) (by decide +kernel)⟩, okk_w (k := 636) (by decide +kernel), by decide +kernel, by decide +kernel, by decide +kernel⟩
set_option maxRecDepth 100000 in
theorem cl_0_37 : okw (.classLink "WhistleStop" 37 "WhistleStop$Backward") := okk_w (k := 654) (by decide +kernel)
set_option maxRecDepth 100000 in
theorem c_30_39 : cinP 30 39 47 0 := ⟨cd_47, ⟨"WhistleStop", okk_w (k := 655) (by decide +kernel)⟩, okk_w (k := 656) (by decide +kernel), by decide +kernel, by decide +kernel, by decide +kernel⟩
set_option maxRecDepth 100000 in
theorem cl_0_44 : okw (.classLink "WhistleStop" 44 "WhistleStop$Fares") := okk_w (k := 674) (by decide +kernel)
set_option maxRecDepth 100000 in
theorem c_30_46 : ciP 30 46 56 0 := ⟨cd_56, okk_w (k := 675) (by decide +kernel), okk_w (k := 676) (by decide +kernel), by decide +kernel, by decide +kernel, by decide +kernel⟩
set_option maxRecDepth 100000 in
theorem cl_0_51 : okw (.classLink "WhistleStop" 51 "WhistleStop$Journey") := okk_w (k := 712) (by decide +kernel)
set_option maxRecDepth 100000 in
theorem c_30_53 : cinP 30 53 73 0 := ⟨cd_73, ⟨"WhistleStop", okk_w (k := 713) (by decide +kernel)⟩, okk_w (k := 714) (by decide +kernel), by decide +kernel, by decide +kernel, by decide +kernel⟩
set_option maxRecDepth 100000 in
theorem d_30_0 : decode (mB 30) 0 = .ok (.aload_n 0, 1) := by decide +kernel
set_option maxRecDepth 100000 in
theorem d_30_1 : decode (mB 30) 1 = .ok (.invokespecial 3, 3) := by decide +kernel
set_option maxRecDepth 100000 in
theorem d_30_4 : decode (mB 30) 4 = .ok (.aload_n 0, 1) := by decide +kernel
set_option maxRecDepth 100000 in
theorem d_30_5 : decode (mB 30) 5 = .ok (.new 9, 3) := by decide +kernel
set_option maxRecDepth 100000 in
theorem d_30_8 : decode (mB 30) 8 = .ok (.dup, 1) := by decide +kernel
set_option maxRecDepth 100000 in
theorem d_30_9 : decode (mB 30) 9 = .ok (.invokespecial 11, 3) := by decide +kernel
set_option maxRecDepth 100000 in
theorem d_30_12 : decode (mB 30) 12 = .ok (.putfield 12, 3) := by decide +kernel
set_option maxRecDepth 100000 in
theorem d_30_15 : decode (mB 30) 15 = .ok (.aload_n 0, 1) := by decide +kernel
set_option maxRecDepth 100000 in
theorem d_30_16 : decode (mB 30) 16 = .ok (.new 16, 3) := by decide +kernel
set_option maxRecDepth 100000 in
theorem d_30_19 : decode (mB 30) 19 = .ok (.dup, 1) := by decide +kernel
set_option maxRecDepth 100000 in
theorem d_30_20 : decode (mB 30) 20 = .ok (.invokespecial 18, 3) := by decide +kernel
set_option maxRecDepth 100000 in
theorem d_30_23 : decode (mB 30) 23 = .ok (.putfield 19, 3) := by decide +kernel
set_option maxRecDepth 100000 in
theorem d_30_26 : decode (mB 30) 26 = .ok (.aload_n 0, 1) := by decide +kernel
set_option maxRecDepth 100000 in
theorem d_30_27 : decode (mB 30) 27 = .ok (.new 23, 3) := by decide +kernel
set_option maxRecDepth 100000 in
theorem d_30_30 : decode (mB 30) 30 = .ok (.dup, 1) := by decide +kernel
set_option maxRecDepth 100000 in
theorem d_30_31 : decode (mB 30) 31 = .ok (.invokespecial 25, 3) := by decide +kernel
set_option maxRecDepth 100000 in
theorem d_30_34 : decode (mB 30) 34 = .ok (.putfield 26, 3) := by decide +kernel
set_option maxRecDepth 100000 in
theorem d_30_37 : decode (mB 30) 37 = .ok (.aload_n 0, 1) := by decide +kernel
set_option maxRecDepth 100000 in
theorem d_30_38 : decode (mB 30) 38 = .ok (.new 30, 3) := by decide +kernel
set_option maxRecDepth 100000 in
theorem d_30_41 : decode (mB 30) 41 = .ok (.dup, 1) := by decide +kernel
set_option maxRecDepth 100000 in
theorem d_30_42 : decode (mB 30) 42 = .ok (.invokespecial 32, 3) := by decide +kernel
set_option maxRecDepth 100000 in
theorem d_30_45 : decode (mB 30) 45 = .ok (.putfield 33, 3) := by decide +kernel
set_option maxRecDepth 100000 in
theorem d_30_48 : decode (mB 30) 48 = .ok (.aload_n 0, 1) := by decide +kernel
set_option maxRecDepth 100000 in
theorem d_30_49 : decode (mB 30) 49 = .ok (.new 37, 3) := by decide +kernel
set_option maxRecDepth 100000 in
theorem d_30_52 : decode (mB 30) 52 = .ok (.dup, 1) := by decide +kernel
set_option maxRecDepth 100000 in
theorem d_30_53 : decode (mB 30) 53 = .ok (.invokespecial 39, 3) := by decide +kernel
set_option maxRecDepth 100000 in
theorem d_30_56 : decode (mB 30) 56 = .ok (.putfield 40, 3) := by decide +kernel
set_option maxRecDepth 100000 in
theorem d_30_59 : decode (mB 30) 59 = .ok (.aload_n 0, 1) := by decide +kernel
set_option maxRecDepth 100000 in
theorem d_30_60 : decode (mB 30) 60 = .ok (.new 44, 3) := by decide +kernel
set_option maxRecDepth 100000 in
theorem d_30_63 : decode (mB 30) 63 = .ok (.dup, 1) := by decide +kernel
set_option maxRecDepth 100000 in
theorem d_30_64 : decode (mB 30) 64 = .ok (.invokespecial 46, 3) := by decide +kernel
set_option maxRecDepth 100000 in
theorem d_30_67 : decode (mB 30) 67 = .ok (.putfield 47, 3) := by decide +kernel
set_option maxRecDepth 100000 in
theorem d_30_70 : decode (mB 30) 70 = .ok (.aload_n 0, 1) := by decide +kernel
set_option maxRecDepth 100000 in
theorem d_30_71 : decode (mB 30) 71 = .ok (.new 51, 3) := by decide +kernel
set_option maxRecDepth 100000 in
theorem d_30_74 : decode (mB 30) 74 = .ok (.dup, 1) := by decide +kernel
set_option maxRecDepth 100000 in
theorem d_30_75 : decode (mB 30) 75 = .ok (.invokespecial 53, 3) := by decide +kernel
set_option maxRecDepth 100000 in
theorem d_30_78 : decode (mB 30) 78 = .ok (.putfield 54, 3) := by decide +kernel
set_option maxRecDepth 100000 in
theorem d_30_81 : decode (mB 30) 81 = .ok (.return_, 1) := by decide +kernel
set_option maxRecDepth 100000 in
theorem fl_1_11 : flP "WhistleStop$Backward" 11 1 0 := ⟨_, rfl, by decide, okk_w (k := 660) (by decide +kernel)⟩
set_option maxRecDepth 100000 in
theorem fl_1_16 : flP "WhistleStop$Backward" 16 1 1 := ⟨_, rfl, by decide, okk_w (k := 661) (by decide +kernel)⟩
set_option maxRecDepth 100000 in
theorem oi_1 : okw (.methodLink "WhistleStop$Backward" 3 Lib.objectInit) := okk_w (k := 658) (by decide +kernel)
set_option maxRecDepth 100000 in
theorem cl_1_9 : okw (.classLink "WhistleStop$Backward" 9 "[[I") := okk_w (k := 659) (by decide +kernel)
set_option maxRecDepth 100000 in
theorem d_47_0 : decode (mB 47) 0 = .ok (.aload_n 0, 1) := by decide +kernel
set_option maxRecDepth 100000 in
theorem d_47_1 : decode (mB 47) 1 = .ok (.invokespecial 3, 3) := by decide +kernel
set_option maxRecDepth 100000 in
theorem d_47_4 : decode (mB 47) 4 = .ok (.aload_n 0, 1) := by decide +kernel
set_option maxRecDepth 100000 in
theorem d_47_5 : decode (mB 47) 5 = .ok (.bipush 7, 2) := by decide +kernel
set_option maxRecDepth 100000 in
theorem d_47_7 : decode (mB 47) 7 = .ok (.bipush 16, 2) := by decide +kernel
set_option maxRecDepth 100000 in
theorem d_47_9 : decode (mB 47) 9 = .ok (.multianewarray 9 2, 4) := by decide +kernel
set_option maxRecDepth 100000 in
theorem d_47_13 : decode (mB 47) 13 = .ok (.putfield 11, 3) := by decide +kernel
set_option maxRecDepth 100000 in
theorem d_47_16 : decode (mB 47) 16 = .ok (.aload_n 0, 1) := by decide +kernel
set_option maxRecDepth 100000 in
theorem d_47_17 : decode (mB 47) 17 = .ok (.bipush 7, 2) := by decide +kernel
set_option maxRecDepth 100000 in
theorem d_47_19 : decode (mB 47) 19 = .ok (.bipush 16, 2) := by decide +kernel
set_option maxRecDepth 100000 in
theorem d_47_21 : decode (mB 47) 21 = .ok (.multianewarray 9 2, 4) := by decide +kernel
set_option maxRecDepth 100000 in
theorem d_47_25 : decode (mB 47) 25 = .ok (.putfield 16, 3) := by decide +kernel
set_option maxRecDepth 100000 in
theorem d_47_28 : decode (mB 47) 28 = .ok (.return_, 1) := by decide +kernel
set_option maxRecDepth 100000 in
theorem oi_2 : okw (.methodLink "WhistleStop$Board" 3 Lib.objectInit) := okk_w (k := 626) (by decide +kernel)
set_option maxRecDepth 100000 in
theorem fl_2_9 : flP "WhistleStop$Board" 9 2 0 := ⟨_, rfl, by decide, okk_w (k := 627) (by decide +kernel)⟩
set_option maxRecDepth 100000 in
theorem d_48_0 : decode (mB 48) 0 = .ok (.aload_n 0, 1) := by decide +kernel
set_option maxRecDepth 100000 in
theorem d_48_1 : decode (mB 48) 1 = .ok (.invokespecial 3, 3) := by decide +kernel
set_option maxRecDepth 100000 in
theorem d_48_4 : decode (mB 48) 4 = .ok (.aload_n 0, 1) := by decide +kernel
set_option maxRecDepth 100000 in
theorem d_48_5 : decode (mB 48) 5 = .ok (.sipush 1344, 3) := by decide +kernel
set_option maxRecDepth 100000 in
theorem d_48_8 : decode (mB 48) 8 = .ok (.newarray .long, 2) := by decide +kernel
set_option maxRecDepth 100000 in
theorem d_48_10 : decode (mB 48) 10 = .ok (.putfield 9, 3) := by decide +kernel
set_option maxRecDepth 100000 in
theorem d_48_13 : decode (mB 48) 13 = .ok (.return_, 1) := by decide +kernel
set_option maxRecDepth 100000 in
theorem fl_4_17 : flP "WhistleStop$Fares" 17 4 1 := ⟨_, rfl, by decide, okk_w (k := 697) (by decide +kernel)⟩
set_option maxRecDepth 100000 in
theorem fl_4_11 : flP "WhistleStop$Fares" 11 4 0 := ⟨_, rfl, by decide, okk_w (k := 696) (by decide +kernel)⟩
set_option maxRecDepth 100000 in
theorem oi_4 : okw (.methodLink "WhistleStop$Fares" 3 Lib.objectInit) := okk_w (k := 678) (by decide +kernel)
set_option maxRecDepth 100000 in
theorem cl_4_9 : okw (.classLink "WhistleStop$Fares" 9 "WhistleStop$Offers") := okk_w (k := 679) (by decide +kernel)
set_option maxRecDepth 100000 in
theorem c_56_20 : cinP 56 20 79 0 := ⟨cd_79, ⟨"WhistleStop", okk_w (k := 681) (by decide +kernel)⟩, okk_w (k := 682) (by decide +kernel), by decide +kernel, by decide +kernel, by decide +kernel⟩
set_option maxRecDepth 100000 in
theorem d_56_0 : decode (mB 56) 0 = .ok (.aload_n 0, 1) := by decide +kernel
set_option maxRecDepth 100000 in
theorem d_56_1 : decode (mB 56) 1 = .ok (.invokespecial 3, 3) := by decide +kernel
set_option maxRecDepth 100000 in
theorem d_56_4 : decode (mB 56) 4 = .ok (.aload_n 0, 1) := by decide +kernel
set_option maxRecDepth 100000 in
theorem d_56_5 : decode (mB 56) 5 = .ok (.bipush 16, 2) := by decide +kernel
set_option maxRecDepth 100000 in
theorem d_56_7 : decode (mB 56) 7 = .ok (.anewarray 9, 3) := by decide +kernel
set_option maxRecDepth 100000 in
theorem d_56_10 : decode (mB 56) 10 = .ok (.putfield 11, 3) := by decide +kernel
set_option maxRecDepth 100000 in
theorem d_56_13 : decode (mB 56) 13 = .ok (.aload_n 0, 1) := by decide +kernel
set_option maxRecDepth 100000 in
theorem d_56_14 : decode (mB 56) 14 = .ok (.bipush 16, 2) := by decide +kernel
set_option maxRecDepth 100000 in
theorem d_56_16 : decode (mB 56) 16 = .ok (.anewarray 9, 3) := by decide +kernel
set_option maxRecDepth 100000 in
theorem d_56_19 : decode (mB 56) 19 = .ok (.putfield 17, 3) := by decide +kernel
set_option maxRecDepth 100000 in
theorem d_56_22 : decode (mB 56) 22 = .ok (.iconst 0, 1) := by decide +kernel
set_option maxRecDepth 100000 in
theorem d_56_23 : decode (mB 56) 23 = .ok (.istore_n 1, 1) := by decide +kernel
set_option maxRecDepth 100000 in
theorem d_56_24 : decode (mB 56) 24 = .ok (.iload_n 1, 1) := by decide +kernel
set_option maxRecDepth 100000 in
theorem d_56_25 : decode (mB 56) 25 = .ok (.bipush 16, 2) := by decide +kernel
set_option maxRecDepth 100000 in
theorem d_56_27 : decode (mB 56) 27 = .ok (.if_icmp .ge 35, 3) := by decide +kernel
set_option maxRecDepth 100000 in
theorem d_56_30 : decode (mB 56) 30 = .ok (.aload_n 0, 1) := by decide +kernel
set_option maxRecDepth 100000 in
theorem d_56_31 : decode (mB 56) 31 = .ok (.getfield 11, 3) := by decide +kernel
set_option maxRecDepth 100000 in
theorem d_56_34 : decode (mB 56) 34 = .ok (.iload_n 1, 1) := by decide +kernel
set_option maxRecDepth 100000 in
theorem d_56_35 : decode (mB 56) 35 = .ok (.new 9, 3) := by decide +kernel
set_option maxRecDepth 100000 in
theorem d_56_38 : decode (mB 56) 38 = .ok (.dup, 1) := by decide +kernel
set_option maxRecDepth 100000 in
theorem d_56_39 : decode (mB 56) 39 = .ok (.invokespecial 20, 3) := by decide +kernel
set_option maxRecDepth 100000 in
theorem d_56_42 : decode (mB 56) 42 = .ok (.aastore, 1) := by decide +kernel
set_option maxRecDepth 100000 in
theorem d_56_43 : decode (mB 56) 43 = .ok (.aload_n 0, 1) := by decide +kernel
set_option maxRecDepth 100000 in
theorem d_56_44 : decode (mB 56) 44 = .ok (.getfield 17, 3) := by decide +kernel
set_option maxRecDepth 100000 in
theorem d_56_47 : decode (mB 56) 47 = .ok (.iload_n 1, 1) := by decide +kernel
set_option maxRecDepth 100000 in
theorem d_56_48 : decode (mB 56) 48 = .ok (.new 9, 3) := by decide +kernel
set_option maxRecDepth 100000 in
theorem d_56_51 : decode (mB 56) 51 = .ok (.dup, 1) := by decide +kernel
set_option maxRecDepth 100000 in
theorem d_56_52 : decode (mB 56) 52 = .ok (.invokespecial 20, 3) := by decide +kernel
set_option maxRecDepth 100000 in
theorem d_56_55 : decode (mB 56) 55 = .ok (.aastore, 1) := by decide +kernel
set_option maxRecDepth 100000 in
theorem d_56_56 : decode (mB 56) 56 = .ok (.iinc 1 1, 3) := by decide +kernel
set_option maxRecDepth 100000 in
theorem d_56_59 : decode (mB 56) 59 = .ok (.goto (-35), 3) := by decide +kernel
set_option maxRecDepth 100000 in
theorem d_56_62 : decode (mB 56) 62 = .ok (.return_, 1) := by decide +kernel
set_option maxRecDepth 100000 in
theorem fl_6_27 : flP "WhistleStop$Journey" 27 6 9 := ⟨_, rfl, by decide, okk_w (k := 729) (by decide +kernel)⟩
set_option maxRecDepth 100000 in
theorem fl_6_33 : flP "WhistleStop$Journey" 33 6 11 := ⟨_, rfl, by decide, okk_w (k := 733) (by decide +kernel)⟩
set_option maxRecDepth 100000 in
theorem fl_6_11 : flP "WhistleStop$Journey" 11 6 5 := ⟨_, rfl, by decide, okk_w (k := 725) (by decide +kernel)⟩
set_option maxRecDepth 100000 in
theorem fl_6_17 : flP "WhistleStop$Journey" 17 6 6 := ⟨_, rfl, by decide, okk_w (k := 726) (by decide +kernel)⟩
set_option maxRecDepth 100000 in
theorem fl_6_21 : flP "WhistleStop$Journey" 21 6 7 := ⟨_, rfl, by decide, okk_w (k := 727) (by decide +kernel)⟩
set_option maxRecDepth 100000 in
theorem fl_6_24 : flP "WhistleStop$Journey" 24 6 8 := ⟨_, rfl, by decide, okk_w (k := 728) (by decide +kernel)⟩
set_option maxRecDepth 100000 in
theorem fl_6_30 : flP "WhistleStop$Journey" 30 6 10 := ⟨_, rfl, by decide, okk_w (k := 731) (by decide +kernel)⟩
set_option maxRecDepth 100000 in
theorem oi_6 : okw (.methodLink "WhistleStop$Journey" 3 Lib.objectInit) := okk_w (k := 716) (by decide +kernel)
set_option maxRecDepth 100000 in
theorem cl_6_9 : okw (.classLink "WhistleStop$Journey" 9 "WhistleStop$Trip") := okk_w (k := 717) (by decide +kernel)
set_option maxRecDepth 100000 in
theorem d_73_0 : decode (mB 73) 0 = .ok (.aload_n 0, 1) := by decide +kernel
set_option maxRecDepth 100000 in
theorem d_73_1 : decode (mB 73) 1 = .ok (.invokespecial 3, 3) := by decide +kernel
set_option maxRecDepth 100000 in
theorem d_73_4 : decode (mB 73) 4 = .ok (.aload_n 0, 1) := by decide +kernel
set_option maxRecDepth 100000 in
theorem d_73_5 : decode (mB 73) 5 = .ok (.bipush 13, 2) := by decide +kernel
set_option maxRecDepth 100000 in
theorem d_73_7 : decode (mB 73) 7 = .ok (.anewarray 9, 3) := by decide +kernel
set_option maxRecDepth 100000 in
theorem d_73_10 : decode (mB 73) 10 = .ok (.putfield 11, 3) := by decide +kernel
set_option maxRecDepth 100000 in
theorem d_73_13 : decode (mB 73) 13 = .ok (.aload_n 0, 1) := by decide +kernel
set_option maxRecDepth 100000 in
theorem d_73_14 : decode (mB 73) 14 = .ok (.bipush 13, 2) := by decide +kernel
set_option maxRecDepth 100000 in
theorem d_73_16 : decode (mB 73) 16 = .ok (.newarray .int, 2) := by decide +kernel
set_option maxRecDepth 100000 in
theorem d_73_18 : decode (mB 73) 18 = .ok (.putfield 17, 3) := by decide +kernel
set_option maxRecDepth 100000 in
theorem d_73_21 : decode (mB 73) 21 = .ok (.aload_n 0, 1) := by decide +kernel
set_option maxRecDepth 100000 in
theorem d_73_22 : decode (mB 73) 22 = .ok (.bipush 13, 2) := by decide +kernel
set_option maxRecDepth 100000 in
theorem d_73_24 : decode (mB 73) 24 = .ok (.newarray .int, 2) := by decide +kernel
set_option maxRecDepth 100000 in
theorem d_73_26 : decode (mB 73) 26 = .ok (.putfield 21, 3) := by decide +kernel
set_option maxRecDepth 100000 in
theorem d_73_29 : decode (mB 73) 29 = .ok (.aload_n 0, 1) := by decide +kernel
set_option maxRecDepth 100000 in
theorem d_73_30 : decode (mB 73) 30 = .ok (.bipush 13, 2) := by decide +kernel
set_option maxRecDepth 100000 in
theorem d_73_32 : decode (mB 73) 32 = .ok (.newarray .int, 2) := by decide +kernel
set_option maxRecDepth 100000 in
theorem d_73_34 : decode (mB 73) 34 = .ok (.putfield 24, 3) := by decide +kernel
set_option maxRecDepth 100000 in
theorem d_73_37 : decode (mB 73) 37 = .ok (.aload_n 0, 1) := by decide +kernel
set_option maxRecDepth 100000 in
theorem d_73_38 : decode (mB 73) 38 = .ok (.bipush 13, 2) := by decide +kernel
set_option maxRecDepth 100000 in
theorem d_73_40 : decode (mB 73) 40 = .ok (.newarray .int, 2) := by decide +kernel
set_option maxRecDepth 100000 in
theorem d_73_42 : decode (mB 73) 42 = .ok (.putfield 27, 3) := by decide +kernel
set_option maxRecDepth 100000 in
theorem d_73_45 : decode (mB 73) 45 = .ok (.aload_n 0, 1) := by decide +kernel
set_option maxRecDepth 100000 in
theorem d_73_46 : decode (mB 73) 46 = .ok (.bipush 13, 2) := by decide +kernel
set_option maxRecDepth 100000 in
theorem d_73_48 : decode (mB 73) 48 = .ok (.newarray .int, 2) := by decide +kernel
set_option maxRecDepth 100000 in
theorem d_73_50 : decode (mB 73) 50 = .ok (.putfield 30, 3) := by decide +kernel
set_option maxRecDepth 100000 in
theorem d_73_53 : decode (mB 73) 53 = .ok (.aload_n 0, 1) := by decide +kernel
set_option maxRecDepth 100000 in
theorem d_73_54 : decode (mB 73) 54 = .ok (.bipush 13, 2) := by decide +kernel
set_option maxRecDepth 100000 in
theorem d_73_56 : decode (mB 73) 56 = .ok (.newarray .int, 2) := by decide +kernel
set_option maxRecDepth 100000 in
theorem d_73_58 : decode (mB 73) 58 = .ok (.putfield 33, 3) := by decide +kernel
set_option maxRecDepth 100000 in
theorem d_73_61 : decode (mB 73) 61 = .ok (.return_, 1) := by decide +kernel
set_option maxRecDepth 100000 in
theorem oi_7 : okw (.methodLink "WhistleStop$Network" 3 Lib.objectInit) := okk_w (k := 537) (by decide +kernel)
set_option maxRecDepth 100000 in
theorem fl_7_9 : flP "WhistleStop$Network" 9 7 0 := ⟨_, rfl, by decide, okk_w (k := 544) (by decide +kernel)⟩
set_option maxRecDepth 100000 in
theorem cl_7_15 : okw (.classLink "WhistleStop$Network" 15 "WhistleStop$Footway") := okk_w (k := 538) (by decide +kernel)
set_option maxRecDepth 100000 in
theorem fl_7_17 : flP "WhistleStop$Network" 17 7 1 := ⟨_, rfl, by decide, okk_w (k := 550) (by decide +kernel)⟩
set_option maxRecDepth 100000 in
theorem cl_7_21 : okw (.classLink "WhistleStop$Network" 21 "WhistleStop$Calendar") := okk_w (k := 540) (by decide +kernel)
set_option maxRecDepth 100000 in
theorem fl_7_23 : flP "WhistleStop$Network" 23 7 2 := ⟨_, rfl, by decide, okk_w (k := 556) (by decide +kernel)⟩
set_option maxRecDepth 100000 in
theorem cl_7_27 : okw (.classLink "WhistleStop$Network" 27 "WhistleStop$Trip") := okk_w (k := 542) (by decide +kernel)
set_option maxRecDepth 100000 in
theorem fl_7_29 : flP "WhistleStop$Network" 29 7 3 := ⟨_, rfl, by decide, okk_w (k := 558) (by decide +kernel)⟩
set_option maxRecDepth 100000 in
theorem d_74_0 : decode (mB 74) 0 = .ok (.aload_n 0, 1) := by decide +kernel
set_option maxRecDepth 100000 in
theorem d_74_1 : decode (mB 74) 1 = .ok (.invokespecial 3, 3) := by decide +kernel
set_option maxRecDepth 100000 in
theorem d_74_4 : decode (mB 74) 4 = .ok (.aload_n 0, 1) := by decide +kernel
set_option maxRecDepth 100000 in
theorem d_74_5 : decode (mB 74) 5 = .ok (.bipush 16, 2) := by decide +kernel
set_option maxRecDepth 100000 in
theorem d_74_7 : decode (mB 74) 7 = .ok (.newarray .int, 2) := by decide +kernel
set_option maxRecDepth 100000 in
theorem d_74_9 : decode (mB 74) 9 = .ok (.putfield 9, 3) := by decide +kernel
set_option maxRecDepth 100000 in
theorem d_74_12 : decode (mB 74) 12 = .ok (.aload_n 0, 1) := by decide +kernel
set_option maxRecDepth 100000 in
theorem d_74_13 : decode (mB 74) 13 = .ok (.bipush 20, 2) := by decide +kernel
set_option maxRecDepth 100000 in
theorem d_74_15 : decode (mB 74) 15 = .ok (.anewarray 15, 3) := by decide +kernel
set_option maxRecDepth 100000 in
theorem d_74_18 : decode (mB 74) 18 = .ok (.putfield 17, 3) := by decide +kernel
set_option maxRecDepth 100000 in
theorem d_74_21 : decode (mB 74) 21 = .ok (.aload_n 0, 1) := by decide +kernel
set_option maxRecDepth 100000 in
theorem d_74_22 : decode (mB 74) 22 = .ok (.bipush 6, 2) := by decide +kernel
set_option maxRecDepth 100000 in
theorem d_74_24 : decode (mB 74) 24 = .ok (.anewarray 21, 3) := by decide +kernel
set_option maxRecDepth 100000 in
theorem d_74_27 : decode (mB 74) 27 = .ok (.putfield 23, 3) := by decide +kernel
set_option maxRecDepth 100000 in
theorem d_74_30 : decode (mB 74) 30 = .ok (.aload_n 0, 1) := by decide +kernel
set_option maxRecDepth 100000 in
theorem d_74_31 : decode (mB 74) 31 = .ok (.bipush 24, 2) := by decide +kernel
set_option maxRecDepth 100000 in
theorem d_74_33 : decode (mB 74) 33 = .ok (.anewarray 27, 3) := by decide +kernel
set_option maxRecDepth 100000 in
theorem d_74_36 : decode (mB 74) 36 = .ok (.putfield 29, 3) := by decide +kernel
set_option maxRecDepth 100000 in
theorem d_74_39 : decode (mB 74) 39 = .ok (.return_, 1) := by decide +kernel
set_option maxRecDepth 100000 in
theorem fl_8_11 : flP "WhistleStop$Offers" 11 8 0 := ⟨_, rfl, by decide, okk_w (k := 685) (by decide +kernel)⟩
set_option maxRecDepth 100000 in
theorem fl_8_15 : flP "WhistleStop$Offers" 15 8 1 := ⟨_, rfl, by decide, okk_w (k := 686) (by decide +kernel)⟩
set_option maxRecDepth 100000 in
theorem oi_8 : okw (.methodLink "WhistleStop$Offers" 3 Lib.objectInit) := okk_w (k := 684) (by decide +kernel)
set_option maxRecDepth 100000 in
theorem d_79_0 : decode (mB 79) 0 = .ok (.aload_n 0, 1) := by decide +kernel
set_option maxRecDepth 100000 in
theorem d_79_1 : decode (mB 79) 1 = .ok (.invokespecial 3, 3) := by decide +kernel
set_option maxRecDepth 100000 in
theorem d_79_4 : decode (mB 79) 4 = .ok (.aload_n 0, 1) := by decide +kernel
set_option maxRecDepth 100000 in
theorem d_79_5 : decode (mB 79) 5 = .ok (.bipush 16, 2) := by decide +kernel
set_option maxRecDepth 100000 in
theorem d_79_7 : decode (mB 79) 7 = .ok (.newarray .int, 2) := by decide +kernel
set_option maxRecDepth 100000 in
theorem d_79_9 : decode (mB 79) 9 = .ok (.putfield 11, 3) := by decide +kernel
set_option maxRecDepth 100000 in
theorem d_79_12 : decode (mB 79) 12 = .ok (.aload_n 0, 1) := by decide +kernel
set_option maxRecDepth 100000 in
theorem d_79_13 : decode (mB 79) 13 = .ok (.bipush 16, 2) := by decide +kernel
set_option maxRecDepth 100000 in
theorem d_79_15 : decode (mB 79) 15 = .ok (.newarray .int, 2) := by decide +kernel
set_option maxRecDepth 100000 in
theorem d_79_17 : decode (mB 79) 17 = .ok (.putfield 15, 3) := by decide +kernel
set_option maxRecDepth 100000 in
theorem d_79_20 : decode (mB 79) 20 = .ok (.return_, 1) := by decide +kernel
set_option maxRecDepth 100000 in
theorem fl_9_11 : flP "WhistleStop$Onward" 11 9 0 := ⟨_, rfl, by decide, okk_w (k := 641) (by decide +kernel)⟩
set_option maxRecDepth 100000 in
theorem fl_9_16 : flP "WhistleStop$Onward" 16 9 1 := ⟨_, rfl, by decide, okk_w (k := 642) (by decide +kernel)⟩
set_option maxRecDepth 100000 in
theorem fl_9_19 : flP "WhistleStop$Onward" 19 9 2 := ⟨_, rfl, by decide, okk_w (k := 643) (by decide +kernel)⟩
set_option maxRecDepth 100000 in
theorem oi_9 : okw (.methodLink "WhistleStop$Onward" 3 Lib.objectInit) := okk_w (k := 638) (by decide +kernel)
set_option maxRecDepth 100000 in
theorem cl_9_9 : okw (.classLink "WhistleStop$Onward" 9 "[[I") := okk_w (k := 639) (by decide +kernel)
set_option maxRecDepth 100000 in
theorem d_90_0 : decode (mB 90) 0 = .ok (.aload_n 0, 1) := by decide +kernel
set_option maxRecDepth 100000 in
theorem d_90_1 : decode (mB 90) 1 = .ok (.invokespecial 3, 3) := by decide +kernel
set_option maxRecDepth 100000 in
theorem d_90_4 : decode (mB 90) 4 = .ok (.aload_n 0, 1) := by decide +kernel
set_option maxRecDepth 100000 in
theorem d_90_5 : decode (mB 90) 5 = .ok (.bipush 7, 2) := by decide +kernel
set_option maxRecDepth 100000 in
theorem d_90_7 : decode (mB 90) 7 = .ok (.bipush 16, 2) := by decide +kernel
set_option maxRecDepth 100000 in
theorem d_90_9 : decode (mB 90) 9 = .ok (.multianewarray 9 2, 4) := by decide +kernel
set_option maxRecDepth 100000 in
theorem d_90_13 : decode (mB 90) 13 = .ok (.putfield 11, 3) := by decide +kernel
set_option maxRecDepth 100000 in
theorem d_90_16 : decode (mB 90) 16 = .ok (.aload_n 0, 1) := by decide +kernel
set_option maxRecDepth 100000 in
theorem d_90_17 : decode (mB 90) 17 = .ok (.bipush 7, 2) := by decide +kernel
set_option maxRecDepth 100000 in
theorem d_90_19 : decode (mB 90) 19 = .ok (.bipush 16, 2) := by decide +kernel
set_option maxRecDepth 100000 in
theorem d_90_21 : decode (mB 90) 21 = .ok (.multianewarray 9 2, 4) := by decide +kernel
set_option maxRecDepth 100000 in
theorem d_90_25 : decode (mB 90) 25 = .ok (.putfield 16, 3) := by decide +kernel
set_option maxRecDepth 100000 in
theorem d_90_28 : decode (mB 90) 28 = .ok (.aload_n 0, 1) := by decide +kernel
set_option maxRecDepth 100000 in
theorem d_90_29 : decode (mB 90) 29 = .ok (.bipush 16, 2) := by decide +kernel
set_option maxRecDepth 100000 in
theorem d_90_31 : decode (mB 90) 31 = .ok (.newarray .int, 2) := by decide +kernel
set_option maxRecDepth 100000 in
theorem d_90_33 : decode (mB 90) 33 = .ok (.putfield 19, 3) := by decide +kernel
set_option maxRecDepth 100000 in
theorem d_90_36 : decode (mB 90) 36 = .ok (.return_, 1) := by decide +kernel
set_option maxRecDepth 100000 in
theorem fl_10_11 : flP "WhistleStop$Runs" 11 10 0 := ⟨_, rfl, by decide, okk_w (k := 595) (by decide +kernel)⟩
set_option maxRecDepth 100000 in
theorem fl_10_17 : flP "WhistleStop$Runs" 17 10 1 := ⟨_, rfl, by decide, okk_w (k := 600) (by decide +kernel)⟩
set_option maxRecDepth 100000 in
theorem fl_10_21 : flP "WhistleStop$Runs" 21 10 2 := ⟨_, rfl, by decide, okk_w (k := 602) (by decide +kernel)⟩
set_option maxRecDepth 100000 in
theorem oi_10 : okw (.methodLink "WhistleStop$Runs" 3 Lib.objectInit) := okk_w (k := 593) (by decide +kernel)
set_option maxRecDepth 100000 in
theorem cl_10_9 : okw (.classLink "WhistleStop$Runs" 9 "WhistleStop$Trip") := okk_w (k := 594) (by decide +kernel)
set_option maxRecDepth 100000 in
theorem d_93_0 : decode (mB 93) 0 = .ok (.aload_n 0, 1) := by decide +kernel
set_option maxRecDepth 100000 in
theorem d_93_1 : decode (mB 93) 1 = .ok (.invokespecial 3, 3) := by decide +kernel
set_option maxRecDepth 100000 in
theorem d_93_4 : decode (mB 93) 4 = .ok (.aload_n 0, 1) := by decide +kernel
set_option maxRecDepth 100000 in
theorem d_93_5 : decode (mB 93) 5 = .ok (.sipush 192, 3) := by decide +kernel
set_option maxRecDepth 100000 in
theorem d_93_8 : decode (mB 93) 8 = .ok (.anewarray 9, 3) := by decide +kernel
set_option maxRecDepth 100000 in
theorem d_93_11 : decode (mB 93) 11 = .ok (.putfield 11, 3) := by decide +kernel
set_option maxRecDepth 100000 in
theorem d_93_14 : decode (mB 93) 14 = .ok (.aload_n 0, 1) := by decide +kernel
set_option maxRecDepth 100000 in
theorem d_93_15 : decode (mB 93) 15 = .ok (.sipush 192, 3) := by decide +kernel
set_option maxRecDepth 100000 in
theorem d_93_18 : decode (mB 93) 18 = .ok (.newarray .int, 2) := by decide +kernel
set_option maxRecDepth 100000 in
theorem d_93_20 : decode (mB 93) 20 = .ok (.putfield 17, 3) := by decide +kernel
set_option maxRecDepth 100000 in
theorem d_93_23 : decode (mB 93) 23 = .ok (.aload_n 0, 1) := by decide +kernel
set_option maxRecDepth 100000 in
theorem d_93_24 : decode (mB 93) 24 = .ok (.sipush 192, 3) := by decide +kernel
set_option maxRecDepth 100000 in
theorem d_93_27 : decode (mB 93) 27 = .ok (.newarray .int, 2) := by decide +kernel
set_option maxRecDepth 100000 in
theorem d_93_29 : decode (mB 93) 29 = .ok (.putfield 21, 3) := by decide +kernel
set_option maxRecDepth 100000 in
theorem d_93_32 : decode (mB 93) 32 = .ok (.return_, 1) := by decide +kernel
set_option maxRecDepth 100000 in
theorem ca_100 : okw (.arrayClass (AT 100)) := okk_w (k := 329) (by decide +kernel)
set_option maxRecDepth 100000 in
theorem ca_101 : okw (.arrayClass (AT 101)) := okk_w (k := 633) (by decide +kernel)
set_option maxRecDepth 100000 in
theorem ca_104 : okw (.arrayOver (AT 104)) := okk_w (k := 539) (by decide +kernel)
set_option maxRecDepth 100000 in
theorem ca_105 : okw (.arrayOver (AT 105)) := okk_w (k := 541) (by decide +kernel)
set_option maxRecDepth 100000 in
theorem ca_106 : okw (.arrayOver (AT 106)) := okk_w (k := 543) (by decide +kernel)
set_option maxRecDepth 100000 in
theorem ca_103 : okw (.arrayOver (AT 103)) := okk_w (k := 640) (by decide +kernel)
set_option maxRecDepth 100000 in
theorem ca_107 : okw (.arrayOver (AT 107)) := okk_w (k := 680) (by decide +kernel)
set_option maxRecDepth 100000 in
theorem co_code : okw (.instanceMethod Lib.objectInit) ∧ okw (.code Lib.objectInit ⟨#[0xb1]⟩ 1 none) := ⟨okk_w (k := 91) (by decide +kernel), okk_w (k := 92) (by decide +kernel)⟩
