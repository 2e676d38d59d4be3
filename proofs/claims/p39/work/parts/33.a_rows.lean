set_option maxRecDepth 100000 in
theorem cd_83 : cdP 83 := ⟨okr (k := 225) rfl (by decide +kernel), by decide +kernel, by decide +kernel, okk_w (k := 36) (by decide +kernel)⟩
set_option maxRecDepth 100000 in
theorem cd_111 : cdP 111 := ⟨okr (k := 181) rfl (by decide +kernel), by decide +kernel, by decide +kernel, okk_w (k := 49) (by decide +kernel)⟩
set_option maxRecDepth 100000 in
theorem fl_9_28 : flP "WhistleStop$Onward" 28 9 3 := ⟨_, rfl, by decide, okk_w (k := 644) (by decide +kernel)⟩
set_option maxRecDepth 100000 in
theorem fl_9_105 : flP "WhistleStop$Onward" 105 7 5 := ⟨_, rfl, by decide, okk_w (k := 567) (by decide +kernel)⟩
set_option maxRecDepth 100000 in
theorem fl_9_108 : flP "WhistleStop$Onward" 108 7 1 := ⟨_, rfl, by decide, okk_w (k := 554) (by decide +kernel)⟩
set_option maxRecDepth 100000 in
theorem fl_9_112 : flP "WhistleStop$Onward" 112 5 0 := ⟨_, rfl, by decide, okk_w (k := 892) (by decide +kernel)⟩
set_option maxRecDepth 100000 in
theorem fl_9_117 : flP "WhistleStop$Onward" 117 5 1 := ⟨_, rfl, by decide, okk_w (k := 895) (by decide +kernel)⟩
set_option maxRecDepth 100000 in
theorem fl_9_120 : flP "WhistleStop$Onward" 120 5 2 := ⟨_, rfl, by decide, okk_w (k := 899) (by decide +kernel)⟩
set_option maxRecDepth 100000 in
theorem c_82_123 : cvP 82 123 83 4 := ⟨cd_83, okk_w (k := 222) (by decide +kernel), okk_w (k := 224) (by decide +kernel), okk_w (k := 6) (by decide +kernel), by decide +kernel, by decide +kernel⟩
set_option maxRecDepth 100000 in
theorem d_82_0 : decode (mB 82) 0 = .ok (.iconst 0, 1) := by decide +kernel
set_option maxRecDepth 100000 in
theorem d_82_1 : decode (mB 82) 1 = .ok (.istore_n 3, 1) := by decide +kernel
set_option maxRecDepth 100000 in
theorem d_82_2 : decode (mB 82) 2 = .ok (.iload_n 3, 1) := by decide +kernel
set_option maxRecDepth 100000 in
theorem d_82_3 : decode (mB 82) 3 = .ok (.aload_n 1, 1) := by decide +kernel
set_option maxRecDepth 100000 in
theorem d_82_4 : decode (mB 82) 4 = .ok (.getfield 105, 3) := by decide +kernel
set_option maxRecDepth 100000 in
theorem d_82_7 : decode (mB 82) 7 = .ok (.if_icmp .ge 57, 3) := by decide +kernel
set_option maxRecDepth 100000 in
theorem d_82_10 : decode (mB 82) 10 = .ok (.aload_n 1, 1) := by decide +kernel
set_option maxRecDepth 100000 in
theorem d_82_11 : decode (mB 82) 11 = .ok (.getfield 108, 3) := by decide +kernel
set_option maxRecDepth 100000 in
theorem d_82_14 : decode (mB 82) 14 = .ok (.iload_n 3, 1) := by decide +kernel
set_option maxRecDepth 100000 in
theorem d_82_15 : decode (mB 82) 15 = .ok (.aaload, 1) := by decide +kernel
set_option maxRecDepth 100000 in
theorem d_82_16 : decode (mB 82) 16 = .ok (.astore 4, 2) := by decide +kernel
set_option maxRecDepth 100000 in
theorem d_82_18 : decode (mB 82) 18 = .ok (.aload_n 0, 1) := by decide +kernel
set_option maxRecDepth 100000 in
theorem d_82_19 : decode (mB 82) 19 = .ok (.iload_n 2, 1) := by decide +kernel
set_option maxRecDepth 100000 in
theorem d_82_20 : decode (mB 82) 20 = .ok (.aload 4, 2) := by decide +kernel
set_option maxRecDepth 100000 in
theorem d_82_22 : decode (mB 82) 22 = .ok (.getfield 112, 3) := by decide +kernel
set_option maxRecDepth 100000 in
theorem d_82_25 : decode (mB 82) 25 = .ok (.aload 4, 2) := by decide +kernel
set_option maxRecDepth 100000 in
theorem d_82_27 : decode (mB 82) 27 = .ok (.getfield 117, 3) := by decide +kernel
set_option maxRecDepth 100000 in
theorem d_82_30 : decode (mB 82) 30 = .ok (.aload 4, 2) := by decide +kernel
set_option maxRecDepth 100000 in
theorem d_82_32 : decode (mB 82) 32 = .ok (.getfield 120, 3) := by decide +kernel
set_option maxRecDepth 100000 in
theorem d_82_35 : decode (mB 82) 35 = .ok (.invokevirtual 123, 3) := by decide +kernel
set_option maxRecDepth 100000 in
theorem d_82_38 : decode (mB 82) 38 = .ok (.aload_n 0, 1) := by decide +kernel
set_option maxRecDepth 100000 in
theorem d_82_39 : decode (mB 82) 39 = .ok (.iload_n 2, 1) := by decide +kernel
set_option maxRecDepth 100000 in
theorem d_82_40 : decode (mB 82) 40 = .ok (.aload 4, 2) := by decide +kernel
set_option maxRecDepth 100000 in
theorem d_82_42 : decode (mB 82) 42 = .ok (.getfield 117, 3) := by decide +kernel
set_option maxRecDepth 100000 in
theorem d_82_45 : decode (mB 82) 45 = .ok (.aload 4, 2) := by decide +kernel
set_option maxRecDepth 100000 in
theorem d_82_47 : decode (mB 82) 47 = .ok (.getfield 112, 3) := by decide +kernel
set_option maxRecDepth 100000 in
theorem d_82_50 : decode (mB 82) 50 = .ok (.aload 4, 2) := by decide +kernel
set_option maxRecDepth 100000 in
theorem d_82_52 : decode (mB 82) 52 = .ok (.getfield 120, 3) := by decide +kernel
set_option maxRecDepth 100000 in
theorem d_82_55 : decode (mB 82) 55 = .ok (.invokevirtual 123, 3) := by decide +kernel
set_option maxRecDepth 100000 in
theorem d_82_58 : decode (mB 82) 58 = .ok (.iinc 3 1, 3) := by decide +kernel
set_option maxRecDepth 100000 in
theorem d_82_61 : decode (mB 82) 61 = .ok (.goto (-59), 3) := by decide +kernel
set_option maxRecDepth 100000 in
theorem d_82_64 : decode (mB 82) 64 = .ok (.return_, 1) := by decide +kernel
set_option maxRecDepth 100000 in
theorem c_83_96 : csP 83 96 111 2 := ⟨cd_111, okk_w (k := 226) (by decide +kernel), okk_w (k := 180) (by decide +kernel), by decide +kernel, by decide +kernel⟩
set_option maxRecDepth 100000 in
theorem d_83_0 : decode (mB 83) 0 = .ok (.aload_n 0, 1) := by decide +kernel
set_option maxRecDepth 100000 in
theorem d_83_1 : decode (mB 83) 1 = .ok (.getfield 19, 3) := by decide +kernel
set_option maxRecDepth 100000 in
theorem d_83_4 : decode (mB 83) 4 = .ok (.iload_n 2, 1) := by decide +kernel
set_option maxRecDepth 100000 in
theorem d_83_5 : decode (mB 83) 5 = .ok (.iaload, 1) := by decide +kernel
set_option maxRecDepth 100000 in
theorem d_83_6 : decode (mB 83) 6 = .ok (.iload 4, 2) := by decide +kernel
set_option maxRecDepth 100000 in
theorem d_83_8 : decode (mB 83) 8 = .ok (.iadd, 1) := by decide +kernel
set_option maxRecDepth 100000 in
theorem d_83_9 : decode (mB 83) 9 = .ok (.istore 5, 2) := by decide +kernel
set_option maxRecDepth 100000 in
theorem d_83_11 : decode (mB 83) 11 = .ok (.iload 5, 2) := by decide +kernel
set_option maxRecDepth 100000 in
theorem d_83_13 : decode (mB 83) 13 = .ok (.aload_n 0, 1) := by decide +kernel
set_option maxRecDepth 100000 in
theorem d_83_14 : decode (mB 83) 14 = .ok (.getfield 28, 3) := by decide +kernel
set_option maxRecDepth 100000 in
theorem d_83_17 : decode (mB 83) 17 = .ok (.if_icmp .gt 45, 3) := by decide +kernel
set_option maxRecDepth 100000 in
theorem d_83_20 : decode (mB 83) 20 = .ok (.aload_n 0, 1) := by decide +kernel
set_option maxRecDepth 100000 in
theorem d_83_21 : decode (mB 83) 21 = .ok (.getfield 11, 3) := by decide +kernel
set_option maxRecDepth 100000 in
theorem d_83_24 : decode (mB 83) 24 = .ok (.iload_n 1, 1) := by decide +kernel
set_option maxRecDepth 100000 in
theorem d_83_25 : decode (mB 83) 25 = .ok (.aaload, 1) := by decide +kernel
set_option maxRecDepth 100000 in
theorem d_83_26 : decode (mB 83) 26 = .ok (.iload_n 3, 1) := by decide +kernel
set_option maxRecDepth 100000 in
theorem d_83_27 : decode (mB 83) 27 = .ok (.aload_n 0, 1) := by decide +kernel
set_option maxRecDepth 100000 in
theorem d_83_28 : decode (mB 83) 28 = .ok (.getfield 11, 3) := by decide +kernel
set_option maxRecDepth 100000 in
theorem d_83_31 : decode (mB 83) 31 = .ok (.iload_n 1, 1) := by decide +kernel
set_option maxRecDepth 100000 in
theorem d_83_32 : decode (mB 83) 32 = .ok (.aaload, 1) := by decide +kernel
set_option maxRecDepth 100000 in
theorem d_83_33 : decode (mB 83) 33 = .ok (.iload_n 3, 1) := by decide +kernel
set_option maxRecDepth 100000 in
theorem d_83_34 : decode (mB 83) 34 = .ok (.iaload, 1) := by decide +kernel
set_option maxRecDepth 100000 in
theorem d_83_35 : decode (mB 83) 35 = .ok (.iload 5, 2) := by decide +kernel
set_option maxRecDepth 100000 in
theorem d_83_37 : decode (mB 83) 37 = .ok (.invokestatic 96, 3) := by decide +kernel
set_option maxRecDepth 100000 in
theorem d_83_40 : decode (mB 83) 40 = .ok (.iastore, 1) := by decide +kernel
set_option maxRecDepth 100000 in
theorem d_83_41 : decode (mB 83) 41 = .ok (.aload_n 0, 1) := by decide +kernel
set_option maxRecDepth 100000 in
theorem d_83_42 : decode (mB 83) 42 = .ok (.getfield 16, 3) := by decide +kernel
set_option maxRecDepth 100000 in
theorem d_83_45 : decode (mB 83) 45 = .ok (.iload_n 1, 1) := by decide +kernel
set_option maxRecDepth 100000 in
theorem d_83_46 : decode (mB 83) 46 = .ok (.aaload, 1) := by decide +kernel
set_option maxRecDepth 100000 in
theorem d_83_47 : decode (mB 83) 47 = .ok (.iload_n 3, 1) := by decide +kernel
set_option maxRecDepth 100000 in
theorem d_83_48 : decode (mB 83) 48 = .ok (.aload_n 0, 1) := by decide +kernel
set_option maxRecDepth 100000 in
theorem d_83_49 : decode (mB 83) 49 = .ok (.getfield 16, 3) := by decide +kernel
set_option maxRecDepth 100000 in
theorem d_83_52 : decode (mB 83) 52 = .ok (.iload_n 1, 1) := by decide +kernel
set_option maxRecDepth 100000 in
theorem d_83_53 : decode (mB 83) 53 = .ok (.aaload, 1) := by decide +kernel
set_option maxRecDepth 100000 in
theorem d_83_54 : decode (mB 83) 54 = .ok (.iload_n 3, 1) := by decide +kernel
set_option maxRecDepth 100000 in
theorem d_83_55 : decode (mB 83) 55 = .ok (.iaload, 1) := by decide +kernel
set_option maxRecDepth 100000 in
theorem d_83_56 : decode (mB 83) 56 = .ok (.iload 5, 2) := by decide +kernel
set_option maxRecDepth 100000 in
theorem d_83_58 : decode (mB 83) 58 = .ok (.invokestatic 96, 3) := by decide +kernel
set_option maxRecDepth 100000 in
theorem d_83_61 : decode (mB 83) 61 = .ok (.iastore, 1) := by decide +kernel
set_option maxRecDepth 100000 in
theorem d_83_62 : decode (mB 83) 62 = .ok (.return_, 1) := by decide +kernel
