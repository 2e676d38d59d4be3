set_option maxRecDepth 100000 in
theorem cd_16 : cdP 16 := ⟨okr (k := 434) rfl (by decide +kernel), by decide +kernel, by decide +kernel, okk_w (k := 32) (by decide +kernel)⟩
set_option maxRecDepth 100000 in
theorem cd_17 : cdP 17 := ⟨okr (k := 437) rfl (by decide +kernel), by decide +kernel, by decide +kernel, okk_w (k := 32) (by decide +kernel)⟩
set_option maxRecDepth 100000 in
theorem cd_69 : cdP 69 := ⟨okr (k := 457) rfl (by decide +kernel), by decide +kernel, by decide +kernel, okk_w (k := 40) (by decide +kernel)⟩
set_option maxRecDepth 100000 in
theorem cd_70 : cdP 70 := ⟨okr (k := 485) rfl (by decide +kernel), by decide +kernel, by decide +kernel, okk_w (k := 40) (by decide +kernel)⟩
set_option maxRecDepth 100000 in
theorem cd_71 : cdP 71 := ⟨okr (k := 494) rfl (by decide +kernel), by decide +kernel, by decide +kernel, okk_w (k := 40) (by decide +kernel)⟩
set_option maxRecDepth 100000 in
theorem cd_72 : cdP 72 := ⟨okr (k := 498) rfl (by decide +kernel), by decide +kernel, by decide +kernel, okk_w (k := 40) (by decide +kernel)⟩
set_option maxRecDepth 100000 in
theorem c_15_224 : cvP 15 224 16 1 := ⟨cd_16, okk_w (k := 431) (by decide +kernel), okk_w (k := 433) (by decide +kernel), okk_w (k := 27) (by decide +kernel), by decide +kernel, by decide +kernel⟩
set_option maxRecDepth 100000 in
theorem c_15_227 : cvP 15 227 69 1 := ⟨cd_69, okk_w (k := 454) (by decide +kernel), okk_w (k := 455) (by decide +kernel), okk_w (k := 456) (by decide +kernel), by decide +kernel, by decide +kernel⟩
set_option maxRecDepth 100000 in
theorem d_15_0 : decode (mB 15) 0 = .ok (.aload_n 0, 1) := by decide +kernel
set_option maxRecDepth 100000 in
theorem d_15_1 : decode (mB 15) 1 = .ok (.iload_n 1, 1) := by decide +kernel
set_option maxRecDepth 100000 in
theorem d_15_2 : decode (mB 15) 2 = .ok (.invokevirtual 224, 3) := by decide +kernel
set_option maxRecDepth 100000 in
theorem d_15_5 : decode (mB 15) 5 = .ok (.aload_n 0, 1) := by decide +kernel
set_option maxRecDepth 100000 in
theorem d_15_6 : decode (mB 15) 6 = .ok (.getfield 54, 3) := by decide +kernel
set_option maxRecDepth 100000 in
theorem d_15_9 : decode (mB 15) 9 = .ok (.iload_n 1, 1) := by decide +kernel
set_option maxRecDepth 100000 in
theorem d_15_10 : decode (mB 15) 10 = .ok (.invokevirtual 227, 3) := by decide +kernel
set_option maxRecDepth 100000 in
theorem d_15_13 : decode (mB 15) 13 = .ok (.ireturn, 1) := by decide +kernel
set_option maxRecDepth 100000 in
theorem c_16_70 : csP 16 70 17 1 := ⟨cd_17, okk_w (k := 435) (by decide +kernel), okk_w (k := 436) (by decide +kernel), by decide +kernel, by decide +kernel⟩
set_option maxRecDepth 100000 in
theorem c_16_107 : csP 16 107 2 2 := ⟨cd_2, okk_w (k := 62) (by decide +kernel), okk_w (k := 63) (by decide +kernel), by decide +kernel, by decide +kernel⟩
set_option maxRecDepth 100000 in
theorem d_16_0 : decode (mB 16) 0 = .ok (.aload_n 0, 1) := by decide +kernel
set_option maxRecDepth 100000 in
theorem d_16_1 : decode (mB 16) 1 = .ok (.getfield 54, 3) := by decide +kernel
set_option maxRecDepth 100000 in
theorem d_16_4 : decode (mB 16) 4 = .ok (.getfield 219, 3) := by decide +kernel
set_option maxRecDepth 100000 in
theorem d_16_7 : decode (mB 16) 7 = .ok (.invokestatic 70, 3) := by decide +kernel
set_option maxRecDepth 100000 in
theorem d_16_10 : decode (mB 16) 10 = .ok (.iload_n 1, 1) := by decide +kernel
set_option maxRecDepth 100000 in
theorem d_16_11 : decode (mB 16) 11 = .ok (.aload_n 0, 1) := by decide +kernel
set_option maxRecDepth 100000 in
theorem d_16_12 : decode (mB 16) 12 = .ok (.getfield 54, 3) := by decide +kernel
set_option maxRecDepth 100000 in
theorem d_16_15 : decode (mB 16) 15 = .ok (.getfield 223, 3) := by decide +kernel
set_option maxRecDepth 100000 in
theorem d_16_18 : decode (mB 16) 18 = .ok (.invokestatic 107, 3) := by decide +kernel
set_option maxRecDepth 100000 in
theorem d_16_21 : decode (mB 16) 21 = .ok (.return_, 1) := by decide +kernel
set_option maxRecDepth 100000 in
theorem c_18_224 : cvP 18 224 16 1 := ⟨cd_16, okk_w (k := 431) (by decide +kernel), okk_w (k := 433) (by decide +kernel), okk_w (k := 27) (by decide +kernel), by decide +kernel, by decide +kernel⟩
set_option maxRecDepth 100000 in
theorem fl_0_228 : flP "WhistleStop" 228 6 9 := ⟨_, rfl, by decide, okk_w (k := 730) (by decide +kernel)⟩
set_option maxRecDepth 100000 in
theorem d_18_0 : decode (mB 18) 0 = .ok (.aload_n 0, 1) := by decide +kernel
set_option maxRecDepth 100000 in
theorem d_18_1 : decode (mB 18) 1 = .ok (.iload_n 1, 1) := by decide +kernel
set_option maxRecDepth 100000 in
theorem d_18_2 : decode (mB 18) 2 = .ok (.invokevirtual 224, 3) := by decide +kernel
set_option maxRecDepth 100000 in
theorem d_18_5 : decode (mB 18) 5 = .ok (.aload_n 0, 1) := by decide +kernel
set_option maxRecDepth 100000 in
theorem d_18_6 : decode (mB 18) 6 = .ok (.getfield 54, 3) := by decide +kernel
set_option maxRecDepth 100000 in
theorem d_18_9 : decode (mB 18) 9 = .ok (.getfield 228, 3) := by decide +kernel
set_option maxRecDepth 100000 in
theorem d_18_12 : decode (mB 18) 12 = .ok (.iload_n 1, 1) := by decide +kernel
set_option maxRecDepth 100000 in
theorem d_18_13 : decode (mB 18) 13 = .ok (.iaload, 1) := by decide +kernel
set_option maxRecDepth 100000 in
theorem d_18_14 : decode (mB 18) 14 = .ok (.ireturn, 1) := by decide +kernel
set_option maxRecDepth 100000 in
theorem c_19_224 : cvP 19 224 16 1 := ⟨cd_16, okk_w (k := 431) (by decide +kernel), okk_w (k := 433) (by decide +kernel), okk_w (k := 27) (by decide +kernel), by decide +kernel, by decide +kernel⟩
set_option maxRecDepth 100000 in
theorem fl_0_231 : flP "WhistleStop" 231 6 10 := ⟨_, rfl, by decide, okk_w (k := 732) (by decide +kernel)⟩
set_option maxRecDepth 100000 in
theorem d_19_0 : decode (mB 19) 0 = .ok (.aload_n 0, 1) := by decide +kernel
set_option maxRecDepth 100000 in
theorem d_19_1 : decode (mB 19) 1 = .ok (.iload_n 1, 1) := by decide +kernel
set_option maxRecDepth 100000 in
theorem d_19_2 : decode (mB 19) 2 = .ok (.invokevirtual 224, 3) := by decide +kernel
set_option maxRecDepth 100000 in
theorem d_19_5 : decode (mB 19) 5 = .ok (.aload_n 0, 1) := by decide +kernel
set_option maxRecDepth 100000 in
theorem d_19_6 : decode (mB 19) 6 = .ok (.getfield 54, 3) := by decide +kernel
set_option maxRecDepth 100000 in
theorem d_19_9 : decode (mB 19) 9 = .ok (.getfield 231, 3) := by decide +kernel
set_option maxRecDepth 100000 in
theorem d_19_12 : decode (mB 19) 12 = .ok (.iload_n 1, 1) := by decide +kernel
set_option maxRecDepth 100000 in
theorem d_19_13 : decode (mB 19) 13 = .ok (.iaload, 1) := by decide +kernel
set_option maxRecDepth 100000 in
theorem d_19_14 : decode (mB 19) 14 = .ok (.ireturn, 1) := by decide +kernel
set_option maxRecDepth 100000 in
theorem c_20_224 : cvP 20 224 16 1 := ⟨cd_16, okk_w (k := 431) (by decide +kernel), okk_w (k := 433) (by decide +kernel), okk_w (k := 27) (by decide +kernel), by decide +kernel, by decide +kernel⟩
set_option maxRecDepth 100000 in
theorem fl_0_234 : flP "WhistleStop" 234 6 11 := ⟨_, rfl, by decide, okk_w (k := 734) (by decide +kernel)⟩
set_option maxRecDepth 100000 in
theorem d_20_0 : decode (mB 20) 0 = .ok (.aload_n 0, 1) := by decide +kernel
set_option maxRecDepth 100000 in
theorem d_20_1 : decode (mB 20) 1 = .ok (.iload_n 1, 1) := by decide +kernel
set_option maxRecDepth 100000 in
theorem d_20_2 : decode (mB 20) 2 = .ok (.invokevirtual 224, 3) := by decide +kernel
set_option maxRecDepth 100000 in
theorem d_20_5 : decode (mB 20) 5 = .ok (.aload_n 0, 1) := by decide +kernel
set_option maxRecDepth 100000 in
theorem d_20_6 : decode (mB 20) 6 = .ok (.getfield 54, 3) := by decide +kernel
set_option maxRecDepth 100000 in
theorem d_20_9 : decode (mB 20) 9 = .ok (.getfield 234, 3) := by decide +kernel
set_option maxRecDepth 100000 in
theorem d_20_12 : decode (mB 20) 12 = .ok (.iload_n 1, 1) := by decide +kernel
set_option maxRecDepth 100000 in
theorem d_20_13 : decode (mB 20) 13 = .ok (.iaload, 1) := by decide +kernel
set_option maxRecDepth 100000 in
theorem d_20_14 : decode (mB 20) 14 = .ok (.ireturn, 1) := by decide +kernel
set_option maxRecDepth 100000 in
theorem c_21_70 : csP 21 70 17 1 := ⟨cd_17, okk_w (k := 435) (by decide +kernel), okk_w (k := 436) (by decide +kernel), by decide +kernel, by decide +kernel⟩
set_option maxRecDepth 100000 in
theorem fl_0_237 : flP "WhistleStop" 237 6 12 := ⟨_, rfl, by decide, okk_w (k := 736) (by decide +kernel)⟩
set_option maxRecDepth 100000 in
theorem d_21_0 : decode (mB 21) 0 = .ok (.aload_n 0, 1) := by decide +kernel
set_option maxRecDepth 100000 in
theorem d_21_1 : decode (mB 21) 1 = .ok (.getfield 54, 3) := by decide +kernel
set_option maxRecDepth 100000 in
theorem d_21_4 : decode (mB 21) 4 = .ok (.getfield 219, 3) := by decide +kernel
set_option maxRecDepth 100000 in
theorem d_21_7 : decode (mB 21) 7 = .ok (.invokestatic 70, 3) := by decide +kernel
set_option maxRecDepth 100000 in
theorem d_21_10 : decode (mB 21) 10 = .ok (.aload_n 0, 1) := by decide +kernel
set_option maxRecDepth 100000 in
theorem d_21_11 : decode (mB 21) 11 = .ok (.getfield 54, 3) := by decide +kernel
set_option maxRecDepth 100000 in
theorem d_21_14 : decode (mB 21) 14 = .ok (.getfield 237, 3) := by decide +kernel
set_option maxRecDepth 100000 in
theorem d_21_17 : decode (mB 21) 17 = .ok (.ireturn, 1) := by decide +kernel
set_option maxRecDepth 100000 in
theorem c_22_70 : csP 22 70 17 1 := ⟨cd_17, okk_w (k := 435) (by decide +kernel), okk_w (k := 436) (by decide +kernel), by decide +kernel, by decide +kernel⟩
set_option maxRecDepth 100000 in
theorem fl_0_240 : flP "WhistleStop" 240 6 13 := ⟨_, rfl, by decide, okk_w (k := 738) (by decide +kernel)⟩
set_option maxRecDepth 100000 in
theorem d_22_0 : decode (mB 22) 0 = .ok (.aload_n 0, 1) := by decide +kernel
set_option maxRecDepth 100000 in
theorem d_22_1 : decode (mB 22) 1 = .ok (.getfield 54, 3) := by decide +kernel
set_option maxRecDepth 100000 in
theorem d_22_4 : decode (mB 22) 4 = .ok (.getfield 219, 3) := by decide +kernel
set_option maxRecDepth 100000 in
theorem d_22_7 : decode (mB 22) 7 = .ok (.invokestatic 70, 3) := by decide +kernel
set_option maxRecDepth 100000 in
theorem d_22_10 : decode (mB 22) 10 = .ok (.aload_n 0, 1) := by decide +kernel
set_option maxRecDepth 100000 in
theorem d_22_11 : decode (mB 22) 11 = .ok (.getfield 54, 3) := by decide +kernel
set_option maxRecDepth 100000 in
theorem d_22_14 : decode (mB 22) 14 = .ok (.getfield 240, 3) := by decide +kernel
set_option maxRecDepth 100000 in
theorem d_22_17 : decode (mB 22) 17 = .ok (.ireturn, 1) := by decide +kernel
set_option maxRecDepth 100000 in
theorem c_23_70 : csP 23 70 17 1 := ⟨cd_17, okk_w (k := 435) (by decide +kernel), okk_w (k := 436) (by decide +kernel), by decide +kernel, by decide +kernel⟩
set_option maxRecDepth 100000 in
theorem c_23_243 : cvP 23 243 70 1 := ⟨cd_70, okk_w (k := 482) (by decide +kernel), okk_w (k := 483) (by decide +kernel), okk_w (k := 484) (by decide +kernel), by decide +kernel, by decide +kernel⟩
set_option maxRecDepth 100000 in
theorem d_23_0 : decode (mB 23) 0 = .ok (.aload_n 0, 1) := by decide +kernel
set_option maxRecDepth 100000 in
theorem d_23_1 : decode (mB 23) 1 = .ok (.getfield 54, 3) := by decide +kernel
set_option maxRecDepth 100000 in
theorem d_23_4 : decode (mB 23) 4 = .ok (.getfield 219, 3) := by decide +kernel
set_option maxRecDepth 100000 in
theorem d_23_7 : decode (mB 23) 7 = .ok (.invokestatic 70, 3) := by decide +kernel
set_option maxRecDepth 100000 in
theorem d_23_10 : decode (mB 23) 10 = .ok (.aload_n 0, 1) := by decide +kernel
set_option maxRecDepth 100000 in
theorem d_23_11 : decode (mB 23) 11 = .ok (.getfield 54, 3) := by decide +kernel
set_option maxRecDepth 100000 in
theorem d_23_14 : decode (mB 23) 14 = .ok (.aload_n 0, 1) := by decide +kernel
set_option maxRecDepth 100000 in
theorem d_23_15 : decode (mB 23) 15 = .ok (.getfield 12, 3) := by decide +kernel
set_option maxRecDepth 100000 in
theorem d_23_18 : decode (mB 23) 18 = .ok (.invokevirtual 243, 3) := by decide +kernel
set_option maxRecDepth 100000 in
theorem d_23_21 : decode (mB 23) 21 = .ok (.ireturn, 1) := by decide +kernel
set_option maxRecDepth 100000 in
theorem c_24_256 : cvP 24 256 71 0 := ⟨cd_71, okk_w (k := 491) (by decide +kernel), okk_w (k := 492) (by decide +kernel), okk_w (k := 493) (by decide +kernel), by decide +kernel, by decide +kernel⟩
set_option maxRecDepth 100000 in
theorem c_24_259 : cvP 24 259 72 0 := ⟨cd_72, okk_w (k := 495) (by decide +kernel), okk_w (k := 496) (by decide +kernel), okk_w (k := 497) (by decide +kernel), by decide +kernel, by decide +kernel⟩
set_option maxRecDepth 100000 in
theorem d_24_0 : decode (mB 24) 0 = .ok (.aload_n 0, 1) := by decide +kernel
set_option maxRecDepth 100000 in
theorem d_24_1 : decode (mB 24) 1 = .ok (.getfield 54, 3) := by decide +kernel
set_option maxRecDepth 100000 in
theorem d_24_4 : decode (mB 24) 4 = .ok (.getfield 219, 3) := by decide +kernel
set_option maxRecDepth 100000 in
theorem d_24_7 : decode (mB 24) 7 = .ok (.ifCond .eq 13, 3) := by decide +kernel
set_option maxRecDepth 100000 in
theorem d_24_10 : decode (mB 24) 10 = .ok (.aload_n 0, 1) := by decide +kernel
set_option maxRecDepth 100000 in
theorem d_24_11 : decode (mB 24) 11 = .ok (.getfield 54, 3) := by decide +kernel
set_option maxRecDepth 100000 in
theorem d_24_14 : decode (mB 24) 14 = .ok (.invokevirtual 256, 3) := by decide +kernel
set_option maxRecDepth 100000 in
theorem d_24_17 : decode (mB 24) 17 = .ok (.goto 4, 3) := by decide +kernel
set_option maxRecDepth 100000 in
theorem d_24_21 : decode (mB 24) 21 = .ok (.istore_n 1, 1) := by decide +kernel
set_option maxRecDepth 100000 in
theorem d_24_22 : decode (mB 24) 22 = .ok (.iload_n 1, 1) := by decide +kernel
set_option maxRecDepth 100000 in
theorem d_24_23 : decode (mB 24) 23 = .ok (.ifCond .gt 5, 3) := by decide +kernel
set_option maxRecDepth 100000 in
theorem d_24_26 : decode (mB 24) 26 = .ok (.dconst 0, 1) := by decide +kernel
set_option maxRecDepth 100000 in
theorem d_24_27 : decode (mB 24) 27 = .ok (.dreturn, 1) := by decide +kernel
set_option maxRecDepth 100000 in
theorem d_24_28 : decode (mB 24) 28 = .ok (.aload_n 0, 1) := by decide +kernel
set_option maxRecDepth 100000 in
theorem d_24_29 : decode (mB 24) 29 = .ok (.getfield 54, 3) := by decide +kernel
set_option maxRecDepth 100000 in
theorem d_24_32 : decode (mB 24) 32 = .ok (.invokevirtual 259, 3) := by decide +kernel
set_option maxRecDepth 100000 in
theorem d_24_35 : decode (mB 24) 35 = .ok (.i2d, 1) := by decide +kernel
set_option maxRecDepth 100000 in
theorem d_24_36 : decode (mB 24) 36 = .ok (.iload_n 1, 1) := by decide +kernel
set_option maxRecDepth 100000 in
theorem d_24_37 : decode (mB 24) 37 = .ok (.i2d, 1) := by decide +kernel
set_option maxRecDepth 100000 in
theorem d_24_38 : decode (mB 24) 38 = .ok (.ddiv, 1) := by decide +kernel
set_option maxRecDepth 100000 in
theorem d_24_39 : decode (mB 24) 39 = .ok (.dreturn, 1) := by decide +kernel
set_option maxRecDepth 100000 in
theorem fl_6_148 : flP "WhistleStop$Journey" 148 11 0 := ⟨_, rfl, by decide, okk_w (k := 954) (by decide +kernel)⟩
set_option maxRecDepth 100000 in
theorem d_69_0 : decode (mB 69) 0 = .ok (.aload_n 0, 1) := by decide +kernel
set_option maxRecDepth 100000 in
theorem d_69_1 : decode (mB 69) 1 = .ok (.getfield 11, 3) := by decide +kernel
set_option maxRecDepth 100000 in
theorem d_69_4 : decode (mB 69) 4 = .ok (.iload_n 1, 1) := by decide +kernel
set_option maxRecDepth 100000 in
theorem d_69_5 : decode (mB 69) 5 = .ok (.aaload, 1) := by decide +kernel
set_option maxRecDepth 100000 in
theorem d_69_6 : decode (mB 69) 6 = .ok (.astore_n 2, 1) := by decide +kernel
set_option maxRecDepth 100000 in
theorem d_69_7 : decode (mB 69) 7 = .ok (.aload_n 2, 1) := by decide +kernel
set_option maxRecDepth 100000 in
theorem d_69_8 : decode (mB 69) 8 = .ok (.ifnonnull 7, 3) := by decide +kernel
set_option maxRecDepth 100000 in
theorem d_69_11 : decode (mB 69) 11 = .ok (.iconst (-1), 1) := by decide +kernel
set_option maxRecDepth 100000 in
theorem d_69_12 : decode (mB 69) 12 = .ok (.goto 7, 3) := by decide +kernel
set_option maxRecDepth 100000 in
theorem d_69_15 : decode (mB 69) 15 = .ok (.aload_n 2, 1) := by decide +kernel
set_option maxRecDepth 100000 in
theorem d_69_16 : decode (mB 69) 16 = .ok (.getfield 148, 3) := by decide +kernel
set_option maxRecDepth 100000 in
theorem d_69_19 : decode (mB 69) 19 = .ok (.ireturn, 1) := by decide +kernel
set_option maxRecDepth 100000 in
theorem c_70_115 : cvP 70 115 95 1 := ⟨cd_95, okk_w (k := 411) (by decide +kernel), okk_w (k := 201) (by decide +kernel), okk_w (k := 202) (by decide +kernel), by decide +kernel, by decide +kernel⟩
set_option maxRecDepth 100000 in
theorem c_70_151 : cvP 70 151 94 1 := ⟨cd_94, okk_w (k := 486) (by decide +kernel), okk_w (k := 183) (by decide +kernel), okk_w (k := 184) (by decide +kernel), by decide +kernel, by decide +kernel⟩
set_option maxRecDepth 100000 in
theorem d_70_0 : decode (mB 70) 0 = .ok (.aload_n 0, 1) := by decide +kernel
set_option maxRecDepth 100000 in
theorem d_70_1 : decode (mB 70) 1 = .ok (.getfield 47, 3) := by decide +kernel
set_option maxRecDepth 100000 in
theorem d_70_4 : decode (mB 70) 4 = .ok (.istore_n 2, 1) := by decide +kernel
set_option maxRecDepth 100000 in
theorem d_70_5 : decode (mB 70) 5 = .ok (.aload_n 0, 1) := by decide +kernel
set_option maxRecDepth 100000 in
theorem d_70_6 : decode (mB 70) 6 = .ok (.getfield 47, 3) := by decide +kernel
set_option maxRecDepth 100000 in
theorem d_70_9 : decode (mB 70) 9 = .ok (.istore_n 3, 1) := by decide +kernel
set_option maxRecDepth 100000 in
theorem d_70_10 : decode (mB 70) 10 = .ok (.iconst 0, 1) := by decide +kernel
set_option maxRecDepth 100000 in
theorem d_70_11 : decode (mB 70) 11 = .ok (.istore 4, 2) := by decide +kernel
set_option maxRecDepth 100000 in
theorem d_70_13 : decode (mB 70) 13 = .ok (.iload 4, 2) := by decide +kernel
set_option maxRecDepth 100000 in
theorem d_70_15 : decode (mB 70) 15 = .ok (.aload_n 0, 1) := by decide +kernel
set_option maxRecDepth 100000 in
theorem d_70_16 : decode (mB 70) 16 = .ok (.getfield 50, 3) := by decide +kernel
set_option maxRecDepth 100000 in
theorem d_70_19 : decode (mB 70) 19 = .ok (.if_icmp .ge 129, 3) := by decide +kernel
set_option maxRecDepth 100000 in
theorem d_70_22 : decode (mB 70) 22 = .ok (.aload_n 0, 1) := by decide +kernel
set_option maxRecDepth 100000 in
theorem d_70_23 : decode (mB 70) 23 = .ok (.getfield 11, 3) := by decide +kernel
set_option maxRecDepth 100000 in
theorem d_70_26 : decode (mB 70) 26 = .ok (.iload 4, 2) := by decide +kernel
set_option maxRecDepth 100000 in
theorem d_70_28 : decode (mB 70) 28 = .ok (.aaload, 1) := by decide +kernel
set_option maxRecDepth 100000 in
theorem d_70_29 : decode (mB 70) 29 = .ok (.astore 5, 2) := by decide +kernel
set_option maxRecDepth 100000 in
theorem d_70_31 : decode (mB 70) 31 = .ok (.aload 5, 2) := by decide +kernel
set_option maxRecDepth 100000 in
theorem d_70_33 : decode (mB 70) 33 = .ok (.ifnonnull 26, 3) := by decide +kernel
set_option maxRecDepth 100000 in
theorem d_70_36 : decode (mB 70) 36 = .ok (.iload_n 2, 1) := by decide +kernel
set_option maxRecDepth 100000 in
theorem d_70_37 : decode (mB 70) 37 = .ok (.aload_n 0, 1) := by decide +kernel
set_option maxRecDepth 100000 in
theorem d_70_38 : decode (mB 70) 38 = .ok (.getfield 33, 3) := by decide +kernel
set_option maxRecDepth 100000 in
theorem d_70_41 : decode (mB 70) 41 = .ok (.iload 4, 2) := by decide +kernel
set_option maxRecDepth 100000 in
theorem d_70_43 : decode (mB 70) 43 = .ok (.iaload, 1) := by decide +kernel
set_option maxRecDepth 100000 in
theorem d_70_44 : decode (mB 70) 44 = .ok (.aload_n 0, 1) := by decide +kernel
set_option maxRecDepth 100000 in
theorem d_70_45 : decode (mB 70) 45 = .ok (.getfield 30, 3) := by decide +kernel
set_option maxRecDepth 100000 in
theorem d_70_48 : decode (mB 70) 48 = .ok (.iload 4, 2) := by decide +kernel
set_option maxRecDepth 100000 in
theorem d_70_50 : decode (mB 70) 50 = .ok (.iaload, 1) := by decide +kernel
set_option maxRecDepth 100000 in
theorem d_70_51 : decode (mB 70) 51 = .ok (.isub, 1) := by decide +kernel
set_option maxRecDepth 100000 in
theorem d_70_52 : decode (mB 70) 52 = .ok (.iadd, 1) := by decide +kernel
set_option maxRecDepth 100000 in
theorem d_70_53 : decode (mB 70) 53 = .ok (.istore_n 2, 1) := by decide +kernel
set_option maxRecDepth 100000 in
theorem d_70_54 : decode (mB 70) 54 = .ok (.iload_n 2, 1) := by decide +kernel
set_option maxRecDepth 100000 in
theorem d_70_55 : decode (mB 70) 55 = .ok (.istore_n 3, 1) := by decide +kernel
set_option maxRecDepth 100000 in
theorem d_70_56 : decode (mB 70) 56 = .ok (.goto 86, 3) := by decide +kernel
set_option maxRecDepth 100000 in
theorem d_70_59 : decode (mB 70) 59 = .ok (.aload 5, 2) := by decide +kernel
set_option maxRecDepth 100000 in
theorem d_70_61 : decode (mB 70) 61 = .ok (.aload_n 0, 1) := by decide +kernel
set_option maxRecDepth 100000 in
theorem d_70_62 : decode (mB 70) 62 = .ok (.getfield 17, 3) := by decide +kernel
set_option maxRecDepth 100000 in
theorem d_70_65 : decode (mB 70) 65 = .ok (.iload 4, 2) := by decide +kernel
set_option maxRecDepth 100000 in
theorem d_70_67 : decode (mB 70) 67 = .ok (.iaload, 1) := by decide +kernel
set_option maxRecDepth 100000 in
theorem d_70_68 : decode (mB 70) 68 = .ok (.invokevirtual 115, 3) := by decide +kernel
set_option maxRecDepth 100000 in
theorem d_70_71 : decode (mB 70) 71 = .ok (.istore 6, 2) := by decide +kernel
set_option maxRecDepth 100000 in
theorem d_70_73 : decode (mB 70) 73 = .ok (.aload 5, 2) := by decide +kernel
set_option maxRecDepth 100000 in
theorem d_70_75 : decode (mB 70) 75 = .ok (.aload_n 0, 1) := by decide +kernel
set_option maxRecDepth 100000 in
theorem d_70_76 : decode (mB 70) 76 = .ok (.getfield 17, 3) := by decide +kernel
set_option maxRecDepth 100000 in
theorem d_70_79 : decode (mB 70) 79 = .ok (.iload 4, 2) := by decide +kernel
set_option maxRecDepth 100000 in
theorem d_70_81 : decode (mB 70) 81 = .ok (.iaload, 1) := by decide +kernel
set_option maxRecDepth 100000 in
theorem d_70_82 : decode (mB 70) 82 = .ok (.invokevirtual 151, 3) := by decide +kernel
set_option maxRecDepth 100000 in
theorem d_70_85 : decode (mB 70) 85 = .ok (.ifCond .eq 23, 3) := by decide +kernel
set_option maxRecDepth 100000 in
theorem d_70_88 : decode (mB 70) 88 = .ok (.iload 6, 2) := by decide +kernel
set_option maxRecDepth 100000 in
theorem d_70_90 : decode (mB 70) 90 = .ok (.aload 5, 2) := by decide +kernel
set_option maxRecDepth 100000 in
theorem d_70_92 : decode (mB 70) 92 = .ok (.getfield 94, 3) := by decide +kernel
set_option maxRecDepth 100000 in
theorem d_70_95 : decode (mB 70) 95 = .ok (.aload_n 0, 1) := by decide +kernel
set_option maxRecDepth 100000 in
theorem d_70_96 : decode (mB 70) 96 = .ok (.getfield 21, 3) := by decide +kernel
set_option maxRecDepth 100000 in
theorem d_70_99 : decode (mB 70) 99 = .ok (.iload 4, 2) := by decide +kernel
set_option maxRecDepth 100000 in
theorem d_70_101 : decode (mB 70) 101 = .ok (.iaload, 1) := by decide +kernel
set_option maxRecDepth 100000 in
theorem d_70_102 : decode (mB 70) 102 = .ok (.iaload, 1) := by decide +kernel
set_option maxRecDepth 100000 in
theorem d_70_103 : decode (mB 70) 103 = .ok (.iadd, 1) := by decide +kernel
set_option maxRecDepth 100000 in
theorem d_70_104 : decode (mB 70) 104 = .ok (.iload_n 3, 1) := by decide +kernel
set_option maxRecDepth 100000 in
theorem d_70_105 : decode (mB 70) 105 = .ok (.if_icmp .ge 5, 3) := by decide +kernel
set_option maxRecDepth 100000 in
theorem d_70_110 : decode (mB 70) 110 = .ok (.iload 6, 2) := by decide +kernel
set_option maxRecDepth 100000 in
theorem d_70_112 : decode (mB 70) 112 = .ok (.aload 5, 2) := by decide +kernel
set_option maxRecDepth 100000 in
theorem d_70_114 : decode (mB 70) 114 = .ok (.getfield 112, 3) := by decide +kernel
set_option maxRecDepth 100000 in
theorem d_70_117 : decode (mB 70) 117 = .ok (.aload_n 0, 1) := by decide +kernel
set_option maxRecDepth 100000 in
theorem d_70_118 : decode (mB 70) 118 = .ok (.getfield 24, 3) := by decide +kernel
set_option maxRecDepth 100000 in
theorem d_70_121 : decode (mB 70) 121 = .ok (.iload 4, 2) := by decide +kernel
set_option maxRecDepth 100000 in
theorem d_70_123 : decode (mB 70) 123 = .ok (.iaload, 1) := by decide +kernel
set_option maxRecDepth 100000 in
theorem d_70_124 : decode (mB 70) 124 = .ok (.iaload, 1) := by decide +kernel
set_option maxRecDepth 100000 in
theorem d_70_125 : decode (mB 70) 125 = .ok (.iadd, 1) := by decide +kernel
set_option maxRecDepth 100000 in
theorem d_70_126 : decode (mB 70) 126 = .ok (.istore_n 2, 1) := by decide +kernel
set_option maxRecDepth 100000 in
theorem d_70_127 : decode (mB 70) 127 = .ok (.iload_n 2, 1) := by decide +kernel
set_option maxRecDepth 100000 in
theorem d_70_128 : decode (mB 70) 128 = .ok (.aload_n 1, 1) := by decide +kernel
set_option maxRecDepth 100000 in
theorem d_70_129 : decode (mB 70) 129 = .ok (.getfield 78, 3) := by decide +kernel
set_option maxRecDepth 100000 in
theorem d_70_132 : decode (mB 70) 132 = .ok (.aload_n 0, 1) := by decide +kernel
set_option maxRecDepth 100000 in
theorem d_70_133 : decode (mB 70) 133 = .ok (.getfield 27, 3) := by decide +kernel
set_option maxRecDepth 100000 in
theorem d_70_136 : decode (mB 70) 136 = .ok (.iload 4, 2) := by decide +kernel
set_option maxRecDepth 100000 in
theorem d_70_138 : decode (mB 70) 138 = .ok (.iaload, 1) := by decide +kernel
set_option maxRecDepth 100000 in
theorem d_70_139 : decode (mB 70) 139 = .ok (.iaload, 1) := by decide +kernel
set_option maxRecDepth 100000 in
theorem d_70_140 : decode (mB 70) 140 = .ok (.iadd, 1) := by decide +kernel
set_option maxRecDepth 100000 in
theorem d_70_141 : decode (mB 70) 141 = .ok (.istore_n 3, 1) := by decide +kernel
set_option maxRecDepth 100000 in
theorem d_70_142 : decode (mB 70) 142 = .ok (.iinc 4 1, 3) := by decide +kernel
set_option maxRecDepth 100000 in
theorem d_70_145 : decode (mB 70) 145 = .ok (.goto (-132), 3) := by decide +kernel
set_option maxRecDepth 100000 in
theorem d_70_148 : decode (mB 70) 148 = .ok (.iload_n 2, 1) := by decide +kernel
set_option maxRecDepth 100000 in
theorem d_70_149 : decode (mB 70) 149 = .ok (.aload_n 0, 1) := by decide +kernel
set_option maxRecDepth 100000 in
theorem d_70_150 : decode (mB 70) 150 = .ok (.getfield 47, 3) := by decide +kernel
set_option maxRecDepth 100000 in
theorem d_70_153 : decode (mB 70) 153 = .ok (.sipush 2880, 3) := by decide +kernel
set_option maxRecDepth 100000 in
theorem d_70_156 : decode (mB 70) 156 = .ok (.iadd, 1) := by decide +kernel
set_option maxRecDepth 100000 in
theorem d_70_157 : decode (mB 70) 157 = .ok (.if_icmp .gt 7, 3) := by decide +kernel
set_option maxRecDepth 100000 in
theorem d_70_160 : decode (mB 70) 160 = .ok (.iconst 1, 1) := by decide +kernel
set_option maxRecDepth 100000 in
theorem d_70_161 : decode (mB 70) 161 = .ok (.goto 4, 3) := by decide +kernel
set_option maxRecDepth 100000 in
theorem d_70_165 : decode (mB 70) 165 = .ok (.ireturn, 1) := by decide +kernel
set_option maxRecDepth 100000 in
theorem c_71_71 : cvP 71 71 63 0 := ⟨cd_63, okk_w (k := 395) (by decide +kernel), okk_w (k := 397) (by decide +kernel), okk_w (k := 21) (by decide +kernel), by decide +kernel, by decide +kernel⟩
set_option maxRecDepth 100000 in
theorem d_71_0 : decode (mB 71) 0 = .ok (.aload_n 0, 1) := by decide +kernel
set_option maxRecDepth 100000 in
theorem d_71_1 : decode (mB 71) 1 = .ok (.invokevirtual 71, 3) := by decide +kernel
set_option maxRecDepth 100000 in
theorem d_71_4 : decode (mB 71) 4 = .ok (.aload_n 0, 1) := by decide +kernel
set_option maxRecDepth 100000 in
theorem d_71_5 : decode (mB 71) 5 = .ok (.getfield 47, 3) := by decide +kernel
set_option maxRecDepth 100000 in
theorem d_71_8 : decode (mB 71) 8 = .ok (.isub, 1) := by decide +kernel
set_option maxRecDepth 100000 in
theorem d_71_9 : decode (mB 71) 9 = .ok (.ireturn, 1) := by decide +kernel
set_option maxRecDepth 100000 in
theorem d_72_0 : decode (mB 72) 0 = .ok (.iconst 0, 1) := by decide +kernel
set_option maxRecDepth 100000 in
theorem d_72_1 : decode (mB 72) 1 = .ok (.istore_n 1, 1) := by decide +kernel
set_option maxRecDepth 100000 in
theorem d_72_2 : decode (mB 72) 2 = .ok (.iconst 0, 1) := by decide +kernel
set_option maxRecDepth 100000 in
theorem d_72_3 : decode (mB 72) 3 = .ok (.istore_n 2, 1) := by decide +kernel
set_option maxRecDepth 100000 in
theorem d_72_4 : decode (mB 72) 4 = .ok (.iload_n 2, 1) := by decide +kernel
set_option maxRecDepth 100000 in
theorem d_72_5 : decode (mB 72) 5 = .ok (.aload_n 0, 1) := by decide +kernel
set_option maxRecDepth 100000 in
theorem d_72_6 : decode (mB 72) 6 = .ok (.getfield 50, 3) := by decide +kernel
set_option maxRecDepth 100000 in
theorem d_72_9 : decode (mB 72) 9 = .ok (.if_icmp .ge 34, 3) := by decide +kernel
set_option maxRecDepth 100000 in
theorem d_72_12 : decode (mB 72) 12 = .ok (.aload_n 0, 1) := by decide +kernel
set_option maxRecDepth 100000 in
theorem d_72_13 : decode (mB 72) 13 = .ok (.getfield 11, 3) := by decide +kernel
set_option maxRecDepth 100000 in
theorem d_72_16 : decode (mB 72) 16 = .ok (.iload_n 2, 1) := by decide +kernel
set_option maxRecDepth 100000 in
theorem d_72_17 : decode (mB 72) 17 = .ok (.aaload, 1) := by decide +kernel
set_option maxRecDepth 100000 in
theorem d_72_18 : decode (mB 72) 18 = .ok (.ifnull 19, 3) := by decide +kernel
set_option maxRecDepth 100000 in
theorem d_72_21 : decode (mB 72) 21 = .ok (.iload_n 1, 1) := by decide +kernel
set_option maxRecDepth 100000 in
theorem d_72_22 : decode (mB 72) 22 = .ok (.aload_n 0, 1) := by decide +kernel
set_option maxRecDepth 100000 in
theorem d_72_23 : decode (mB 72) 23 = .ok (.getfield 33, 3) := by decide +kernel
set_option maxRecDepth 100000 in
theorem d_72_26 : decode (mB 72) 26 = .ok (.iload_n 2, 1) := by decide +kernel
set_option maxRecDepth 100000 in
theorem d_72_27 : decode (mB 72) 27 = .ok (.iaload, 1) := by decide +kernel
set_option maxRecDepth 100000 in
theorem d_72_28 : decode (mB 72) 28 = .ok (.aload_n 0, 1) := by decide +kernel
set_option maxRecDepth 100000 in
theorem d_72_29 : decode (mB 72) 29 = .ok (.getfield 30, 3) := by decide +kernel
set_option maxRecDepth 100000 in
theorem d_72_32 : decode (mB 72) 32 = .ok (.iload_n 2, 1) := by decide +kernel
set_option maxRecDepth 100000 in
theorem d_72_33 : decode (mB 72) 33 = .ok (.iaload, 1) := by decide +kernel
set_option maxRecDepth 100000 in
theorem d_72_34 : decode (mB 72) 34 = .ok (.isub, 1) := by decide +kernel
set_option maxRecDepth 100000 in
theorem d_72_35 : decode (mB 72) 35 = .ok (.iadd, 1) := by decide +kernel
set_option maxRecDepth 100000 in
theorem d_72_36 : decode (mB 72) 36 = .ok (.istore_n 1, 1) := by decide +kernel
set_option maxRecDepth 100000 in
theorem d_72_37 : decode (mB 72) 37 = .ok (.iinc 2 1, 3) := by decide +kernel
set_option maxRecDepth 100000 in
theorem d_72_40 : decode (mB 72) 40 = .ok (.goto (-36), 3) := by decide +kernel
set_option maxRecDepth 100000 in
theorem d_72_43 : decode (mB 72) 43 = .ok (.iload_n 1, 1) := by decide +kernel
set_option maxRecDepth 100000 in
theorem d_72_44 : decode (mB 72) 44 = .ok (.ireturn, 1) := by decide +kernel
