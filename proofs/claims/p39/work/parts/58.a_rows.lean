set_option maxRecDepth 100000 in
theorem cd_113 : cdP 113 := ⟨okr (k := 291) rfl (by decide +kernel), by decide +kernel, by decide +kernel, okk_w (k := 51) (by decide +kernel)⟩
set_option maxRecDepth 100000 in
theorem fl_8_18 : flP "WhistleStop$Offers" 18 8 2 := ⟨_, rfl, by decide, okk_w (k := 687) (by decide +kernel)⟩
set_option maxRecDepth 100000 in
theorem ck_8_22 : okw (.constant "WhistleStop$Offers" 22 (1000000000)) := okk_w (k := 283) (by decide +kernel)
set_option maxRecDepth 100000 in
theorem d_76_0 : decode (mB 76) 0 = .ok (.aload_n 0, 1) := by decide +kernel
set_option maxRecDepth 100000 in
theorem d_76_1 : decode (mB 76) 1 = .ok (.getfield 18, 3) := by decide +kernel
set_option maxRecDepth 100000 in
theorem d_76_4 : decode (mB 76) 4 = .ok (.istore_n 2, 1) := by decide +kernel
set_option maxRecDepth 100000 in
theorem d_76_5 : decode (mB 76) 5 = .ok (.iload_n 2, 1) := by decide +kernel
set_option maxRecDepth 100000 in
theorem d_76_6 : decode (mB 76) 6 = .ok (.ifCond .le 21, 3) := by decide +kernel
set_option maxRecDepth 100000 in
theorem d_76_9 : decode (mB 76) 9 = .ok (.aload_n 0, 1) := by decide +kernel
set_option maxRecDepth 100000 in
theorem d_76_10 : decode (mB 76) 10 = .ok (.getfield 11, 3) := by decide +kernel
set_option maxRecDepth 100000 in
theorem d_76_13 : decode (mB 76) 13 = .ok (.iload_n 2, 1) := by decide +kernel
set_option maxRecDepth 100000 in
theorem d_76_14 : decode (mB 76) 14 = .ok (.iconst 1, 1) := by decide +kernel
set_option maxRecDepth 100000 in
theorem d_76_15 : decode (mB 76) 15 = .ok (.isub, 1) := by decide +kernel
set_option maxRecDepth 100000 in
theorem d_76_16 : decode (mB 76) 16 = .ok (.iaload, 1) := by decide +kernel
set_option maxRecDepth 100000 in
theorem d_76_17 : decode (mB 76) 17 = .ok (.iload_n 1, 1) := by decide +kernel
set_option maxRecDepth 100000 in
theorem d_76_18 : decode (mB 76) 18 = .ok (.if_icmp .le 9, 3) := by decide +kernel
set_option maxRecDepth 100000 in
theorem d_76_21 : decode (mB 76) 21 = .ok (.iinc 2 (-1), 3) := by decide +kernel
set_option maxRecDepth 100000 in
theorem d_76_24 : decode (mB 76) 24 = .ok (.goto (-19), 3) := by decide +kernel
set_option maxRecDepth 100000 in
theorem d_76_27 : decode (mB 76) 27 = .ok (.iload_n 2, 1) := by decide +kernel
set_option maxRecDepth 100000 in
theorem d_76_28 : decode (mB 76) 28 = .ok (.ifCond .le 14, 3) := by decide +kernel
set_option maxRecDepth 100000 in
theorem d_76_31 : decode (mB 76) 31 = .ok (.aload_n 0, 1) := by decide +kernel
set_option maxRecDepth 100000 in
theorem d_76_32 : decode (mB 76) 32 = .ok (.getfield 15, 3) := by decide +kernel
set_option maxRecDepth 100000 in
theorem d_76_35 : decode (mB 76) 35 = .ok (.iload_n 2, 1) := by decide +kernel
set_option maxRecDepth 100000 in
theorem d_76_36 : decode (mB 76) 36 = .ok (.iconst 1, 1) := by decide +kernel
set_option maxRecDepth 100000 in
theorem d_76_37 : decode (mB 76) 37 = .ok (.isub, 1) := by decide +kernel
set_option maxRecDepth 100000 in
theorem d_76_38 : decode (mB 76) 38 = .ok (.iaload, 1) := by decide +kernel
set_option maxRecDepth 100000 in
theorem d_76_39 : decode (mB 76) 39 = .ok (.goto 5, 3) := by decide +kernel
set_option maxRecDepth 100000 in
theorem d_76_42 : decode (mB 76) 42 = .ok (.ldc 22, 2) := by decide +kernel
set_option maxRecDepth 100000 in
theorem d_76_44 : decode (mB 76) 44 = .ok (.ireturn, 1) := by decide +kernel
set_option maxRecDepth 100000 in
theorem c_77_37 : csP 77 37 113 2 := ⟨cd_113, okk_w (k := 289) (by decide +kernel), okk_w (k := 290) (by decide +kernel), by decide +kernel, by decide +kernel⟩
set_option maxRecDepth 100000 in
theorem d_77_0 : decode (mB 77) 0 = .ok (.iload_n 1, 1) := by decide +kernel
set_option maxRecDepth 100000 in
theorem d_77_1 : decode (mB 77) 1 = .ok (.aload_n 0, 1) := by decide +kernel
set_option maxRecDepth 100000 in
theorem d_77_2 : decode (mB 77) 2 = .ok (.getfield 11, 3) := by decide +kernel
set_option maxRecDepth 100000 in
theorem d_77_5 : decode (mB 77) 5 = .ok (.arraylength, 1) := by decide +kernel
set_option maxRecDepth 100000 in
theorem d_77_6 : decode (mB 77) 6 = .ok (.if_icmp .le 31, 3) := by decide +kernel
set_option maxRecDepth 100000 in
theorem d_77_9 : decode (mB 77) 9 = .ok (.aload_n 0, 1) := by decide +kernel
set_option maxRecDepth 100000 in
theorem d_77_10 : decode (mB 77) 10 = .ok (.aload_n 0, 1) := by decide +kernel
set_option maxRecDepth 100000 in
theorem d_77_11 : decode (mB 77) 11 = .ok (.getfield 11, 3) := by decide +kernel
set_option maxRecDepth 100000 in
theorem d_77_14 : decode (mB 77) 14 = .ok (.iconst 2, 1) := by decide +kernel
set_option maxRecDepth 100000 in
theorem d_77_15 : decode (mB 77) 15 = .ok (.iload_n 1, 1) := by decide +kernel
set_option maxRecDepth 100000 in
theorem d_77_16 : decode (mB 77) 16 = .ok (.imul, 1) := by decide +kernel
set_option maxRecDepth 100000 in
theorem d_77_17 : decode (mB 77) 17 = .ok (.invokestatic 37, 3) := by decide +kernel
set_option maxRecDepth 100000 in
theorem d_77_20 : decode (mB 77) 20 = .ok (.putfield 11, 3) := by decide +kernel
set_option maxRecDepth 100000 in
theorem d_77_23 : decode (mB 77) 23 = .ok (.aload_n 0, 1) := by decide +kernel
set_option maxRecDepth 100000 in
theorem d_77_24 : decode (mB 77) 24 = .ok (.aload_n 0, 1) := by decide +kernel
set_option maxRecDepth 100000 in
theorem d_77_25 : decode (mB 77) 25 = .ok (.getfield 15, 3) := by decide +kernel
set_option maxRecDepth 100000 in
theorem d_77_28 : decode (mB 77) 28 = .ok (.iconst 2, 1) := by decide +kernel
set_option maxRecDepth 100000 in
theorem d_77_29 : decode (mB 77) 29 = .ok (.iload_n 1, 1) := by decide +kernel
set_option maxRecDepth 100000 in
theorem d_77_30 : decode (mB 77) 30 = .ok (.imul, 1) := by decide +kernel
set_option maxRecDepth 100000 in
theorem d_77_31 : decode (mB 77) 31 = .ok (.invokestatic 37, 3) := by decide +kernel
set_option maxRecDepth 100000 in
theorem d_77_34 : decode (mB 77) 34 = .ok (.putfield 15, 3) := by decide +kernel
set_option maxRecDepth 100000 in
theorem d_77_37 : decode (mB 77) 37 = .ok (.return_, 1) := by decide +kernel
set_option maxRecDepth 100000 in
theorem c_113_304 : csP 113 304 111 2 := ⟨cd_111, okk_w (k := 299) (by decide +kernel), okk_w (k := 180) (by decide +kernel), by decide +kernel, by decide +kernel⟩
set_option maxRecDepth 100000 in
theorem d_113_0 : decode (mB 113) 0 = .ok (.iload_n 1, 1) := by decide +kernel
set_option maxRecDepth 100000 in
theorem d_113_1 : decode (mB 113) 1 = .ok (.aload_n 0, 1) := by decide +kernel
set_option maxRecDepth 100000 in
theorem d_113_2 : decode (mB 113) 2 = .ok (.arraylength, 1) := by decide +kernel
set_option maxRecDepth 100000 in
theorem d_113_3 : decode (mB 113) 3 = .ok (.if_icmp .ne 11, 3) := by decide +kernel
set_option maxRecDepth 100000 in
theorem d_113_14 : decode (mB 113) 14 = .ok (.iload_n 1, 1) := by decide +kernel
set_option maxRecDepth 100000 in
theorem d_113_15 : decode (mB 113) 15 = .ok (.newarray .int, 2) := by decide +kernel
set_option maxRecDepth 100000 in
theorem d_113_17 : decode (mB 113) 17 = .ok (.astore_n 2, 1) := by decide +kernel
set_option maxRecDepth 100000 in
theorem d_113_18 : decode (mB 113) 18 = .ok (.aload_n 0, 1) := by decide +kernel
set_option maxRecDepth 100000 in
theorem d_113_19 : decode (mB 113) 19 = .ok (.iconst 0, 1) := by decide +kernel
set_option maxRecDepth 100000 in
theorem d_113_20 : decode (mB 113) 20 = .ok (.aload_n 2, 1) := by decide +kernel
set_option maxRecDepth 100000 in
theorem d_113_21 : decode (mB 113) 21 = .ok (.iconst 0, 1) := by decide +kernel
set_option maxRecDepth 100000 in
theorem d_113_22 : decode (mB 113) 22 = .ok (.aload_n 0, 1) := by decide +kernel
set_option maxRecDepth 100000 in
theorem d_113_23 : decode (mB 113) 23 = .ok (.arraylength, 1) := by decide +kernel
set_option maxRecDepth 100000 in
theorem d_113_24 : decode (mB 113) 24 = .ok (.iload_n 1, 1) := by decide +kernel
set_option maxRecDepth 100000 in
theorem d_113_25 : decode (mB 113) 25 = .ok (.invokestatic 304, 3) := by decide +kernel
set_option maxRecDepth 100000 in
theorem d_113_28 : decode (mB 113) 28 = .ok (.invokestatic 150, 3) := by decide +kernel
set_option maxRecDepth 100000 in
theorem d_113_31 : decode (mB 113) 31 = .ok (.aload_n 2, 1) := by decide +kernel
set_option maxRecDepth 100000 in
theorem d_113_32 : decode (mB 113) 32 = .ok (.areturn, 1) := by decide +kernel
