set_option maxRecDepth 100000 in
theorem cd_85 : cdP 85 := ⟨okr (k := 237) rfl (by decide +kernel), by decide +kernel, by decide +kernel, okk_w (k := 36) (by decide +kernel)⟩
set_option maxRecDepth 100000 in
theorem cd_112 : cdP 112 := ⟨okr (k := 217) rfl (by decide +kernel), by decide +kernel, by decide +kernel, okk_w (k := 51) (by decide +kernel)⟩
set_option maxRecDepth 100000 in
theorem ck_9_23 : okw (.constant "WhistleStop$Onward" 23 (1000000000)) := okk_w (k := 214) (by decide +kernel)
set_option maxRecDepth 100000 in
theorem c_81_59 : csP 81 59 112 2 := ⟨cd_112, okk_w (k := 215) (by decide +kernel), okk_w (k := 216) (by decide +kernel), by decide +kernel, by decide +kernel⟩
set_option maxRecDepth 100000 in
theorem d_81_0 : decode (mB 81) 0 = .ok (.aload_n 0, 1) := by decide +kernel
set_option maxRecDepth 100000 in
theorem d_81_1 : decode (mB 81) 1 = .ok (.getfield 11, 3) := by decide +kernel
set_option maxRecDepth 100000 in
theorem d_81_4 : decode (mB 81) 4 = .ok (.iconst 0, 1) := by decide +kernel
set_option maxRecDepth 100000 in
theorem d_81_5 : decode (mB 81) 5 = .ok (.aaload, 1) := by decide +kernel
set_option maxRecDepth 100000 in
theorem d_81_6 : decode (mB 81) 6 = .ok (.ldc 23, 2) := by decide +kernel
set_option maxRecDepth 100000 in
theorem d_81_8 : decode (mB 81) 8 = .ok (.invokestatic 59, 3) := by decide +kernel
set_option maxRecDepth 100000 in
theorem d_81_11 : decode (mB 81) 11 = .ok (.aload_n 0, 1) := by decide +kernel
set_option maxRecDepth 100000 in
theorem d_81_12 : decode (mB 81) 12 = .ok (.getfield 16, 3) := by decide +kernel
set_option maxRecDepth 100000 in
theorem d_81_15 : decode (mB 81) 15 = .ok (.iconst 0, 1) := by decide +kernel
set_option maxRecDepth 100000 in
theorem d_81_16 : decode (mB 81) 16 = .ok (.aaload, 1) := by decide +kernel
set_option maxRecDepth 100000 in
theorem d_81_17 : decode (mB 81) 17 = .ok (.ldc 23, 2) := by decide +kernel
set_option maxRecDepth 100000 in
theorem d_81_19 : decode (mB 81) 19 = .ok (.invokestatic 59, 3) := by decide +kernel
set_option maxRecDepth 100000 in
theorem d_81_22 : decode (mB 81) 22 = .ok (.aload_n 0, 1) := by decide +kernel
set_option maxRecDepth 100000 in
theorem d_81_23 : decode (mB 81) 23 = .ok (.getfield 19, 3) := by decide +kernel
set_option maxRecDepth 100000 in
theorem d_81_26 : decode (mB 81) 26 = .ok (.ldc 23, 2) := by decide +kernel
set_option maxRecDepth 100000 in
theorem d_81_28 : decode (mB 81) 28 = .ok (.invokestatic 59, 3) := by decide +kernel
set_option maxRecDepth 100000 in
theorem d_81_31 : decode (mB 81) 31 = .ok (.aload_n 0, 1) := by decide +kernel
set_option maxRecDepth 100000 in
theorem d_81_32 : decode (mB 81) 32 = .ok (.getfield 11, 3) := by decide +kernel
set_option maxRecDepth 100000 in
theorem d_81_35 : decode (mB 81) 35 = .ok (.iconst 0, 1) := by decide +kernel
set_option maxRecDepth 100000 in
theorem d_81_36 : decode (mB 81) 36 = .ok (.aaload, 1) := by decide +kernel
set_option maxRecDepth 100000 in
theorem d_81_37 : decode (mB 81) 37 = .ok (.iload_n 1, 1) := by decide +kernel
set_option maxRecDepth 100000 in
theorem d_81_38 : decode (mB 81) 38 = .ok (.iload_n 2, 1) := by decide +kernel
set_option maxRecDepth 100000 in
theorem d_81_39 : decode (mB 81) 39 = .ok (.iastore, 1) := by decide +kernel
set_option maxRecDepth 100000 in
theorem d_81_40 : decode (mB 81) 40 = .ok (.aload_n 0, 1) := by decide +kernel
set_option maxRecDepth 100000 in
theorem d_81_41 : decode (mB 81) 41 = .ok (.getfield 16, 3) := by decide +kernel
set_option maxRecDepth 100000 in
theorem d_81_44 : decode (mB 81) 44 = .ok (.iconst 0, 1) := by decide +kernel
set_option maxRecDepth 100000 in
theorem d_81_45 : decode (mB 81) 45 = .ok (.aaload, 1) := by decide +kernel
set_option maxRecDepth 100000 in
theorem d_81_46 : decode (mB 81) 46 = .ok (.iload_n 1, 1) := by decide +kernel
set_option maxRecDepth 100000 in
theorem d_81_47 : decode (mB 81) 47 = .ok (.iload_n 2, 1) := by decide +kernel
set_option maxRecDepth 100000 in
theorem d_81_48 : decode (mB 81) 48 = .ok (.iastore, 1) := by decide +kernel
set_option maxRecDepth 100000 in
theorem d_81_49 : decode (mB 81) 49 = .ok (.aload_n 0, 1) := by decide +kernel
set_option maxRecDepth 100000 in
theorem d_81_50 : decode (mB 81) 50 = .ok (.getfield 19, 3) := by decide +kernel
set_option maxRecDepth 100000 in
theorem d_81_53 : decode (mB 81) 53 = .ok (.iload_n 1, 1) := by decide +kernel
set_option maxRecDepth 100000 in
theorem d_81_54 : decode (mB 81) 54 = .ok (.iload_n 2, 1) := by decide +kernel
set_option maxRecDepth 100000 in
theorem d_81_55 : decode (mB 81) 55 = .ok (.iastore, 1) := by decide +kernel
set_option maxRecDepth 100000 in
theorem d_81_56 : decode (mB 81) 56 = .ok (.return_, 1) := by decide +kernel
set_option maxRecDepth 100000 in
theorem fl_9_65 : flP "WhistleStop$Onward" 65 10 3 := ⟨_, rfl, by decide, okk_w (k := 610) (by decide +kernel)⟩
set_option maxRecDepth 100000 in
theorem fl_9_68 : flP "WhistleStop$Onward" 68 10 0 := ⟨_, rfl, by decide, okk_w (k := 598) (by decide +kernel)⟩
set_option maxRecDepth 100000 in
theorem fl_9_72 : flP "WhistleStop$Onward" 72 10 2 := ⟨_, rfl, by decide, okk_w (k := 605) (by decide +kernel)⟩
set_option maxRecDepth 100000 in
theorem c_84_75 : cvP 84 75 85 3 := ⟨cd_85, okk_w (k := 234) (by decide +kernel), okk_w (k := 236) (by decide +kernel), okk_w (k := 8) (by decide +kernel), by decide +kernel, by decide +kernel⟩
set_option maxRecDepth 100000 in
theorem d_84_0 : decode (mB 84) 0 = .ok (.iconst 0, 1) := by decide +kernel
set_option maxRecDepth 100000 in
theorem d_84_1 : decode (mB 84) 1 = .ok (.istore_n 3, 1) := by decide +kernel
set_option maxRecDepth 100000 in
theorem d_84_2 : decode (mB 84) 2 = .ok (.iconst 0, 1) := by decide +kernel
set_option maxRecDepth 100000 in
theorem d_84_3 : decode (mB 84) 3 = .ok (.istore 4, 2) := by decide +kernel
set_option maxRecDepth 100000 in
theorem d_84_5 : decode (mB 84) 5 = .ok (.iload 4, 2) := by decide +kernel
set_option maxRecDepth 100000 in
theorem d_84_7 : decode (mB 84) 7 = .ok (.aload_n 1, 1) := by decide +kernel
set_option maxRecDepth 100000 in
theorem d_84_8 : decode (mB 84) 8 = .ok (.getfield 65, 3) := by decide +kernel
set_option maxRecDepth 100000 in
theorem d_84_11 : decode (mB 84) 11 = .ok (.if_icmp .ge 41, 3) := by decide +kernel
set_option maxRecDepth 100000 in
theorem d_84_14 : decode (mB 84) 14 = .ok (.aload_n 0, 1) := by decide +kernel
set_option maxRecDepth 100000 in
theorem d_84_15 : decode (mB 84) 15 = .ok (.aload_n 1, 1) := by decide +kernel
set_option maxRecDepth 100000 in
theorem d_84_16 : decode (mB 84) 16 = .ok (.getfield 68, 3) := by decide +kernel
set_option maxRecDepth 100000 in
theorem d_84_19 : decode (mB 84) 19 = .ok (.iload 4, 2) := by decide +kernel
set_option maxRecDepth 100000 in
theorem d_84_21 : decode (mB 84) 21 = .ok (.aaload, 1) := by decide +kernel
set_option maxRecDepth 100000 in
theorem d_84_22 : decode (mB 84) 22 = .ok (.aload_n 1, 1) := by decide +kernel
set_option maxRecDepth 100000 in
theorem d_84_23 : decode (mB 84) 23 = .ok (.getfield 72, 3) := by decide +kernel
set_option maxRecDepth 100000 in
theorem d_84_26 : decode (mB 84) 26 = .ok (.iload 4, 2) := by decide +kernel
set_option maxRecDepth 100000 in
theorem d_84_28 : decode (mB 84) 28 = .ok (.iaload, 1) := by decide +kernel
set_option maxRecDepth 100000 in
theorem d_84_29 : decode (mB 84) 29 = .ok (.aload_n 2, 1) := by decide +kernel
set_option maxRecDepth 100000 in
theorem d_84_30 : decode (mB 84) 30 = .ok (.invokevirtual 75, 3) := by decide +kernel
set_option maxRecDepth 100000 in
theorem d_84_33 : decode (mB 84) 33 = .ok (.ifCond .ne 7, 3) := by decide +kernel
set_option maxRecDepth 100000 in
theorem d_84_36 : decode (mB 84) 36 = .ok (.iload_n 3, 1) := by decide +kernel
set_option maxRecDepth 100000 in
theorem d_84_37 : decode (mB 84) 37 = .ok (.ifCond .eq 7, 3) := by decide +kernel
set_option maxRecDepth 100000 in
theorem d_84_40 : decode (mB 84) 40 = .ok (.iconst 1, 1) := by decide +kernel
set_option maxRecDepth 100000 in
theorem d_84_41 : decode (mB 84) 41 = .ok (.goto 4, 3) := by decide +kernel
set_option maxRecDepth 100000 in
theorem d_84_44 : decode (mB 84) 44 = .ok (.iconst 0, 1) := by decide +kernel
set_option maxRecDepth 100000 in
theorem d_84_45 : decode (mB 84) 45 = .ok (.istore_n 3, 1) := by decide +kernel
set_option maxRecDepth 100000 in
theorem d_84_46 : decode (mB 84) 46 = .ok (.iinc 4 1, 3) := by decide +kernel
set_option maxRecDepth 100000 in
theorem d_84_49 : decode (mB 84) 49 = .ok (.goto (-44), 3) := by decide +kernel
set_option maxRecDepth 100000 in
theorem d_84_52 : decode (mB 84) 52 = .ok (.iload_n 3, 1) := by decide +kernel
set_option maxRecDepth 100000 in
theorem d_84_53 : decode (mB 84) 53 = .ok (.ireturn, 1) := by decide +kernel
set_option maxRecDepth 100000 in
theorem fl_9_91 : flP "WhistleStop$Onward" 91 7 4 := ⟨_, rfl, by decide, okk_w (k := 563) (by decide +kernel)⟩
set_option maxRecDepth 100000 in
theorem c_86_96 : csP 86 96 111 2 := ⟨cd_111, okk_w (k := 226) (by decide +kernel), okk_w (k := 180) (by decide +kernel), by decide +kernel, by decide +kernel⟩
set_option maxRecDepth 100000 in
theorem fl_9_102 : flP "WhistleStop$Onward" 102 7 0 := ⟨_, rfl, by decide, okk_w (k := 549) (by decide +kernel)⟩
set_option maxRecDepth 100000 in
theorem d_86_0 : decode (mB 86) 0 = .ok (.iconst 0, 1) := by decide +kernel
set_option maxRecDepth 100000 in
theorem d_86_1 : decode (mB 86) 1 = .ok (.istore_n 3, 1) := by decide +kernel
set_option maxRecDepth 100000 in
theorem d_86_2 : decode (mB 86) 2 = .ok (.iload_n 3, 1) := by decide +kernel
set_option maxRecDepth 100000 in
theorem d_86_3 : decode (mB 86) 3 = .ok (.aload_n 1, 1) := by decide +kernel
set_option maxRecDepth 100000 in
theorem d_86_4 : decode (mB 86) 4 = .ok (.getfield 91, 3) := by decide +kernel
set_option maxRecDepth 100000 in
theorem d_86_7 : decode (mB 86) 7 = .ok (.if_icmp .ge 66, 3) := by decide +kernel
set_option maxRecDepth 100000 in
theorem d_86_10 : decode (mB 86) 10 = .ok (.aload_n 0, 1) := by decide +kernel
set_option maxRecDepth 100000 in
theorem d_86_11 : decode (mB 86) 11 = .ok (.getfield 11, 3) := by decide +kernel
set_option maxRecDepth 100000 in
theorem d_86_14 : decode (mB 86) 14 = .ok (.iload_n 2, 1) := by decide +kernel
set_option maxRecDepth 100000 in
theorem d_86_15 : decode (mB 86) 15 = .ok (.aaload, 1) := by decide +kernel
set_option maxRecDepth 100000 in
theorem d_86_16 : decode (mB 86) 16 = .ok (.iload_n 3, 1) := by decide +kernel
set_option maxRecDepth 100000 in
theorem d_86_17 : decode (mB 86) 17 = .ok (.aload_n 0, 1) := by decide +kernel
set_option maxRecDepth 100000 in
theorem d_86_18 : decode (mB 86) 18 = .ok (.getfield 11, 3) := by decide +kernel
set_option maxRecDepth 100000 in
theorem d_86_21 : decode (mB 86) 21 = .ok (.iload_n 2, 1) := by decide +kernel
set_option maxRecDepth 100000 in
theorem d_86_22 : decode (mB 86) 22 = .ok (.aaload, 1) := by decide +kernel
set_option maxRecDepth 100000 in
theorem d_86_23 : decode (mB 86) 23 = .ok (.iload_n 3, 1) := by decide +kernel
set_option maxRecDepth 100000 in
theorem d_86_24 : decode (mB 86) 24 = .ok (.iaload, 1) := by decide +kernel
set_option maxRecDepth 100000 in
theorem d_86_25 : decode (mB 86) 25 = .ok (.aload_n 0, 1) := by decide +kernel
set_option maxRecDepth 100000 in
theorem d_86_26 : decode (mB 86) 26 = .ok (.getfield 19, 3) := by decide +kernel
set_option maxRecDepth 100000 in
theorem d_86_29 : decode (mB 86) 29 = .ok (.iload_n 3, 1) := by decide +kernel
set_option maxRecDepth 100000 in
theorem d_86_30 : decode (mB 86) 30 = .ok (.iaload, 1) := by decide +kernel
set_option maxRecDepth 100000 in
theorem d_86_31 : decode (mB 86) 31 = .ok (.invokestatic 96, 3) := by decide +kernel
set_option maxRecDepth 100000 in
theorem d_86_34 : decode (mB 86) 34 = .ok (.iastore, 1) := by decide +kernel
set_option maxRecDepth 100000 in
theorem d_86_35 : decode (mB 86) 35 = .ok (.aload_n 0, 1) := by decide +kernel
set_option maxRecDepth 100000 in
theorem d_86_36 : decode (mB 86) 36 = .ok (.getfield 16, 3) := by decide +kernel
set_option maxRecDepth 100000 in
theorem d_86_39 : decode (mB 86) 39 = .ok (.iload_n 2, 1) := by decide +kernel
set_option maxRecDepth 100000 in
theorem d_86_40 : decode (mB 86) 40 = .ok (.aaload, 1) := by decide +kernel
set_option maxRecDepth 100000 in
theorem d_86_41 : decode (mB 86) 41 = .ok (.iload_n 3, 1) := by decide +kernel
set_option maxRecDepth 100000 in
theorem d_86_42 : decode (mB 86) 42 = .ok (.aload_n 0, 1) := by decide +kernel
set_option maxRecDepth 100000 in
theorem d_86_43 : decode (mB 86) 43 = .ok (.getfield 16, 3) := by decide +kernel
set_option maxRecDepth 100000 in
theorem d_86_46 : decode (mB 86) 46 = .ok (.iload_n 2, 1) := by decide +kernel
set_option maxRecDepth 100000 in
theorem d_86_47 : decode (mB 86) 47 = .ok (.aaload, 1) := by decide +kernel
set_option maxRecDepth 100000 in
theorem d_86_48 : decode (mB 86) 48 = .ok (.iload_n 3, 1) := by decide +kernel
set_option maxRecDepth 100000 in
theorem d_86_49 : decode (mB 86) 49 = .ok (.iaload, 1) := by decide +kernel
set_option maxRecDepth 100000 in
theorem d_86_50 : decode (mB 86) 50 = .ok (.aload_n 0, 1) := by decide +kernel
set_option maxRecDepth 100000 in
theorem d_86_51 : decode (mB 86) 51 = .ok (.getfield 19, 3) := by decide +kernel
set_option maxRecDepth 100000 in
theorem d_86_54 : decode (mB 86) 54 = .ok (.iload_n 3, 1) := by decide +kernel
set_option maxRecDepth 100000 in
theorem d_86_55 : decode (mB 86) 55 = .ok (.iaload, 1) := by decide +kernel
set_option maxRecDepth 100000 in
theorem d_86_56 : decode (mB 86) 56 = .ok (.aload_n 1, 1) := by decide +kernel
set_option maxRecDepth 100000 in
theorem d_86_57 : decode (mB 86) 57 = .ok (.getfield 102, 3) := by decide +kernel
set_option maxRecDepth 100000 in
theorem d_86_60 : decode (mB 86) 60 = .ok (.iload_n 3, 1) := by decide +kernel
set_option maxRecDepth 100000 in
theorem d_86_61 : decode (mB 86) 61 = .ok (.iaload, 1) := by decide +kernel
set_option maxRecDepth 100000 in
theorem d_86_62 : decode (mB 86) 62 = .ok (.iadd, 1) := by decide +kernel
set_option maxRecDepth 100000 in
theorem d_86_63 : decode (mB 86) 63 = .ok (.invokestatic 96, 3) := by decide +kernel
set_option maxRecDepth 100000 in
theorem d_86_66 : decode (mB 86) 66 = .ok (.iastore, 1) := by decide +kernel
set_option maxRecDepth 100000 in
theorem d_86_67 : decode (mB 86) 67 = .ok (.iinc 3 1, 3) := by decide +kernel
set_option maxRecDepth 100000 in
theorem d_86_70 : decode (mB 86) 70 = .ok (.goto (-68), 3) := by decide +kernel
set_option maxRecDepth 100000 in
theorem d_86_73 : decode (mB 86) 73 = .ok (.return_, 1) := by decide +kernel
