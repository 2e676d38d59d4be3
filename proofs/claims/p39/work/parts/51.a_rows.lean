set_option maxRecDepth 100000 in
theorem cd_62 : cdP 62 := ⟨okr (k := 394) rfl (by decide +kernel), by decide +kernel, by decide +kernel, okk_w (k := 40) (by decide +kernel)⟩
set_option maxRecDepth 100000 in
theorem cd_68 : cdP 68 := ⟨okr (k := 420) rfl (by decide +kernel), by decide +kernel, by decide +kernel, okk_w (k := 40) (by decide +kernel)⟩
set_option maxRecDepth 100000 in
theorem c_60_59 : cvP 60 59 61 0 := ⟨cd_61, okk_w (k := 386) (by decide +kernel), okk_w (k := 388) (by decide +kernel), okk_w (k := 19) (by decide +kernel), by decide +kernel, by decide +kernel⟩
set_option maxRecDepth 100000 in
theorem c_60_63 : cvP 60 63 62 4 := ⟨cd_62, okk_w (k := 391) (by decide +kernel), okk_w (k := 393) (by decide +kernel), okk_w (k := 20) (by decide +kernel), by decide +kernel, by decide +kernel⟩
set_option maxRecDepth 100000 in
theorem c_60_67 : cvP 60 67 68 3 := ⟨cd_68, okk_w (k := 417) (by decide +kernel), okk_w (k := 419) (by decide +kernel), okk_w (k := 26) (by decide +kernel), by decide +kernel, by decide +kernel⟩
set_option maxRecDepth 100000 in
theorem d_60_0 : decode (mB 60) 0 = .ok (.iload 4, 2) := by decide +kernel
set_option maxRecDepth 100000 in
theorem d_60_2 : decode (mB 60) 2 = .ok (.istore 5, 2) := by decide +kernel
set_option maxRecDepth 100000 in
theorem d_60_4 : decode (mB 60) 4 = .ok (.iconst 0, 1) := by decide +kernel
set_option maxRecDepth 100000 in
theorem d_60_5 : decode (mB 60) 5 = .ok (.istore 6, 2) := by decide +kernel
set_option maxRecDepth 100000 in
theorem d_60_7 : decode (mB 60) 7 = .ok (.iload 6, 2) := by decide +kernel
set_option maxRecDepth 100000 in
theorem d_60_9 : decode (mB 60) 9 = .ok (.bipush 13, 2) := by decide +kernel
set_option maxRecDepth 100000 in
theorem d_60_11 : decode (mB 60) 11 = .ok (.if_icmp .ge 60, 3) := by decide +kernel
set_option maxRecDepth 100000 in
theorem d_60_14 : decode (mB 60) 14 = .ok (.iload 5, 2) := by decide +kernel
set_option maxRecDepth 100000 in
theorem d_60_16 : decode (mB 60) 16 = .ok (.ifCond .gt 14, 3) := by decide +kernel
set_option maxRecDepth 100000 in
theorem d_60_19 : decode (mB 60) 19 = .ok (.aload_n 0, 1) := by decide +kernel
set_option maxRecDepth 100000 in
theorem d_60_20 : decode (mB 60) 20 = .ok (.invokevirtual 59, 3) := by decide +kernel
set_option maxRecDepth 100000 in
theorem d_60_23 : decode (mB 60) 23 = .ok (.aload_n 0, 1) := by decide +kernel
set_option maxRecDepth 100000 in
theorem d_60_24 : decode (mB 60) 24 = .ok (.getfield 44, 3) := by decide +kernel
set_option maxRecDepth 100000 in
theorem d_60_27 : decode (mB 60) 27 = .ok (.if_icmp .eq 44, 3) := by decide +kernel
set_option maxRecDepth 100000 in
theorem d_60_30 : decode (mB 60) 30 = .ok (.iload 5, 2) := by decide +kernel
set_option maxRecDepth 100000 in
theorem d_60_32 : decode (mB 60) 32 = .ok (.ifCond .le 21, 3) := by decide +kernel
set_option maxRecDepth 100000 in
theorem d_60_35 : decode (mB 60) 35 = .ok (.aload_n 0, 1) := by decide +kernel
set_option maxRecDepth 100000 in
theorem d_60_36 : decode (mB 60) 36 = .ok (.aload_n 1, 1) := by decide +kernel
set_option maxRecDepth 100000 in
theorem d_60_37 : decode (mB 60) 37 = .ok (.aload_n 2, 1) := by decide +kernel
set_option maxRecDepth 100000 in
theorem d_60_38 : decode (mB 60) 38 = .ok (.aload_n 3, 1) := by decide +kernel
set_option maxRecDepth 100000 in
theorem d_60_39 : decode (mB 60) 39 = .ok (.iload 5, 2) := by decide +kernel
set_option maxRecDepth 100000 in
theorem d_60_41 : decode (mB 60) 41 = .ok (.invokevirtual 63, 3) := by decide +kernel
set_option maxRecDepth 100000 in
theorem d_60_44 : decode (mB 60) 44 = .ok (.ifCond .eq 9, 3) := by decide +kernel
set_option maxRecDepth 100000 in
theorem d_60_47 : decode (mB 60) 47 = .ok (.iinc 5 (-1), 3) := by decide +kernel
set_option maxRecDepth 100000 in
theorem d_60_50 : decode (mB 60) 50 = .ok (.goto 15, 3) := by decide +kernel
set_option maxRecDepth 100000 in
theorem d_60_53 : decode (mB 60) 53 = .ok (.aload_n 0, 1) := by decide +kernel
set_option maxRecDepth 100000 in
theorem d_60_54 : decode (mB 60) 54 = .ok (.aload_n 1, 1) := by decide +kernel
set_option maxRecDepth 100000 in
theorem d_60_55 : decode (mB 60) 55 = .ok (.aload_n 3, 1) := by decide +kernel
set_option maxRecDepth 100000 in
theorem d_60_56 : decode (mB 60) 56 = .ok (.iload 5, 2) := by decide +kernel
set_option maxRecDepth 100000 in
theorem d_60_58 : decode (mB 60) 58 = .ok (.invokevirtual 67, 3) := by decide +kernel
set_option maxRecDepth 100000 in
theorem d_60_61 : decode (mB 60) 61 = .ok (.ifCond .ne 4, 3) := by decide +kernel
set_option maxRecDepth 100000 in
theorem d_60_64 : decode (mB 60) 64 = .ok (.return_, 1) := by decide +kernel
set_option maxRecDepth 100000 in
theorem d_60_65 : decode (mB 60) 65 = .ok (.iinc 6 1, 3) := by decide +kernel
set_option maxRecDepth 100000 in
theorem d_60_68 : decode (mB 60) 68 = .ok (.goto (-61), 3) := by decide +kernel
set_option maxRecDepth 100000 in
theorem d_60_71 : decode (mB 60) 71 = .ok (.aload_n 0, 1) := by decide +kernel
set_option maxRecDepth 100000 in
theorem d_60_72 : decode (mB 60) 72 = .ok (.iload 5, 2) := by decide +kernel
set_option maxRecDepth 100000 in
theorem d_60_74 : decode (mB 60) 74 = .ok (.ifCond .ne 18, 3) := by decide +kernel
set_option maxRecDepth 100000 in
theorem d_60_77 : decode (mB 60) 77 = .ok (.aload_n 0, 1) := by decide +kernel
set_option maxRecDepth 100000 in
theorem d_60_78 : decode (mB 60) 78 = .ok (.invokevirtual 59, 3) := by decide +kernel
set_option maxRecDepth 100000 in
theorem d_60_81 : decode (mB 60) 81 = .ok (.aload_n 0, 1) := by decide +kernel
set_option maxRecDepth 100000 in
theorem d_60_82 : decode (mB 60) 82 = .ok (.getfield 44, 3) := by decide +kernel
set_option maxRecDepth 100000 in
theorem d_60_85 : decode (mB 60) 85 = .ok (.if_icmp .ne 7, 3) := by decide +kernel
set_option maxRecDepth 100000 in
theorem d_60_88 : decode (mB 60) 88 = .ok (.iconst 1, 1) := by decide +kernel
set_option maxRecDepth 100000 in
theorem d_60_89 : decode (mB 60) 89 = .ok (.goto 4, 3) := by decide +kernel
set_option maxRecDepth 100000 in
theorem d_60_93 : decode (mB 60) 93 = .ok (.putfield 36, 3) := by decide +kernel
set_option maxRecDepth 100000 in
theorem d_60_96 : decode (mB 60) 96 = .ok (.return_, 1) := by decide +kernel
