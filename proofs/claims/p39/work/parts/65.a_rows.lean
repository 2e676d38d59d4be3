set_option maxRecDepth 100000 in
theorem cd_51 : cdP 51 := ⟨okr (k := 273) rfl (by decide +kernel), by decide +kernel, by decide +kernel, okk_w (k := 38) (by decide +kernel)⟩
set_option maxRecDepth 100000 in
theorem c_10_77 : cvP 10 77 1 1 := ⟨cd_1, okk_w (k := 57) (by decide +kernel), okk_w (k := 59) (by decide +kernel), okk_w (k := 0) (by decide +kernel), by decide +kernel, by decide +kernel⟩
set_option maxRecDepth 100000 in
theorem c_10_154 : csP 10 154 3 1 := ⟨cd_3, okk_w (k := 135) (by decide +kernel), okk_w (k := 136) (by decide +kernel), by decide +kernel, by decide +kernel⟩
set_option maxRecDepth 100000 in
theorem c_10_62 : csP 10 62 5 1 := ⟨cd_5, okk_w (k := 142) (by decide +kernel), okk_w (k := 143) (by decide +kernel), by decide +kernel, by decide +kernel⟩
set_option maxRecDepth 100000 in
theorem c_10_183 : cvP 10 183 91 3 := ⟨cd_91, okk_w (k := 268) (by decide +kernel), okk_w (k := 170) (by decide +kernel), okk_w (k := 171) (by decide +kernel), by decide +kernel, by decide +kernel⟩
set_option maxRecDepth 100000 in
theorem c_10_187 : csP 10 187 111 2 := ⟨cd_111, okk_w (k := 269) (by decide +kernel), okk_w (k := 180) (by decide +kernel), by decide +kernel, by decide +kernel⟩
set_option maxRecDepth 100000 in
theorem c_10_193 : cvP 10 193 51 6 := ⟨cd_51, okk_w (k := 270) (by decide +kernel), okk_w (k := 271) (by decide +kernel), okk_w (k := 272) (by decide +kernel), by decide +kernel, by decide +kernel⟩
set_option maxRecDepth 100000 in
theorem d_10_0 : decode (mB 10) 0 = .ok (.aload_n 0, 1) := by decide +kernel
set_option maxRecDepth 100000 in
theorem d_10_1 : decode (mB 10) 1 = .ok (.iload_n 1, 1) := by decide +kernel
set_option maxRecDepth 100000 in
theorem d_10_2 : decode (mB 10) 2 = .ok (.invokevirtual 77, 3) := by decide +kernel
set_option maxRecDepth 100000 in
theorem d_10_5 : decode (mB 10) 5 = .ok (.aload_n 0, 1) := by decide +kernel
set_option maxRecDepth 100000 in
theorem d_10_6 : decode (mB 10) 6 = .ok (.iload_n 2, 1) := by decide +kernel
set_option maxRecDepth 100000 in
theorem d_10_7 : decode (mB 10) 7 = .ok (.invokevirtual 77, 3) := by decide +kernel
set_option maxRecDepth 100000 in
theorem d_10_10 : decode (mB 10) 10 = .ok (.iload_n 3, 1) := by decide +kernel
set_option maxRecDepth 100000 in
theorem d_10_11 : decode (mB 10) 11 = .ok (.invokestatic 154, 3) := by decide +kernel
set_option maxRecDepth 100000 in
theorem d_10_14 : decode (mB 10) 14 = .ok (.iload 4, 2) := by decide +kernel
set_option maxRecDepth 100000 in
theorem d_10_16 : decode (mB 10) 16 = .ok (.iload_n 3, 1) := by decide +kernel
set_option maxRecDepth 100000 in
theorem d_10_17 : decode (mB 10) 17 = .ok (.if_icmp .lt 7, 3) := by decide +kernel
set_option maxRecDepth 100000 in
theorem d_10_20 : decode (mB 10) 20 = .ok (.iconst 1, 1) := by decide +kernel
set_option maxRecDepth 100000 in
theorem d_10_21 : decode (mB 10) 21 = .ok (.goto 4, 3) := by decide +kernel
set_option maxRecDepth 100000 in
theorem d_10_24 : decode (mB 10) 24 = .ok (.iconst 0, 1) := by decide +kernel
set_option maxRecDepth 100000 in
theorem d_10_25 : decode (mB 10) 25 = .ok (.invokestatic 62, 3) := by decide +kernel
set_option maxRecDepth 100000 in
theorem d_10_28 : decode (mB 10) 28 = .ok (.aload_n 0, 1) := by decide +kernel
set_option maxRecDepth 100000 in
theorem d_10_29 : decode (mB 10) 29 = .ok (.getfield 19, 3) := by decide +kernel
set_option maxRecDepth 100000 in
theorem d_10_32 : decode (mB 10) 32 = .ok (.aload_n 0, 1) := by decide +kernel
set_option maxRecDepth 100000 in
theorem d_10_33 : decode (mB 10) 33 = .ok (.getfield 12, 3) := by decide +kernel
set_option maxRecDepth 100000 in
theorem d_10_36 : decode (mB 10) 36 = .ok (.iload_n 3, 1) := by decide +kernel
set_option maxRecDepth 100000 in
theorem d_10_37 : decode (mB 10) 37 = .ok (.iload_n 3, 1) := by decide +kernel
set_option maxRecDepth 100000 in
theorem d_10_38 : decode (mB 10) 38 = .ok (.sipush 2880, 3) := by decide +kernel
set_option maxRecDepth 100000 in
theorem d_10_41 : decode (mB 10) 41 = .ok (.iadd, 1) := by decide +kernel
set_option maxRecDepth 100000 in
theorem d_10_42 : decode (mB 10) 42 = .ok (.invokevirtual 183, 3) := by decide +kernel
set_option maxRecDepth 100000 in
theorem d_10_45 : decode (mB 10) 45 = .ok (.aload_n 0, 1) := by decide +kernel
set_option maxRecDepth 100000 in
theorem d_10_46 : decode (mB 10) 46 = .ok (.getfield 47, 3) := by decide +kernel
set_option maxRecDepth 100000 in
theorem d_10_49 : decode (mB 10) 49 = .ok (.aload_n 0, 1) := by decide +kernel
set_option maxRecDepth 100000 in
theorem d_10_50 : decode (mB 10) 50 = .ok (.getfield 12, 3) := by decide +kernel
set_option maxRecDepth 100000 in
theorem d_10_53 : decode (mB 10) 53 = .ok (.aload_n 0, 1) := by decide +kernel
set_option maxRecDepth 100000 in
theorem d_10_54 : decode (mB 10) 54 = .ok (.getfield 19, 3) := by decide +kernel
set_option maxRecDepth 100000 in
theorem d_10_57 : decode (mB 10) 57 = .ok (.iload_n 1, 1) := by decide +kernel
set_option maxRecDepth 100000 in
theorem d_10_58 : decode (mB 10) 58 = .ok (.iload_n 2, 1) := by decide +kernel
set_option maxRecDepth 100000 in
theorem d_10_59 : decode (mB 10) 59 = .ok (.iload_n 3, 1) := by decide +kernel
set_option maxRecDepth 100000 in
theorem d_10_60 : decode (mB 10) 60 = .ok (.iload 4, 2) := by decide +kernel
set_option maxRecDepth 100000 in
theorem d_10_62 : decode (mB 10) 62 = .ok (.iload_n 3, 1) := by decide +kernel
set_option maxRecDepth 100000 in
theorem d_10_63 : decode (mB 10) 63 = .ok (.sipush 2880, 3) := by decide +kernel
set_option maxRecDepth 100000 in
theorem d_10_66 : decode (mB 10) 66 = .ok (.iadd, 1) := by decide +kernel
set_option maxRecDepth 100000 in
theorem d_10_67 : decode (mB 10) 67 = .ok (.invokestatic 187, 3) := by decide +kernel
set_option maxRecDepth 100000 in
theorem d_10_70 : decode (mB 10) 70 = .ok (.invokevirtual 193, 3) := by decide +kernel
set_option maxRecDepth 100000 in
theorem d_10_73 : decode (mB 10) 73 = .ok (.istore 5, 2) := by decide +kernel
set_option maxRecDepth 100000 in
theorem d_10_75 : decode (mB 10) 75 = .ok (.iload 5, 2) := by decide +kernel
set_option maxRecDepth 100000 in
theorem d_10_77 : decode (mB 10) 77 = .ok (.ldc 197, 2) := by decide +kernel
set_option maxRecDepth 100000 in
theorem d_10_79 : decode (mB 10) 79 = .ok (.if_icmp .ge 8, 3) := by decide +kernel
set_option maxRecDepth 100000 in
theorem d_10_82 : decode (mB 10) 82 = .ok (.iload 5, 2) := by decide +kernel
set_option maxRecDepth 100000 in
theorem d_10_84 : decode (mB 10) 84 = .ok (.goto 4, 3) := by decide +kernel
set_option maxRecDepth 100000 in
theorem d_10_87 : decode (mB 10) 87 = .ok (.iconst (-1), 1) := by decide +kernel
set_option maxRecDepth 100000 in
theorem d_10_88 : decode (mB 10) 88 = .ok (.ireturn, 1) := by decide +kernel
