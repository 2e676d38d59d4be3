set_option maxRecDepth 100000 in
theorem cd_57 : cdP 57 := ⟨okr (k := 310) rfl (by decide +kernel), by decide +kernel, by decide +kernel, okk_w (k := 47) (by decide +kernel)⟩
set_option maxRecDepth 100000 in
theorem c_46_53 : cvP 46 53 43 2 := ⟨cd_43, okk_w (k := 349) (by decide +kernel), okk_w (k := 350) (by decide +kernel), okk_w (k := 351) (by decide +kernel), by decide +kernel, by decide +kernel⟩
set_option maxRecDepth 100000 in
theorem c_46_65 : cvP 46 65 57 1 := ⟨cd_57, okk_w (k := 368) (by decide +kernel), okk_w (k := 308) (by decide +kernel), okk_w (k := 309) (by decide +kernel), by decide +kernel, by decide +kernel⟩
set_option maxRecDepth 100000 in
theorem c_46_74 : csP 46 74 110 2 := ⟨cd_110, okk_w (k := 353) (by decide +kernel), okk_w (k := 177) (by decide +kernel), by decide +kernel, by decide +kernel⟩
set_option maxRecDepth 100000 in
theorem d_46_0 : decode (mB 46) 0 = .ok (.aload_n 0, 1) := by decide +kernel
set_option maxRecDepth 100000 in
theorem d_46_1 : decode (mB 46) 1 = .ok (.iload_n 2, 1) := by decide +kernel
set_option maxRecDepth 100000 in
theorem d_46_2 : decode (mB 46) 2 = .ok (.iload_n 3, 1) := by decide +kernel
set_option maxRecDepth 100000 in
theorem d_46_3 : decode (mB 46) 3 = .ok (.invokevirtual 53, 3) := by decide +kernel
set_option maxRecDepth 100000 in
theorem d_46_6 : decode (mB 46) 6 = .ok (.istore 4, 2) := by decide +kernel
set_option maxRecDepth 100000 in
theorem d_46_8 : decode (mB 46) 8 = .ok (.iconst 0, 1) := by decide +kernel
set_option maxRecDepth 100000 in
theorem d_46_9 : decode (mB 46) 9 = .ok (.istore 5, 2) := by decide +kernel
set_option maxRecDepth 100000 in
theorem d_46_11 : decode (mB 46) 11 = .ok (.iload 5, 2) := by decide +kernel
set_option maxRecDepth 100000 in
theorem d_46_13 : decode (mB 46) 13 = .ok (.aload_n 1, 1) := by decide +kernel
set_option maxRecDepth 100000 in
theorem d_46_14 : decode (mB 46) 14 = .ok (.getfield 56, 3) := by decide +kernel
set_option maxRecDepth 100000 in
theorem d_46_17 : decode (mB 46) 17 = .ok (.if_icmp .ge 52, 3) := by decide +kernel
set_option maxRecDepth 100000 in
theorem d_46_20 : decode (mB 46) 20 = .ok (.aload_n 1, 1) := by decide +kernel
set_option maxRecDepth 100000 in
theorem d_46_21 : decode (mB 46) 21 = .ok (.getfield 61, 3) := by decide +kernel
set_option maxRecDepth 100000 in
theorem d_46_24 : decode (mB 46) 24 = .ok (.iload 5, 2) := by decide +kernel
set_option maxRecDepth 100000 in
theorem d_46_26 : decode (mB 46) 26 = .ok (.aaload, 1) := by decide +kernel
set_option maxRecDepth 100000 in
theorem d_46_27 : decode (mB 46) 27 = .ok (.astore 6, 2) := by decide +kernel
set_option maxRecDepth 100000 in
theorem d_46_29 : decode (mB 46) 29 = .ok (.aload 6, 2) := by decide +kernel
set_option maxRecDepth 100000 in
theorem d_46_31 : decode (mB 46) 31 = .ok (.iload_n 2, 1) := by decide +kernel
set_option maxRecDepth 100000 in
theorem d_46_32 : decode (mB 46) 32 = .ok (.invokevirtual 65, 3) := by decide +kernel
set_option maxRecDepth 100000 in
theorem d_46_35 : decode (mB 46) 35 = .ok (.istore 7, 2) := by decide +kernel
set_option maxRecDepth 100000 in
theorem d_46_37 : decode (mB 46) 37 = .ok (.iload 7, 2) := by decide +kernel
set_option maxRecDepth 100000 in
theorem d_46_39 : decode (mB 46) 39 = .ok (.iconst (-1), 1) := by decide +kernel
set_option maxRecDepth 100000 in
theorem d_46_40 : decode (mB 46) 40 = .ok (.if_icmp .eq 23, 3) := by decide +kernel
set_option maxRecDepth 100000 in
theorem d_46_43 : decode (mB 46) 43 = .ok (.iload 4, 2) := by decide +kernel
set_option maxRecDepth 100000 in
theorem d_46_45 : decode (mB 46) 45 = .ok (.aload_n 0, 1) := by decide +kernel
set_option maxRecDepth 100000 in
theorem d_46_46 : decode (mB 46) 46 = .ok (.iload 7, 2) := by decide +kernel
set_option maxRecDepth 100000 in
theorem d_46_48 : decode (mB 46) 48 = .ok (.iload_n 3, 1) := by decide +kernel
set_option maxRecDepth 100000 in
theorem d_46_49 : decode (mB 46) 49 = .ok (.invokevirtual 53, 3) := by decide +kernel
set_option maxRecDepth 100000 in
theorem d_46_52 : decode (mB 46) 52 = .ok (.aload 6, 2) := by decide +kernel
set_option maxRecDepth 100000 in
theorem d_46_54 : decode (mB 46) 54 = .ok (.getfield 71, 3) := by decide +kernel
set_option maxRecDepth 100000 in
theorem d_46_57 : decode (mB 46) 57 = .ok (.isub, 1) := by decide +kernel
set_option maxRecDepth 100000 in
theorem d_46_58 : decode (mB 46) 58 = .ok (.invokestatic 74, 3) := by decide +kernel
set_option maxRecDepth 100000 in
theorem d_46_61 : decode (mB 46) 61 = .ok (.istore 4, 2) := by decide +kernel
set_option maxRecDepth 100000 in
theorem d_46_63 : decode (mB 46) 63 = .ok (.iinc 5 1, 3) := by decide +kernel
set_option maxRecDepth 100000 in
theorem d_46_66 : decode (mB 46) 66 = .ok (.goto (-55), 3) := by decide +kernel
set_option maxRecDepth 100000 in
theorem d_46_69 : decode (mB 46) 69 = .ok (.iload 4, 2) := by decide +kernel
set_option maxRecDepth 100000 in
theorem d_46_71 : decode (mB 46) 71 = .ok (.ireturn, 1) := by decide +kernel
