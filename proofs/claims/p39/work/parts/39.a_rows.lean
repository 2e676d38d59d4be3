set_option maxRecDepth 100000 in
theorem cd_81 : cdP 81 := ⟨okr (k := 213) rfl (by decide +kernel), by decide +kernel, by decide +kernel, okk_w (k := 36) (by decide +kernel)⟩
set_option maxRecDepth 100000 in
theorem cd_91 : cdP 91 := ⟨okr (k := 172) rfl (by decide +kernel), by decide +kernel, by decide +kernel, okk_w (k := 34) (by decide +kernel)⟩
set_option maxRecDepth 100000 in
theorem c_80_32 : cvP 80 32 91 3 := ⟨cd_91, okk_w (k := 169) (by decide +kernel), okk_w (k := 170) (by decide +kernel), okk_w (k := 171) (by decide +kernel), by decide +kernel, by decide +kernel⟩
set_option maxRecDepth 100000 in
theorem c_80_38 : cvP 80 38 81 2 := ⟨cd_81, okk_w (k := 209) (by decide +kernel), okk_w (k := 211) (by decide +kernel), okk_w (k := 4) (by decide +kernel), by decide +kernel, by decide +kernel⟩
set_option maxRecDepth 100000 in
theorem d_80_0 : decode (mB 80) 0 = .ok (.aload_n 0, 1) := by decide +kernel
set_option maxRecDepth 100000 in
theorem d_80_1 : decode (mB 80) 1 = .ok (.iload 4, 2) := by decide +kernel
set_option maxRecDepth 100000 in
theorem d_80_3 : decode (mB 80) 3 = .ok (.iload 5, 2) := by decide +kernel
set_option maxRecDepth 100000 in
theorem d_80_5 : decode (mB 80) 5 = .ok (.iadd, 1) := by decide +kernel
set_option maxRecDepth 100000 in
theorem d_80_6 : decode (mB 80) 6 = .ok (.putfield 28, 3) := by decide +kernel
set_option maxRecDepth 100000 in
theorem d_80_9 : decode (mB 80) 9 = .ok (.aload_n 2, 1) := by decide +kernel
set_option maxRecDepth 100000 in
theorem d_80_10 : decode (mB 80) 10 = .ok (.aload_n 1, 1) := by decide +kernel
set_option maxRecDepth 100000 in
theorem d_80_11 : decode (mB 80) 11 = .ok (.iload 4, 2) := by decide +kernel
set_option maxRecDepth 100000 in
theorem d_80_13 : decode (mB 80) 13 = .ok (.aload_n 0, 1) := by decide +kernel
set_option maxRecDepth 100000 in
theorem d_80_14 : decode (mB 80) 14 = .ok (.getfield 28, 3) := by decide +kernel
set_option maxRecDepth 100000 in
theorem d_80_17 : decode (mB 80) 17 = .ok (.invokevirtual 32, 3) := by decide +kernel
set_option maxRecDepth 100000 in
theorem d_80_20 : decode (mB 80) 20 = .ok (.aload_n 0, 1) := by decide +kernel
set_option maxRecDepth 100000 in
theorem d_80_21 : decode (mB 80) 21 = .ok (.iload_n 3, 1) := by decide +kernel
set_option maxRecDepth 100000 in
theorem d_80_22 : decode (mB 80) 22 = .ok (.iload 4, 2) := by decide +kernel
set_option maxRecDepth 100000 in
theorem d_80_24 : decode (mB 80) 24 = .ok (.invokevirtual 38, 3) := by decide +kernel
set_option maxRecDepth 100000 in
theorem d_80_27 : decode (mB 80) 27 = .ok (.aload_n 0, 1) := by decide +kernel
set_option maxRecDepth 100000 in
theorem d_80_28 : decode (mB 80) 28 = .ok (.aload_n 1, 1) := by decide +kernel
set_option maxRecDepth 100000 in
theorem d_80_29 : decode (mB 80) 29 = .ok (.iconst 0, 1) := by decide +kernel
set_option maxRecDepth 100000 in
theorem d_80_30 : decode (mB 80) 30 = .ok (.invokevirtual 42, 3) := by decide +kernel
set_option maxRecDepth 100000 in
theorem d_80_33 : decode (mB 80) 33 = .ok (.iconst 1, 1) := by decide +kernel
set_option maxRecDepth 100000 in
theorem d_80_34 : decode (mB 80) 34 = .ok (.istore 6, 2) := by decide +kernel
set_option maxRecDepth 100000 in
theorem d_80_36 : decode (mB 80) 36 = .ok (.iconst 1, 1) := by decide +kernel
set_option maxRecDepth 100000 in
theorem d_80_37 : decode (mB 80) 37 = .ok (.istore 7, 2) := by decide +kernel
