set_option maxRecDepth 100000 in
theorem cd_82 : cdP 82 := ⟨okr (k := 221) rfl (by decide +kernel), by decide +kernel, by decide +kernel, okk_w (k := 36) (by decide +kernel)⟩
set_option maxRecDepth 100000 in
theorem cd_84 : cdP 84 := ⟨okr (k := 233) rfl (by decide +kernel), by decide +kernel, by decide +kernel, okk_w (k := 36) (by decide +kernel)⟩
set_option maxRecDepth 100000 in
theorem cd_86 : cdP 86 := ⟨okr (k := 241) rfl (by decide +kernel), by decide +kernel, by decide +kernel, okk_w (k := 36) (by decide +kernel)⟩
set_option maxRecDepth 100000 in
theorem c_80_42 : cvP 80 42 82 2 := ⟨cd_82, okk_w (k := 218) (by decide +kernel), okk_w (k := 220) (by decide +kernel), okk_w (k := 5) (by decide +kernel), by decide +kernel, by decide +kernel⟩
set_option maxRecDepth 100000 in
theorem c_80_52 : cvP 80 52 84 2 := ⟨cd_84, okk_w (k := 230) (by decide +kernel), okk_w (k := 232) (by decide +kernel), okk_w (k := 7) (by decide +kernel), by decide +kernel, by decide +kernel⟩
set_option maxRecDepth 100000 in
theorem c_80_56 : cvP 80 56 86 2 := ⟨cd_86, okk_w (k := 238) (by decide +kernel), okk_w (k := 240) (by decide +kernel), okk_w (k := 9) (by decide +kernel), by decide +kernel, by decide +kernel⟩
set_option maxRecDepth 100000 in
theorem d_80_39 : decode (mB 80) 39 = .ok (.iload 7, 2) := by decide +kernel
set_option maxRecDepth 100000 in
theorem d_80_41 : decode (mB 80) 41 = .ok (.bipush 6, 2) := by decide +kernel
set_option maxRecDepth 100000 in
theorem d_80_43 : decode (mB 80) 43 = .ok (.if_icmp .gt 90, 3) := by decide +kernel
set_option maxRecDepth 100000 in
theorem d_80_46 : decode (mB 80) 46 = .ok (.aload_n 0, 1) := by decide +kernel
set_option maxRecDepth 100000 in
theorem d_80_47 : decode (mB 80) 47 = .ok (.getfield 11, 3) := by decide +kernel
set_option maxRecDepth 100000 in
theorem d_80_50 : decode (mB 80) 50 = .ok (.iload 7, 2) := by decide +kernel
set_option maxRecDepth 100000 in
theorem d_80_52 : decode (mB 80) 52 = .ok (.iconst 1, 1) := by decide +kernel
set_option maxRecDepth 100000 in
theorem d_80_53 : decode (mB 80) 53 = .ok (.isub, 1) := by decide +kernel
set_option maxRecDepth 100000 in
theorem d_80_54 : decode (mB 80) 54 = .ok (.aaload, 1) := by decide +kernel
set_option maxRecDepth 100000 in
theorem d_80_55 : decode (mB 80) 55 = .ok (.iconst 0, 1) := by decide +kernel
set_option maxRecDepth 100000 in
theorem d_80_56 : decode (mB 80) 56 = .ok (.aload_n 0, 1) := by decide +kernel
set_option maxRecDepth 100000 in
theorem d_80_57 : decode (mB 80) 57 = .ok (.getfield 11, 3) := by decide +kernel
set_option maxRecDepth 100000 in
theorem d_80_60 : decode (mB 80) 60 = .ok (.iload 7, 2) := by decide +kernel
set_option maxRecDepth 100000 in
theorem d_80_62 : decode (mB 80) 62 = .ok (.aaload, 1) := by decide +kernel
set_option maxRecDepth 100000 in
theorem d_80_63 : decode (mB 80) 63 = .ok (.iconst 0, 1) := by decide +kernel
set_option maxRecDepth 100000 in
theorem d_80_64 : decode (mB 80) 64 = .ok (.bipush 16, 2) := by decide +kernel
set_option maxRecDepth 100000 in
theorem d_80_66 : decode (mB 80) 66 = .ok (.invokestatic 46, 3) := by decide +kernel
set_option maxRecDepth 100000 in
theorem d_80_69 : decode (mB 80) 69 = .ok (.aload_n 0, 1) := by decide +kernel
set_option maxRecDepth 100000 in
theorem d_80_70 : decode (mB 80) 70 = .ok (.getfield 16, 3) := by decide +kernel
set_option maxRecDepth 100000 in
theorem d_80_73 : decode (mB 80) 73 = .ok (.iload 7, 2) := by decide +kernel
set_option maxRecDepth 100000 in
theorem d_80_75 : decode (mB 80) 75 = .ok (.iconst 1, 1) := by decide +kernel
set_option maxRecDepth 100000 in
theorem d_80_76 : decode (mB 80) 76 = .ok (.isub, 1) := by decide +kernel
set_option maxRecDepth 100000 in
theorem d_80_77 : decode (mB 80) 77 = .ok (.aaload, 1) := by decide +kernel
set_option maxRecDepth 100000 in
theorem d_80_78 : decode (mB 80) 78 = .ok (.iconst 0, 1) := by decide +kernel
set_option maxRecDepth 100000 in
theorem d_80_79 : decode (mB 80) 79 = .ok (.aload_n 0, 1) := by decide +kernel
set_option maxRecDepth 100000 in
theorem d_80_80 : decode (mB 80) 80 = .ok (.getfield 16, 3) := by decide +kernel
set_option maxRecDepth 100000 in
theorem d_80_83 : decode (mB 80) 83 = .ok (.iload 7, 2) := by decide +kernel
set_option maxRecDepth 100000 in
theorem d_80_85 : decode (mB 80) 85 = .ok (.aaload, 1) := by decide +kernel
set_option maxRecDepth 100000 in
theorem d_80_86 : decode (mB 80) 86 = .ok (.iconst 0, 1) := by decide +kernel
set_option maxRecDepth 100000 in
theorem d_80_87 : decode (mB 80) 87 = .ok (.bipush 16, 2) := by decide +kernel
set_option maxRecDepth 100000 in
theorem d_80_89 : decode (mB 80) 89 = .ok (.invokestatic 46, 3) := by decide +kernel
set_option maxRecDepth 100000 in
theorem d_80_92 : decode (mB 80) 92 = .ok (.iload 6, 2) := by decide +kernel
set_option maxRecDepth 100000 in
theorem d_80_94 : decode (mB 80) 94 = .ok (.ifCond .eq 33, 3) := by decide +kernel
set_option maxRecDepth 100000 in
theorem d_80_97 : decode (mB 80) 97 = .ok (.aload_n 0, 1) := by decide +kernel
set_option maxRecDepth 100000 in
theorem d_80_98 : decode (mB 80) 98 = .ok (.aload_n 2, 1) := by decide +kernel
set_option maxRecDepth 100000 in
theorem d_80_99 : decode (mB 80) 99 = .ok (.aload_n 0, 1) := by decide +kernel
set_option maxRecDepth 100000 in
theorem d_80_100 : decode (mB 80) 100 = .ok (.getfield 16, 3) := by decide +kernel
set_option maxRecDepth 100000 in
theorem d_80_103 : decode (mB 80) 103 = .ok (.iload 7, 2) := by decide +kernel
set_option maxRecDepth 100000 in
theorem d_80_105 : decode (mB 80) 105 = .ok (.iconst 1, 1) := by decide +kernel
set_option maxRecDepth 100000 in
theorem d_80_106 : decode (mB 80) 106 = .ok (.isub, 1) := by decide +kernel
set_option maxRecDepth 100000 in
theorem d_80_107 : decode (mB 80) 107 = .ok (.aaload, 1) := by decide +kernel
set_option maxRecDepth 100000 in
theorem d_80_108 : decode (mB 80) 108 = .ok (.invokevirtual 52, 3) := by decide +kernel
set_option maxRecDepth 100000 in
theorem d_80_111 : decode (mB 80) 111 = .ok (.istore 6, 2) := by decide +kernel
set_option maxRecDepth 100000 in
theorem d_80_113 : decode (mB 80) 113 = .ok (.aload_n 0, 1) := by decide +kernel
set_option maxRecDepth 100000 in
theorem d_80_114 : decode (mB 80) 114 = .ok (.aload_n 1, 1) := by decide +kernel
set_option maxRecDepth 100000 in
theorem d_80_115 : decode (mB 80) 115 = .ok (.iload 7, 2) := by decide +kernel
set_option maxRecDepth 100000 in
theorem d_80_117 : decode (mB 80) 117 = .ok (.invokevirtual 56, 3) := by decide +kernel
set_option maxRecDepth 100000 in
theorem d_80_120 : decode (mB 80) 120 = .ok (.aload_n 0, 1) := by decide +kernel
set_option maxRecDepth 100000 in
theorem d_80_121 : decode (mB 80) 121 = .ok (.aload_n 1, 1) := by decide +kernel
set_option maxRecDepth 100000 in
theorem d_80_122 : decode (mB 80) 122 = .ok (.iload 7, 2) := by decide +kernel
set_option maxRecDepth 100000 in
theorem d_80_124 : decode (mB 80) 124 = .ok (.invokevirtual 42, 3) := by decide +kernel
set_option maxRecDepth 100000 in
theorem d_80_127 : decode (mB 80) 127 = .ok (.iinc 7 1, 3) := by decide +kernel
set_option maxRecDepth 100000 in
theorem d_80_130 : decode (mB 80) 130 = .ok (.goto (-91), 3) := by decide +kernel
set_option maxRecDepth 100000 in
theorem d_80_133 : decode (mB 80) 133 = .ok (.return_, 1) := by decide +kernel
