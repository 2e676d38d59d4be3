set_option maxRecDepth 100000 in
theorem cd_34 : cdP 34 := ⟨okr (k := 915) rfl (by decide +kernel), by decide +kernel, by decide +kernel, okk_w (k := 32) (by decide +kernel)⟩
set_option maxRecDepth 100000 in
theorem cd_101 : cdP 101 := ⟨okr (k := 864) rfl (by decide +kernel), by decide +kernel, by decide +kernel, okk_w (k := 31) (by decide +kernel)⟩
set_option maxRecDepth 100000 in
theorem c_103_69 : cvP 103 69 100 1 := ⟨cd_100, okk_w (k := 865) (by decide +kernel), okk_w (k := 850) (by decide +kernel), okk_w (k := 851) (by decide +kernel), by decide +kernel, by decide +kernel⟩
set_option maxRecDepth 100000 in
theorem c_103_76 : cvP 103 76 34 3 := ⟨cd_34, okk_w (k := 912) (by decide +kernel), okk_w (k := 913) (by decide +kernel), okk_w (k := 914) (by decide +kernel), by decide +kernel, by decide +kernel⟩
set_option maxRecDepth 100000 in
theorem c_103_80 : cvP 103 80 101 0 := ⟨cd_101, okk_w (k := 936) (by decide +kernel), okk_w (k := 862) (by decide +kernel), okk_w (k := 863) (by decide +kernel), by decide +kernel, by decide +kernel⟩
set_option maxRecDepth 100000 in
theorem d_103_0 : decode (mB 103) 0 = .ok (.aload_n 0, 1) := by decide +kernel
set_option maxRecDepth 100000 in
theorem d_103_1 : decode (mB 103) 1 = .ok (.iconst 3, 1) := by decide +kernel
set_option maxRecDepth 100000 in
theorem d_103_2 : decode (mB 103) 2 = .ok (.invokevirtual 69, 3) := by decide +kernel
set_option maxRecDepth 100000 in
theorem d_103_5 : decode (mB 103) 5 = .ok (.ifCond .ne 8, 3) := by decide +kernel
set_option maxRecDepth 100000 in
theorem d_103_8 : decode (mB 103) 8 = .ok (.bipush 127, 2) := by decide +kernel
set_option maxRecDepth 100000 in
theorem d_103_10 : decode (mB 103) 10 = .ok (.goto 10, 3) := by decide +kernel
set_option maxRecDepth 100000 in
theorem d_103_13 : decode (mB 103) 13 = .ok (.aload_n 0, 1) := by decide +kernel
set_option maxRecDepth 100000 in
theorem d_103_14 : decode (mB 103) 14 = .ok (.sipush 128, 3) := by decide +kernel
set_option maxRecDepth 100000 in
theorem d_103_17 : decode (mB 103) 17 = .ok (.invokevirtual 69, 3) := by decide +kernel
set_option maxRecDepth 100000 in
theorem d_103_20 : decode (mB 103) 20 = .ok (.istore_n 1, 1) := by decide +kernel
set_option maxRecDepth 100000 in
theorem d_103_21 : decode (mB 103) 21 = .ok (.aload_n 0, 1) := by decide +kernel
set_option maxRecDepth 100000 in
theorem d_103_22 : decode (mB 103) 22 = .ok (.iconst 3, 1) := by decide +kernel
set_option maxRecDepth 100000 in
theorem d_103_23 : decode (mB 103) 23 = .ok (.invokevirtual 69, 3) := by decide +kernel
set_option maxRecDepth 100000 in
theorem d_103_26 : decode (mB 103) 26 = .ok (.istore_n 2, 1) := by decide +kernel
set_option maxRecDepth 100000 in
theorem d_103_27 : decode (mB 103) 27 = .ok (.iload_n 2, 1) := by decide +kernel
set_option maxRecDepth 100000 in
theorem d_103_28 : decode (mB 103) 28 = .ok (.aload_n 0, 1) := by decide +kernel
set_option maxRecDepth 100000 in
theorem d_103_29 : decode (mB 103) 29 = .ok (.bipush 6, 2) := by decide +kernel
set_option maxRecDepth 100000 in
theorem d_103_31 : decode (mB 103) 31 = .ok (.invokevirtual 69, 3) := by decide +kernel
set_option maxRecDepth 100000 in
theorem d_103_34 : decode (mB 103) 34 = .ok (.iadd, 1) := by decide +kernel
set_option maxRecDepth 100000 in
theorem d_103_35 : decode (mB 103) 35 = .ok (.istore_n 3, 1) := by decide +kernel
set_option maxRecDepth 100000 in
theorem d_103_36 : decode (mB 103) 36 = .ok (.iconst 0, 1) := by decide +kernel
set_option maxRecDepth 100000 in
theorem d_103_37 : decode (mB 103) 37 = .ok (.istore 4, 2) := by decide +kernel
set_option maxRecDepth 100000 in
theorem d_103_39 : decode (mB 103) 39 = .ok (.iload 4, 2) := by decide +kernel
set_option maxRecDepth 100000 in
theorem d_103_41 : decode (mB 103) 41 = .ok (.bipush 12, 2) := by decide +kernel
set_option maxRecDepth 100000 in
theorem d_103_43 : decode (mB 103) 43 = .ok (.if_icmp .ge 51, 3) := by decide +kernel
set_option maxRecDepth 100000 in
theorem d_103_46 : decode (mB 103) 46 = .ok (.aload_n 0, 1) := by decide +kernel
set_option maxRecDepth 100000 in
theorem d_103_47 : decode (mB 103) 47 = .ok (.getfield 27, 3) := by decide +kernel
set_option maxRecDepth 100000 in
theorem d_103_50 : decode (mB 103) 50 = .ok (.aload_n 0, 1) := by decide +kernel
set_option maxRecDepth 100000 in
theorem d_103_51 : decode (mB 103) 51 = .ok (.getfield 73, 3) := by decide +kernel
set_option maxRecDepth 100000 in
theorem d_103_54 : decode (mB 103) 54 = .ok (.aaload, 1) := by decide +kernel
set_option maxRecDepth 100000 in
theorem d_103_55 : decode (mB 103) 55 = .ok (.iload 4, 2) := by decide +kernel
set_option maxRecDepth 100000 in
theorem d_103_57 : decode (mB 103) 57 = .ok (.iload 4, 2) := by decide +kernel
set_option maxRecDepth 100000 in
theorem d_103_59 : decode (mB 103) 59 = .ok (.iload_n 2, 1) := by decide +kernel
set_option maxRecDepth 100000 in
theorem d_103_60 : decode (mB 103) 60 = .ok (.if_icmp .lt 26, 3) := by decide +kernel
set_option maxRecDepth 100000 in
theorem d_103_63 : decode (mB 103) 63 = .ok (.iload 4, 2) := by decide +kernel
set_option maxRecDepth 100000 in
theorem d_103_65 : decode (mB 103) 65 = .ok (.iload_n 3, 1) := by decide +kernel
set_option maxRecDepth 100000 in
theorem d_103_66 : decode (mB 103) 66 = .ok (.if_icmp .gt 20, 3) := by decide +kernel
set_option maxRecDepth 100000 in
theorem d_103_69 : decode (mB 103) 69 = .ok (.iload_n 1, 1) := by decide +kernel
set_option maxRecDepth 100000 in
theorem d_103_70 : decode (mB 103) 70 = .ok (.iload 4, 2) := by decide +kernel
set_option maxRecDepth 100000 in
theorem d_103_72 : decode (mB 103) 72 = .ok (.bipush 7, 2) := by decide +kernel
set_option maxRecDepth 100000 in
theorem d_103_74 : decode (mB 103) 74 = .ok (.irem, 1) := by decide +kernel
set_option maxRecDepth 100000 in
theorem d_103_75 : decode (mB 103) 75 = .ok (.ishr, 1) := by decide +kernel
set_option maxRecDepth 100000 in
theorem d_103_76 : decode (mB 103) 76 = .ok (.iconst 1, 1) := by decide +kernel
set_option maxRecDepth 100000 in
theorem d_103_77 : decode (mB 103) 77 = .ok (.iand, 1) := by decide +kernel
set_option maxRecDepth 100000 in
theorem d_103_78 : decode (mB 103) 78 = .ok (.iconst 1, 1) := by decide +kernel
set_option maxRecDepth 100000 in
theorem d_103_79 : decode (mB 103) 79 = .ok (.if_icmp .ne 7, 3) := by decide +kernel
set_option maxRecDepth 100000 in
theorem d_103_82 : decode (mB 103) 82 = .ok (.iconst 1, 1) := by decide +kernel
set_option maxRecDepth 100000 in
theorem d_103_83 : decode (mB 103) 83 = .ok (.goto 4, 3) := by decide +kernel
set_option maxRecDepth 100000 in
theorem d_103_86 : decode (mB 103) 86 = .ok (.iconst 0, 1) := by decide +kernel
set_option maxRecDepth 100000 in
theorem d_103_87 : decode (mB 103) 87 = .ok (.bastore, 1) := by decide +kernel
set_option maxRecDepth 100000 in
theorem d_103_88 : decode (mB 103) 88 = .ok (.iinc 4 1, 3) := by decide +kernel
set_option maxRecDepth 100000 in
theorem d_103_91 : decode (mB 103) 91 = .ok (.goto (-52), 3) := by decide +kernel
set_option maxRecDepth 100000 in
theorem d_103_94 : decode (mB 103) 94 = .ok (.aload_n 0, 1) := by decide +kernel
set_option maxRecDepth 100000 in
theorem d_103_95 : decode (mB 103) 95 = .ok (.getfield 10, 3) := by decide +kernel
set_option maxRecDepth 100000 in
theorem d_103_98 : decode (mB 103) 98 = .ok (.iload_n 1, 1) := by decide +kernel
set_option maxRecDepth 100000 in
theorem d_103_99 : decode (mB 103) 99 = .ok (.iload_n 2, 1) := by decide +kernel
set_option maxRecDepth 100000 in
theorem d_103_100 : decode (mB 103) 100 = .ok (.iload_n 3, 1) := by decide +kernel
set_option maxRecDepth 100000 in
theorem d_103_101 : decode (mB 103) 101 = .ok (.invokevirtual 76, 3) := by decide +kernel
set_option maxRecDepth 100000 in
theorem d_103_104 : decode (mB 103) 104 = .ok (.aload_n 0, 1) := by decide +kernel
set_option maxRecDepth 100000 in
theorem d_103_105 : decode (mB 103) 105 = .ok (.dup, 1) := by decide +kernel
set_option maxRecDepth 100000 in
theorem d_103_106 : decode (mB 103) 106 = .ok (.getfield 73, 3) := by decide +kernel
set_option maxRecDepth 100000 in
theorem d_103_109 : decode (mB 103) 109 = .ok (.dup_x1, 1) := by decide +kernel
set_option maxRecDepth 100000 in
theorem d_103_110 : decode (mB 103) 110 = .ok (.iconst 1, 1) := by decide +kernel
set_option maxRecDepth 100000 in
theorem d_103_111 : decode (mB 103) 111 = .ok (.iadd, 1) := by decide +kernel
set_option maxRecDepth 100000 in
theorem d_103_112 : decode (mB 103) 112 = .ok (.putfield 73, 3) := by decide +kernel
set_option maxRecDepth 100000 in
theorem d_103_115 : decode (mB 103) 115 = .ok (.if_icmp .eq 5, 3) := by decide +kernel
set_option maxRecDepth 100000 in
theorem d_103_120 : decode (mB 103) 120 = .ok (.aload_n 0, 1) := by decide +kernel
set_option maxRecDepth 100000 in
theorem d_103_121 : decode (mB 103) 121 = .ok (.iconst 2, 1) := by decide +kernel
set_option maxRecDepth 100000 in
theorem d_103_122 : decode (mB 103) 122 = .ok (.invokevirtual 69, 3) := by decide +kernel
set_option maxRecDepth 100000 in
theorem d_103_125 : decode (mB 103) 125 = .ok (.ifCond .eq 10, 3) := by decide +kernel
set_option maxRecDepth 100000 in
theorem d_103_128 : decode (mB 103) 128 = .ok (.aload_n 0, 1) := by decide +kernel
set_option maxRecDepth 100000 in
theorem d_103_129 : decode (mB 103) 129 = .ok (.invokevirtual 80, 3) := by decide +kernel
set_option maxRecDepth 100000 in
theorem d_103_132 : decode (mB 103) 132 = .ok (.ifCond .eq 7, 3) := by decide +kernel
set_option maxRecDepth 100000 in
theorem d_103_135 : decode (mB 103) 135 = .ok (.iconst 1, 1) := by decide +kernel
set_option maxRecDepth 100000 in
theorem d_103_136 : decode (mB 103) 136 = .ok (.goto 4, 3) := by decide +kernel
set_option maxRecDepth 100000 in
theorem d_103_140 : decode (mB 103) 140 = .ok (.ireturn, 1) := by decide +kernel
