set_option maxRecDepth 100000 in
theorem d_104_0 : decode (mB 104) 0 = .ok (.aload_n 0, 1) := by decide +kernel
set_option maxRecDepth 100000 in
theorem d_104_1 : decode (mB 104) 1 = .ok (.dup, 1) := by decide +kernel
set_option maxRecDepth 100000 in
theorem d_104_2 : decode (mB 104) 2 = .ok (.getfield 87, 3) := by decide +kernel
set_option maxRecDepth 100000 in
theorem d_104_5 : decode (mB 104) 5 = .ok (.dup_x1, 1) := by decide +kernel
set_option maxRecDepth 100000 in
theorem d_104_6 : decode (mB 104) 6 = .ok (.iconst 1, 1) := by decide +kernel
set_option maxRecDepth 100000 in
theorem d_104_7 : decode (mB 104) 7 = .ok (.iadd, 1) := by decide +kernel
set_option maxRecDepth 100000 in
theorem d_104_8 : decode (mB 104) 8 = .ok (.putfield 87, 3) := by decide +kernel
set_option maxRecDepth 100000 in
theorem d_104_11 : decode (mB 104) 11 = .ok (.istore_n 1, 1) := by decide +kernel
set_option maxRecDepth 100000 in
theorem d_104_12 : decode (mB 104) 12 = .ok (.aload_n 0, 1) := by decide +kernel
set_option maxRecDepth 100000 in
theorem d_104_13 : decode (mB 104) 13 = .ok (.getfield 30, 3) := by decide +kernel
set_option maxRecDepth 100000 in
theorem d_104_16 : decode (mB 104) 16 = .ok (.iload_n 1, 1) := by decide +kernel
set_option maxRecDepth 100000 in
theorem d_104_17 : decode (mB 104) 17 = .ok (.aload_n 0, 1) := by decide +kernel
set_option maxRecDepth 100000 in
theorem d_104_18 : decode (mB 104) 18 = .ok (.aload_n 0, 1) := by decide +kernel
set_option maxRecDepth 100000 in
theorem d_104_19 : decode (mB 104) 19 = .ok (.getfield 73, 3) := by decide +kernel
set_option maxRecDepth 100000 in
theorem d_104_22 : decode (mB 104) 22 = .ok (.invokevirtual 69, 3) := by decide +kernel
set_option maxRecDepth 100000 in
theorem d_104_25 : decode (mB 104) 25 = .ok (.iastore, 1) := by decide +kernel
set_option maxRecDepth 100000 in
theorem d_104_26 : decode (mB 104) 26 = .ok (.aload_n 0, 1) := by decide +kernel
set_option maxRecDepth 100000 in
theorem d_104_27 : decode (mB 104) 27 = .ok (.getfield 33, 3) := by decide +kernel
set_option maxRecDepth 100000 in
theorem d_104_30 : decode (mB 104) 30 = .ok (.iload_n 1, 1) := by decide +kernel
set_option maxRecDepth 100000 in
theorem d_104_31 : decode (mB 104) 31 = .ok (.aload_n 0, 1) := by decide +kernel
set_option maxRecDepth 100000 in
theorem d_104_32 : decode (mB 104) 32 = .ok (.bipush 40, 2) := by decide +kernel
set_option maxRecDepth 100000 in
theorem d_104_34 : decode (mB 104) 34 = .ok (.invokevirtual 69, 3) := by decide +kernel
set_option maxRecDepth 100000 in
theorem d_104_37 : decode (mB 104) 37 = .ok (.iastore, 1) := by decide +kernel
set_option maxRecDepth 100000 in
theorem d_104_38 : decode (mB 104) 38 = .ok (.aload_n 0, 1) := by decide +kernel
set_option maxRecDepth 100000 in
theorem d_104_39 : decode (mB 104) 39 = .ok (.getfield 36, 3) := by decide +kernel
set_option maxRecDepth 100000 in
theorem d_104_42 : decode (mB 104) 42 = .ok (.iload_n 1, 1) := by decide +kernel
set_option maxRecDepth 100000 in
theorem d_104_43 : decode (mB 104) 43 = .ok (.iconst 1, 1) := by decide +kernel
set_option maxRecDepth 100000 in
theorem d_104_44 : decode (mB 104) 44 = .ok (.aload_n 0, 1) := by decide +kernel
set_option maxRecDepth 100000 in
theorem d_104_45 : decode (mB 104) 45 = .ok (.iconst 5, 1) := by decide +kernel
set_option maxRecDepth 100000 in
theorem d_104_46 : decode (mB 104) 46 = .ok (.invokevirtual 69, 3) := by decide +kernel
set_option maxRecDepth 100000 in
theorem d_104_49 : decode (mB 104) 49 = .ok (.iadd, 1) := by decide +kernel
set_option maxRecDepth 100000 in
theorem d_104_50 : decode (mB 104) 50 = .ok (.iastore, 1) := by decide +kernel
set_option maxRecDepth 100000 in
theorem d_104_51 : decode (mB 104) 51 = .ok (.aload_n 0, 1) := by decide +kernel
set_option maxRecDepth 100000 in
theorem d_104_52 : decode (mB 104) 52 = .ok (.iconst 4, 1) := by decide +kernel
set_option maxRecDepth 100000 in
theorem d_104_53 : decode (mB 104) 53 = .ok (.invokevirtual 69, 3) := by decide +kernel
set_option maxRecDepth 100000 in
theorem d_104_56 : decode (mB 104) 56 = .ok (.ifCond .ne 13, 3) := by decide +kernel
set_option maxRecDepth 100000 in
theorem d_104_59 : decode (mB 104) 59 = .ok (.aload_n 0, 1) := by decide +kernel
set_option maxRecDepth 100000 in
theorem d_104_60 : decode (mB 104) 60 = .ok (.sipush 2400, 3) := by decide +kernel
set_option maxRecDepth 100000 in
theorem d_104_63 : decode (mB 104) 63 = .ok (.invokevirtual 69, 3) := by decide +kernel
set_option maxRecDepth 100000 in
theorem d_104_66 : decode (mB 104) 66 = .ok (.goto 14, 3) := by decide +kernel
set_option maxRecDepth 100000 in
theorem d_104_69 : decode (mB 104) 69 = .ok (.sipush 360, 3) := by decide +kernel
set_option maxRecDepth 100000 in
theorem d_104_72 : decode (mB 104) 72 = .ok (.aload_n 0, 1) := by decide +kernel
set_option maxRecDepth 100000 in
theorem d_104_73 : decode (mB 104) 73 = .ok (.sipush 600, 3) := by decide +kernel
set_option maxRecDepth 100000 in
theorem d_104_76 : decode (mB 104) 76 = .ok (.invokevirtual 69, 3) := by decide +kernel
set_option maxRecDepth 100000 in
theorem d_104_79 : decode (mB 104) 79 = .ok (.iadd, 1) := by decide +kernel
set_option maxRecDepth 100000 in
theorem d_104_80 : decode (mB 104) 80 = .ok (.istore_n 2, 1) := by decide +kernel
set_option maxRecDepth 100000 in
theorem d_104_81 : decode (mB 104) 81 = .ok (.iconst 0, 1) := by decide +kernel
set_option maxRecDepth 100000 in
theorem d_104_82 : decode (mB 104) 82 = .ok (.istore_n 3, 1) := by decide +kernel
