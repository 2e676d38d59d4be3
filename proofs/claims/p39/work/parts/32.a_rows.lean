set_option maxRecDepth 100000 in
theorem cd_4 : cdP 4 := ⟨okr (k := 141) rfl (by decide +kernel), by decide +kernel, by decide +kernel, okk_w (k := 32) (by decide +kernel)⟩
set_option maxRecDepth 100000 in
theorem cd_7 : cdP 7 := ⟨okr (k := 188) rfl (by decide +kernel), by decide +kernel, by decide +kernel, okk_w (k := 32) (by decide +kernel)⟩
set_option maxRecDepth 100000 in
theorem cd_49 : cdP 49 := ⟨okr (k := 192) rfl (by decide +kernel), by decide +kernel, by decide +kernel, okk_w (k := 48) (by decide +kernel)⟩
set_option maxRecDepth 100000 in
theorem d_4_0 : decode (mB 4) 0 = .ok (.iload_n 0, 1) := by decide +kernel
set_option maxRecDepth 100000 in
theorem d_4_1 : decode (mB 4) 1 = .ok (.iload_n 1, 1) := by decide +kernel
set_option maxRecDepth 100000 in
theorem d_4_2 : decode (mB 4) 2 = .ok (.if_icmp .lt 12, 3) := by decide +kernel
set_option maxRecDepth 100000 in
theorem d_4_5 : decode (mB 4) 5 = .ok (.iload_n 0, 1) := by decide +kernel
set_option maxRecDepth 100000 in
theorem d_4_6 : decode (mB 4) 6 = .ok (.iload_n 2, 1) := by decide +kernel
set_option maxRecDepth 100000 in
theorem d_4_7 : decode (mB 4) 7 = .ok (.if_icmp .gt 7, 3) := by decide +kernel
set_option maxRecDepth 100000 in
theorem d_4_10 : decode (mB 4) 10 = .ok (.iconst 1, 1) := by decide +kernel
set_option maxRecDepth 100000 in
theorem d_4_11 : decode (mB 4) 11 = .ok (.goto 4, 3) := by decide +kernel
set_option maxRecDepth 100000 in
theorem d_4_14 : decode (mB 4) 14 = .ok (.iconst 0, 1) := by decide +kernel
set_option maxRecDepth 100000 in
theorem d_4_15 : decode (mB 4) 15 = .ok (.ireturn, 1) := by decide +kernel
set_option maxRecDepth 100000 in
theorem c_7_58 : csP 7 58 4 3 := ⟨cd_4, okk_w (k := 139) (by decide +kernel), okk_w (k := 140) (by decide +kernel), by decide +kernel, by decide +kernel⟩
set_option maxRecDepth 100000 in
theorem d_7_0 : decode (mB 7) 0 = .ok (.iload_n 0, 1) := by decide +kernel
set_option maxRecDepth 100000 in
theorem d_7_1 : decode (mB 7) 1 = .ok (.iconst 0, 1) := by decide +kernel
set_option maxRecDepth 100000 in
theorem d_7_2 : decode (mB 7) 2 = .ok (.sipush 365, 3) := by decide +kernel
set_option maxRecDepth 100000 in
theorem d_7_5 : decode (mB 7) 5 = .ok (.invokestatic 58, 3) := by decide +kernel
set_option maxRecDepth 100000 in
theorem d_7_8 : decode (mB 7) 8 = .ok (.ireturn, 1) := by decide +kernel
set_option maxRecDepth 100000 in
theorem c_49_25 : csnP 49 25 7 1 := ⟨cd_7, ⟨"WhistleStop", okk_w (k := 193) (by decide +kernel)⟩, okk_w (k := 187) (by decide +kernel), by decide +kernel, by decide +kernel⟩
set_option maxRecDepth 100000 in
theorem fl_3_9 : flP "WhistleStop$Calendar" 9 3 3 := ⟨_, rfl, by decide, okk_w (k := 925) (by decide +kernel)⟩
set_option maxRecDepth 100000 in
theorem fl_3_19 : flP "WhistleStop$Calendar" 19 3 1 := ⟨_, rfl, by decide, okk_w (k := 923) (by decide +kernel)⟩
set_option maxRecDepth 100000 in
theorem fl_3_22 : flP "WhistleStop$Calendar" 22 3 2 := ⟨_, rfl, by decide, okk_w (k := 924) (by decide +kernel)⟩
set_option maxRecDepth 100000 in
theorem c_49_29 : csnP 49 29 4 3 := ⟨cd_4, ⟨"WhistleStop", okk_w (k := 194) (by decide +kernel)⟩, okk_w (k := 140) (by decide +kernel), by decide +kernel, by decide +kernel⟩
set_option maxRecDepth 100000 in
theorem fl_3_15 : flP "WhistleStop$Calendar" 15 3 0 := ⟨_, rfl, by decide, okk_w (k := 922) (by decide +kernel)⟩
set_option maxRecDepth 100000 in
theorem d_49_0 : decode (mB 49) 0 = .ok (.iload_n 1, 1) := by decide +kernel
set_option maxRecDepth 100000 in
theorem d_49_1 : decode (mB 49) 1 = .ok (.invokestatic 25, 3) := by decide +kernel
set_option maxRecDepth 100000 in
theorem d_49_4 : decode (mB 49) 4 = .ok (.ifCond .ne 5, 3) := by decide +kernel
set_option maxRecDepth 100000 in
theorem d_49_7 : decode (mB 49) 7 = .ok (.iconst 0, 1) := by decide +kernel
set_option maxRecDepth 100000 in
theorem d_49_8 : decode (mB 49) 8 = .ok (.ireturn, 1) := by decide +kernel
set_option maxRecDepth 100000 in
theorem d_49_9 : decode (mB 49) 9 = .ok (.aload_n 0, 1) := by decide +kernel
set_option maxRecDepth 100000 in
theorem d_49_10 : decode (mB 49) 10 = .ok (.getfield 9, 3) := by decide +kernel
set_option maxRecDepth 100000 in
theorem d_49_13 : decode (mB 49) 13 = .ok (.iload_n 1, 1) := by decide +kernel
set_option maxRecDepth 100000 in
theorem d_49_14 : decode (mB 49) 14 = .ok (.iaload, 1) := by decide +kernel
set_option maxRecDepth 100000 in
theorem d_49_15 : decode (mB 49) 15 = .ok (.ifCond .eq 19, 3) := by decide +kernel
set_option maxRecDepth 100000 in
theorem d_49_18 : decode (mB 49) 18 = .ok (.aload_n 0, 1) := by decide +kernel
set_option maxRecDepth 100000 in
theorem d_49_19 : decode (mB 49) 19 = .ok (.getfield 9, 3) := by decide +kernel
set_option maxRecDepth 100000 in
theorem d_49_22 : decode (mB 49) 22 = .ok (.iload_n 1, 1) := by decide +kernel
set_option maxRecDepth 100000 in
theorem d_49_23 : decode (mB 49) 23 = .ok (.iaload, 1) := by decide +kernel
set_option maxRecDepth 100000 in
theorem d_49_24 : decode (mB 49) 24 = .ok (.iconst 1, 1) := by decide +kernel
set_option maxRecDepth 100000 in
theorem d_49_25 : decode (mB 49) 25 = .ok (.if_icmp .ne 7, 3) := by decide +kernel
set_option maxRecDepth 100000 in
theorem d_49_28 : decode (mB 49) 28 = .ok (.iconst 1, 1) := by decide +kernel
set_option maxRecDepth 100000 in
theorem d_49_29 : decode (mB 49) 29 = .ok (.goto 4, 3) := by decide +kernel
set_option maxRecDepth 100000 in
theorem d_49_32 : decode (mB 49) 32 = .ok (.iconst 0, 1) := by decide +kernel
set_option maxRecDepth 100000 in
theorem d_49_33 : decode (mB 49) 33 = .ok (.ireturn, 1) := by decide +kernel
set_option maxRecDepth 100000 in
theorem d_49_34 : decode (mB 49) 34 = .ok (.iload_n 1, 1) := by decide +kernel
set_option maxRecDepth 100000 in
theorem d_49_35 : decode (mB 49) 35 = .ok (.aload_n 0, 1) := by decide +kernel
set_option maxRecDepth 100000 in
theorem d_49_36 : decode (mB 49) 36 = .ok (.getfield 19, 3) := by decide +kernel
set_option maxRecDepth 100000 in
theorem d_49_39 : decode (mB 49) 39 = .ok (.aload_n 0, 1) := by decide +kernel
set_option maxRecDepth 100000 in
theorem d_49_40 : decode (mB 49) 40 = .ok (.getfield 22, 3) := by decide +kernel
set_option maxRecDepth 100000 in
theorem d_49_43 : decode (mB 49) 43 = .ok (.invokestatic 29, 3) := by decide +kernel
set_option maxRecDepth 100000 in
theorem d_49_46 : decode (mB 49) 46 = .ok (.ifCond .eq 22, 3) := by decide +kernel
set_option maxRecDepth 100000 in
theorem d_49_49 : decode (mB 49) 49 = .ok (.aload_n 0, 1) := by decide +kernel
set_option maxRecDepth 100000 in
theorem d_49_50 : decode (mB 49) 50 = .ok (.getfield 15, 3) := by decide +kernel
set_option maxRecDepth 100000 in
theorem d_49_53 : decode (mB 49) 53 = .ok (.iload_n 1, 1) := by decide +kernel
set_option maxRecDepth 100000 in
theorem d_49_54 : decode (mB 49) 54 = .ok (.bipush 7, 2) := by decide +kernel
set_option maxRecDepth 100000 in
theorem d_49_56 : decode (mB 49) 56 = .ok (.irem, 1) := by decide +kernel
set_option maxRecDepth 100000 in
theorem d_49_57 : decode (mB 49) 57 = .ok (.ishr, 1) := by decide +kernel
set_option maxRecDepth 100000 in
theorem d_49_58 : decode (mB 49) 58 = .ok (.iconst 1, 1) := by decide +kernel
set_option maxRecDepth 100000 in
theorem d_49_59 : decode (mB 49) 59 = .ok (.iand, 1) := by decide +kernel
set_option maxRecDepth 100000 in
theorem d_49_60 : decode (mB 49) 60 = .ok (.iconst 1, 1) := by decide +kernel
set_option maxRecDepth 100000 in
theorem d_49_61 : decode (mB 49) 61 = .ok (.if_icmp .ne 7, 3) := by decide +kernel
set_option maxRecDepth 100000 in
theorem d_49_64 : decode (mB 49) 64 = .ok (.iconst 1, 1) := by decide +kernel
set_option maxRecDepth 100000 in
theorem d_49_65 : decode (mB 49) 65 = .ok (.goto 4, 3) := by decide +kernel
set_option maxRecDepth 100000 in
theorem d_49_68 : decode (mB 49) 68 = .ok (.iconst 0, 1) := by decide +kernel
set_option maxRecDepth 100000 in
theorem d_49_69 : decode (mB 49) 69 = .ok (.ireturn, 1) := by decide +kernel
set_option maxRecDepth 100000 in
theorem fl_5_9 : flP "WhistleStop$Footway" 9 5 0 := ⟨_, rfl, by decide, okk_w (k := 890) (by decide +kernel)⟩
set_option maxRecDepth 100000 in
theorem fl_5_15 : flP "WhistleStop$Footway" 15 5 1 := ⟨_, rfl, by decide, okk_w (k := 893) (by decide +kernel)⟩
set_option maxRecDepth 100000 in
theorem d_57_0 : decode (mB 57) 0 = .ok (.iload_n 1, 1) := by decide +kernel
set_option maxRecDepth 100000 in
theorem d_57_1 : decode (mB 57) 1 = .ok (.aload_n 0, 1) := by decide +kernel
set_option maxRecDepth 100000 in
theorem d_57_2 : decode (mB 57) 2 = .ok (.getfield 9, 3) := by decide +kernel
set_option maxRecDepth 100000 in
theorem d_57_5 : decode (mB 57) 5 = .ok (.if_icmp .ne 8, 3) := by decide +kernel
set_option maxRecDepth 100000 in
theorem d_57_8 : decode (mB 57) 8 = .ok (.aload_n 0, 1) := by decide +kernel
set_option maxRecDepth 100000 in
theorem d_57_9 : decode (mB 57) 9 = .ok (.getfield 15, 3) := by decide +kernel
set_option maxRecDepth 100000 in
theorem d_57_12 : decode (mB 57) 12 = .ok (.ireturn, 1) := by decide +kernel
set_option maxRecDepth 100000 in
theorem d_57_13 : decode (mB 57) 13 = .ok (.iload_n 1, 1) := by decide +kernel
set_option maxRecDepth 100000 in
theorem d_57_14 : decode (mB 57) 14 = .ok (.aload_n 0, 1) := by decide +kernel
set_option maxRecDepth 100000 in
theorem d_57_15 : decode (mB 57) 15 = .ok (.getfield 15, 3) := by decide +kernel
set_option maxRecDepth 100000 in
theorem d_57_18 : decode (mB 57) 18 = .ok (.if_icmp .ne 10, 3) := by decide +kernel
set_option maxRecDepth 100000 in
theorem d_57_21 : decode (mB 57) 21 = .ok (.aload_n 0, 1) := by decide +kernel
set_option maxRecDepth 100000 in
theorem d_57_22 : decode (mB 57) 22 = .ok (.getfield 9, 3) := by decide +kernel
set_option maxRecDepth 100000 in
theorem d_57_25 : decode (mB 57) 25 = .ok (.goto 4, 3) := by decide +kernel
set_option maxRecDepth 100000 in
theorem d_57_28 : decode (mB 57) 28 = .ok (.iconst (-1), 1) := by decide +kernel
set_option maxRecDepth 100000 in
theorem d_57_29 : decode (mB 57) 29 = .ok (.ireturn, 1) := by decide +kernel
set_option maxRecDepth 100000 in
theorem c_94_38 : csnP 94 38 7 1 := ⟨cd_7, ⟨"WhistleStop", okk_w (k := 186) (by decide +kernel)⟩, okk_w (k := 187) (by decide +kernel), by decide +kernel, by decide +kernel⟩
set_option maxRecDepth 100000 in
theorem fl_11_21 : flP "WhistleStop$Trip" 21 11 6 := ⟨_, rfl, by decide, okk_w (k := 976) (by decide +kernel)⟩
set_option maxRecDepth 100000 in
theorem fl_11_28 : flP "WhistleStop$Trip" 28 11 1 := ⟨_, rfl, by decide, okk_w (k := 955) (by decide +kernel)⟩
set_option maxRecDepth 100000 in
theorem c_94_42 : cvP 94 42 49 1 := ⟨cd_49, okk_w (k := 189) (by decide +kernel), okk_w (k := 190) (by decide +kernel), okk_w (k := 191) (by decide +kernel), by decide +kernel, by decide +kernel⟩
set_option maxRecDepth 100000 in
theorem d_94_0 : decode (mB 94) 0 = .ok (.iload_n 1, 1) := by decide +kernel
set_option maxRecDepth 100000 in
theorem d_94_1 : decode (mB 94) 1 = .ok (.invokestatic 38, 3) := by decide +kernel
set_option maxRecDepth 100000 in
theorem d_94_4 : decode (mB 94) 4 = .ok (.ifCond .eq 28, 3) := by decide +kernel
set_option maxRecDepth 100000 in
theorem d_94_7 : decode (mB 94) 7 = .ok (.aload_n 0, 1) := by decide +kernel
set_option maxRecDepth 100000 in
theorem d_94_8 : decode (mB 94) 8 = .ok (.getfield 21, 3) := by decide +kernel
set_option maxRecDepth 100000 in
theorem d_94_11 : decode (mB 94) 11 = .ok (.iload_n 1, 1) := by decide +kernel
set_option maxRecDepth 100000 in
theorem d_94_12 : decode (mB 94) 12 = .ok (.iaload, 1) := by decide +kernel
set_option maxRecDepth 100000 in
theorem d_94_13 : decode (mB 94) 13 = .ok (.iconst (-1), 1) := by decide +kernel
set_option maxRecDepth 100000 in
theorem d_94_14 : decode (mB 94) 14 = .ok (.if_icmp .eq 18, 3) := by decide +kernel
set_option maxRecDepth 100000 in
theorem d_94_17 : decode (mB 94) 17 = .ok (.aload_n 0, 1) := by decide +kernel
set_option maxRecDepth 100000 in
theorem d_94_18 : decode (mB 94) 18 = .ok (.getfield 28, 3) := by decide +kernel
set_option maxRecDepth 100000 in
theorem d_94_21 : decode (mB 94) 21 = .ok (.iload_n 1, 1) := by decide +kernel
set_option maxRecDepth 100000 in
theorem d_94_22 : decode (mB 94) 22 = .ok (.invokevirtual 42, 3) := by decide +kernel
set_option maxRecDepth 100000 in
theorem d_94_25 : decode (mB 94) 25 = .ok (.ifCond .eq 7, 3) := by decide +kernel
set_option maxRecDepth 100000 in
theorem d_94_28 : decode (mB 94) 28 = .ok (.iconst 1, 1) := by decide +kernel
set_option maxRecDepth 100000 in
theorem d_94_29 : decode (mB 94) 29 = .ok (.goto 4, 3) := by decide +kernel
set_option maxRecDepth 100000 in
theorem d_94_32 : decode (mB 94) 32 = .ok (.iconst 0, 1) := by decide +kernel
set_option maxRecDepth 100000 in
theorem d_94_33 : decode (mB 94) 33 = .ok (.ireturn, 1) := by decide +kernel
set_option maxRecDepth 100000 in
theorem c_95_38 : csnP 95 38 7 1 := ⟨cd_7, ⟨"WhistleStop", okk_w (k := 186) (by decide +kernel)⟩, okk_w (k := 187) (by decide +kernel), by decide +kernel, by decide +kernel⟩
set_option maxRecDepth 100000 in
theorem d_95_0 : decode (mB 95) 0 = .ok (.iload_n 1, 1) := by decide +kernel
set_option maxRecDepth 100000 in
theorem d_95_1 : decode (mB 95) 1 = .ok (.invokestatic 38, 3) := by decide +kernel
set_option maxRecDepth 100000 in
theorem d_95_4 : decode (mB 95) 4 = .ok (.ifCond .eq 18, 3) := by decide +kernel
set_option maxRecDepth 100000 in
theorem d_95_7 : decode (mB 95) 7 = .ok (.sipush 1440, 3) := by decide +kernel
set_option maxRecDepth 100000 in
theorem d_95_10 : decode (mB 95) 10 = .ok (.iload_n 1, 1) := by decide +kernel
set_option maxRecDepth 100000 in
theorem d_95_11 : decode (mB 95) 11 = .ok (.imul, 1) := by decide +kernel
set_option maxRecDepth 100000 in
theorem d_95_12 : decode (mB 95) 12 = .ok (.aload_n 0, 1) := by decide +kernel
set_option maxRecDepth 100000 in
theorem d_95_13 : decode (mB 95) 13 = .ok (.getfield 21, 3) := by decide +kernel
set_option maxRecDepth 100000 in
theorem d_95_16 : decode (mB 95) 16 = .ok (.iload_n 1, 1) := by decide +kernel
set_option maxRecDepth 100000 in
theorem d_95_17 : decode (mB 95) 17 = .ok (.iaload, 1) := by decide +kernel
set_option maxRecDepth 100000 in
theorem d_95_18 : decode (mB 95) 18 = .ok (.iadd, 1) := by decide +kernel
set_option maxRecDepth 100000 in
theorem d_95_19 : decode (mB 95) 19 = .ok (.goto 5, 3) := by decide +kernel
set_option maxRecDepth 100000 in
theorem d_95_24 : decode (mB 95) 24 = .ok (.ireturn, 1) := by decide +kernel
set_option maxRecDepth 100000 in
theorem fl_11_35 : flP "WhistleStop$Trip" 35 11 7 := ⟨_, rfl, by decide, okk_w (k := 978) (by decide +kernel)⟩
set_option maxRecDepth 100000 in
theorem fl_11_18 : flP "WhistleStop$Trip" 18 11 5 := ⟨_, rfl, by decide, okk_w (k := 970) (by decide +kernel)⟩
set_option maxRecDepth 100000 in
theorem d_96_0 : decode (mB 96) 0 = .ok (.aload_n 0, 1) := by decide +kernel
set_option maxRecDepth 100000 in
theorem d_96_1 : decode (mB 96) 1 = .ok (.getfield 35, 3) := by decide +kernel
set_option maxRecDepth 100000 in
theorem d_96_4 : decode (mB 96) 4 = .ok (.ifCond .le 17, 3) := by decide +kernel
set_option maxRecDepth 100000 in
theorem d_96_7 : decode (mB 96) 7 = .ok (.aload_n 0, 1) := by decide +kernel
set_option maxRecDepth 100000 in
theorem d_96_8 : decode (mB 96) 8 = .ok (.getfield 18, 3) := by decide +kernel
set_option maxRecDepth 100000 in
theorem d_96_11 : decode (mB 96) 11 = .ok (.aload_n 0, 1) := by decide +kernel
set_option maxRecDepth 100000 in
theorem d_96_12 : decode (mB 96) 12 = .ok (.getfield 35, 3) := by decide +kernel
set_option maxRecDepth 100000 in
theorem d_96_15 : decode (mB 96) 15 = .ok (.iconst 1, 1) := by decide +kernel
set_option maxRecDepth 100000 in
theorem d_96_16 : decode (mB 96) 16 = .ok (.isub, 1) := by decide +kernel
set_option maxRecDepth 100000 in
theorem d_96_17 : decode (mB 96) 17 = .ok (.iaload, 1) := by decide +kernel
set_option maxRecDepth 100000 in
theorem d_96_18 : decode (mB 96) 18 = .ok (.goto 4, 3) := by decide +kernel
set_option maxRecDepth 100000 in
theorem d_96_22 : decode (mB 96) 22 = .ok (.ireturn, 1) := by decide +kernel
set_option maxRecDepth 100000 in
theorem d_109_0 : decode (mB 109) 0 = .ok (.iload_n 0, 1) := by decide +kernel
set_option maxRecDepth 100000 in
theorem d_109_1 : decode (mB 109) 1 = .ok (.iload_n 1, 1) := by decide +kernel
set_option maxRecDepth 100000 in
theorem d_109_2 : decode (mB 109) 2 = .ok (.idiv, 1) := by decide +kernel
set_option maxRecDepth 100000 in
theorem d_109_3 : decode (mB 109) 3 = .ok (.istore_n 2, 1) := by decide +kernel
set_option maxRecDepth 100000 in
theorem d_109_4 : decode (mB 109) 4 = .ok (.iload_n 0, 1) := by decide +kernel
set_option maxRecDepth 100000 in
theorem d_109_5 : decode (mB 109) 5 = .ok (.iload_n 1, 1) := by decide +kernel
set_option maxRecDepth 100000 in
theorem d_109_6 : decode (mB 109) 6 = .ok (.ixor, 1) := by decide +kernel
set_option maxRecDepth 100000 in
theorem d_109_7 : decode (mB 109) 7 = .ok (.ifCond .ge 14, 3) := by decide +kernel
set_option maxRecDepth 100000 in
theorem d_109_10 : decode (mB 109) 10 = .ok (.iload_n 2, 1) := by decide +kernel
set_option maxRecDepth 100000 in
theorem d_109_11 : decode (mB 109) 11 = .ok (.iload_n 1, 1) := by decide +kernel
set_option maxRecDepth 100000 in
theorem d_109_12 : decode (mB 109) 12 = .ok (.imul, 1) := by decide +kernel
set_option maxRecDepth 100000 in
theorem d_109_13 : decode (mB 109) 13 = .ok (.iload_n 0, 1) := by decide +kernel
set_option maxRecDepth 100000 in
theorem d_109_14 : decode (mB 109) 14 = .ok (.if_icmp .eq 7, 3) := by decide +kernel
set_option maxRecDepth 100000 in
theorem d_109_17 : decode (mB 109) 17 = .ok (.iload_n 2, 1) := by decide +kernel
set_option maxRecDepth 100000 in
theorem d_109_18 : decode (mB 109) 18 = .ok (.iconst 1, 1) := by decide +kernel
set_option maxRecDepth 100000 in
theorem d_109_19 : decode (mB 109) 19 = .ok (.isub, 1) := by decide +kernel
set_option maxRecDepth 100000 in
theorem d_109_20 : decode (mB 109) 20 = .ok (.ireturn, 1) := by decide +kernel
set_option maxRecDepth 100000 in
theorem d_109_21 : decode (mB 109) 21 = .ok (.iload_n 2, 1) := by decide +kernel
set_option maxRecDepth 100000 in
theorem d_109_22 : decode (mB 109) 22 = .ok (.ireturn, 1) := by decide +kernel
set_option maxRecDepth 100000 in
theorem d_110_0 : decode (mB 110) 0 = .ok (.iload_n 0, 1) := by decide +kernel
set_option maxRecDepth 100000 in
theorem d_110_1 : decode (mB 110) 1 = .ok (.iload_n 1, 1) := by decide +kernel
set_option maxRecDepth 100000 in
theorem d_110_2 : decode (mB 110) 2 = .ok (.if_icmp .lt 7, 3) := by decide +kernel
set_option maxRecDepth 100000 in
theorem d_110_5 : decode (mB 110) 5 = .ok (.iload_n 0, 1) := by decide +kernel
set_option maxRecDepth 100000 in
theorem d_110_6 : decode (mB 110) 6 = .ok (.goto 4, 3) := by decide +kernel
set_option maxRecDepth 100000 in
theorem d_110_9 : decode (mB 110) 9 = .ok (.iload_n 1, 1) := by decide +kernel
set_option maxRecDepth 100000 in
theorem d_110_10 : decode (mB 110) 10 = .ok (.ireturn, 1) := by decide +kernel
set_option maxRecDepth 100000 in
theorem d_111_0 : decode (mB 111) 0 = .ok (.iload_n 0, 1) := by decide +kernel
set_option maxRecDepth 100000 in
theorem d_111_1 : decode (mB 111) 1 = .ok (.iload_n 1, 1) := by decide +kernel
set_option maxRecDepth 100000 in
theorem d_111_2 : decode (mB 111) 2 = .ok (.if_icmp .gt 7, 3) := by decide +kernel
set_option maxRecDepth 100000 in
theorem d_111_5 : decode (mB 111) 5 = .ok (.iload_n 0, 1) := by decide +kernel
set_option maxRecDepth 100000 in
theorem d_111_6 : decode (mB 111) 6 = .ok (.goto 4, 3) := by decide +kernel
set_option maxRecDepth 100000 in
theorem d_111_9 : decode (mB 111) 9 = .ok (.iload_n 1, 1) := by decide +kernel
set_option maxRecDepth 100000 in
theorem d_111_10 : decode (mB 111) 10 = .ok (.ireturn, 1) := by decide +kernel
set_option maxRecDepth 100000 in
theorem d_112_0 : decode (mB 112) 0 = .ok (.iconst 0, 1) := by decide +kernel
set_option maxRecDepth 100000 in
theorem d_112_1 : decode (mB 112) 1 = .ok (.istore_n 2, 1) := by decide +kernel
set_option maxRecDepth 100000 in
theorem d_112_2 : decode (mB 112) 2 = .ok (.aload_n 0, 1) := by decide +kernel
set_option maxRecDepth 100000 in
theorem d_112_3 : decode (mB 112) 3 = .ok (.arraylength, 1) := by decide +kernel
set_option maxRecDepth 100000 in
theorem d_112_4 : decode (mB 112) 4 = .ok (.istore_n 3, 1) := by decide +kernel
set_option maxRecDepth 100000 in
theorem d_112_5 : decode (mB 112) 5 = .ok (.iload_n 2, 1) := by decide +kernel
set_option maxRecDepth 100000 in
theorem d_112_6 : decode (mB 112) 6 = .ok (.iload_n 3, 1) := by decide +kernel
set_option maxRecDepth 100000 in
theorem d_112_7 : decode (mB 112) 7 = .ok (.if_icmp .ge 13, 3) := by decide +kernel
set_option maxRecDepth 100000 in
theorem d_112_10 : decode (mB 112) 10 = .ok (.aload_n 0, 1) := by decide +kernel
set_option maxRecDepth 100000 in
theorem d_112_11 : decode (mB 112) 11 = .ok (.iload_n 2, 1) := by decide +kernel
set_option maxRecDepth 100000 in
theorem d_112_12 : decode (mB 112) 12 = .ok (.iload_n 1, 1) := by decide +kernel
set_option maxRecDepth 100000 in
theorem d_112_13 : decode (mB 112) 13 = .ok (.iastore, 1) := by decide +kernel
set_option maxRecDepth 100000 in
theorem d_112_14 : decode (mB 112) 14 = .ok (.iinc 2 1, 3) := by decide +kernel
set_option maxRecDepth 100000 in
theorem d_112_17 : decode (mB 112) 17 = .ok (.goto (-12), 3) := by decide +kernel
set_option maxRecDepth 100000 in
theorem d_112_20 : decode (mB 112) 20 = .ok (.return_, 1) := by decide +kernel
