set_option maxRecDepth 100000 in
theorem cd_0 : cdP 0 := ⟨okr (k := 84) rfl (by decide +kernel), by decide +kernel, by decide +kernel, okk_w (k := 58) (by decide +kernel)⟩
set_option maxRecDepth 100000 in
theorem cd_1 : cdP 1 := ⟨okr (k := 365) rfl (by decide +kernel), by decide +kernel, by decide +kernel, okk_w (k := 58) (by decide +kernel)⟩
set_option maxRecDepth 100000 in
theorem cd_2 : cdP 2 := ⟨okr (k := 369) rfl (by decide +kernel), by decide +kernel, by decide +kernel, okk_w (k := 58) (by decide +kernel)⟩
set_option maxRecDepth 100000 in
theorem cd_3 : cdP 3 := ⟨okr (k := 373) rfl (by decide +kernel), by decide +kernel, by decide +kernel, okk_w (k := 58) (by decide +kernel)⟩
set_option maxRecDepth 100000 in
theorem cd_4 : cdP 4 := ⟨okr (k := 377) rfl (by decide +kernel), by decide +kernel, by decide +kernel, okk_w (k := 58) (by decide +kernel)⟩
set_option maxRecDepth 100000 in
theorem cd_5 : cdP 5 := ⟨okr (k := 393) rfl (by decide +kernel), by decide +kernel, by decide +kernel, okk_w (k := 58) (by decide +kernel)⟩
set_option maxRecDepth 100000 in
theorem cd_6 : cdP 6 := ⟨okr (k := 397) rfl (by decide +kernel), by decide +kernel, by decide +kernel, okk_w (k := 58) (by decide +kernel)⟩
set_option maxRecDepth 100000 in
theorem cd_7 : cdP 7 := ⟨okr (k := 402) rfl (by decide +kernel), by decide +kernel, by decide +kernel, okk_w (k := 58) (by decide +kernel)⟩
set_option maxRecDepth 100000 in
theorem cd_8 : cdP 8 := ⟨okr (k := 406) rfl (by decide +kernel), by decide +kernel, by decide +kernel, okk_w (k := 58) (by decide +kernel)⟩
set_option maxRecDepth 100000 in
theorem cd_9 : cdP 9 := ⟨okr (k := 409) rfl (by decide +kernel), by decide +kernel, by decide +kernel, okk_w (k := 58) (by decide +kernel)⟩
set_option maxRecDepth 100000 in
theorem cd_10 : cdP 10 := ⟨okr (k := 484) rfl (by decide +kernel), by decide +kernel, by decide +kernel, okk_w (k := 58) (by decide +kernel)⟩
set_option maxRecDepth 100000 in
theorem cd_11 : cdP 11 := ⟨okr (k := 487) rfl (by decide +kernel), by decide +kernel, by decide +kernel, okk_w (k := 58) (by decide +kernel)⟩
set_option maxRecDepth 100000 in
theorem cd_13 : cdP 13 := ⟨okr (k := 521) rfl (by decide +kernel), by decide +kernel, by decide +kernel, okk_w (k := 58) (by decide +kernel)⟩
set_option maxRecDepth 100000 in
theorem cd_14 : cdP 14 := ⟨okr (k := 524) rfl (by decide +kernel), by decide +kernel, by decide +kernel, okk_w (k := 58) (by decide +kernel)⟩
set_option maxRecDepth 100000 in
theorem cd_15 : cdP 15 := ⟨okr (k := 543) rfl (by decide +kernel), by decide +kernel, by decide +kernel, okk_w (k := 58) (by decide +kernel)⟩
set_option maxRecDepth 100000 in
theorem cd_16 : cdP 16 := ⟨okr (k := 567) rfl (by decide +kernel), by decide +kernel, by decide +kernel, okk_w (k := 58) (by decide +kernel)⟩
set_option maxRecDepth 100000 in
theorem cd_17 : cdP 17 := ⟨okr (k := 571) rfl (by decide +kernel), by decide +kernel, by decide +kernel, okk_w (k := 58) (by decide +kernel)⟩
set_option maxRecDepth 100000 in
theorem cd_18 : cdP 18 := ⟨okr (k := 578) rfl (by decide +kernel), by decide +kernel, by decide +kernel, okk_w (k := 58) (by decide +kernel)⟩
set_option maxRecDepth 100000 in
theorem cd_19 : cdP 19 := ⟨okr (k := 609) rfl (by decide +kernel), by decide +kernel, by decide +kernel, okk_w (k := 58) (by decide +kernel)⟩
set_option maxRecDepth 100000 in
theorem cd_20 : cdP 20 := ⟨okr (k := 637) rfl (by decide +kernel), by decide +kernel, by decide +kernel, okk_w (k := 58) (by decide +kernel)⟩
set_option maxRecDepth 100000 in
theorem cd_21 : cdP 21 := ⟨okr (k := 645) rfl (by decide +kernel), by decide +kernel, by decide +kernel, okk_w (k := 58) (by decide +kernel)⟩
set_option maxRecDepth 100000 in
theorem cd_22 : cdP 22 := ⟨okr (k := 652) rfl (by decide +kernel), by decide +kernel, by decide +kernel, okk_w (k := 58) (by decide +kernel)⟩
set_option maxRecDepth 100000 in
theorem cd_23 : cdP 23 := ⟨okr (k := 723) rfl (by decide +kernel), by decide +kernel, by decide +kernel, okk_w (k := 58) (by decide +kernel)⟩
set_option maxRecDepth 100000 in
theorem cd_24 : cdP 24 := ⟨okr (k := 734) rfl (by decide +kernel), by decide +kernel, by decide +kernel, okk_w (k := 58) (by decide +kernel)⟩
set_option maxRecDepth 100000 in
theorem cd_25 : cdP 25 := ⟨okr (k := 741) rfl (by decide +kernel), by decide +kernel, by decide +kernel, okk_w (k := 58) (by decide +kernel)⟩
set_option maxRecDepth 100000 in
theorem cd_26 : cdP 26 := ⟨okr (k := 748) rfl (by decide +kernel), by decide +kernel, by decide +kernel, okk_w (k := 58) (by decide +kernel)⟩
set_option maxRecDepth 100000 in
theorem cd_27 : cdP 27 := ⟨okr (k := 755) rfl (by decide +kernel), by decide +kernel, by decide +kernel, okk_w (k := 58) (by decide +kernel)⟩
set_option maxRecDepth 100000 in
theorem cd_28 : cdP 28 := ⟨okr (k := 766) rfl (by decide +kernel), by decide +kernel, by decide +kernel, okk_w (k := 58) (by decide +kernel)⟩
set_option maxRecDepth 100000 in
theorem cd_30 : cdP 30 := ⟨okr (k := 809) rfl (by decide +kernel), by decide +kernel, by decide +kernel, okk_w (k := 58) (by decide +kernel)⟩
set_option maxRecDepth 100000 in
theorem cd_31 : cdP 31 := ⟨okr (k := 821) rfl (by decide +kernel), by decide +kernel, by decide +kernel, okk_w (k := 58) (by decide +kernel)⟩
set_option maxRecDepth 100000 in
theorem cd_32 : cdP 32 := ⟨okr (k := 833) rfl (by decide +kernel), by decide +kernel, by decide +kernel, okk_w (k := 58) (by decide +kernel)⟩
set_option maxRecDepth 100000 in
theorem cd_34 : cdP 34 := ⟨okr (k := 887) rfl (by decide +kernel), by decide +kernel, by decide +kernel, okk_w (k := 58) (by decide +kernel)⟩
set_option maxRecDepth 100000 in
theorem cd_35 : cdP 35 := ⟨okr (k := 894) rfl (by decide +kernel), by decide +kernel, by decide +kernel, okk_w (k := 58) (by decide +kernel)⟩
set_option maxRecDepth 100000 in
theorem cd_36 : cdP 36 := ⟨okr (k := 909) rfl (by decide +kernel), by decide +kernel, by decide +kernel, okk_w (k := 58) (by decide +kernel)⟩
set_option maxRecDepth 100000 in
theorem cd_37 : cdP 37 := ⟨okr (k := 975) rfl (by decide +kernel), by decide +kernel, by decide +kernel, okk_w (k := 58) (by decide +kernel)⟩
set_option maxRecDepth 100000 in
theorem cd_38 : cdP 38 := ⟨okr (k := 1017) rfl (by decide +kernel), by decide +kernel, by decide +kernel, okk_w (k := 58) (by decide +kernel)⟩
set_option maxRecDepth 100000 in
theorem cd_39 : cdP 39 := ⟨okr (k := 1024) rfl (by decide +kernel), by decide +kernel, by decide +kernel, okk_w (k := 58) (by decide +kernel)⟩
set_option maxRecDepth 100000 in
theorem cd_40 : cdP 40 := ⟨okr (k := 1070) rfl (by decide +kernel), by decide +kernel, by decide +kernel, okk_w (k := 58) (by decide +kernel)⟩
set_option maxRecDepth 100000 in
theorem cd_41 : cdP 41 := ⟨okr (k := 1074) rfl (by decide +kernel), by decide +kernel, by decide +kernel, okk_w (k := 58) (by decide +kernel)⟩
set_option maxRecDepth 100000 in
theorem cd_42 : cdP 42 := ⟨okr (k := 1081) rfl (by decide +kernel), by decide +kernel, by decide +kernel, okk_w (k := 58) (by decide +kernel)⟩
set_option maxRecDepth 100000 in
theorem cd_43 : cdP 43 := ⟨okr (k := 1088) rfl (by decide +kernel), by decide +kernel, by decide +kernel, okk_w (k := 58) (by decide +kernel)⟩
set_option maxRecDepth 100000 in
theorem cd_44 : cdP 44 := ⟨okr (k := 1095) rfl (by decide +kernel), by decide +kernel, by decide +kernel, okk_w (k := 58) (by decide +kernel)⟩
set_option maxRecDepth 100000 in
theorem cd_45 : cdP 45 := ⟨okr (k := 1102) rfl (by decide +kernel), by decide +kernel, by decide +kernel, okk_w (k := 58) (by decide +kernel)⟩
set_option maxRecDepth 100000 in
theorem cd_46 : cdP 46 := ⟨okr (k := 1109) rfl (by decide +kernel), by decide +kernel, by decide +kernel, okk_w (k := 58) (by decide +kernel)⟩
set_option maxRecDepth 100000 in
theorem cd_47 : cdP 47 := ⟨okr (k := 1116) rfl (by decide +kernel), by decide +kernel, by decide +kernel, okk_w (k := 58) (by decide +kernel)⟩
set_option maxRecDepth 100000 in
theorem cd_48 : cdP 48 := ⟨okr (k := 1123) rfl (by decide +kernel), by decide +kernel, by decide +kernel, okk_w (k := 58) (by decide +kernel)⟩
set_option maxRecDepth 100000 in
theorem cd_49 : cdP 49 := ⟨okr (k := 1128) rfl (by decide +kernel), by decide +kernel, by decide +kernel, okk_w (k := 67) (by decide +kernel)⟩
set_option maxRecDepth 100000 in
theorem cd_50 : cdP 50 := ⟨okr (k := 1252) rfl (by decide +kernel), by decide +kernel, by decide +kernel, okk_w (k := 67) (by decide +kernel)⟩
set_option maxRecDepth 100000 in
theorem cd_51 : cdP 51 := ⟨okr (k := 1256) rfl (by decide +kernel), by decide +kernel, by decide +kernel, okk_w (k := 67) (by decide +kernel)⟩
set_option maxRecDepth 100000 in
theorem cd_52 : cdP 52 := ⟨okr (k := 1259) rfl (by decide +kernel), by decide +kernel, by decide +kernel, okk_w (k := 67) (by decide +kernel)⟩
set_option maxRecDepth 100000 in
theorem cd_53 : cdP 53 := ⟨okr (k := 1263) rfl (by decide +kernel), by decide +kernel, by decide +kernel, okk_w (k := 67) (by decide +kernel)⟩
set_option maxRecDepth 100000 in
theorem cd_54 : cdP 54 := ⟨okr (k := 1267) rfl (by decide +kernel), by decide +kernel, by decide +kernel, okk_w (k := 67) (by decide +kernel)⟩
set_option maxRecDepth 100000 in
theorem cd_55 : cdP 55 := ⟨okr (k := 1271) rfl (by decide +kernel), by decide +kernel, by decide +kernel, okk_w (k := 67) (by decide +kernel)⟩
set_option maxRecDepth 100000 in
theorem cd_56 : cdP 56 := ⟨okr (k := 1275) rfl (by decide +kernel), by decide +kernel, by decide +kernel, okk_w (k := 67) (by decide +kernel)⟩
set_option maxRecDepth 100000 in
theorem cd_57 : cdP 57 := ⟨okr (k := 1279) rfl (by decide +kernel), by decide +kernel, by decide +kernel, okk_w (k := 67) (by decide +kernel)⟩
set_option maxRecDepth 100000 in
theorem cd_58 : cdP 58 := ⟨okr (k := 1283) rfl (by decide +kernel), by decide +kernel, by decide +kernel, okk_w (k := 67) (by decide +kernel)⟩
set_option maxRecDepth 100000 in
theorem cd_59 : cdP 59 := ⟨okr (k := 1287) rfl (by decide +kernel), by decide +kernel, by decide +kernel, okk_w (k := 67) (by decide +kernel)⟩
set_option maxRecDepth 100000 in
theorem cd_61 : cdP 61 := ⟨okr (k := 1295) rfl (by decide +kernel), by decide +kernel, by decide +kernel, okk_w (k := 67) (by decide +kernel)⟩
set_option maxRecDepth 100000 in
theorem cd_62 : cdP 62 := ⟨okr (k := 1299) rfl (by decide +kernel), by decide +kernel, by decide +kernel, okk_w (k := 67) (by decide +kernel)⟩
set_option maxRecDepth 100000 in
theorem cd_63 : cdP 63 := ⟨okr (k := 1303) rfl (by decide +kernel), by decide +kernel, by decide +kernel, okk_w (k := 67) (by decide +kernel)⟩
set_option maxRecDepth 100000 in
theorem cd_64 : cdP 64 := ⟨okr (k := 1307) rfl (by decide +kernel), by decide +kernel, by decide +kernel, okk_w (k := 67) (by decide +kernel)⟩
set_option maxRecDepth 100000 in
theorem cd_65 : cdP 65 := ⟨okr (k := 1311) rfl (by decide +kernel), by decide +kernel, by decide +kernel, okk_w (k := 67) (by decide +kernel)⟩
set_option maxRecDepth 100000 in
theorem cd_66 : cdP 66 := ⟨okr (k := 1315) rfl (by decide +kernel), by decide +kernel, by decide +kernel, okk_w (k := 67) (by decide +kernel)⟩
set_option maxRecDepth 100000 in
theorem cd_67 : cdP 67 := ⟨okr (k := 1319) rfl (by decide +kernel), by decide +kernel, by decide +kernel, okk_w (k := 67) (by decide +kernel)⟩
set_option maxRecDepth 100000 in
theorem cd_68 : cdP 68 := ⟨okr (k := 1323) rfl (by decide +kernel), by decide +kernel, by decide +kernel, okk_w (k := 67) (by decide +kernel)⟩
set_option maxRecDepth 100000 in
theorem cd_69 : cdP 69 := ⟨okr (k := 1327) rfl (by decide +kernel), by decide +kernel, by decide +kernel, okk_w (k := 67) (by decide +kernel)⟩
set_option maxRecDepth 100000 in
theorem cd_70 : cdP 70 := ⟨okr (k := 1331) rfl (by decide +kernel), by decide +kernel, by decide +kernel, okk_w (k := 67) (by decide +kernel)⟩
set_option maxRecDepth 100000 in
theorem cd_71 : cdP 71 := ⟨okr (k := 1335) rfl (by decide +kernel), by decide +kernel, by decide +kernel, okk_w (k := 67) (by decide +kernel)⟩
set_option maxRecDepth 100000 in
theorem cd_73 : cdP 73 := ⟨okr (k := 1343) rfl (by decide +kernel), by decide +kernel, by decide +kernel, okk_w (k := 67) (by decide +kernel)⟩
set_option maxRecDepth 100000 in
theorem cd_74 : cdP 74 := ⟨okr (k := 1347) rfl (by decide +kernel), by decide +kernel, by decide +kernel, okk_w (k := 67) (by decide +kernel)⟩
set_option maxRecDepth 100000 in
theorem cd_78 : cdP 78 := ⟨okr (k := 1364) rfl (by decide +kernel), by decide +kernel, by decide +kernel, okk_w (k := 67) (by decide +kernel)⟩
set_option maxRecDepth 100000 in
theorem cd_79 : cdP 79 := ⟨okr (k := 1368) rfl (by decide +kernel), by decide +kernel, by decide +kernel, okk_w (k := 67) (by decide +kernel)⟩
set_option maxRecDepth 100000 in
theorem cd_80 : cdP 80 := ⟨okr (k := 1372) rfl (by decide +kernel), by decide +kernel, by decide +kernel, okk_w (k := 67) (by decide +kernel)⟩
set_option maxRecDepth 100000 in
theorem cd_81 : cdP 81 := ⟨okr (k := 1376) rfl (by decide +kernel), by decide +kernel, by decide +kernel, okk_w (k := 67) (by decide +kernel)⟩
set_option maxRecDepth 100000 in
theorem cd_88 : cdP 88 := ⟨okr (k := 1405) rfl (by decide +kernel), by decide +kernel, by decide +kernel, okk_w (k := 67) (by decide +kernel)⟩
set_option maxRecDepth 100000 in
theorem cd_89 : cdP 89 := ⟨okr (k := 1409) rfl (by decide +kernel), by decide +kernel, by decide +kernel, okk_w (k := 67) (by decide +kernel)⟩
set_option maxRecDepth 100000 in
theorem cd_91 : cdP 91 := ⟨okr (k := 1417) rfl (by decide +kernel), by decide +kernel, by decide +kernel, okk_w (k := 67) (by decide +kernel)⟩
set_option maxRecDepth 100000 in
theorem cd_92 : cdP 92 := ⟨okr (k := 1421) rfl (by decide +kernel), by decide +kernel, by decide +kernel, okk_w (k := 67) (by decide +kernel)⟩
set_option maxRecDepth 100000 in
theorem cd_96 : cdP 96 := ⟨okr (k := 1437) rfl (by decide +kernel), by decide +kernel, by decide +kernel, okk_w (k := 67) (by decide +kernel)⟩
set_option maxRecDepth 100000 in
theorem cd_100 : cdP 100 := ⟨okr (k := 1454) rfl (by decide +kernel), by decide +kernel, by decide +kernel, okk_w (k := 67) (by decide +kernel)⟩
set_option maxRecDepth 100000 in
theorem cd_104 : cdP 104 := ⟨okr (k := 1470) rfl (by decide +kernel), by decide +kernel, by decide +kernel, okk_w (k := 67) (by decide +kernel)⟩
set_option maxRecDepth 100000 in
theorem cd_105 : cdP 105 := ⟨okr (k := 1474) rfl (by decide +kernel), by decide +kernel, by decide +kernel, okk_w (k := 67) (by decide +kernel)⟩
set_option maxRecDepth 100000 in
theorem cd_106 : cdP 106 := ⟨okr (k := 1478) rfl (by decide +kernel), by decide +kernel, by decide +kernel, okk_w (k := 67) (by decide +kernel)⟩
set_option maxRecDepth 100000 in
theorem cd_107 : cdP 107 := ⟨okr (k := 1482) rfl (by decide +kernel), by decide +kernel, by decide +kernel, okk_w (k := 67) (by decide +kernel)⟩
set_option maxRecDepth 100000 in
theorem cd_108 : cdP 108 := ⟨okr (k := 1486) rfl (by decide +kernel), by decide +kernel, by decide +kernel, okk_w (k := 67) (by decide +kernel)⟩
set_option maxRecDepth 100000 in
theorem cd_109 : cdP 109 := ⟨okr (k := 1490) rfl (by decide +kernel), by decide +kernel, by decide +kernel, okk_w (k := 67) (by decide +kernel)⟩
set_option maxRecDepth 100000 in
theorem cd_110 : cdP 110 := ⟨okr (k := 1494) rfl (by decide +kernel), by decide +kernel, by decide +kernel, okk_w (k := 67) (by decide +kernel)⟩
set_option maxRecDepth 100000 in
theorem cd_111 : cdP 111 := ⟨okr (k := 1498) rfl (by decide +kernel), by decide +kernel, by decide +kernel, okk_w (k := 67) (by decide +kernel)⟩
set_option maxRecDepth 100000 in
theorem cd_113 : cdP 113 := ⟨okr (k := 1506) rfl (by decide +kernel), by decide +kernel, by decide +kernel, okk_w (k := 67) (by decide +kernel)⟩
set_option maxRecDepth 100000 in
theorem cd_115 : cdP 115 := ⟨okr (k := 1514) rfl (by decide +kernel), by decide +kernel, by decide +kernel, okk_w (k := 67) (by decide +kernel)⟩
set_option maxRecDepth 100000 in
theorem cd_116 : cdP 116 := ⟨okr (k := 1518) rfl (by decide +kernel), by decide +kernel, by decide +kernel, okk_w (k := 67) (by decide +kernel)⟩
set_option maxRecDepth 100000 in
theorem cd_117 : cdP 117 := ⟨okr (k := 1522) rfl (by decide +kernel), by decide +kernel, by decide +kernel, okk_w (k := 67) (by decide +kernel)⟩
set_option maxRecDepth 100000 in
theorem cd_118 : cdP 118 := ⟨okr (k := 223) rfl (by decide +kernel), by decide +kernel, by decide +kernel, okk_w (k := 63) (by decide +kernel)⟩
set_option maxRecDepth 100000 in
theorem cd_126 : cdP 126 := ⟨okr (k := 187) rfl (by decide +kernel), by decide +kernel, by decide +kernel, okk_w (k := 61) (by decide +kernel)⟩
set_option maxRecDepth 100000 in
theorem cd_132 : cdP 132 := ⟨okr (k := 615) rfl (by decide +kernel), by decide +kernel, by decide +kernel, okk_w (k := 75) (by decide +kernel)⟩
set_option maxRecDepth 100000 in
theorem cd_133 : cdP 133 := ⟨okr (k := 244) rfl (by decide +kernel), by decide +kernel, by decide +kernel, okk_w (k := 64) (by decide +kernel)⟩
set_option maxRecDepth 100000 in
theorem cd_141 : cdP 141 := ⟨okr (k := 284) rfl (by decide +kernel), by decide +kernel, by decide +kernel, okk_w (k := 66) (by decide +kernel)⟩
set_option maxRecDepth 100000 in
theorem cd_156 : cdP 156 := ⟨okr (k := 92) rfl (by decide +kernel), by decide +kernel, by decide +kernel, okk_w (k := 59) (by decide +kernel)⟩
set_option maxRecDepth 100000 in
theorem cd_157 : cdP 157 := ⟨okr (k := 251) rfl (by decide +kernel), by decide +kernel, by decide +kernel, okk_w (k := 65) (by decide +kernel)⟩
set_option maxRecDepth 100000 in
theorem cd_162 : cdP 162 := ⟨okr (k := 202) rfl (by decide +kernel), by decide +kernel, by decide +kernel, okk_w (k := 62) (by decide +kernel)⟩
set_option maxRecDepth 100000 in
theorem cd_173 : cdP 173 := ⟨okr (k := 150) rfl (by decide +kernel), by decide +kernel, by decide +kernel, okk_w (k := 60) (by decide +kernel)⟩
set_option maxRecDepth 100000 in
theorem oi_0 : okw (.methodLink "WhistleStop" 3 Lib.objectInit) := okk_w (k := 85) (by decide +kernel)
set_option maxRecDepth 100000 in
theorem cl_0_9 : okw (.classLink "WhistleStop" 9 "WhistleStop$Network") := okk_w (k := 88) (by decide +kernel)
set_option maxRecDepth 100000 in
theorem c_0_11 : cinP 0 11 156 0 := ⟨cd_156, ⟨"WhistleStop", okk_w (k := 90) (by decide +kernel)⟩, okk_w (k := 91) (by decide +kernel), by decide +kernel, by decide +kernel, by decide +kernel⟩
set_option maxRecDepth 100000 in
theorem fl_0_12 : flP "WhistleStop" 12 0 0 := ⟨_, rfl, by decide, okk_w (k := 340) (by decide +kernel)⟩
set_option maxRecDepth 100000 in
theorem cl_0_16 : okw (.classLink "WhistleStop" 16 "WhistleStop$Runs") := okk_w (k := 146) (by decide +kernel)
set_option maxRecDepth 100000 in
theorem c_0_18 : cinP 0 18 173 0 := ⟨cd_173, ⟨"WhistleStop", okk_w (k := 148) (by decide +kernel)⟩, okk_w (k := 149) (by decide +kernel), by decide +kernel, by decide +kernel, by decide +kernel⟩
set_option maxRecDepth 100000 in
theorem fl_0_19 : flP "WhistleStop" 19 0 1 := ⟨_, rfl, by decide, okk_w (k := 341) (by decide +kernel)⟩
set_option maxRecDepth 100000 in
theorem cl_0_23 : okw (.classLink "WhistleStop" 23 "WhistleStop$Board") := okk_w (k := 183) (by decide +kernel)
set_option maxRecDepth 100000 in
theorem c_0_25 : cinP 0 25 126 0 := ⟨cd_126, ⟨"WhistleStop", okk_w (k := 185) (by decide +kernel)⟩, okk_w (k := 186) (by decide +kernel), by decide +kernel, by decide +kernel, by decide +kernel⟩
set_option maxRecDepth 100000 in
theorem fl_0_26 : flP "WhistleStop" 26 0 2 := ⟨_, rfl, by decide, okk_w (k := 342) (by decide +kernel)⟩
set_option maxRecDepth 100000 in
theorem cl_0_30 : okw (.classLink "WhistleStop" 30 "WhistleStop$Onward") := okk_w (k := 198) (by decide +kernel)
set_option maxRecDepth 100000 in
theorem c_0_32 : cinP 0 32 162 0 := ⟨cd_162, ⟨"WhistleStop", okk_w (k := 200) (by decide +kernel)⟩, okk_w (k := 201) (by decide +kernel), by decide +kernel, by decide +kernel, by decide +kernel⟩
set_option maxRecDepth 100000 in
theorem fl_0_33 : flP "WhistleStop" 33 0 3 := ⟨_, rfl, by decide, okk_w (k := 343) (by decide +kernel)⟩
set_option maxRecDepth 100000 in
theorem cl_0_37 : okw (.classLink "WhistleStop" 37 "WhistleStop$Backward") := okk_w (k := 219) (by decide +kernel)
set_option maxRecDepth 100000 in
theorem c_0_39 : cinP 0 39 118 0 := ⟨cd_118, ⟨"WhistleStop", okk_w (k := 221) (by decide +kernel)⟩, okk_w (k := 222) (by decide +kernel), by decide +kernel, by decide +kernel, by decide +kernel⟩
set_option maxRecDepth 100000 in
theorem fl_0_40 : flP "WhistleStop" 40 0 4 := ⟨_, rfl, by decide, okk_w (k := 344) (by decide +kernel)⟩
set_option maxRecDepth 100000 in
theorem cl_0_44 : okw (.classLink "WhistleStop" 44 "WhistleStop$Fares") := okk_w (k := 240) (by decide +kernel)
set_option maxRecDepth 100000 in
theorem c_0_46 : ciP 0 46 133 0 := ⟨cd_133, okk_w (k := 242) (by decide +kernel), okk_w (k := 243) (by decide +kernel), by decide +kernel, by decide +kernel, by decide +kernel⟩
set_option maxRecDepth 100000 in
theorem fl_0_47 : flP "WhistleStop" 47 0 5 := ⟨_, rfl, by decide, okk_w (k := 345) (by decide +kernel)⟩
set_option maxRecDepth 100000 in
theorem cl_0_51 : okw (.classLink "WhistleStop" 51 "WhistleStop$Journey") := okk_w (k := 280) (by decide +kernel)
set_option maxRecDepth 100000 in
theorem c_0_53 : cinP 0 53 141 0 := ⟨cd_141, ⟨"WhistleStop", okk_w (k := 282) (by decide +kernel)⟩, okk_w (k := 283) (by decide +kernel), by decide +kernel, by decide +kernel, by decide +kernel⟩
set_option maxRecDepth 100000 in
theorem fl_0_54 : flP "WhistleStop" 54 0 6 := ⟨_, rfl, by decide, okk_w (k := 346) (by decide +kernel)⟩
set_option maxRecDepth 100000 in
theorem d_0_0 : decode (mB 0) 0 = .ok (.aload_n 0, 1) := by decide +kernel
set_option maxRecDepth 100000 in
theorem d_0_1 : decode (mB 0) 1 = .ok (.invokespecial 3, 3) := by decide +kernel
set_option maxRecDepth 100000 in
theorem d_0_4 : decode (mB 0) 4 = .ok (.aload_n 0, 1) := by decide +kernel
set_option maxRecDepth 100000 in
theorem d_0_5 : decode (mB 0) 5 = .ok (.new 9, 3) := by decide +kernel
set_option maxRecDepth 100000 in
theorem d_0_8 : decode (mB 0) 8 = .ok (.dup, 1) := by decide +kernel
set_option maxRecDepth 100000 in
theorem d_0_9 : decode (mB 0) 9 = .ok (.invokespecial 11, 3) := by decide +kernel
set_option maxRecDepth 100000 in
theorem d_0_12 : decode (mB 0) 12 = .ok (.putfield 12, 3) := by decide +kernel
set_option maxRecDepth 100000 in
theorem d_0_15 : decode (mB 0) 15 = .ok (.aload_n 0, 1) := by decide +kernel
set_option maxRecDepth 100000 in
theorem d_0_16 : decode (mB 0) 16 = .ok (.new 16, 3) := by decide +kernel
set_option maxRecDepth 100000 in
theorem d_0_19 : decode (mB 0) 19 = .ok (.dup, 1) := by decide +kernel
set_option maxRecDepth 100000 in
theorem d_0_20 : decode (mB 0) 20 = .ok (.invokespecial 18, 3) := by decide +kernel
set_option maxRecDepth 100000 in
theorem d_0_23 : decode (mB 0) 23 = .ok (.putfield 19, 3) := by decide +kernel
set_option maxRecDepth 100000 in
theorem d_0_26 : decode (mB 0) 26 = .ok (.aload_n 0, 1) := by decide +kernel
set_option maxRecDepth 100000 in
theorem d_0_27 : decode (mB 0) 27 = .ok (.new 23, 3) := by decide +kernel
set_option maxRecDepth 100000 in
theorem d_0_30 : decode (mB 0) 30 = .ok (.dup, 1) := by decide +kernel
set_option maxRecDepth 100000 in
theorem d_0_31 : decode (mB 0) 31 = .ok (.invokespecial 25, 3) := by decide +kernel
set_option maxRecDepth 100000 in
theorem d_0_34 : decode (mB 0) 34 = .ok (.putfield 26, 3) := by decide +kernel
set_option maxRecDepth 100000 in
theorem d_0_37 : decode (mB 0) 37 = .ok (.aload_n 0, 1) := by decide +kernel
set_option maxRecDepth 100000 in
theorem d_0_38 : decode (mB 0) 38 = .ok (.new 30, 3) := by decide +kernel
set_option maxRecDepth 100000 in
theorem d_0_41 : decode (mB 0) 41 = .ok (.dup, 1) := by decide +kernel
set_option maxRecDepth 100000 in
theorem d_0_42 : decode (mB 0) 42 = .ok (.invokespecial 32, 3) := by decide +kernel
set_option maxRecDepth 100000 in
theorem d_0_45 : decode (mB 0) 45 = .ok (.putfield 33, 3) := by decide +kernel
set_option maxRecDepth 100000 in
theorem d_0_48 : decode (mB 0) 48 = .ok (.aload_n 0, 1) := by decide +kernel
set_option maxRecDepth 100000 in
theorem d_0_49 : decode (mB 0) 49 = .ok (.new 37, 3) := by decide +kernel
set_option maxRecDepth 100000 in
theorem d_0_52 : decode (mB 0) 52 = .ok (.dup, 1) := by decide +kernel
set_option maxRecDepth 100000 in
theorem d_0_53 : decode (mB 0) 53 = .ok (.invokespecial 39, 3) := by decide +kernel
set_option maxRecDepth 100000 in
theorem d_0_56 : decode (mB 0) 56 = .ok (.putfield 40, 3) := by decide +kernel
set_option maxRecDepth 100000 in
theorem d_0_59 : decode (mB 0) 59 = .ok (.aload_n 0, 1) := by decide +kernel
set_option maxRecDepth 100000 in
theorem d_0_60 : decode (mB 0) 60 = .ok (.new 44, 3) := by decide +kernel
set_option maxRecDepth 100000 in
theorem d_0_63 : decode (mB 0) 63 = .ok (.dup, 1) := by decide +kernel
set_option maxRecDepth 100000 in
theorem d_0_64 : decode (mB 0) 64 = .ok (.invokespecial 46, 3) := by decide +kernel
set_option maxRecDepth 100000 in
theorem d_0_67 : decode (mB 0) 67 = .ok (.putfield 47, 3) := by decide +kernel
set_option maxRecDepth 100000 in
theorem d_0_70 : decode (mB 0) 70 = .ok (.aload_n 0, 1) := by decide +kernel
set_option maxRecDepth 100000 in
theorem d_0_71 : decode (mB 0) 71 = .ok (.new 51, 3) := by decide +kernel
set_option maxRecDepth 100000 in
theorem d_0_74 : decode (mB 0) 74 = .ok (.dup, 1) := by decide +kernel
set_option maxRecDepth 100000 in
theorem d_0_75 : decode (mB 0) 75 = .ok (.invokespecial 53, 3) := by decide +kernel
set_option maxRecDepth 100000 in
theorem d_0_78 : decode (mB 0) 78 = .ok (.putfield 54, 3) := by decide +kernel
set_option maxRecDepth 100000 in
theorem d_0_81 : decode (mB 0) 81 = .ok (.return_, 1) := by decide +kernel
set_option maxRecDepth 100000 in
theorem fl_0_66 : flP "WhistleStop" 66 8 4 := ⟨_, rfl, by decide, okk_w (k := 117) (by decide +kernel)⟩
set_option maxRecDepth 100000 in
theorem d_1_0 : decode (mB 1) 0 = .ok (.aload_n 0, 1) := by decide +kernel
set_option maxRecDepth 100000 in
theorem d_1_1 : decode (mB 1) 1 = .ok (.getfield 12, 3) := by decide +kernel
set_option maxRecDepth 100000 in
theorem d_1_4 : decode (mB 1) 4 = .ok (.getfield 66, 3) := by decide +kernel
set_option maxRecDepth 100000 in
theorem d_1_7 : decode (mB 1) 7 = .ok (.ireturn, 1) := by decide +kernel
set_option maxRecDepth 100000 in
theorem fl_0_117 : flP "WhistleStop" 117 8 7 := ⟨_, rfl, by decide, okk_w (k := 127) (by decide +kernel)⟩
set_option maxRecDepth 100000 in
theorem d_2_0 : decode (mB 2) 0 = .ok (.aload_n 0, 1) := by decide +kernel
set_option maxRecDepth 100000 in
theorem d_2_1 : decode (mB 2) 1 = .ok (.getfield 12, 3) := by decide +kernel
set_option maxRecDepth 100000 in
theorem d_2_4 : decode (mB 2) 4 = .ok (.getfield 117, 3) := by decide +kernel
set_option maxRecDepth 100000 in
theorem d_2_7 : decode (mB 2) 7 = .ok (.ireturn, 1) := by decide +kernel
set_option maxRecDepth 100000 in
theorem fl_0_219 : flP "WhistleStop" 219 7 0 := ⟨_, rfl, by decide, okk_w (k := 288) (by decide +kernel)⟩
set_option maxRecDepth 100000 in
theorem fl_0_223 : flP "WhistleStop" 223 7 4 := ⟨_, rfl, by decide, okk_w (k := 296) (by decide +kernel)⟩
set_option maxRecDepth 100000 in
theorem d_3_0 : decode (mB 3) 0 = .ok (.aload_n 0, 1) := by decide +kernel
set_option maxRecDepth 100000 in
theorem d_3_1 : decode (mB 3) 1 = .ok (.getfield 54, 3) := by decide +kernel
set_option maxRecDepth 100000 in
theorem d_3_4 : decode (mB 3) 4 = .ok (.getfield 219, 3) := by decide +kernel
set_option maxRecDepth 100000 in
theorem d_3_7 : decode (mB 3) 7 = .ok (.ifCond .eq 13, 3) := by decide +kernel
set_option maxRecDepth 100000 in
theorem d_3_10 : decode (mB 3) 10 = .ok (.aload_n 0, 1) := by decide +kernel
set_option maxRecDepth 100000 in
theorem d_3_11 : decode (mB 3) 11 = .ok (.getfield 54, 3) := by decide +kernel
set_option maxRecDepth 100000 in
theorem d_3_14 : decode (mB 3) 14 = .ok (.getfield 223, 3) := by decide +kernel
set_option maxRecDepth 100000 in
theorem d_3_17 : decode (mB 3) 17 = .ok (.goto 4, 3) := by decide +kernel
set_option maxRecDepth 100000 in
theorem d_3_20 : decode (mB 3) 20 = .ok (.iconst (-1), 1) := by decide +kernel
set_option maxRecDepth 100000 in
theorem d_3_21 : decode (mB 3) 21 = .ok (.ireturn, 1) := by decide +kernel
set_option maxRecDepth 100000 in
theorem d_4_0 : decode (mB 4) 0 = .ok (.aload_n 0, 1) := by decide +kernel
set_option maxRecDepth 100000 in
theorem d_4_1 : decode (mB 4) 1 = .ok (.getfield 54, 3) := by decide +kernel
set_option maxRecDepth 100000 in
theorem d_4_4 : decode (mB 4) 4 = .ok (.getfield 219, 3) := by decide +kernel
set_option maxRecDepth 100000 in
theorem d_4_7 : decode (mB 4) 7 = .ok (.ifCond .eq 13, 3) := by decide +kernel
set_option maxRecDepth 100000 in
theorem d_4_20 : decode (mB 4) 20 = .ok (.iconst 0, 1) := by decide +kernel
set_option maxRecDepth 100000 in
theorem d_4_21 : decode (mB 4) 21 = .ok (.istore_n 1, 1) := by decide +kernel
set_option maxRecDepth 100000 in
theorem d_4_22 : decode (mB 4) 22 = .ok (.iload_n 1, 1) := by decide +kernel
set_option maxRecDepth 100000 in
theorem d_4_23 : decode (mB 4) 23 = .ok (.ifCond .gt 5, 3) := by decide +kernel
set_option maxRecDepth 100000 in
theorem d_4_26 : decode (mB 4) 26 = .ok (.dconst 0, 1) := by decide +kernel
set_option maxRecDepth 100000 in
theorem d_4_27 : decode (mB 4) 27 = .ok (.dreturn, 1) := by decide +kernel
set_option maxRecDepth 100000 in
theorem ck_0_262 : okw (.constantLong "WhistleStop" 262 (2503)) := okk_w (k := 394) (by decide +kernel)
set_option maxRecDepth 100000 in
theorem c_5_264 : csP 5 264 6 2 := ⟨cd_6, okk_w (k := 395) (by decide +kernel), okk_w (k := 396) (by decide +kernel), by decide +kernel, by decide +kernel⟩
set_option maxRecDepth 100000 in
theorem c_5_216 : cvP 5 216 3 0 := ⟨cd_3, okk_w (k := 494) (by decide +kernel), okk_w (k := 371) (by decide +kernel), okk_w (k := 372) (by decide +kernel), by decide +kernel, by decide +kernel⟩
set_option maxRecDepth 100000 in
theorem d_5_0 : decode (mB 5) 0 = .ok (.ldc2_w 262, 3) := by decide +kernel
set_option maxRecDepth 100000 in
theorem d_5_3 : decode (mB 5) 3 = .ok (.aload_n 0, 1) := by decide +kernel
set_option maxRecDepth 100000 in
theorem d_5_4 : decode (mB 5) 4 = .ok (.getfield 12, 3) := by decide +kernel
set_option maxRecDepth 100000 in
theorem d_5_7 : decode (mB 5) 7 = .ok (.getfield 66, 3) := by decide +kernel
set_option maxRecDepth 100000 in
theorem d_5_10 : decode (mB 5) 10 = .ok (.invokestatic 264, 3) := by decide +kernel
set_option maxRecDepth 100000 in
theorem d_5_13 : decode (mB 5) 13 = .ok (.aload_n 0, 1) := by decide +kernel
set_option maxRecDepth 100000 in
theorem d_5_14 : decode (mB 5) 14 = .ok (.getfield 12, 3) := by decide +kernel
set_option maxRecDepth 100000 in
theorem d_5_17 : decode (mB 5) 17 = .ok (.getfield 117, 3) := by decide +kernel
set_option maxRecDepth 100000 in
theorem d_5_20 : decode (mB 5) 20 = .ok (.invokestatic 264, 3) := by decide +kernel
set_option maxRecDepth 100000 in
theorem d_5_23 : decode (mB 5) 23 = .ok (.lstore_n 1, 1) := by decide +kernel
set_option maxRecDepth 100000 in
theorem d_5_24 : decode (mB 5) 24 = .ok (.iconst 0, 1) := by decide +kernel
set_option maxRecDepth 100000 in
theorem d_5_25 : decode (mB 5) 25 = .ok (.istore_n 3, 1) := by decide +kernel
set_option maxRecDepth 100000 in
theorem d_5_26 : decode (mB 5) 26 = .ok (.iload_n 3, 1) := by decide +kernel
set_option maxRecDepth 100000 in
theorem d_5_27 : decode (mB 5) 27 = .ok (.aload_n 0, 1) := by decide +kernel
set_option maxRecDepth 100000 in
theorem d_5_28 : decode (mB 5) 28 = .ok (.getfield 12, 3) := by decide +kernel
set_option maxRecDepth 100000 in
theorem d_5_31 : decode (mB 5) 31 = .ok (.getfield 117, 3) := by decide +kernel
set_option maxRecDepth 100000 in
theorem d_5_34 : decode (mB 5) 34 = .ok (.if_icmp .ge 72, 3) := by decide +kernel
set_option maxRecDepth 100000 in
theorem d_5_106 : decode (mB 5) 106 = .ok (.iconst 0, 1) := by decide +kernel
set_option maxRecDepth 100000 in
theorem d_5_107 : decode (mB 5) 107 = .ok (.istore_n 3, 1) := by decide +kernel
set_option maxRecDepth 100000 in
theorem d_5_108 : decode (mB 5) 108 = .ok (.iload_n 3, 1) := by decide +kernel
set_option maxRecDepth 100000 in
theorem d_5_109 : decode (mB 5) 109 = .ok (.aload_n 0, 1) := by decide +kernel
set_option maxRecDepth 100000 in
theorem d_5_110 : decode (mB 5) 110 = .ok (.getfield 12, 3) := by decide +kernel
set_option maxRecDepth 100000 in
theorem d_5_113 : decode (mB 5) 113 = .ok (.getfield 117, 3) := by decide +kernel
set_option maxRecDepth 100000 in
theorem d_5_116 : decode (mB 5) 116 = .ok (.if_icmp .ge 37, 3) := by decide +kernel
set_option maxRecDepth 100000 in
theorem d_5_153 : decode (mB 5) 153 = .ok (.lload_n 1, 1) := by decide +kernel
set_option maxRecDepth 100000 in
theorem d_5_154 : decode (mB 5) 154 = .ok (.aload_n 0, 1) := by decide +kernel
set_option maxRecDepth 100000 in
theorem d_5_155 : decode (mB 5) 155 = .ok (.invokevirtual 216, 3) := by decide +kernel
set_option maxRecDepth 100000 in
theorem d_5_158 : decode (mB 5) 158 = .ok (.invokestatic 264, 3) := by decide +kernel
set_option maxRecDepth 100000 in
theorem d_5_161 : decode (mB 5) 161 = .ok (.lstore_n 1, 1) := by decide +kernel
set_option maxRecDepth 100000 in
theorem d_5_162 : decode (mB 5) 162 = .ok (.aload_n 0, 1) := by decide +kernel
set_option maxRecDepth 100000 in
theorem d_5_163 : decode (mB 5) 163 = .ok (.getfield 54, 3) := by decide +kernel
set_option maxRecDepth 100000 in
theorem d_5_166 : decode (mB 5) 166 = .ok (.getfield 219, 3) := by decide +kernel
set_option maxRecDepth 100000 in
theorem d_5_169 : decode (mB 5) 169 = .ok (.ifCond .eq 11, 3) := by decide +kernel
set_option maxRecDepth 100000 in
theorem d_5_180 : decode (mB 5) 180 = .ok (.lload_n 1, 1) := by decide +kernel
set_option maxRecDepth 100000 in
theorem d_5_181 : decode (mB 5) 181 = .ok (.lreturn, 1) := by decide +kernel
set_option maxRecDepth 100000 in
theorem ck_0_275 : okw (.constantLong "WhistleStop" 275 (31)) := okk_w (k := 398) (by decide +kernel)
set_option maxRecDepth 100000 in
theorem d_6_0 : decode (mB 6) 0 = .ok (.lload_n 0, 1) := by decide +kernel
set_option maxRecDepth 100000 in
theorem d_6_1 : decode (mB 6) 1 = .ok (.ldc2_w 275, 3) := by decide +kernel
set_option maxRecDepth 100000 in
theorem d_6_4 : decode (mB 6) 4 = .ok (.lmul, 1) := by decide +kernel
set_option maxRecDepth 100000 in
theorem d_6_5 : decode (mB 6) 5 = .ok (.iload_n 2, 1) := by decide +kernel
set_option maxRecDepth 100000 in
theorem d_6_6 : decode (mB 6) 6 = .ok (.i2l, 1) := by decide +kernel
set_option maxRecDepth 100000 in
theorem d_6_7 : decode (mB 6) 7 = .ok (.ladd, 1) := by decide +kernel
set_option maxRecDepth 100000 in
theorem d_6_8 : decode (mB 6) 8 = .ok (.lreturn, 1) := by decide +kernel
set_option maxRecDepth 100000 in
theorem c_7_135 : cvP 7 135 8 1 := ⟨cd_8, okk_w (k := 403) (by decide +kernel), okk_w (k := 405) (by decide +kernel), okk_w (k := 1) (by decide +kernel), by decide +kernel, by decide +kernel⟩
set_option maxRecDepth 100000 in
theorem d_7_0 : decode (mB 7) 0 = .ok (.aload_n 0, 1) := by decide +kernel
set_option maxRecDepth 100000 in
theorem d_7_1 : decode (mB 7) 1 = .ok (.iload_n 1, 1) := by decide +kernel
set_option maxRecDepth 100000 in
theorem d_7_2 : decode (mB 7) 2 = .ok (.invokevirtual 135, 3) := by decide +kernel
set_option maxRecDepth 100000 in
theorem c_8_107 : csP 8 107 9 2 := ⟨cd_9, okk_w (k := 407) (by decide +kernel), okk_w (k := 408) (by decide +kernel), by decide +kernel, by decide +kernel⟩
set_option maxRecDepth 100000 in
theorem d_8_0 : decode (mB 8) 0 = .ok (.iload_n 1, 1) := by decide +kernel
set_option maxRecDepth 100000 in
theorem d_8_1 : decode (mB 8) 1 = .ok (.aload_n 0, 1) := by decide +kernel
set_option maxRecDepth 100000 in
theorem d_8_2 : decode (mB 8) 2 = .ok (.getfield 12, 3) := by decide +kernel
set_option maxRecDepth 100000 in
theorem d_8_5 : decode (mB 8) 5 = .ok (.getfield 117, 3) := by decide +kernel
set_option maxRecDepth 100000 in
theorem d_8_8 : decode (mB 8) 8 = .ok (.invokestatic 107, 3) := by decide +kernel
set_option maxRecDepth 100000 in
theorem d_9_0 : decode (mB 9) 0 = .ok (.iload_n 0, 1) := by decide +kernel
set_option maxRecDepth 100000 in
theorem d_9_1 : decode (mB 9) 1 = .ok (.ifCond .lt 8, 3) := by decide +kernel
set_option maxRecDepth 100000 in
theorem d_9_4 : decode (mB 9) 4 = .ok (.iload_n 0, 1) := by decide +kernel
set_option maxRecDepth 100000 in
theorem d_9_5 : decode (mB 9) 5 = .ok (.iload_n 1, 1) := by decide +kernel
set_option maxRecDepth 100000 in
theorem d_9_6 : decode (mB 9) 6 = .ok (.if_icmp .lt 14, 3) := by decide +kernel
set_option maxRecDepth 100000 in
theorem d_9_9 : decode (mB 9) 9 = .ok (.new 277, 3) := by decide +kernel
set_option maxRecDepth 100000 in
theorem d_9_12 : decode (mB 9) 12 = .ok (.dup, 1) := by decide +kernel
set_option maxRecDepth 100000 in
theorem d_9_13 : decode (mB 9) 13 = .ok (.ldc_w 279, 3) := by decide +kernel
set_option maxRecDepth 100000 in
theorem d_9_16 : decode (mB 9) 16 = .ok (.invokespecial 281, 3) := by decide +kernel
set_option maxRecDepth 100000 in
theorem d_9_19 : decode (mB 9) 19 = .ok (.athrow, 1) := by decide +kernel
set_option maxRecDepth 100000 in
theorem d_9_20 : decode (mB 9) 20 = .ok (.return_, 1) := by decide +kernel
set_option maxRecDepth 100000 in
theorem c_10_58 : csP 10 58 11 3 := ⟨cd_11, okk_w (k := 485) (by decide +kernel), okk_w (k := 486) (by decide +kernel), by decide +kernel, by decide +kernel⟩
set_option maxRecDepth 100000 in
theorem d_10_0 : decode (mB 10) 0 = .ok (.iload_n 0, 1) := by decide +kernel
set_option maxRecDepth 100000 in
theorem d_10_1 : decode (mB 10) 1 = .ok (.iconst 0, 1) := by decide +kernel
set_option maxRecDepth 100000 in
theorem d_10_2 : decode (mB 10) 2 = .ok (.sipush 365, 3) := by decide +kernel
set_option maxRecDepth 100000 in
theorem d_10_5 : decode (mB 10) 5 = .ok (.invokestatic 58, 3) := by decide +kernel
set_option maxRecDepth 100000 in
theorem d_10_8 : decode (mB 10) 8 = .ok (.ireturn, 1) := by decide +kernel
set_option maxRecDepth 100000 in
theorem d_11_0 : decode (mB 11) 0 = .ok (.iload_n 0, 1) := by decide +kernel
set_option maxRecDepth 100000 in
theorem d_11_1 : decode (mB 11) 1 = .ok (.iload_n 1, 1) := by decide +kernel
set_option maxRecDepth 100000 in
theorem d_11_2 : decode (mB 11) 2 = .ok (.if_icmp .lt 12, 3) := by decide +kernel
set_option maxRecDepth 100000 in
theorem d_11_5 : decode (mB 11) 5 = .ok (.iload_n 0, 1) := by decide +kernel
set_option maxRecDepth 100000 in
theorem d_11_6 : decode (mB 11) 6 = .ok (.iload_n 2, 1) := by decide +kernel
set_option maxRecDepth 100000 in
theorem d_11_7 : decode (mB 11) 7 = .ok (.if_icmp .gt 7, 3) := by decide +kernel
set_option maxRecDepth 100000 in
theorem d_11_10 : decode (mB 11) 10 = .ok (.iconst 1, 1) := by decide +kernel
set_option maxRecDepth 100000 in
theorem d_11_11 : decode (mB 11) 11 = .ok (.goto 4, 3) := by decide +kernel
set_option maxRecDepth 100000 in
theorem d_11_14 : decode (mB 11) 14 = .ok (.iconst 0, 1) := by decide +kernel
set_option maxRecDepth 100000 in
theorem d_11_15 : decode (mB 11) 15 = .ok (.ireturn, 1) := by decide +kernel
set_option maxRecDepth 100000 in
theorem c_13_58 : csP 13 58 11 3 := ⟨cd_11, okk_w (k := 485) (by decide +kernel), okk_w (k := 486) (by decide +kernel), by decide +kernel, by decide +kernel⟩
set_option maxRecDepth 100000 in
theorem c_13_62 : csP 13 62 14 1 := ⟨cd_14, okk_w (k := 522) (by decide +kernel), okk_w (k := 523) (by decide +kernel), by decide +kernel, by decide +kernel⟩
set_option maxRecDepth 100000 in
theorem c_13_70 : csP 13 70 15 1 := ⟨cd_15, okk_w (k := 541) (by decide +kernel), okk_w (k := 542) (by decide +kernel), by decide +kernel, by decide +kernel⟩
set_option maxRecDepth 100000 in
theorem fl_0_73 : flP "WhistleStop" 73 8 0 := ⟨_, rfl, by decide, okk_w (k := 101) (by decide +kernel)⟩
set_option maxRecDepth 100000 in
theorem d_13_0 : decode (mB 13) 0 = .ok (.iload_n 1, 1) := by decide +kernel
set_option maxRecDepth 100000 in
theorem d_13_1 : decode (mB 13) 1 = .ok (.iconst 0, 1) := by decide +kernel
set_option maxRecDepth 100000 in
theorem d_13_2 : decode (mB 13) 2 = .ok (.bipush 30, 2) := by decide +kernel
set_option maxRecDepth 100000 in
theorem d_13_4 : decode (mB 13) 4 = .ok (.invokestatic 58, 3) := by decide +kernel
set_option maxRecDepth 100000 in
theorem d_13_7 : decode (mB 13) 7 = .ok (.invokestatic 62, 3) := by decide +kernel
set_option maxRecDepth 100000 in
theorem d_13_10 : decode (mB 13) 10 = .ok (.aload_n 0, 1) := by decide +kernel
set_option maxRecDepth 100000 in
theorem d_13_11 : decode (mB 13) 11 = .ok (.getfield 12, 3) := by decide +kernel
set_option maxRecDepth 100000 in
theorem d_13_14 : decode (mB 13) 14 = .ok (.getfield 66, 3) := by decide +kernel
set_option maxRecDepth 100000 in
theorem d_13_17 : decode (mB 13) 17 = .ok (.bipush 16, 2) := by decide +kernel
set_option maxRecDepth 100000 in
theorem d_13_19 : decode (mB 13) 19 = .ok (.if_icmp .ge 7, 3) := by decide +kernel
set_option maxRecDepth 100000 in
theorem d_13_22 : decode (mB 13) 22 = .ok (.iconst 1, 1) := by decide +kernel
set_option maxRecDepth 100000 in
theorem d_13_23 : decode (mB 13) 23 = .ok (.goto 4, 3) := by decide +kernel
set_option maxRecDepth 100000 in
theorem d_13_27 : decode (mB 13) 27 = .ok (.invokestatic 70, 3) := by decide +kernel
set_option maxRecDepth 100000 in
theorem d_13_30 : decode (mB 13) 30 = .ok (.aload_n 0, 1) := by decide +kernel
set_option maxRecDepth 100000 in
theorem d_13_31 : decode (mB 13) 31 = .ok (.getfield 12, 3) := by decide +kernel
set_option maxRecDepth 100000 in
theorem d_13_34 : decode (mB 13) 34 = .ok (.getfield 73, 3) := by decide +kernel
set_option maxRecDepth 100000 in
theorem d_13_37 : decode (mB 13) 37 = .ok (.aload_n 0, 1) := by decide +kernel
set_option maxRecDepth 100000 in
theorem d_13_38 : decode (mB 13) 38 = .ok (.getfield 12, 3) := by decide +kernel
set_option maxRecDepth 100000 in
theorem d_13_41 : decode (mB 13) 41 = .ok (.getfield 66, 3) := by decide +kernel
set_option maxRecDepth 100000 in
theorem d_13_44 : decode (mB 13) 44 = .ok (.iload_n 1, 1) := by decide +kernel
set_option maxRecDepth 100000 in
theorem d_13_45 : decode (mB 13) 45 = .ok (.iastore, 1) := by decide +kernel
set_option maxRecDepth 100000 in
theorem d_13_46 : decode (mB 13) 46 = .ok (.aload_n 0, 1) := by decide +kernel
set_option maxRecDepth 100000 in
theorem d_13_47 : decode (mB 13) 47 = .ok (.getfield 12, 3) := by decide +kernel
set_option maxRecDepth 100000 in
theorem d_13_50 : decode (mB 13) 50 = .ok (.dup, 1) := by decide +kernel
set_option maxRecDepth 100000 in
theorem d_13_51 : decode (mB 13) 51 = .ok (.getfield 66, 3) := by decide +kernel
set_option maxRecDepth 100000 in
theorem d_13_54 : decode (mB 13) 54 = .ok (.iconst 1, 1) := by decide +kernel
set_option maxRecDepth 100000 in
theorem d_13_55 : decode (mB 13) 55 = .ok (.iadd, 1) := by decide +kernel
set_option maxRecDepth 100000 in
theorem d_13_56 : decode (mB 13) 56 = .ok (.putfield 66, 3) := by decide +kernel
set_option maxRecDepth 100000 in
theorem d_13_59 : decode (mB 13) 59 = .ok (.aload_n 0, 1) := by decide +kernel
set_option maxRecDepth 100000 in
theorem d_13_60 : decode (mB 13) 60 = .ok (.getfield 12, 3) := by decide +kernel
set_option maxRecDepth 100000 in
theorem d_13_63 : decode (mB 13) 63 = .ok (.getfield 66, 3) := by decide +kernel
set_option maxRecDepth 100000 in
theorem d_13_66 : decode (mB 13) 66 = .ok (.iconst 1, 1) := by decide +kernel
set_option maxRecDepth 100000 in
theorem d_13_67 : decode (mB 13) 67 = .ok (.isub, 1) := by decide +kernel
set_option maxRecDepth 100000 in
theorem d_13_68 : decode (mB 13) 68 = .ok (.ireturn, 1) := by decide +kernel
set_option maxRecDepth 100000 in
theorem d_14_0 : decode (mB 14) 0 = .ok (.iload_n 0, 1) := by decide +kernel
set_option maxRecDepth 100000 in
theorem d_14_1 : decode (mB 14) 1 = .ok (.ifCond .ne 14, 3) := by decide +kernel
set_option maxRecDepth 100000 in
theorem d_14_4 : decode (mB 14) 4 = .ok (.new 284, 3) := by decide +kernel
set_option maxRecDepth 100000 in
theorem d_14_7 : decode (mB 14) 7 = .ok (.dup, 1) := by decide +kernel
set_option maxRecDepth 100000 in
theorem d_14_8 : decode (mB 14) 8 = .ok (.ldc_w 286, 3) := by decide +kernel
set_option maxRecDepth 100000 in
theorem d_14_11 : decode (mB 14) 11 = .ok (.invokespecial 288, 3) := by decide +kernel
set_option maxRecDepth 100000 in
theorem d_14_14 : decode (mB 14) 14 = .ok (.athrow, 1) := by decide +kernel
set_option maxRecDepth 100000 in
theorem d_14_15 : decode (mB 14) 15 = .ok (.return_, 1) := by decide +kernel
set_option maxRecDepth 100000 in
theorem d_15_0 : decode (mB 15) 0 = .ok (.iload_n 0, 1) := by decide +kernel
set_option maxRecDepth 100000 in
theorem d_15_1 : decode (mB 15) 1 = .ok (.ifCond .ne 14, 3) := by decide +kernel
set_option maxRecDepth 100000 in
theorem d_15_4 : decode (mB 15) 4 = .ok (.new 289, 3) := by decide +kernel
set_option maxRecDepth 100000 in
theorem d_15_7 : decode (mB 15) 7 = .ok (.dup, 1) := by decide +kernel
set_option maxRecDepth 100000 in
theorem d_15_8 : decode (mB 15) 8 = .ok (.ldc_w 291, 3) := by decide +kernel
set_option maxRecDepth 100000 in
theorem d_15_11 : decode (mB 15) 11 = .ok (.invokespecial 293, 3) := by decide +kernel
set_option maxRecDepth 100000 in
theorem d_15_14 : decode (mB 15) 14 = .ok (.athrow, 1) := by decide +kernel
set_option maxRecDepth 100000 in
theorem d_15_15 : decode (mB 15) 15 = .ok (.return_, 1) := by decide +kernel
set_option maxRecDepth 100000 in
theorem c_16_77 : cvP 16 77 17 1 := ⟨cd_17, okk_w (k := 568) (by decide +kernel), okk_w (k := 570) (by decide +kernel), okk_w (k := 4) (by decide +kernel), by decide +kernel, by decide +kernel⟩
set_option maxRecDepth 100000 in
theorem d_16_0 : decode (mB 16) 0 = .ok (.aload_n 0, 1) := by decide +kernel
set_option maxRecDepth 100000 in
theorem d_16_1 : decode (mB 16) 1 = .ok (.iload_n 1, 1) := by decide +kernel
set_option maxRecDepth 100000 in
theorem d_16_2 : decode (mB 16) 2 = .ok (.invokevirtual 77, 3) := by decide +kernel
set_option maxRecDepth 100000 in
theorem c_17_107 : csP 17 107 9 2 := ⟨cd_9, okk_w (k := 407) (by decide +kernel), okk_w (k := 408) (by decide +kernel), by decide +kernel, by decide +kernel⟩
set_option maxRecDepth 100000 in
theorem d_17_0 : decode (mB 17) 0 = .ok (.iload_n 1, 1) := by decide +kernel
set_option maxRecDepth 100000 in
theorem d_17_1 : decode (mB 17) 1 = .ok (.aload_n 0, 1) := by decide +kernel
set_option maxRecDepth 100000 in
theorem d_17_2 : decode (mB 17) 2 = .ok (.getfield 12, 3) := by decide +kernel
set_option maxRecDepth 100000 in
theorem d_17_5 : decode (mB 17) 5 = .ok (.getfield 66, 3) := by decide +kernel
set_option maxRecDepth 100000 in
theorem d_17_8 : decode (mB 17) 8 = .ok (.invokestatic 107, 3) := by decide +kernel
set_option maxRecDepth 100000 in
theorem c_18_77 : cvP 18 77 17 1 := ⟨cd_17, okk_w (k := 568) (by decide +kernel), okk_w (k := 570) (by decide +kernel), okk_w (k := 4) (by decide +kernel), by decide +kernel, by decide +kernel⟩
set_option maxRecDepth 100000 in
theorem d_18_0 : decode (mB 18) 0 = .ok (.aload_n 0, 1) := by decide +kernel
set_option maxRecDepth 100000 in
theorem d_18_1 : decode (mB 18) 1 = .ok (.iload_n 1, 1) := by decide +kernel
set_option maxRecDepth 100000 in
theorem d_18_2 : decode (mB 18) 2 = .ok (.invokevirtual 77, 3) := by decide +kernel
set_option maxRecDepth 100000 in
theorem c_19_58 : csP 19 58 11 3 := ⟨cd_11, okk_w (k := 485) (by decide +kernel), okk_w (k := 486) (by decide +kernel), by decide +kernel, by decide +kernel⟩
set_option maxRecDepth 100000 in
theorem c_19_93 : csP 19 93 10 1 := ⟨cd_10, okk_w (k := 610) (by decide +kernel), okk_w (k := 483) (by decide +kernel), by decide +kernel, by decide +kernel⟩
set_option maxRecDepth 100000 in
theorem c_19_62 : csP 19 62 14 1 := ⟨cd_14, okk_w (k := 522) (by decide +kernel), okk_w (k := 523) (by decide +kernel), by decide +kernel, by decide +kernel⟩
set_option maxRecDepth 100000 in
theorem fl_0_97 : flP "WhistleStop" 97 8 6 := ⟨_, rfl, by decide, okk_w (k := 125) (by decide +kernel)⟩
set_option maxRecDepth 100000 in
theorem c_19_70 : csP 19 70 15 1 := ⟨cd_15, okk_w (k := 541) (by decide +kernel), okk_w (k := 542) (by decide +kernel), by decide +kernel, by decide +kernel⟩
set_option maxRecDepth 100000 in
theorem fl_0_100 : flP "WhistleStop" 100 8 2 := ⟨_, rfl, by decide, okk_w (k := 113) (by decide +kernel)⟩
set_option maxRecDepth 100000 in
theorem cl_0_104 : okw (.classLink "WhistleStop" 104 "WhistleStop$Calendar") := okk_w (k := 611) (by decide +kernel)
set_option maxRecDepth 100000 in
theorem c_19_106 : ciP 19 106 132 3 := ⟨cd_132, okk_w (k := 613) (by decide +kernel), okk_w (k := 614) (by decide +kernel), by decide +kernel, by decide +kernel, by decide +kernel⟩
set_option maxRecDepth 100000 in
theorem d_19_0 : decode (mB 19) 0 = .ok (.iload_n 1, 1) := by decide +kernel
set_option maxRecDepth 100000 in
theorem d_19_1 : decode (mB 19) 1 = .ok (.iconst 0, 1) := by decide +kernel
set_option maxRecDepth 100000 in
theorem d_19_2 : decode (mB 19) 2 = .ok (.bipush 127, 2) := by decide +kernel
set_option maxRecDepth 100000 in
theorem d_19_4 : decode (mB 19) 4 = .ok (.invokestatic 58, 3) := by decide +kernel
set_option maxRecDepth 100000 in
theorem d_19_7 : decode (mB 19) 7 = .ok (.ifCond .eq 26, 3) := by decide +kernel
set_option maxRecDepth 100000 in
theorem d_19_10 : decode (mB 19) 10 = .ok (.iload_n 2, 1) := by decide +kernel
set_option maxRecDepth 100000 in
theorem d_19_11 : decode (mB 19) 11 = .ok (.invokestatic 93, 3) := by decide +kernel
set_option maxRecDepth 100000 in
theorem d_19_14 : decode (mB 19) 14 = .ok (.ifCond .eq 19, 3) := by decide +kernel
set_option maxRecDepth 100000 in
theorem d_19_17 : decode (mB 19) 17 = .ok (.iload_n 3, 1) := by decide +kernel
set_option maxRecDepth 100000 in
theorem d_19_18 : decode (mB 19) 18 = .ok (.invokestatic 93, 3) := by decide +kernel
set_option maxRecDepth 100000 in
theorem d_19_21 : decode (mB 19) 21 = .ok (.ifCond .eq 12, 3) := by decide +kernel
set_option maxRecDepth 100000 in
theorem d_19_24 : decode (mB 19) 24 = .ok (.iload_n 2, 1) := by decide +kernel
set_option maxRecDepth 100000 in
theorem d_19_25 : decode (mB 19) 25 = .ok (.iload_n 3, 1) := by decide +kernel
set_option maxRecDepth 100000 in
theorem d_19_26 : decode (mB 19) 26 = .ok (.if_icmp .gt 7, 3) := by decide +kernel
set_option maxRecDepth 100000 in
theorem d_19_29 : decode (mB 19) 29 = .ok (.iconst 1, 1) := by decide +kernel
set_option maxRecDepth 100000 in
theorem d_19_30 : decode (mB 19) 30 = .ok (.goto 4, 3) := by decide +kernel
set_option maxRecDepth 100000 in
theorem d_19_33 : decode (mB 19) 33 = .ok (.iconst 0, 1) := by decide +kernel
set_option maxRecDepth 100000 in
theorem d_19_34 : decode (mB 19) 34 = .ok (.invokestatic 62, 3) := by decide +kernel
set_option maxRecDepth 100000 in
theorem d_19_37 : decode (mB 19) 37 = .ok (.aload_n 0, 1) := by decide +kernel
set_option maxRecDepth 100000 in
theorem d_19_38 : decode (mB 19) 38 = .ok (.getfield 12, 3) := by decide +kernel
set_option maxRecDepth 100000 in
theorem d_19_41 : decode (mB 19) 41 = .ok (.getfield 97, 3) := by decide +kernel
set_option maxRecDepth 100000 in
theorem d_19_44 : decode (mB 19) 44 = .ok (.bipush 6, 2) := by decide +kernel
set_option maxRecDepth 100000 in
theorem d_19_46 : decode (mB 19) 46 = .ok (.if_icmp .ge 7, 3) := by decide +kernel
set_option maxRecDepth 100000 in
theorem d_19_49 : decode (mB 19) 49 = .ok (.iconst 1, 1) := by decide +kernel
set_option maxRecDepth 100000 in
theorem d_19_50 : decode (mB 19) 50 = .ok (.goto 4, 3) := by decide +kernel
set_option maxRecDepth 100000 in
theorem d_19_54 : decode (mB 19) 54 = .ok (.invokestatic 70, 3) := by decide +kernel
set_option maxRecDepth 100000 in
theorem d_19_57 : decode (mB 19) 57 = .ok (.aload_n 0, 1) := by decide +kernel
set_option maxRecDepth 100000 in
theorem d_19_58 : decode (mB 19) 58 = .ok (.getfield 12, 3) := by decide +kernel
set_option maxRecDepth 100000 in
theorem d_19_61 : decode (mB 19) 61 = .ok (.getfield 100, 3) := by decide +kernel
set_option maxRecDepth 100000 in
theorem d_19_64 : decode (mB 19) 64 = .ok (.aload_n 0, 1) := by decide +kernel
set_option maxRecDepth 100000 in
theorem d_19_65 : decode (mB 19) 65 = .ok (.getfield 12, 3) := by decide +kernel
set_option maxRecDepth 100000 in
theorem d_19_68 : decode (mB 19) 68 = .ok (.getfield 97, 3) := by decide +kernel
set_option maxRecDepth 100000 in
theorem d_19_71 : decode (mB 19) 71 = .ok (.new 104, 3) := by decide +kernel
set_option maxRecDepth 100000 in
theorem d_19_74 : decode (mB 19) 74 = .ok (.dup, 1) := by decide +kernel
set_option maxRecDepth 100000 in
theorem d_19_75 : decode (mB 19) 75 = .ok (.iload_n 1, 1) := by decide +kernel
set_option maxRecDepth 100000 in
theorem d_19_76 : decode (mB 19) 76 = .ok (.iload_n 2, 1) := by decide +kernel
set_option maxRecDepth 100000 in
theorem d_19_77 : decode (mB 19) 77 = .ok (.iload_n 3, 1) := by decide +kernel
set_option maxRecDepth 100000 in
theorem d_19_78 : decode (mB 19) 78 = .ok (.invokespecial 106, 3) := by decide +kernel
set_option maxRecDepth 100000 in
theorem d_19_81 : decode (mB 19) 81 = .ok (.aastore, 1) := by decide +kernel
set_option maxRecDepth 100000 in
theorem d_19_82 : decode (mB 19) 82 = .ok (.aload_n 0, 1) := by decide +kernel
set_option maxRecDepth 100000 in
theorem d_19_83 : decode (mB 19) 83 = .ok (.getfield 12, 3) := by decide +kernel
set_option maxRecDepth 100000 in
theorem d_19_86 : decode (mB 19) 86 = .ok (.dup, 1) := by decide +kernel
set_option maxRecDepth 100000 in
theorem d_19_87 : decode (mB 19) 87 = .ok (.getfield 97, 3) := by decide +kernel
set_option maxRecDepth 100000 in
theorem d_19_90 : decode (mB 19) 90 = .ok (.iconst 1, 1) := by decide +kernel
set_option maxRecDepth 100000 in
theorem d_19_91 : decode (mB 19) 91 = .ok (.iadd, 1) := by decide +kernel
set_option maxRecDepth 100000 in
theorem d_19_92 : decode (mB 19) 92 = .ok (.putfield 97, 3) := by decide +kernel
set_option maxRecDepth 100000 in
theorem d_19_95 : decode (mB 19) 95 = .ok (.aload_n 0, 1) := by decide +kernel
set_option maxRecDepth 100000 in
theorem d_19_96 : decode (mB 19) 96 = .ok (.getfield 12, 3) := by decide +kernel
set_option maxRecDepth 100000 in
theorem d_19_99 : decode (mB 19) 99 = .ok (.getfield 97, 3) := by decide +kernel
set_option maxRecDepth 100000 in
theorem d_19_102 : decode (mB 19) 102 = .ok (.iconst 1, 1) := by decide +kernel
set_option maxRecDepth 100000 in
theorem d_19_103 : decode (mB 19) 103 = .ok (.isub, 1) := by decide +kernel
set_option maxRecDepth 100000 in
theorem d_19_104 : decode (mB 19) 104 = .ok (.ireturn, 1) := by decide +kernel
set_option maxRecDepth 100000 in
theorem c_20_107 : csP 20 107 9 2 := ⟨cd_9, okk_w (k := 407) (by decide +kernel), okk_w (k := 408) (by decide +kernel), by decide +kernel, by decide +kernel⟩
set_option maxRecDepth 100000 in
theorem d_20_0 : decode (mB 20) 0 = .ok (.iload_n 1, 1) := by decide +kernel
set_option maxRecDepth 100000 in
theorem d_20_1 : decode (mB 20) 1 = .ok (.aload_n 0, 1) := by decide +kernel
set_option maxRecDepth 100000 in
theorem d_20_2 : decode (mB 20) 2 = .ok (.getfield 12, 3) := by decide +kernel
set_option maxRecDepth 100000 in
theorem d_20_5 : decode (mB 20) 5 = .ok (.getfield 97, 3) := by decide +kernel
set_option maxRecDepth 100000 in
theorem d_20_8 : decode (mB 20) 8 = .ok (.invokestatic 107, 3) := by decide +kernel
set_option maxRecDepth 100000 in
theorem c_21_107 : csP 21 107 9 2 := ⟨cd_9, okk_w (k := 407) (by decide +kernel), okk_w (k := 408) (by decide +kernel), by decide +kernel, by decide +kernel⟩
set_option maxRecDepth 100000 in
theorem d_21_0 : decode (mB 21) 0 = .ok (.iload_n 1, 1) := by decide +kernel
set_option maxRecDepth 100000 in
theorem d_21_1 : decode (mB 21) 1 = .ok (.aload_n 0, 1) := by decide +kernel
set_option maxRecDepth 100000 in
theorem d_21_2 : decode (mB 21) 2 = .ok (.getfield 12, 3) := by decide +kernel
set_option maxRecDepth 100000 in
theorem d_21_5 : decode (mB 21) 5 = .ok (.getfield 97, 3) := by decide +kernel
set_option maxRecDepth 100000 in
theorem d_21_8 : decode (mB 21) 8 = .ok (.invokestatic 107, 3) := by decide +kernel
set_option maxRecDepth 100000 in
theorem c_22_107 : csP 22 107 9 2 := ⟨cd_9, okk_w (k := 407) (by decide +kernel), okk_w (k := 408) (by decide +kernel), by decide +kernel, by decide +kernel⟩
set_option maxRecDepth 100000 in
theorem d_22_0 : decode (mB 22) 0 = .ok (.iload_n 1, 1) := by decide +kernel
set_option maxRecDepth 100000 in
theorem d_22_1 : decode (mB 22) 1 = .ok (.aload_n 0, 1) := by decide +kernel
set_option maxRecDepth 100000 in
theorem d_22_2 : decode (mB 22) 2 = .ok (.getfield 12, 3) := by decide +kernel
set_option maxRecDepth 100000 in
theorem d_22_5 : decode (mB 22) 5 = .ok (.getfield 97, 3) := by decide +kernel
set_option maxRecDepth 100000 in
theorem d_22_8 : decode (mB 22) 8 = .ok (.invokestatic 107, 3) := by decide +kernel
set_option maxRecDepth 100000 in
theorem c_23_135 : cvP 23 135 8 1 := ⟨cd_8, okk_w (k := 403) (by decide +kernel), okk_w (k := 405) (by decide +kernel), okk_w (k := 1) (by decide +kernel), by decide +kernel, by decide +kernel⟩
set_option maxRecDepth 100000 in
theorem d_23_0 : decode (mB 23) 0 = .ok (.aload_n 0, 1) := by decide +kernel
set_option maxRecDepth 100000 in
theorem d_23_1 : decode (mB 23) 1 = .ok (.iload_n 1, 1) := by decide +kernel
set_option maxRecDepth 100000 in
theorem d_23_2 : decode (mB 23) 2 = .ok (.invokevirtual 135, 3) := by decide +kernel
set_option maxRecDepth 100000 in
theorem c_24_135 : cvP 24 135 8 1 := ⟨cd_8, okk_w (k := 403) (by decide +kernel), okk_w (k := 405) (by decide +kernel), okk_w (k := 1) (by decide +kernel), by decide +kernel, by decide +kernel⟩
set_option maxRecDepth 100000 in
theorem d_24_0 : decode (mB 24) 0 = .ok (.aload_n 0, 1) := by decide +kernel
set_option maxRecDepth 100000 in
theorem d_24_1 : decode (mB 24) 1 = .ok (.iload_n 1, 1) := by decide +kernel
set_option maxRecDepth 100000 in
theorem d_24_2 : decode (mB 24) 2 = .ok (.invokevirtual 135, 3) := by decide +kernel
set_option maxRecDepth 100000 in
theorem c_25_135 : cvP 25 135 8 1 := ⟨cd_8, okk_w (k := 403) (by decide +kernel), okk_w (k := 405) (by decide +kernel), okk_w (k := 1) (by decide +kernel), by decide +kernel, by decide +kernel⟩
set_option maxRecDepth 100000 in
theorem d_25_0 : decode (mB 25) 0 = .ok (.aload_n 0, 1) := by decide +kernel
set_option maxRecDepth 100000 in
theorem d_25_1 : decode (mB 25) 1 = .ok (.iload_n 1, 1) := by decide +kernel
set_option maxRecDepth 100000 in
theorem d_25_2 : decode (mB 25) 2 = .ok (.invokevirtual 135, 3) := by decide +kernel
set_option maxRecDepth 100000 in
theorem c_26_135 : cvP 26 135 8 1 := ⟨cd_8, okk_w (k := 403) (by decide +kernel), okk_w (k := 405) (by decide +kernel), okk_w (k := 1) (by decide +kernel), by decide +kernel, by decide +kernel⟩
set_option maxRecDepth 100000 in
theorem d_26_0 : decode (mB 26) 0 = .ok (.aload_n 0, 1) := by decide +kernel
set_option maxRecDepth 100000 in
theorem d_26_1 : decode (mB 26) 1 = .ok (.iload_n 1, 1) := by decide +kernel
set_option maxRecDepth 100000 in
theorem d_26_2 : decode (mB 26) 2 = .ok (.invokevirtual 135, 3) := by decide +kernel
set_option maxRecDepth 100000 in
theorem c_27_135 : cvP 27 135 8 1 := ⟨cd_8, okk_w (k := 403) (by decide +kernel), okk_w (k := 405) (by decide +kernel), okk_w (k := 1) (by decide +kernel), by decide +kernel, by decide +kernel⟩
set_option maxRecDepth 100000 in
theorem d_27_0 : decode (mB 27) 0 = .ok (.aload_n 0, 1) := by decide +kernel
set_option maxRecDepth 100000 in
theorem d_27_1 : decode (mB 27) 1 = .ok (.iload_n 1, 1) := by decide +kernel
set_option maxRecDepth 100000 in
theorem d_27_2 : decode (mB 27) 2 = .ok (.invokevirtual 135, 3) := by decide +kernel
set_option maxRecDepth 100000 in
theorem c_28_77 : cvP 28 77 17 1 := ⟨cd_17, okk_w (k := 568) (by decide +kernel), okk_w (k := 570) (by decide +kernel), okk_w (k := 4) (by decide +kernel), by decide +kernel, by decide +kernel⟩
set_option maxRecDepth 100000 in
theorem d_28_0 : decode (mB 28) 0 = .ok (.aload_n 0, 1) := by decide +kernel
set_option maxRecDepth 100000 in
theorem d_28_1 : decode (mB 28) 1 = .ok (.iload_n 1, 1) := by decide +kernel
set_option maxRecDepth 100000 in
theorem d_28_2 : decode (mB 28) 2 = .ok (.invokevirtual 77, 3) := by decide +kernel
set_option maxRecDepth 100000 in
theorem c_30_77 : cvP 30 77 17 1 := ⟨cd_17, okk_w (k := 568) (by decide +kernel), okk_w (k := 570) (by decide +kernel), okk_w (k := 4) (by decide +kernel), by decide +kernel, by decide +kernel⟩
set_option maxRecDepth 100000 in
theorem d_30_0 : decode (mB 30) 0 = .ok (.aload_n 0, 1) := by decide +kernel
set_option maxRecDepth 100000 in
theorem d_30_1 : decode (mB 30) 1 = .ok (.iload_n 1, 1) := by decide +kernel
set_option maxRecDepth 100000 in
theorem d_30_2 : decode (mB 30) 2 = .ok (.invokevirtual 77, 3) := by decide +kernel
set_option maxRecDepth 100000 in
theorem c_31_77 : cvP 31 77 17 1 := ⟨cd_17, okk_w (k := 568) (by decide +kernel), okk_w (k := 570) (by decide +kernel), okk_w (k := 4) (by decide +kernel), by decide +kernel, by decide +kernel⟩
set_option maxRecDepth 100000 in
theorem d_31_0 : decode (mB 31) 0 = .ok (.aload_n 0, 1) := by decide +kernel
set_option maxRecDepth 100000 in
theorem d_31_1 : decode (mB 31) 1 = .ok (.iload_n 1, 1) := by decide +kernel
set_option maxRecDepth 100000 in
theorem d_31_2 : decode (mB 31) 2 = .ok (.invokevirtual 77, 3) := by decide +kernel
set_option maxRecDepth 100000 in
theorem c_32_77 : cvP 32 77 17 1 := ⟨cd_17, okk_w (k := 568) (by decide +kernel), okk_w (k := 570) (by decide +kernel), okk_w (k := 4) (by decide +kernel), by decide +kernel, by decide +kernel⟩
set_option maxRecDepth 100000 in
theorem d_32_0 : decode (mB 32) 0 = .ok (.aload_n 0, 1) := by decide +kernel
set_option maxRecDepth 100000 in
theorem d_32_1 : decode (mB 32) 1 = .ok (.iload_n 1, 1) := by decide +kernel
set_option maxRecDepth 100000 in
theorem d_32_2 : decode (mB 32) 2 = .ok (.invokevirtual 77, 3) := by decide +kernel
set_option maxRecDepth 100000 in
theorem c_34_77 : cvP 34 77 17 1 := ⟨cd_17, okk_w (k := 568) (by decide +kernel), okk_w (k := 570) (by decide +kernel), okk_w (k := 4) (by decide +kernel), by decide +kernel, by decide +kernel⟩
set_option maxRecDepth 100000 in
theorem d_34_0 : decode (mB 34) 0 = .ok (.aload_n 0, 1) := by decide +kernel
set_option maxRecDepth 100000 in
theorem d_34_1 : decode (mB 34) 1 = .ok (.iload_n 1, 1) := by decide +kernel
set_option maxRecDepth 100000 in
theorem d_34_2 : decode (mB 34) 2 = .ok (.invokevirtual 77, 3) := by decide +kernel
set_option maxRecDepth 100000 in
theorem c_35_77 : cvP 35 77 17 1 := ⟨cd_17, okk_w (k := 568) (by decide +kernel), okk_w (k := 570) (by decide +kernel), okk_w (k := 4) (by decide +kernel), by decide +kernel, by decide +kernel⟩
set_option maxRecDepth 100000 in
theorem d_35_0 : decode (mB 35) 0 = .ok (.aload_n 0, 1) := by decide +kernel
set_option maxRecDepth 100000 in
theorem d_35_1 : decode (mB 35) 1 = .ok (.iload_n 1, 1) := by decide +kernel
set_option maxRecDepth 100000 in
theorem d_35_2 : decode (mB 35) 2 = .ok (.invokevirtual 77, 3) := by decide +kernel
set_option maxRecDepth 100000 in
theorem c_36_77 : cvP 36 77 17 1 := ⟨cd_17, okk_w (k := 568) (by decide +kernel), okk_w (k := 570) (by decide +kernel), okk_w (k := 4) (by decide +kernel), by decide +kernel, by decide +kernel⟩
set_option maxRecDepth 100000 in
theorem d_36_0 : decode (mB 36) 0 = .ok (.aload_n 0, 1) := by decide +kernel
set_option maxRecDepth 100000 in
theorem d_36_1 : decode (mB 36) 1 = .ok (.iload_n 1, 1) := by decide +kernel
set_option maxRecDepth 100000 in
theorem d_36_2 : decode (mB 36) 2 = .ok (.invokevirtual 77, 3) := by decide +kernel
set_option maxRecDepth 100000 in
theorem c_37_77 : cvP 37 77 17 1 := ⟨cd_17, okk_w (k := 568) (by decide +kernel), okk_w (k := 570) (by decide +kernel), okk_w (k := 4) (by decide +kernel), by decide +kernel, by decide +kernel⟩
set_option maxRecDepth 100000 in
theorem d_37_0 : decode (mB 37) 0 = .ok (.aload_n 0, 1) := by decide +kernel
set_option maxRecDepth 100000 in
theorem d_37_1 : decode (mB 37) 1 = .ok (.iload_n 1, 1) := by decide +kernel
set_option maxRecDepth 100000 in
theorem d_37_2 : decode (mB 37) 2 = .ok (.invokevirtual 77, 3) := by decide +kernel
set_option maxRecDepth 100000 in
theorem c_38_77 : cvP 38 77 17 1 := ⟨cd_17, okk_w (k := 568) (by decide +kernel), okk_w (k := 570) (by decide +kernel), okk_w (k := 4) (by decide +kernel), by decide +kernel, by decide +kernel⟩
set_option maxRecDepth 100000 in
theorem d_38_0 : decode (mB 38) 0 = .ok (.aload_n 0, 1) := by decide +kernel
set_option maxRecDepth 100000 in
theorem d_38_1 : decode (mB 38) 1 = .ok (.iload_n 1, 1) := by decide +kernel
set_option maxRecDepth 100000 in
theorem d_38_2 : decode (mB 38) 2 = .ok (.invokevirtual 77, 3) := by decide +kernel
set_option maxRecDepth 100000 in
theorem c_39_77 : cvP 39 77 17 1 := ⟨cd_17, okk_w (k := 568) (by decide +kernel), okk_w (k := 570) (by decide +kernel), okk_w (k := 4) (by decide +kernel), by decide +kernel, by decide +kernel⟩
set_option maxRecDepth 100000 in
theorem d_39_0 : decode (mB 39) 0 = .ok (.aload_n 0, 1) := by decide +kernel
set_option maxRecDepth 100000 in
theorem d_39_1 : decode (mB 39) 1 = .ok (.iload_n 1, 1) := by decide +kernel
set_option maxRecDepth 100000 in
theorem d_39_2 : decode (mB 39) 2 = .ok (.invokevirtual 77, 3) := by decide +kernel
set_option maxRecDepth 100000 in
theorem c_40_224 : cvP 40 224 41 1 := ⟨cd_41, okk_w (k := 1071) (by decide +kernel), okk_w (k := 1073) (by decide +kernel), okk_w (k := 30) (by decide +kernel), by decide +kernel, by decide +kernel⟩
set_option maxRecDepth 100000 in
theorem d_40_0 : decode (mB 40) 0 = .ok (.aload_n 0, 1) := by decide +kernel
set_option maxRecDepth 100000 in
theorem d_40_1 : decode (mB 40) 1 = .ok (.iload_n 1, 1) := by decide +kernel
set_option maxRecDepth 100000 in
theorem d_40_2 : decode (mB 40) 2 = .ok (.invokevirtual 224, 3) := by decide +kernel
set_option maxRecDepth 100000 in
theorem c_41_70 : csP 41 70 15 1 := ⟨cd_15, okk_w (k := 541) (by decide +kernel), okk_w (k := 542) (by decide +kernel), by decide +kernel, by decide +kernel⟩
set_option maxRecDepth 100000 in
theorem d_41_0 : decode (mB 41) 0 = .ok (.aload_n 0, 1) := by decide +kernel
set_option maxRecDepth 100000 in
theorem d_41_1 : decode (mB 41) 1 = .ok (.getfield 54, 3) := by decide +kernel
set_option maxRecDepth 100000 in
theorem d_41_4 : decode (mB 41) 4 = .ok (.getfield 219, 3) := by decide +kernel
set_option maxRecDepth 100000 in
theorem d_41_7 : decode (mB 41) 7 = .ok (.invokestatic 70, 3) := by decide +kernel
set_option maxRecDepth 100000 in
theorem c_42_224 : cvP 42 224 41 1 := ⟨cd_41, okk_w (k := 1071) (by decide +kernel), okk_w (k := 1073) (by decide +kernel), okk_w (k := 30) (by decide +kernel), by decide +kernel, by decide +kernel⟩
set_option maxRecDepth 100000 in
theorem d_42_0 : decode (mB 42) 0 = .ok (.aload_n 0, 1) := by decide +kernel
set_option maxRecDepth 100000 in
theorem d_42_1 : decode (mB 42) 1 = .ok (.iload_n 1, 1) := by decide +kernel
set_option maxRecDepth 100000 in
theorem d_42_2 : decode (mB 42) 2 = .ok (.invokevirtual 224, 3) := by decide +kernel
set_option maxRecDepth 100000 in
theorem c_43_224 : cvP 43 224 41 1 := ⟨cd_41, okk_w (k := 1071) (by decide +kernel), okk_w (k := 1073) (by decide +kernel), okk_w (k := 30) (by decide +kernel), by decide +kernel, by decide +kernel⟩
set_option maxRecDepth 100000 in
theorem d_43_0 : decode (mB 43) 0 = .ok (.aload_n 0, 1) := by decide +kernel
set_option maxRecDepth 100000 in
theorem d_43_1 : decode (mB 43) 1 = .ok (.iload_n 1, 1) := by decide +kernel
set_option maxRecDepth 100000 in
theorem d_43_2 : decode (mB 43) 2 = .ok (.invokevirtual 224, 3) := by decide +kernel
set_option maxRecDepth 100000 in
theorem c_44_224 : cvP 44 224 41 1 := ⟨cd_41, okk_w (k := 1071) (by decide +kernel), okk_w (k := 1073) (by decide +kernel), okk_w (k := 30) (by decide +kernel), by decide +kernel, by decide +kernel⟩
set_option maxRecDepth 100000 in
theorem d_44_0 : decode (mB 44) 0 = .ok (.aload_n 0, 1) := by decide +kernel
set_option maxRecDepth 100000 in
theorem d_44_1 : decode (mB 44) 1 = .ok (.iload_n 1, 1) := by decide +kernel
set_option maxRecDepth 100000 in
theorem d_44_2 : decode (mB 44) 2 = .ok (.invokevirtual 224, 3) := by decide +kernel
set_option maxRecDepth 100000 in
theorem c_45_70 : csP 45 70 15 1 := ⟨cd_15, okk_w (k := 541) (by decide +kernel), okk_w (k := 542) (by decide +kernel), by decide +kernel, by decide +kernel⟩
set_option maxRecDepth 100000 in
theorem d_45_0 : decode (mB 45) 0 = .ok (.aload_n 0, 1) := by decide +kernel
set_option maxRecDepth 100000 in
theorem d_45_1 : decode (mB 45) 1 = .ok (.getfield 54, 3) := by decide +kernel
set_option maxRecDepth 100000 in
theorem d_45_4 : decode (mB 45) 4 = .ok (.getfield 219, 3) := by decide +kernel
set_option maxRecDepth 100000 in
theorem d_45_7 : decode (mB 45) 7 = .ok (.invokestatic 70, 3) := by decide +kernel
set_option maxRecDepth 100000 in
theorem c_46_70 : csP 46 70 15 1 := ⟨cd_15, okk_w (k := 541) (by decide +kernel), okk_w (k := 542) (by decide +kernel), by decide +kernel, by decide +kernel⟩
set_option maxRecDepth 100000 in
theorem d_46_0 : decode (mB 46) 0 = .ok (.aload_n 0, 1) := by decide +kernel
set_option maxRecDepth 100000 in
theorem d_46_1 : decode (mB 46) 1 = .ok (.getfield 54, 3) := by decide +kernel
set_option maxRecDepth 100000 in
theorem d_46_4 : decode (mB 46) 4 = .ok (.getfield 219, 3) := by decide +kernel
set_option maxRecDepth 100000 in
theorem d_46_7 : decode (mB 46) 7 = .ok (.invokestatic 70, 3) := by decide +kernel
set_option maxRecDepth 100000 in
theorem c_47_70 : csP 47 70 15 1 := ⟨cd_15, okk_w (k := 541) (by decide +kernel), okk_w (k := 542) (by decide +kernel), by decide +kernel, by decide +kernel⟩
set_option maxRecDepth 100000 in
theorem d_47_0 : decode (mB 47) 0 = .ok (.aload_n 0, 1) := by decide +kernel
set_option maxRecDepth 100000 in
theorem d_47_1 : decode (mB 47) 1 = .ok (.getfield 54, 3) := by decide +kernel
set_option maxRecDepth 100000 in
theorem d_47_4 : decode (mB 47) 4 = .ok (.getfield 219, 3) := by decide +kernel
set_option maxRecDepth 100000 in
theorem d_47_7 : decode (mB 47) 7 = .ok (.invokestatic 70, 3) := by decide +kernel
set_option maxRecDepth 100000 in
theorem c_48_70 : csP 48 70 15 1 := ⟨cd_15, okk_w (k := 541) (by decide +kernel), okk_w (k := 542) (by decide +kernel), by decide +kernel, by decide +kernel⟩
set_option maxRecDepth 100000 in
theorem d_48_0 : decode (mB 48) 0 = .ok (.aload_n 0, 1) := by decide +kernel
set_option maxRecDepth 100000 in
theorem d_48_1 : decode (mB 48) 1 = .ok (.getfield 54, 3) := by decide +kernel
set_option maxRecDepth 100000 in
theorem d_48_4 : decode (mB 48) 4 = .ok (.getfield 219, 3) := by decide +kernel
set_option maxRecDepth 100000 in
theorem d_48_7 : decode (mB 48) 7 = .ok (.invokestatic 70, 3) := by decide +kernel
set_option maxRecDepth 100000 in
theorem oi_1 : okw (.methodLink "WhistleStopModel" 1 Lib.objectInit) := okk_w (k := 1129) (by decide +kernel)
set_option maxRecDepth 100000 in
theorem fl_1_9 : flP "WhistleStopModel" 9 1 2 := ⟨_, rfl, by decide, okk_w (k := 1133) (by decide +kernel)⟩
set_option maxRecDepth 100000 in
theorem fl_1_13 : flP "WhistleStopModel" 13 1 4 := ⟨_, rfl, by decide, okk_w (k := 1135) (by decide +kernel)⟩
set_option maxRecDepth 100000 in
theorem fl_1_16 : flP "WhistleStopModel" 16 1 5 := ⟨_, rfl, by decide, okk_w (k := 1136) (by decide +kernel)⟩
set_option maxRecDepth 100000 in
theorem fl_1_19 : flP "WhistleStopModel" 19 1 6 := ⟨_, rfl, by decide, okk_w (k := 1137) (by decide +kernel)⟩
set_option maxRecDepth 100000 in
theorem fl_1_22 : flP "WhistleStopModel" 22 1 8 := ⟨_, rfl, by decide, okk_w (k := 1139) (by decide +kernel)⟩
set_option maxRecDepth 100000 in
theorem fl_1_25 : flP "WhistleStopModel" 25 1 9 := ⟨_, rfl, by decide, okk_w (k := 1140) (by decide +kernel)⟩
set_option maxRecDepth 100000 in
theorem fl_1_28 : flP "WhistleStopModel" 28 1 10 := ⟨_, rfl, by decide, okk_w (k := 1141) (by decide +kernel)⟩
set_option maxRecDepth 100000 in
theorem cl_1_31 : okw (.classLink "WhistleStopModel" 31 "[[I") := okk_w (k := 1130) (by decide +kernel)
set_option maxRecDepth 100000 in
theorem fl_1_33 : flP "WhistleStopModel" 33 1 11 := ⟨_, rfl, by decide, okk_w (k := 1142) (by decide +kernel)⟩
set_option maxRecDepth 100000 in
theorem fl_1_36 : flP "WhistleStopModel" 36 1 13 := ⟨_, rfl, by decide, okk_w (k := 1144) (by decide +kernel)⟩
set_option maxRecDepth 100000 in
theorem fl_1_39 : flP "WhistleStopModel" 39 1 14 := ⟨_, rfl, by decide, okk_w (k := 1145) (by decide +kernel)⟩
set_option maxRecDepth 100000 in
theorem fl_1_42 : flP "WhistleStopModel" 42 1 15 := ⟨_, rfl, by decide, okk_w (k := 1146) (by decide +kernel)⟩
set_option maxRecDepth 100000 in
theorem fl_1_45 : flP "WhistleStopModel" 45 1 16 := ⟨_, rfl, by decide, okk_w (k := 1147) (by decide +kernel)⟩
set_option maxRecDepth 100000 in
theorem fl_1_48 : flP "WhistleStopModel" 48 1 17 := ⟨_, rfl, by decide, okk_w (k := 1148) (by decide +kernel)⟩
set_option maxRecDepth 100000 in
theorem fl_1_51 : flP "WhistleStopModel" 51 1 18 := ⟨_, rfl, by decide, okk_w (k := 1149) (by decide +kernel)⟩
set_option maxRecDepth 100000 in
theorem fl_1_54 : flP "WhistleStopModel" 54 1 19 := ⟨_, rfl, by decide, okk_w (k := 1150) (by decide +kernel)⟩
set_option maxRecDepth 100000 in
theorem fl_1_57 : flP "WhistleStopModel" 57 1 20 := ⟨_, rfl, by decide, okk_w (k := 1151) (by decide +kernel)⟩
set_option maxRecDepth 100000 in
theorem fl_1_61 : flP "WhistleStopModel" 61 1 23 := ⟨_, rfl, by decide, okk_w (k := 1154) (by decide +kernel)⟩
set_option maxRecDepth 100000 in
theorem fl_1_64 : flP "WhistleStopModel" 64 1 27 := ⟨_, rfl, by decide, okk_w (k := 1158) (by decide +kernel)⟩
set_option maxRecDepth 100000 in
theorem fl_1_67 : flP "WhistleStopModel" 67 1 28 := ⟨_, rfl, by decide, okk_w (k := 1159) (by decide +kernel)⟩
set_option maxRecDepth 100000 in
theorem fl_1_70 : flP "WhistleStopModel" 70 1 29 := ⟨_, rfl, by decide, okk_w (k := 1160) (by decide +kernel)⟩
set_option maxRecDepth 100000 in
theorem fl_1_73 : flP "WhistleStopModel" 73 1 30 := ⟨_, rfl, by decide, okk_w (k := 1161) (by decide +kernel)⟩
set_option maxRecDepth 100000 in
theorem fl_1_76 : flP "WhistleStopModel" 76 1 31 := ⟨_, rfl, by decide, okk_w (k := 1162) (by decide +kernel)⟩
set_option maxRecDepth 100000 in
theorem fl_1_79 : flP "WhistleStopModel" 79 1 32 := ⟨_, rfl, by decide, okk_w (k := 1163) (by decide +kernel)⟩
set_option maxRecDepth 100000 in
theorem fl_1_82 : flP "WhistleStopModel" 82 1 33 := ⟨_, rfl, by decide, okk_w (k := 1164) (by decide +kernel)⟩
set_option maxRecDepth 100000 in
theorem fl_1_85 : flP "WhistleStopModel" 85 1 34 := ⟨_, rfl, by decide, okk_w (k := 1165) (by decide +kernel)⟩
set_option maxRecDepth 100000 in
theorem d_49_0 : decode (mB 49) 0 = .ok (.aload_n 0, 1) := by decide +kernel
set_option maxRecDepth 100000 in
theorem d_49_1 : decode (mB 49) 1 = .ok (.invokespecial 1, 3) := by decide +kernel
set_option maxRecDepth 100000 in
theorem d_49_4 : decode (mB 49) 4 = .ok (.aload_n 0, 1) := by decide +kernel
set_option maxRecDepth 100000 in
theorem d_49_5 : decode (mB 49) 5 = .ok (.bipush 16, 2) := by decide +kernel
set_option maxRecDepth 100000 in
theorem d_49_7 : decode (mB 49) 7 = .ok (.newarray .int, 2) := by decide +kernel
set_option maxRecDepth 100000 in
theorem d_49_9 : decode (mB 49) 9 = .ok (.putfield 9, 3) := by decide +kernel
set_option maxRecDepth 100000 in
theorem d_49_12 : decode (mB 49) 12 = .ok (.aload_n 0, 1) := by decide +kernel
set_option maxRecDepth 100000 in
theorem d_49_13 : decode (mB 49) 13 = .ok (.bipush 20, 2) := by decide +kernel
set_option maxRecDepth 100000 in
theorem d_49_15 : decode (mB 49) 15 = .ok (.newarray .int, 2) := by decide +kernel
set_option maxRecDepth 100000 in
theorem d_49_17 : decode (mB 49) 17 = .ok (.putfield 13, 3) := by decide +kernel
set_option maxRecDepth 100000 in
theorem d_49_20 : decode (mB 49) 20 = .ok (.aload_n 0, 1) := by decide +kernel
set_option maxRecDepth 100000 in
theorem d_49_21 : decode (mB 49) 21 = .ok (.bipush 20, 2) := by decide +kernel
set_option maxRecDepth 100000 in
theorem d_49_23 : decode (mB 49) 23 = .ok (.newarray .int, 2) := by decide +kernel
set_option maxRecDepth 100000 in
theorem d_49_25 : decode (mB 49) 25 = .ok (.putfield 16, 3) := by decide +kernel
set_option maxRecDepth 100000 in
theorem d_49_28 : decode (mB 49) 28 = .ok (.aload_n 0, 1) := by decide +kernel
set_option maxRecDepth 100000 in
theorem d_49_29 : decode (mB 49) 29 = .ok (.bipush 20, 2) := by decide +kernel
set_option maxRecDepth 100000 in
theorem d_49_31 : decode (mB 49) 31 = .ok (.newarray .int, 2) := by decide +kernel
set_option maxRecDepth 100000 in
theorem d_49_33 : decode (mB 49) 33 = .ok (.putfield 19, 3) := by decide +kernel
set_option maxRecDepth 100000 in
theorem d_49_36 : decode (mB 49) 36 = .ok (.aload_n 0, 1) := by decide +kernel
set_option maxRecDepth 100000 in
theorem d_49_37 : decode (mB 49) 37 = .ok (.bipush 6, 2) := by decide +kernel
set_option maxRecDepth 100000 in
theorem d_49_39 : decode (mB 49) 39 = .ok (.newarray .int, 2) := by decide +kernel
set_option maxRecDepth 100000 in
theorem d_49_41 : decode (mB 49) 41 = .ok (.putfield 22, 3) := by decide +kernel
set_option maxRecDepth 100000 in
theorem d_49_44 : decode (mB 49) 44 = .ok (.aload_n 0, 1) := by decide +kernel
set_option maxRecDepth 100000 in
theorem d_49_45 : decode (mB 49) 45 = .ok (.bipush 6, 2) := by decide +kernel
set_option maxRecDepth 100000 in
theorem d_49_47 : decode (mB 49) 47 = .ok (.newarray .int, 2) := by decide +kernel
set_option maxRecDepth 100000 in
theorem d_49_49 : decode (mB 49) 49 = .ok (.putfield 25, 3) := by decide +kernel
set_option maxRecDepth 100000 in
theorem d_49_52 : decode (mB 49) 52 = .ok (.aload_n 0, 1) := by decide +kernel
set_option maxRecDepth 100000 in
theorem d_49_53 : decode (mB 49) 53 = .ok (.bipush 6, 2) := by decide +kernel
set_option maxRecDepth 100000 in
theorem d_49_55 : decode (mB 49) 55 = .ok (.newarray .int, 2) := by decide +kernel
set_option maxRecDepth 100000 in
theorem d_49_57 : decode (mB 49) 57 = .ok (.putfield 28, 3) := by decide +kernel
set_option maxRecDepth 100000 in
theorem d_49_60 : decode (mB 49) 60 = .ok (.aload_n 0, 1) := by decide +kernel
set_option maxRecDepth 100000 in
theorem d_49_61 : decode (mB 49) 61 = .ok (.bipush 6, 2) := by decide +kernel
set_option maxRecDepth 100000 in
theorem d_49_63 : decode (mB 49) 63 = .ok (.sipush 366, 3) := by decide +kernel
set_option maxRecDepth 100000 in
theorem d_49_66 : decode (mB 49) 66 = .ok (.multianewarray 31 2, 4) := by decide +kernel
set_option maxRecDepth 100000 in
theorem d_49_70 : decode (mB 49) 70 = .ok (.putfield 33, 3) := by decide +kernel
set_option maxRecDepth 100000 in
theorem d_49_73 : decode (mB 49) 73 = .ok (.aload_n 0, 1) := by decide +kernel
set_option maxRecDepth 100000 in
theorem d_49_74 : decode (mB 49) 74 = .ok (.bipush 24, 2) := by decide +kernel
set_option maxRecDepth 100000 in
theorem d_49_76 : decode (mB 49) 76 = .ok (.newarray .int, 2) := by decide +kernel
set_option maxRecDepth 100000 in
theorem d_49_78 : decode (mB 49) 78 = .ok (.putfield 36, 3) := by decide +kernel
set_option maxRecDepth 100000 in
theorem d_49_81 : decode (mB 49) 81 = .ok (.aload_n 0, 1) := by decide +kernel
set_option maxRecDepth 100000 in
theorem d_49_82 : decode (mB 49) 82 = .ok (.bipush 24, 2) := by decide +kernel
set_option maxRecDepth 100000 in
theorem d_49_84 : decode (mB 49) 84 = .ok (.newarray .int, 2) := by decide +kernel
set_option maxRecDepth 100000 in
theorem d_49_86 : decode (mB 49) 86 = .ok (.putfield 39, 3) := by decide +kernel
set_option maxRecDepth 100000 in
theorem d_49_89 : decode (mB 49) 89 = .ok (.aload_n 0, 1) := by decide +kernel
set_option maxRecDepth 100000 in
theorem d_49_90 : decode (mB 49) 90 = .ok (.bipush 24, 2) := by decide +kernel
set_option maxRecDepth 100000 in
theorem d_49_92 : decode (mB 49) 92 = .ok (.newarray .int, 2) := by decide +kernel
set_option maxRecDepth 100000 in
theorem d_49_94 : decode (mB 49) 94 = .ok (.putfield 42, 3) := by decide +kernel
set_option maxRecDepth 100000 in
theorem d_49_97 : decode (mB 49) 97 = .ok (.aload_n 0, 1) := by decide +kernel
set_option maxRecDepth 100000 in
theorem d_49_98 : decode (mB 49) 98 = .ok (.bipush 24, 2) := by decide +kernel
set_option maxRecDepth 100000 in
theorem d_49_100 : decode (mB 49) 100 = .ok (.bipush 8, 2) := by decide +kernel
set_option maxRecDepth 100000 in
theorem d_49_102 : decode (mB 49) 102 = .ok (.multianewarray 31 2, 4) := by decide +kernel
set_option maxRecDepth 100000 in
theorem d_49_106 : decode (mB 49) 106 = .ok (.putfield 45, 3) := by decide +kernel
set_option maxRecDepth 100000 in
theorem d_49_109 : decode (mB 49) 109 = .ok (.aload_n 0, 1) := by decide +kernel
set_option maxRecDepth 100000 in
theorem d_49_110 : decode (mB 49) 110 = .ok (.bipush 24, 2) := by decide +kernel
set_option maxRecDepth 100000 in
theorem d_49_112 : decode (mB 49) 112 = .ok (.bipush 8, 2) := by decide +kernel
set_option maxRecDepth 100000 in
theorem d_49_114 : decode (mB 49) 114 = .ok (.multianewarray 31 2, 4) := by decide +kernel
set_option maxRecDepth 100000 in
theorem d_49_118 : decode (mB 49) 118 = .ok (.putfield 48, 3) := by decide +kernel
set_option maxRecDepth 100000 in
theorem d_49_121 : decode (mB 49) 121 = .ok (.aload_n 0, 1) := by decide +kernel
set_option maxRecDepth 100000 in
theorem d_49_122 : decode (mB 49) 122 = .ok (.bipush 24, 2) := by decide +kernel
set_option maxRecDepth 100000 in
theorem d_49_124 : decode (mB 49) 124 = .ok (.bipush 8, 2) := by decide +kernel
set_option maxRecDepth 100000 in
theorem d_49_126 : decode (mB 49) 126 = .ok (.multianewarray 31 2, 4) := by decide +kernel
set_option maxRecDepth 100000 in
theorem d_49_130 : decode (mB 49) 130 = .ok (.putfield 51, 3) := by decide +kernel
set_option maxRecDepth 100000 in
theorem d_49_133 : decode (mB 49) 133 = .ok (.aload_n 0, 1) := by decide +kernel
set_option maxRecDepth 100000 in
theorem d_49_134 : decode (mB 49) 134 = .ok (.bipush 24, 2) := by decide +kernel
set_option maxRecDepth 100000 in
theorem d_49_136 : decode (mB 49) 136 = .ok (.sipush 366, 3) := by decide +kernel
set_option maxRecDepth 100000 in
theorem d_49_139 : decode (mB 49) 139 = .ok (.multianewarray 31 2, 4) := by decide +kernel
set_option maxRecDepth 100000 in
theorem d_49_143 : decode (mB 49) 143 = .ok (.putfield 54, 3) := by decide +kernel
set_option maxRecDepth 100000 in
theorem d_49_146 : decode (mB 49) 146 = .ok (.aload_n 0, 1) := by decide +kernel
set_option maxRecDepth 100000 in
theorem d_49_147 : decode (mB 49) 147 = .ok (.iconst (-1), 1) := by decide +kernel
set_option maxRecDepth 100000 in
theorem d_49_148 : decode (mB 49) 148 = .ok (.putfield 57, 3) := by decide +kernel
set_option maxRecDepth 100000 in
theorem d_49_151 : decode (mB 49) 151 = .ok (.aload_n 0, 1) := by decide +kernel
set_option maxRecDepth 100000 in
theorem d_49_152 : decode (mB 49) 152 = .ok (.iconst (-1), 1) := by decide +kernel
set_option maxRecDepth 100000 in
theorem d_49_153 : decode (mB 49) 153 = .ok (.putfield 61, 3) := by decide +kernel
set_option maxRecDepth 100000 in
theorem d_49_156 : decode (mB 49) 156 = .ok (.aload_n 0, 1) := by decide +kernel
set_option maxRecDepth 100000 in
theorem d_49_157 : decode (mB 49) 157 = .ok (.bipush 14, 2) := by decide +kernel
set_option maxRecDepth 100000 in
theorem d_49_159 : decode (mB 49) 159 = .ok (.newarray .int, 2) := by decide +kernel
set_option maxRecDepth 100000 in
theorem d_49_161 : decode (mB 49) 161 = .ok (.putfield 64, 3) := by decide +kernel
set_option maxRecDepth 100000 in
theorem d_49_164 : decode (mB 49) 164 = .ok (.aload_n 0, 1) := by decide +kernel
set_option maxRecDepth 100000 in
theorem d_49_165 : decode (mB 49) 165 = .ok (.bipush 14, 2) := by decide +kernel
set_option maxRecDepth 100000 in
theorem d_49_167 : decode (mB 49) 167 = .ok (.newarray .int, 2) := by decide +kernel
set_option maxRecDepth 100000 in
theorem d_49_169 : decode (mB 49) 169 = .ok (.putfield 67, 3) := by decide +kernel
set_option maxRecDepth 100000 in
theorem d_49_172 : decode (mB 49) 172 = .ok (.aload_n 0, 1) := by decide +kernel
set_option maxRecDepth 100000 in
theorem d_49_173 : decode (mB 49) 173 = .ok (.bipush 14, 2) := by decide +kernel
set_option maxRecDepth 100000 in
theorem d_49_175 : decode (mB 49) 175 = .ok (.newarray .int, 2) := by decide +kernel
set_option maxRecDepth 100000 in
theorem d_49_177 : decode (mB 49) 177 = .ok (.putfield 70, 3) := by decide +kernel
set_option maxRecDepth 100000 in
theorem d_49_180 : decode (mB 49) 180 = .ok (.aload_n 0, 1) := by decide +kernel
set_option maxRecDepth 100000 in
theorem d_49_181 : decode (mB 49) 181 = .ok (.bipush 14, 2) := by decide +kernel
set_option maxRecDepth 100000 in
theorem d_49_183 : decode (mB 49) 183 = .ok (.newarray .int, 2) := by decide +kernel
set_option maxRecDepth 100000 in
theorem d_49_185 : decode (mB 49) 185 = .ok (.putfield 73, 3) := by decide +kernel
set_option maxRecDepth 100000 in
theorem d_49_188 : decode (mB 49) 188 = .ok (.aload_n 0, 1) := by decide +kernel
set_option maxRecDepth 100000 in
theorem d_49_189 : decode (mB 49) 189 = .ok (.bipush 14, 2) := by decide +kernel
set_option maxRecDepth 100000 in
theorem d_49_191 : decode (mB 49) 191 = .ok (.newarray .int, 2) := by decide +kernel
set_option maxRecDepth 100000 in
theorem d_49_193 : decode (mB 49) 193 = .ok (.putfield 76, 3) := by decide +kernel
set_option maxRecDepth 100000 in
theorem d_49_196 : decode (mB 49) 196 = .ok (.aload_n 0, 1) := by decide +kernel
set_option maxRecDepth 100000 in
theorem d_49_197 : decode (mB 49) 197 = .ok (.bipush 14, 2) := by decide +kernel
set_option maxRecDepth 100000 in
theorem d_49_199 : decode (mB 49) 199 = .ok (.newarray .int, 2) := by decide +kernel
set_option maxRecDepth 100000 in
theorem d_49_201 : decode (mB 49) 201 = .ok (.putfield 79, 3) := by decide +kernel
set_option maxRecDepth 100000 in
theorem d_49_204 : decode (mB 49) 204 = .ok (.aload_n 0, 1) := by decide +kernel
set_option maxRecDepth 100000 in
theorem d_49_205 : decode (mB 49) 205 = .ok (.bipush 14, 2) := by decide +kernel
set_option maxRecDepth 100000 in
theorem d_49_207 : decode (mB 49) 207 = .ok (.newarray .int, 2) := by decide +kernel
set_option maxRecDepth 100000 in
theorem d_49_209 : decode (mB 49) 209 = .ok (.putfield 82, 3) := by decide +kernel
set_option maxRecDepth 100000 in
theorem d_49_212 : decode (mB 49) 212 = .ok (.aload_n 0, 1) := by decide +kernel
set_option maxRecDepth 100000 in
theorem d_49_213 : decode (mB 49) 213 = .ok (.bipush 14, 2) := by decide +kernel
set_option maxRecDepth 100000 in
theorem d_49_215 : decode (mB 49) 215 = .ok (.newarray .int, 2) := by decide +kernel
set_option maxRecDepth 100000 in
theorem d_49_217 : decode (mB 49) 217 = .ok (.putfield 85, 3) := by decide +kernel
set_option maxRecDepth 100000 in
theorem d_49_220 : decode (mB 49) 220 = .ok (.return_, 1) := by decide +kernel
set_option maxRecDepth 100000 in
theorem fl_1_88 : flP "WhistleStopModel" 88 1 0 := ⟨_, rfl, by decide, okk_w (k := 1131) (by decide +kernel)⟩
set_option maxRecDepth 100000 in
theorem d_50_0 : decode (mB 50) 0 = .ok (.aload_n 0, 1) := by decide +kernel
set_option maxRecDepth 100000 in
theorem d_50_1 : decode (mB 50) 1 = .ok (.getfield 88, 3) := by decide +kernel
set_option maxRecDepth 100000 in
theorem d_50_4 : decode (mB 50) 4 = .ok (.ireturn, 1) := by decide +kernel
set_option maxRecDepth 100000 in
theorem c_51_94 : csP 51 94 52 3 := ⟨cd_52, okk_w (k := 1257) (by decide +kernel), okk_w (k := 1258) (by decide +kernel), by decide +kernel, by decide +kernel⟩
set_option maxRecDepth 100000 in
theorem c_51_101 : cvP 51 101 53 1 := ⟨cd_53, okk_w (k := 1260) (by decide +kernel), okk_w (k := 1262) (by decide +kernel), okk_w (k := 31) (by decide +kernel), by decide +kernel, by decide +kernel⟩
set_option maxRecDepth 100000 in
theorem fl_1_91 : flP "WhistleStopModel" 91 1 1 := ⟨_, rfl, by decide, okk_w (k := 1132) (by decide +kernel)⟩
set_option maxRecDepth 100000 in
theorem d_51_0 : decode (mB 51) 0 = .ok (.aload_n 0, 1) := by decide +kernel
set_option maxRecDepth 100000 in
theorem d_51_1 : decode (mB 51) 1 = .ok (.iconst 0, 1) := by decide +kernel
set_option maxRecDepth 100000 in
theorem d_51_2 : decode (mB 51) 2 = .ok (.putfield 88, 3) := by decide +kernel
set_option maxRecDepth 100000 in
theorem d_51_5 : decode (mB 51) 5 = .ok (.iload_n 1, 1) := by decide +kernel
set_option maxRecDepth 100000 in
theorem d_51_6 : decode (mB 51) 6 = .ok (.iconst 0, 1) := by decide +kernel
set_option maxRecDepth 100000 in
theorem d_51_7 : decode (mB 51) 7 = .ok (.bipush 30, 2) := by decide +kernel
set_option maxRecDepth 100000 in
theorem d_51_9 : decode (mB 51) 9 = .ok (.invokestatic 94, 3) := by decide +kernel
set_option maxRecDepth 100000 in
theorem d_51_12 : decode (mB 51) 12 = .ok (.ifCond .ne 9, 3) := by decide +kernel
set_option maxRecDepth 100000 in
theorem d_51_15 : decode (mB 51) 15 = .ok (.aload_n 0, 1) := by decide +kernel
set_option maxRecDepth 100000 in
theorem d_51_16 : decode (mB 51) 16 = .ok (.iconst 1, 1) := by decide +kernel
set_option maxRecDepth 100000 in
theorem d_51_17 : decode (mB 51) 17 = .ok (.invokevirtual 101, 3) := by decide +kernel
set_option maxRecDepth 100000 in
theorem d_51_20 : decode (mB 51) 20 = .ok (.ireturn, 1) := by decide +kernel
set_option maxRecDepth 100000 in
theorem d_51_21 : decode (mB 51) 21 = .ok (.aload_n 0, 1) := by decide +kernel
set_option maxRecDepth 100000 in
theorem d_51_22 : decode (mB 51) 22 = .ok (.getfield 91, 3) := by decide +kernel
set_option maxRecDepth 100000 in
theorem d_51_25 : decode (mB 51) 25 = .ok (.bipush 16, 2) := by decide +kernel
set_option maxRecDepth 100000 in
theorem d_51_27 : decode (mB 51) 27 = .ok (.if_icmp .ne 9, 3) := by decide +kernel
set_option maxRecDepth 100000 in
theorem d_51_36 : decode (mB 51) 36 = .ok (.aload_n 0, 1) := by decide +kernel
set_option maxRecDepth 100000 in
theorem d_51_37 : decode (mB 51) 37 = .ok (.getfield 9, 3) := by decide +kernel
set_option maxRecDepth 100000 in
theorem d_51_40 : decode (mB 51) 40 = .ok (.aload_n 0, 1) := by decide +kernel
set_option maxRecDepth 100000 in
theorem d_51_41 : decode (mB 51) 41 = .ok (.getfield 91, 3) := by decide +kernel
set_option maxRecDepth 100000 in
theorem d_51_44 : decode (mB 51) 44 = .ok (.iload_n 1, 1) := by decide +kernel
set_option maxRecDepth 100000 in
theorem d_51_45 : decode (mB 51) 45 = .ok (.iastore, 1) := by decide +kernel
set_option maxRecDepth 100000 in
theorem d_51_46 : decode (mB 51) 46 = .ok (.aload_n 0, 1) := by decide +kernel
set_option maxRecDepth 100000 in
theorem d_51_47 : decode (mB 51) 47 = .ok (.dup, 1) := by decide +kernel
set_option maxRecDepth 100000 in
theorem d_51_48 : decode (mB 51) 48 = .ok (.getfield 91, 3) := by decide +kernel
set_option maxRecDepth 100000 in
theorem d_51_51 : decode (mB 51) 51 = .ok (.dup_x1, 1) := by decide +kernel
set_option maxRecDepth 100000 in
theorem d_51_52 : decode (mB 51) 52 = .ok (.iconst 1, 1) := by decide +kernel
set_option maxRecDepth 100000 in
theorem d_51_53 : decode (mB 51) 53 = .ok (.iadd, 1) := by decide +kernel
set_option maxRecDepth 100000 in
theorem d_51_54 : decode (mB 51) 54 = .ok (.putfield 91, 3) := by decide +kernel
set_option maxRecDepth 100000 in
theorem d_51_57 : decode (mB 51) 57 = .ok (.ireturn, 1) := by decide +kernel
set_option maxRecDepth 100000 in
theorem d_52_0 : decode (mB 52) 0 = .ok (.iload_n 0, 1) := by decide +kernel
set_option maxRecDepth 100000 in
theorem d_52_1 : decode (mB 52) 1 = .ok (.iload_n 1, 1) := by decide +kernel
set_option maxRecDepth 100000 in
theorem d_52_2 : decode (mB 52) 2 = .ok (.if_icmp .lt 12, 3) := by decide +kernel
set_option maxRecDepth 100000 in
theorem d_52_5 : decode (mB 52) 5 = .ok (.iload_n 0, 1) := by decide +kernel
set_option maxRecDepth 100000 in
theorem d_52_6 : decode (mB 52) 6 = .ok (.iload_n 2, 1) := by decide +kernel
set_option maxRecDepth 100000 in
theorem d_52_7 : decode (mB 52) 7 = .ok (.if_icmp .gt 7, 3) := by decide +kernel
set_option maxRecDepth 100000 in
theorem d_52_10 : decode (mB 52) 10 = .ok (.iconst 1, 1) := by decide +kernel
set_option maxRecDepth 100000 in
theorem d_52_11 : decode (mB 52) 11 = .ok (.goto 4, 3) := by decide +kernel
set_option maxRecDepth 100000 in
theorem d_52_14 : decode (mB 52) 14 = .ok (.iconst 0, 1) := by decide +kernel
set_option maxRecDepth 100000 in
theorem d_52_15 : decode (mB 52) 15 = .ok (.ireturn, 1) := by decide +kernel
set_option maxRecDepth 100000 in
theorem d_53_0 : decode (mB 53) 0 = .ok (.aload_n 0, 1) := by decide +kernel
set_option maxRecDepth 100000 in
theorem d_53_1 : decode (mB 53) 1 = .ok (.iload_n 1, 1) := by decide +kernel
set_option maxRecDepth 100000 in
theorem d_53_2 : decode (mB 53) 2 = .ok (.putfield 88, 3) := by decide +kernel
set_option maxRecDepth 100000 in
theorem d_53_5 : decode (mB 53) 5 = .ok (.iconst 0, 1) := by decide +kernel
set_option maxRecDepth 100000 in
theorem d_53_6 : decode (mB 53) 6 = .ok (.ireturn, 1) := by decide +kernel
set_option maxRecDepth 100000 in
theorem c_54_105 : cvP 54 105 55 1 := ⟨cd_55, okk_w (k := 1268) (by decide +kernel), okk_w (k := 1270) (by decide +kernel), okk_w (k := 32) (by decide +kernel), by decide +kernel, by decide +kernel⟩
set_option maxRecDepth 100000 in
theorem c_54_101 : cvP 54 101 53 1 := ⟨cd_53, okk_w (k := 1260) (by decide +kernel), okk_w (k := 1262) (by decide +kernel), okk_w (k := 31) (by decide +kernel), by decide +kernel, by decide +kernel⟩
set_option maxRecDepth 100000 in
theorem d_54_0 : decode (mB 54) 0 = .ok (.aload_n 0, 1) := by decide +kernel
set_option maxRecDepth 100000 in
theorem d_54_1 : decode (mB 54) 1 = .ok (.iconst 0, 1) := by decide +kernel
set_option maxRecDepth 100000 in
theorem d_54_2 : decode (mB 54) 2 = .ok (.putfield 88, 3) := by decide +kernel
set_option maxRecDepth 100000 in
theorem d_54_5 : decode (mB 54) 5 = .ok (.aload_n 0, 1) := by decide +kernel
set_option maxRecDepth 100000 in
theorem d_54_6 : decode (mB 54) 6 = .ok (.iload_n 1, 1) := by decide +kernel
set_option maxRecDepth 100000 in
theorem d_54_7 : decode (mB 54) 7 = .ok (.invokevirtual 105, 3) := by decide +kernel
set_option maxRecDepth 100000 in
theorem d_54_10 : decode (mB 54) 10 = .ok (.ifCond .ne 9, 3) := by decide +kernel
set_option maxRecDepth 100000 in
theorem d_54_13 : decode (mB 54) 13 = .ok (.aload_n 0, 1) := by decide +kernel
set_option maxRecDepth 100000 in
theorem d_54_14 : decode (mB 54) 14 = .ok (.iconst 1, 1) := by decide +kernel
set_option maxRecDepth 100000 in
theorem d_54_15 : decode (mB 54) 15 = .ok (.invokevirtual 101, 3) := by decide +kernel
set_option maxRecDepth 100000 in
theorem d_54_18 : decode (mB 54) 18 = .ok (.ireturn, 1) := by decide +kernel
set_option maxRecDepth 100000 in
theorem c_55_94 : csP 55 94 52 3 := ⟨cd_52, okk_w (k := 1257) (by decide +kernel), okk_w (k := 1258) (by decide +kernel), by decide +kernel, by decide +kernel⟩
set_option maxRecDepth 100000 in
theorem d_55_0 : decode (mB 55) 0 = .ok (.iload_n 1, 1) := by decide +kernel
set_option maxRecDepth 100000 in
theorem d_55_1 : decode (mB 55) 1 = .ok (.iconst 0, 1) := by decide +kernel
set_option maxRecDepth 100000 in
theorem d_55_2 : decode (mB 55) 2 = .ok (.aload_n 0, 1) := by decide +kernel
set_option maxRecDepth 100000 in
theorem d_55_3 : decode (mB 55) 3 = .ok (.getfield 91, 3) := by decide +kernel
set_option maxRecDepth 100000 in
theorem d_55_6 : decode (mB 55) 6 = .ok (.iconst 1, 1) := by decide +kernel
set_option maxRecDepth 100000 in
theorem d_55_7 : decode (mB 55) 7 = .ok (.isub, 1) := by decide +kernel
set_option maxRecDepth 100000 in
theorem d_55_8 : decode (mB 55) 8 = .ok (.invokestatic 94, 3) := by decide +kernel
set_option maxRecDepth 100000 in
theorem d_55_11 : decode (mB 55) 11 = .ok (.ireturn, 1) := by decide +kernel
set_option maxRecDepth 100000 in
theorem c_56_105 : cvP 56 105 55 1 := ⟨cd_55, okk_w (k := 1268) (by decide +kernel), okk_w (k := 1270) (by decide +kernel), okk_w (k := 32) (by decide +kernel), by decide +kernel, by decide +kernel⟩
set_option maxRecDepth 100000 in
theorem c_56_101 : cvP 56 101 53 1 := ⟨cd_53, okk_w (k := 1260) (by decide +kernel), okk_w (k := 1262) (by decide +kernel), okk_w (k := 31) (by decide +kernel), by decide +kernel, by decide +kernel⟩
set_option maxRecDepth 100000 in
theorem d_56_0 : decode (mB 56) 0 = .ok (.aload_n 0, 1) := by decide +kernel
set_option maxRecDepth 100000 in
theorem d_56_1 : decode (mB 56) 1 = .ok (.iconst 0, 1) := by decide +kernel
set_option maxRecDepth 100000 in
theorem d_56_2 : decode (mB 56) 2 = .ok (.putfield 88, 3) := by decide +kernel
set_option maxRecDepth 100000 in
theorem d_56_5 : decode (mB 56) 5 = .ok (.aload_n 0, 1) := by decide +kernel
set_option maxRecDepth 100000 in
theorem d_56_6 : decode (mB 56) 6 = .ok (.iload_n 1, 1) := by decide +kernel
set_option maxRecDepth 100000 in
theorem d_56_7 : decode (mB 56) 7 = .ok (.invokevirtual 105, 3) := by decide +kernel
set_option maxRecDepth 100000 in
theorem d_56_10 : decode (mB 56) 10 = .ok (.ifCond .eq 11, 3) := by decide +kernel
set_option maxRecDepth 100000 in
theorem d_56_21 : decode (mB 56) 21 = .ok (.aload_n 0, 1) := by decide +kernel
set_option maxRecDepth 100000 in
theorem d_56_22 : decode (mB 56) 22 = .ok (.iconst 1, 1) := by decide +kernel
set_option maxRecDepth 100000 in
theorem d_56_23 : decode (mB 56) 23 = .ok (.invokevirtual 101, 3) := by decide +kernel
set_option maxRecDepth 100000 in
theorem d_56_26 : decode (mB 56) 26 = .ok (.ireturn, 1) := by decide +kernel
set_option maxRecDepth 100000 in
theorem c_57_94 : csP 57 94 52 3 := ⟨cd_52, okk_w (k := 1257) (by decide +kernel), okk_w (k := 1258) (by decide +kernel), by decide +kernel, by decide +kernel⟩
set_option maxRecDepth 100000 in
theorem c_57_101 : cvP 57 101 53 1 := ⟨cd_53, okk_w (k := 1260) (by decide +kernel), okk_w (k := 1262) (by decide +kernel), okk_w (k := 31) (by decide +kernel), by decide +kernel, by decide +kernel⟩
set_option maxRecDepth 100000 in
theorem fl_1_112 : flP "WhistleStopModel" 112 1 7 := ⟨_, rfl, by decide, okk_w (k := 1138) (by decide +kernel)⟩
set_option maxRecDepth 100000 in
theorem d_57_0 : decode (mB 57) 0 = .ok (.aload_n 0, 1) := by decide +kernel
set_option maxRecDepth 100000 in
theorem d_57_1 : decode (mB 57) 1 = .ok (.iconst 0, 1) := by decide +kernel
set_option maxRecDepth 100000 in
theorem d_57_2 : decode (mB 57) 2 = .ok (.putfield 88, 3) := by decide +kernel
set_option maxRecDepth 100000 in
theorem d_57_5 : decode (mB 57) 5 = .ok (.iload_n 1, 1) := by decide +kernel
set_option maxRecDepth 100000 in
theorem d_57_6 : decode (mB 57) 6 = .ok (.iconst 0, 1) := by decide +kernel
set_option maxRecDepth 100000 in
theorem d_57_7 : decode (mB 57) 7 = .ok (.bipush 127, 2) := by decide +kernel
set_option maxRecDepth 100000 in
theorem d_57_9 : decode (mB 57) 9 = .ok (.invokestatic 94, 3) := by decide +kernel
set_option maxRecDepth 100000 in
theorem d_57_12 : decode (mB 57) 12 = .ok (.ifCond .eq 25, 3) := by decide +kernel
set_option maxRecDepth 100000 in
theorem d_57_15 : decode (mB 57) 15 = .ok (.iload_n 2, 1) := by decide +kernel
set_option maxRecDepth 100000 in
theorem d_57_16 : decode (mB 57) 16 = .ok (.iconst 0, 1) := by decide +kernel
set_option maxRecDepth 100000 in
theorem d_57_17 : decode (mB 57) 17 = .ok (.sipush 365, 3) := by decide +kernel
set_option maxRecDepth 100000 in
theorem d_57_20 : decode (mB 57) 20 = .ok (.invokestatic 94, 3) := by decide +kernel
set_option maxRecDepth 100000 in
theorem d_57_23 : decode (mB 57) 23 = .ok (.ifCond .eq 14, 3) := by decide +kernel
set_option maxRecDepth 100000 in
theorem d_57_26 : decode (mB 57) 26 = .ok (.iload_n 3, 1) := by decide +kernel
set_option maxRecDepth 100000 in
theorem d_57_27 : decode (mB 57) 27 = .ok (.iload_n 2, 1) := by decide +kernel
set_option maxRecDepth 100000 in
theorem d_57_28 : decode (mB 57) 28 = .ok (.sipush 365, 3) := by decide +kernel
set_option maxRecDepth 100000 in
theorem d_57_31 : decode (mB 57) 31 = .ok (.invokestatic 94, 3) := by decide +kernel
set_option maxRecDepth 100000 in
theorem d_57_34 : decode (mB 57) 34 = .ok (.ifCond .ne 9, 3) := by decide +kernel
set_option maxRecDepth 100000 in
theorem d_57_37 : decode (mB 57) 37 = .ok (.aload_n 0, 1) := by decide +kernel
set_option maxRecDepth 100000 in
theorem d_57_38 : decode (mB 57) 38 = .ok (.iconst 1, 1) := by decide +kernel
set_option maxRecDepth 100000 in
theorem d_57_39 : decode (mB 57) 39 = .ok (.invokevirtual 101, 3) := by decide +kernel
set_option maxRecDepth 100000 in
theorem d_57_42 : decode (mB 57) 42 = .ok (.ireturn, 1) := by decide +kernel
set_option maxRecDepth 100000 in
theorem d_57_43 : decode (mB 57) 43 = .ok (.aload_n 0, 1) := by decide +kernel
set_option maxRecDepth 100000 in
theorem d_57_44 : decode (mB 57) 44 = .ok (.getfield 112, 3) := by decide +kernel
set_option maxRecDepth 100000 in
theorem d_57_47 : decode (mB 57) 47 = .ok (.bipush 6, 2) := by decide +kernel
set_option maxRecDepth 100000 in
theorem d_57_49 : decode (mB 57) 49 = .ok (.if_icmp .ne 9, 3) := by decide +kernel
set_option maxRecDepth 100000 in
theorem d_57_58 : decode (mB 57) 58 = .ok (.aload_n 0, 1) := by decide +kernel
set_option maxRecDepth 100000 in
theorem d_57_59 : decode (mB 57) 59 = .ok (.getfield 22, 3) := by decide +kernel
set_option maxRecDepth 100000 in
theorem d_57_62 : decode (mB 57) 62 = .ok (.aload_n 0, 1) := by decide +kernel
set_option maxRecDepth 100000 in
theorem d_57_63 : decode (mB 57) 63 = .ok (.getfield 112, 3) := by decide +kernel
set_option maxRecDepth 100000 in
theorem d_57_66 : decode (mB 57) 66 = .ok (.iload_n 1, 1) := by decide +kernel
set_option maxRecDepth 100000 in
theorem d_57_67 : decode (mB 57) 67 = .ok (.iastore, 1) := by decide +kernel
set_option maxRecDepth 100000 in
theorem d_57_68 : decode (mB 57) 68 = .ok (.aload_n 0, 1) := by decide +kernel
set_option maxRecDepth 100000 in
theorem d_57_69 : decode (mB 57) 69 = .ok (.getfield 25, 3) := by decide +kernel
set_option maxRecDepth 100000 in
theorem d_57_72 : decode (mB 57) 72 = .ok (.aload_n 0, 1) := by decide +kernel
set_option maxRecDepth 100000 in
theorem d_57_73 : decode (mB 57) 73 = .ok (.getfield 112, 3) := by decide +kernel
set_option maxRecDepth 100000 in
theorem d_57_76 : decode (mB 57) 76 = .ok (.iload_n 2, 1) := by decide +kernel
set_option maxRecDepth 100000 in
theorem d_57_77 : decode (mB 57) 77 = .ok (.iastore, 1) := by decide +kernel
set_option maxRecDepth 100000 in
theorem d_57_78 : decode (mB 57) 78 = .ok (.aload_n 0, 1) := by decide +kernel
set_option maxRecDepth 100000 in
theorem d_57_79 : decode (mB 57) 79 = .ok (.getfield 28, 3) := by decide +kernel
set_option maxRecDepth 100000 in
theorem d_57_82 : decode (mB 57) 82 = .ok (.aload_n 0, 1) := by decide +kernel
set_option maxRecDepth 100000 in
theorem d_57_83 : decode (mB 57) 83 = .ok (.getfield 112, 3) := by decide +kernel
set_option maxRecDepth 100000 in
theorem d_57_86 : decode (mB 57) 86 = .ok (.iload_n 3, 1) := by decide +kernel
set_option maxRecDepth 100000 in
theorem d_57_87 : decode (mB 57) 87 = .ok (.iastore, 1) := by decide +kernel
set_option maxRecDepth 100000 in
theorem d_57_88 : decode (mB 57) 88 = .ok (.aload_n 0, 1) := by decide +kernel
set_option maxRecDepth 100000 in
theorem d_57_89 : decode (mB 57) 89 = .ok (.dup, 1) := by decide +kernel
set_option maxRecDepth 100000 in
theorem d_57_90 : decode (mB 57) 90 = .ok (.getfield 112, 3) := by decide +kernel
set_option maxRecDepth 100000 in
theorem d_57_93 : decode (mB 57) 93 = .ok (.dup_x1, 1) := by decide +kernel
set_option maxRecDepth 100000 in
theorem d_57_94 : decode (mB 57) 94 = .ok (.iconst 1, 1) := by decide +kernel
set_option maxRecDepth 100000 in
theorem d_57_95 : decode (mB 57) 95 = .ok (.iadd, 1) := by decide +kernel
set_option maxRecDepth 100000 in
theorem d_57_96 : decode (mB 57) 96 = .ok (.putfield 112, 3) := by decide +kernel
set_option maxRecDepth 100000 in
theorem d_57_99 : decode (mB 57) 99 = .ok (.ireturn, 1) := by decide +kernel
set_option maxRecDepth 100000 in
theorem c_58_94 : csP 58 94 52 3 := ⟨cd_52, okk_w (k := 1257) (by decide +kernel), okk_w (k := 1258) (by decide +kernel), by decide +kernel, by decide +kernel⟩
set_option maxRecDepth 100000 in
theorem c_58_115 : cvP 58 115 59 1 := ⟨cd_59, okk_w (k := 1284) (by decide +kernel), okk_w (k := 1286) (by decide +kernel), okk_w (k := 33) (by decide +kernel), by decide +kernel, by decide +kernel⟩
set_option maxRecDepth 100000 in
theorem d_58_0 : decode (mB 58) 0 = .ok (.aload_n 0, 1) := by decide +kernel
set_option maxRecDepth 100000 in
theorem d_58_1 : decode (mB 58) 1 = .ok (.iconst 0, 1) := by decide +kernel
set_option maxRecDepth 100000 in
theorem d_58_2 : decode (mB 58) 2 = .ok (.putfield 88, 3) := by decide +kernel
set_option maxRecDepth 100000 in
theorem d_58_5 : decode (mB 58) 5 = .ok (.iload_n 1, 1) := by decide +kernel
set_option maxRecDepth 100000 in
theorem d_58_6 : decode (mB 58) 6 = .ok (.iconst 0, 1) := by decide +kernel
set_option maxRecDepth 100000 in
theorem d_58_7 : decode (mB 58) 7 = .ok (.aload_n 0, 1) := by decide +kernel
set_option maxRecDepth 100000 in
theorem d_58_8 : decode (mB 58) 8 = .ok (.getfield 112, 3) := by decide +kernel
set_option maxRecDepth 100000 in
theorem d_58_11 : decode (mB 58) 11 = .ok (.iconst 1, 1) := by decide +kernel
set_option maxRecDepth 100000 in
theorem d_58_12 : decode (mB 58) 12 = .ok (.isub, 1) := by decide +kernel
set_option maxRecDepth 100000 in
theorem d_58_13 : decode (mB 58) 13 = .ok (.invokestatic 94, 3) := by decide +kernel
set_option maxRecDepth 100000 in
theorem d_58_16 : decode (mB 58) 16 = .ok (.ifCond .ne 9, 3) := by decide +kernel
set_option maxRecDepth 100000 in
theorem d_58_19 : decode (mB 58) 19 = .ok (.aload_n 0, 1) := by decide +kernel
set_option maxRecDepth 100000 in
theorem d_58_20 : decode (mB 58) 20 = .ok (.iconst 1, 1) := by decide +kernel
set_option maxRecDepth 100000 in
theorem d_58_21 : decode (mB 58) 21 = .ok (.invokevirtual 115, 3) := by decide +kernel
set_option maxRecDepth 100000 in
theorem d_58_24 : decode (mB 58) 24 = .ok (.ireturn, 1) := by decide +kernel
set_option maxRecDepth 100000 in
theorem d_59_0 : decode (mB 59) 0 = .ok (.aload_n 0, 1) := by decide +kernel
set_option maxRecDepth 100000 in
theorem d_59_1 : decode (mB 59) 1 = .ok (.iload_n 1, 1) := by decide +kernel
set_option maxRecDepth 100000 in
theorem d_59_2 : decode (mB 59) 2 = .ok (.putfield 88, 3) := by decide +kernel
set_option maxRecDepth 100000 in
theorem d_59_5 : decode (mB 59) 5 = .ok (.iconst 0, 1) := by decide +kernel
set_option maxRecDepth 100000 in
theorem d_59_6 : decode (mB 59) 6 = .ok (.ireturn, 1) := by decide +kernel
set_option maxRecDepth 100000 in
theorem c_61_94 : csP 61 94 52 3 := ⟨cd_52, okk_w (k := 1257) (by decide +kernel), okk_w (k := 1258) (by decide +kernel), by decide +kernel, by decide +kernel⟩
set_option maxRecDepth 100000 in
theorem c_61_115 : cvP 61 115 59 1 := ⟨cd_59, okk_w (k := 1284) (by decide +kernel), okk_w (k := 1286) (by decide +kernel), okk_w (k := 33) (by decide +kernel), by decide +kernel, by decide +kernel⟩
set_option maxRecDepth 100000 in
theorem d_61_0 : decode (mB 61) 0 = .ok (.aload_n 0, 1) := by decide +kernel
set_option maxRecDepth 100000 in
theorem d_61_1 : decode (mB 61) 1 = .ok (.iconst 0, 1) := by decide +kernel
set_option maxRecDepth 100000 in
theorem d_61_2 : decode (mB 61) 2 = .ok (.putfield 88, 3) := by decide +kernel
set_option maxRecDepth 100000 in
theorem d_61_5 : decode (mB 61) 5 = .ok (.iload_n 1, 1) := by decide +kernel
set_option maxRecDepth 100000 in
theorem d_61_6 : decode (mB 61) 6 = .ok (.iconst 0, 1) := by decide +kernel
set_option maxRecDepth 100000 in
theorem d_61_7 : decode (mB 61) 7 = .ok (.aload_n 0, 1) := by decide +kernel
set_option maxRecDepth 100000 in
theorem d_61_8 : decode (mB 61) 8 = .ok (.getfield 112, 3) := by decide +kernel
set_option maxRecDepth 100000 in
theorem d_61_11 : decode (mB 61) 11 = .ok (.iconst 1, 1) := by decide +kernel
set_option maxRecDepth 100000 in
theorem d_61_12 : decode (mB 61) 12 = .ok (.isub, 1) := by decide +kernel
set_option maxRecDepth 100000 in
theorem d_61_13 : decode (mB 61) 13 = .ok (.invokestatic 94, 3) := by decide +kernel
set_option maxRecDepth 100000 in
theorem d_61_16 : decode (mB 61) 16 = .ok (.ifCond .eq 12, 3) := by decide +kernel
set_option maxRecDepth 100000 in
theorem d_61_28 : decode (mB 61) 28 = .ok (.aload_n 0, 1) := by decide +kernel
set_option maxRecDepth 100000 in
theorem d_61_29 : decode (mB 61) 29 = .ok (.iconst 1, 1) := by decide +kernel
set_option maxRecDepth 100000 in
theorem d_61_30 : decode (mB 61) 30 = .ok (.invokevirtual 115, 3) := by decide +kernel
set_option maxRecDepth 100000 in
theorem d_61_33 : decode (mB 61) 33 = .ok (.ireturn, 1) := by decide +kernel
set_option maxRecDepth 100000 in
theorem c_62_94 : csP 62 94 52 3 := ⟨cd_52, okk_w (k := 1257) (by decide +kernel), okk_w (k := 1258) (by decide +kernel), by decide +kernel, by decide +kernel⟩
set_option maxRecDepth 100000 in
theorem c_62_101 : cvP 62 101 53 1 := ⟨cd_53, okk_w (k := 1260) (by decide +kernel), okk_w (k := 1262) (by decide +kernel), okk_w (k := 31) (by decide +kernel), by decide +kernel, by decide +kernel⟩
set_option maxRecDepth 100000 in
theorem fl_1_98 : flP "WhistleStopModel" 98 1 12 := ⟨_, rfl, by decide, okk_w (k := 1143) (by decide +kernel)⟩
set_option maxRecDepth 100000 in
theorem d_62_0 : decode (mB 62) 0 = .ok (.aload_n 0, 1) := by decide +kernel
set_option maxRecDepth 100000 in
theorem d_62_1 : decode (mB 62) 1 = .ok (.iconst 0, 1) := by decide +kernel
set_option maxRecDepth 100000 in
theorem d_62_2 : decode (mB 62) 2 = .ok (.putfield 88, 3) := by decide +kernel
set_option maxRecDepth 100000 in
theorem d_62_5 : decode (mB 62) 5 = .ok (.iload_n 1, 1) := by decide +kernel
set_option maxRecDepth 100000 in
theorem d_62_6 : decode (mB 62) 6 = .ok (.iconst 0, 1) := by decide +kernel
set_option maxRecDepth 100000 in
theorem d_62_7 : decode (mB 62) 7 = .ok (.aload_n 0, 1) := by decide +kernel
set_option maxRecDepth 100000 in
theorem d_62_8 : decode (mB 62) 8 = .ok (.getfield 112, 3) := by decide +kernel
set_option maxRecDepth 100000 in
theorem d_62_11 : decode (mB 62) 11 = .ok (.iconst 1, 1) := by decide +kernel
set_option maxRecDepth 100000 in
theorem d_62_12 : decode (mB 62) 12 = .ok (.isub, 1) := by decide +kernel
set_option maxRecDepth 100000 in
theorem d_62_13 : decode (mB 62) 13 = .ok (.invokestatic 94, 3) := by decide +kernel
set_option maxRecDepth 100000 in
theorem d_62_16 : decode (mB 62) 16 = .ok (.ifCond .eq 11, 3) := by decide +kernel
set_option maxRecDepth 100000 in
theorem d_62_27 : decode (mB 62) 27 = .ok (.aload_n 0, 1) := by decide +kernel
set_option maxRecDepth 100000 in
theorem d_62_28 : decode (mB 62) 28 = .ok (.iconst 1, 1) := by decide +kernel
set_option maxRecDepth 100000 in
theorem d_62_29 : decode (mB 62) 29 = .ok (.invokevirtual 101, 3) := by decide +kernel
set_option maxRecDepth 100000 in
theorem d_62_32 : decode (mB 62) 32 = .ok (.ireturn, 1) := by decide +kernel
set_option maxRecDepth 100000 in
theorem c_63_122 : cvP 63 122 64 1 := ⟨cd_64, okk_w (k := 1304) (by decide +kernel), okk_w (k := 1306) (by decide +kernel), okk_w (k := 35) (by decide +kernel), by decide +kernel, by decide +kernel⟩
set_option maxRecDepth 100000 in
theorem c_63_101 : cvP 63 101 53 1 := ⟨cd_53, okk_w (k := 1260) (by decide +kernel), okk_w (k := 1262) (by decide +kernel), okk_w (k := 31) (by decide +kernel), by decide +kernel, by decide +kernel⟩
set_option maxRecDepth 100000 in
theorem d_63_0 : decode (mB 63) 0 = .ok (.aload_n 0, 1) := by decide +kernel
set_option maxRecDepth 100000 in
theorem d_63_1 : decode (mB 63) 1 = .ok (.iconst 0, 1) := by decide +kernel
set_option maxRecDepth 100000 in
theorem d_63_2 : decode (mB 63) 2 = .ok (.putfield 88, 3) := by decide +kernel
set_option maxRecDepth 100000 in
theorem d_63_5 : decode (mB 63) 5 = .ok (.aload_n 0, 1) := by decide +kernel
set_option maxRecDepth 100000 in
theorem d_63_6 : decode (mB 63) 6 = .ok (.iload_n 1, 1) := by decide +kernel
set_option maxRecDepth 100000 in
theorem d_63_7 : decode (mB 63) 7 = .ok (.invokevirtual 122, 3) := by decide +kernel
set_option maxRecDepth 100000 in
theorem d_63_10 : decode (mB 63) 10 = .ok (.ifCond .eq 11, 3) := by decide +kernel
set_option maxRecDepth 100000 in
theorem d_63_21 : decode (mB 63) 21 = .ok (.aload_n 0, 1) := by decide +kernel
set_option maxRecDepth 100000 in
theorem d_63_22 : decode (mB 63) 22 = .ok (.iconst 1, 1) := by decide +kernel
set_option maxRecDepth 100000 in
theorem d_63_23 : decode (mB 63) 23 = .ok (.invokevirtual 101, 3) := by decide +kernel
set_option maxRecDepth 100000 in
theorem d_63_26 : decode (mB 63) 26 = .ok (.ireturn, 1) := by decide +kernel
set_option maxRecDepth 100000 in
theorem c_64_94 : csP 64 94 52 3 := ⟨cd_52, okk_w (k := 1257) (by decide +kernel), okk_w (k := 1258) (by decide +kernel), by decide +kernel, by decide +kernel⟩
set_option maxRecDepth 100000 in
theorem d_64_0 : decode (mB 64) 0 = .ok (.iload_n 1, 1) := by decide +kernel
set_option maxRecDepth 100000 in
theorem d_64_1 : decode (mB 64) 1 = .ok (.iconst 0, 1) := by decide +kernel
set_option maxRecDepth 100000 in
theorem d_64_2 : decode (mB 64) 2 = .ok (.aload_n 0, 1) := by decide +kernel
set_option maxRecDepth 100000 in
theorem d_64_3 : decode (mB 64) 3 = .ok (.getfield 98, 3) := by decide +kernel
set_option maxRecDepth 100000 in
theorem d_64_6 : decode (mB 64) 6 = .ok (.iconst 1, 1) := by decide +kernel
set_option maxRecDepth 100000 in
theorem d_64_7 : decode (mB 64) 7 = .ok (.isub, 1) := by decide +kernel
set_option maxRecDepth 100000 in
theorem d_64_8 : decode (mB 64) 8 = .ok (.invokestatic 94, 3) := by decide +kernel
set_option maxRecDepth 100000 in
theorem d_64_11 : decode (mB 64) 11 = .ok (.ireturn, 1) := by decide +kernel
set_option maxRecDepth 100000 in
theorem c_65_125 : cvP 65 125 66 1 := ⟨cd_66, okk_w (k := 1312) (by decide +kernel), okk_w (k := 1314) (by decide +kernel), okk_w (k := 36) (by decide +kernel), by decide +kernel, by decide +kernel⟩
set_option maxRecDepth 100000 in
theorem d_65_0 : decode (mB 65) 0 = .ok (.aload_n 0, 1) := by decide +kernel
set_option maxRecDepth 100000 in
theorem d_65_1 : decode (mB 65) 1 = .ok (.aload_n 0, 1) := by decide +kernel
set_option maxRecDepth 100000 in
theorem d_65_2 : decode (mB 65) 2 = .ok (.getfield 91, 3) := by decide +kernel
set_option maxRecDepth 100000 in
theorem d_65_5 : decode (mB 65) 5 = .ok (.invokevirtual 125, 3) := by decide +kernel
set_option maxRecDepth 100000 in
theorem d_65_8 : decode (mB 65) 8 = .ok (.ireturn, 1) := by decide +kernel
set_option maxRecDepth 100000 in
theorem d_66_0 : decode (mB 66) 0 = .ok (.aload_n 0, 1) := by decide +kernel
set_option maxRecDepth 100000 in
theorem d_66_1 : decode (mB 66) 1 = .ok (.iconst 0, 1) := by decide +kernel
set_option maxRecDepth 100000 in
theorem d_66_2 : decode (mB 66) 2 = .ok (.putfield 88, 3) := by decide +kernel
set_option maxRecDepth 100000 in
theorem d_66_5 : decode (mB 66) 5 = .ok (.iload_n 1, 1) := by decide +kernel
set_option maxRecDepth 100000 in
theorem d_66_6 : decode (mB 66) 6 = .ok (.ireturn, 1) := by decide +kernel
set_option maxRecDepth 100000 in
theorem c_67_125 : cvP 67 125 66 1 := ⟨cd_66, okk_w (k := 1312) (by decide +kernel), okk_w (k := 1314) (by decide +kernel), okk_w (k := 36) (by decide +kernel), by decide +kernel, by decide +kernel⟩
set_option maxRecDepth 100000 in
theorem d_67_0 : decode (mB 67) 0 = .ok (.aload_n 0, 1) := by decide +kernel
set_option maxRecDepth 100000 in
theorem d_67_1 : decode (mB 67) 1 = .ok (.aload_n 0, 1) := by decide +kernel
set_option maxRecDepth 100000 in
theorem d_67_2 : decode (mB 67) 2 = .ok (.getfield 98, 3) := by decide +kernel
set_option maxRecDepth 100000 in
theorem d_67_5 : decode (mB 67) 5 = .ok (.invokevirtual 125, 3) := by decide +kernel
set_option maxRecDepth 100000 in
theorem d_67_8 : decode (mB 67) 8 = .ok (.ireturn, 1) := by decide +kernel
set_option maxRecDepth 100000 in
theorem c_68_122 : cvP 68 122 64 1 := ⟨cd_64, okk_w (k := 1304) (by decide +kernel), okk_w (k := 1306) (by decide +kernel), okk_w (k := 35) (by decide +kernel), by decide +kernel, by decide +kernel⟩
set_option maxRecDepth 100000 in
theorem c_68_101 : cvP 68 101 53 1 := ⟨cd_53, okk_w (k := 1260) (by decide +kernel), okk_w (k := 1262) (by decide +kernel), okk_w (k := 31) (by decide +kernel), by decide +kernel, by decide +kernel⟩
set_option maxRecDepth 100000 in
theorem d_68_0 : decode (mB 68) 0 = .ok (.aload_n 0, 1) := by decide +kernel
set_option maxRecDepth 100000 in
theorem d_68_1 : decode (mB 68) 1 = .ok (.iconst 0, 1) := by decide +kernel
set_option maxRecDepth 100000 in
theorem d_68_2 : decode (mB 68) 2 = .ok (.putfield 88, 3) := by decide +kernel
set_option maxRecDepth 100000 in
theorem d_68_5 : decode (mB 68) 5 = .ok (.aload_n 0, 1) := by decide +kernel
set_option maxRecDepth 100000 in
theorem d_68_6 : decode (mB 68) 6 = .ok (.iload_n 1, 1) := by decide +kernel
set_option maxRecDepth 100000 in
theorem d_68_7 : decode (mB 68) 7 = .ok (.invokevirtual 122, 3) := by decide +kernel
set_option maxRecDepth 100000 in
theorem d_68_10 : decode (mB 68) 10 = .ok (.ifCond .eq 12, 3) := by decide +kernel
set_option maxRecDepth 100000 in
theorem d_68_22 : decode (mB 68) 22 = .ok (.aload_n 0, 1) := by decide +kernel
set_option maxRecDepth 100000 in
theorem d_68_23 : decode (mB 68) 23 = .ok (.iconst 1, 1) := by decide +kernel
set_option maxRecDepth 100000 in
theorem d_68_24 : decode (mB 68) 24 = .ok (.invokevirtual 101, 3) := by decide +kernel
set_option maxRecDepth 100000 in
theorem d_68_27 : decode (mB 68) 27 = .ok (.ireturn, 1) := by decide +kernel
set_option maxRecDepth 100000 in
theorem c_69_122 : cvP 69 122 64 1 := ⟨cd_64, okk_w (k := 1304) (by decide +kernel), okk_w (k := 1306) (by decide +kernel), okk_w (k := 35) (by decide +kernel), by decide +kernel, by decide +kernel⟩
set_option maxRecDepth 100000 in
theorem c_69_101 : cvP 69 101 53 1 := ⟨cd_53, okk_w (k := 1260) (by decide +kernel), okk_w (k := 1262) (by decide +kernel), okk_w (k := 31) (by decide +kernel), by decide +kernel, by decide +kernel⟩
set_option maxRecDepth 100000 in
theorem d_69_0 : decode (mB 69) 0 = .ok (.aload_n 0, 1) := by decide +kernel
set_option maxRecDepth 100000 in
theorem d_69_1 : decode (mB 69) 1 = .ok (.iconst 0, 1) := by decide +kernel
set_option maxRecDepth 100000 in
theorem d_69_2 : decode (mB 69) 2 = .ok (.putfield 88, 3) := by decide +kernel
set_option maxRecDepth 100000 in
theorem d_69_5 : decode (mB 69) 5 = .ok (.aload_n 0, 1) := by decide +kernel
set_option maxRecDepth 100000 in
theorem d_69_6 : decode (mB 69) 6 = .ok (.iload_n 1, 1) := by decide +kernel
set_option maxRecDepth 100000 in
theorem d_69_7 : decode (mB 69) 7 = .ok (.invokevirtual 122, 3) := by decide +kernel
set_option maxRecDepth 100000 in
theorem d_69_10 : decode (mB 69) 10 = .ok (.ifCond .eq 30, 3) := by decide +kernel
set_option maxRecDepth 100000 in
theorem d_69_40 : decode (mB 69) 40 = .ok (.aload_n 0, 1) := by decide +kernel
set_option maxRecDepth 100000 in
theorem d_69_41 : decode (mB 69) 41 = .ok (.iconst 1, 1) := by decide +kernel
set_option maxRecDepth 100000 in
theorem d_69_42 : decode (mB 69) 42 = .ok (.invokevirtual 101, 3) := by decide +kernel
set_option maxRecDepth 100000 in
theorem d_69_45 : decode (mB 69) 45 = .ok (.ireturn, 1) := by decide +kernel
set_option maxRecDepth 100000 in
theorem c_70_122 : cvP 70 122 64 1 := ⟨cd_64, okk_w (k := 1304) (by decide +kernel), okk_w (k := 1306) (by decide +kernel), okk_w (k := 35) (by decide +kernel), by decide +kernel, by decide +kernel⟩
set_option maxRecDepth 100000 in
theorem c_70_101 : cvP 70 101 53 1 := ⟨cd_53, okk_w (k := 1260) (by decide +kernel), okk_w (k := 1262) (by decide +kernel), okk_w (k := 31) (by decide +kernel), by decide +kernel, by decide +kernel⟩
set_option maxRecDepth 100000 in
theorem d_70_0 : decode (mB 70) 0 = .ok (.aload_n 0, 1) := by decide +kernel
set_option maxRecDepth 100000 in
theorem d_70_1 : decode (mB 70) 1 = .ok (.iconst 0, 1) := by decide +kernel
set_option maxRecDepth 100000 in
theorem d_70_2 : decode (mB 70) 2 = .ok (.putfield 88, 3) := by decide +kernel
set_option maxRecDepth 100000 in
theorem d_70_5 : decode (mB 70) 5 = .ok (.aload_n 0, 1) := by decide +kernel
set_option maxRecDepth 100000 in
theorem d_70_6 : decode (mB 70) 6 = .ok (.iload_n 1, 1) := by decide +kernel
set_option maxRecDepth 100000 in
theorem d_70_7 : decode (mB 70) 7 = .ok (.invokevirtual 122, 3) := by decide +kernel
set_option maxRecDepth 100000 in
theorem d_70_10 : decode (mB 70) 10 = .ok (.ifCond .ne 9, 3) := by decide +kernel
set_option maxRecDepth 100000 in
theorem d_70_13 : decode (mB 70) 13 = .ok (.aload_n 0, 1) := by decide +kernel
set_option maxRecDepth 100000 in
theorem d_70_14 : decode (mB 70) 14 = .ok (.iconst 1, 1) := by decide +kernel
set_option maxRecDepth 100000 in
theorem d_70_15 : decode (mB 70) 15 = .ok (.invokevirtual 101, 3) := by decide +kernel
set_option maxRecDepth 100000 in
theorem d_70_18 : decode (mB 70) 18 = .ok (.ireturn, 1) := by decide +kernel
set_option maxRecDepth 100000 in
theorem c_71_122 : cvP 71 122 64 1 := ⟨cd_64, okk_w (k := 1304) (by decide +kernel), okk_w (k := 1306) (by decide +kernel), okk_w (k := 35) (by decide +kernel), by decide +kernel, by decide +kernel⟩
set_option maxRecDepth 100000 in
theorem c_71_115 : cvP 71 115 59 1 := ⟨cd_59, okk_w (k := 1284) (by decide +kernel), okk_w (k := 1286) (by decide +kernel), okk_w (k := 33) (by decide +kernel), by decide +kernel, by decide +kernel⟩
set_option maxRecDepth 100000 in
theorem d_71_0 : decode (mB 71) 0 = .ok (.aload_n 0, 1) := by decide +kernel
set_option maxRecDepth 100000 in
theorem d_71_1 : decode (mB 71) 1 = .ok (.iconst 0, 1) := by decide +kernel
set_option maxRecDepth 100000 in
theorem d_71_2 : decode (mB 71) 2 = .ok (.putfield 88, 3) := by decide +kernel
set_option maxRecDepth 100000 in
theorem d_71_5 : decode (mB 71) 5 = .ok (.aload_n 0, 1) := by decide +kernel
set_option maxRecDepth 100000 in
theorem d_71_6 : decode (mB 71) 6 = .ok (.iload_n 1, 1) := by decide +kernel
set_option maxRecDepth 100000 in
theorem d_71_7 : decode (mB 71) 7 = .ok (.invokevirtual 122, 3) := by decide +kernel
set_option maxRecDepth 100000 in
theorem d_71_10 : decode (mB 71) 10 = .ok (.ifCond .ne 9, 3) := by decide +kernel
set_option maxRecDepth 100000 in
theorem d_71_13 : decode (mB 71) 13 = .ok (.aload_n 0, 1) := by decide +kernel
set_option maxRecDepth 100000 in
theorem d_71_14 : decode (mB 71) 14 = .ok (.iconst 1, 1) := by decide +kernel
set_option maxRecDepth 100000 in
theorem d_71_15 : decode (mB 71) 15 = .ok (.invokevirtual 115, 3) := by decide +kernel
set_option maxRecDepth 100000 in
theorem d_71_18 : decode (mB 71) 18 = .ok (.ireturn, 1) := by decide +kernel
set_option maxRecDepth 100000 in
theorem c_73_122 : cvP 73 122 64 1 := ⟨cd_64, okk_w (k := 1304) (by decide +kernel), okk_w (k := 1306) (by decide +kernel), okk_w (k := 35) (by decide +kernel), by decide +kernel, by decide +kernel⟩
set_option maxRecDepth 100000 in
theorem c_73_101 : cvP 73 101 53 1 := ⟨cd_53, okk_w (k := 1260) (by decide +kernel), okk_w (k := 1262) (by decide +kernel), okk_w (k := 31) (by decide +kernel), by decide +kernel, by decide +kernel⟩
set_option maxRecDepth 100000 in
theorem d_73_0 : decode (mB 73) 0 = .ok (.aload_n 0, 1) := by decide +kernel
set_option maxRecDepth 100000 in
theorem d_73_1 : decode (mB 73) 1 = .ok (.iconst 0, 1) := by decide +kernel
set_option maxRecDepth 100000 in
theorem d_73_2 : decode (mB 73) 2 = .ok (.putfield 88, 3) := by decide +kernel
set_option maxRecDepth 100000 in
theorem d_73_5 : decode (mB 73) 5 = .ok (.aload_n 0, 1) := by decide +kernel
set_option maxRecDepth 100000 in
theorem d_73_6 : decode (mB 73) 6 = .ok (.iload_n 1, 1) := by decide +kernel
set_option maxRecDepth 100000 in
theorem d_73_7 : decode (mB 73) 7 = .ok (.invokevirtual 122, 3) := by decide +kernel
set_option maxRecDepth 100000 in
theorem d_73_10 : decode (mB 73) 10 = .ok (.ifCond .eq 12, 3) := by decide +kernel
set_option maxRecDepth 100000 in
theorem d_73_22 : decode (mB 73) 22 = .ok (.aload_n 0, 1) := by decide +kernel
set_option maxRecDepth 100000 in
theorem d_73_23 : decode (mB 73) 23 = .ok (.iconst 1, 1) := by decide +kernel
set_option maxRecDepth 100000 in
theorem d_73_24 : decode (mB 73) 24 = .ok (.invokevirtual 101, 3) := by decide +kernel
set_option maxRecDepth 100000 in
theorem d_73_27 : decode (mB 73) 27 = .ok (.ireturn, 1) := by decide +kernel
set_option maxRecDepth 100000 in
theorem c_74_105 : cvP 74 105 55 1 := ⟨cd_55, okk_w (k := 1268) (by decide +kernel), okk_w (k := 1270) (by decide +kernel), okk_w (k := 32) (by decide +kernel), by decide +kernel, by decide +kernel⟩
set_option maxRecDepth 100000 in
theorem c_74_101 : cvP 74 101 53 1 := ⟨cd_53, okk_w (k := 1260) (by decide +kernel), okk_w (k := 1262) (by decide +kernel), okk_w (k := 31) (by decide +kernel), by decide +kernel, by decide +kernel⟩
set_option maxRecDepth 100000 in
theorem d_74_0 : decode (mB 74) 0 = .ok (.aload_n 0, 1) := by decide +kernel
set_option maxRecDepth 100000 in
theorem d_74_1 : decode (mB 74) 1 = .ok (.iconst 0, 1) := by decide +kernel
set_option maxRecDepth 100000 in
theorem d_74_2 : decode (mB 74) 2 = .ok (.putfield 88, 3) := by decide +kernel
set_option maxRecDepth 100000 in
theorem d_74_5 : decode (mB 74) 5 = .ok (.aload_n 0, 1) := by decide +kernel
set_option maxRecDepth 100000 in
theorem d_74_6 : decode (mB 74) 6 = .ok (.iload_n 1, 1) := by decide +kernel
set_option maxRecDepth 100000 in
theorem d_74_7 : decode (mB 74) 7 = .ok (.invokevirtual 105, 3) := by decide +kernel
set_option maxRecDepth 100000 in
theorem d_74_10 : decode (mB 74) 10 = .ok (.ifCond .ne 9, 3) := by decide +kernel
set_option maxRecDepth 100000 in
theorem d_74_13 : decode (mB 74) 13 = .ok (.aload_n 0, 1) := by decide +kernel
set_option maxRecDepth 100000 in
theorem d_74_14 : decode (mB 74) 14 = .ok (.iconst 1, 1) := by decide +kernel
set_option maxRecDepth 100000 in
theorem d_74_15 : decode (mB 74) 15 = .ok (.invokevirtual 101, 3) := by decide +kernel
set_option maxRecDepth 100000 in
theorem d_74_18 : decode (mB 74) 18 = .ok (.ireturn, 1) := by decide +kernel
set_option maxRecDepth 100000 in
theorem c_78_105 : cvP 78 105 55 1 := ⟨cd_55, okk_w (k := 1268) (by decide +kernel), okk_w (k := 1270) (by decide +kernel), okk_w (k := 32) (by decide +kernel), by decide +kernel, by decide +kernel⟩
set_option maxRecDepth 100000 in
theorem c_78_101 : cvP 78 101 53 1 := ⟨cd_53, okk_w (k := 1260) (by decide +kernel), okk_w (k := 1262) (by decide +kernel), okk_w (k := 31) (by decide +kernel), by decide +kernel, by decide +kernel⟩
set_option maxRecDepth 100000 in
theorem d_78_0 : decode (mB 78) 0 = .ok (.aload_n 0, 1) := by decide +kernel
set_option maxRecDepth 100000 in
theorem d_78_1 : decode (mB 78) 1 = .ok (.iconst 0, 1) := by decide +kernel
set_option maxRecDepth 100000 in
theorem d_78_2 : decode (mB 78) 2 = .ok (.putfield 88, 3) := by decide +kernel
set_option maxRecDepth 100000 in
theorem d_78_5 : decode (mB 78) 5 = .ok (.aload_n 0, 1) := by decide +kernel
set_option maxRecDepth 100000 in
theorem d_78_6 : decode (mB 78) 6 = .ok (.iload_n 1, 1) := by decide +kernel
set_option maxRecDepth 100000 in
theorem d_78_7 : decode (mB 78) 7 = .ok (.invokevirtual 105, 3) := by decide +kernel
set_option maxRecDepth 100000 in
theorem d_78_10 : decode (mB 78) 10 = .ok (.ifCond .ne 9, 3) := by decide +kernel
set_option maxRecDepth 100000 in
theorem d_78_13 : decode (mB 78) 13 = .ok (.aload_n 0, 1) := by decide +kernel
set_option maxRecDepth 100000 in
theorem d_78_14 : decode (mB 78) 14 = .ok (.iconst 1, 1) := by decide +kernel
set_option maxRecDepth 100000 in
theorem d_78_15 : decode (mB 78) 15 = .ok (.invokevirtual 101, 3) := by decide +kernel
set_option maxRecDepth 100000 in
theorem d_78_18 : decode (mB 78) 18 = .ok (.ireturn, 1) := by decide +kernel
set_option maxRecDepth 100000 in
theorem c_79_105 : cvP 79 105 55 1 := ⟨cd_55, okk_w (k := 1268) (by decide +kernel), okk_w (k := 1270) (by decide +kernel), okk_w (k := 32) (by decide +kernel), by decide +kernel, by decide +kernel⟩
set_option maxRecDepth 100000 in
theorem c_79_101 : cvP 79 101 53 1 := ⟨cd_53, okk_w (k := 1260) (by decide +kernel), okk_w (k := 1262) (by decide +kernel), okk_w (k := 31) (by decide +kernel), by decide +kernel, by decide +kernel⟩
set_option maxRecDepth 100000 in
theorem d_79_0 : decode (mB 79) 0 = .ok (.aload_n 0, 1) := by decide +kernel
set_option maxRecDepth 100000 in
theorem d_79_1 : decode (mB 79) 1 = .ok (.iconst 0, 1) := by decide +kernel
set_option maxRecDepth 100000 in
theorem d_79_2 : decode (mB 79) 2 = .ok (.putfield 88, 3) := by decide +kernel
set_option maxRecDepth 100000 in
theorem d_79_5 : decode (mB 79) 5 = .ok (.aload_n 0, 1) := by decide +kernel
set_option maxRecDepth 100000 in
theorem d_79_6 : decode (mB 79) 6 = .ok (.iload_n 1, 1) := by decide +kernel
set_option maxRecDepth 100000 in
theorem d_79_7 : decode (mB 79) 7 = .ok (.invokevirtual 105, 3) := by decide +kernel
set_option maxRecDepth 100000 in
theorem d_79_10 : decode (mB 79) 10 = .ok (.ifCond .ne 9, 3) := by decide +kernel
set_option maxRecDepth 100000 in
theorem d_79_13 : decode (mB 79) 13 = .ok (.aload_n 0, 1) := by decide +kernel
set_option maxRecDepth 100000 in
theorem d_79_14 : decode (mB 79) 14 = .ok (.iconst 1, 1) := by decide +kernel
set_option maxRecDepth 100000 in
theorem d_79_15 : decode (mB 79) 15 = .ok (.invokevirtual 101, 3) := by decide +kernel
set_option maxRecDepth 100000 in
theorem d_79_18 : decode (mB 79) 18 = .ok (.ireturn, 1) := by decide +kernel
set_option maxRecDepth 100000 in
theorem c_80_184 : cvP 80 184 81 3 := ⟨cd_81, okk_w (k := 1373) (by decide +kernel), okk_w (k := 1375) (by decide +kernel), okk_w (k := 39) (by decide +kernel), by decide +kernel, by decide +kernel⟩
set_option maxRecDepth 100000 in
theorem d_80_0 : decode (mB 80) 0 = .ok (.aload_n 0, 1) := by decide +kernel
set_option maxRecDepth 100000 in
theorem d_80_1 : decode (mB 80) 1 = .ok (.aload_n 0, 1) := by decide +kernel
set_option maxRecDepth 100000 in
theorem d_80_2 : decode (mB 80) 2 = .ok (.iload_n 1, 1) := by decide +kernel
set_option maxRecDepth 100000 in
theorem d_80_3 : decode (mB 80) 3 = .ok (.iload_n 2, 1) := by decide +kernel
set_option maxRecDepth 100000 in
theorem d_80_4 : decode (mB 80) 4 = .ok (.iload_n 3, 1) := by decide +kernel
set_option maxRecDepth 100000 in
theorem d_80_5 : decode (mB 80) 5 = .ok (.invokevirtual 184, 3) := by decide +kernel
set_option maxRecDepth 100000 in
theorem d_80_8 : decode (mB 80) 8 = .ok (.putfield 88, 3) := by decide +kernel
set_option maxRecDepth 100000 in
theorem d_80_11 : decode (mB 80) 11 = .ok (.aload_n 0, 1) := by decide +kernel
set_option maxRecDepth 100000 in
theorem d_80_12 : decode (mB 80) 12 = .ok (.getfield 88, 3) := by decide +kernel
set_option maxRecDepth 100000 in
theorem d_80_15 : decode (mB 80) 15 = .ok (.ifCond .eq 7, 3) := by decide +kernel
set_option maxRecDepth 100000 in
theorem d_80_18 : decode (mB 80) 18 = .ok (.iconst 0, 1) := by decide +kernel
set_option maxRecDepth 100000 in
theorem d_80_19 : decode (mB 80) 19 = .ok (.goto 10, 3) := by decide +kernel
set_option maxRecDepth 100000 in
theorem d_80_29 : decode (mB 80) 29 = .ok (.ireturn, 1) := by decide +kernel
set_option maxRecDepth 100000 in
theorem c_81_105 : cvP 81 105 55 1 := ⟨cd_55, okk_w (k := 1268) (by decide +kernel), okk_w (k := 1270) (by decide +kernel), okk_w (k := 32) (by decide +kernel), by decide +kernel, by decide +kernel⟩
set_option maxRecDepth 100000 in
theorem d_81_0 : decode (mB 81) 0 = .ok (.aload_n 0, 1) := by decide +kernel
set_option maxRecDepth 100000 in
theorem d_81_1 : decode (mB 81) 1 = .ok (.iload_n 1, 1) := by decide +kernel
set_option maxRecDepth 100000 in
theorem d_81_2 : decode (mB 81) 2 = .ok (.invokevirtual 105, 3) := by decide +kernel
set_option maxRecDepth 100000 in
theorem d_81_5 : decode (mB 81) 5 = .ok (.ifCond .eq 11, 3) := by decide +kernel
set_option maxRecDepth 100000 in
theorem d_81_16 : decode (mB 81) 16 = .ok (.iconst 1, 1) := by decide +kernel
set_option maxRecDepth 100000 in
theorem d_81_17 : decode (mB 81) 17 = .ok (.goto 18, 3) := by decide +kernel
set_option maxRecDepth 100000 in
theorem d_81_35 : decode (mB 81) 35 = .ok (.ireturn, 1) := by decide +kernel
set_option maxRecDepth 100000 in
theorem c_88_184 : cvP 88 184 81 3 := ⟨cd_81, okk_w (k := 1373) (by decide +kernel), okk_w (k := 1375) (by decide +kernel), okk_w (k := 39) (by decide +kernel), by decide +kernel, by decide +kernel⟩
set_option maxRecDepth 100000 in
theorem d_88_0 : decode (mB 88) 0 = .ok (.aload_n 0, 1) := by decide +kernel
set_option maxRecDepth 100000 in
theorem d_88_1 : decode (mB 88) 1 = .ok (.aload_n 0, 1) := by decide +kernel
set_option maxRecDepth 100000 in
theorem d_88_2 : decode (mB 88) 2 = .ok (.iload_n 1, 1) := by decide +kernel
set_option maxRecDepth 100000 in
theorem d_88_3 : decode (mB 88) 3 = .ok (.iload_n 2, 1) := by decide +kernel
set_option maxRecDepth 100000 in
theorem d_88_4 : decode (mB 88) 4 = .ok (.iload_n 3, 1) := by decide +kernel
set_option maxRecDepth 100000 in
theorem d_88_5 : decode (mB 88) 5 = .ok (.invokevirtual 184, 3) := by decide +kernel
set_option maxRecDepth 100000 in
theorem d_88_8 : decode (mB 88) 8 = .ok (.putfield 88, 3) := by decide +kernel
set_option maxRecDepth 100000 in
theorem d_88_11 : decode (mB 88) 11 = .ok (.aload_n 0, 1) := by decide +kernel
set_option maxRecDepth 100000 in
theorem d_88_12 : decode (mB 88) 12 = .ok (.getfield 88, 3) := by decide +kernel
set_option maxRecDepth 100000 in
theorem d_88_15 : decode (mB 88) 15 = .ok (.ifCond .eq 5, 3) := by decide +kernel
set_option maxRecDepth 100000 in
theorem d_88_18 : decode (mB 88) 18 = .ok (.iconst 0, 1) := by decide +kernel
set_option maxRecDepth 100000 in
theorem d_88_19 : decode (mB 88) 19 = .ok (.ireturn, 1) := by decide +kernel
set_option maxRecDepth 100000 in
theorem c_89_184 : cvP 89 184 81 3 := ⟨cd_81, okk_w (k := 1373) (by decide +kernel), okk_w (k := 1375) (by decide +kernel), okk_w (k := 39) (by decide +kernel), by decide +kernel, by decide +kernel⟩
set_option maxRecDepth 100000 in
theorem d_89_0 : decode (mB 89) 0 = .ok (.aload_n 0, 1) := by decide +kernel
set_option maxRecDepth 100000 in
theorem d_89_1 : decode (mB 89) 1 = .ok (.aload_n 0, 1) := by decide +kernel
set_option maxRecDepth 100000 in
theorem d_89_2 : decode (mB 89) 2 = .ok (.iload_n 1, 1) := by decide +kernel
set_option maxRecDepth 100000 in
theorem d_89_3 : decode (mB 89) 3 = .ok (.iload_n 2, 1) := by decide +kernel
set_option maxRecDepth 100000 in
theorem d_89_4 : decode (mB 89) 4 = .ok (.iload_n 3, 1) := by decide +kernel
set_option maxRecDepth 100000 in
theorem d_89_5 : decode (mB 89) 5 = .ok (.invokevirtual 184, 3) := by decide +kernel
set_option maxRecDepth 100000 in
theorem d_89_8 : decode (mB 89) 8 = .ok (.putfield 88, 3) := by decide +kernel
set_option maxRecDepth 100000 in
theorem d_89_11 : decode (mB 89) 11 = .ok (.aload_n 0, 1) := by decide +kernel
set_option maxRecDepth 100000 in
theorem d_89_12 : decode (mB 89) 12 = .ok (.getfield 88, 3) := by decide +kernel
set_option maxRecDepth 100000 in
theorem d_89_15 : decode (mB 89) 15 = .ok (.ifCond .eq 7, 3) := by decide +kernel
set_option maxRecDepth 100000 in
theorem d_89_18 : decode (mB 89) 18 = .ok (.iconst 0, 1) := by decide +kernel
set_option maxRecDepth 100000 in
theorem d_89_19 : decode (mB 89) 19 = .ok (.goto 10, 3) := by decide +kernel
set_option maxRecDepth 100000 in
theorem d_89_29 : decode (mB 89) 29 = .ok (.ireturn, 1) := by decide +kernel
set_option maxRecDepth 100000 in
theorem c_91_184 : cvP 91 184 81 3 := ⟨cd_81, okk_w (k := 1373) (by decide +kernel), okk_w (k := 1375) (by decide +kernel), okk_w (k := 39) (by decide +kernel), by decide +kernel, by decide +kernel⟩
set_option maxRecDepth 100000 in
theorem d_91_0 : decode (mB 91) 0 = .ok (.aload_n 0, 1) := by decide +kernel
set_option maxRecDepth 100000 in
theorem d_91_1 : decode (mB 91) 1 = .ok (.aload_n 0, 1) := by decide +kernel
set_option maxRecDepth 100000 in
theorem d_91_2 : decode (mB 91) 2 = .ok (.iload_n 1, 1) := by decide +kernel
set_option maxRecDepth 100000 in
theorem d_91_3 : decode (mB 91) 3 = .ok (.iload_n 1, 1) := by decide +kernel
set_option maxRecDepth 100000 in
theorem d_91_4 : decode (mB 91) 4 = .ok (.iload_n 2, 1) := by decide +kernel
set_option maxRecDepth 100000 in
theorem d_91_5 : decode (mB 91) 5 = .ok (.invokevirtual 184, 3) := by decide +kernel
set_option maxRecDepth 100000 in
theorem d_91_8 : decode (mB 91) 8 = .ok (.putfield 88, 3) := by decide +kernel
set_option maxRecDepth 100000 in
theorem d_91_11 : decode (mB 91) 11 = .ok (.aload_n 0, 1) := by decide +kernel
set_option maxRecDepth 100000 in
theorem d_91_12 : decode (mB 91) 12 = .ok (.getfield 88, 3) := by decide +kernel
set_option maxRecDepth 100000 in
theorem d_91_15 : decode (mB 91) 15 = .ok (.ifCond .eq 5, 3) := by decide +kernel
set_option maxRecDepth 100000 in
theorem d_91_18 : decode (mB 91) 18 = .ok (.iconst 0, 1) := by decide +kernel
set_option maxRecDepth 100000 in
theorem d_91_19 : decode (mB 91) 19 = .ok (.ireturn, 1) := by decide +kernel
set_option maxRecDepth 100000 in
theorem c_92_184 : cvP 92 184 81 3 := ⟨cd_81, okk_w (k := 1373) (by decide +kernel), okk_w (k := 1375) (by decide +kernel), okk_w (k := 39) (by decide +kernel), by decide +kernel, by decide +kernel⟩
set_option maxRecDepth 100000 in
theorem d_92_0 : decode (mB 92) 0 = .ok (.aload_n 0, 1) := by decide +kernel
set_option maxRecDepth 100000 in
theorem d_92_1 : decode (mB 92) 1 = .ok (.aload_n 0, 1) := by decide +kernel
set_option maxRecDepth 100000 in
theorem d_92_2 : decode (mB 92) 2 = .ok (.iload_n 1, 1) := by decide +kernel
set_option maxRecDepth 100000 in
theorem d_92_3 : decode (mB 92) 3 = .ok (.iload_n 2, 1) := by decide +kernel
set_option maxRecDepth 100000 in
theorem d_92_4 : decode (mB 92) 4 = .ok (.iload_n 3, 1) := by decide +kernel
set_option maxRecDepth 100000 in
theorem d_92_5 : decode (mB 92) 5 = .ok (.invokevirtual 184, 3) := by decide +kernel
set_option maxRecDepth 100000 in
theorem d_92_8 : decode (mB 92) 8 = .ok (.putfield 88, 3) := by decide +kernel
set_option maxRecDepth 100000 in
theorem d_92_11 : decode (mB 92) 11 = .ok (.aload_n 0, 1) := by decide +kernel
set_option maxRecDepth 100000 in
theorem d_92_12 : decode (mB 92) 12 = .ok (.getfield 88, 3) := by decide +kernel
set_option maxRecDepth 100000 in
theorem d_92_15 : decode (mB 92) 15 = .ok (.ifCond .eq 5, 3) := by decide +kernel
set_option maxRecDepth 100000 in
theorem d_92_18 : decode (mB 92) 18 = .ok (.iconst 0, 1) := by decide +kernel
set_option maxRecDepth 100000 in
theorem d_92_19 : decode (mB 92) 19 = .ok (.ireturn, 1) := by decide +kernel
set_option maxRecDepth 100000 in
theorem c_96_184 : cvP 96 184 81 3 := ⟨cd_81, okk_w (k := 1373) (by decide +kernel), okk_w (k := 1375) (by decide +kernel), okk_w (k := 39) (by decide +kernel), by decide +kernel, by decide +kernel⟩
set_option maxRecDepth 100000 in
theorem d_96_0 : decode (mB 96) 0 = .ok (.aload_n 0, 1) := by decide +kernel
set_option maxRecDepth 100000 in
theorem d_96_1 : decode (mB 96) 1 = .ok (.aload_n 0, 1) := by decide +kernel
set_option maxRecDepth 100000 in
theorem d_96_2 : decode (mB 96) 2 = .ok (.iload_n 1, 1) := by decide +kernel
set_option maxRecDepth 100000 in
theorem d_96_3 : decode (mB 96) 3 = .ok (.iload_n 2, 1) := by decide +kernel
set_option maxRecDepth 100000 in
theorem d_96_4 : decode (mB 96) 4 = .ok (.iload_n 3, 1) := by decide +kernel
set_option maxRecDepth 100000 in
theorem d_96_5 : decode (mB 96) 5 = .ok (.invokevirtual 184, 3) := by decide +kernel
set_option maxRecDepth 100000 in
theorem d_96_8 : decode (mB 96) 8 = .ok (.putfield 88, 3) := by decide +kernel
set_option maxRecDepth 100000 in
theorem d_96_11 : decode (mB 96) 11 = .ok (.aload_n 0, 1) := by decide +kernel
set_option maxRecDepth 100000 in
theorem d_96_12 : decode (mB 96) 12 = .ok (.getfield 88, 3) := by decide +kernel
set_option maxRecDepth 100000 in
theorem d_96_15 : decode (mB 96) 15 = .ok (.ifCond .eq 7, 3) := by decide +kernel
set_option maxRecDepth 100000 in
theorem d_96_18 : decode (mB 96) 18 = .ok (.iconst 0, 1) := by decide +kernel
set_option maxRecDepth 100000 in
theorem d_96_19 : decode (mB 96) 19 = .ok (.goto 10, 3) := by decide +kernel
set_option maxRecDepth 100000 in
theorem d_96_29 : decode (mB 96) 29 = .ok (.ireturn, 1) := by decide +kernel
set_option maxRecDepth 100000 in
theorem c_100_184 : cvP 100 184 81 3 := ⟨cd_81, okk_w (k := 1373) (by decide +kernel), okk_w (k := 1375) (by decide +kernel), okk_w (k := 39) (by decide +kernel), by decide +kernel, by decide +kernel⟩
set_option maxRecDepth 100000 in
theorem d_100_0 : decode (mB 100) 0 = .ok (.aload_n 0, 1) := by decide +kernel
set_option maxRecDepth 100000 in
theorem d_100_1 : decode (mB 100) 1 = .ok (.aload_n 0, 1) := by decide +kernel
set_option maxRecDepth 100000 in
theorem d_100_2 : decode (mB 100) 2 = .ok (.iload_n 1, 1) := by decide +kernel
set_option maxRecDepth 100000 in
theorem d_100_3 : decode (mB 100) 3 = .ok (.iload_n 2, 1) := by decide +kernel
set_option maxRecDepth 100000 in
theorem d_100_4 : decode (mB 100) 4 = .ok (.iload_n 3, 1) := by decide +kernel
set_option maxRecDepth 100000 in
theorem d_100_5 : decode (mB 100) 5 = .ok (.invokevirtual 184, 3) := by decide +kernel
set_option maxRecDepth 100000 in
theorem d_100_8 : decode (mB 100) 8 = .ok (.putfield 88, 3) := by decide +kernel
set_option maxRecDepth 100000 in
theorem d_100_11 : decode (mB 100) 11 = .ok (.aload_n 0, 1) := by decide +kernel
set_option maxRecDepth 100000 in
theorem d_100_12 : decode (mB 100) 12 = .ok (.getfield 88, 3) := by decide +kernel
set_option maxRecDepth 100000 in
theorem d_100_15 : decode (mB 100) 15 = .ok (.ifCond .eq 5, 3) := by decide +kernel
set_option maxRecDepth 100000 in
theorem d_100_18 : decode (mB 100) 18 = .ok (.iconst 0, 1) := by decide +kernel
set_option maxRecDepth 100000 in
theorem d_100_19 : decode (mB 100) 19 = .ok (.ireturn, 1) := by decide +kernel
set_option maxRecDepth 100000 in
theorem c_104_125 : cvP 104 125 66 1 := ⟨cd_66, okk_w (k := 1312) (by decide +kernel), okk_w (k := 1314) (by decide +kernel), okk_w (k := 36) (by decide +kernel), by decide +kernel, by decide +kernel⟩
set_option maxRecDepth 100000 in
theorem d_104_0 : decode (mB 104) 0 = .ok (.aload_n 0, 1) := by decide +kernel
set_option maxRecDepth 100000 in
theorem d_104_1 : decode (mB 104) 1 = .ok (.aload_n 0, 1) := by decide +kernel
set_option maxRecDepth 100000 in
theorem d_104_2 : decode (mB 104) 2 = .ok (.getfield 61, 3) := by decide +kernel
set_option maxRecDepth 100000 in
theorem d_104_5 : decode (mB 104) 5 = .ok (.invokevirtual 125, 3) := by decide +kernel
set_option maxRecDepth 100000 in
theorem d_104_8 : decode (mB 104) 8 = .ok (.ireturn, 1) := by decide +kernel
set_option maxRecDepth 100000 in
theorem c_105_250 : cvP 105 250 106 2 := ⟨cd_106, okk_w (k := 1475) (by decide +kernel), okk_w (k := 1477) (by decide +kernel), okk_w (k := 54) (by decide +kernel), by decide +kernel, by decide +kernel⟩
set_option maxRecDepth 100000 in
theorem d_105_0 : decode (mB 105) 0 = .ok (.aload_n 0, 1) := by decide +kernel
set_option maxRecDepth 100000 in
theorem d_105_1 : decode (mB 105) 1 = .ok (.iload_n 1, 1) := by decide +kernel
set_option maxRecDepth 100000 in
theorem d_105_2 : decode (mB 105) 2 = .ok (.aload_n 0, 1) := by decide +kernel
set_option maxRecDepth 100000 in
theorem d_105_3 : decode (mB 105) 3 = .ok (.getfield 64, 3) := by decide +kernel
set_option maxRecDepth 100000 in
theorem d_105_6 : decode (mB 105) 6 = .ok (.invokevirtual 250, 3) := by decide +kernel
set_option maxRecDepth 100000 in
theorem d_105_9 : decode (mB 105) 9 = .ok (.ireturn, 1) := by decide +kernel
set_option maxRecDepth 100000 in
theorem d_106_0 : decode (mB 106) 0 = .ok (.aload_n 0, 1) := by decide +kernel
set_option maxRecDepth 100000 in
theorem d_106_1 : decode (mB 106) 1 = .ok (.aload_n 0, 1) := by decide +kernel
set_option maxRecDepth 100000 in
theorem d_106_2 : decode (mB 106) 2 = .ok (.getfield 61, 3) := by decide +kernel
set_option maxRecDepth 100000 in
theorem d_106_5 : decode (mB 106) 5 = .ok (.iconst (-1), 1) := by decide +kernel
set_option maxRecDepth 100000 in
theorem d_106_6 : decode (mB 106) 6 = .ok (.if_icmp .ne 7, 3) := by decide +kernel
set_option maxRecDepth 100000 in
theorem d_106_9 : decode (mB 106) 9 = .ok (.iconst 1, 1) := by decide +kernel
set_option maxRecDepth 100000 in
theorem d_106_10 : decode (mB 106) 10 = .ok (.goto 22, 3) := by decide +kernel
set_option maxRecDepth 100000 in
theorem d_106_32 : decode (mB 106) 32 = .ok (.putfield 88, 3) := by decide +kernel
set_option maxRecDepth 100000 in
theorem d_106_35 : decode (mB 106) 35 = .ok (.aload_n 0, 1) := by decide +kernel
set_option maxRecDepth 100000 in
theorem d_106_36 : decode (mB 106) 36 = .ok (.getfield 88, 3) := by decide +kernel
set_option maxRecDepth 100000 in
theorem d_106_39 : decode (mB 106) 39 = .ok (.ifCond .ne 9, 3) := by decide +kernel
set_option maxRecDepth 100000 in
theorem d_106_48 : decode (mB 106) 48 = .ok (.iconst 0, 1) := by decide +kernel
set_option maxRecDepth 100000 in
theorem d_106_49 : decode (mB 106) 49 = .ok (.ireturn, 1) := by decide +kernel
set_option maxRecDepth 100000 in
theorem c_107_250 : cvP 107 250 106 2 := ⟨cd_106, okk_w (k := 1475) (by decide +kernel), okk_w (k := 1477) (by decide +kernel), okk_w (k := 54) (by decide +kernel), by decide +kernel, by decide +kernel⟩
set_option maxRecDepth 100000 in
theorem d_107_0 : decode (mB 107) 0 = .ok (.aload_n 0, 1) := by decide +kernel
set_option maxRecDepth 100000 in
theorem d_107_1 : decode (mB 107) 1 = .ok (.iload_n 1, 1) := by decide +kernel
set_option maxRecDepth 100000 in
theorem d_107_2 : decode (mB 107) 2 = .ok (.aload_n 0, 1) := by decide +kernel
set_option maxRecDepth 100000 in
theorem d_107_3 : decode (mB 107) 3 = .ok (.getfield 79, 3) := by decide +kernel
set_option maxRecDepth 100000 in
theorem d_107_6 : decode (mB 107) 6 = .ok (.invokevirtual 250, 3) := by decide +kernel
set_option maxRecDepth 100000 in
theorem d_107_9 : decode (mB 107) 9 = .ok (.ireturn, 1) := by decide +kernel
set_option maxRecDepth 100000 in
theorem c_108_250 : cvP 108 250 106 2 := ⟨cd_106, okk_w (k := 1475) (by decide +kernel), okk_w (k := 1477) (by decide +kernel), okk_w (k := 54) (by decide +kernel), by decide +kernel, by decide +kernel⟩
set_option maxRecDepth 100000 in
theorem d_108_0 : decode (mB 108) 0 = .ok (.aload_n 0, 1) := by decide +kernel
set_option maxRecDepth 100000 in
theorem d_108_1 : decode (mB 108) 1 = .ok (.iload_n 1, 1) := by decide +kernel
set_option maxRecDepth 100000 in
theorem d_108_2 : decode (mB 108) 2 = .ok (.aload_n 0, 1) := by decide +kernel
set_option maxRecDepth 100000 in
theorem d_108_3 : decode (mB 108) 3 = .ok (.getfield 82, 3) := by decide +kernel
set_option maxRecDepth 100000 in
theorem d_108_6 : decode (mB 108) 6 = .ok (.invokevirtual 250, 3) := by decide +kernel
set_option maxRecDepth 100000 in
theorem d_108_9 : decode (mB 108) 9 = .ok (.ireturn, 1) := by decide +kernel
set_option maxRecDepth 100000 in
theorem c_109_250 : cvP 109 250 106 2 := ⟨cd_106, okk_w (k := 1475) (by decide +kernel), okk_w (k := 1477) (by decide +kernel), okk_w (k := 54) (by decide +kernel), by decide +kernel, by decide +kernel⟩
set_option maxRecDepth 100000 in
theorem d_109_0 : decode (mB 109) 0 = .ok (.aload_n 0, 1) := by decide +kernel
set_option maxRecDepth 100000 in
theorem d_109_1 : decode (mB 109) 1 = .ok (.iload_n 1, 1) := by decide +kernel
set_option maxRecDepth 100000 in
theorem d_109_2 : decode (mB 109) 2 = .ok (.aload_n 0, 1) := by decide +kernel
set_option maxRecDepth 100000 in
theorem d_109_3 : decode (mB 109) 3 = .ok (.getfield 85, 3) := by decide +kernel
set_option maxRecDepth 100000 in
theorem d_109_6 : decode (mB 109) 6 = .ok (.invokevirtual 250, 3) := by decide +kernel
set_option maxRecDepth 100000 in
theorem d_109_9 : decode (mB 109) 9 = .ok (.ireturn, 1) := by decide +kernel
set_option maxRecDepth 100000 in
theorem c_110_101 : cvP 110 101 53 1 := ⟨cd_53, okk_w (k := 1260) (by decide +kernel), okk_w (k := 1262) (by decide +kernel), okk_w (k := 31) (by decide +kernel), by decide +kernel, by decide +kernel⟩
set_option maxRecDepth 100000 in
theorem d_110_0 : decode (mB 110) 0 = .ok (.aload_n 0, 1) := by decide +kernel
set_option maxRecDepth 100000 in
theorem d_110_1 : decode (mB 110) 1 = .ok (.iconst 0, 1) := by decide +kernel
set_option maxRecDepth 100000 in
theorem d_110_2 : decode (mB 110) 2 = .ok (.putfield 88, 3) := by decide +kernel
set_option maxRecDepth 100000 in
theorem d_110_5 : decode (mB 110) 5 = .ok (.aload_n 0, 1) := by decide +kernel
set_option maxRecDepth 100000 in
theorem d_110_6 : decode (mB 110) 6 = .ok (.getfield 61, 3) := by decide +kernel
set_option maxRecDepth 100000 in
theorem d_110_9 : decode (mB 110) 9 = .ok (.iconst (-1), 1) := by decide +kernel
set_option maxRecDepth 100000 in
theorem d_110_10 : decode (mB 110) 10 = .ok (.if_icmp .ne 11, 3) := by decide +kernel
set_option maxRecDepth 100000 in
theorem d_110_13 : decode (mB 110) 13 = .ok (.aload_n 0, 1) := by decide +kernel
set_option maxRecDepth 100000 in
theorem d_110_14 : decode (mB 110) 14 = .ok (.iconst 1, 1) := by decide +kernel
set_option maxRecDepth 100000 in
theorem d_110_15 : decode (mB 110) 15 = .ok (.invokevirtual 101, 3) := by decide +kernel
set_option maxRecDepth 100000 in
theorem d_110_18 : decode (mB 110) 18 = .ok (.goto 7, 3) := by decide +kernel
set_option maxRecDepth 100000 in
theorem d_110_25 : decode (mB 110) 25 = .ok (.ireturn, 1) := by decide +kernel
set_option maxRecDepth 100000 in
theorem c_111_101 : cvP 111 101 53 1 := ⟨cd_53, okk_w (k := 1260) (by decide +kernel), okk_w (k := 1262) (by decide +kernel), okk_w (k := 31) (by decide +kernel), by decide +kernel, by decide +kernel⟩
set_option maxRecDepth 100000 in
theorem d_111_0 : decode (mB 111) 0 = .ok (.aload_n 0, 1) := by decide +kernel
set_option maxRecDepth 100000 in
theorem d_111_1 : decode (mB 111) 1 = .ok (.iconst 0, 1) := by decide +kernel
set_option maxRecDepth 100000 in
theorem d_111_2 : decode (mB 111) 2 = .ok (.putfield 88, 3) := by decide +kernel
set_option maxRecDepth 100000 in
theorem d_111_5 : decode (mB 111) 5 = .ok (.aload_n 0, 1) := by decide +kernel
set_option maxRecDepth 100000 in
theorem d_111_6 : decode (mB 111) 6 = .ok (.getfield 61, 3) := by decide +kernel
set_option maxRecDepth 100000 in
theorem d_111_9 : decode (mB 111) 9 = .ok (.iconst (-1), 1) := by decide +kernel
set_option maxRecDepth 100000 in
theorem d_111_10 : decode (mB 111) 10 = .ok (.if_icmp .ne 11, 3) := by decide +kernel
set_option maxRecDepth 100000 in
theorem d_111_13 : decode (mB 111) 13 = .ok (.aload_n 0, 1) := by decide +kernel
set_option maxRecDepth 100000 in
theorem d_111_14 : decode (mB 111) 14 = .ok (.iconst 1, 1) := by decide +kernel
set_option maxRecDepth 100000 in
theorem d_111_15 : decode (mB 111) 15 = .ok (.invokevirtual 101, 3) := by decide +kernel
set_option maxRecDepth 100000 in
theorem d_111_18 : decode (mB 111) 18 = .ok (.goto 7, 3) := by decide +kernel
set_option maxRecDepth 100000 in
theorem d_111_25 : decode (mB 111) 25 = .ok (.ireturn, 1) := by decide +kernel
set_option maxRecDepth 100000 in
theorem c_113_115 : cvP 113 115 59 1 := ⟨cd_59, okk_w (k := 1284) (by decide +kernel), okk_w (k := 1286) (by decide +kernel), okk_w (k := 33) (by decide +kernel), by decide +kernel, by decide +kernel⟩
set_option maxRecDepth 100000 in
theorem d_113_0 : decode (mB 113) 0 = .ok (.aload_n 0, 1) := by decide +kernel
set_option maxRecDepth 100000 in
theorem d_113_1 : decode (mB 113) 1 = .ok (.iconst 0, 1) := by decide +kernel
set_option maxRecDepth 100000 in
theorem d_113_2 : decode (mB 113) 2 = .ok (.putfield 88, 3) := by decide +kernel
set_option maxRecDepth 100000 in
theorem d_113_5 : decode (mB 113) 5 = .ok (.aload_n 0, 1) := by decide +kernel
set_option maxRecDepth 100000 in
theorem d_113_6 : decode (mB 113) 6 = .ok (.getfield 61, 3) := by decide +kernel
set_option maxRecDepth 100000 in
theorem d_113_9 : decode (mB 113) 9 = .ok (.iconst (-1), 1) := by decide +kernel
set_option maxRecDepth 100000 in
theorem d_113_10 : decode (mB 113) 10 = .ok (.if_icmp .ne 11, 3) := by decide +kernel
set_option maxRecDepth 100000 in
theorem d_113_13 : decode (mB 113) 13 = .ok (.aload_n 0, 1) := by decide +kernel
set_option maxRecDepth 100000 in
theorem d_113_14 : decode (mB 113) 14 = .ok (.iconst 1, 1) := by decide +kernel
set_option maxRecDepth 100000 in
theorem d_113_15 : decode (mB 113) 15 = .ok (.invokevirtual 115, 3) := by decide +kernel
set_option maxRecDepth 100000 in
theorem d_113_18 : decode (mB 113) 18 = .ok (.goto 7, 3) := by decide +kernel
set_option maxRecDepth 100000 in
theorem d_113_25 : decode (mB 113) 25 = .ok (.ireturn, 1) := by decide +kernel
set_option maxRecDepth 100000 in
theorem c_115_101 : cvP 115 101 53 1 := ⟨cd_53, okk_w (k := 1260) (by decide +kernel), okk_w (k := 1262) (by decide +kernel), okk_w (k := 31) (by decide +kernel), by decide +kernel, by decide +kernel⟩
set_option maxRecDepth 100000 in
theorem d_115_0 : decode (mB 115) 0 = .ok (.aload_n 0, 1) := by decide +kernel
set_option maxRecDepth 100000 in
theorem d_115_1 : decode (mB 115) 1 = .ok (.iconst 0, 1) := by decide +kernel
set_option maxRecDepth 100000 in
theorem d_115_2 : decode (mB 115) 2 = .ok (.putfield 88, 3) := by decide +kernel
set_option maxRecDepth 100000 in
theorem d_115_5 : decode (mB 115) 5 = .ok (.aload_n 0, 1) := by decide +kernel
set_option maxRecDepth 100000 in
theorem d_115_6 : decode (mB 115) 6 = .ok (.getfield 61, 3) := by decide +kernel
set_option maxRecDepth 100000 in
theorem d_115_9 : decode (mB 115) 9 = .ok (.iconst (-1), 1) := by decide +kernel
set_option maxRecDepth 100000 in
theorem d_115_10 : decode (mB 115) 10 = .ok (.if_icmp .ne 9, 3) := by decide +kernel
set_option maxRecDepth 100000 in
theorem d_115_13 : decode (mB 115) 13 = .ok (.aload_n 0, 1) := by decide +kernel
set_option maxRecDepth 100000 in
theorem d_115_14 : decode (mB 115) 14 = .ok (.iconst 1, 1) := by decide +kernel
set_option maxRecDepth 100000 in
theorem d_115_15 : decode (mB 115) 15 = .ok (.invokevirtual 101, 3) := by decide +kernel
set_option maxRecDepth 100000 in
theorem d_115_18 : decode (mB 115) 18 = .ok (.ireturn, 1) := by decide +kernel
set_option maxRecDepth 100000 in
theorem d_116_0 : decode (mB 116) 0 = .ok (.aload_n 0, 1) := by decide +kernel
set_option maxRecDepth 100000 in
theorem d_116_1 : decode (mB 116) 1 = .ok (.iconst 0, 1) := by decide +kernel
set_option maxRecDepth 100000 in
theorem d_116_2 : decode (mB 116) 2 = .ok (.putfield 88, 3) := by decide +kernel
set_option maxRecDepth 100000 in
theorem d_116_5 : decode (mB 116) 5 = .ok (.aload_n 0, 1) := by decide +kernel
set_option maxRecDepth 100000 in
theorem d_116_6 : decode (mB 116) 6 = .ok (.getfield 61, 3) := by decide +kernel
set_option maxRecDepth 100000 in
theorem d_116_9 : decode (mB 116) 9 = .ok (.iconst 1, 1) := by decide +kernel
set_option maxRecDepth 100000 in
theorem d_116_10 : decode (mB 116) 10 = .ok (.if_icmp .lt 21, 3) := by decide +kernel
set_option maxRecDepth 100000 in
theorem d_116_31 : decode (mB 116) 31 = .ok (.dconst 0, 1) := by decide +kernel
set_option maxRecDepth 100000 in
theorem d_116_32 : decode (mB 116) 32 = .ok (.dreturn, 1) := by decide +kernel
set_option maxRecDepth 100000 in
theorem ck_1_261 : okw (.constantLong "WhistleStopModel" 261 (77593)) := okk_w (k := 1523) (by decide +kernel)
set_option maxRecDepth 100000 in
theorem ck_1_263 : okw (.constantLong "WhistleStopModel" 263 (31)) := okk_w (k := 1524) (by decide +kernel)
set_option maxRecDepth 100000 in
theorem d_117_0 : decode (mB 117) 0 = .ok (.aload_n 0, 1) := by decide +kernel
set_option maxRecDepth 100000 in
theorem d_117_1 : decode (mB 117) 1 = .ok (.iconst 0, 1) := by decide +kernel
set_option maxRecDepth 100000 in
theorem d_117_2 : decode (mB 117) 2 = .ok (.putfield 88, 3) := by decide +kernel
set_option maxRecDepth 100000 in
theorem d_117_5 : decode (mB 117) 5 = .ok (.ldc2_w 261, 3) := by decide +kernel
set_option maxRecDepth 100000 in
theorem d_117_8 : decode (mB 117) 8 = .ok (.aload_n 0, 1) := by decide +kernel
set_option maxRecDepth 100000 in
theorem d_117_9 : decode (mB 117) 9 = .ok (.getfield 91, 3) := by decide +kernel
set_option maxRecDepth 100000 in
theorem d_117_12 : decode (mB 117) 12 = .ok (.i2l, 1) := by decide +kernel
set_option maxRecDepth 100000 in
theorem d_117_13 : decode (mB 117) 13 = .ok (.ladd, 1) := by decide +kernel
set_option maxRecDepth 100000 in
theorem d_117_14 : decode (mB 117) 14 = .ok (.ldc2_w 263, 3) := by decide +kernel
set_option maxRecDepth 100000 in
theorem d_117_17 : decode (mB 117) 17 = .ok (.lmul, 1) := by decide +kernel
set_option maxRecDepth 100000 in
theorem d_117_18 : decode (mB 117) 18 = .ok (.aload_n 0, 1) := by decide +kernel
set_option maxRecDepth 100000 in
theorem d_117_19 : decode (mB 117) 19 = .ok (.getfield 98, 3) := by decide +kernel
set_option maxRecDepth 100000 in
theorem d_117_22 : decode (mB 117) 22 = .ok (.i2l, 1) := by decide +kernel
set_option maxRecDepth 100000 in
theorem d_117_23 : decode (mB 117) 23 = .ok (.ladd, 1) := by decide +kernel
set_option maxRecDepth 100000 in
theorem d_117_24 : decode (mB 117) 24 = .ok (.lstore_n 1, 1) := by decide +kernel
set_option maxRecDepth 100000 in
theorem d_117_25 : decode (mB 117) 25 = .ok (.iconst 0, 1) := by decide +kernel
set_option maxRecDepth 100000 in
theorem d_117_26 : decode (mB 117) 26 = .ok (.istore_n 3, 1) := by decide +kernel
set_option maxRecDepth 100000 in
theorem d_117_27 : decode (mB 117) 27 = .ok (.iload_n 3, 1) := by decide +kernel
set_option maxRecDepth 100000 in
theorem d_117_28 : decode (mB 117) 28 = .ok (.aload_n 0, 1) := by decide +kernel
set_option maxRecDepth 100000 in
theorem d_117_29 : decode (mB 117) 29 = .ok (.getfield 98, 3) := by decide +kernel
set_option maxRecDepth 100000 in
theorem d_117_32 : decode (mB 117) 32 = .ok (.if_icmp .ge 60, 3) := by decide +kernel
set_option maxRecDepth 100000 in
theorem d_117_92 : decode (mB 117) 92 = .ok (.iconst 0, 1) := by decide +kernel
set_option maxRecDepth 100000 in
theorem d_117_93 : decode (mB 117) 93 = .ok (.istore_n 3, 1) := by decide +kernel
set_option maxRecDepth 100000 in
theorem d_117_94 : decode (mB 117) 94 = .ok (.iload_n 3, 1) := by decide +kernel
set_option maxRecDepth 100000 in
theorem d_117_95 : decode (mB 117) 95 = .ok (.aload_n 0, 1) := by decide +kernel
set_option maxRecDepth 100000 in
theorem d_117_96 : decode (mB 117) 96 = .ok (.getfield 98, 3) := by decide +kernel
set_option maxRecDepth 100000 in
theorem d_117_99 : decode (mB 117) 99 = .ok (.if_icmp .ge 40, 3) := by decide +kernel
set_option maxRecDepth 100000 in
theorem d_117_139 : decode (mB 117) 139 = .ok (.lload_n 1, 1) := by decide +kernel
set_option maxRecDepth 100000 in
theorem d_117_140 : decode (mB 117) 140 = .ok (.ldc2_w 263, 3) := by decide +kernel
set_option maxRecDepth 100000 in
theorem d_117_143 : decode (mB 117) 143 = .ok (.lmul, 1) := by decide +kernel
set_option maxRecDepth 100000 in
theorem d_117_144 : decode (mB 117) 144 = .ok (.aload_n 0, 1) := by decide +kernel
set_option maxRecDepth 100000 in
theorem d_117_145 : decode (mB 117) 145 = .ok (.getfield 61, 3) := by decide +kernel
set_option maxRecDepth 100000 in
theorem d_117_148 : decode (mB 117) 148 = .ok (.i2l, 1) := by decide +kernel
set_option maxRecDepth 100000 in
theorem d_117_149 : decode (mB 117) 149 = .ok (.ladd, 1) := by decide +kernel
set_option maxRecDepth 100000 in
theorem d_117_150 : decode (mB 117) 150 = .ok (.lstore_n 1, 1) := by decide +kernel
set_option maxRecDepth 100000 in
theorem d_117_151 : decode (mB 117) 151 = .ok (.aload_n 0, 1) := by decide +kernel
set_option maxRecDepth 100000 in
theorem d_117_152 : decode (mB 117) 152 = .ok (.getfield 61, 3) := by decide +kernel
set_option maxRecDepth 100000 in
theorem d_117_155 : decode (mB 117) 155 = .ok (.iconst (-1), 1) := by decide +kernel
set_option maxRecDepth 100000 in
theorem d_117_156 : decode (mB 117) 156 = .ok (.if_icmp .ne 5, 3) := by decide +kernel
set_option maxRecDepth 100000 in
theorem d_117_159 : decode (mB 117) 159 = .ok (.lload_n 1, 1) := by decide +kernel
set_option maxRecDepth 100000 in
theorem d_117_160 : decode (mB 117) 160 = .ok (.lreturn, 1) := by decide +kernel
set_option maxRecDepth 100000 in
theorem oi_2 : okw (.methodLink "WhistleStop$Backward" 3 Lib.objectInit) := okk_w (k := 224) (by decide +kernel)
set_option maxRecDepth 100000 in
theorem cl_2_9 : okw (.classLink "WhistleStop$Backward" 9 "[[I") := okk_w (k := 225) (by decide +kernel)
set_option maxRecDepth 100000 in
theorem fl_2_11 : flP "WhistleStop$Backward" 11 2 0 := ⟨_, rfl, by decide, okk_w (k := 226) (by decide +kernel)⟩
set_option maxRecDepth 100000 in
theorem fl_2_16 : flP "WhistleStop$Backward" 16 2 1 := ⟨_, rfl, by decide, okk_w (k := 227) (by decide +kernel)⟩
set_option maxRecDepth 100000 in
theorem d_118_0 : decode (mB 118) 0 = .ok (.aload_n 0, 1) := by decide +kernel
set_option maxRecDepth 100000 in
theorem d_118_1 : decode (mB 118) 1 = .ok (.invokespecial 3, 3) := by decide +kernel
set_option maxRecDepth 100000 in
theorem d_118_4 : decode (mB 118) 4 = .ok (.aload_n 0, 1) := by decide +kernel
set_option maxRecDepth 100000 in
theorem d_118_5 : decode (mB 118) 5 = .ok (.bipush 7, 2) := by decide +kernel
set_option maxRecDepth 100000 in
theorem d_118_7 : decode (mB 118) 7 = .ok (.bipush 16, 2) := by decide +kernel
set_option maxRecDepth 100000 in
theorem d_118_9 : decode (mB 118) 9 = .ok (.multianewarray 9 2, 4) := by decide +kernel
set_option maxRecDepth 100000 in
theorem d_118_13 : decode (mB 118) 13 = .ok (.putfield 11, 3) := by decide +kernel
set_option maxRecDepth 100000 in
theorem d_118_16 : decode (mB 118) 16 = .ok (.aload_n 0, 1) := by decide +kernel
set_option maxRecDepth 100000 in
theorem d_118_17 : decode (mB 118) 17 = .ok (.bipush 7, 2) := by decide +kernel
set_option maxRecDepth 100000 in
theorem d_118_19 : decode (mB 118) 19 = .ok (.bipush 16, 2) := by decide +kernel
set_option maxRecDepth 100000 in
theorem d_118_21 : decode (mB 118) 21 = .ok (.multianewarray 9 2, 4) := by decide +kernel
set_option maxRecDepth 100000 in
theorem d_118_25 : decode (mB 118) 25 = .ok (.putfield 16, 3) := by decide +kernel
set_option maxRecDepth 100000 in
theorem d_118_28 : decode (mB 118) 28 = .ok (.return_, 1) := by decide +kernel
set_option maxRecDepth 100000 in
theorem oi_3 : okw (.methodLink "WhistleStop$Board" 3 Lib.objectInit) := okk_w (k := 188) (by decide +kernel)
set_option maxRecDepth 100000 in
theorem fl_3_9 : flP "WhistleStop$Board" 9 3 0 := ⟨_, rfl, by decide, okk_w (k := 189) (by decide +kernel)⟩
set_option maxRecDepth 100000 in
theorem d_126_0 : decode (mB 126) 0 = .ok (.aload_n 0, 1) := by decide +kernel
set_option maxRecDepth 100000 in
theorem d_126_1 : decode (mB 126) 1 = .ok (.invokespecial 3, 3) := by decide +kernel
set_option maxRecDepth 100000 in
theorem d_126_4 : decode (mB 126) 4 = .ok (.aload_n 0, 1) := by decide +kernel
set_option maxRecDepth 100000 in
theorem d_126_5 : decode (mB 126) 5 = .ok (.sipush 1344, 3) := by decide +kernel
set_option maxRecDepth 100000 in
theorem d_126_8 : decode (mB 126) 8 = .ok (.newarray .long, 2) := by decide +kernel
set_option maxRecDepth 100000 in
theorem d_126_10 : decode (mB 126) 10 = .ok (.putfield 9, 3) := by decide +kernel
set_option maxRecDepth 100000 in
theorem d_126_13 : decode (mB 126) 13 = .ok (.return_, 1) := by decide +kernel
set_option maxRecDepth 100000 in
theorem fl_4_9 : flP "WhistleStop$Calendar" 9 4 3 := ⟨_, rfl, by decide, okk_w (k := 620) (by decide +kernel)⟩
set_option maxRecDepth 100000 in
theorem fl_4_19 : flP "WhistleStop$Calendar" 19 4 1 := ⟨_, rfl, by decide, okk_w (k := 618) (by decide +kernel)⟩
set_option maxRecDepth 100000 in
theorem fl_4_22 : flP "WhistleStop$Calendar" 22 4 2 := ⟨_, rfl, by decide, okk_w (k := 619) (by decide +kernel)⟩
set_option maxRecDepth 100000 in
theorem fl_4_15 : flP "WhistleStop$Calendar" 15 4 0 := ⟨_, rfl, by decide, okk_w (k := 617) (by decide +kernel)⟩
set_option maxRecDepth 100000 in
theorem oi_4 : okw (.methodLink "WhistleStop$Calendar" 3 Lib.objectInit) := okk_w (k := 616) (by decide +kernel)
set_option maxRecDepth 100000 in
theorem d_132_0 : decode (mB 132) 0 = .ok (.aload_n 0, 1) := by decide +kernel
set_option maxRecDepth 100000 in
theorem d_132_1 : decode (mB 132) 1 = .ok (.invokespecial 3, 3) := by decide +kernel
set_option maxRecDepth 100000 in
theorem d_132_4 : decode (mB 132) 4 = .ok (.aload_n 0, 1) := by decide +kernel
set_option maxRecDepth 100000 in
theorem d_132_5 : decode (mB 132) 5 = .ok (.sipush 366, 3) := by decide +kernel
set_option maxRecDepth 100000 in
theorem d_132_8 : decode (mB 132) 8 = .ok (.newarray .int, 2) := by decide +kernel
set_option maxRecDepth 100000 in
theorem d_132_10 : decode (mB 132) 10 = .ok (.putfield 9, 3) := by decide +kernel
set_option maxRecDepth 100000 in
theorem d_132_13 : decode (mB 132) 13 = .ok (.aload_n 0, 1) := by decide +kernel
set_option maxRecDepth 100000 in
theorem d_132_14 : decode (mB 132) 14 = .ok (.iload_n 1, 1) := by decide +kernel
set_option maxRecDepth 100000 in
theorem d_132_15 : decode (mB 132) 15 = .ok (.putfield 15, 3) := by decide +kernel
set_option maxRecDepth 100000 in
theorem d_132_18 : decode (mB 132) 18 = .ok (.aload_n 0, 1) := by decide +kernel
set_option maxRecDepth 100000 in
theorem d_132_19 : decode (mB 132) 19 = .ok (.iload_n 2, 1) := by decide +kernel
set_option maxRecDepth 100000 in
theorem d_132_20 : decode (mB 132) 20 = .ok (.putfield 19, 3) := by decide +kernel
set_option maxRecDepth 100000 in
theorem d_132_23 : decode (mB 132) 23 = .ok (.aload_n 0, 1) := by decide +kernel
set_option maxRecDepth 100000 in
theorem d_132_24 : decode (mB 132) 24 = .ok (.iload_n 3, 1) := by decide +kernel
set_option maxRecDepth 100000 in
theorem d_132_25 : decode (mB 132) 25 = .ok (.putfield 22, 3) := by decide +kernel
set_option maxRecDepth 100000 in
theorem d_132_28 : decode (mB 132) 28 = .ok (.return_, 1) := by decide +kernel
set_option maxRecDepth 100000 in
theorem oi_5 : okw (.methodLink "WhistleStop$Fares" 3 Lib.objectInit) := okk_w (k := 245) (by decide +kernel)
set_option maxRecDepth 100000 in
theorem cl_5_9 : okw (.classLink "WhistleStop$Fares" 9 "WhistleStop$Offers") := okk_w (k := 246) (by decide +kernel)
set_option maxRecDepth 100000 in
theorem fl_5_11 : flP "WhistleStop$Fares" 11 5 0 := ⟨_, rfl, by decide, okk_w (k := 264) (by decide +kernel)⟩
set_option maxRecDepth 100000 in
theorem fl_5_17 : flP "WhistleStop$Fares" 17 5 1 := ⟨_, rfl, by decide, okk_w (k := 265) (by decide +kernel)⟩
set_option maxRecDepth 100000 in
theorem c_133_20 : cinP 133 20 157 0 := ⟨cd_157, ⟨"WhistleStop", okk_w (k := 249) (by decide +kernel)⟩, okk_w (k := 250) (by decide +kernel), by decide +kernel, by decide +kernel, by decide +kernel⟩
set_option maxRecDepth 100000 in
theorem d_133_0 : decode (mB 133) 0 = .ok (.aload_n 0, 1) := by decide +kernel
set_option maxRecDepth 100000 in
theorem d_133_1 : decode (mB 133) 1 = .ok (.invokespecial 3, 3) := by decide +kernel
set_option maxRecDepth 100000 in
theorem d_133_4 : decode (mB 133) 4 = .ok (.aload_n 0, 1) := by decide +kernel
set_option maxRecDepth 100000 in
theorem d_133_5 : decode (mB 133) 5 = .ok (.bipush 16, 2) := by decide +kernel
set_option maxRecDepth 100000 in
theorem d_133_7 : decode (mB 133) 7 = .ok (.anewarray 9, 3) := by decide +kernel
set_option maxRecDepth 100000 in
theorem d_133_10 : decode (mB 133) 10 = .ok (.putfield 11, 3) := by decide +kernel
set_option maxRecDepth 100000 in
theorem d_133_13 : decode (mB 133) 13 = .ok (.aload_n 0, 1) := by decide +kernel
set_option maxRecDepth 100000 in
theorem d_133_14 : decode (mB 133) 14 = .ok (.bipush 16, 2) := by decide +kernel
set_option maxRecDepth 100000 in
theorem d_133_16 : decode (mB 133) 16 = .ok (.anewarray 9, 3) := by decide +kernel
set_option maxRecDepth 100000 in
theorem d_133_19 : decode (mB 133) 19 = .ok (.putfield 17, 3) := by decide +kernel
set_option maxRecDepth 100000 in
theorem d_133_22 : decode (mB 133) 22 = .ok (.iconst 0, 1) := by decide +kernel
set_option maxRecDepth 100000 in
theorem d_133_23 : decode (mB 133) 23 = .ok (.istore_n 1, 1) := by decide +kernel
set_option maxRecDepth 100000 in
theorem d_133_24 : decode (mB 133) 24 = .ok (.iload_n 1, 1) := by decide +kernel
set_option maxRecDepth 100000 in
theorem d_133_25 : decode (mB 133) 25 = .ok (.bipush 16, 2) := by decide +kernel
set_option maxRecDepth 100000 in
theorem d_133_27 : decode (mB 133) 27 = .ok (.if_icmp .ge 35, 3) := by decide +kernel
set_option maxRecDepth 100000 in
theorem d_133_30 : decode (mB 133) 30 = .ok (.aload_n 0, 1) := by decide +kernel
set_option maxRecDepth 100000 in
theorem d_133_31 : decode (mB 133) 31 = .ok (.getfield 11, 3) := by decide +kernel
set_option maxRecDepth 100000 in
theorem d_133_34 : decode (mB 133) 34 = .ok (.iload_n 1, 1) := by decide +kernel
set_option maxRecDepth 100000 in
theorem d_133_35 : decode (mB 133) 35 = .ok (.new 9, 3) := by decide +kernel
set_option maxRecDepth 100000 in
theorem d_133_38 : decode (mB 133) 38 = .ok (.dup, 1) := by decide +kernel
set_option maxRecDepth 100000 in
theorem d_133_39 : decode (mB 133) 39 = .ok (.invokespecial 20, 3) := by decide +kernel
set_option maxRecDepth 100000 in
theorem d_133_42 : decode (mB 133) 42 = .ok (.aastore, 1) := by decide +kernel
set_option maxRecDepth 100000 in
theorem d_133_43 : decode (mB 133) 43 = .ok (.aload_n 0, 1) := by decide +kernel
set_option maxRecDepth 100000 in
theorem d_133_44 : decode (mB 133) 44 = .ok (.getfield 17, 3) := by decide +kernel
set_option maxRecDepth 100000 in
theorem d_133_47 : decode (mB 133) 47 = .ok (.iload_n 1, 1) := by decide +kernel
set_option maxRecDepth 100000 in
theorem d_133_48 : decode (mB 133) 48 = .ok (.new 9, 3) := by decide +kernel
set_option maxRecDepth 100000 in
theorem d_133_51 : decode (mB 133) 51 = .ok (.dup, 1) := by decide +kernel
set_option maxRecDepth 100000 in
theorem d_133_52 : decode (mB 133) 52 = .ok (.invokespecial 20, 3) := by decide +kernel
set_option maxRecDepth 100000 in
theorem d_133_55 : decode (mB 133) 55 = .ok (.aastore, 1) := by decide +kernel
set_option maxRecDepth 100000 in
theorem d_133_56 : decode (mB 133) 56 = .ok (.iinc 1 1, 3) := by decide +kernel
set_option maxRecDepth 100000 in
theorem d_133_59 : decode (mB 133) 59 = .ok (.goto (-35), 3) := by decide +kernel
set_option maxRecDepth 100000 in
theorem d_133_62 : decode (mB 133) 62 = .ok (.return_, 1) := by decide +kernel
set_option maxRecDepth 100000 in
theorem oi_7 : okw (.methodLink "WhistleStop$Journey" 3 Lib.objectInit) := okk_w (k := 285) (by decide +kernel)
set_option maxRecDepth 100000 in
theorem cl_7_9 : okw (.classLink "WhistleStop$Journey" 9 "WhistleStop$Trip") := okk_w (k := 286) (by decide +kernel)
set_option maxRecDepth 100000 in
theorem fl_7_11 : flP "WhistleStop$Journey" 11 7 5 := ⟨_, rfl, by decide, okk_w (k := 297) (by decide +kernel)⟩
set_option maxRecDepth 100000 in
theorem fl_7_17 : flP "WhistleStop$Journey" 17 7 6 := ⟨_, rfl, by decide, okk_w (k := 298) (by decide +kernel)⟩
set_option maxRecDepth 100000 in
theorem fl_7_21 : flP "WhistleStop$Journey" 21 7 7 := ⟨_, rfl, by decide, okk_w (k := 299) (by decide +kernel)⟩
set_option maxRecDepth 100000 in
theorem fl_7_24 : flP "WhistleStop$Journey" 24 7 8 := ⟨_, rfl, by decide, okk_w (k := 300) (by decide +kernel)⟩
set_option maxRecDepth 100000 in
theorem fl_7_27 : flP "WhistleStop$Journey" 27 7 9 := ⟨_, rfl, by decide, okk_w (k := 301) (by decide +kernel)⟩
set_option maxRecDepth 100000 in
theorem fl_7_30 : flP "WhistleStop$Journey" 30 7 10 := ⟨_, rfl, by decide, okk_w (k := 303) (by decide +kernel)⟩
set_option maxRecDepth 100000 in
theorem fl_7_33 : flP "WhistleStop$Journey" 33 7 11 := ⟨_, rfl, by decide, okk_w (k := 305) (by decide +kernel)⟩
set_option maxRecDepth 100000 in
theorem d_141_0 : decode (mB 141) 0 = .ok (.aload_n 0, 1) := by decide +kernel
set_option maxRecDepth 100000 in
theorem d_141_1 : decode (mB 141) 1 = .ok (.invokespecial 3, 3) := by decide +kernel
set_option maxRecDepth 100000 in
theorem d_141_4 : decode (mB 141) 4 = .ok (.aload_n 0, 1) := by decide +kernel
set_option maxRecDepth 100000 in
theorem d_141_5 : decode (mB 141) 5 = .ok (.bipush 13, 2) := by decide +kernel
set_option maxRecDepth 100000 in
theorem d_141_7 : decode (mB 141) 7 = .ok (.anewarray 9, 3) := by decide +kernel
set_option maxRecDepth 100000 in
theorem d_141_10 : decode (mB 141) 10 = .ok (.putfield 11, 3) := by decide +kernel
set_option maxRecDepth 100000 in
theorem d_141_13 : decode (mB 141) 13 = .ok (.aload_n 0, 1) := by decide +kernel
set_option maxRecDepth 100000 in
theorem d_141_14 : decode (mB 141) 14 = .ok (.bipush 13, 2) := by decide +kernel
set_option maxRecDepth 100000 in
theorem d_141_16 : decode (mB 141) 16 = .ok (.newarray .int, 2) := by decide +kernel
set_option maxRecDepth 100000 in
theorem d_141_18 : decode (mB 141) 18 = .ok (.putfield 17, 3) := by decide +kernel
set_option maxRecDepth 100000 in
theorem d_141_21 : decode (mB 141) 21 = .ok (.aload_n 0, 1) := by decide +kernel
set_option maxRecDepth 100000 in
theorem d_141_22 : decode (mB 141) 22 = .ok (.bipush 13, 2) := by decide +kernel
set_option maxRecDepth 100000 in
theorem d_141_24 : decode (mB 141) 24 = .ok (.newarray .int, 2) := by decide +kernel
set_option maxRecDepth 100000 in
theorem d_141_26 : decode (mB 141) 26 = .ok (.putfield 21, 3) := by decide +kernel
set_option maxRecDepth 100000 in
theorem d_141_29 : decode (mB 141) 29 = .ok (.aload_n 0, 1) := by decide +kernel
set_option maxRecDepth 100000 in
theorem d_141_30 : decode (mB 141) 30 = .ok (.bipush 13, 2) := by decide +kernel
set_option maxRecDepth 100000 in
theorem d_141_32 : decode (mB 141) 32 = .ok (.newarray .int, 2) := by decide +kernel
set_option maxRecDepth 100000 in
theorem d_141_34 : decode (mB 141) 34 = .ok (.putfield 24, 3) := by decide +kernel
set_option maxRecDepth 100000 in
theorem d_141_37 : decode (mB 141) 37 = .ok (.aload_n 0, 1) := by decide +kernel
set_option maxRecDepth 100000 in
theorem d_141_38 : decode (mB 141) 38 = .ok (.bipush 13, 2) := by decide +kernel
set_option maxRecDepth 100000 in
theorem d_141_40 : decode (mB 141) 40 = .ok (.newarray .int, 2) := by decide +kernel
set_option maxRecDepth 100000 in
theorem d_141_42 : decode (mB 141) 42 = .ok (.putfield 27, 3) := by decide +kernel
set_option maxRecDepth 100000 in
theorem d_141_45 : decode (mB 141) 45 = .ok (.aload_n 0, 1) := by decide +kernel
set_option maxRecDepth 100000 in
theorem d_141_46 : decode (mB 141) 46 = .ok (.bipush 13, 2) := by decide +kernel
set_option maxRecDepth 100000 in
theorem d_141_48 : decode (mB 141) 48 = .ok (.newarray .int, 2) := by decide +kernel
set_option maxRecDepth 100000 in
theorem d_141_50 : decode (mB 141) 50 = .ok (.putfield 30, 3) := by decide +kernel
set_option maxRecDepth 100000 in
theorem d_141_53 : decode (mB 141) 53 = .ok (.aload_n 0, 1) := by decide +kernel
set_option maxRecDepth 100000 in
theorem d_141_54 : decode (mB 141) 54 = .ok (.bipush 13, 2) := by decide +kernel
set_option maxRecDepth 100000 in
theorem d_141_56 : decode (mB 141) 56 = .ok (.newarray .int, 2) := by decide +kernel
set_option maxRecDepth 100000 in
theorem d_141_58 : decode (mB 141) 58 = .ok (.putfield 33, 3) := by decide +kernel
set_option maxRecDepth 100000 in
theorem d_141_61 : decode (mB 141) 61 = .ok (.return_, 1) := by decide +kernel
set_option maxRecDepth 100000 in
theorem oi_8 : okw (.methodLink "WhistleStop$Network" 3 Lib.objectInit) := okk_w (k := 93) (by decide +kernel)
set_option maxRecDepth 100000 in
theorem fl_8_9 : flP "WhistleStop$Network" 9 8 0 := ⟨_, rfl, by decide, okk_w (k := 100) (by decide +kernel)⟩
set_option maxRecDepth 100000 in
theorem cl_8_15 : okw (.classLink "WhistleStop$Network" 15 "WhistleStop$Footway") := okk_w (k := 94) (by decide +kernel)
set_option maxRecDepth 100000 in
theorem fl_8_17 : flP "WhistleStop$Network" 17 8 1 := ⟨_, rfl, by decide, okk_w (k := 106) (by decide +kernel)⟩
set_option maxRecDepth 100000 in
theorem cl_8_21 : okw (.classLink "WhistleStop$Network" 21 "WhistleStop$Calendar") := okk_w (k := 96) (by decide +kernel)
set_option maxRecDepth 100000 in
theorem fl_8_23 : flP "WhistleStop$Network" 23 8 2 := ⟨_, rfl, by decide, okk_w (k := 112) (by decide +kernel)⟩
set_option maxRecDepth 100000 in
theorem cl_8_27 : okw (.classLink "WhistleStop$Network" 27 "WhistleStop$Trip") := okk_w (k := 98) (by decide +kernel)
set_option maxRecDepth 100000 in
theorem fl_8_29 : flP "WhistleStop$Network" 29 8 3 := ⟨_, rfl, by decide, okk_w (k := 114) (by decide +kernel)⟩
set_option maxRecDepth 100000 in
theorem d_156_0 : decode (mB 156) 0 = .ok (.aload_n 0, 1) := by decide +kernel
set_option maxRecDepth 100000 in
theorem d_156_1 : decode (mB 156) 1 = .ok (.invokespecial 3, 3) := by decide +kernel
set_option maxRecDepth 100000 in
theorem d_156_4 : decode (mB 156) 4 = .ok (.aload_n 0, 1) := by decide +kernel
set_option maxRecDepth 100000 in
theorem d_156_5 : decode (mB 156) 5 = .ok (.bipush 16, 2) := by decide +kernel
set_option maxRecDepth 100000 in
theorem d_156_7 : decode (mB 156) 7 = .ok (.newarray .int, 2) := by decide +kernel
set_option maxRecDepth 100000 in
theorem d_156_9 : decode (mB 156) 9 = .ok (.putfield 9, 3) := by decide +kernel
set_option maxRecDepth 100000 in
theorem d_156_12 : decode (mB 156) 12 = .ok (.aload_n 0, 1) := by decide +kernel
set_option maxRecDepth 100000 in
theorem d_156_13 : decode (mB 156) 13 = .ok (.bipush 20, 2) := by decide +kernel
set_option maxRecDepth 100000 in
theorem d_156_15 : decode (mB 156) 15 = .ok (.anewarray 15, 3) := by decide +kernel
set_option maxRecDepth 100000 in
theorem d_156_18 : decode (mB 156) 18 = .ok (.putfield 17, 3) := by decide +kernel
set_option maxRecDepth 100000 in
theorem d_156_21 : decode (mB 156) 21 = .ok (.aload_n 0, 1) := by decide +kernel
set_option maxRecDepth 100000 in
theorem d_156_22 : decode (mB 156) 22 = .ok (.bipush 6, 2) := by decide +kernel
set_option maxRecDepth 100000 in
theorem d_156_24 : decode (mB 156) 24 = .ok (.anewarray 21, 3) := by decide +kernel
set_option maxRecDepth 100000 in
theorem d_156_27 : decode (mB 156) 27 = .ok (.putfield 23, 3) := by decide +kernel
set_option maxRecDepth 100000 in
theorem d_156_30 : decode (mB 156) 30 = .ok (.aload_n 0, 1) := by decide +kernel
set_option maxRecDepth 100000 in
theorem d_156_31 : decode (mB 156) 31 = .ok (.bipush 24, 2) := by decide +kernel
set_option maxRecDepth 100000 in
theorem d_156_33 : decode (mB 156) 33 = .ok (.anewarray 27, 3) := by decide +kernel
set_option maxRecDepth 100000 in
theorem d_156_36 : decode (mB 156) 36 = .ok (.putfield 29, 3) := by decide +kernel
set_option maxRecDepth 100000 in
theorem d_156_39 : decode (mB 156) 39 = .ok (.return_, 1) := by decide +kernel
set_option maxRecDepth 100000 in
theorem oi_9 : okw (.methodLink "WhistleStop$Offers" 3 Lib.objectInit) := okk_w (k := 252) (by decide +kernel)
set_option maxRecDepth 100000 in
theorem fl_9_11 : flP "WhistleStop$Offers" 11 9 0 := ⟨_, rfl, by decide, okk_w (k := 253) (by decide +kernel)⟩
set_option maxRecDepth 100000 in
theorem fl_9_15 : flP "WhistleStop$Offers" 15 9 1 := ⟨_, rfl, by decide, okk_w (k := 254) (by decide +kernel)⟩
set_option maxRecDepth 100000 in
theorem d_157_0 : decode (mB 157) 0 = .ok (.aload_n 0, 1) := by decide +kernel
set_option maxRecDepth 100000 in
theorem d_157_1 : decode (mB 157) 1 = .ok (.invokespecial 3, 3) := by decide +kernel
set_option maxRecDepth 100000 in
theorem d_157_4 : decode (mB 157) 4 = .ok (.aload_n 0, 1) := by decide +kernel
set_option maxRecDepth 100000 in
theorem d_157_5 : decode (mB 157) 5 = .ok (.bipush 16, 2) := by decide +kernel
set_option maxRecDepth 100000 in
theorem d_157_7 : decode (mB 157) 7 = .ok (.newarray .int, 2) := by decide +kernel
set_option maxRecDepth 100000 in
theorem d_157_9 : decode (mB 157) 9 = .ok (.putfield 11, 3) := by decide +kernel
set_option maxRecDepth 100000 in
theorem d_157_12 : decode (mB 157) 12 = .ok (.aload_n 0, 1) := by decide +kernel
set_option maxRecDepth 100000 in
theorem d_157_13 : decode (mB 157) 13 = .ok (.bipush 16, 2) := by decide +kernel
set_option maxRecDepth 100000 in
theorem d_157_15 : decode (mB 157) 15 = .ok (.newarray .int, 2) := by decide +kernel
set_option maxRecDepth 100000 in
theorem d_157_17 : decode (mB 157) 17 = .ok (.putfield 15, 3) := by decide +kernel
set_option maxRecDepth 100000 in
theorem d_157_20 : decode (mB 157) 20 = .ok (.return_, 1) := by decide +kernel
set_option maxRecDepth 100000 in
theorem oi_10 : okw (.methodLink "WhistleStop$Onward" 3 Lib.objectInit) := okk_w (k := 203) (by decide +kernel)
set_option maxRecDepth 100000 in
theorem cl_10_9 : okw (.classLink "WhistleStop$Onward" 9 "[[I") := okk_w (k := 204) (by decide +kernel)
set_option maxRecDepth 100000 in
theorem fl_10_11 : flP "WhistleStop$Onward" 11 10 0 := ⟨_, rfl, by decide, okk_w (k := 206) (by decide +kernel)⟩
set_option maxRecDepth 100000 in
theorem fl_10_16 : flP "WhistleStop$Onward" 16 10 1 := ⟨_, rfl, by decide, okk_w (k := 207) (by decide +kernel)⟩
set_option maxRecDepth 100000 in
theorem fl_10_19 : flP "WhistleStop$Onward" 19 10 2 := ⟨_, rfl, by decide, okk_w (k := 208) (by decide +kernel)⟩
set_option maxRecDepth 100000 in
theorem d_162_0 : decode (mB 162) 0 = .ok (.aload_n 0, 1) := by decide +kernel
set_option maxRecDepth 100000 in
theorem d_162_1 : decode (mB 162) 1 = .ok (.invokespecial 3, 3) := by decide +kernel
set_option maxRecDepth 100000 in
theorem d_162_4 : decode (mB 162) 4 = .ok (.aload_n 0, 1) := by decide +kernel
set_option maxRecDepth 100000 in
theorem d_162_5 : decode (mB 162) 5 = .ok (.bipush 7, 2) := by decide +kernel
set_option maxRecDepth 100000 in
theorem d_162_7 : decode (mB 162) 7 = .ok (.bipush 16, 2) := by decide +kernel
set_option maxRecDepth 100000 in
theorem d_162_9 : decode (mB 162) 9 = .ok (.multianewarray 9 2, 4) := by decide +kernel
set_option maxRecDepth 100000 in
theorem d_162_13 : decode (mB 162) 13 = .ok (.putfield 11, 3) := by decide +kernel
set_option maxRecDepth 100000 in
theorem d_162_16 : decode (mB 162) 16 = .ok (.aload_n 0, 1) := by decide +kernel
set_option maxRecDepth 100000 in
theorem d_162_17 : decode (mB 162) 17 = .ok (.bipush 7, 2) := by decide +kernel
set_option maxRecDepth 100000 in
theorem d_162_19 : decode (mB 162) 19 = .ok (.bipush 16, 2) := by decide +kernel
set_option maxRecDepth 100000 in
theorem d_162_21 : decode (mB 162) 21 = .ok (.multianewarray 9 2, 4) := by decide +kernel
set_option maxRecDepth 100000 in
theorem d_162_25 : decode (mB 162) 25 = .ok (.putfield 16, 3) := by decide +kernel
set_option maxRecDepth 100000 in
theorem d_162_28 : decode (mB 162) 28 = .ok (.aload_n 0, 1) := by decide +kernel
set_option maxRecDepth 100000 in
theorem d_162_29 : decode (mB 162) 29 = .ok (.bipush 16, 2) := by decide +kernel
set_option maxRecDepth 100000 in
theorem d_162_31 : decode (mB 162) 31 = .ok (.newarray .int, 2) := by decide +kernel
set_option maxRecDepth 100000 in
theorem d_162_33 : decode (mB 162) 33 = .ok (.putfield 19, 3) := by decide +kernel
set_option maxRecDepth 100000 in
theorem d_162_36 : decode (mB 162) 36 = .ok (.return_, 1) := by decide +kernel
set_option maxRecDepth 100000 in
theorem oi_11 : okw (.methodLink "WhistleStop$Runs" 3 Lib.objectInit) := okk_w (k := 151) (by decide +kernel)
set_option maxRecDepth 100000 in
theorem cl_11_9 : okw (.classLink "WhistleStop$Runs" 9 "WhistleStop$Trip") := okk_w (k := 152) (by decide +kernel)
set_option maxRecDepth 100000 in
theorem fl_11_11 : flP "WhistleStop$Runs" 11 11 0 := ⟨_, rfl, by decide, okk_w (k := 153) (by decide +kernel)⟩
set_option maxRecDepth 100000 in
theorem fl_11_17 : flP "WhistleStop$Runs" 17 11 1 := ⟨_, rfl, by decide, okk_w (k := 159) (by decide +kernel)⟩
set_option maxRecDepth 100000 in
theorem fl_11_21 : flP "WhistleStop$Runs" 21 11 2 := ⟨_, rfl, by decide, okk_w (k := 162) (by decide +kernel)⟩
set_option maxRecDepth 100000 in
theorem d_173_0 : decode (mB 173) 0 = .ok (.aload_n 0, 1) := by decide +kernel
set_option maxRecDepth 100000 in
theorem d_173_1 : decode (mB 173) 1 = .ok (.invokespecial 3, 3) := by decide +kernel
set_option maxRecDepth 100000 in
theorem d_173_4 : decode (mB 173) 4 = .ok (.aload_n 0, 1) := by decide +kernel
set_option maxRecDepth 100000 in
theorem d_173_5 : decode (mB 173) 5 = .ok (.sipush 192, 3) := by decide +kernel
set_option maxRecDepth 100000 in
theorem d_173_8 : decode (mB 173) 8 = .ok (.anewarray 9, 3) := by decide +kernel
set_option maxRecDepth 100000 in
theorem d_173_11 : decode (mB 173) 11 = .ok (.putfield 11, 3) := by decide +kernel
set_option maxRecDepth 100000 in
theorem d_173_14 : decode (mB 173) 14 = .ok (.aload_n 0, 1) := by decide +kernel
set_option maxRecDepth 100000 in
theorem d_173_15 : decode (mB 173) 15 = .ok (.sipush 192, 3) := by decide +kernel
set_option maxRecDepth 100000 in
theorem d_173_18 : decode (mB 173) 18 = .ok (.newarray .int, 2) := by decide +kernel
set_option maxRecDepth 100000 in
theorem d_173_20 : decode (mB 173) 20 = .ok (.putfield 17, 3) := by decide +kernel
set_option maxRecDepth 100000 in
theorem d_173_23 : decode (mB 173) 23 = .ok (.aload_n 0, 1) := by decide +kernel
set_option maxRecDepth 100000 in
theorem d_173_24 : decode (mB 173) 24 = .ok (.sipush 192, 3) := by decide +kernel
set_option maxRecDepth 100000 in
theorem d_173_27 : decode (mB 173) 27 = .ok (.newarray .int, 2) := by decide +kernel
set_option maxRecDepth 100000 in
theorem d_173_29 : decode (mB 173) 29 = .ok (.putfield 21, 3) := by decide +kernel
set_option maxRecDepth 100000 in
theorem d_173_32 : decode (mB 173) 32 = .ok (.return_, 1) := by decide +kernel
set_option maxRecDepth 100000 in
theorem c_181_7 : cvP 181 7 13 1 := ⟨cd_13, okk_w (k := 518) (by decide +kernel), okk_w (k := 519) (by decide +kernel), okk_w (k := 520) (by decide +kernel), by decide +kernel, by decide +kernel⟩
set_option maxRecDepth 100000 in
theorem d_181_0 : decode (mB 181) 0 = .ok (.aload_n 2, 1) := by decide +kernel
set_option maxRecDepth 100000 in
theorem d_181_1 : decode (mB 181) 1 = .ok (.iconst 0, 1) := by decide +kernel
set_option maxRecDepth 100000 in
theorem d_181_2 : decode (mB 181) 2 = .ok (.aload_n 0, 1) := by decide +kernel
set_option maxRecDepth 100000 in
theorem d_181_3 : decode (mB 181) 3 = .ok (.iload_n 1, 1) := by decide +kernel
set_option maxRecDepth 100000 in
theorem d_181_4 : decode (mB 181) 4 = .ok (.invokevirtual 7, 3) := by decide +kernel
set_option maxRecDepth 100000 in
theorem d_181_7 : decode (mB 181) 7 = .ok (.i2l, 1) := by decide +kernel
set_option maxRecDepth 100000 in
theorem d_181_8 : decode (mB 181) 8 = .ok (.lastore, 1) := by decide +kernel
set_option maxRecDepth 100000 in
theorem d_181_9 : decode (mB 181) 9 = .ok (.goto 9, 3) := by decide +kernel
set_option maxRecDepth 100000 in
theorem d_181_12 : decode (mB 181) 12 = .ok (.astore_n 3, 1) := by decide +kernel
set_option maxRecDepth 100000 in
theorem d_181_13 : decode (mB 181) 13 = .ok (.iconst 1, 1) := by decide +kernel
set_option maxRecDepth 100000 in
theorem d_181_14 : decode (mB 181) 14 = .ok (.ireturn, 1) := by decide +kernel
set_option maxRecDepth 100000 in
theorem d_181_18 : decode (mB 181) 18 = .ok (.iconst 0, 1) := by decide +kernel
set_option maxRecDepth 100000 in
theorem d_181_19 : decode (mB 181) 19 = .ok (.ireturn, 1) := by decide +kernel
set_option maxRecDepth 100000 in
theorem c_182_17 : cvP 182 17 16 2 := ⟨cd_16, okk_w (k := 564) (by decide +kernel), okk_w (k := 565) (by decide +kernel), okk_w (k := 566) (by decide +kernel), by decide +kernel, by decide +kernel⟩
set_option maxRecDepth 100000 in
theorem d_182_0 : decode (mB 182) 0 = .ok (.aload_n 3, 1) := by decide +kernel
set_option maxRecDepth 100000 in
theorem d_182_1 : decode (mB 182) 1 = .ok (.iconst 0, 1) := by decide +kernel
set_option maxRecDepth 100000 in
theorem d_182_2 : decode (mB 182) 2 = .ok (.aload_n 0, 1) := by decide +kernel
set_option maxRecDepth 100000 in
theorem d_182_3 : decode (mB 182) 3 = .ok (.iload_n 1, 1) := by decide +kernel
set_option maxRecDepth 100000 in
theorem d_182_4 : decode (mB 182) 4 = .ok (.iload_n 2, 1) := by decide +kernel
set_option maxRecDepth 100000 in
theorem d_182_5 : decode (mB 182) 5 = .ok (.invokevirtual 17, 3) := by decide +kernel
set_option maxRecDepth 100000 in
theorem d_182_13 : decode (mB 182) 13 = .ok (.astore 4, 2) := by decide +kernel
set_option maxRecDepth 100000 in
theorem d_182_15 : decode (mB 182) 15 = .ok (.iconst 1, 1) := by decide +kernel
set_option maxRecDepth 100000 in
theorem d_182_16 : decode (mB 182) 16 = .ok (.ireturn, 1) := by decide +kernel
set_option maxRecDepth 100000 in
theorem c_183_23 : cvP 183 23 18 3 := ⟨cd_18, okk_w (k := 575) (by decide +kernel), okk_w (k := 576) (by decide +kernel), okk_w (k := 577) (by decide +kernel), by decide +kernel, by decide +kernel⟩
set_option maxRecDepth 100000 in
theorem d_183_0 : decode (mB 183) 0 = .ok (.aload 4, 2) := by decide +kernel
set_option maxRecDepth 100000 in
theorem d_183_2 : decode (mB 183) 2 = .ok (.iconst 0, 1) := by decide +kernel
set_option maxRecDepth 100000 in
theorem d_183_3 : decode (mB 183) 3 = .ok (.aload_n 0, 1) := by decide +kernel
set_option maxRecDepth 100000 in
theorem d_183_4 : decode (mB 183) 4 = .ok (.iload_n 1, 1) := by decide +kernel
set_option maxRecDepth 100000 in
theorem d_183_5 : decode (mB 183) 5 = .ok (.iload_n 2, 1) := by decide +kernel
set_option maxRecDepth 100000 in
theorem d_183_6 : decode (mB 183) 6 = .ok (.iload_n 3, 1) := by decide +kernel
set_option maxRecDepth 100000 in
theorem d_183_7 : decode (mB 183) 7 = .ok (.invokevirtual 23, 3) := by decide +kernel
set_option maxRecDepth 100000 in
theorem d_183_15 : decode (mB 183) 15 = .ok (.astore 5, 2) := by decide +kernel
set_option maxRecDepth 100000 in
theorem d_183_17 : decode (mB 183) 17 = .ok (.iconst 1, 1) := by decide +kernel
set_option maxRecDepth 100000 in
theorem d_183_18 : decode (mB 183) 18 = .ok (.ireturn, 1) := by decide +kernel
set_option maxRecDepth 100000 in
theorem c_184_27 : cvP 184 27 19 3 := ⟨cd_19, okk_w (k := 606) (by decide +kernel), okk_w (k := 607) (by decide +kernel), okk_w (k := 608) (by decide +kernel), by decide +kernel, by decide +kernel⟩
set_option maxRecDepth 100000 in
theorem d_184_0 : decode (mB 184) 0 = .ok (.aload 4, 2) := by decide +kernel
set_option maxRecDepth 100000 in
theorem d_184_2 : decode (mB 184) 2 = .ok (.iconst 0, 1) := by decide +kernel
set_option maxRecDepth 100000 in
theorem d_184_3 : decode (mB 184) 3 = .ok (.aload_n 0, 1) := by decide +kernel
set_option maxRecDepth 100000 in
theorem d_184_4 : decode (mB 184) 4 = .ok (.iload_n 1, 1) := by decide +kernel
set_option maxRecDepth 100000 in
theorem d_184_5 : decode (mB 184) 5 = .ok (.iload_n 2, 1) := by decide +kernel
set_option maxRecDepth 100000 in
theorem d_184_6 : decode (mB 184) 6 = .ok (.iload_n 3, 1) := by decide +kernel
set_option maxRecDepth 100000 in
theorem d_184_7 : decode (mB 184) 7 = .ok (.invokevirtual 27, 3) := by decide +kernel
set_option maxRecDepth 100000 in
theorem d_184_10 : decode (mB 184) 10 = .ok (.i2l, 1) := by decide +kernel
set_option maxRecDepth 100000 in
theorem d_184_11 : decode (mB 184) 11 = .ok (.lastore, 1) := by decide +kernel
set_option maxRecDepth 100000 in
theorem d_184_12 : decode (mB 184) 12 = .ok (.goto 11, 3) := by decide +kernel
set_option maxRecDepth 100000 in
theorem d_184_15 : decode (mB 184) 15 = .ok (.astore 5, 2) := by decide +kernel
set_option maxRecDepth 100000 in
theorem d_184_17 : decode (mB 184) 17 = .ok (.iconst 1, 1) := by decide +kernel
set_option maxRecDepth 100000 in
theorem d_184_18 : decode (mB 184) 18 = .ok (.ireturn, 1) := by decide +kernel
set_option maxRecDepth 100000 in
theorem d_184_23 : decode (mB 184) 23 = .ok (.iconst 0, 1) := by decide +kernel
set_option maxRecDepth 100000 in
theorem d_184_24 : decode (mB 184) 24 = .ok (.ireturn, 1) := by decide +kernel
set_option maxRecDepth 100000 in
theorem c_185_30 : cvP 185 30 20 3 := ⟨cd_20, okk_w (k := 634) (by decide +kernel), okk_w (k := 635) (by decide +kernel), okk_w (k := 636) (by decide +kernel), by decide +kernel, by decide +kernel⟩
set_option maxRecDepth 100000 in
theorem d_185_0 : decode (mB 185) 0 = .ok (.aload 4, 2) := by decide +kernel
set_option maxRecDepth 100000 in
theorem d_185_2 : decode (mB 185) 2 = .ok (.iconst 0, 1) := by decide +kernel
set_option maxRecDepth 100000 in
theorem d_185_3 : decode (mB 185) 3 = .ok (.aload_n 0, 1) := by decide +kernel
set_option maxRecDepth 100000 in
theorem d_185_4 : decode (mB 185) 4 = .ok (.iload_n 1, 1) := by decide +kernel
set_option maxRecDepth 100000 in
theorem d_185_5 : decode (mB 185) 5 = .ok (.iload_n 2, 1) := by decide +kernel
set_option maxRecDepth 100000 in
theorem d_185_6 : decode (mB 185) 6 = .ok (.iload_n 3, 1) := by decide +kernel
set_option maxRecDepth 100000 in
theorem d_185_7 : decode (mB 185) 7 = .ok (.invokevirtual 30, 3) := by decide +kernel
set_option maxRecDepth 100000 in
theorem d_185_22 : decode (mB 185) 22 = .ok (.astore 5, 2) := by decide +kernel
set_option maxRecDepth 100000 in
theorem d_185_24 : decode (mB 185) 24 = .ok (.iconst 1, 1) := by decide +kernel
set_option maxRecDepth 100000 in
theorem d_185_25 : decode (mB 185) 25 = .ok (.ireturn, 1) := by decide +kernel
set_option maxRecDepth 100000 in
theorem c_186_34 : cvP 186 34 21 2 := ⟨cd_21, okk_w (k := 642) (by decide +kernel), okk_w (k := 643) (by decide +kernel), okk_w (k := 644) (by decide +kernel), by decide +kernel, by decide +kernel⟩
set_option maxRecDepth 100000 in
theorem d_186_0 : decode (mB 186) 0 = .ok (.aload_n 3, 1) := by decide +kernel
set_option maxRecDepth 100000 in
theorem d_186_1 : decode (mB 186) 1 = .ok (.iconst 0, 1) := by decide +kernel
set_option maxRecDepth 100000 in
theorem d_186_2 : decode (mB 186) 2 = .ok (.aload_n 0, 1) := by decide +kernel
set_option maxRecDepth 100000 in
theorem d_186_3 : decode (mB 186) 3 = .ok (.iload_n 1, 1) := by decide +kernel
set_option maxRecDepth 100000 in
theorem d_186_4 : decode (mB 186) 4 = .ok (.iload_n 2, 1) := by decide +kernel
set_option maxRecDepth 100000 in
theorem d_186_5 : decode (mB 186) 5 = .ok (.invokevirtual 34, 3) := by decide +kernel
set_option maxRecDepth 100000 in
theorem d_186_20 : decode (mB 186) 20 = .ok (.astore 4, 2) := by decide +kernel
set_option maxRecDepth 100000 in
theorem d_186_22 : decode (mB 186) 22 = .ok (.iconst 1, 1) := by decide +kernel
set_option maxRecDepth 100000 in
theorem d_186_23 : decode (mB 186) 23 = .ok (.ireturn, 1) := by decide +kernel
set_option maxRecDepth 100000 in
theorem c_187_38 : cvP 187 38 22 4 := ⟨cd_22, okk_w (k := 649) (by decide +kernel), okk_w (k := 650) (by decide +kernel), okk_w (k := 651) (by decide +kernel), by decide +kernel, by decide +kernel⟩
set_option maxRecDepth 100000 in
theorem d_187_0 : decode (mB 187) 0 = .ok (.aload 5, 2) := by decide +kernel
set_option maxRecDepth 100000 in
theorem d_187_2 : decode (mB 187) 2 = .ok (.iconst 0, 1) := by decide +kernel
set_option maxRecDepth 100000 in
theorem d_187_3 : decode (mB 187) 3 = .ok (.aload_n 0, 1) := by decide +kernel
set_option maxRecDepth 100000 in
theorem d_187_4 : decode (mB 187) 4 = .ok (.iload_n 1, 1) := by decide +kernel
set_option maxRecDepth 100000 in
theorem d_187_5 : decode (mB 187) 5 = .ok (.iload_n 2, 1) := by decide +kernel
set_option maxRecDepth 100000 in
theorem d_187_6 : decode (mB 187) 6 = .ok (.iload_n 3, 1) := by decide +kernel
set_option maxRecDepth 100000 in
theorem d_187_7 : decode (mB 187) 7 = .ok (.iload 4, 2) := by decide +kernel
set_option maxRecDepth 100000 in
theorem d_187_9 : decode (mB 187) 9 = .ok (.invokevirtual 38, 3) := by decide +kernel
set_option maxRecDepth 100000 in
theorem d_187_17 : decode (mB 187) 17 = .ok (.astore 6, 2) := by decide +kernel
set_option maxRecDepth 100000 in
theorem d_187_19 : decode (mB 187) 19 = .ok (.iconst 1, 1) := by decide +kernel
set_option maxRecDepth 100000 in
theorem d_187_20 : decode (mB 187) 20 = .ok (.ireturn, 1) := by decide +kernel
set_option maxRecDepth 100000 in
theorem c_188_42 : cvP 188 42 23 4 := ⟨cd_23, okk_w (k := 720) (by decide +kernel), okk_w (k := 721) (by decide +kernel), okk_w (k := 722) (by decide +kernel), by decide +kernel, by decide +kernel⟩
set_option maxRecDepth 100000 in
theorem d_188_0 : decode (mB 188) 0 = .ok (.aload 5, 2) := by decide +kernel
set_option maxRecDepth 100000 in
theorem d_188_2 : decode (mB 188) 2 = .ok (.iconst 0, 1) := by decide +kernel
set_option maxRecDepth 100000 in
theorem d_188_3 : decode (mB 188) 3 = .ok (.aload_n 0, 1) := by decide +kernel
set_option maxRecDepth 100000 in
theorem d_188_4 : decode (mB 188) 4 = .ok (.iload_n 1, 1) := by decide +kernel
set_option maxRecDepth 100000 in
theorem d_188_5 : decode (mB 188) 5 = .ok (.iload_n 2, 1) := by decide +kernel
set_option maxRecDepth 100000 in
theorem d_188_6 : decode (mB 188) 6 = .ok (.iload_n 3, 1) := by decide +kernel
set_option maxRecDepth 100000 in
theorem d_188_7 : decode (mB 188) 7 = .ok (.iload 4, 2) := by decide +kernel
set_option maxRecDepth 100000 in
theorem d_188_9 : decode (mB 188) 9 = .ok (.invokevirtual 42, 3) := by decide +kernel
set_option maxRecDepth 100000 in
theorem d_188_17 : decode (mB 188) 17 = .ok (.astore 6, 2) := by decide +kernel
set_option maxRecDepth 100000 in
theorem d_188_19 : decode (mB 188) 19 = .ok (.iconst 1, 1) := by decide +kernel
set_option maxRecDepth 100000 in
theorem d_188_20 : decode (mB 188) 20 = .ok (.ireturn, 1) := by decide +kernel
set_option maxRecDepth 100000 in
theorem c_189_45 : cvP 189 45 24 1 := ⟨cd_24, okk_w (k := 731) (by decide +kernel), okk_w (k := 732) (by decide +kernel), okk_w (k := 733) (by decide +kernel), by decide +kernel, by decide +kernel⟩
set_option maxRecDepth 100000 in
theorem d_189_0 : decode (mB 189) 0 = .ok (.aload_n 2, 1) := by decide +kernel
set_option maxRecDepth 100000 in
theorem d_189_1 : decode (mB 189) 1 = .ok (.iconst 0, 1) := by decide +kernel
set_option maxRecDepth 100000 in
theorem d_189_2 : decode (mB 189) 2 = .ok (.aload_n 0, 1) := by decide +kernel
set_option maxRecDepth 100000 in
theorem d_189_3 : decode (mB 189) 3 = .ok (.iload_n 1, 1) := by decide +kernel
set_option maxRecDepth 100000 in
theorem d_189_4 : decode (mB 189) 4 = .ok (.invokevirtual 45, 3) := by decide +kernel
set_option maxRecDepth 100000 in
theorem d_189_12 : decode (mB 189) 12 = .ok (.astore_n 3, 1) := by decide +kernel
set_option maxRecDepth 100000 in
theorem d_189_13 : decode (mB 189) 13 = .ok (.iconst 1, 1) := by decide +kernel
set_option maxRecDepth 100000 in
theorem d_189_14 : decode (mB 189) 14 = .ok (.ireturn, 1) := by decide +kernel
set_option maxRecDepth 100000 in
theorem c_190_48 : cvP 190 48 25 2 := ⟨cd_25, okk_w (k := 738) (by decide +kernel), okk_w (k := 739) (by decide +kernel), okk_w (k := 740) (by decide +kernel), by decide +kernel, by decide +kernel⟩
set_option maxRecDepth 100000 in
theorem d_190_0 : decode (mB 190) 0 = .ok (.aload_n 3, 1) := by decide +kernel
set_option maxRecDepth 100000 in
theorem d_190_1 : decode (mB 190) 1 = .ok (.iconst 0, 1) := by decide +kernel
set_option maxRecDepth 100000 in
theorem d_190_2 : decode (mB 190) 2 = .ok (.aload_n 0, 1) := by decide +kernel
set_option maxRecDepth 100000 in
theorem d_190_3 : decode (mB 190) 3 = .ok (.iload_n 1, 1) := by decide +kernel
set_option maxRecDepth 100000 in
theorem d_190_4 : decode (mB 190) 4 = .ok (.iload_n 2, 1) := by decide +kernel
set_option maxRecDepth 100000 in
theorem d_190_5 : decode (mB 190) 5 = .ok (.invokevirtual 48, 3) := by decide +kernel
set_option maxRecDepth 100000 in
theorem d_190_13 : decode (mB 190) 13 = .ok (.astore 4, 2) := by decide +kernel
set_option maxRecDepth 100000 in
theorem d_190_15 : decode (mB 190) 15 = .ok (.iconst 1, 1) := by decide +kernel
set_option maxRecDepth 100000 in
theorem d_190_16 : decode (mB 190) 16 = .ok (.ireturn, 1) := by decide +kernel
set_option maxRecDepth 100000 in
theorem c_191_51 : cvP 191 51 26 3 := ⟨cd_26, okk_w (k := 745) (by decide +kernel), okk_w (k := 746) (by decide +kernel), okk_w (k := 747) (by decide +kernel), by decide +kernel, by decide +kernel⟩
set_option maxRecDepth 100000 in
theorem d_191_0 : decode (mB 191) 0 = .ok (.aload 4, 2) := by decide +kernel
set_option maxRecDepth 100000 in
theorem d_191_2 : decode (mB 191) 2 = .ok (.iconst 0, 1) := by decide +kernel
set_option maxRecDepth 100000 in
theorem d_191_3 : decode (mB 191) 3 = .ok (.aload_n 0, 1) := by decide +kernel
set_option maxRecDepth 100000 in
theorem d_191_4 : decode (mB 191) 4 = .ok (.iload_n 1, 1) := by decide +kernel
set_option maxRecDepth 100000 in
theorem d_191_5 : decode (mB 191) 5 = .ok (.iload_n 2, 1) := by decide +kernel
set_option maxRecDepth 100000 in
theorem d_191_6 : decode (mB 191) 6 = .ok (.iload_n 3, 1) := by decide +kernel
set_option maxRecDepth 100000 in
theorem d_191_7 : decode (mB 191) 7 = .ok (.invokevirtual 51, 3) := by decide +kernel
set_option maxRecDepth 100000 in
theorem d_191_15 : decode (mB 191) 15 = .ok (.astore 5, 2) := by decide +kernel
set_option maxRecDepth 100000 in
theorem d_191_17 : decode (mB 191) 17 = .ok (.iconst 1, 1) := by decide +kernel
set_option maxRecDepth 100000 in
theorem d_191_18 : decode (mB 191) 18 = .ok (.ireturn, 1) := by decide +kernel
set_option maxRecDepth 100000 in
theorem c_192_54 : cvP 192 54 27 2 := ⟨cd_27, okk_w (k := 752) (by decide +kernel), okk_w (k := 753) (by decide +kernel), okk_w (k := 754) (by decide +kernel), by decide +kernel, by decide +kernel⟩
set_option maxRecDepth 100000 in
theorem d_192_0 : decode (mB 192) 0 = .ok (.aload_n 3, 1) := by decide +kernel
set_option maxRecDepth 100000 in
theorem d_192_1 : decode (mB 192) 1 = .ok (.iconst 0, 1) := by decide +kernel
set_option maxRecDepth 100000 in
theorem d_192_2 : decode (mB 192) 2 = .ok (.aload_n 0, 1) := by decide +kernel
set_option maxRecDepth 100000 in
theorem d_192_3 : decode (mB 192) 3 = .ok (.iload_n 1, 1) := by decide +kernel
set_option maxRecDepth 100000 in
theorem d_192_4 : decode (mB 192) 4 = .ok (.iload_n 2, 1) := by decide +kernel
set_option maxRecDepth 100000 in
theorem d_192_5 : decode (mB 192) 5 = .ok (.invokevirtual 54, 3) := by decide +kernel
set_option maxRecDepth 100000 in
theorem d_192_20 : decode (mB 192) 20 = .ok (.astore 4, 2) := by decide +kernel
set_option maxRecDepth 100000 in
theorem d_192_22 : decode (mB 192) 22 = .ok (.iconst 1, 1) := by decide +kernel
set_option maxRecDepth 100000 in
theorem d_192_23 : decode (mB 192) 23 = .ok (.ireturn, 1) := by decide +kernel
set_option maxRecDepth 100000 in
theorem c_193_57 : cvP 193 57 7 2 := ⟨cd_7, okk_w (k := 759) (by decide +kernel), okk_w (k := 400) (by decide +kernel), okk_w (k := 401) (by decide +kernel), by decide +kernel, by decide +kernel⟩
set_option maxRecDepth 100000 in
theorem d_193_0 : decode (mB 193) 0 = .ok (.aload_n 3, 1) := by decide +kernel
set_option maxRecDepth 100000 in
theorem d_193_1 : decode (mB 193) 1 = .ok (.iconst 0, 1) := by decide +kernel
set_option maxRecDepth 100000 in
theorem d_193_2 : decode (mB 193) 2 = .ok (.aload_n 0, 1) := by decide +kernel
set_option maxRecDepth 100000 in
theorem d_193_3 : decode (mB 193) 3 = .ok (.iload_n 1, 1) := by decide +kernel
set_option maxRecDepth 100000 in
theorem d_193_4 : decode (mB 193) 4 = .ok (.iload_n 2, 1) := by decide +kernel
set_option maxRecDepth 100000 in
theorem d_193_5 : decode (mB 193) 5 = .ok (.invokevirtual 57, 3) := by decide +kernel
set_option maxRecDepth 100000 in
theorem d_193_13 : decode (mB 193) 13 = .ok (.astore 4, 2) := by decide +kernel
set_option maxRecDepth 100000 in
theorem d_193_15 : decode (mB 193) 15 = .ok (.iconst 1, 1) := by decide +kernel
set_option maxRecDepth 100000 in
theorem d_193_16 : decode (mB 193) 16 = .ok (.ireturn, 1) := by decide +kernel
set_option maxRecDepth 100000 in
theorem c_194_60 : cvP 194 60 28 2 := ⟨cd_28, okk_w (k := 763) (by decide +kernel), okk_w (k := 764) (by decide +kernel), okk_w (k := 765) (by decide +kernel), by decide +kernel, by decide +kernel⟩
set_option maxRecDepth 100000 in
theorem d_194_0 : decode (mB 194) 0 = .ok (.aload_n 3, 1) := by decide +kernel
set_option maxRecDepth 100000 in
theorem d_194_1 : decode (mB 194) 1 = .ok (.iconst 0, 1) := by decide +kernel
set_option maxRecDepth 100000 in
theorem d_194_2 : decode (mB 194) 2 = .ok (.aload_n 0, 1) := by decide +kernel
set_option maxRecDepth 100000 in
theorem d_194_3 : decode (mB 194) 3 = .ok (.iload_n 1, 1) := by decide +kernel
set_option maxRecDepth 100000 in
theorem d_194_4 : decode (mB 194) 4 = .ok (.iload_n 2, 1) := by decide +kernel
set_option maxRecDepth 100000 in
theorem d_194_5 : decode (mB 194) 5 = .ok (.invokevirtual 60, 3) := by decide +kernel
set_option maxRecDepth 100000 in
theorem d_194_13 : decode (mB 194) 13 = .ok (.astore 4, 2) := by decide +kernel
set_option maxRecDepth 100000 in
theorem d_194_15 : decode (mB 194) 15 = .ok (.iconst 1, 1) := by decide +kernel
set_option maxRecDepth 100000 in
theorem d_194_16 : decode (mB 194) 16 = .ok (.ireturn, 1) := by decide +kernel
set_option maxRecDepth 100000 in
theorem c_195_63 : cvP 195 63 30 3 := ⟨cd_30, okk_w (k := 806) (by decide +kernel), okk_w (k := 807) (by decide +kernel), okk_w (k := 808) (by decide +kernel), by decide +kernel, by decide +kernel⟩
set_option maxRecDepth 100000 in
theorem d_195_0 : decode (mB 195) 0 = .ok (.aload 4, 2) := by decide +kernel
set_option maxRecDepth 100000 in
theorem d_195_2 : decode (mB 195) 2 = .ok (.iconst 0, 1) := by decide +kernel
set_option maxRecDepth 100000 in
theorem d_195_3 : decode (mB 195) 3 = .ok (.aload_n 0, 1) := by decide +kernel
set_option maxRecDepth 100000 in
theorem d_195_4 : decode (mB 195) 4 = .ok (.iload_n 1, 1) := by decide +kernel
set_option maxRecDepth 100000 in
theorem d_195_5 : decode (mB 195) 5 = .ok (.iload_n 2, 1) := by decide +kernel
set_option maxRecDepth 100000 in
theorem d_195_6 : decode (mB 195) 6 = .ok (.iload_n 3, 1) := by decide +kernel
set_option maxRecDepth 100000 in
theorem d_195_7 : decode (mB 195) 7 = .ok (.invokevirtual 63, 3) := by decide +kernel
set_option maxRecDepth 100000 in
theorem d_195_15 : decode (mB 195) 15 = .ok (.astore 5, 2) := by decide +kernel
set_option maxRecDepth 100000 in
theorem d_195_17 : decode (mB 195) 17 = .ok (.iconst 1, 1) := by decide +kernel
set_option maxRecDepth 100000 in
theorem d_195_18 : decode (mB 195) 18 = .ok (.ireturn, 1) := by decide +kernel
set_option maxRecDepth 100000 in
theorem c_196_66 : cvP 196 66 31 3 := ⟨cd_31, okk_w (k := 818) (by decide +kernel), okk_w (k := 819) (by decide +kernel), okk_w (k := 820) (by decide +kernel), by decide +kernel, by decide +kernel⟩
set_option maxRecDepth 100000 in
theorem d_196_0 : decode (mB 196) 0 = .ok (.aload 4, 2) := by decide +kernel
set_option maxRecDepth 100000 in
theorem d_196_2 : decode (mB 196) 2 = .ok (.iconst 0, 1) := by decide +kernel
set_option maxRecDepth 100000 in
theorem d_196_3 : decode (mB 196) 3 = .ok (.aload_n 0, 1) := by decide +kernel
set_option maxRecDepth 100000 in
theorem d_196_4 : decode (mB 196) 4 = .ok (.iload_n 1, 1) := by decide +kernel
set_option maxRecDepth 100000 in
theorem d_196_5 : decode (mB 196) 5 = .ok (.iload_n 2, 1) := by decide +kernel
set_option maxRecDepth 100000 in
theorem d_196_6 : decode (mB 196) 6 = .ok (.iload_n 3, 1) := by decide +kernel
set_option maxRecDepth 100000 in
theorem d_196_7 : decode (mB 196) 7 = .ok (.invokevirtual 66, 3) := by decide +kernel
set_option maxRecDepth 100000 in
theorem d_196_15 : decode (mB 196) 15 = .ok (.astore 5, 2) := by decide +kernel
set_option maxRecDepth 100000 in
theorem d_196_17 : decode (mB 196) 17 = .ok (.iconst 1, 1) := by decide +kernel
set_option maxRecDepth 100000 in
theorem d_196_18 : decode (mB 196) 18 = .ok (.ireturn, 1) := by decide +kernel
set_option maxRecDepth 100000 in
theorem c_197_69 : cvP 197 69 32 3 := ⟨cd_32, okk_w (k := 830) (by decide +kernel), okk_w (k := 831) (by decide +kernel), okk_w (k := 832) (by decide +kernel), by decide +kernel, by decide +kernel⟩
set_option maxRecDepth 100000 in
theorem d_197_0 : decode (mB 197) 0 = .ok (.aload 4, 2) := by decide +kernel
set_option maxRecDepth 100000 in
theorem d_197_2 : decode (mB 197) 2 = .ok (.iconst 0, 1) := by decide +kernel
set_option maxRecDepth 100000 in
theorem d_197_3 : decode (mB 197) 3 = .ok (.aload_n 0, 1) := by decide +kernel
set_option maxRecDepth 100000 in
theorem d_197_4 : decode (mB 197) 4 = .ok (.iload_n 1, 1) := by decide +kernel
set_option maxRecDepth 100000 in
theorem d_197_5 : decode (mB 197) 5 = .ok (.iload_n 2, 1) := by decide +kernel
set_option maxRecDepth 100000 in
theorem d_197_6 : decode (mB 197) 6 = .ok (.iload_n 3, 1) := by decide +kernel
set_option maxRecDepth 100000 in
theorem d_197_7 : decode (mB 197) 7 = .ok (.invokevirtual 69, 3) := by decide +kernel
set_option maxRecDepth 100000 in
theorem d_197_15 : decode (mB 197) 15 = .ok (.astore 5, 2) := by decide +kernel
set_option maxRecDepth 100000 in
theorem d_197_17 : decode (mB 197) 17 = .ok (.iconst 1, 1) := by decide +kernel
set_option maxRecDepth 100000 in
theorem d_197_18 : decode (mB 197) 18 = .ok (.ireturn, 1) := by decide +kernel
set_option maxRecDepth 100000 in
theorem c_198_72 : cvP 198 72 34 4 := ⟨cd_34, okk_w (k := 884) (by decide +kernel), okk_w (k := 885) (by decide +kernel), okk_w (k := 886) (by decide +kernel), by decide +kernel, by decide +kernel⟩
set_option maxRecDepth 100000 in
theorem d_198_0 : decode (mB 198) 0 = .ok (.aload 5, 2) := by decide +kernel
set_option maxRecDepth 100000 in
theorem d_198_2 : decode (mB 198) 2 = .ok (.iconst 0, 1) := by decide +kernel
set_option maxRecDepth 100000 in
theorem d_198_3 : decode (mB 198) 3 = .ok (.aload_n 0, 1) := by decide +kernel
set_option maxRecDepth 100000 in
theorem d_198_4 : decode (mB 198) 4 = .ok (.iload_n 1, 1) := by decide +kernel
set_option maxRecDepth 100000 in
theorem d_198_5 : decode (mB 198) 5 = .ok (.iload_n 2, 1) := by decide +kernel
set_option maxRecDepth 100000 in
theorem d_198_6 : decode (mB 198) 6 = .ok (.iload_n 3, 1) := by decide +kernel
set_option maxRecDepth 100000 in
theorem d_198_7 : decode (mB 198) 7 = .ok (.iload 4, 2) := by decide +kernel
set_option maxRecDepth 100000 in
theorem d_198_9 : decode (mB 198) 9 = .ok (.invokevirtual 72, 3) := by decide +kernel
set_option maxRecDepth 100000 in
theorem d_198_17 : decode (mB 198) 17 = .ok (.astore 6, 2) := by decide +kernel
set_option maxRecDepth 100000 in
theorem d_198_19 : decode (mB 198) 19 = .ok (.iconst 1, 1) := by decide +kernel
set_option maxRecDepth 100000 in
theorem d_198_20 : decode (mB 198) 20 = .ok (.ireturn, 1) := by decide +kernel
set_option maxRecDepth 100000 in
theorem c_199_75 : cvP 199 75 35 3 := ⟨cd_35, okk_w (k := 891) (by decide +kernel), okk_w (k := 892) (by decide +kernel), okk_w (k := 893) (by decide +kernel), by decide +kernel, by decide +kernel⟩
set_option maxRecDepth 100000 in
theorem d_199_0 : decode (mB 199) 0 = .ok (.aload 4, 2) := by decide +kernel
set_option maxRecDepth 100000 in
theorem d_199_2 : decode (mB 199) 2 = .ok (.iconst 0, 1) := by decide +kernel
set_option maxRecDepth 100000 in
theorem d_199_3 : decode (mB 199) 3 = .ok (.aload_n 0, 1) := by decide +kernel
set_option maxRecDepth 100000 in
theorem d_199_4 : decode (mB 199) 4 = .ok (.iload_n 1, 1) := by decide +kernel
set_option maxRecDepth 100000 in
theorem d_199_5 : decode (mB 199) 5 = .ok (.iload_n 2, 1) := by decide +kernel
set_option maxRecDepth 100000 in
theorem d_199_6 : decode (mB 199) 6 = .ok (.iload_n 3, 1) := by decide +kernel
set_option maxRecDepth 100000 in
theorem d_199_7 : decode (mB 199) 7 = .ok (.invokevirtual 75, 3) := by decide +kernel
set_option maxRecDepth 100000 in
theorem d_199_15 : decode (mB 199) 15 = .ok (.astore 5, 2) := by decide +kernel
set_option maxRecDepth 100000 in
theorem d_199_17 : decode (mB 199) 17 = .ok (.iconst 1, 1) := by decide +kernel
set_option maxRecDepth 100000 in
theorem d_199_18 : decode (mB 199) 18 = .ok (.ireturn, 1) := by decide +kernel
set_option maxRecDepth 100000 in
theorem c_200_78 : cvP 200 78 36 4 := ⟨cd_36, okk_w (k := 906) (by decide +kernel), okk_w (k := 907) (by decide +kernel), okk_w (k := 908) (by decide +kernel), by decide +kernel, by decide +kernel⟩
set_option maxRecDepth 100000 in
theorem d_200_0 : decode (mB 200) 0 = .ok (.aload 5, 2) := by decide +kernel
set_option maxRecDepth 100000 in
theorem d_200_2 : decode (mB 200) 2 = .ok (.iconst 0, 1) := by decide +kernel
set_option maxRecDepth 100000 in
theorem d_200_3 : decode (mB 200) 3 = .ok (.aload_n 0, 1) := by decide +kernel
set_option maxRecDepth 100000 in
theorem d_200_4 : decode (mB 200) 4 = .ok (.iload_n 1, 1) := by decide +kernel
set_option maxRecDepth 100000 in
theorem d_200_5 : decode (mB 200) 5 = .ok (.iload_n 2, 1) := by decide +kernel
set_option maxRecDepth 100000 in
theorem d_200_6 : decode (mB 200) 6 = .ok (.iload_n 3, 1) := by decide +kernel
set_option maxRecDepth 100000 in
theorem d_200_7 : decode (mB 200) 7 = .ok (.iload 4, 2) := by decide +kernel
set_option maxRecDepth 100000 in
theorem d_200_9 : decode (mB 200) 9 = .ok (.invokevirtual 78, 3) := by decide +kernel
set_option maxRecDepth 100000 in
theorem d_200_17 : decode (mB 200) 17 = .ok (.astore 6, 2) := by decide +kernel
set_option maxRecDepth 100000 in
theorem d_200_19 : decode (mB 200) 19 = .ok (.iconst 1, 1) := by decide +kernel
set_option maxRecDepth 100000 in
theorem d_200_20 : decode (mB 200) 20 = .ok (.ireturn, 1) := by decide +kernel
set_option maxRecDepth 100000 in
theorem c_201_81 : cvP 201 81 37 3 := ⟨cd_37, okk_w (k := 972) (by decide +kernel), okk_w (k := 973) (by decide +kernel), okk_w (k := 974) (by decide +kernel), by decide +kernel, by decide +kernel⟩
set_option maxRecDepth 100000 in
theorem d_201_0 : decode (mB 201) 0 = .ok (.aload 4, 2) := by decide +kernel
set_option maxRecDepth 100000 in
theorem d_201_2 : decode (mB 201) 2 = .ok (.iconst 0, 1) := by decide +kernel
set_option maxRecDepth 100000 in
theorem d_201_3 : decode (mB 201) 3 = .ok (.aload_n 0, 1) := by decide +kernel
set_option maxRecDepth 100000 in
theorem d_201_4 : decode (mB 201) 4 = .ok (.iload_n 1, 1) := by decide +kernel
set_option maxRecDepth 100000 in
theorem d_201_5 : decode (mB 201) 5 = .ok (.iload_n 2, 1) := by decide +kernel
set_option maxRecDepth 100000 in
theorem d_201_6 : decode (mB 201) 6 = .ok (.iload_n 3, 1) := by decide +kernel
set_option maxRecDepth 100000 in
theorem d_201_7 : decode (mB 201) 7 = .ok (.invokevirtual 81, 3) := by decide +kernel
set_option maxRecDepth 100000 in
theorem d_201_15 : decode (mB 201) 15 = .ok (.astore 5, 2) := by decide +kernel
set_option maxRecDepth 100000 in
theorem d_201_17 : decode (mB 201) 17 = .ok (.iconst 1, 1) := by decide +kernel
set_option maxRecDepth 100000 in
theorem d_201_18 : decode (mB 201) 18 = .ok (.ireturn, 1) := by decide +kernel
set_option maxRecDepth 100000 in
theorem c_202_84 : cvP 202 84 38 3 := ⟨cd_38, okk_w (k := 1014) (by decide +kernel), okk_w (k := 1015) (by decide +kernel), okk_w (k := 1016) (by decide +kernel), by decide +kernel, by decide +kernel⟩
set_option maxRecDepth 100000 in
theorem d_202_0 : decode (mB 202) 0 = .ok (.aload 4, 2) := by decide +kernel
set_option maxRecDepth 100000 in
theorem d_202_2 : decode (mB 202) 2 = .ok (.iconst 0, 1) := by decide +kernel
set_option maxRecDepth 100000 in
theorem d_202_3 : decode (mB 202) 3 = .ok (.aload_n 0, 1) := by decide +kernel
set_option maxRecDepth 100000 in
theorem d_202_4 : decode (mB 202) 4 = .ok (.iload_n 1, 1) := by decide +kernel
set_option maxRecDepth 100000 in
theorem d_202_5 : decode (mB 202) 5 = .ok (.iload_n 2, 1) := by decide +kernel
set_option maxRecDepth 100000 in
theorem d_202_6 : decode (mB 202) 6 = .ok (.iload_n 3, 1) := by decide +kernel
set_option maxRecDepth 100000 in
theorem d_202_7 : decode (mB 202) 7 = .ok (.invokevirtual 84, 3) := by decide +kernel
set_option maxRecDepth 100000 in
theorem d_202_15 : decode (mB 202) 15 = .ok (.astore 5, 2) := by decide +kernel
set_option maxRecDepth 100000 in
theorem d_202_17 : decode (mB 202) 17 = .ok (.iconst 1, 1) := by decide +kernel
set_option maxRecDepth 100000 in
theorem d_202_18 : decode (mB 202) 18 = .ok (.ireturn, 1) := by decide +kernel
set_option maxRecDepth 100000 in
theorem c_203_87 : cvP 203 87 39 3 := ⟨cd_39, okk_w (k := 1021) (by decide +kernel), okk_w (k := 1022) (by decide +kernel), okk_w (k := 1023) (by decide +kernel), by decide +kernel, by decide +kernel⟩
set_option maxRecDepth 100000 in
theorem d_203_0 : decode (mB 203) 0 = .ok (.aload 4, 2) := by decide +kernel
set_option maxRecDepth 100000 in
theorem d_203_2 : decode (mB 203) 2 = .ok (.iconst 0, 1) := by decide +kernel
set_option maxRecDepth 100000 in
theorem d_203_3 : decode (mB 203) 3 = .ok (.aload_n 0, 1) := by decide +kernel
set_option maxRecDepth 100000 in
theorem d_203_4 : decode (mB 203) 4 = .ok (.iload_n 1, 1) := by decide +kernel
set_option maxRecDepth 100000 in
theorem d_203_5 : decode (mB 203) 5 = .ok (.iload_n 2, 1) := by decide +kernel
set_option maxRecDepth 100000 in
theorem d_203_6 : decode (mB 203) 6 = .ok (.iload_n 3, 1) := by decide +kernel
set_option maxRecDepth 100000 in
theorem d_203_7 : decode (mB 203) 7 = .ok (.invokevirtual 87, 3) := by decide +kernel
set_option maxRecDepth 100000 in
theorem d_203_15 : decode (mB 203) 15 = .ok (.astore 5, 2) := by decide +kernel
set_option maxRecDepth 100000 in
theorem d_203_17 : decode (mB 203) 17 = .ok (.iconst 1, 1) := by decide +kernel
set_option maxRecDepth 100000 in
theorem d_203_18 : decode (mB 203) 18 = .ok (.ireturn, 1) := by decide +kernel
set_option maxRecDepth 100000 in
theorem c_204_90 : cvP 204 90 40 1 := ⟨cd_40, okk_w (k := 1067) (by decide +kernel), okk_w (k := 1068) (by decide +kernel), okk_w (k := 1069) (by decide +kernel), by decide +kernel, by decide +kernel⟩
set_option maxRecDepth 100000 in
theorem d_204_0 : decode (mB 204) 0 = .ok (.aload_n 2, 1) := by decide +kernel
set_option maxRecDepth 100000 in
theorem d_204_1 : decode (mB 204) 1 = .ok (.iconst 0, 1) := by decide +kernel
set_option maxRecDepth 100000 in
theorem d_204_2 : decode (mB 204) 2 = .ok (.aload_n 0, 1) := by decide +kernel
set_option maxRecDepth 100000 in
theorem d_204_3 : decode (mB 204) 3 = .ok (.iload_n 1, 1) := by decide +kernel
set_option maxRecDepth 100000 in
theorem d_204_4 : decode (mB 204) 4 = .ok (.invokevirtual 90, 3) := by decide +kernel
set_option maxRecDepth 100000 in
theorem d_204_12 : decode (mB 204) 12 = .ok (.astore_n 3, 1) := by decide +kernel
set_option maxRecDepth 100000 in
theorem d_204_13 : decode (mB 204) 13 = .ok (.iconst 1, 1) := by decide +kernel
set_option maxRecDepth 100000 in
theorem d_204_14 : decode (mB 204) 14 = .ok (.ireturn, 1) := by decide +kernel
set_option maxRecDepth 100000 in
theorem c_205_93 : cvP 205 93 42 1 := ⟨cd_42, okk_w (k := 1078) (by decide +kernel), okk_w (k := 1079) (by decide +kernel), okk_w (k := 1080) (by decide +kernel), by decide +kernel, by decide +kernel⟩
set_option maxRecDepth 100000 in
theorem d_205_0 : decode (mB 205) 0 = .ok (.aload_n 2, 1) := by decide +kernel
set_option maxRecDepth 100000 in
theorem d_205_1 : decode (mB 205) 1 = .ok (.iconst 0, 1) := by decide +kernel
set_option maxRecDepth 100000 in
theorem d_205_2 : decode (mB 205) 2 = .ok (.aload_n 0, 1) := by decide +kernel
set_option maxRecDepth 100000 in
theorem d_205_3 : decode (mB 205) 3 = .ok (.iload_n 1, 1) := by decide +kernel
set_option maxRecDepth 100000 in
theorem d_205_4 : decode (mB 205) 4 = .ok (.invokevirtual 93, 3) := by decide +kernel
set_option maxRecDepth 100000 in
theorem d_205_12 : decode (mB 205) 12 = .ok (.astore_n 3, 1) := by decide +kernel
set_option maxRecDepth 100000 in
theorem d_205_13 : decode (mB 205) 13 = .ok (.iconst 1, 1) := by decide +kernel
set_option maxRecDepth 100000 in
theorem d_205_14 : decode (mB 205) 14 = .ok (.ireturn, 1) := by decide +kernel
set_option maxRecDepth 100000 in
theorem c_206_96 : cvP 206 96 43 1 := ⟨cd_43, okk_w (k := 1085) (by decide +kernel), okk_w (k := 1086) (by decide +kernel), okk_w (k := 1087) (by decide +kernel), by decide +kernel, by decide +kernel⟩
set_option maxRecDepth 100000 in
theorem d_206_0 : decode (mB 206) 0 = .ok (.aload_n 2, 1) := by decide +kernel
set_option maxRecDepth 100000 in
theorem d_206_1 : decode (mB 206) 1 = .ok (.iconst 0, 1) := by decide +kernel
set_option maxRecDepth 100000 in
theorem d_206_2 : decode (mB 206) 2 = .ok (.aload_n 0, 1) := by decide +kernel
set_option maxRecDepth 100000 in
theorem d_206_3 : decode (mB 206) 3 = .ok (.iload_n 1, 1) := by decide +kernel
set_option maxRecDepth 100000 in
theorem d_206_4 : decode (mB 206) 4 = .ok (.invokevirtual 96, 3) := by decide +kernel
set_option maxRecDepth 100000 in
theorem d_206_12 : decode (mB 206) 12 = .ok (.astore_n 3, 1) := by decide +kernel
set_option maxRecDepth 100000 in
theorem d_206_13 : decode (mB 206) 13 = .ok (.iconst 1, 1) := by decide +kernel
set_option maxRecDepth 100000 in
theorem d_206_14 : decode (mB 206) 14 = .ok (.ireturn, 1) := by decide +kernel
set_option maxRecDepth 100000 in
theorem c_207_99 : cvP 207 99 44 1 := ⟨cd_44, okk_w (k := 1092) (by decide +kernel), okk_w (k := 1093) (by decide +kernel), okk_w (k := 1094) (by decide +kernel), by decide +kernel, by decide +kernel⟩
set_option maxRecDepth 100000 in
theorem d_207_0 : decode (mB 207) 0 = .ok (.aload_n 2, 1) := by decide +kernel
set_option maxRecDepth 100000 in
theorem d_207_1 : decode (mB 207) 1 = .ok (.iconst 0, 1) := by decide +kernel
set_option maxRecDepth 100000 in
theorem d_207_2 : decode (mB 207) 2 = .ok (.aload_n 0, 1) := by decide +kernel
set_option maxRecDepth 100000 in
theorem d_207_3 : decode (mB 207) 3 = .ok (.iload_n 1, 1) := by decide +kernel
set_option maxRecDepth 100000 in
theorem d_207_4 : decode (mB 207) 4 = .ok (.invokevirtual 99, 3) := by decide +kernel
set_option maxRecDepth 100000 in
theorem d_207_12 : decode (mB 207) 12 = .ok (.astore_n 3, 1) := by decide +kernel
set_option maxRecDepth 100000 in
theorem d_207_13 : decode (mB 207) 13 = .ok (.iconst 1, 1) := by decide +kernel
set_option maxRecDepth 100000 in
theorem d_207_14 : decode (mB 207) 14 = .ok (.ireturn, 1) := by decide +kernel
set_option maxRecDepth 100000 in
theorem c_208_102 : cvP 208 102 45 0 := ⟨cd_45, okk_w (k := 1099) (by decide +kernel), okk_w (k := 1100) (by decide +kernel), okk_w (k := 1101) (by decide +kernel), by decide +kernel, by decide +kernel⟩
set_option maxRecDepth 100000 in
theorem d_208_0 : decode (mB 208) 0 = .ok (.aload_n 1, 1) := by decide +kernel
set_option maxRecDepth 100000 in
theorem d_208_1 : decode (mB 208) 1 = .ok (.iconst 0, 1) := by decide +kernel
set_option maxRecDepth 100000 in
theorem d_208_2 : decode (mB 208) 2 = .ok (.aload_n 0, 1) := by decide +kernel
set_option maxRecDepth 100000 in
theorem d_208_3 : decode (mB 208) 3 = .ok (.invokevirtual 102, 3) := by decide +kernel
set_option maxRecDepth 100000 in
theorem d_208_11 : decode (mB 208) 11 = .ok (.astore_n 2, 1) := by decide +kernel
set_option maxRecDepth 100000 in
theorem d_208_12 : decode (mB 208) 12 = .ok (.iconst 1, 1) := by decide +kernel
set_option maxRecDepth 100000 in
theorem d_208_13 : decode (mB 208) 13 = .ok (.ireturn, 1) := by decide +kernel
set_option maxRecDepth 100000 in
theorem c_209_106 : cvP 209 106 46 0 := ⟨cd_46, okk_w (k := 1106) (by decide +kernel), okk_w (k := 1107) (by decide +kernel), okk_w (k := 1108) (by decide +kernel), by decide +kernel, by decide +kernel⟩
set_option maxRecDepth 100000 in
theorem d_209_0 : decode (mB 209) 0 = .ok (.aload_n 1, 1) := by decide +kernel
set_option maxRecDepth 100000 in
theorem d_209_1 : decode (mB 209) 1 = .ok (.iconst 0, 1) := by decide +kernel
set_option maxRecDepth 100000 in
theorem d_209_2 : decode (mB 209) 2 = .ok (.aload_n 0, 1) := by decide +kernel
set_option maxRecDepth 100000 in
theorem d_209_3 : decode (mB 209) 3 = .ok (.invokevirtual 106, 3) := by decide +kernel
set_option maxRecDepth 100000 in
theorem d_209_11 : decode (mB 209) 11 = .ok (.astore_n 2, 1) := by decide +kernel
set_option maxRecDepth 100000 in
theorem d_209_12 : decode (mB 209) 12 = .ok (.iconst 1, 1) := by decide +kernel
set_option maxRecDepth 100000 in
theorem d_209_13 : decode (mB 209) 13 = .ok (.ireturn, 1) := by decide +kernel
set_option maxRecDepth 100000 in
theorem c_210_109 : cvP 210 109 47 0 := ⟨cd_47, okk_w (k := 1113) (by decide +kernel), okk_w (k := 1114) (by decide +kernel), okk_w (k := 1115) (by decide +kernel), by decide +kernel, by decide +kernel⟩
set_option maxRecDepth 100000 in
theorem d_210_0 : decode (mB 210) 0 = .ok (.aload_n 1, 1) := by decide +kernel
set_option maxRecDepth 100000 in
theorem d_210_1 : decode (mB 210) 1 = .ok (.iconst 0, 1) := by decide +kernel
set_option maxRecDepth 100000 in
theorem d_210_2 : decode (mB 210) 2 = .ok (.aload_n 0, 1) := by decide +kernel
set_option maxRecDepth 100000 in
theorem d_210_3 : decode (mB 210) 3 = .ok (.invokevirtual 109, 3) := by decide +kernel
set_option maxRecDepth 100000 in
theorem d_210_18 : decode (mB 210) 18 = .ok (.astore_n 2, 1) := by decide +kernel
set_option maxRecDepth 100000 in
theorem d_210_19 : decode (mB 210) 19 = .ok (.iconst 1, 1) := by decide +kernel
set_option maxRecDepth 100000 in
theorem d_210_20 : decode (mB 210) 20 = .ok (.ireturn, 1) := by decide +kernel
set_option maxRecDepth 100000 in
theorem c_211_113 : cvP 211 113 48 3 := ⟨cd_48, okk_w (k := 1120) (by decide +kernel), okk_w (k := 1121) (by decide +kernel), okk_w (k := 1122) (by decide +kernel), by decide +kernel, by decide +kernel⟩
set_option maxRecDepth 100000 in
theorem d_211_0 : decode (mB 211) 0 = .ok (.aload 4, 2) := by decide +kernel
set_option maxRecDepth 100000 in
theorem d_211_2 : decode (mB 211) 2 = .ok (.iconst 0, 1) := by decide +kernel
set_option maxRecDepth 100000 in
theorem d_211_3 : decode (mB 211) 3 = .ok (.aload_n 0, 1) := by decide +kernel
set_option maxRecDepth 100000 in
theorem d_211_4 : decode (mB 211) 4 = .ok (.iload_n 1, 1) := by decide +kernel
set_option maxRecDepth 100000 in
theorem d_211_5 : decode (mB 211) 5 = .ok (.iload_n 2, 1) := by decide +kernel
set_option maxRecDepth 100000 in
theorem d_211_6 : decode (mB 211) 6 = .ok (.iload_n 3, 1) := by decide +kernel
set_option maxRecDepth 100000 in
theorem d_211_7 : decode (mB 211) 7 = .ok (.invokevirtual 113, 3) := by decide +kernel
set_option maxRecDepth 100000 in
theorem d_211_15 : decode (mB 211) 15 = .ok (.astore 5, 2) := by decide +kernel
set_option maxRecDepth 100000 in
theorem d_211_17 : decode (mB 211) 17 = .ok (.iconst 1, 1) := by decide +kernel
set_option maxRecDepth 100000 in
theorem d_211_18 : decode (mB 211) 18 = .ok (.ireturn, 1) := by decide +kernel
set_option maxRecDepth 100000 in
theorem cl_13_8 : okw (.classLink "WhistleStopLaw" 8 "WhistleStop") := okk_w (k := 80) (by decide +kernel)
set_option maxRecDepth 100000 in
theorem c_212_116 : ciP 212 116 0 0 := ⟨cd_0, okk_w (k := 82) (by decide +kernel), okk_w (k := 83) (by decide +kernel), by decide +kernel, by decide +kernel, by decide +kernel⟩
set_option maxRecDepth 100000 in
theorem cl_13_117 : okw (.classLink "WhistleStopLaw" 117 "WhistleStopModel") := okk_w (k := 1124) (by decide +kernel)
set_option maxRecDepth 100000 in
theorem c_212_119 : ciP 212 119 49 0 := ⟨cd_49, okk_w (k := 1126) (by decide +kernel), okk_w (k := 1127) (by decide +kernel), by decide +kernel, by decide +kernel, by decide +kernel⟩
set_option maxRecDepth 100000 in
theorem c_212_125 : cvP 212 125 51 1 := ⟨cd_51, okk_w (k := 1253) (by decide +kernel), okk_w (k := 1254) (by decide +kernel), okk_w (k := 1255) (by decide +kernel), by decide +kernel, by decide +kernel⟩
set_option maxRecDepth 100000 in
theorem c_212_126 : cvP 212 126 50 0 := ⟨cd_50, okk_w (k := 1249) (by decide +kernel), okk_w (k := 1250) (by decide +kernel), okk_w (k := 1251) (by decide +kernel), by decide +kernel, by decide +kernel⟩
set_option maxRecDepth 100000 in
theorem c_212_132 : cvP 212 132 54 2 := ⟨cd_54, okk_w (k := 1264) (by decide +kernel), okk_w (k := 1265) (by decide +kernel), okk_w (k := 1266) (by decide +kernel), by decide +kernel, by decide +kernel⟩
set_option maxRecDepth 100000 in
theorem c_212_136 : cvP 212 136 56 3 := ⟨cd_56, okk_w (k := 1272) (by decide +kernel), okk_w (k := 1273) (by decide +kernel), okk_w (k := 1274) (by decide +kernel), by decide +kernel, by decide +kernel⟩
set_option maxRecDepth 100000 in
theorem c_212_139 : cvP 212 139 57 3 := ⟨cd_57, okk_w (k := 1276) (by decide +kernel), okk_w (k := 1277) (by decide +kernel), okk_w (k := 1278) (by decide +kernel), by decide +kernel, by decide +kernel⟩
set_option maxRecDepth 100000 in
theorem c_212_143 : cvP 212 143 58 3 := ⟨cd_58, okk_w (k := 1280) (by decide +kernel), okk_w (k := 1281) (by decide +kernel), okk_w (k := 1282) (by decide +kernel), by decide +kernel, by decide +kernel⟩
set_option maxRecDepth 100000 in
theorem c_212_146 : cvP 212 146 61 2 := ⟨cd_61, okk_w (k := 1292) (by decide +kernel), okk_w (k := 1293) (by decide +kernel), okk_w (k := 1294) (by decide +kernel), by decide +kernel, by decide +kernel⟩
set_option maxRecDepth 100000 in
theorem c_212_150 : cvP 212 150 62 4 := ⟨cd_62, okk_w (k := 1296) (by decide +kernel), okk_w (k := 1297) (by decide +kernel), okk_w (k := 1298) (by decide +kernel), by decide +kernel, by decide +kernel⟩
set_option maxRecDepth 100000 in
theorem c_212_153 : cvP 212 153 63 4 := ⟨cd_63, okk_w (k := 1300) (by decide +kernel), okk_w (k := 1301) (by decide +kernel), okk_w (k := 1302) (by decide +kernel), by decide +kernel, by decide +kernel⟩
set_option maxRecDepth 100000 in
theorem c_212_154 : cvP 212 154 1 0 := ⟨cd_1, okk_w (k := 362) (by decide +kernel), okk_w (k := 363) (by decide +kernel), okk_w (k := 364) (by decide +kernel), by decide +kernel, by decide +kernel⟩
set_option maxRecDepth 100000 in
theorem c_212_157 : cvP 212 157 65 0 := ⟨cd_65, okk_w (k := 1308) (by decide +kernel), okk_w (k := 1309) (by decide +kernel), okk_w (k := 1310) (by decide +kernel), by decide +kernel, by decide +kernel⟩
set_option maxRecDepth 100000 in
theorem c_212_158 : cvP 212 158 2 0 := ⟨cd_2, okk_w (k := 366) (by decide +kernel), okk_w (k := 367) (by decide +kernel), okk_w (k := 368) (by decide +kernel), by decide +kernel, by decide +kernel⟩
set_option maxRecDepth 100000 in
theorem c_212_161 : cvP 212 161 67 0 := ⟨cd_67, okk_w (k := 1316) (by decide +kernel), okk_w (k := 1317) (by decide +kernel), okk_w (k := 1318) (by decide +kernel), by decide +kernel, by decide +kernel⟩
set_option maxRecDepth 100000 in
theorem c_212_164 : cvP 212 164 68 1 := ⟨cd_68, okk_w (k := 1320) (by decide +kernel), okk_w (k := 1321) (by decide +kernel), okk_w (k := 1322) (by decide +kernel), by decide +kernel, by decide +kernel⟩
set_option maxRecDepth 100000 in
theorem c_212_167 : cvP 212 167 69 2 := ⟨cd_69, okk_w (k := 1324) (by decide +kernel), okk_w (k := 1325) (by decide +kernel), okk_w (k := 1326) (by decide +kernel), by decide +kernel, by decide +kernel⟩
set_option maxRecDepth 100000 in
theorem c_212_170 : cvP 212 170 70 3 := ⟨cd_70, okk_w (k := 1328) (by decide +kernel), okk_w (k := 1329) (by decide +kernel), okk_w (k := 1330) (by decide +kernel), by decide +kernel, by decide +kernel⟩
set_option maxRecDepth 100000 in
theorem c_212_173 : cvP 212 173 71 2 := ⟨cd_71, okk_w (k := 1332) (by decide +kernel), okk_w (k := 1333) (by decide +kernel), okk_w (k := 1334) (by decide +kernel), by decide +kernel, by decide +kernel⟩
set_option maxRecDepth 100000 in
theorem c_212_176 : cvP 212 176 73 2 := ⟨cd_73, okk_w (k := 1340) (by decide +kernel), okk_w (k := 1341) (by decide +kernel), okk_w (k := 1342) (by decide +kernel), by decide +kernel, by decide +kernel⟩
set_option maxRecDepth 100000 in
theorem c_212_179 : cvP 212 179 74 2 := ⟨cd_74, okk_w (k := 1344) (by decide +kernel), okk_w (k := 1345) (by decide +kernel), okk_w (k := 1346) (by decide +kernel), by decide +kernel, by decide +kernel⟩
set_option maxRecDepth 100000 in
theorem c_212_182 : cvP 212 182 78 3 := ⟨cd_78, okk_w (k := 1361) (by decide +kernel), okk_w (k := 1362) (by decide +kernel), okk_w (k := 1363) (by decide +kernel), by decide +kernel, by decide +kernel⟩
set_option maxRecDepth 100000 in
theorem c_212_185 : cvP 212 185 79 3 := ⟨cd_79, okk_w (k := 1365) (by decide +kernel), okk_w (k := 1366) (by decide +kernel), okk_w (k := 1367) (by decide +kernel), by decide +kernel, by decide +kernel⟩
set_option maxRecDepth 100000 in
theorem c_212_188 : cvP 212 188 80 3 := ⟨cd_80, okk_w (k := 1369) (by decide +kernel), okk_w (k := 1370) (by decide +kernel), okk_w (k := 1371) (by decide +kernel), by decide +kernel, by decide +kernel⟩
set_option maxRecDepth 100000 in
theorem c_212_191 : cvP 212 191 88 4 := ⟨cd_88, okk_w (k := 1402) (by decide +kernel), okk_w (k := 1403) (by decide +kernel), okk_w (k := 1404) (by decide +kernel), by decide +kernel, by decide +kernel⟩
set_option maxRecDepth 100000 in
theorem c_212_194 : cvP 212 194 89 3 := ⟨cd_89, okk_w (k := 1406) (by decide +kernel), okk_w (k := 1407) (by decide +kernel), okk_w (k := 1408) (by decide +kernel), by decide +kernel, by decide +kernel⟩
set_option maxRecDepth 100000 in
theorem c_212_197 : cvP 212 197 92 4 := ⟨cd_92, okk_w (k := 1418) (by decide +kernel), okk_w (k := 1419) (by decide +kernel), okk_w (k := 1420) (by decide +kernel), by decide +kernel, by decide +kernel⟩
set_option maxRecDepth 100000 in
theorem c_212_200 : cvP 212 200 96 3 := ⟨cd_96, okk_w (k := 1434) (by decide +kernel), okk_w (k := 1435) (by decide +kernel), okk_w (k := 1436) (by decide +kernel), by decide +kernel, by decide +kernel⟩
set_option maxRecDepth 100000 in
theorem c_212_203 : cvP 212 203 91 3 := ⟨cd_91, okk_w (k := 1414) (by decide +kernel), okk_w (k := 1415) (by decide +kernel), okk_w (k := 1416) (by decide +kernel), by decide +kernel, by decide +kernel⟩
set_option maxRecDepth 100000 in
theorem c_212_206 : cvP 212 206 100 3 := ⟨cd_100, okk_w (k := 1451) (by decide +kernel), okk_w (k := 1452) (by decide +kernel), okk_w (k := 1453) (by decide +kernel), by decide +kernel, by decide +kernel⟩
set_option maxRecDepth 100000 in
theorem c_212_207 : cvP 212 207 3 0 := ⟨cd_3, okk_w (k := 370) (by decide +kernel), okk_w (k := 371) (by decide +kernel), okk_w (k := 372) (by decide +kernel), by decide +kernel, by decide +kernel⟩
set_option maxRecDepth 100000 in
theorem c_212_210 : cvP 212 210 104 0 := ⟨cd_104, okk_w (k := 1467) (by decide +kernel), okk_w (k := 1468) (by decide +kernel), okk_w (k := 1469) (by decide +kernel), by decide +kernel, by decide +kernel⟩
set_option maxRecDepth 100000 in
theorem c_212_213 : cvP 212 213 105 1 := ⟨cd_105, okk_w (k := 1471) (by decide +kernel), okk_w (k := 1472) (by decide +kernel), okk_w (k := 1473) (by decide +kernel), by decide +kernel, by decide +kernel⟩
set_option maxRecDepth 100000 in
theorem c_212_216 : cvP 212 216 107 1 := ⟨cd_107, okk_w (k := 1479) (by decide +kernel), okk_w (k := 1480) (by decide +kernel), okk_w (k := 1481) (by decide +kernel), by decide +kernel, by decide +kernel⟩
set_option maxRecDepth 100000 in
theorem c_212_219 : cvP 212 219 108 1 := ⟨cd_108, okk_w (k := 1483) (by decide +kernel), okk_w (k := 1484) (by decide +kernel), okk_w (k := 1485) (by decide +kernel), by decide +kernel, by decide +kernel⟩
set_option maxRecDepth 100000 in
theorem c_212_222 : cvP 212 222 109 1 := ⟨cd_109, okk_w (k := 1487) (by decide +kernel), okk_w (k := 1488) (by decide +kernel), okk_w (k := 1489) (by decide +kernel), by decide +kernel, by decide +kernel⟩
set_option maxRecDepth 100000 in
theorem c_212_226 : cvP 212 226 110 0 := ⟨cd_110, okk_w (k := 1491) (by decide +kernel), okk_w (k := 1492) (by decide +kernel), okk_w (k := 1493) (by decide +kernel), by decide +kernel, by decide +kernel⟩
set_option maxRecDepth 100000 in
theorem c_212_229 : cvP 212 229 111 0 := ⟨cd_111, okk_w (k := 1495) (by decide +kernel), okk_w (k := 1496) (by decide +kernel), okk_w (k := 1497) (by decide +kernel), by decide +kernel, by decide +kernel⟩
set_option maxRecDepth 100000 in
theorem c_212_232 : cvP 212 232 113 0 := ⟨cd_113, okk_w (k := 1503) (by decide +kernel), okk_w (k := 1504) (by decide +kernel), okk_w (k := 1505) (by decide +kernel), by decide +kernel, by decide +kernel⟩
set_option maxRecDepth 100000 in
theorem c_212_235 : cvP 212 235 115 3 := ⟨cd_115, okk_w (k := 1511) (by decide +kernel), okk_w (k := 1512) (by decide +kernel), okk_w (k := 1513) (by decide +kernel), by decide +kernel, by decide +kernel⟩
set_option maxRecDepth 100000 in
theorem c_212_236 : cvP 212 236 4 0 := ⟨cd_4, okk_w (k := 374) (by decide +kernel), okk_w (k := 375) (by decide +kernel), okk_w (k := 376) (by decide +kernel), by decide +kernel, by decide +kernel⟩
set_option maxRecDepth 100000 in
theorem c_212_240 : cvP 212 240 116 0 := ⟨cd_116, okk_w (k := 1515) (by decide +kernel), okk_w (k := 1516) (by decide +kernel), okk_w (k := 1517) (by decide +kernel), by decide +kernel, by decide +kernel⟩
set_option maxRecDepth 100000 in
theorem c_212_241 : cvP 212 241 5 0 := ⟨cd_5, okk_w (k := 390) (by decide +kernel), okk_w (k := 391) (by decide +kernel), okk_w (k := 392) (by decide +kernel), by decide +kernel, by decide +kernel⟩
set_option maxRecDepth 100000 in
theorem c_212_245 : cvP 212 245 117 0 := ⟨cd_117, okk_w (k := 1519) (by decide +kernel), okk_w (k := 1520) (by decide +kernel), okk_w (k := 1521) (by decide +kernel), by decide +kernel, by decide +kernel⟩
set_option maxRecDepth 100000 in
theorem d_212_0 : decode (mB 212) 0 = .ok (.new 8, 3) := by decide +kernel
set_option maxRecDepth 100000 in
theorem d_212_3 : decode (mB 212) 3 = .ok (.dup, 1) := by decide +kernel
set_option maxRecDepth 100000 in
theorem d_212_4 : decode (mB 212) 4 = .ok (.invokespecial 116, 3) := by decide +kernel
set_option maxRecDepth 100000 in
theorem d_212_7 : decode (mB 212) 7 = .ok (.astore_n 1, 1) := by decide +kernel
set_option maxRecDepth 100000 in
theorem d_212_8 : decode (mB 212) 8 = .ok (.new 117, 3) := by decide +kernel
set_option maxRecDepth 100000 in
theorem d_212_11 : decode (mB 212) 11 = .ok (.dup, 1) := by decide +kernel
set_option maxRecDepth 100000 in
theorem d_212_12 : decode (mB 212) 12 = .ok (.invokespecial 119, 3) := by decide +kernel
set_option maxRecDepth 100000 in
theorem d_212_15 : decode (mB 212) 15 = .ok (.astore_n 2, 1) := by decide +kernel
set_option maxRecDepth 100000 in
theorem d_212_16 : decode (mB 212) 16 = .ok (.iconst 1, 1) := by decide +kernel
set_option maxRecDepth 100000 in
theorem d_212_17 : decode (mB 212) 17 = .ok (.newarray .long, 2) := by decide +kernel
set_option maxRecDepth 100000 in
theorem d_212_19 : decode (mB 212) 19 = .ok (.astore_n 3, 1) := by decide +kernel
set_option maxRecDepth 100000 in
theorem d_212_20 : decode (mB 212) 20 = .ok (.iconst 0, 1) := by decide +kernel
set_option maxRecDepth 100000 in
theorem d_212_21 : decode (mB 212) 21 = .ok (.istore 4, 2) := by decide +kernel
set_option maxRecDepth 100000 in
theorem d_212_23 : decode (mB 212) 23 = .ok (.iload 4, 2) := by decide +kernel
set_option maxRecDepth 100000 in
theorem d_212_25 : decode (mB 212) 25 = .ok (.aload_n 0, 1) := by decide +kernel
set_option maxRecDepth 100000 in
theorem d_212_26 : decode (mB 212) 26 = .ok (.arraylength, 1) := by decide +kernel
set_option maxRecDepth 100000 in
theorem d_212_27 : decode (mB 212) 27 = .ok (.iconst 5, 1) := by decide +kernel
set_option maxRecDepth 100000 in
theorem d_212_28 : decode (mB 212) 28 = .ok (.isub, 1) := by decide +kernel
set_option maxRecDepth 100000 in
theorem d_212_29 : decode (mB 212) 29 = .ok (.if_icmp .gt 2515, 3) := by decide +kernel
set_option maxRecDepth 100000 in
theorem d_212_32 : decode (mB 212) 32 = .ok (.aload_n 0, 1) := by decide +kernel
set_option maxRecDepth 100000 in
theorem d_212_33 : decode (mB 212) 33 = .ok (.iload 4, 2) := by decide +kernel
set_option maxRecDepth 100000 in
theorem d_212_35 : decode (mB 212) 35 = .ok (.iaload, 1) := by decide +kernel
set_option maxRecDepth 100000 in
theorem d_212_36 : decode (mB 212) 36 = .ok (.bipush 63, 2) := by decide +kernel
set_option maxRecDepth 100000 in
theorem d_212_38 : decode (mB 212) 38 = .ok (.iand, 1) := by decide +kernel
set_option maxRecDepth 100000 in
theorem d_212_39 : decode (mB 212) 39 = .ok (.tableswitch 2499 0 35 #[157, 213, 281, 361, 441, 544, 619, 711, 803, 816, 829, 885, 953, 1033, 1108, 1176, 1244, 1324, 1404, 1484, 1576, 1656, 1748, 1828, 1908, 1988, 2001, 2057, 2113, 2169, 2225, 2269, 2313, 2364, 2444, 2485], 157) := by decide +kernel
set_option maxRecDepth 100000 in
theorem d_212_196 : decode (mB 212) 196 = .ok (.aload_n 1, 1) := by decide +kernel
set_option maxRecDepth 100000 in
theorem d_212_197 : decode (mB 212) 197 = .ok (.aload_n 0, 1) := by decide +kernel
set_option maxRecDepth 100000 in
theorem d_212_198 : decode (mB 212) 198 = .ok (.iload 4, 2) := by decide +kernel
set_option maxRecDepth 100000 in
theorem d_212_200 : decode (mB 212) 200 = .ok (.iconst 1, 1) := by decide +kernel
set_option maxRecDepth 100000 in
theorem d_212_201 : decode (mB 212) 201 = .ok (.iadd, 1) := by decide +kernel
set_option maxRecDepth 100000 in
theorem d_212_202 : decode (mB 212) 202 = .ok (.iaload, 1) := by decide +kernel
set_option maxRecDepth 100000 in
theorem d_212_203 : decode (mB 212) 203 = .ok (.aload_n 3, 1) := by decide +kernel
set_option maxRecDepth 100000 in
theorem d_212_204 : decode (mB 212) 204 = .ok (.invokestatic 120, 3) := by decide +kernel
set_option maxRecDepth 100000 in
theorem d_212_207 : decode (mB 212) 207 = .ok (.istore 5, 2) := by decide +kernel
set_option maxRecDepth 100000 in
theorem d_212_209 : decode (mB 212) 209 = .ok (.aload_n 2, 1) := by decide +kernel
set_option maxRecDepth 100000 in
theorem d_212_210 : decode (mB 212) 210 = .ok (.aload_n 0, 1) := by decide +kernel
set_option maxRecDepth 100000 in
theorem d_212_211 : decode (mB 212) 211 = .ok (.iload 4, 2) := by decide +kernel
set_option maxRecDepth 100000 in
theorem d_212_213 : decode (mB 212) 213 = .ok (.iconst 1, 1) := by decide +kernel
set_option maxRecDepth 100000 in
theorem d_212_214 : decode (mB 212) 214 = .ok (.iadd, 1) := by decide +kernel
set_option maxRecDepth 100000 in
theorem d_212_215 : decode (mB 212) 215 = .ok (.iaload, 1) := by decide +kernel
set_option maxRecDepth 100000 in
theorem d_212_216 : decode (mB 212) 216 = .ok (.invokevirtual 125, 3) := by decide +kernel
set_option maxRecDepth 100000 in
theorem d_212_219 : decode (mB 212) 219 = .ok (.istore 6, 2) := by decide +kernel
set_option maxRecDepth 100000 in
theorem d_212_221 : decode (mB 212) 221 = .ok (.aload_n 2, 1) := by decide +kernel
set_option maxRecDepth 100000 in
theorem d_212_222 : decode (mB 212) 222 = .ok (.invokevirtual 126, 3) := by decide +kernel
set_option maxRecDepth 100000 in
theorem d_212_225 : decode (mB 212) 225 = .ok (.iload 5, 2) := by decide +kernel
set_option maxRecDepth 100000 in
theorem d_212_227 : decode (mB 212) 227 = .ok (.if_icmp .eq 5, 3) := by decide +kernel
set_option maxRecDepth 100000 in
theorem d_212_232 : decode (mB 212) 232 = .ok (.iload 5, 2) := by decide +kernel
set_option maxRecDepth 100000 in
theorem d_212_234 : decode (mB 212) 234 = .ok (.ifCond .ne 15, 3) := by decide +kernel
set_option maxRecDepth 100000 in
theorem d_212_237 : decode (mB 212) 237 = .ok (.aload_n 3, 1) := by decide +kernel
set_option maxRecDepth 100000 in
theorem d_212_238 : decode (mB 212) 238 = .ok (.iconst 0, 1) := by decide +kernel
set_option maxRecDepth 100000 in
theorem d_212_239 : decode (mB 212) 239 = .ok (.laload, 1) := by decide +kernel
set_option maxRecDepth 100000 in
theorem d_212_240 : decode (mB 212) 240 = .ok (.iload 6, 2) := by decide +kernel
set_option maxRecDepth 100000 in
theorem d_212_242 : decode (mB 212) 242 = .ok (.i2l, 1) := by decide +kernel
set_option maxRecDepth 100000 in
theorem d_212_243 : decode (mB 212) 243 = .ok (.lcmp, 1) := by decide +kernel
set_option maxRecDepth 100000 in
theorem d_212_244 : decode (mB 212) 244 = .ok (.ifCond .eq 5, 3) := by decide +kernel
set_option maxRecDepth 100000 in
theorem d_212_249 : decode (mB 212) 249 = .ok (.goto 2289, 3) := by decide +kernel
set_option maxRecDepth 100000 in
theorem d_212_252 : decode (mB 212) 252 = .ok (.aload_n 1, 1) := by decide +kernel
set_option maxRecDepth 100000 in
theorem d_212_253 : decode (mB 212) 253 = .ok (.aload_n 0, 1) := by decide +kernel
set_option maxRecDepth 100000 in
theorem d_212_254 : decode (mB 212) 254 = .ok (.iload 4, 2) := by decide +kernel
set_option maxRecDepth 100000 in
theorem d_212_256 : decode (mB 212) 256 = .ok (.iconst 1, 1) := by decide +kernel
set_option maxRecDepth 100000 in
theorem d_212_257 : decode (mB 212) 257 = .ok (.iadd, 1) := by decide +kernel
set_option maxRecDepth 100000 in
theorem d_212_258 : decode (mB 212) 258 = .ok (.iaload, 1) := by decide +kernel
set_option maxRecDepth 100000 in
theorem d_212_259 : decode (mB 212) 259 = .ok (.aload_n 0, 1) := by decide +kernel
set_option maxRecDepth 100000 in
theorem d_212_260 : decode (mB 212) 260 = .ok (.iload 4, 2) := by decide +kernel
set_option maxRecDepth 100000 in
theorem d_212_262 : decode (mB 212) 262 = .ok (.iconst 2, 1) := by decide +kernel
set_option maxRecDepth 100000 in
theorem d_212_263 : decode (mB 212) 263 = .ok (.iadd, 1) := by decide +kernel
set_option maxRecDepth 100000 in
theorem d_212_264 : decode (mB 212) 264 = .ok (.iaload, 1) := by decide +kernel
set_option maxRecDepth 100000 in
theorem d_212_265 : decode (mB 212) 265 = .ok (.aload_n 3, 1) := by decide +kernel
set_option maxRecDepth 100000 in
theorem d_212_266 : decode (mB 212) 266 = .ok (.invokestatic 129, 3) := by decide +kernel
set_option maxRecDepth 100000 in
theorem d_212_269 : decode (mB 212) 269 = .ok (.istore 5, 2) := by decide +kernel
set_option maxRecDepth 100000 in
theorem d_212_271 : decode (mB 212) 271 = .ok (.aload_n 2, 1) := by decide +kernel
set_option maxRecDepth 100000 in
theorem d_212_272 : decode (mB 212) 272 = .ok (.aload_n 0, 1) := by decide +kernel
set_option maxRecDepth 100000 in
theorem d_212_273 : decode (mB 212) 273 = .ok (.iload 4, 2) := by decide +kernel
set_option maxRecDepth 100000 in
theorem d_212_275 : decode (mB 212) 275 = .ok (.iconst 1, 1) := by decide +kernel
set_option maxRecDepth 100000 in
theorem d_212_276 : decode (mB 212) 276 = .ok (.iadd, 1) := by decide +kernel
set_option maxRecDepth 100000 in
theorem d_212_277 : decode (mB 212) 277 = .ok (.iaload, 1) := by decide +kernel
set_option maxRecDepth 100000 in
theorem d_212_278 : decode (mB 212) 278 = .ok (.aload_n 0, 1) := by decide +kernel
set_option maxRecDepth 100000 in
theorem d_212_279 : decode (mB 212) 279 = .ok (.iload 4, 2) := by decide +kernel
set_option maxRecDepth 100000 in
theorem d_212_281 : decode (mB 212) 281 = .ok (.iconst 2, 1) := by decide +kernel
set_option maxRecDepth 100000 in
theorem d_212_282 : decode (mB 212) 282 = .ok (.iadd, 1) := by decide +kernel
set_option maxRecDepth 100000 in
theorem d_212_283 : decode (mB 212) 283 = .ok (.iaload, 1) := by decide +kernel
set_option maxRecDepth 100000 in
theorem d_212_284 : decode (mB 212) 284 = .ok (.invokevirtual 132, 3) := by decide +kernel
set_option maxRecDepth 100000 in
theorem d_212_287 : decode (mB 212) 287 = .ok (.istore 6, 2) := by decide +kernel
set_option maxRecDepth 100000 in
theorem d_212_289 : decode (mB 212) 289 = .ok (.aload_n 2, 1) := by decide +kernel
set_option maxRecDepth 100000 in
theorem d_212_290 : decode (mB 212) 290 = .ok (.invokevirtual 126, 3) := by decide +kernel
set_option maxRecDepth 100000 in
theorem d_212_293 : decode (mB 212) 293 = .ok (.iload 5, 2) := by decide +kernel
set_option maxRecDepth 100000 in
theorem d_212_295 : decode (mB 212) 295 = .ok (.if_icmp .eq 5, 3) := by decide +kernel
set_option maxRecDepth 100000 in
theorem d_212_300 : decode (mB 212) 300 = .ok (.iload 5, 2) := by decide +kernel
set_option maxRecDepth 100000 in
theorem d_212_302 : decode (mB 212) 302 = .ok (.ifCond .ne 15, 3) := by decide +kernel
set_option maxRecDepth 100000 in
theorem d_212_317 : decode (mB 212) 317 = .ok (.goto 2221, 3) := by decide +kernel
set_option maxRecDepth 100000 in
theorem d_212_320 : decode (mB 212) 320 = .ok (.aload_n 1, 1) := by decide +kernel
set_option maxRecDepth 100000 in
theorem d_212_321 : decode (mB 212) 321 = .ok (.aload_n 0, 1) := by decide +kernel
set_option maxRecDepth 100000 in
theorem d_212_322 : decode (mB 212) 322 = .ok (.iload 4, 2) := by decide +kernel
set_option maxRecDepth 100000 in
theorem d_212_324 : decode (mB 212) 324 = .ok (.iconst 1, 1) := by decide +kernel
set_option maxRecDepth 100000 in
theorem d_212_325 : decode (mB 212) 325 = .ok (.iadd, 1) := by decide +kernel
set_option maxRecDepth 100000 in
theorem d_212_326 : decode (mB 212) 326 = .ok (.iaload, 1) := by decide +kernel
set_option maxRecDepth 100000 in
theorem d_212_327 : decode (mB 212) 327 = .ok (.aload_n 0, 1) := by decide +kernel
set_option maxRecDepth 100000 in
theorem d_212_328 : decode (mB 212) 328 = .ok (.iload 4, 2) := by decide +kernel
set_option maxRecDepth 100000 in
theorem d_212_330 : decode (mB 212) 330 = .ok (.iconst 2, 1) := by decide +kernel
set_option maxRecDepth 100000 in
theorem d_212_331 : decode (mB 212) 331 = .ok (.iadd, 1) := by decide +kernel
set_option maxRecDepth 100000 in
theorem d_212_332 : decode (mB 212) 332 = .ok (.iaload, 1) := by decide +kernel
set_option maxRecDepth 100000 in
theorem d_212_333 : decode (mB 212) 333 = .ok (.aload_n 0, 1) := by decide +kernel
set_option maxRecDepth 100000 in
theorem d_212_334 : decode (mB 212) 334 = .ok (.iload 4, 2) := by decide +kernel
set_option maxRecDepth 100000 in
theorem d_212_336 : decode (mB 212) 336 = .ok (.iconst 3, 1) := by decide +kernel
set_option maxRecDepth 100000 in
theorem d_212_337 : decode (mB 212) 337 = .ok (.iadd, 1) := by decide +kernel
set_option maxRecDepth 100000 in
theorem d_212_338 : decode (mB 212) 338 = .ok (.iaload, 1) := by decide +kernel
set_option maxRecDepth 100000 in
theorem d_212_339 : decode (mB 212) 339 = .ok (.aload_n 3, 1) := by decide +kernel
set_option maxRecDepth 100000 in
theorem d_212_340 : decode (mB 212) 340 = .ok (.invokestatic 133, 3) := by decide +kernel
set_option maxRecDepth 100000 in
theorem d_212_343 : decode (mB 212) 343 = .ok (.istore 5, 2) := by decide +kernel
set_option maxRecDepth 100000 in
theorem d_212_345 : decode (mB 212) 345 = .ok (.aload_n 2, 1) := by decide +kernel
set_option maxRecDepth 100000 in
theorem d_212_346 : decode (mB 212) 346 = .ok (.aload_n 0, 1) := by decide +kernel
set_option maxRecDepth 100000 in
theorem d_212_347 : decode (mB 212) 347 = .ok (.iload 4, 2) := by decide +kernel
set_option maxRecDepth 100000 in
theorem d_212_349 : decode (mB 212) 349 = .ok (.iconst 1, 1) := by decide +kernel
set_option maxRecDepth 100000 in
theorem d_212_350 : decode (mB 212) 350 = .ok (.iadd, 1) := by decide +kernel
set_option maxRecDepth 100000 in
theorem d_212_351 : decode (mB 212) 351 = .ok (.iaload, 1) := by decide +kernel
set_option maxRecDepth 100000 in
theorem d_212_352 : decode (mB 212) 352 = .ok (.aload_n 0, 1) := by decide +kernel
set_option maxRecDepth 100000 in
theorem d_212_353 : decode (mB 212) 353 = .ok (.iload 4, 2) := by decide +kernel
set_option maxRecDepth 100000 in
theorem d_212_355 : decode (mB 212) 355 = .ok (.iconst 2, 1) := by decide +kernel
set_option maxRecDepth 100000 in
theorem d_212_356 : decode (mB 212) 356 = .ok (.iadd, 1) := by decide +kernel
set_option maxRecDepth 100000 in
theorem d_212_357 : decode (mB 212) 357 = .ok (.iaload, 1) := by decide +kernel
set_option maxRecDepth 100000 in
theorem d_212_358 : decode (mB 212) 358 = .ok (.aload_n 0, 1) := by decide +kernel
set_option maxRecDepth 100000 in
theorem d_212_359 : decode (mB 212) 359 = .ok (.iload 4, 2) := by decide +kernel
set_option maxRecDepth 100000 in
theorem d_212_361 : decode (mB 212) 361 = .ok (.iconst 3, 1) := by decide +kernel
set_option maxRecDepth 100000 in
theorem d_212_362 : decode (mB 212) 362 = .ok (.iadd, 1) := by decide +kernel
set_option maxRecDepth 100000 in
theorem d_212_363 : decode (mB 212) 363 = .ok (.iaload, 1) := by decide +kernel
set_option maxRecDepth 100000 in
theorem d_212_364 : decode (mB 212) 364 = .ok (.invokevirtual 136, 3) := by decide +kernel
set_option maxRecDepth 100000 in
theorem d_212_367 : decode (mB 212) 367 = .ok (.istore 6, 2) := by decide +kernel
set_option maxRecDepth 100000 in
theorem d_212_369 : decode (mB 212) 369 = .ok (.aload_n 2, 1) := by decide +kernel
set_option maxRecDepth 100000 in
theorem d_212_370 : decode (mB 212) 370 = .ok (.invokevirtual 126, 3) := by decide +kernel
set_option maxRecDepth 100000 in
theorem d_212_373 : decode (mB 212) 373 = .ok (.iload 5, 2) := by decide +kernel
set_option maxRecDepth 100000 in
theorem d_212_375 : decode (mB 212) 375 = .ok (.if_icmp .eq 5, 3) := by decide +kernel
set_option maxRecDepth 100000 in
theorem d_212_380 : decode (mB 212) 380 = .ok (.iload 5, 2) := by decide +kernel
set_option maxRecDepth 100000 in
theorem d_212_382 : decode (mB 212) 382 = .ok (.ifCond .ne 15, 3) := by decide +kernel
set_option maxRecDepth 100000 in
theorem d_212_397 : decode (mB 212) 397 = .ok (.goto 2141, 3) := by decide +kernel
set_option maxRecDepth 100000 in
theorem d_212_400 : decode (mB 212) 400 = .ok (.aload_n 1, 1) := by decide +kernel
set_option maxRecDepth 100000 in
theorem d_212_401 : decode (mB 212) 401 = .ok (.aload_n 0, 1) := by decide +kernel
set_option maxRecDepth 100000 in
theorem d_212_402 : decode (mB 212) 402 = .ok (.iload 4, 2) := by decide +kernel
set_option maxRecDepth 100000 in
theorem d_212_404 : decode (mB 212) 404 = .ok (.iconst 1, 1) := by decide +kernel
set_option maxRecDepth 100000 in
theorem d_212_405 : decode (mB 212) 405 = .ok (.iadd, 1) := by decide +kernel
set_option maxRecDepth 100000 in
theorem d_212_406 : decode (mB 212) 406 = .ok (.iaload, 1) := by decide +kernel
set_option maxRecDepth 100000 in
theorem d_212_407 : decode (mB 212) 407 = .ok (.aload_n 0, 1) := by decide +kernel
set_option maxRecDepth 100000 in
theorem d_212_408 : decode (mB 212) 408 = .ok (.iload 4, 2) := by decide +kernel
set_option maxRecDepth 100000 in
theorem d_212_410 : decode (mB 212) 410 = .ok (.iconst 2, 1) := by decide +kernel
set_option maxRecDepth 100000 in
theorem d_212_411 : decode (mB 212) 411 = .ok (.iadd, 1) := by decide +kernel
set_option maxRecDepth 100000 in
theorem d_212_412 : decode (mB 212) 412 = .ok (.iaload, 1) := by decide +kernel
set_option maxRecDepth 100000 in
theorem d_212_413 : decode (mB 212) 413 = .ok (.aload_n 0, 1) := by decide +kernel
set_option maxRecDepth 100000 in
theorem d_212_414 : decode (mB 212) 414 = .ok (.iload 4, 2) := by decide +kernel
set_option maxRecDepth 100000 in
theorem d_212_416 : decode (mB 212) 416 = .ok (.iconst 3, 1) := by decide +kernel
set_option maxRecDepth 100000 in
theorem d_212_417 : decode (mB 212) 417 = .ok (.iadd, 1) := by decide +kernel
set_option maxRecDepth 100000 in
theorem d_212_418 : decode (mB 212) 418 = .ok (.iaload, 1) := by decide +kernel
set_option maxRecDepth 100000 in
theorem d_212_419 : decode (mB 212) 419 = .ok (.aload_n 3, 1) := by decide +kernel
set_option maxRecDepth 100000 in
theorem d_212_420 : decode (mB 212) 420 = .ok (.invokestatic 137, 3) := by decide +kernel
set_option maxRecDepth 100000 in
theorem d_212_423 : decode (mB 212) 423 = .ok (.istore 5, 2) := by decide +kernel
set_option maxRecDepth 100000 in
theorem d_212_425 : decode (mB 212) 425 = .ok (.aload_n 2, 1) := by decide +kernel
set_option maxRecDepth 100000 in
theorem d_212_426 : decode (mB 212) 426 = .ok (.aload_n 0, 1) := by decide +kernel
set_option maxRecDepth 100000 in
theorem d_212_427 : decode (mB 212) 427 = .ok (.iload 4, 2) := by decide +kernel
set_option maxRecDepth 100000 in
theorem d_212_429 : decode (mB 212) 429 = .ok (.iconst 1, 1) := by decide +kernel
set_option maxRecDepth 100000 in
theorem d_212_430 : decode (mB 212) 430 = .ok (.iadd, 1) := by decide +kernel
set_option maxRecDepth 100000 in
theorem d_212_431 : decode (mB 212) 431 = .ok (.iaload, 1) := by decide +kernel
set_option maxRecDepth 100000 in
theorem d_212_432 : decode (mB 212) 432 = .ok (.aload_n 0, 1) := by decide +kernel
set_option maxRecDepth 100000 in
theorem d_212_433 : decode (mB 212) 433 = .ok (.iload 4, 2) := by decide +kernel
set_option maxRecDepth 100000 in
theorem d_212_435 : decode (mB 212) 435 = .ok (.iconst 2, 1) := by decide +kernel
set_option maxRecDepth 100000 in
theorem d_212_436 : decode (mB 212) 436 = .ok (.iadd, 1) := by decide +kernel
set_option maxRecDepth 100000 in
theorem d_212_437 : decode (mB 212) 437 = .ok (.iaload, 1) := by decide +kernel
set_option maxRecDepth 100000 in
theorem d_212_438 : decode (mB 212) 438 = .ok (.aload_n 0, 1) := by decide +kernel
set_option maxRecDepth 100000 in
theorem d_212_439 : decode (mB 212) 439 = .ok (.iload 4, 2) := by decide +kernel
set_option maxRecDepth 100000 in
theorem d_212_441 : decode (mB 212) 441 = .ok (.iconst 3, 1) := by decide +kernel
set_option maxRecDepth 100000 in
theorem d_212_442 : decode (mB 212) 442 = .ok (.iadd, 1) := by decide +kernel
set_option maxRecDepth 100000 in
theorem d_212_443 : decode (mB 212) 443 = .ok (.iaload, 1) := by decide +kernel
set_option maxRecDepth 100000 in
theorem d_212_444 : decode (mB 212) 444 = .ok (.invokevirtual 139, 3) := by decide +kernel
set_option maxRecDepth 100000 in
theorem d_212_447 : decode (mB 212) 447 = .ok (.istore 6, 2) := by decide +kernel
set_option maxRecDepth 100000 in
theorem d_212_449 : decode (mB 212) 449 = .ok (.aload_n 2, 1) := by decide +kernel
set_option maxRecDepth 100000 in
theorem d_212_450 : decode (mB 212) 450 = .ok (.invokevirtual 126, 3) := by decide +kernel
set_option maxRecDepth 100000 in
theorem d_212_453 : decode (mB 212) 453 = .ok (.iload 5, 2) := by decide +kernel
set_option maxRecDepth 100000 in
theorem d_212_455 : decode (mB 212) 455 = .ok (.if_icmp .eq 5, 3) := by decide +kernel
set_option maxRecDepth 100000 in
theorem d_212_460 : decode (mB 212) 460 = .ok (.iload 5, 2) := by decide +kernel
set_option maxRecDepth 100000 in
theorem d_212_462 : decode (mB 212) 462 = .ok (.ifCond .ne 15, 3) := by decide +kernel
set_option maxRecDepth 100000 in
theorem d_212_465 : decode (mB 212) 465 = .ok (.aload_n 3, 1) := by decide +kernel
set_option maxRecDepth 100000 in
theorem d_212_466 : decode (mB 212) 466 = .ok (.iconst 0, 1) := by decide +kernel
set_option maxRecDepth 100000 in
theorem d_212_467 : decode (mB 212) 467 = .ok (.laload, 1) := by decide +kernel
set_option maxRecDepth 100000 in
theorem d_212_468 : decode (mB 212) 468 = .ok (.iload 6, 2) := by decide +kernel
set_option maxRecDepth 100000 in
theorem d_212_470 : decode (mB 212) 470 = .ok (.i2l, 1) := by decide +kernel
set_option maxRecDepth 100000 in
theorem d_212_471 : decode (mB 212) 471 = .ok (.lcmp, 1) := by decide +kernel
set_option maxRecDepth 100000 in
theorem d_212_472 : decode (mB 212) 472 = .ok (.ifCond .eq 5, 3) := by decide +kernel
set_option maxRecDepth 100000 in
theorem d_212_477 : decode (mB 212) 477 = .ok (.goto 2061, 3) := by decide +kernel
set_option maxRecDepth 100000 in
theorem d_212_480 : decode (mB 212) 480 = .ok (.aload_n 1, 1) := by decide +kernel
set_option maxRecDepth 100000 in
theorem d_212_481 : decode (mB 212) 481 = .ok (.aload_n 0, 1) := by decide +kernel
set_option maxRecDepth 100000 in
theorem d_212_482 : decode (mB 212) 482 = .ok (.iload 4, 2) := by decide +kernel
set_option maxRecDepth 100000 in
theorem d_212_484 : decode (mB 212) 484 = .ok (.iconst 1, 1) := by decide +kernel
set_option maxRecDepth 100000 in
theorem d_212_485 : decode (mB 212) 485 = .ok (.iadd, 1) := by decide +kernel
set_option maxRecDepth 100000 in
theorem d_212_486 : decode (mB 212) 486 = .ok (.iaload, 1) := by decide +kernel
set_option maxRecDepth 100000 in
theorem d_212_487 : decode (mB 212) 487 = .ok (.aload_n 0, 1) := by decide +kernel
set_option maxRecDepth 100000 in
theorem d_212_488 : decode (mB 212) 488 = .ok (.iload 4, 2) := by decide +kernel
set_option maxRecDepth 100000 in
theorem d_212_490 : decode (mB 212) 490 = .ok (.iconst 2, 1) := by decide +kernel
set_option maxRecDepth 100000 in
theorem d_212_491 : decode (mB 212) 491 = .ok (.iadd, 1) := by decide +kernel
set_option maxRecDepth 100000 in
theorem d_212_492 : decode (mB 212) 492 = .ok (.iaload, 1) := by decide +kernel
set_option maxRecDepth 100000 in
theorem d_212_493 : decode (mB 212) 493 = .ok (.aload_n 0, 1) := by decide +kernel
set_option maxRecDepth 100000 in
theorem d_212_494 : decode (mB 212) 494 = .ok (.iload 4, 2) := by decide +kernel
set_option maxRecDepth 100000 in
theorem d_212_496 : decode (mB 212) 496 = .ok (.iconst 3, 1) := by decide +kernel
set_option maxRecDepth 100000 in
theorem d_212_497 : decode (mB 212) 497 = .ok (.iadd, 1) := by decide +kernel
set_option maxRecDepth 100000 in
theorem d_212_498 : decode (mB 212) 498 = .ok (.iaload, 1) := by decide +kernel
set_option maxRecDepth 100000 in
theorem d_212_499 : decode (mB 212) 499 = .ok (.ifCond .eq 7, 3) := by decide +kernel
set_option maxRecDepth 100000 in
theorem d_212_502 : decode (mB 212) 502 = .ok (.iconst 1, 1) := by decide +kernel
set_option maxRecDepth 100000 in
theorem d_212_503 : decode (mB 212) 503 = .ok (.goto 4, 3) := by decide +kernel
set_option maxRecDepth 100000 in
theorem d_212_506 : decode (mB 212) 506 = .ok (.iconst 0, 1) := by decide +kernel
set_option maxRecDepth 100000 in
theorem d_212_507 : decode (mB 212) 507 = .ok (.aload_n 3, 1) := by decide +kernel
set_option maxRecDepth 100000 in
theorem d_212_508 : decode (mB 212) 508 = .ok (.invokestatic 140, 3) := by decide +kernel
set_option maxRecDepth 100000 in
theorem d_212_511 : decode (mB 212) 511 = .ok (.istore 5, 2) := by decide +kernel
set_option maxRecDepth 100000 in
theorem d_212_513 : decode (mB 212) 513 = .ok (.aload_n 2, 1) := by decide +kernel
set_option maxRecDepth 100000 in
theorem d_212_514 : decode (mB 212) 514 = .ok (.aload_n 0, 1) := by decide +kernel
set_option maxRecDepth 100000 in
theorem d_212_515 : decode (mB 212) 515 = .ok (.iload 4, 2) := by decide +kernel
set_option maxRecDepth 100000 in
theorem d_212_517 : decode (mB 212) 517 = .ok (.iconst 1, 1) := by decide +kernel
set_option maxRecDepth 100000 in
theorem d_212_518 : decode (mB 212) 518 = .ok (.iadd, 1) := by decide +kernel
set_option maxRecDepth 100000 in
theorem d_212_519 : decode (mB 212) 519 = .ok (.iaload, 1) := by decide +kernel
set_option maxRecDepth 100000 in
theorem d_212_520 : decode (mB 212) 520 = .ok (.aload_n 0, 1) := by decide +kernel
set_option maxRecDepth 100000 in
theorem d_212_521 : decode (mB 212) 521 = .ok (.iload 4, 2) := by decide +kernel
set_option maxRecDepth 100000 in
theorem d_212_523 : decode (mB 212) 523 = .ok (.iconst 2, 1) := by decide +kernel
set_option maxRecDepth 100000 in
theorem d_212_524 : decode (mB 212) 524 = .ok (.iadd, 1) := by decide +kernel
set_option maxRecDepth 100000 in
theorem d_212_525 : decode (mB 212) 525 = .ok (.iaload, 1) := by decide +kernel
set_option maxRecDepth 100000 in
theorem d_212_526 : decode (mB 212) 526 = .ok (.aload_n 0, 1) := by decide +kernel
set_option maxRecDepth 100000 in
theorem d_212_527 : decode (mB 212) 527 = .ok (.iload 4, 2) := by decide +kernel
set_option maxRecDepth 100000 in
theorem d_212_529 : decode (mB 212) 529 = .ok (.iconst 3, 1) := by decide +kernel
set_option maxRecDepth 100000 in
theorem d_212_530 : decode (mB 212) 530 = .ok (.iadd, 1) := by decide +kernel
set_option maxRecDepth 100000 in
theorem d_212_531 : decode (mB 212) 531 = .ok (.iaload, 1) := by decide +kernel
set_option maxRecDepth 100000 in
theorem d_212_532 : decode (mB 212) 532 = .ok (.ifCond .eq 7, 3) := by decide +kernel
set_option maxRecDepth 100000 in
theorem d_212_535 : decode (mB 212) 535 = .ok (.iconst 1, 1) := by decide +kernel
set_option maxRecDepth 100000 in
theorem d_212_536 : decode (mB 212) 536 = .ok (.goto 4, 3) := by decide +kernel
set_option maxRecDepth 100000 in
theorem d_212_539 : decode (mB 212) 539 = .ok (.iconst 0, 1) := by decide +kernel
set_option maxRecDepth 100000 in
theorem d_212_540 : decode (mB 212) 540 = .ok (.invokevirtual 143, 3) := by decide +kernel
set_option maxRecDepth 100000 in
theorem d_212_543 : decode (mB 212) 543 = .ok (.istore 6, 2) := by decide +kernel
set_option maxRecDepth 100000 in
theorem d_212_545 : decode (mB 212) 545 = .ok (.aload_n 2, 1) := by decide +kernel
set_option maxRecDepth 100000 in
theorem d_212_546 : decode (mB 212) 546 = .ok (.invokevirtual 126, 3) := by decide +kernel
set_option maxRecDepth 100000 in
theorem d_212_549 : decode (mB 212) 549 = .ok (.iload 5, 2) := by decide +kernel
set_option maxRecDepth 100000 in
theorem d_212_551 : decode (mB 212) 551 = .ok (.if_icmp .eq 5, 3) := by decide +kernel
set_option maxRecDepth 100000 in
theorem d_212_556 : decode (mB 212) 556 = .ok (.iload 5, 2) := by decide +kernel
set_option maxRecDepth 100000 in
theorem d_212_558 : decode (mB 212) 558 = .ok (.ifCond .ne 22, 3) := by decide +kernel
set_option maxRecDepth 100000 in
theorem d_212_580 : decode (mB 212) 580 = .ok (.goto 1958, 3) := by decide +kernel
set_option maxRecDepth 100000 in
theorem d_212_583 : decode (mB 212) 583 = .ok (.aload_n 1, 1) := by decide +kernel
set_option maxRecDepth 100000 in
theorem d_212_584 : decode (mB 212) 584 = .ok (.aload_n 0, 1) := by decide +kernel
set_option maxRecDepth 100000 in
theorem d_212_585 : decode (mB 212) 585 = .ok (.iload 4, 2) := by decide +kernel
set_option maxRecDepth 100000 in
theorem d_212_587 : decode (mB 212) 587 = .ok (.iconst 1, 1) := by decide +kernel
set_option maxRecDepth 100000 in
theorem d_212_588 : decode (mB 212) 588 = .ok (.iadd, 1) := by decide +kernel
set_option maxRecDepth 100000 in
theorem d_212_589 : decode (mB 212) 589 = .ok (.iaload, 1) := by decide +kernel
set_option maxRecDepth 100000 in
theorem d_212_590 : decode (mB 212) 590 = .ok (.aload_n 0, 1) := by decide +kernel
set_option maxRecDepth 100000 in
theorem d_212_591 : decode (mB 212) 591 = .ok (.iload 4, 2) := by decide +kernel
set_option maxRecDepth 100000 in
theorem d_212_593 : decode (mB 212) 593 = .ok (.iconst 2, 1) := by decide +kernel
set_option maxRecDepth 100000 in
theorem d_212_594 : decode (mB 212) 594 = .ok (.iadd, 1) := by decide +kernel
set_option maxRecDepth 100000 in
theorem d_212_595 : decode (mB 212) 595 = .ok (.iaload, 1) := by decide +kernel
set_option maxRecDepth 100000 in
theorem d_212_596 : decode (mB 212) 596 = .ok (.aload_n 3, 1) := by decide +kernel
set_option maxRecDepth 100000 in
theorem d_212_597 : decode (mB 212) 597 = .ok (.invokestatic 144, 3) := by decide +kernel
set_option maxRecDepth 100000 in
theorem d_212_600 : decode (mB 212) 600 = .ok (.istore 5, 2) := by decide +kernel
set_option maxRecDepth 100000 in
theorem d_212_602 : decode (mB 212) 602 = .ok (.aload_n 2, 1) := by decide +kernel
set_option maxRecDepth 100000 in
theorem d_212_603 : decode (mB 212) 603 = .ok (.aload_n 0, 1) := by decide +kernel
set_option maxRecDepth 100000 in
theorem d_212_604 : decode (mB 212) 604 = .ok (.iload 4, 2) := by decide +kernel
set_option maxRecDepth 100000 in
theorem d_212_606 : decode (mB 212) 606 = .ok (.iconst 1, 1) := by decide +kernel
set_option maxRecDepth 100000 in
theorem d_212_607 : decode (mB 212) 607 = .ok (.iadd, 1) := by decide +kernel
set_option maxRecDepth 100000 in
theorem d_212_608 : decode (mB 212) 608 = .ok (.iaload, 1) := by decide +kernel
set_option maxRecDepth 100000 in
theorem d_212_609 : decode (mB 212) 609 = .ok (.aload_n 0, 1) := by decide +kernel
set_option maxRecDepth 100000 in
theorem d_212_610 : decode (mB 212) 610 = .ok (.iload 4, 2) := by decide +kernel
set_option maxRecDepth 100000 in
theorem d_212_612 : decode (mB 212) 612 = .ok (.iconst 2, 1) := by decide +kernel
set_option maxRecDepth 100000 in
theorem d_212_613 : decode (mB 212) 613 = .ok (.iadd, 1) := by decide +kernel
set_option maxRecDepth 100000 in
theorem d_212_614 : decode (mB 212) 614 = .ok (.iaload, 1) := by decide +kernel
set_option maxRecDepth 100000 in
theorem d_212_615 : decode (mB 212) 615 = .ok (.invokevirtual 146, 3) := by decide +kernel
set_option maxRecDepth 100000 in
theorem d_212_618 : decode (mB 212) 618 = .ok (.istore 6, 2) := by decide +kernel
set_option maxRecDepth 100000 in
theorem d_212_620 : decode (mB 212) 620 = .ok (.aload_n 2, 1) := by decide +kernel
set_option maxRecDepth 100000 in
theorem d_212_621 : decode (mB 212) 621 = .ok (.invokevirtual 126, 3) := by decide +kernel
set_option maxRecDepth 100000 in
theorem d_212_624 : decode (mB 212) 624 = .ok (.iload 5, 2) := by decide +kernel
set_option maxRecDepth 100000 in
theorem d_212_626 : decode (mB 212) 626 = .ok (.if_icmp .eq 5, 3) := by decide +kernel
set_option maxRecDepth 100000 in
theorem d_212_631 : decode (mB 212) 631 = .ok (.iload 5, 2) := by decide +kernel
set_option maxRecDepth 100000 in
theorem d_212_633 : decode (mB 212) 633 = .ok (.ifCond .ne 22, 3) := by decide +kernel
set_option maxRecDepth 100000 in
theorem d_212_655 : decode (mB 212) 655 = .ok (.goto 1883, 3) := by decide +kernel
set_option maxRecDepth 100000 in
theorem d_212_658 : decode (mB 212) 658 = .ok (.aload_n 1, 1) := by decide +kernel
set_option maxRecDepth 100000 in
theorem d_212_659 : decode (mB 212) 659 = .ok (.aload_n 0, 1) := by decide +kernel
set_option maxRecDepth 100000 in
theorem d_212_660 : decode (mB 212) 660 = .ok (.iload 4, 2) := by decide +kernel
set_option maxRecDepth 100000 in
theorem d_212_662 : decode (mB 212) 662 = .ok (.iconst 1, 1) := by decide +kernel
set_option maxRecDepth 100000 in
theorem d_212_663 : decode (mB 212) 663 = .ok (.iadd, 1) := by decide +kernel
set_option maxRecDepth 100000 in
theorem d_212_664 : decode (mB 212) 664 = .ok (.iaload, 1) := by decide +kernel
set_option maxRecDepth 100000 in
theorem d_212_665 : decode (mB 212) 665 = .ok (.aload_n 0, 1) := by decide +kernel
set_option maxRecDepth 100000 in
theorem d_212_666 : decode (mB 212) 666 = .ok (.iload 4, 2) := by decide +kernel
set_option maxRecDepth 100000 in
theorem d_212_668 : decode (mB 212) 668 = .ok (.iconst 2, 1) := by decide +kernel
set_option maxRecDepth 100000 in
theorem d_212_669 : decode (mB 212) 669 = .ok (.iadd, 1) := by decide +kernel
set_option maxRecDepth 100000 in
theorem d_212_670 : decode (mB 212) 670 = .ok (.iaload, 1) := by decide +kernel
set_option maxRecDepth 100000 in
theorem d_212_671 : decode (mB 212) 671 = .ok (.aload_n 0, 1) := by decide +kernel
set_option maxRecDepth 100000 in
theorem d_212_672 : decode (mB 212) 672 = .ok (.iload 4, 2) := by decide +kernel
set_option maxRecDepth 100000 in
theorem d_212_674 : decode (mB 212) 674 = .ok (.iconst 3, 1) := by decide +kernel
set_option maxRecDepth 100000 in
theorem d_212_675 : decode (mB 212) 675 = .ok (.iadd, 1) := by decide +kernel
set_option maxRecDepth 100000 in
theorem d_212_676 : decode (mB 212) 676 = .ok (.iaload, 1) := by decide +kernel
set_option maxRecDepth 100000 in
theorem d_212_677 : decode (mB 212) 677 = .ok (.aload_n 0, 1) := by decide +kernel
set_option maxRecDepth 100000 in
theorem d_212_678 : decode (mB 212) 678 = .ok (.iload 4, 2) := by decide +kernel
set_option maxRecDepth 100000 in
theorem d_212_680 : decode (mB 212) 680 = .ok (.iconst 4, 1) := by decide +kernel
set_option maxRecDepth 100000 in
theorem d_212_681 : decode (mB 212) 681 = .ok (.iadd, 1) := by decide +kernel
set_option maxRecDepth 100000 in
theorem d_212_682 : decode (mB 212) 682 = .ok (.iaload, 1) := by decide +kernel
set_option maxRecDepth 100000 in
theorem d_212_683 : decode (mB 212) 683 = .ok (.aload_n 3, 1) := by decide +kernel
set_option maxRecDepth 100000 in
theorem d_212_684 : decode (mB 212) 684 = .ok (.invokestatic 147, 3) := by decide +kernel
set_option maxRecDepth 100000 in
theorem d_212_687 : decode (mB 212) 687 = .ok (.istore 5, 2) := by decide +kernel
set_option maxRecDepth 100000 in
theorem d_212_689 : decode (mB 212) 689 = .ok (.aload_n 2, 1) := by decide +kernel
set_option maxRecDepth 100000 in
theorem d_212_690 : decode (mB 212) 690 = .ok (.aload_n 0, 1) := by decide +kernel
set_option maxRecDepth 100000 in
theorem d_212_691 : decode (mB 212) 691 = .ok (.iload 4, 2) := by decide +kernel
set_option maxRecDepth 100000 in
theorem d_212_693 : decode (mB 212) 693 = .ok (.iconst 1, 1) := by decide +kernel
set_option maxRecDepth 100000 in
theorem d_212_694 : decode (mB 212) 694 = .ok (.iadd, 1) := by decide +kernel
set_option maxRecDepth 100000 in
theorem d_212_695 : decode (mB 212) 695 = .ok (.iaload, 1) := by decide +kernel
set_option maxRecDepth 100000 in
theorem d_212_696 : decode (mB 212) 696 = .ok (.aload_n 0, 1) := by decide +kernel
set_option maxRecDepth 100000 in
theorem d_212_697 : decode (mB 212) 697 = .ok (.iload 4, 2) := by decide +kernel
set_option maxRecDepth 100000 in
theorem d_212_699 : decode (mB 212) 699 = .ok (.iconst 2, 1) := by decide +kernel
set_option maxRecDepth 100000 in
theorem d_212_700 : decode (mB 212) 700 = .ok (.iadd, 1) := by decide +kernel
set_option maxRecDepth 100000 in
theorem d_212_701 : decode (mB 212) 701 = .ok (.iaload, 1) := by decide +kernel
set_option maxRecDepth 100000 in
theorem d_212_702 : decode (mB 212) 702 = .ok (.aload_n 0, 1) := by decide +kernel
set_option maxRecDepth 100000 in
theorem d_212_703 : decode (mB 212) 703 = .ok (.iload 4, 2) := by decide +kernel
set_option maxRecDepth 100000 in
theorem d_212_705 : decode (mB 212) 705 = .ok (.iconst 3, 1) := by decide +kernel
set_option maxRecDepth 100000 in
theorem d_212_706 : decode (mB 212) 706 = .ok (.iadd, 1) := by decide +kernel
set_option maxRecDepth 100000 in
theorem d_212_707 : decode (mB 212) 707 = .ok (.iaload, 1) := by decide +kernel
set_option maxRecDepth 100000 in
theorem d_212_708 : decode (mB 212) 708 = .ok (.aload_n 0, 1) := by decide +kernel
set_option maxRecDepth 100000 in
theorem d_212_709 : decode (mB 212) 709 = .ok (.iload 4, 2) := by decide +kernel
set_option maxRecDepth 100000 in
theorem d_212_711 : decode (mB 212) 711 = .ok (.iconst 4, 1) := by decide +kernel
set_option maxRecDepth 100000 in
theorem d_212_712 : decode (mB 212) 712 = .ok (.iadd, 1) := by decide +kernel
set_option maxRecDepth 100000 in
theorem d_212_713 : decode (mB 212) 713 = .ok (.iaload, 1) := by decide +kernel
set_option maxRecDepth 100000 in
theorem d_212_714 : decode (mB 212) 714 = .ok (.invokevirtual 150, 3) := by decide +kernel
set_option maxRecDepth 100000 in
theorem d_212_717 : decode (mB 212) 717 = .ok (.istore 6, 2) := by decide +kernel
set_option maxRecDepth 100000 in
theorem d_212_719 : decode (mB 212) 719 = .ok (.aload_n 2, 1) := by decide +kernel
set_option maxRecDepth 100000 in
theorem d_212_720 : decode (mB 212) 720 = .ok (.invokevirtual 126, 3) := by decide +kernel
set_option maxRecDepth 100000 in
theorem d_212_723 : decode (mB 212) 723 = .ok (.iload 5, 2) := by decide +kernel
set_option maxRecDepth 100000 in
theorem d_212_725 : decode (mB 212) 725 = .ok (.if_icmp .eq 5, 3) := by decide +kernel
set_option maxRecDepth 100000 in
theorem d_212_730 : decode (mB 212) 730 = .ok (.iload 5, 2) := by decide +kernel
set_option maxRecDepth 100000 in
theorem d_212_732 : decode (mB 212) 732 = .ok (.ifCond .ne 15, 3) := by decide +kernel
set_option maxRecDepth 100000 in
theorem d_212_747 : decode (mB 212) 747 = .ok (.goto 1791, 3) := by decide +kernel
set_option maxRecDepth 100000 in
theorem d_212_750 : decode (mB 212) 750 = .ok (.aload_n 1, 1) := by decide +kernel
set_option maxRecDepth 100000 in
theorem d_212_751 : decode (mB 212) 751 = .ok (.aload_n 0, 1) := by decide +kernel
set_option maxRecDepth 100000 in
theorem d_212_752 : decode (mB 212) 752 = .ok (.iload 4, 2) := by decide +kernel
set_option maxRecDepth 100000 in
theorem d_212_754 : decode (mB 212) 754 = .ok (.iconst 1, 1) := by decide +kernel
set_option maxRecDepth 100000 in
theorem d_212_755 : decode (mB 212) 755 = .ok (.iadd, 1) := by decide +kernel
set_option maxRecDepth 100000 in
theorem d_212_756 : decode (mB 212) 756 = .ok (.iaload, 1) := by decide +kernel
set_option maxRecDepth 100000 in
theorem d_212_757 : decode (mB 212) 757 = .ok (.aload_n 0, 1) := by decide +kernel
set_option maxRecDepth 100000 in
theorem d_212_758 : decode (mB 212) 758 = .ok (.iload 4, 2) := by decide +kernel
set_option maxRecDepth 100000 in
theorem d_212_760 : decode (mB 212) 760 = .ok (.iconst 2, 1) := by decide +kernel
set_option maxRecDepth 100000 in
theorem d_212_761 : decode (mB 212) 761 = .ok (.iadd, 1) := by decide +kernel
set_option maxRecDepth 100000 in
theorem d_212_762 : decode (mB 212) 762 = .ok (.iaload, 1) := by decide +kernel
set_option maxRecDepth 100000 in
theorem d_212_763 : decode (mB 212) 763 = .ok (.aload_n 0, 1) := by decide +kernel
set_option maxRecDepth 100000 in
theorem d_212_764 : decode (mB 212) 764 = .ok (.iload 4, 2) := by decide +kernel
set_option maxRecDepth 100000 in
theorem d_212_766 : decode (mB 212) 766 = .ok (.iconst 3, 1) := by decide +kernel
set_option maxRecDepth 100000 in
theorem d_212_767 : decode (mB 212) 767 = .ok (.iadd, 1) := by decide +kernel
set_option maxRecDepth 100000 in
theorem d_212_768 : decode (mB 212) 768 = .ok (.iaload, 1) := by decide +kernel
set_option maxRecDepth 100000 in
theorem d_212_769 : decode (mB 212) 769 = .ok (.aload_n 0, 1) := by decide +kernel
set_option maxRecDepth 100000 in
theorem d_212_770 : decode (mB 212) 770 = .ok (.iload 4, 2) := by decide +kernel
set_option maxRecDepth 100000 in
theorem d_212_772 : decode (mB 212) 772 = .ok (.iconst 4, 1) := by decide +kernel
set_option maxRecDepth 100000 in
theorem d_212_773 : decode (mB 212) 773 = .ok (.iadd, 1) := by decide +kernel
set_option maxRecDepth 100000 in
theorem d_212_774 : decode (mB 212) 774 = .ok (.iaload, 1) := by decide +kernel
set_option maxRecDepth 100000 in
theorem d_212_775 : decode (mB 212) 775 = .ok (.aload_n 3, 1) := by decide +kernel
set_option maxRecDepth 100000 in
theorem d_212_776 : decode (mB 212) 776 = .ok (.invokestatic 151, 3) := by decide +kernel
set_option maxRecDepth 100000 in
theorem d_212_779 : decode (mB 212) 779 = .ok (.istore 5, 2) := by decide +kernel
set_option maxRecDepth 100000 in
theorem d_212_781 : decode (mB 212) 781 = .ok (.aload_n 2, 1) := by decide +kernel
set_option maxRecDepth 100000 in
theorem d_212_782 : decode (mB 212) 782 = .ok (.aload_n 0, 1) := by decide +kernel
set_option maxRecDepth 100000 in
theorem d_212_783 : decode (mB 212) 783 = .ok (.iload 4, 2) := by decide +kernel
set_option maxRecDepth 100000 in
theorem d_212_785 : decode (mB 212) 785 = .ok (.iconst 1, 1) := by decide +kernel
set_option maxRecDepth 100000 in
theorem d_212_786 : decode (mB 212) 786 = .ok (.iadd, 1) := by decide +kernel
set_option maxRecDepth 100000 in
theorem d_212_787 : decode (mB 212) 787 = .ok (.iaload, 1) := by decide +kernel
set_option maxRecDepth 100000 in
theorem d_212_788 : decode (mB 212) 788 = .ok (.aload_n 0, 1) := by decide +kernel
set_option maxRecDepth 100000 in
theorem d_212_789 : decode (mB 212) 789 = .ok (.iload 4, 2) := by decide +kernel
set_option maxRecDepth 100000 in
theorem d_212_791 : decode (mB 212) 791 = .ok (.iconst 2, 1) := by decide +kernel
set_option maxRecDepth 100000 in
theorem d_212_792 : decode (mB 212) 792 = .ok (.iadd, 1) := by decide +kernel
set_option maxRecDepth 100000 in
theorem d_212_793 : decode (mB 212) 793 = .ok (.iaload, 1) := by decide +kernel
set_option maxRecDepth 100000 in
theorem d_212_794 : decode (mB 212) 794 = .ok (.aload_n 0, 1) := by decide +kernel
set_option maxRecDepth 100000 in
theorem d_212_795 : decode (mB 212) 795 = .ok (.iload 4, 2) := by decide +kernel
set_option maxRecDepth 100000 in
theorem d_212_797 : decode (mB 212) 797 = .ok (.iconst 3, 1) := by decide +kernel
set_option maxRecDepth 100000 in
theorem d_212_798 : decode (mB 212) 798 = .ok (.iadd, 1) := by decide +kernel
set_option maxRecDepth 100000 in
theorem d_212_799 : decode (mB 212) 799 = .ok (.iaload, 1) := by decide +kernel
set_option maxRecDepth 100000 in
theorem d_212_800 : decode (mB 212) 800 = .ok (.aload_n 0, 1) := by decide +kernel
set_option maxRecDepth 100000 in
theorem d_212_801 : decode (mB 212) 801 = .ok (.iload 4, 2) := by decide +kernel
set_option maxRecDepth 100000 in
theorem d_212_803 : decode (mB 212) 803 = .ok (.iconst 4, 1) := by decide +kernel
set_option maxRecDepth 100000 in
theorem d_212_804 : decode (mB 212) 804 = .ok (.iadd, 1) := by decide +kernel
set_option maxRecDepth 100000 in
theorem d_212_805 : decode (mB 212) 805 = .ok (.iaload, 1) := by decide +kernel
set_option maxRecDepth 100000 in
theorem d_212_806 : decode (mB 212) 806 = .ok (.invokevirtual 153, 3) := by decide +kernel
set_option maxRecDepth 100000 in
theorem d_212_809 : decode (mB 212) 809 = .ok (.istore 6, 2) := by decide +kernel
set_option maxRecDepth 100000 in
theorem d_212_811 : decode (mB 212) 811 = .ok (.aload_n 2, 1) := by decide +kernel
set_option maxRecDepth 100000 in
theorem d_212_812 : decode (mB 212) 812 = .ok (.invokevirtual 126, 3) := by decide +kernel
set_option maxRecDepth 100000 in
theorem d_212_815 : decode (mB 212) 815 = .ok (.iload 5, 2) := by decide +kernel
set_option maxRecDepth 100000 in
theorem d_212_817 : decode (mB 212) 817 = .ok (.if_icmp .eq 5, 3) := by decide +kernel
set_option maxRecDepth 100000 in
theorem d_212_822 : decode (mB 212) 822 = .ok (.iload 5, 2) := by decide +kernel
set_option maxRecDepth 100000 in
theorem d_212_824 : decode (mB 212) 824 = .ok (.ifCond .ne 15, 3) := by decide +kernel
set_option maxRecDepth 100000 in
theorem d_212_839 : decode (mB 212) 839 = .ok (.goto 1699, 3) := by decide +kernel
set_option maxRecDepth 100000 in
theorem d_212_842 : decode (mB 212) 842 = .ok (.aload_n 1, 1) := by decide +kernel
set_option maxRecDepth 100000 in
theorem d_212_843 : decode (mB 212) 843 = .ok (.invokevirtual 154, 3) := by decide +kernel
set_option maxRecDepth 100000 in
theorem d_212_846 : decode (mB 212) 846 = .ok (.aload_n 2, 1) := by decide +kernel
set_option maxRecDepth 100000 in
theorem d_212_847 : decode (mB 212) 847 = .ok (.invokevirtual 157, 3) := by decide +kernel
set_option maxRecDepth 100000 in
theorem d_212_850 : decode (mB 212) 850 = .ok (.if_icmp .eq 1688, 3) := by decide +kernel
set_option maxRecDepth 100000 in
theorem d_212_855 : decode (mB 212) 855 = .ok (.aload_n 1, 1) := by decide +kernel
set_option maxRecDepth 100000 in
theorem d_212_856 : decode (mB 212) 856 = .ok (.invokevirtual 158, 3) := by decide +kernel
set_option maxRecDepth 100000 in
theorem d_212_859 : decode (mB 212) 859 = .ok (.aload_n 2, 1) := by decide +kernel
set_option maxRecDepth 100000 in
theorem d_212_860 : decode (mB 212) 860 = .ok (.invokevirtual 161, 3) := by decide +kernel
set_option maxRecDepth 100000 in
theorem d_212_863 : decode (mB 212) 863 = .ok (.if_icmp .eq 1675, 3) := by decide +kernel
set_option maxRecDepth 100000 in
theorem d_212_868 : decode (mB 212) 868 = .ok (.aload_n 1, 1) := by decide +kernel
set_option maxRecDepth 100000 in
theorem d_212_869 : decode (mB 212) 869 = .ok (.aload_n 0, 1) := by decide +kernel
set_option maxRecDepth 100000 in
theorem d_212_870 : decode (mB 212) 870 = .ok (.iload 4, 2) := by decide +kernel
set_option maxRecDepth 100000 in
theorem d_212_872 : decode (mB 212) 872 = .ok (.iconst 1, 1) := by decide +kernel
set_option maxRecDepth 100000 in
theorem d_212_873 : decode (mB 212) 873 = .ok (.iadd, 1) := by decide +kernel
set_option maxRecDepth 100000 in
theorem d_212_874 : decode (mB 212) 874 = .ok (.iaload, 1) := by decide +kernel
set_option maxRecDepth 100000 in
theorem d_212_875 : decode (mB 212) 875 = .ok (.aload_n 3, 1) := by decide +kernel
set_option maxRecDepth 100000 in
theorem d_212_876 : decode (mB 212) 876 = .ok (.invokestatic 162, 3) := by decide +kernel
set_option maxRecDepth 100000 in
theorem d_212_879 : decode (mB 212) 879 = .ok (.istore 5, 2) := by decide +kernel
set_option maxRecDepth 100000 in
theorem d_212_881 : decode (mB 212) 881 = .ok (.aload_n 2, 1) := by decide +kernel
set_option maxRecDepth 100000 in
theorem d_212_882 : decode (mB 212) 882 = .ok (.aload_n 0, 1) := by decide +kernel
set_option maxRecDepth 100000 in
theorem d_212_883 : decode (mB 212) 883 = .ok (.iload 4, 2) := by decide +kernel
set_option maxRecDepth 100000 in
theorem d_212_885 : decode (mB 212) 885 = .ok (.iconst 1, 1) := by decide +kernel
set_option maxRecDepth 100000 in
theorem d_212_886 : decode (mB 212) 886 = .ok (.iadd, 1) := by decide +kernel
set_option maxRecDepth 100000 in
theorem d_212_887 : decode (mB 212) 887 = .ok (.iaload, 1) := by decide +kernel
set_option maxRecDepth 100000 in
theorem d_212_888 : decode (mB 212) 888 = .ok (.invokevirtual 164, 3) := by decide +kernel
set_option maxRecDepth 100000 in
theorem d_212_891 : decode (mB 212) 891 = .ok (.istore 6, 2) := by decide +kernel
set_option maxRecDepth 100000 in
theorem d_212_893 : decode (mB 212) 893 = .ok (.aload_n 2, 1) := by decide +kernel
set_option maxRecDepth 100000 in
theorem d_212_894 : decode (mB 212) 894 = .ok (.invokevirtual 126, 3) := by decide +kernel
set_option maxRecDepth 100000 in
theorem d_212_897 : decode (mB 212) 897 = .ok (.iload 5, 2) := by decide +kernel
set_option maxRecDepth 100000 in
theorem d_212_899 : decode (mB 212) 899 = .ok (.if_icmp .eq 5, 3) := by decide +kernel
set_option maxRecDepth 100000 in
theorem d_212_904 : decode (mB 212) 904 = .ok (.iload 5, 2) := by decide +kernel
set_option maxRecDepth 100000 in
theorem d_212_906 : decode (mB 212) 906 = .ok (.ifCond .ne 15, 3) := by decide +kernel
set_option maxRecDepth 100000 in
theorem d_212_921 : decode (mB 212) 921 = .ok (.goto 1617, 3) := by decide +kernel
set_option maxRecDepth 100000 in
theorem d_212_924 : decode (mB 212) 924 = .ok (.aload_n 1, 1) := by decide +kernel
set_option maxRecDepth 100000 in
theorem d_212_925 : decode (mB 212) 925 = .ok (.aload_n 0, 1) := by decide +kernel
set_option maxRecDepth 100000 in
theorem d_212_926 : decode (mB 212) 926 = .ok (.iload 4, 2) := by decide +kernel
set_option maxRecDepth 100000 in
theorem d_212_928 : decode (mB 212) 928 = .ok (.iconst 1, 1) := by decide +kernel
set_option maxRecDepth 100000 in
theorem d_212_929 : decode (mB 212) 929 = .ok (.iadd, 1) := by decide +kernel
set_option maxRecDepth 100000 in
theorem d_212_930 : decode (mB 212) 930 = .ok (.iaload, 1) := by decide +kernel
set_option maxRecDepth 100000 in
theorem d_212_931 : decode (mB 212) 931 = .ok (.aload_n 0, 1) := by decide +kernel
set_option maxRecDepth 100000 in
theorem d_212_932 : decode (mB 212) 932 = .ok (.iload 4, 2) := by decide +kernel
set_option maxRecDepth 100000 in
theorem d_212_934 : decode (mB 212) 934 = .ok (.iconst 2, 1) := by decide +kernel
set_option maxRecDepth 100000 in
theorem d_212_935 : decode (mB 212) 935 = .ok (.iadd, 1) := by decide +kernel
set_option maxRecDepth 100000 in
theorem d_212_936 : decode (mB 212) 936 = .ok (.iaload, 1) := by decide +kernel
set_option maxRecDepth 100000 in
theorem d_212_937 : decode (mB 212) 937 = .ok (.aload_n 3, 1) := by decide +kernel
set_option maxRecDepth 100000 in
theorem d_212_938 : decode (mB 212) 938 = .ok (.invokestatic 165, 3) := by decide +kernel
set_option maxRecDepth 100000 in
theorem d_212_941 : decode (mB 212) 941 = .ok (.istore 5, 2) := by decide +kernel
set_option maxRecDepth 100000 in
theorem d_212_943 : decode (mB 212) 943 = .ok (.aload_n 2, 1) := by decide +kernel
set_option maxRecDepth 100000 in
theorem d_212_944 : decode (mB 212) 944 = .ok (.aload_n 0, 1) := by decide +kernel
set_option maxRecDepth 100000 in
theorem d_212_945 : decode (mB 212) 945 = .ok (.iload 4, 2) := by decide +kernel
set_option maxRecDepth 100000 in
theorem d_212_947 : decode (mB 212) 947 = .ok (.iconst 1, 1) := by decide +kernel
set_option maxRecDepth 100000 in
theorem d_212_948 : decode (mB 212) 948 = .ok (.iadd, 1) := by decide +kernel
set_option maxRecDepth 100000 in
theorem d_212_949 : decode (mB 212) 949 = .ok (.iaload, 1) := by decide +kernel
set_option maxRecDepth 100000 in
theorem d_212_950 : decode (mB 212) 950 = .ok (.aload_n 0, 1) := by decide +kernel
set_option maxRecDepth 100000 in
theorem d_212_951 : decode (mB 212) 951 = .ok (.iload 4, 2) := by decide +kernel
set_option maxRecDepth 100000 in
theorem d_212_953 : decode (mB 212) 953 = .ok (.iconst 2, 1) := by decide +kernel
set_option maxRecDepth 100000 in
theorem d_212_954 : decode (mB 212) 954 = .ok (.iadd, 1) := by decide +kernel
set_option maxRecDepth 100000 in
theorem d_212_955 : decode (mB 212) 955 = .ok (.iaload, 1) := by decide +kernel
set_option maxRecDepth 100000 in
theorem d_212_956 : decode (mB 212) 956 = .ok (.invokevirtual 167, 3) := by decide +kernel
set_option maxRecDepth 100000 in
theorem d_212_959 : decode (mB 212) 959 = .ok (.istore 6, 2) := by decide +kernel
set_option maxRecDepth 100000 in
theorem d_212_961 : decode (mB 212) 961 = .ok (.aload_n 2, 1) := by decide +kernel
set_option maxRecDepth 100000 in
theorem d_212_962 : decode (mB 212) 962 = .ok (.invokevirtual 126, 3) := by decide +kernel
set_option maxRecDepth 100000 in
theorem d_212_965 : decode (mB 212) 965 = .ok (.iload 5, 2) := by decide +kernel
set_option maxRecDepth 100000 in
theorem d_212_967 : decode (mB 212) 967 = .ok (.if_icmp .eq 5, 3) := by decide +kernel
set_option maxRecDepth 100000 in
theorem d_212_972 : decode (mB 212) 972 = .ok (.iload 5, 2) := by decide +kernel
set_option maxRecDepth 100000 in
theorem d_212_974 : decode (mB 212) 974 = .ok (.ifCond .ne 15, 3) := by decide +kernel
set_option maxRecDepth 100000 in
theorem d_212_989 : decode (mB 212) 989 = .ok (.goto 1549, 3) := by decide +kernel
set_option maxRecDepth 100000 in
theorem d_212_992 : decode (mB 212) 992 = .ok (.aload_n 1, 1) := by decide +kernel
set_option maxRecDepth 100000 in
theorem d_212_993 : decode (mB 212) 993 = .ok (.aload_n 0, 1) := by decide +kernel
set_option maxRecDepth 100000 in
theorem d_212_994 : decode (mB 212) 994 = .ok (.iload 4, 2) := by decide +kernel
set_option maxRecDepth 100000 in
theorem d_212_996 : decode (mB 212) 996 = .ok (.iconst 1, 1) := by decide +kernel
set_option maxRecDepth 100000 in
theorem d_212_997 : decode (mB 212) 997 = .ok (.iadd, 1) := by decide +kernel
set_option maxRecDepth 100000 in
theorem d_212_998 : decode (mB 212) 998 = .ok (.iaload, 1) := by decide +kernel
set_option maxRecDepth 100000 in
theorem d_212_999 : decode (mB 212) 999 = .ok (.aload_n 0, 1) := by decide +kernel
set_option maxRecDepth 100000 in
theorem d_212_1000 : decode (mB 212) 1000 = .ok (.iload 4, 2) := by decide +kernel
set_option maxRecDepth 100000 in
theorem d_212_1002 : decode (mB 212) 1002 = .ok (.iconst 2, 1) := by decide +kernel
set_option maxRecDepth 100000 in
theorem d_212_1003 : decode (mB 212) 1003 = .ok (.iadd, 1) := by decide +kernel
set_option maxRecDepth 100000 in
theorem d_212_1004 : decode (mB 212) 1004 = .ok (.iaload, 1) := by decide +kernel
set_option maxRecDepth 100000 in
theorem d_212_1005 : decode (mB 212) 1005 = .ok (.aload_n 0, 1) := by decide +kernel
set_option maxRecDepth 100000 in
theorem d_212_1006 : decode (mB 212) 1006 = .ok (.iload 4, 2) := by decide +kernel
set_option maxRecDepth 100000 in
theorem d_212_1008 : decode (mB 212) 1008 = .ok (.iconst 3, 1) := by decide +kernel
set_option maxRecDepth 100000 in
theorem d_212_1009 : decode (mB 212) 1009 = .ok (.iadd, 1) := by decide +kernel
set_option maxRecDepth 100000 in
theorem d_212_1010 : decode (mB 212) 1010 = .ok (.iaload, 1) := by decide +kernel
set_option maxRecDepth 100000 in
theorem d_212_1011 : decode (mB 212) 1011 = .ok (.aload_n 3, 1) := by decide +kernel
set_option maxRecDepth 100000 in
theorem d_212_1012 : decode (mB 212) 1012 = .ok (.invokestatic 168, 3) := by decide +kernel
set_option maxRecDepth 100000 in
theorem d_212_1015 : decode (mB 212) 1015 = .ok (.istore 5, 2) := by decide +kernel
set_option maxRecDepth 100000 in
theorem d_212_1017 : decode (mB 212) 1017 = .ok (.aload_n 2, 1) := by decide +kernel
set_option maxRecDepth 100000 in
theorem d_212_1018 : decode (mB 212) 1018 = .ok (.aload_n 0, 1) := by decide +kernel
set_option maxRecDepth 100000 in
theorem d_212_1019 : decode (mB 212) 1019 = .ok (.iload 4, 2) := by decide +kernel
set_option maxRecDepth 100000 in
theorem d_212_1021 : decode (mB 212) 1021 = .ok (.iconst 1, 1) := by decide +kernel
set_option maxRecDepth 100000 in
theorem d_212_1022 : decode (mB 212) 1022 = .ok (.iadd, 1) := by decide +kernel
set_option maxRecDepth 100000 in
theorem d_212_1023 : decode (mB 212) 1023 = .ok (.iaload, 1) := by decide +kernel
set_option maxRecDepth 100000 in
theorem d_212_1024 : decode (mB 212) 1024 = .ok (.aload_n 0, 1) := by decide +kernel
set_option maxRecDepth 100000 in
theorem d_212_1025 : decode (mB 212) 1025 = .ok (.iload 4, 2) := by decide +kernel
set_option maxRecDepth 100000 in
theorem d_212_1027 : decode (mB 212) 1027 = .ok (.iconst 2, 1) := by decide +kernel
set_option maxRecDepth 100000 in
theorem d_212_1028 : decode (mB 212) 1028 = .ok (.iadd, 1) := by decide +kernel
set_option maxRecDepth 100000 in
theorem d_212_1029 : decode (mB 212) 1029 = .ok (.iaload, 1) := by decide +kernel
set_option maxRecDepth 100000 in
theorem d_212_1030 : decode (mB 212) 1030 = .ok (.aload_n 0, 1) := by decide +kernel
set_option maxRecDepth 100000 in
theorem d_212_1031 : decode (mB 212) 1031 = .ok (.iload 4, 2) := by decide +kernel
set_option maxRecDepth 100000 in
theorem d_212_1033 : decode (mB 212) 1033 = .ok (.iconst 3, 1) := by decide +kernel
set_option maxRecDepth 100000 in
theorem d_212_1034 : decode (mB 212) 1034 = .ok (.iadd, 1) := by decide +kernel
set_option maxRecDepth 100000 in
theorem d_212_1035 : decode (mB 212) 1035 = .ok (.iaload, 1) := by decide +kernel
set_option maxRecDepth 100000 in
theorem d_212_1036 : decode (mB 212) 1036 = .ok (.invokevirtual 170, 3) := by decide +kernel
set_option maxRecDepth 100000 in
theorem d_212_1039 : decode (mB 212) 1039 = .ok (.istore 6, 2) := by decide +kernel
set_option maxRecDepth 100000 in
theorem d_212_1041 : decode (mB 212) 1041 = .ok (.aload_n 2, 1) := by decide +kernel
set_option maxRecDepth 100000 in
theorem d_212_1042 : decode (mB 212) 1042 = .ok (.invokevirtual 126, 3) := by decide +kernel
set_option maxRecDepth 100000 in
theorem d_212_1045 : decode (mB 212) 1045 = .ok (.iload 5, 2) := by decide +kernel
set_option maxRecDepth 100000 in
theorem d_212_1047 : decode (mB 212) 1047 = .ok (.if_icmp .eq 5, 3) := by decide +kernel
set_option maxRecDepth 100000 in
theorem d_212_1052 : decode (mB 212) 1052 = .ok (.iload 5, 2) := by decide +kernel
set_option maxRecDepth 100000 in
theorem d_212_1054 : decode (mB 212) 1054 = .ok (.ifCond .ne 15, 3) := by decide +kernel
set_option maxRecDepth 100000 in
theorem d_212_1069 : decode (mB 212) 1069 = .ok (.goto 1469, 3) := by decide +kernel
set_option maxRecDepth 100000 in
theorem d_212_1072 : decode (mB 212) 1072 = .ok (.aload_n 1, 1) := by decide +kernel
set_option maxRecDepth 100000 in
theorem d_212_1073 : decode (mB 212) 1073 = .ok (.aload_n 0, 1) := by decide +kernel
set_option maxRecDepth 100000 in
theorem d_212_1074 : decode (mB 212) 1074 = .ok (.iload 4, 2) := by decide +kernel
set_option maxRecDepth 100000 in
theorem d_212_1076 : decode (mB 212) 1076 = .ok (.iconst 1, 1) := by decide +kernel
set_option maxRecDepth 100000 in
theorem d_212_1077 : decode (mB 212) 1077 = .ok (.iadd, 1) := by decide +kernel
set_option maxRecDepth 100000 in
theorem d_212_1078 : decode (mB 212) 1078 = .ok (.iaload, 1) := by decide +kernel
set_option maxRecDepth 100000 in
theorem d_212_1079 : decode (mB 212) 1079 = .ok (.aload_n 0, 1) := by decide +kernel
set_option maxRecDepth 100000 in
theorem d_212_1080 : decode (mB 212) 1080 = .ok (.iload 4, 2) := by decide +kernel
set_option maxRecDepth 100000 in
theorem d_212_1082 : decode (mB 212) 1082 = .ok (.iconst 2, 1) := by decide +kernel
set_option maxRecDepth 100000 in
theorem d_212_1083 : decode (mB 212) 1083 = .ok (.iadd, 1) := by decide +kernel
set_option maxRecDepth 100000 in
theorem d_212_1084 : decode (mB 212) 1084 = .ok (.iaload, 1) := by decide +kernel
set_option maxRecDepth 100000 in
theorem d_212_1085 : decode (mB 212) 1085 = .ok (.aload_n 3, 1) := by decide +kernel
set_option maxRecDepth 100000 in
theorem d_212_1086 : decode (mB 212) 1086 = .ok (.invokestatic 171, 3) := by decide +kernel
set_option maxRecDepth 100000 in
theorem d_212_1089 : decode (mB 212) 1089 = .ok (.istore 5, 2) := by decide +kernel
set_option maxRecDepth 100000 in
theorem d_212_1091 : decode (mB 212) 1091 = .ok (.aload_n 2, 1) := by decide +kernel
set_option maxRecDepth 100000 in
theorem d_212_1092 : decode (mB 212) 1092 = .ok (.aload_n 0, 1) := by decide +kernel
set_option maxRecDepth 100000 in
theorem d_212_1093 : decode (mB 212) 1093 = .ok (.iload 4, 2) := by decide +kernel
set_option maxRecDepth 100000 in
theorem d_212_1095 : decode (mB 212) 1095 = .ok (.iconst 1, 1) := by decide +kernel
set_option maxRecDepth 100000 in
theorem d_212_1096 : decode (mB 212) 1096 = .ok (.iadd, 1) := by decide +kernel
set_option maxRecDepth 100000 in
theorem d_212_1097 : decode (mB 212) 1097 = .ok (.iaload, 1) := by decide +kernel
set_option maxRecDepth 100000 in
theorem d_212_1098 : decode (mB 212) 1098 = .ok (.aload_n 0, 1) := by decide +kernel
set_option maxRecDepth 100000 in
theorem d_212_1099 : decode (mB 212) 1099 = .ok (.iload 4, 2) := by decide +kernel
set_option maxRecDepth 100000 in
theorem d_212_1101 : decode (mB 212) 1101 = .ok (.iconst 2, 1) := by decide +kernel
set_option maxRecDepth 100000 in
theorem d_212_1102 : decode (mB 212) 1102 = .ok (.iadd, 1) := by decide +kernel
set_option maxRecDepth 100000 in
theorem d_212_1103 : decode (mB 212) 1103 = .ok (.iaload, 1) := by decide +kernel
set_option maxRecDepth 100000 in
theorem d_212_1104 : decode (mB 212) 1104 = .ok (.invokevirtual 173, 3) := by decide +kernel
set_option maxRecDepth 100000 in
theorem d_212_1107 : decode (mB 212) 1107 = .ok (.istore 6, 2) := by decide +kernel
set_option maxRecDepth 100000 in
theorem d_212_1109 : decode (mB 212) 1109 = .ok (.aload_n 2, 1) := by decide +kernel
set_option maxRecDepth 100000 in
theorem d_212_1110 : decode (mB 212) 1110 = .ok (.invokevirtual 126, 3) := by decide +kernel
set_option maxRecDepth 100000 in
theorem d_212_1113 : decode (mB 212) 1113 = .ok (.iload 5, 2) := by decide +kernel
set_option maxRecDepth 100000 in
theorem d_212_1115 : decode (mB 212) 1115 = .ok (.if_icmp .eq 5, 3) := by decide +kernel
set_option maxRecDepth 100000 in
theorem d_212_1120 : decode (mB 212) 1120 = .ok (.iload 5, 2) := by decide +kernel
set_option maxRecDepth 100000 in
theorem d_212_1122 : decode (mB 212) 1122 = .ok (.ifCond .ne 22, 3) := by decide +kernel
set_option maxRecDepth 100000 in
theorem d_212_1144 : decode (mB 212) 1144 = .ok (.goto 1394, 3) := by decide +kernel
set_option maxRecDepth 100000 in
theorem d_212_1147 : decode (mB 212) 1147 = .ok (.aload_n 1, 1) := by decide +kernel
set_option maxRecDepth 100000 in
theorem d_212_1148 : decode (mB 212) 1148 = .ok (.aload_n 0, 1) := by decide +kernel
set_option maxRecDepth 100000 in
theorem d_212_1149 : decode (mB 212) 1149 = .ok (.iload 4, 2) := by decide +kernel
set_option maxRecDepth 100000 in
theorem d_212_1151 : decode (mB 212) 1151 = .ok (.iconst 1, 1) := by decide +kernel
set_option maxRecDepth 100000 in
theorem d_212_1152 : decode (mB 212) 1152 = .ok (.iadd, 1) := by decide +kernel
set_option maxRecDepth 100000 in
theorem d_212_1153 : decode (mB 212) 1153 = .ok (.iaload, 1) := by decide +kernel
set_option maxRecDepth 100000 in
theorem d_212_1154 : decode (mB 212) 1154 = .ok (.aload_n 0, 1) := by decide +kernel
set_option maxRecDepth 100000 in
theorem d_212_1155 : decode (mB 212) 1155 = .ok (.iload 4, 2) := by decide +kernel
set_option maxRecDepth 100000 in
theorem d_212_1157 : decode (mB 212) 1157 = .ok (.iconst 2, 1) := by decide +kernel
set_option maxRecDepth 100000 in
theorem d_212_1158 : decode (mB 212) 1158 = .ok (.iadd, 1) := by decide +kernel
set_option maxRecDepth 100000 in
theorem d_212_1159 : decode (mB 212) 1159 = .ok (.iaload, 1) := by decide +kernel
set_option maxRecDepth 100000 in
theorem d_212_1160 : decode (mB 212) 1160 = .ok (.aload_n 3, 1) := by decide +kernel
set_option maxRecDepth 100000 in
theorem d_212_1161 : decode (mB 212) 1161 = .ok (.invokestatic 174, 3) := by decide +kernel
set_option maxRecDepth 100000 in
theorem d_212_1164 : decode (mB 212) 1164 = .ok (.istore 5, 2) := by decide +kernel
set_option maxRecDepth 100000 in
theorem d_212_1166 : decode (mB 212) 1166 = .ok (.aload_n 2, 1) := by decide +kernel
set_option maxRecDepth 100000 in
theorem d_212_1167 : decode (mB 212) 1167 = .ok (.aload_n 0, 1) := by decide +kernel
set_option maxRecDepth 100000 in
theorem d_212_1168 : decode (mB 212) 1168 = .ok (.iload 4, 2) := by decide +kernel
set_option maxRecDepth 100000 in
theorem d_212_1170 : decode (mB 212) 1170 = .ok (.iconst 1, 1) := by decide +kernel
set_option maxRecDepth 100000 in
theorem d_212_1171 : decode (mB 212) 1171 = .ok (.iadd, 1) := by decide +kernel
set_option maxRecDepth 100000 in
theorem d_212_1172 : decode (mB 212) 1172 = .ok (.iaload, 1) := by decide +kernel
set_option maxRecDepth 100000 in
theorem d_212_1173 : decode (mB 212) 1173 = .ok (.aload_n 0, 1) := by decide +kernel
set_option maxRecDepth 100000 in
theorem d_212_1174 : decode (mB 212) 1174 = .ok (.iload 4, 2) := by decide +kernel
set_option maxRecDepth 100000 in
theorem d_212_1176 : decode (mB 212) 1176 = .ok (.iconst 2, 1) := by decide +kernel
set_option maxRecDepth 100000 in
theorem d_212_1177 : decode (mB 212) 1177 = .ok (.iadd, 1) := by decide +kernel
set_option maxRecDepth 100000 in
theorem d_212_1178 : decode (mB 212) 1178 = .ok (.iaload, 1) := by decide +kernel
set_option maxRecDepth 100000 in
theorem d_212_1179 : decode (mB 212) 1179 = .ok (.invokevirtual 176, 3) := by decide +kernel
set_option maxRecDepth 100000 in
theorem d_212_1182 : decode (mB 212) 1182 = .ok (.istore 6, 2) := by decide +kernel
set_option maxRecDepth 100000 in
theorem d_212_1184 : decode (mB 212) 1184 = .ok (.aload_n 2, 1) := by decide +kernel
set_option maxRecDepth 100000 in
theorem d_212_1185 : decode (mB 212) 1185 = .ok (.invokevirtual 126, 3) := by decide +kernel
set_option maxRecDepth 100000 in
theorem d_212_1188 : decode (mB 212) 1188 = .ok (.iload 5, 2) := by decide +kernel
set_option maxRecDepth 100000 in
theorem d_212_1190 : decode (mB 212) 1190 = .ok (.if_icmp .eq 5, 3) := by decide +kernel
set_option maxRecDepth 100000 in
theorem d_212_1195 : decode (mB 212) 1195 = .ok (.iload 5, 2) := by decide +kernel
set_option maxRecDepth 100000 in
theorem d_212_1197 : decode (mB 212) 1197 = .ok (.ifCond .ne 15, 3) := by decide +kernel
set_option maxRecDepth 100000 in
theorem d_212_1212 : decode (mB 212) 1212 = .ok (.goto 1326, 3) := by decide +kernel
set_option maxRecDepth 100000 in
theorem d_212_1215 : decode (mB 212) 1215 = .ok (.aload_n 1, 1) := by decide +kernel
set_option maxRecDepth 100000 in
theorem d_212_1216 : decode (mB 212) 1216 = .ok (.aload_n 0, 1) := by decide +kernel
set_option maxRecDepth 100000 in
theorem d_212_1217 : decode (mB 212) 1217 = .ok (.iload 4, 2) := by decide +kernel
set_option maxRecDepth 100000 in
theorem d_212_1219 : decode (mB 212) 1219 = .ok (.iconst 1, 1) := by decide +kernel
set_option maxRecDepth 100000 in
theorem d_212_1220 : decode (mB 212) 1220 = .ok (.iadd, 1) := by decide +kernel
set_option maxRecDepth 100000 in
theorem d_212_1221 : decode (mB 212) 1221 = .ok (.iaload, 1) := by decide +kernel
set_option maxRecDepth 100000 in
theorem d_212_1222 : decode (mB 212) 1222 = .ok (.aload_n 0, 1) := by decide +kernel
set_option maxRecDepth 100000 in
theorem d_212_1223 : decode (mB 212) 1223 = .ok (.iload 4, 2) := by decide +kernel
set_option maxRecDepth 100000 in
theorem d_212_1225 : decode (mB 212) 1225 = .ok (.iconst 2, 1) := by decide +kernel
set_option maxRecDepth 100000 in
theorem d_212_1226 : decode (mB 212) 1226 = .ok (.iadd, 1) := by decide +kernel
set_option maxRecDepth 100000 in
theorem d_212_1227 : decode (mB 212) 1227 = .ok (.iaload, 1) := by decide +kernel
set_option maxRecDepth 100000 in
theorem d_212_1228 : decode (mB 212) 1228 = .ok (.aload_n 3, 1) := by decide +kernel
set_option maxRecDepth 100000 in
theorem d_212_1229 : decode (mB 212) 1229 = .ok (.invokestatic 177, 3) := by decide +kernel
set_option maxRecDepth 100000 in
theorem d_212_1232 : decode (mB 212) 1232 = .ok (.istore 5, 2) := by decide +kernel
set_option maxRecDepth 100000 in
theorem d_212_1234 : decode (mB 212) 1234 = .ok (.aload_n 2, 1) := by decide +kernel
set_option maxRecDepth 100000 in
theorem d_212_1235 : decode (mB 212) 1235 = .ok (.aload_n 0, 1) := by decide +kernel
set_option maxRecDepth 100000 in
theorem d_212_1236 : decode (mB 212) 1236 = .ok (.iload 4, 2) := by decide +kernel
set_option maxRecDepth 100000 in
theorem d_212_1238 : decode (mB 212) 1238 = .ok (.iconst 1, 1) := by decide +kernel
set_option maxRecDepth 100000 in
theorem d_212_1239 : decode (mB 212) 1239 = .ok (.iadd, 1) := by decide +kernel
set_option maxRecDepth 100000 in
theorem d_212_1240 : decode (mB 212) 1240 = .ok (.iaload, 1) := by decide +kernel
set_option maxRecDepth 100000 in
theorem d_212_1241 : decode (mB 212) 1241 = .ok (.aload_n 0, 1) := by decide +kernel
set_option maxRecDepth 100000 in
theorem d_212_1242 : decode (mB 212) 1242 = .ok (.iload 4, 2) := by decide +kernel
set_option maxRecDepth 100000 in
theorem d_212_1244 : decode (mB 212) 1244 = .ok (.iconst 2, 1) := by decide +kernel
set_option maxRecDepth 100000 in
theorem d_212_1245 : decode (mB 212) 1245 = .ok (.iadd, 1) := by decide +kernel
set_option maxRecDepth 100000 in
theorem d_212_1246 : decode (mB 212) 1246 = .ok (.iaload, 1) := by decide +kernel
set_option maxRecDepth 100000 in
theorem d_212_1247 : decode (mB 212) 1247 = .ok (.invokevirtual 179, 3) := by decide +kernel
set_option maxRecDepth 100000 in
theorem d_212_1250 : decode (mB 212) 1250 = .ok (.istore 6, 2) := by decide +kernel
set_option maxRecDepth 100000 in
theorem d_212_1252 : decode (mB 212) 1252 = .ok (.aload_n 2, 1) := by decide +kernel
set_option maxRecDepth 100000 in
theorem d_212_1253 : decode (mB 212) 1253 = .ok (.invokevirtual 126, 3) := by decide +kernel
set_option maxRecDepth 100000 in
theorem d_212_1256 : decode (mB 212) 1256 = .ok (.iload 5, 2) := by decide +kernel
set_option maxRecDepth 100000 in
theorem d_212_1258 : decode (mB 212) 1258 = .ok (.if_icmp .eq 5, 3) := by decide +kernel
set_option maxRecDepth 100000 in
theorem d_212_1263 : decode (mB 212) 1263 = .ok (.iload 5, 2) := by decide +kernel
set_option maxRecDepth 100000 in
theorem d_212_1265 : decode (mB 212) 1265 = .ok (.ifCond .ne 15, 3) := by decide +kernel
set_option maxRecDepth 100000 in
theorem d_212_1280 : decode (mB 212) 1280 = .ok (.goto 1258, 3) := by decide +kernel
set_option maxRecDepth 100000 in
theorem d_212_1283 : decode (mB 212) 1283 = .ok (.aload_n 1, 1) := by decide +kernel
set_option maxRecDepth 100000 in
theorem d_212_1284 : decode (mB 212) 1284 = .ok (.aload_n 0, 1) := by decide +kernel
set_option maxRecDepth 100000 in
theorem d_212_1285 : decode (mB 212) 1285 = .ok (.iload 4, 2) := by decide +kernel
set_option maxRecDepth 100000 in
theorem d_212_1287 : decode (mB 212) 1287 = .ok (.iconst 1, 1) := by decide +kernel
set_option maxRecDepth 100000 in
theorem d_212_1288 : decode (mB 212) 1288 = .ok (.iadd, 1) := by decide +kernel
set_option maxRecDepth 100000 in
theorem d_212_1289 : decode (mB 212) 1289 = .ok (.iaload, 1) := by decide +kernel
set_option maxRecDepth 100000 in
theorem d_212_1290 : decode (mB 212) 1290 = .ok (.aload_n 0, 1) := by decide +kernel
set_option maxRecDepth 100000 in
theorem d_212_1291 : decode (mB 212) 1291 = .ok (.iload 4, 2) := by decide +kernel
set_option maxRecDepth 100000 in
theorem d_212_1293 : decode (mB 212) 1293 = .ok (.iconst 2, 1) := by decide +kernel
set_option maxRecDepth 100000 in
theorem d_212_1294 : decode (mB 212) 1294 = .ok (.iadd, 1) := by decide +kernel
set_option maxRecDepth 100000 in
theorem d_212_1295 : decode (mB 212) 1295 = .ok (.iaload, 1) := by decide +kernel
set_option maxRecDepth 100000 in
theorem d_212_1296 : decode (mB 212) 1296 = .ok (.aload_n 0, 1) := by decide +kernel
set_option maxRecDepth 100000 in
theorem d_212_1297 : decode (mB 212) 1297 = .ok (.iload 4, 2) := by decide +kernel
set_option maxRecDepth 100000 in
theorem d_212_1299 : decode (mB 212) 1299 = .ok (.iconst 3, 1) := by decide +kernel
set_option maxRecDepth 100000 in
theorem d_212_1300 : decode (mB 212) 1300 = .ok (.iadd, 1) := by decide +kernel
set_option maxRecDepth 100000 in
theorem d_212_1301 : decode (mB 212) 1301 = .ok (.iaload, 1) := by decide +kernel
set_option maxRecDepth 100000 in
theorem d_212_1302 : decode (mB 212) 1302 = .ok (.aload_n 3, 1) := by decide +kernel
set_option maxRecDepth 100000 in
theorem d_212_1303 : decode (mB 212) 1303 = .ok (.invokestatic 180, 3) := by decide +kernel
set_option maxRecDepth 100000 in
theorem d_212_1306 : decode (mB 212) 1306 = .ok (.istore 5, 2) := by decide +kernel
set_option maxRecDepth 100000 in
theorem d_212_1308 : decode (mB 212) 1308 = .ok (.aload_n 2, 1) := by decide +kernel
set_option maxRecDepth 100000 in
theorem d_212_1309 : decode (mB 212) 1309 = .ok (.aload_n 0, 1) := by decide +kernel
set_option maxRecDepth 100000 in
theorem d_212_1310 : decode (mB 212) 1310 = .ok (.iload 4, 2) := by decide +kernel
set_option maxRecDepth 100000 in
theorem d_212_1312 : decode (mB 212) 1312 = .ok (.iconst 1, 1) := by decide +kernel
set_option maxRecDepth 100000 in
theorem d_212_1313 : decode (mB 212) 1313 = .ok (.iadd, 1) := by decide +kernel
set_option maxRecDepth 100000 in
theorem d_212_1314 : decode (mB 212) 1314 = .ok (.iaload, 1) := by decide +kernel
set_option maxRecDepth 100000 in
theorem d_212_1315 : decode (mB 212) 1315 = .ok (.aload_n 0, 1) := by decide +kernel
set_option maxRecDepth 100000 in
theorem d_212_1316 : decode (mB 212) 1316 = .ok (.iload 4, 2) := by decide +kernel
set_option maxRecDepth 100000 in
theorem d_212_1318 : decode (mB 212) 1318 = .ok (.iconst 2, 1) := by decide +kernel
set_option maxRecDepth 100000 in
theorem d_212_1319 : decode (mB 212) 1319 = .ok (.iadd, 1) := by decide +kernel
set_option maxRecDepth 100000 in
theorem d_212_1320 : decode (mB 212) 1320 = .ok (.iaload, 1) := by decide +kernel
set_option maxRecDepth 100000 in
theorem d_212_1321 : decode (mB 212) 1321 = .ok (.aload_n 0, 1) := by decide +kernel
set_option maxRecDepth 100000 in
theorem d_212_1322 : decode (mB 212) 1322 = .ok (.iload 4, 2) := by decide +kernel
set_option maxRecDepth 100000 in
theorem d_212_1324 : decode (mB 212) 1324 = .ok (.iconst 3, 1) := by decide +kernel
set_option maxRecDepth 100000 in
theorem d_212_1325 : decode (mB 212) 1325 = .ok (.iadd, 1) := by decide +kernel
set_option maxRecDepth 100000 in
theorem d_212_1326 : decode (mB 212) 1326 = .ok (.iaload, 1) := by decide +kernel
set_option maxRecDepth 100000 in
theorem d_212_1327 : decode (mB 212) 1327 = .ok (.invokevirtual 182, 3) := by decide +kernel
set_option maxRecDepth 100000 in
theorem d_212_1330 : decode (mB 212) 1330 = .ok (.istore 6, 2) := by decide +kernel
set_option maxRecDepth 100000 in
theorem d_212_1332 : decode (mB 212) 1332 = .ok (.aload_n 2, 1) := by decide +kernel
set_option maxRecDepth 100000 in
theorem d_212_1333 : decode (mB 212) 1333 = .ok (.invokevirtual 126, 3) := by decide +kernel
set_option maxRecDepth 100000 in
theorem d_212_1336 : decode (mB 212) 1336 = .ok (.iload 5, 2) := by decide +kernel
set_option maxRecDepth 100000 in
theorem d_212_1338 : decode (mB 212) 1338 = .ok (.if_icmp .eq 5, 3) := by decide +kernel
set_option maxRecDepth 100000 in
theorem d_212_1343 : decode (mB 212) 1343 = .ok (.iload 5, 2) := by decide +kernel
set_option maxRecDepth 100000 in
theorem d_212_1345 : decode (mB 212) 1345 = .ok (.ifCond .ne 15, 3) := by decide +kernel
set_option maxRecDepth 100000 in
theorem d_212_1360 : decode (mB 212) 1360 = .ok (.goto 1178, 3) := by decide +kernel
set_option maxRecDepth 100000 in
theorem d_212_1363 : decode (mB 212) 1363 = .ok (.aload_n 1, 1) := by decide +kernel
set_option maxRecDepth 100000 in
theorem d_212_1364 : decode (mB 212) 1364 = .ok (.aload_n 0, 1) := by decide +kernel
set_option maxRecDepth 100000 in
theorem d_212_1365 : decode (mB 212) 1365 = .ok (.iload 4, 2) := by decide +kernel
set_option maxRecDepth 100000 in
theorem d_212_1367 : decode (mB 212) 1367 = .ok (.iconst 1, 1) := by decide +kernel
set_option maxRecDepth 100000 in
theorem d_212_1368 : decode (mB 212) 1368 = .ok (.iadd, 1) := by decide +kernel
set_option maxRecDepth 100000 in
theorem d_212_1369 : decode (mB 212) 1369 = .ok (.iaload, 1) := by decide +kernel
set_option maxRecDepth 100000 in
theorem d_212_1370 : decode (mB 212) 1370 = .ok (.aload_n 0, 1) := by decide +kernel
set_option maxRecDepth 100000 in
theorem d_212_1371 : decode (mB 212) 1371 = .ok (.iload 4, 2) := by decide +kernel
set_option maxRecDepth 100000 in
theorem d_212_1373 : decode (mB 212) 1373 = .ok (.iconst 2, 1) := by decide +kernel
set_option maxRecDepth 100000 in
theorem d_212_1374 : decode (mB 212) 1374 = .ok (.iadd, 1) := by decide +kernel
set_option maxRecDepth 100000 in
theorem d_212_1375 : decode (mB 212) 1375 = .ok (.iaload, 1) := by decide +kernel
set_option maxRecDepth 100000 in
theorem d_212_1376 : decode (mB 212) 1376 = .ok (.aload_n 0, 1) := by decide +kernel
set_option maxRecDepth 100000 in
theorem d_212_1377 : decode (mB 212) 1377 = .ok (.iload 4, 2) := by decide +kernel
set_option maxRecDepth 100000 in
theorem d_212_1379 : decode (mB 212) 1379 = .ok (.iconst 3, 1) := by decide +kernel
set_option maxRecDepth 100000 in
theorem d_212_1380 : decode (mB 212) 1380 = .ok (.iadd, 1) := by decide +kernel
set_option maxRecDepth 100000 in
theorem d_212_1381 : decode (mB 212) 1381 = .ok (.iaload, 1) := by decide +kernel
set_option maxRecDepth 100000 in
theorem d_212_1382 : decode (mB 212) 1382 = .ok (.aload_n 3, 1) := by decide +kernel
set_option maxRecDepth 100000 in
theorem d_212_1383 : decode (mB 212) 1383 = .ok (.invokestatic 183, 3) := by decide +kernel
set_option maxRecDepth 100000 in
theorem d_212_1386 : decode (mB 212) 1386 = .ok (.istore 5, 2) := by decide +kernel
set_option maxRecDepth 100000 in
theorem d_212_1388 : decode (mB 212) 1388 = .ok (.aload_n 2, 1) := by decide +kernel
set_option maxRecDepth 100000 in
theorem d_212_1389 : decode (mB 212) 1389 = .ok (.aload_n 0, 1) := by decide +kernel
set_option maxRecDepth 100000 in
theorem d_212_1390 : decode (mB 212) 1390 = .ok (.iload 4, 2) := by decide +kernel
set_option maxRecDepth 100000 in
theorem d_212_1392 : decode (mB 212) 1392 = .ok (.iconst 1, 1) := by decide +kernel
set_option maxRecDepth 100000 in
theorem d_212_1393 : decode (mB 212) 1393 = .ok (.iadd, 1) := by decide +kernel
set_option maxRecDepth 100000 in
theorem d_212_1394 : decode (mB 212) 1394 = .ok (.iaload, 1) := by decide +kernel
set_option maxRecDepth 100000 in
theorem d_212_1395 : decode (mB 212) 1395 = .ok (.aload_n 0, 1) := by decide +kernel
set_option maxRecDepth 100000 in
theorem d_212_1396 : decode (mB 212) 1396 = .ok (.iload 4, 2) := by decide +kernel
set_option maxRecDepth 100000 in
theorem d_212_1398 : decode (mB 212) 1398 = .ok (.iconst 2, 1) := by decide +kernel
set_option maxRecDepth 100000 in
theorem d_212_1399 : decode (mB 212) 1399 = .ok (.iadd, 1) := by decide +kernel
set_option maxRecDepth 100000 in
theorem d_212_1400 : decode (mB 212) 1400 = .ok (.iaload, 1) := by decide +kernel
set_option maxRecDepth 100000 in
theorem d_212_1401 : decode (mB 212) 1401 = .ok (.aload_n 0, 1) := by decide +kernel
set_option maxRecDepth 100000 in
theorem d_212_1402 : decode (mB 212) 1402 = .ok (.iload 4, 2) := by decide +kernel
set_option maxRecDepth 100000 in
theorem d_212_1404 : decode (mB 212) 1404 = .ok (.iconst 3, 1) := by decide +kernel
set_option maxRecDepth 100000 in
theorem d_212_1405 : decode (mB 212) 1405 = .ok (.iadd, 1) := by decide +kernel
set_option maxRecDepth 100000 in
theorem d_212_1406 : decode (mB 212) 1406 = .ok (.iaload, 1) := by decide +kernel
set_option maxRecDepth 100000 in
theorem d_212_1407 : decode (mB 212) 1407 = .ok (.invokevirtual 185, 3) := by decide +kernel
set_option maxRecDepth 100000 in
theorem d_212_1410 : decode (mB 212) 1410 = .ok (.istore 6, 2) := by decide +kernel
set_option maxRecDepth 100000 in
theorem d_212_1412 : decode (mB 212) 1412 = .ok (.aload_n 2, 1) := by decide +kernel
set_option maxRecDepth 100000 in
theorem d_212_1413 : decode (mB 212) 1413 = .ok (.invokevirtual 126, 3) := by decide +kernel
set_option maxRecDepth 100000 in
theorem d_212_1416 : decode (mB 212) 1416 = .ok (.iload 5, 2) := by decide +kernel
set_option maxRecDepth 100000 in
theorem d_212_1418 : decode (mB 212) 1418 = .ok (.if_icmp .eq 5, 3) := by decide +kernel
set_option maxRecDepth 100000 in
theorem d_212_1423 : decode (mB 212) 1423 = .ok (.iload 5, 2) := by decide +kernel
set_option maxRecDepth 100000 in
theorem d_212_1425 : decode (mB 212) 1425 = .ok (.ifCond .ne 15, 3) := by decide +kernel
set_option maxRecDepth 100000 in
theorem d_212_1440 : decode (mB 212) 1440 = .ok (.goto 1098, 3) := by decide +kernel
set_option maxRecDepth 100000 in
theorem d_212_1443 : decode (mB 212) 1443 = .ok (.aload_n 1, 1) := by decide +kernel
set_option maxRecDepth 100000 in
theorem d_212_1444 : decode (mB 212) 1444 = .ok (.aload_n 0, 1) := by decide +kernel
set_option maxRecDepth 100000 in
theorem d_212_1445 : decode (mB 212) 1445 = .ok (.iload 4, 2) := by decide +kernel
set_option maxRecDepth 100000 in
theorem d_212_1447 : decode (mB 212) 1447 = .ok (.iconst 1, 1) := by decide +kernel
set_option maxRecDepth 100000 in
theorem d_212_1448 : decode (mB 212) 1448 = .ok (.iadd, 1) := by decide +kernel
set_option maxRecDepth 100000 in
theorem d_212_1449 : decode (mB 212) 1449 = .ok (.iaload, 1) := by decide +kernel
set_option maxRecDepth 100000 in
theorem d_212_1450 : decode (mB 212) 1450 = .ok (.aload_n 0, 1) := by decide +kernel
set_option maxRecDepth 100000 in
theorem d_212_1451 : decode (mB 212) 1451 = .ok (.iload 4, 2) := by decide +kernel
set_option maxRecDepth 100000 in
theorem d_212_1453 : decode (mB 212) 1453 = .ok (.iconst 2, 1) := by decide +kernel
set_option maxRecDepth 100000 in
theorem d_212_1454 : decode (mB 212) 1454 = .ok (.iadd, 1) := by decide +kernel
set_option maxRecDepth 100000 in
theorem d_212_1455 : decode (mB 212) 1455 = .ok (.iaload, 1) := by decide +kernel
set_option maxRecDepth 100000 in
theorem d_212_1456 : decode (mB 212) 1456 = .ok (.aload_n 0, 1) := by decide +kernel
set_option maxRecDepth 100000 in
theorem d_212_1457 : decode (mB 212) 1457 = .ok (.iload 4, 2) := by decide +kernel
set_option maxRecDepth 100000 in
theorem d_212_1459 : decode (mB 212) 1459 = .ok (.iconst 3, 1) := by decide +kernel
set_option maxRecDepth 100000 in
theorem d_212_1460 : decode (mB 212) 1460 = .ok (.iadd, 1) := by decide +kernel
set_option maxRecDepth 100000 in
theorem d_212_1461 : decode (mB 212) 1461 = .ok (.iaload, 1) := by decide +kernel
set_option maxRecDepth 100000 in
theorem d_212_1462 : decode (mB 212) 1462 = .ok (.aload_n 3, 1) := by decide +kernel
set_option maxRecDepth 100000 in
theorem d_212_1463 : decode (mB 212) 1463 = .ok (.invokestatic 186, 3) := by decide +kernel
set_option maxRecDepth 100000 in
theorem d_212_1466 : decode (mB 212) 1466 = .ok (.istore 5, 2) := by decide +kernel
set_option maxRecDepth 100000 in
theorem d_212_1468 : decode (mB 212) 1468 = .ok (.aload_n 2, 1) := by decide +kernel
set_option maxRecDepth 100000 in
theorem d_212_1469 : decode (mB 212) 1469 = .ok (.aload_n 0, 1) := by decide +kernel
set_option maxRecDepth 100000 in
theorem d_212_1470 : decode (mB 212) 1470 = .ok (.iload 4, 2) := by decide +kernel
set_option maxRecDepth 100000 in
theorem d_212_1472 : decode (mB 212) 1472 = .ok (.iconst 1, 1) := by decide +kernel
set_option maxRecDepth 100000 in
theorem d_212_1473 : decode (mB 212) 1473 = .ok (.iadd, 1) := by decide +kernel
set_option maxRecDepth 100000 in
theorem d_212_1474 : decode (mB 212) 1474 = .ok (.iaload, 1) := by decide +kernel
set_option maxRecDepth 100000 in
theorem d_212_1475 : decode (mB 212) 1475 = .ok (.aload_n 0, 1) := by decide +kernel
set_option maxRecDepth 100000 in
theorem d_212_1476 : decode (mB 212) 1476 = .ok (.iload 4, 2) := by decide +kernel
set_option maxRecDepth 100000 in
theorem d_212_1478 : decode (mB 212) 1478 = .ok (.iconst 2, 1) := by decide +kernel
set_option maxRecDepth 100000 in
theorem d_212_1479 : decode (mB 212) 1479 = .ok (.iadd, 1) := by decide +kernel
set_option maxRecDepth 100000 in
theorem d_212_1480 : decode (mB 212) 1480 = .ok (.iaload, 1) := by decide +kernel
set_option maxRecDepth 100000 in
theorem d_212_1481 : decode (mB 212) 1481 = .ok (.aload_n 0, 1) := by decide +kernel
set_option maxRecDepth 100000 in
theorem d_212_1482 : decode (mB 212) 1482 = .ok (.iload 4, 2) := by decide +kernel
set_option maxRecDepth 100000 in
theorem d_212_1484 : decode (mB 212) 1484 = .ok (.iconst 3, 1) := by decide +kernel
set_option maxRecDepth 100000 in
theorem d_212_1485 : decode (mB 212) 1485 = .ok (.iadd, 1) := by decide +kernel
set_option maxRecDepth 100000 in
theorem d_212_1486 : decode (mB 212) 1486 = .ok (.iaload, 1) := by decide +kernel
set_option maxRecDepth 100000 in
theorem d_212_1487 : decode (mB 212) 1487 = .ok (.invokevirtual 188, 3) := by decide +kernel
set_option maxRecDepth 100000 in
theorem d_212_1490 : decode (mB 212) 1490 = .ok (.istore 6, 2) := by decide +kernel
set_option maxRecDepth 100000 in
theorem d_212_1492 : decode (mB 212) 1492 = .ok (.aload_n 2, 1) := by decide +kernel
set_option maxRecDepth 100000 in
theorem d_212_1493 : decode (mB 212) 1493 = .ok (.invokevirtual 126, 3) := by decide +kernel
set_option maxRecDepth 100000 in
theorem d_212_1496 : decode (mB 212) 1496 = .ok (.iload 5, 2) := by decide +kernel
set_option maxRecDepth 100000 in
theorem d_212_1498 : decode (mB 212) 1498 = .ok (.if_icmp .eq 5, 3) := by decide +kernel
set_option maxRecDepth 100000 in
theorem d_212_1503 : decode (mB 212) 1503 = .ok (.iload 5, 2) := by decide +kernel
set_option maxRecDepth 100000 in
theorem d_212_1505 : decode (mB 212) 1505 = .ok (.ifCond .ne 15, 3) := by decide +kernel
set_option maxRecDepth 100000 in
theorem d_212_1520 : decode (mB 212) 1520 = .ok (.goto 1018, 3) := by decide +kernel
set_option maxRecDepth 100000 in
theorem d_212_1523 : decode (mB 212) 1523 = .ok (.aload_n 1, 1) := by decide +kernel
set_option maxRecDepth 100000 in
theorem d_212_1524 : decode (mB 212) 1524 = .ok (.aload_n 0, 1) := by decide +kernel
set_option maxRecDepth 100000 in
theorem d_212_1525 : decode (mB 212) 1525 = .ok (.iload 4, 2) := by decide +kernel
set_option maxRecDepth 100000 in
theorem d_212_1527 : decode (mB 212) 1527 = .ok (.iconst 1, 1) := by decide +kernel
set_option maxRecDepth 100000 in
theorem d_212_1528 : decode (mB 212) 1528 = .ok (.iadd, 1) := by decide +kernel
set_option maxRecDepth 100000 in
theorem d_212_1529 : decode (mB 212) 1529 = .ok (.iaload, 1) := by decide +kernel
set_option maxRecDepth 100000 in
theorem d_212_1530 : decode (mB 212) 1530 = .ok (.aload_n 0, 1) := by decide +kernel
set_option maxRecDepth 100000 in
theorem d_212_1531 : decode (mB 212) 1531 = .ok (.iload 4, 2) := by decide +kernel
set_option maxRecDepth 100000 in
theorem d_212_1533 : decode (mB 212) 1533 = .ok (.iconst 2, 1) := by decide +kernel
set_option maxRecDepth 100000 in
theorem d_212_1534 : decode (mB 212) 1534 = .ok (.iadd, 1) := by decide +kernel
set_option maxRecDepth 100000 in
theorem d_212_1535 : decode (mB 212) 1535 = .ok (.iaload, 1) := by decide +kernel
set_option maxRecDepth 100000 in
theorem d_212_1536 : decode (mB 212) 1536 = .ok (.aload_n 0, 1) := by decide +kernel
set_option maxRecDepth 100000 in
theorem d_212_1537 : decode (mB 212) 1537 = .ok (.iload 4, 2) := by decide +kernel
set_option maxRecDepth 100000 in
theorem d_212_1539 : decode (mB 212) 1539 = .ok (.iconst 3, 1) := by decide +kernel
set_option maxRecDepth 100000 in
theorem d_212_1540 : decode (mB 212) 1540 = .ok (.iadd, 1) := by decide +kernel
set_option maxRecDepth 100000 in
theorem d_212_1541 : decode (mB 212) 1541 = .ok (.iaload, 1) := by decide +kernel
set_option maxRecDepth 100000 in
theorem d_212_1542 : decode (mB 212) 1542 = .ok (.aload_n 0, 1) := by decide +kernel
set_option maxRecDepth 100000 in
theorem d_212_1543 : decode (mB 212) 1543 = .ok (.iload 4, 2) := by decide +kernel
set_option maxRecDepth 100000 in
theorem d_212_1545 : decode (mB 212) 1545 = .ok (.iconst 4, 1) := by decide +kernel
set_option maxRecDepth 100000 in
theorem d_212_1546 : decode (mB 212) 1546 = .ok (.iadd, 1) := by decide +kernel
set_option maxRecDepth 100000 in
theorem d_212_1547 : decode (mB 212) 1547 = .ok (.iaload, 1) := by decide +kernel
set_option maxRecDepth 100000 in
theorem d_212_1548 : decode (mB 212) 1548 = .ok (.aload_n 3, 1) := by decide +kernel
set_option maxRecDepth 100000 in
theorem d_212_1549 : decode (mB 212) 1549 = .ok (.invokestatic 189, 3) := by decide +kernel
set_option maxRecDepth 100000 in
theorem d_212_1552 : decode (mB 212) 1552 = .ok (.istore 5, 2) := by decide +kernel
set_option maxRecDepth 100000 in
theorem d_212_1554 : decode (mB 212) 1554 = .ok (.aload_n 2, 1) := by decide +kernel
set_option maxRecDepth 100000 in
theorem d_212_1555 : decode (mB 212) 1555 = .ok (.aload_n 0, 1) := by decide +kernel
set_option maxRecDepth 100000 in
theorem d_212_1556 : decode (mB 212) 1556 = .ok (.iload 4, 2) := by decide +kernel
set_option maxRecDepth 100000 in
theorem d_212_1558 : decode (mB 212) 1558 = .ok (.iconst 1, 1) := by decide +kernel
set_option maxRecDepth 100000 in
theorem d_212_1559 : decode (mB 212) 1559 = .ok (.iadd, 1) := by decide +kernel
set_option maxRecDepth 100000 in
theorem d_212_1560 : decode (mB 212) 1560 = .ok (.iaload, 1) := by decide +kernel
set_option maxRecDepth 100000 in
theorem d_212_1561 : decode (mB 212) 1561 = .ok (.aload_n 0, 1) := by decide +kernel
set_option maxRecDepth 100000 in
theorem d_212_1562 : decode (mB 212) 1562 = .ok (.iload 4, 2) := by decide +kernel
set_option maxRecDepth 100000 in
theorem d_212_1564 : decode (mB 212) 1564 = .ok (.iconst 2, 1) := by decide +kernel
set_option maxRecDepth 100000 in
theorem d_212_1565 : decode (mB 212) 1565 = .ok (.iadd, 1) := by decide +kernel
set_option maxRecDepth 100000 in
theorem d_212_1566 : decode (mB 212) 1566 = .ok (.iaload, 1) := by decide +kernel
set_option maxRecDepth 100000 in
theorem d_212_1567 : decode (mB 212) 1567 = .ok (.aload_n 0, 1) := by decide +kernel
set_option maxRecDepth 100000 in
theorem d_212_1568 : decode (mB 212) 1568 = .ok (.iload 4, 2) := by decide +kernel
set_option maxRecDepth 100000 in
theorem d_212_1570 : decode (mB 212) 1570 = .ok (.iconst 3, 1) := by decide +kernel
set_option maxRecDepth 100000 in
theorem d_212_1571 : decode (mB 212) 1571 = .ok (.iadd, 1) := by decide +kernel
set_option maxRecDepth 100000 in
theorem d_212_1572 : decode (mB 212) 1572 = .ok (.iaload, 1) := by decide +kernel
set_option maxRecDepth 100000 in
theorem d_212_1573 : decode (mB 212) 1573 = .ok (.aload_n 0, 1) := by decide +kernel
set_option maxRecDepth 100000 in
theorem d_212_1574 : decode (mB 212) 1574 = .ok (.iload 4, 2) := by decide +kernel
set_option maxRecDepth 100000 in
theorem d_212_1576 : decode (mB 212) 1576 = .ok (.iconst 4, 1) := by decide +kernel
set_option maxRecDepth 100000 in
theorem d_212_1577 : decode (mB 212) 1577 = .ok (.iadd, 1) := by decide +kernel
set_option maxRecDepth 100000 in
theorem d_212_1578 : decode (mB 212) 1578 = .ok (.iaload, 1) := by decide +kernel
set_option maxRecDepth 100000 in
theorem d_212_1579 : decode (mB 212) 1579 = .ok (.invokevirtual 191, 3) := by decide +kernel
set_option maxRecDepth 100000 in
theorem d_212_1582 : decode (mB 212) 1582 = .ok (.istore 6, 2) := by decide +kernel
set_option maxRecDepth 100000 in
theorem d_212_1584 : decode (mB 212) 1584 = .ok (.aload_n 2, 1) := by decide +kernel
set_option maxRecDepth 100000 in
theorem d_212_1585 : decode (mB 212) 1585 = .ok (.invokevirtual 126, 3) := by decide +kernel
set_option maxRecDepth 100000 in
theorem d_212_1588 : decode (mB 212) 1588 = .ok (.iload 5, 2) := by decide +kernel
set_option maxRecDepth 100000 in
theorem d_212_1590 : decode (mB 212) 1590 = .ok (.if_icmp .eq 5, 3) := by decide +kernel
set_option maxRecDepth 100000 in
theorem d_212_1595 : decode (mB 212) 1595 = .ok (.iload 5, 2) := by decide +kernel
set_option maxRecDepth 100000 in
theorem d_212_1597 : decode (mB 212) 1597 = .ok (.ifCond .ne 15, 3) := by decide +kernel
set_option maxRecDepth 100000 in
theorem d_212_1612 : decode (mB 212) 1612 = .ok (.goto 926, 3) := by decide +kernel
set_option maxRecDepth 100000 in
theorem d_212_1615 : decode (mB 212) 1615 = .ok (.aload_n 1, 1) := by decide +kernel
set_option maxRecDepth 100000 in
theorem d_212_1616 : decode (mB 212) 1616 = .ok (.aload_n 0, 1) := by decide +kernel
set_option maxRecDepth 100000 in
theorem d_212_1617 : decode (mB 212) 1617 = .ok (.iload 4, 2) := by decide +kernel
set_option maxRecDepth 100000 in
theorem d_212_1619 : decode (mB 212) 1619 = .ok (.iconst 1, 1) := by decide +kernel
set_option maxRecDepth 100000 in
theorem d_212_1620 : decode (mB 212) 1620 = .ok (.iadd, 1) := by decide +kernel
set_option maxRecDepth 100000 in
theorem d_212_1621 : decode (mB 212) 1621 = .ok (.iaload, 1) := by decide +kernel
set_option maxRecDepth 100000 in
theorem d_212_1622 : decode (mB 212) 1622 = .ok (.aload_n 0, 1) := by decide +kernel
set_option maxRecDepth 100000 in
theorem d_212_1623 : decode (mB 212) 1623 = .ok (.iload 4, 2) := by decide +kernel
set_option maxRecDepth 100000 in
theorem d_212_1625 : decode (mB 212) 1625 = .ok (.iconst 2, 1) := by decide +kernel
set_option maxRecDepth 100000 in
theorem d_212_1626 : decode (mB 212) 1626 = .ok (.iadd, 1) := by decide +kernel
set_option maxRecDepth 100000 in
theorem d_212_1627 : decode (mB 212) 1627 = .ok (.iaload, 1) := by decide +kernel
set_option maxRecDepth 100000 in
theorem d_212_1628 : decode (mB 212) 1628 = .ok (.aload_n 0, 1) := by decide +kernel
set_option maxRecDepth 100000 in
theorem d_212_1629 : decode (mB 212) 1629 = .ok (.iload 4, 2) := by decide +kernel
set_option maxRecDepth 100000 in
theorem d_212_1631 : decode (mB 212) 1631 = .ok (.iconst 3, 1) := by decide +kernel
set_option maxRecDepth 100000 in
theorem d_212_1632 : decode (mB 212) 1632 = .ok (.iadd, 1) := by decide +kernel
set_option maxRecDepth 100000 in
theorem d_212_1633 : decode (mB 212) 1633 = .ok (.iaload, 1) := by decide +kernel
set_option maxRecDepth 100000 in
theorem d_212_1634 : decode (mB 212) 1634 = .ok (.aload_n 3, 1) := by decide +kernel
set_option maxRecDepth 100000 in
theorem d_212_1635 : decode (mB 212) 1635 = .ok (.invokestatic 192, 3) := by decide +kernel
set_option maxRecDepth 100000 in
theorem d_212_1638 : decode (mB 212) 1638 = .ok (.istore 5, 2) := by decide +kernel
set_option maxRecDepth 100000 in
theorem d_212_1640 : decode (mB 212) 1640 = .ok (.aload_n 2, 1) := by decide +kernel
set_option maxRecDepth 100000 in
theorem d_212_1641 : decode (mB 212) 1641 = .ok (.aload_n 0, 1) := by decide +kernel
set_option maxRecDepth 100000 in
theorem d_212_1642 : decode (mB 212) 1642 = .ok (.iload 4, 2) := by decide +kernel
set_option maxRecDepth 100000 in
theorem d_212_1644 : decode (mB 212) 1644 = .ok (.iconst 1, 1) := by decide +kernel
set_option maxRecDepth 100000 in
theorem d_212_1645 : decode (mB 212) 1645 = .ok (.iadd, 1) := by decide +kernel
set_option maxRecDepth 100000 in
theorem d_212_1646 : decode (mB 212) 1646 = .ok (.iaload, 1) := by decide +kernel
set_option maxRecDepth 100000 in
theorem d_212_1647 : decode (mB 212) 1647 = .ok (.aload_n 0, 1) := by decide +kernel
set_option maxRecDepth 100000 in
theorem d_212_1648 : decode (mB 212) 1648 = .ok (.iload 4, 2) := by decide +kernel
set_option maxRecDepth 100000 in
theorem d_212_1650 : decode (mB 212) 1650 = .ok (.iconst 2, 1) := by decide +kernel
set_option maxRecDepth 100000 in
theorem d_212_1651 : decode (mB 212) 1651 = .ok (.iadd, 1) := by decide +kernel
set_option maxRecDepth 100000 in
theorem d_212_1652 : decode (mB 212) 1652 = .ok (.iaload, 1) := by decide +kernel
set_option maxRecDepth 100000 in
theorem d_212_1653 : decode (mB 212) 1653 = .ok (.aload_n 0, 1) := by decide +kernel
set_option maxRecDepth 100000 in
theorem d_212_1654 : decode (mB 212) 1654 = .ok (.iload 4, 2) := by decide +kernel
set_option maxRecDepth 100000 in
theorem d_212_1656 : decode (mB 212) 1656 = .ok (.iconst 3, 1) := by decide +kernel
set_option maxRecDepth 100000 in
theorem d_212_1657 : decode (mB 212) 1657 = .ok (.iadd, 1) := by decide +kernel
set_option maxRecDepth 100000 in
theorem d_212_1658 : decode (mB 212) 1658 = .ok (.iaload, 1) := by decide +kernel
set_option maxRecDepth 100000 in
theorem d_212_1659 : decode (mB 212) 1659 = .ok (.invokevirtual 194, 3) := by decide +kernel
set_option maxRecDepth 100000 in
theorem d_212_1662 : decode (mB 212) 1662 = .ok (.istore 6, 2) := by decide +kernel
set_option maxRecDepth 100000 in
theorem d_212_1664 : decode (mB 212) 1664 = .ok (.aload_n 2, 1) := by decide +kernel
set_option maxRecDepth 100000 in
theorem d_212_1665 : decode (mB 212) 1665 = .ok (.invokevirtual 126, 3) := by decide +kernel
set_option maxRecDepth 100000 in
theorem d_212_1668 : decode (mB 212) 1668 = .ok (.iload 5, 2) := by decide +kernel
set_option maxRecDepth 100000 in
theorem d_212_1670 : decode (mB 212) 1670 = .ok (.if_icmp .eq 5, 3) := by decide +kernel
set_option maxRecDepth 100000 in
theorem d_212_1675 : decode (mB 212) 1675 = .ok (.iload 5, 2) := by decide +kernel
set_option maxRecDepth 100000 in
theorem d_212_1677 : decode (mB 212) 1677 = .ok (.ifCond .ne 15, 3) := by decide +kernel
set_option maxRecDepth 100000 in
theorem d_212_1692 : decode (mB 212) 1692 = .ok (.goto 846, 3) := by decide +kernel
set_option maxRecDepth 100000 in
theorem d_212_1695 : decode (mB 212) 1695 = .ok (.aload_n 1, 1) := by decide +kernel
set_option maxRecDepth 100000 in
theorem d_212_1696 : decode (mB 212) 1696 = .ok (.aload_n 0, 1) := by decide +kernel
set_option maxRecDepth 100000 in
theorem d_212_1697 : decode (mB 212) 1697 = .ok (.iload 4, 2) := by decide +kernel
set_option maxRecDepth 100000 in
theorem d_212_1699 : decode (mB 212) 1699 = .ok (.iconst 1, 1) := by decide +kernel
set_option maxRecDepth 100000 in
theorem d_212_1700 : decode (mB 212) 1700 = .ok (.iadd, 1) := by decide +kernel
set_option maxRecDepth 100000 in
theorem d_212_1701 : decode (mB 212) 1701 = .ok (.iaload, 1) := by decide +kernel
set_option maxRecDepth 100000 in
theorem d_212_1702 : decode (mB 212) 1702 = .ok (.aload_n 0, 1) := by decide +kernel
set_option maxRecDepth 100000 in
theorem d_212_1703 : decode (mB 212) 1703 = .ok (.iload 4, 2) := by decide +kernel
set_option maxRecDepth 100000 in
theorem d_212_1705 : decode (mB 212) 1705 = .ok (.iconst 2, 1) := by decide +kernel
set_option maxRecDepth 100000 in
theorem d_212_1706 : decode (mB 212) 1706 = .ok (.iadd, 1) := by decide +kernel
set_option maxRecDepth 100000 in
theorem d_212_1707 : decode (mB 212) 1707 = .ok (.iaload, 1) := by decide +kernel
set_option maxRecDepth 100000 in
theorem d_212_1708 : decode (mB 212) 1708 = .ok (.aload_n 0, 1) := by decide +kernel
set_option maxRecDepth 100000 in
theorem d_212_1709 : decode (mB 212) 1709 = .ok (.iload 4, 2) := by decide +kernel
set_option maxRecDepth 100000 in
theorem d_212_1711 : decode (mB 212) 1711 = .ok (.iconst 3, 1) := by decide +kernel
set_option maxRecDepth 100000 in
theorem d_212_1712 : decode (mB 212) 1712 = .ok (.iadd, 1) := by decide +kernel
set_option maxRecDepth 100000 in
theorem d_212_1713 : decode (mB 212) 1713 = .ok (.iaload, 1) := by decide +kernel
set_option maxRecDepth 100000 in
theorem d_212_1714 : decode (mB 212) 1714 = .ok (.aload_n 0, 1) := by decide +kernel
set_option maxRecDepth 100000 in
theorem d_212_1715 : decode (mB 212) 1715 = .ok (.iload 4, 2) := by decide +kernel
set_option maxRecDepth 100000 in
theorem d_212_1717 : decode (mB 212) 1717 = .ok (.iconst 4, 1) := by decide +kernel
set_option maxRecDepth 100000 in
theorem d_212_1718 : decode (mB 212) 1718 = .ok (.iadd, 1) := by decide +kernel
set_option maxRecDepth 100000 in
theorem d_212_1719 : decode (mB 212) 1719 = .ok (.iaload, 1) := by decide +kernel
set_option maxRecDepth 100000 in
theorem d_212_1720 : decode (mB 212) 1720 = .ok (.aload_n 3, 1) := by decide +kernel
set_option maxRecDepth 100000 in
theorem d_212_1721 : decode (mB 212) 1721 = .ok (.invokestatic 195, 3) := by decide +kernel
set_option maxRecDepth 100000 in
theorem d_212_1724 : decode (mB 212) 1724 = .ok (.istore 5, 2) := by decide +kernel
set_option maxRecDepth 100000 in
theorem d_212_1726 : decode (mB 212) 1726 = .ok (.aload_n 2, 1) := by decide +kernel
set_option maxRecDepth 100000 in
theorem d_212_1727 : decode (mB 212) 1727 = .ok (.aload_n 0, 1) := by decide +kernel
set_option maxRecDepth 100000 in
theorem d_212_1728 : decode (mB 212) 1728 = .ok (.iload 4, 2) := by decide +kernel
set_option maxRecDepth 100000 in
theorem d_212_1730 : decode (mB 212) 1730 = .ok (.iconst 1, 1) := by decide +kernel
set_option maxRecDepth 100000 in
theorem d_212_1731 : decode (mB 212) 1731 = .ok (.iadd, 1) := by decide +kernel
set_option maxRecDepth 100000 in
theorem d_212_1732 : decode (mB 212) 1732 = .ok (.iaload, 1) := by decide +kernel
set_option maxRecDepth 100000 in
theorem d_212_1733 : decode (mB 212) 1733 = .ok (.aload_n 0, 1) := by decide +kernel
set_option maxRecDepth 100000 in
theorem d_212_1734 : decode (mB 212) 1734 = .ok (.iload 4, 2) := by decide +kernel
set_option maxRecDepth 100000 in
theorem d_212_1736 : decode (mB 212) 1736 = .ok (.iconst 2, 1) := by decide +kernel
set_option maxRecDepth 100000 in
theorem d_212_1737 : decode (mB 212) 1737 = .ok (.iadd, 1) := by decide +kernel
set_option maxRecDepth 100000 in
theorem d_212_1738 : decode (mB 212) 1738 = .ok (.iaload, 1) := by decide +kernel
set_option maxRecDepth 100000 in
theorem d_212_1739 : decode (mB 212) 1739 = .ok (.aload_n 0, 1) := by decide +kernel
set_option maxRecDepth 100000 in
theorem d_212_1740 : decode (mB 212) 1740 = .ok (.iload 4, 2) := by decide +kernel
set_option maxRecDepth 100000 in
theorem d_212_1742 : decode (mB 212) 1742 = .ok (.iconst 3, 1) := by decide +kernel
set_option maxRecDepth 100000 in
theorem d_212_1743 : decode (mB 212) 1743 = .ok (.iadd, 1) := by decide +kernel
set_option maxRecDepth 100000 in
theorem d_212_1744 : decode (mB 212) 1744 = .ok (.iaload, 1) := by decide +kernel
set_option maxRecDepth 100000 in
theorem d_212_1745 : decode (mB 212) 1745 = .ok (.aload_n 0, 1) := by decide +kernel
set_option maxRecDepth 100000 in
theorem d_212_1746 : decode (mB 212) 1746 = .ok (.iload 4, 2) := by decide +kernel
set_option maxRecDepth 100000 in
theorem d_212_1748 : decode (mB 212) 1748 = .ok (.iconst 4, 1) := by decide +kernel
set_option maxRecDepth 100000 in
theorem d_212_1749 : decode (mB 212) 1749 = .ok (.iadd, 1) := by decide +kernel
set_option maxRecDepth 100000 in
theorem d_212_1750 : decode (mB 212) 1750 = .ok (.iaload, 1) := by decide +kernel
set_option maxRecDepth 100000 in
theorem d_212_1751 : decode (mB 212) 1751 = .ok (.invokevirtual 197, 3) := by decide +kernel
set_option maxRecDepth 100000 in
theorem d_212_1754 : decode (mB 212) 1754 = .ok (.istore 6, 2) := by decide +kernel
set_option maxRecDepth 100000 in
theorem d_212_1756 : decode (mB 212) 1756 = .ok (.aload_n 2, 1) := by decide +kernel
set_option maxRecDepth 100000 in
theorem d_212_1757 : decode (mB 212) 1757 = .ok (.invokevirtual 126, 3) := by decide +kernel
set_option maxRecDepth 100000 in
theorem d_212_1760 : decode (mB 212) 1760 = .ok (.iload 5, 2) := by decide +kernel
set_option maxRecDepth 100000 in
theorem d_212_1762 : decode (mB 212) 1762 = .ok (.if_icmp .eq 5, 3) := by decide +kernel
set_option maxRecDepth 100000 in
theorem d_212_1767 : decode (mB 212) 1767 = .ok (.iload 5, 2) := by decide +kernel
set_option maxRecDepth 100000 in
theorem d_212_1769 : decode (mB 212) 1769 = .ok (.ifCond .ne 15, 3) := by decide +kernel
set_option maxRecDepth 100000 in
theorem d_212_1784 : decode (mB 212) 1784 = .ok (.goto 754, 3) := by decide +kernel
set_option maxRecDepth 100000 in
theorem d_212_1787 : decode (mB 212) 1787 = .ok (.aload_n 1, 1) := by decide +kernel
set_option maxRecDepth 100000 in
theorem d_212_1788 : decode (mB 212) 1788 = .ok (.aload_n 0, 1) := by decide +kernel
set_option maxRecDepth 100000 in
theorem d_212_1789 : decode (mB 212) 1789 = .ok (.iload 4, 2) := by decide +kernel
set_option maxRecDepth 100000 in
theorem d_212_1791 : decode (mB 212) 1791 = .ok (.iconst 1, 1) := by decide +kernel
set_option maxRecDepth 100000 in
theorem d_212_1792 : decode (mB 212) 1792 = .ok (.iadd, 1) := by decide +kernel
set_option maxRecDepth 100000 in
theorem d_212_1793 : decode (mB 212) 1793 = .ok (.iaload, 1) := by decide +kernel
set_option maxRecDepth 100000 in
theorem d_212_1794 : decode (mB 212) 1794 = .ok (.aload_n 0, 1) := by decide +kernel
set_option maxRecDepth 100000 in
theorem d_212_1795 : decode (mB 212) 1795 = .ok (.iload 4, 2) := by decide +kernel
set_option maxRecDepth 100000 in
theorem d_212_1797 : decode (mB 212) 1797 = .ok (.iconst 2, 1) := by decide +kernel
set_option maxRecDepth 100000 in
theorem d_212_1798 : decode (mB 212) 1798 = .ok (.iadd, 1) := by decide +kernel
set_option maxRecDepth 100000 in
theorem d_212_1799 : decode (mB 212) 1799 = .ok (.iaload, 1) := by decide +kernel
set_option maxRecDepth 100000 in
theorem d_212_1800 : decode (mB 212) 1800 = .ok (.aload_n 0, 1) := by decide +kernel
set_option maxRecDepth 100000 in
theorem d_212_1801 : decode (mB 212) 1801 = .ok (.iload 4, 2) := by decide +kernel
set_option maxRecDepth 100000 in
theorem d_212_1803 : decode (mB 212) 1803 = .ok (.iconst 3, 1) := by decide +kernel
set_option maxRecDepth 100000 in
theorem d_212_1804 : decode (mB 212) 1804 = .ok (.iadd, 1) := by decide +kernel
set_option maxRecDepth 100000 in
theorem d_212_1805 : decode (mB 212) 1805 = .ok (.iaload, 1) := by decide +kernel
set_option maxRecDepth 100000 in
theorem d_212_1806 : decode (mB 212) 1806 = .ok (.aload_n 3, 1) := by decide +kernel
set_option maxRecDepth 100000 in
theorem d_212_1807 : decode (mB 212) 1807 = .ok (.invokestatic 198, 3) := by decide +kernel
set_option maxRecDepth 100000 in
theorem d_212_1810 : decode (mB 212) 1810 = .ok (.istore 5, 2) := by decide +kernel
set_option maxRecDepth 100000 in
theorem d_212_1812 : decode (mB 212) 1812 = .ok (.aload_n 2, 1) := by decide +kernel
set_option maxRecDepth 100000 in
theorem d_212_1813 : decode (mB 212) 1813 = .ok (.aload_n 0, 1) := by decide +kernel
set_option maxRecDepth 100000 in
theorem d_212_1814 : decode (mB 212) 1814 = .ok (.iload 4, 2) := by decide +kernel
set_option maxRecDepth 100000 in
theorem d_212_1816 : decode (mB 212) 1816 = .ok (.iconst 1, 1) := by decide +kernel
set_option maxRecDepth 100000 in
theorem d_212_1817 : decode (mB 212) 1817 = .ok (.iadd, 1) := by decide +kernel
set_option maxRecDepth 100000 in
theorem d_212_1818 : decode (mB 212) 1818 = .ok (.iaload, 1) := by decide +kernel
set_option maxRecDepth 100000 in
theorem d_212_1819 : decode (mB 212) 1819 = .ok (.aload_n 0, 1) := by decide +kernel
set_option maxRecDepth 100000 in
theorem d_212_1820 : decode (mB 212) 1820 = .ok (.iload 4, 2) := by decide +kernel
set_option maxRecDepth 100000 in
theorem d_212_1822 : decode (mB 212) 1822 = .ok (.iconst 2, 1) := by decide +kernel
set_option maxRecDepth 100000 in
theorem d_212_1823 : decode (mB 212) 1823 = .ok (.iadd, 1) := by decide +kernel
set_option maxRecDepth 100000 in
theorem d_212_1824 : decode (mB 212) 1824 = .ok (.iaload, 1) := by decide +kernel
set_option maxRecDepth 100000 in
theorem d_212_1825 : decode (mB 212) 1825 = .ok (.aload_n 0, 1) := by decide +kernel
set_option maxRecDepth 100000 in
theorem d_212_1826 : decode (mB 212) 1826 = .ok (.iload 4, 2) := by decide +kernel
set_option maxRecDepth 100000 in
theorem d_212_1828 : decode (mB 212) 1828 = .ok (.iconst 3, 1) := by decide +kernel
set_option maxRecDepth 100000 in
theorem d_212_1829 : decode (mB 212) 1829 = .ok (.iadd, 1) := by decide +kernel
set_option maxRecDepth 100000 in
theorem d_212_1830 : decode (mB 212) 1830 = .ok (.iaload, 1) := by decide +kernel
set_option maxRecDepth 100000 in
theorem d_212_1831 : decode (mB 212) 1831 = .ok (.invokevirtual 200, 3) := by decide +kernel
set_option maxRecDepth 100000 in
theorem d_212_1834 : decode (mB 212) 1834 = .ok (.istore 6, 2) := by decide +kernel
set_option maxRecDepth 100000 in
theorem d_212_1836 : decode (mB 212) 1836 = .ok (.aload_n 2, 1) := by decide +kernel
set_option maxRecDepth 100000 in
theorem d_212_1837 : decode (mB 212) 1837 = .ok (.invokevirtual 126, 3) := by decide +kernel
set_option maxRecDepth 100000 in
theorem d_212_1840 : decode (mB 212) 1840 = .ok (.iload 5, 2) := by decide +kernel
set_option maxRecDepth 100000 in
theorem d_212_1842 : decode (mB 212) 1842 = .ok (.if_icmp .eq 5, 3) := by decide +kernel
set_option maxRecDepth 100000 in
theorem d_212_1847 : decode (mB 212) 1847 = .ok (.iload 5, 2) := by decide +kernel
set_option maxRecDepth 100000 in
theorem d_212_1849 : decode (mB 212) 1849 = .ok (.ifCond .ne 15, 3) := by decide +kernel
set_option maxRecDepth 100000 in
theorem d_212_1864 : decode (mB 212) 1864 = .ok (.goto 674, 3) := by decide +kernel
set_option maxRecDepth 100000 in
theorem d_212_1867 : decode (mB 212) 1867 = .ok (.aload_n 1, 1) := by decide +kernel
set_option maxRecDepth 100000 in
theorem d_212_1868 : decode (mB 212) 1868 = .ok (.aload_n 0, 1) := by decide +kernel
set_option maxRecDepth 100000 in
theorem d_212_1869 : decode (mB 212) 1869 = .ok (.iload 4, 2) := by decide +kernel
set_option maxRecDepth 100000 in
theorem d_212_1871 : decode (mB 212) 1871 = .ok (.iconst 1, 1) := by decide +kernel
set_option maxRecDepth 100000 in
theorem d_212_1872 : decode (mB 212) 1872 = .ok (.iadd, 1) := by decide +kernel
set_option maxRecDepth 100000 in
theorem d_212_1873 : decode (mB 212) 1873 = .ok (.iaload, 1) := by decide +kernel
set_option maxRecDepth 100000 in
theorem d_212_1874 : decode (mB 212) 1874 = .ok (.aload_n 0, 1) := by decide +kernel
set_option maxRecDepth 100000 in
theorem d_212_1875 : decode (mB 212) 1875 = .ok (.iload 4, 2) := by decide +kernel
set_option maxRecDepth 100000 in
theorem d_212_1877 : decode (mB 212) 1877 = .ok (.iconst 2, 1) := by decide +kernel
set_option maxRecDepth 100000 in
theorem d_212_1878 : decode (mB 212) 1878 = .ok (.iadd, 1) := by decide +kernel
set_option maxRecDepth 100000 in
theorem d_212_1879 : decode (mB 212) 1879 = .ok (.iaload, 1) := by decide +kernel
set_option maxRecDepth 100000 in
theorem d_212_1880 : decode (mB 212) 1880 = .ok (.aload_n 0, 1) := by decide +kernel
set_option maxRecDepth 100000 in
theorem d_212_1881 : decode (mB 212) 1881 = .ok (.iload 4, 2) := by decide +kernel
set_option maxRecDepth 100000 in
theorem d_212_1883 : decode (mB 212) 1883 = .ok (.iconst 3, 1) := by decide +kernel
set_option maxRecDepth 100000 in
theorem d_212_1884 : decode (mB 212) 1884 = .ok (.iadd, 1) := by decide +kernel
set_option maxRecDepth 100000 in
theorem d_212_1885 : decode (mB 212) 1885 = .ok (.iaload, 1) := by decide +kernel
set_option maxRecDepth 100000 in
theorem d_212_1886 : decode (mB 212) 1886 = .ok (.aload_n 3, 1) := by decide +kernel
set_option maxRecDepth 100000 in
theorem d_212_1887 : decode (mB 212) 1887 = .ok (.invokestatic 201, 3) := by decide +kernel
set_option maxRecDepth 100000 in
theorem d_212_1890 : decode (mB 212) 1890 = .ok (.istore 5, 2) := by decide +kernel
set_option maxRecDepth 100000 in
theorem d_212_1892 : decode (mB 212) 1892 = .ok (.aload_n 2, 1) := by decide +kernel
set_option maxRecDepth 100000 in
theorem d_212_1893 : decode (mB 212) 1893 = .ok (.aload_n 0, 1) := by decide +kernel
set_option maxRecDepth 100000 in
theorem d_212_1894 : decode (mB 212) 1894 = .ok (.iload 4, 2) := by decide +kernel
set_option maxRecDepth 100000 in
theorem d_212_1896 : decode (mB 212) 1896 = .ok (.iconst 1, 1) := by decide +kernel
set_option maxRecDepth 100000 in
theorem d_212_1897 : decode (mB 212) 1897 = .ok (.iadd, 1) := by decide +kernel
set_option maxRecDepth 100000 in
theorem d_212_1898 : decode (mB 212) 1898 = .ok (.iaload, 1) := by decide +kernel
set_option maxRecDepth 100000 in
theorem d_212_1899 : decode (mB 212) 1899 = .ok (.aload_n 0, 1) := by decide +kernel
set_option maxRecDepth 100000 in
theorem d_212_1900 : decode (mB 212) 1900 = .ok (.iload 4, 2) := by decide +kernel
set_option maxRecDepth 100000 in
theorem d_212_1902 : decode (mB 212) 1902 = .ok (.iconst 2, 1) := by decide +kernel
set_option maxRecDepth 100000 in
theorem d_212_1903 : decode (mB 212) 1903 = .ok (.iadd, 1) := by decide +kernel
set_option maxRecDepth 100000 in
theorem d_212_1904 : decode (mB 212) 1904 = .ok (.iaload, 1) := by decide +kernel
set_option maxRecDepth 100000 in
theorem d_212_1905 : decode (mB 212) 1905 = .ok (.aload_n 0, 1) := by decide +kernel
set_option maxRecDepth 100000 in
theorem d_212_1906 : decode (mB 212) 1906 = .ok (.iload 4, 2) := by decide +kernel
set_option maxRecDepth 100000 in
theorem d_212_1908 : decode (mB 212) 1908 = .ok (.iconst 3, 1) := by decide +kernel
set_option maxRecDepth 100000 in
theorem d_212_1909 : decode (mB 212) 1909 = .ok (.iadd, 1) := by decide +kernel
set_option maxRecDepth 100000 in
theorem d_212_1910 : decode (mB 212) 1910 = .ok (.iaload, 1) := by decide +kernel
set_option maxRecDepth 100000 in
theorem d_212_1911 : decode (mB 212) 1911 = .ok (.invokevirtual 203, 3) := by decide +kernel
set_option maxRecDepth 100000 in
theorem d_212_1914 : decode (mB 212) 1914 = .ok (.istore 6, 2) := by decide +kernel
set_option maxRecDepth 100000 in
theorem d_212_1916 : decode (mB 212) 1916 = .ok (.aload_n 2, 1) := by decide +kernel
set_option maxRecDepth 100000 in
theorem d_212_1917 : decode (mB 212) 1917 = .ok (.invokevirtual 126, 3) := by decide +kernel
set_option maxRecDepth 100000 in
theorem d_212_1920 : decode (mB 212) 1920 = .ok (.iload 5, 2) := by decide +kernel
set_option maxRecDepth 100000 in
theorem d_212_1922 : decode (mB 212) 1922 = .ok (.if_icmp .eq 5, 3) := by decide +kernel
set_option maxRecDepth 100000 in
theorem d_212_1927 : decode (mB 212) 1927 = .ok (.iload 5, 2) := by decide +kernel
set_option maxRecDepth 100000 in
theorem d_212_1929 : decode (mB 212) 1929 = .ok (.ifCond .ne 15, 3) := by decide +kernel
set_option maxRecDepth 100000 in
theorem d_212_1944 : decode (mB 212) 1944 = .ok (.goto 594, 3) := by decide +kernel
set_option maxRecDepth 100000 in
theorem d_212_1947 : decode (mB 212) 1947 = .ok (.aload_n 1, 1) := by decide +kernel
set_option maxRecDepth 100000 in
theorem d_212_1948 : decode (mB 212) 1948 = .ok (.aload_n 0, 1) := by decide +kernel
set_option maxRecDepth 100000 in
theorem d_212_1949 : decode (mB 212) 1949 = .ok (.iload 4, 2) := by decide +kernel
set_option maxRecDepth 100000 in
theorem d_212_1951 : decode (mB 212) 1951 = .ok (.iconst 1, 1) := by decide +kernel
set_option maxRecDepth 100000 in
theorem d_212_1952 : decode (mB 212) 1952 = .ok (.iadd, 1) := by decide +kernel
set_option maxRecDepth 100000 in
theorem d_212_1953 : decode (mB 212) 1953 = .ok (.iaload, 1) := by decide +kernel
set_option maxRecDepth 100000 in
theorem d_212_1954 : decode (mB 212) 1954 = .ok (.aload_n 0, 1) := by decide +kernel
set_option maxRecDepth 100000 in
theorem d_212_1955 : decode (mB 212) 1955 = .ok (.iload 4, 2) := by decide +kernel
set_option maxRecDepth 100000 in
theorem d_212_1957 : decode (mB 212) 1957 = .ok (.iconst 2, 1) := by decide +kernel
set_option maxRecDepth 100000 in
theorem d_212_1958 : decode (mB 212) 1958 = .ok (.iadd, 1) := by decide +kernel
set_option maxRecDepth 100000 in
theorem d_212_1959 : decode (mB 212) 1959 = .ok (.iaload, 1) := by decide +kernel
set_option maxRecDepth 100000 in
theorem d_212_1960 : decode (mB 212) 1960 = .ok (.aload_n 0, 1) := by decide +kernel
set_option maxRecDepth 100000 in
theorem d_212_1961 : decode (mB 212) 1961 = .ok (.iload 4, 2) := by decide +kernel
set_option maxRecDepth 100000 in
theorem d_212_1963 : decode (mB 212) 1963 = .ok (.iconst 3, 1) := by decide +kernel
set_option maxRecDepth 100000 in
theorem d_212_1964 : decode (mB 212) 1964 = .ok (.iadd, 1) := by decide +kernel
set_option maxRecDepth 100000 in
theorem d_212_1965 : decode (mB 212) 1965 = .ok (.iaload, 1) := by decide +kernel
set_option maxRecDepth 100000 in
theorem d_212_1966 : decode (mB 212) 1966 = .ok (.aload_n 3, 1) := by decide +kernel
set_option maxRecDepth 100000 in
theorem d_212_1967 : decode (mB 212) 1967 = .ok (.invokestatic 204, 3) := by decide +kernel
set_option maxRecDepth 100000 in
theorem d_212_1970 : decode (mB 212) 1970 = .ok (.istore 5, 2) := by decide +kernel
set_option maxRecDepth 100000 in
theorem d_212_1972 : decode (mB 212) 1972 = .ok (.aload_n 2, 1) := by decide +kernel
set_option maxRecDepth 100000 in
theorem d_212_1973 : decode (mB 212) 1973 = .ok (.aload_n 0, 1) := by decide +kernel
set_option maxRecDepth 100000 in
theorem d_212_1974 : decode (mB 212) 1974 = .ok (.iload 4, 2) := by decide +kernel
set_option maxRecDepth 100000 in
theorem d_212_1976 : decode (mB 212) 1976 = .ok (.iconst 1, 1) := by decide +kernel
set_option maxRecDepth 100000 in
theorem d_212_1977 : decode (mB 212) 1977 = .ok (.iadd, 1) := by decide +kernel
set_option maxRecDepth 100000 in
theorem d_212_1978 : decode (mB 212) 1978 = .ok (.iaload, 1) := by decide +kernel
set_option maxRecDepth 100000 in
theorem d_212_1979 : decode (mB 212) 1979 = .ok (.aload_n 0, 1) := by decide +kernel
set_option maxRecDepth 100000 in
theorem d_212_1980 : decode (mB 212) 1980 = .ok (.iload 4, 2) := by decide +kernel
set_option maxRecDepth 100000 in
theorem d_212_1982 : decode (mB 212) 1982 = .ok (.iconst 2, 1) := by decide +kernel
set_option maxRecDepth 100000 in
theorem d_212_1983 : decode (mB 212) 1983 = .ok (.iadd, 1) := by decide +kernel
set_option maxRecDepth 100000 in
theorem d_212_1984 : decode (mB 212) 1984 = .ok (.iaload, 1) := by decide +kernel
set_option maxRecDepth 100000 in
theorem d_212_1985 : decode (mB 212) 1985 = .ok (.aload_n 0, 1) := by decide +kernel
set_option maxRecDepth 100000 in
theorem d_212_1986 : decode (mB 212) 1986 = .ok (.iload 4, 2) := by decide +kernel
set_option maxRecDepth 100000 in
theorem d_212_1988 : decode (mB 212) 1988 = .ok (.iconst 3, 1) := by decide +kernel
set_option maxRecDepth 100000 in
theorem d_212_1989 : decode (mB 212) 1989 = .ok (.iadd, 1) := by decide +kernel
set_option maxRecDepth 100000 in
theorem d_212_1990 : decode (mB 212) 1990 = .ok (.iaload, 1) := by decide +kernel
set_option maxRecDepth 100000 in
theorem d_212_1991 : decode (mB 212) 1991 = .ok (.invokevirtual 206, 3) := by decide +kernel
set_option maxRecDepth 100000 in
theorem d_212_1994 : decode (mB 212) 1994 = .ok (.istore 6, 2) := by decide +kernel
set_option maxRecDepth 100000 in
theorem d_212_1996 : decode (mB 212) 1996 = .ok (.aload_n 2, 1) := by decide +kernel
set_option maxRecDepth 100000 in
theorem d_212_1997 : decode (mB 212) 1997 = .ok (.invokevirtual 126, 3) := by decide +kernel
set_option maxRecDepth 100000 in
theorem d_212_2000 : decode (mB 212) 2000 = .ok (.iload 5, 2) := by decide +kernel
set_option maxRecDepth 100000 in
theorem d_212_2002 : decode (mB 212) 2002 = .ok (.if_icmp .eq 5, 3) := by decide +kernel
set_option maxRecDepth 100000 in
theorem d_212_2007 : decode (mB 212) 2007 = .ok (.iload 5, 2) := by decide +kernel
set_option maxRecDepth 100000 in
theorem d_212_2009 : decode (mB 212) 2009 = .ok (.ifCond .ne 15, 3) := by decide +kernel
set_option maxRecDepth 100000 in
theorem d_212_2024 : decode (mB 212) 2024 = .ok (.goto 514, 3) := by decide +kernel
set_option maxRecDepth 100000 in
theorem d_212_2027 : decode (mB 212) 2027 = .ok (.aload_n 1, 1) := by decide +kernel
set_option maxRecDepth 100000 in
theorem d_212_2028 : decode (mB 212) 2028 = .ok (.invokevirtual 207, 3) := by decide +kernel
set_option maxRecDepth 100000 in
theorem d_212_2031 : decode (mB 212) 2031 = .ok (.aload_n 2, 1) := by decide +kernel
set_option maxRecDepth 100000 in
theorem d_212_2032 : decode (mB 212) 2032 = .ok (.invokevirtual 210, 3) := by decide +kernel
set_option maxRecDepth 100000 in
theorem d_212_2035 : decode (mB 212) 2035 = .ok (.if_icmp .eq 503, 3) := by decide +kernel
set_option maxRecDepth 100000 in
theorem d_212_2040 : decode (mB 212) 2040 = .ok (.aload_n 1, 1) := by decide +kernel
set_option maxRecDepth 100000 in
theorem d_212_2041 : decode (mB 212) 2041 = .ok (.aload_n 0, 1) := by decide +kernel
set_option maxRecDepth 100000 in
theorem d_212_2042 : decode (mB 212) 2042 = .ok (.iload 4, 2) := by decide +kernel
set_option maxRecDepth 100000 in
theorem d_212_2044 : decode (mB 212) 2044 = .ok (.iconst 1, 1) := by decide +kernel
set_option maxRecDepth 100000 in
theorem d_212_2045 : decode (mB 212) 2045 = .ok (.iadd, 1) := by decide +kernel
set_option maxRecDepth 100000 in
theorem d_212_2046 : decode (mB 212) 2046 = .ok (.iaload, 1) := by decide +kernel
set_option maxRecDepth 100000 in
theorem d_212_2047 : decode (mB 212) 2047 = .ok (.aload_n 3, 1) := by decide +kernel
set_option maxRecDepth 100000 in
theorem d_212_2048 : decode (mB 212) 2048 = .ok (.invokestatic 211, 3) := by decide +kernel
set_option maxRecDepth 100000 in
theorem d_212_2051 : decode (mB 212) 2051 = .ok (.istore 5, 2) := by decide +kernel
set_option maxRecDepth 100000 in
theorem d_212_2053 : decode (mB 212) 2053 = .ok (.aload_n 2, 1) := by decide +kernel
set_option maxRecDepth 100000 in
theorem d_212_2054 : decode (mB 212) 2054 = .ok (.aload_n 0, 1) := by decide +kernel
set_option maxRecDepth 100000 in
theorem d_212_2055 : decode (mB 212) 2055 = .ok (.iload 4, 2) := by decide +kernel
set_option maxRecDepth 100000 in
theorem d_212_2057 : decode (mB 212) 2057 = .ok (.iconst 1, 1) := by decide +kernel
set_option maxRecDepth 100000 in
theorem d_212_2058 : decode (mB 212) 2058 = .ok (.iadd, 1) := by decide +kernel
set_option maxRecDepth 100000 in
theorem d_212_2059 : decode (mB 212) 2059 = .ok (.iaload, 1) := by decide +kernel
set_option maxRecDepth 100000 in
theorem d_212_2060 : decode (mB 212) 2060 = .ok (.invokevirtual 213, 3) := by decide +kernel
set_option maxRecDepth 100000 in
theorem d_212_2063 : decode (mB 212) 2063 = .ok (.istore 6, 2) := by decide +kernel
set_option maxRecDepth 100000 in
theorem d_212_2065 : decode (mB 212) 2065 = .ok (.aload_n 2, 1) := by decide +kernel
set_option maxRecDepth 100000 in
theorem d_212_2066 : decode (mB 212) 2066 = .ok (.invokevirtual 126, 3) := by decide +kernel
set_option maxRecDepth 100000 in
theorem d_212_2069 : decode (mB 212) 2069 = .ok (.iload 5, 2) := by decide +kernel
set_option maxRecDepth 100000 in
theorem d_212_2071 : decode (mB 212) 2071 = .ok (.if_icmp .eq 5, 3) := by decide +kernel
set_option maxRecDepth 100000 in
theorem d_212_2076 : decode (mB 212) 2076 = .ok (.iload 5, 2) := by decide +kernel
set_option maxRecDepth 100000 in
theorem d_212_2078 : decode (mB 212) 2078 = .ok (.ifCond .ne 15, 3) := by decide +kernel
set_option maxRecDepth 100000 in
theorem d_212_2093 : decode (mB 212) 2093 = .ok (.goto 445, 3) := by decide +kernel
set_option maxRecDepth 100000 in
theorem d_212_2096 : decode (mB 212) 2096 = .ok (.aload_n 1, 1) := by decide +kernel
set_option maxRecDepth 100000 in
theorem d_212_2097 : decode (mB 212) 2097 = .ok (.aload_n 0, 1) := by decide +kernel
set_option maxRecDepth 100000 in
theorem d_212_2098 : decode (mB 212) 2098 = .ok (.iload 4, 2) := by decide +kernel
set_option maxRecDepth 100000 in
theorem d_212_2100 : decode (mB 212) 2100 = .ok (.iconst 1, 1) := by decide +kernel
set_option maxRecDepth 100000 in
theorem d_212_2101 : decode (mB 212) 2101 = .ok (.iadd, 1) := by decide +kernel
set_option maxRecDepth 100000 in
theorem d_212_2102 : decode (mB 212) 2102 = .ok (.iaload, 1) := by decide +kernel
set_option maxRecDepth 100000 in
theorem d_212_2103 : decode (mB 212) 2103 = .ok (.aload_n 3, 1) := by decide +kernel
set_option maxRecDepth 100000 in
theorem d_212_2104 : decode (mB 212) 2104 = .ok (.invokestatic 214, 3) := by decide +kernel
set_option maxRecDepth 100000 in
theorem d_212_2107 : decode (mB 212) 2107 = .ok (.istore 5, 2) := by decide +kernel
set_option maxRecDepth 100000 in
theorem d_212_2109 : decode (mB 212) 2109 = .ok (.aload_n 2, 1) := by decide +kernel
set_option maxRecDepth 100000 in
theorem d_212_2110 : decode (mB 212) 2110 = .ok (.aload_n 0, 1) := by decide +kernel
set_option maxRecDepth 100000 in
theorem d_212_2111 : decode (mB 212) 2111 = .ok (.iload 4, 2) := by decide +kernel
set_option maxRecDepth 100000 in
theorem d_212_2113 : decode (mB 212) 2113 = .ok (.iconst 1, 1) := by decide +kernel
set_option maxRecDepth 100000 in
theorem d_212_2114 : decode (mB 212) 2114 = .ok (.iadd, 1) := by decide +kernel
set_option maxRecDepth 100000 in
theorem d_212_2115 : decode (mB 212) 2115 = .ok (.iaload, 1) := by decide +kernel
set_option maxRecDepth 100000 in
theorem d_212_2116 : decode (mB 212) 2116 = .ok (.invokevirtual 216, 3) := by decide +kernel
set_option maxRecDepth 100000 in
theorem d_212_2119 : decode (mB 212) 2119 = .ok (.istore 6, 2) := by decide +kernel
set_option maxRecDepth 100000 in
theorem d_212_2121 : decode (mB 212) 2121 = .ok (.aload_n 2, 1) := by decide +kernel
set_option maxRecDepth 100000 in
theorem d_212_2122 : decode (mB 212) 2122 = .ok (.invokevirtual 126, 3) := by decide +kernel
set_option maxRecDepth 100000 in
theorem d_212_2125 : decode (mB 212) 2125 = .ok (.iload 5, 2) := by decide +kernel
set_option maxRecDepth 100000 in
theorem d_212_2127 : decode (mB 212) 2127 = .ok (.if_icmp .eq 5, 3) := by decide +kernel
set_option maxRecDepth 100000 in
theorem d_212_2132 : decode (mB 212) 2132 = .ok (.iload 5, 2) := by decide +kernel
set_option maxRecDepth 100000 in
theorem d_212_2134 : decode (mB 212) 2134 = .ok (.ifCond .ne 15, 3) := by decide +kernel
set_option maxRecDepth 100000 in
theorem d_212_2149 : decode (mB 212) 2149 = .ok (.goto 389, 3) := by decide +kernel
set_option maxRecDepth 100000 in
theorem d_212_2152 : decode (mB 212) 2152 = .ok (.aload_n 1, 1) := by decide +kernel
set_option maxRecDepth 100000 in
theorem d_212_2153 : decode (mB 212) 2153 = .ok (.aload_n 0, 1) := by decide +kernel
set_option maxRecDepth 100000 in
theorem d_212_2154 : decode (mB 212) 2154 = .ok (.iload 4, 2) := by decide +kernel
set_option maxRecDepth 100000 in
theorem d_212_2156 : decode (mB 212) 2156 = .ok (.iconst 1, 1) := by decide +kernel
set_option maxRecDepth 100000 in
theorem d_212_2157 : decode (mB 212) 2157 = .ok (.iadd, 1) := by decide +kernel
set_option maxRecDepth 100000 in
theorem d_212_2158 : decode (mB 212) 2158 = .ok (.iaload, 1) := by decide +kernel
set_option maxRecDepth 100000 in
theorem d_212_2159 : decode (mB 212) 2159 = .ok (.aload_n 3, 1) := by decide +kernel
set_option maxRecDepth 100000 in
theorem d_212_2160 : decode (mB 212) 2160 = .ok (.invokestatic 217, 3) := by decide +kernel
set_option maxRecDepth 100000 in
theorem d_212_2163 : decode (mB 212) 2163 = .ok (.istore 5, 2) := by decide +kernel
set_option maxRecDepth 100000 in
theorem d_212_2165 : decode (mB 212) 2165 = .ok (.aload_n 2, 1) := by decide +kernel
set_option maxRecDepth 100000 in
theorem d_212_2166 : decode (mB 212) 2166 = .ok (.aload_n 0, 1) := by decide +kernel
set_option maxRecDepth 100000 in
theorem d_212_2167 : decode (mB 212) 2167 = .ok (.iload 4, 2) := by decide +kernel
set_option maxRecDepth 100000 in
theorem d_212_2169 : decode (mB 212) 2169 = .ok (.iconst 1, 1) := by decide +kernel
set_option maxRecDepth 100000 in
theorem d_212_2170 : decode (mB 212) 2170 = .ok (.iadd, 1) := by decide +kernel
set_option maxRecDepth 100000 in
theorem d_212_2171 : decode (mB 212) 2171 = .ok (.iaload, 1) := by decide +kernel
set_option maxRecDepth 100000 in
theorem d_212_2172 : decode (mB 212) 2172 = .ok (.invokevirtual 219, 3) := by decide +kernel
set_option maxRecDepth 100000 in
theorem d_212_2175 : decode (mB 212) 2175 = .ok (.istore 6, 2) := by decide +kernel
set_option maxRecDepth 100000 in
theorem d_212_2177 : decode (mB 212) 2177 = .ok (.aload_n 2, 1) := by decide +kernel
set_option maxRecDepth 100000 in
theorem d_212_2178 : decode (mB 212) 2178 = .ok (.invokevirtual 126, 3) := by decide +kernel
set_option maxRecDepth 100000 in
theorem d_212_2181 : decode (mB 212) 2181 = .ok (.iload 5, 2) := by decide +kernel
set_option maxRecDepth 100000 in
theorem d_212_2183 : decode (mB 212) 2183 = .ok (.if_icmp .eq 5, 3) := by decide +kernel
set_option maxRecDepth 100000 in
theorem d_212_2188 : decode (mB 212) 2188 = .ok (.iload 5, 2) := by decide +kernel
set_option maxRecDepth 100000 in
theorem d_212_2190 : decode (mB 212) 2190 = .ok (.ifCond .ne 15, 3) := by decide +kernel
set_option maxRecDepth 100000 in
theorem d_212_2205 : decode (mB 212) 2205 = .ok (.goto 333, 3) := by decide +kernel
set_option maxRecDepth 100000 in
theorem d_212_2208 : decode (mB 212) 2208 = .ok (.aload_n 1, 1) := by decide +kernel
set_option maxRecDepth 100000 in
theorem d_212_2209 : decode (mB 212) 2209 = .ok (.aload_n 0, 1) := by decide +kernel
set_option maxRecDepth 100000 in
theorem d_212_2210 : decode (mB 212) 2210 = .ok (.iload 4, 2) := by decide +kernel
set_option maxRecDepth 100000 in
theorem d_212_2212 : decode (mB 212) 2212 = .ok (.iconst 1, 1) := by decide +kernel
set_option maxRecDepth 100000 in
theorem d_212_2213 : decode (mB 212) 2213 = .ok (.iadd, 1) := by decide +kernel
set_option maxRecDepth 100000 in
theorem d_212_2214 : decode (mB 212) 2214 = .ok (.iaload, 1) := by decide +kernel
set_option maxRecDepth 100000 in
theorem d_212_2215 : decode (mB 212) 2215 = .ok (.aload_n 3, 1) := by decide +kernel
set_option maxRecDepth 100000 in
theorem d_212_2216 : decode (mB 212) 2216 = .ok (.invokestatic 220, 3) := by decide +kernel
set_option maxRecDepth 100000 in
theorem d_212_2219 : decode (mB 212) 2219 = .ok (.istore 5, 2) := by decide +kernel
set_option maxRecDepth 100000 in
theorem d_212_2221 : decode (mB 212) 2221 = .ok (.aload_n 2, 1) := by decide +kernel
set_option maxRecDepth 100000 in
theorem d_212_2222 : decode (mB 212) 2222 = .ok (.aload_n 0, 1) := by decide +kernel
set_option maxRecDepth 100000 in
theorem d_212_2223 : decode (mB 212) 2223 = .ok (.iload 4, 2) := by decide +kernel
set_option maxRecDepth 100000 in
theorem d_212_2225 : decode (mB 212) 2225 = .ok (.iconst 1, 1) := by decide +kernel
set_option maxRecDepth 100000 in
theorem d_212_2226 : decode (mB 212) 2226 = .ok (.iadd, 1) := by decide +kernel
set_option maxRecDepth 100000 in
theorem d_212_2227 : decode (mB 212) 2227 = .ok (.iaload, 1) := by decide +kernel
set_option maxRecDepth 100000 in
theorem d_212_2228 : decode (mB 212) 2228 = .ok (.invokevirtual 222, 3) := by decide +kernel
set_option maxRecDepth 100000 in
theorem d_212_2231 : decode (mB 212) 2231 = .ok (.istore 6, 2) := by decide +kernel
set_option maxRecDepth 100000 in
theorem d_212_2233 : decode (mB 212) 2233 = .ok (.aload_n 2, 1) := by decide +kernel
set_option maxRecDepth 100000 in
theorem d_212_2234 : decode (mB 212) 2234 = .ok (.invokevirtual 126, 3) := by decide +kernel
set_option maxRecDepth 100000 in
theorem d_212_2237 : decode (mB 212) 2237 = .ok (.iload 5, 2) := by decide +kernel
set_option maxRecDepth 100000 in
theorem d_212_2239 : decode (mB 212) 2239 = .ok (.if_icmp .eq 5, 3) := by decide +kernel
set_option maxRecDepth 100000 in
theorem d_212_2244 : decode (mB 212) 2244 = .ok (.iload 5, 2) := by decide +kernel
set_option maxRecDepth 100000 in
theorem d_212_2246 : decode (mB 212) 2246 = .ok (.ifCond .ne 15, 3) := by decide +kernel
set_option maxRecDepth 100000 in
theorem d_212_2261 : decode (mB 212) 2261 = .ok (.goto 277, 3) := by decide +kernel
set_option maxRecDepth 100000 in
theorem d_212_2264 : decode (mB 212) 2264 = .ok (.aload_n 1, 1) := by decide +kernel
set_option maxRecDepth 100000 in
theorem d_212_2265 : decode (mB 212) 2265 = .ok (.aload_n 3, 1) := by decide +kernel
set_option maxRecDepth 100000 in
theorem d_212_2266 : decode (mB 212) 2266 = .ok (.invokestatic 223, 3) := by decide +kernel
set_option maxRecDepth 100000 in
theorem d_212_2269 : decode (mB 212) 2269 = .ok (.istore 5, 2) := by decide +kernel
set_option maxRecDepth 100000 in
theorem d_212_2271 : decode (mB 212) 2271 = .ok (.aload_n 2, 1) := by decide +kernel
set_option maxRecDepth 100000 in
theorem d_212_2272 : decode (mB 212) 2272 = .ok (.invokevirtual 226, 3) := by decide +kernel
set_option maxRecDepth 100000 in
theorem d_212_2275 : decode (mB 212) 2275 = .ok (.istore 6, 2) := by decide +kernel
set_option maxRecDepth 100000 in
theorem d_212_2277 : decode (mB 212) 2277 = .ok (.aload_n 2, 1) := by decide +kernel
set_option maxRecDepth 100000 in
theorem d_212_2278 : decode (mB 212) 2278 = .ok (.invokevirtual 126, 3) := by decide +kernel
set_option maxRecDepth 100000 in
theorem d_212_2281 : decode (mB 212) 2281 = .ok (.iload 5, 2) := by decide +kernel
set_option maxRecDepth 100000 in
theorem d_212_2283 : decode (mB 212) 2283 = .ok (.if_icmp .eq 5, 3) := by decide +kernel
set_option maxRecDepth 100000 in
theorem d_212_2288 : decode (mB 212) 2288 = .ok (.iload 5, 2) := by decide +kernel
set_option maxRecDepth 100000 in
theorem d_212_2290 : decode (mB 212) 2290 = .ok (.ifCond .ne 15, 3) := by decide +kernel
set_option maxRecDepth 100000 in
theorem d_212_2305 : decode (mB 212) 2305 = .ok (.goto 233, 3) := by decide +kernel
set_option maxRecDepth 100000 in
theorem d_212_2308 : decode (mB 212) 2308 = .ok (.aload_n 1, 1) := by decide +kernel
set_option maxRecDepth 100000 in
theorem d_212_2309 : decode (mB 212) 2309 = .ok (.aload_n 3, 1) := by decide +kernel
set_option maxRecDepth 100000 in
theorem d_212_2310 : decode (mB 212) 2310 = .ok (.invokestatic 227, 3) := by decide +kernel
set_option maxRecDepth 100000 in
theorem d_212_2313 : decode (mB 212) 2313 = .ok (.istore 5, 2) := by decide +kernel
set_option maxRecDepth 100000 in
theorem d_212_2315 : decode (mB 212) 2315 = .ok (.aload_n 2, 1) := by decide +kernel
set_option maxRecDepth 100000 in
theorem d_212_2316 : decode (mB 212) 2316 = .ok (.invokevirtual 229, 3) := by decide +kernel
set_option maxRecDepth 100000 in
theorem d_212_2319 : decode (mB 212) 2319 = .ok (.istore 6, 2) := by decide +kernel
set_option maxRecDepth 100000 in
theorem d_212_2321 : decode (mB 212) 2321 = .ok (.aload_n 2, 1) := by decide +kernel
set_option maxRecDepth 100000 in
theorem d_212_2322 : decode (mB 212) 2322 = .ok (.invokevirtual 126, 3) := by decide +kernel
set_option maxRecDepth 100000 in
theorem d_212_2325 : decode (mB 212) 2325 = .ok (.iload 5, 2) := by decide +kernel
set_option maxRecDepth 100000 in
theorem d_212_2327 : decode (mB 212) 2327 = .ok (.if_icmp .eq 5, 3) := by decide +kernel
set_option maxRecDepth 100000 in
theorem d_212_2332 : decode (mB 212) 2332 = .ok (.iload 5, 2) := by decide +kernel
set_option maxRecDepth 100000 in
theorem d_212_2334 : decode (mB 212) 2334 = .ok (.ifCond .ne 15, 3) := by decide +kernel
set_option maxRecDepth 100000 in
theorem d_212_2349 : decode (mB 212) 2349 = .ok (.goto 189, 3) := by decide +kernel
set_option maxRecDepth 100000 in
theorem d_212_2352 : decode (mB 212) 2352 = .ok (.aload_n 1, 1) := by decide +kernel
set_option maxRecDepth 100000 in
theorem d_212_2353 : decode (mB 212) 2353 = .ok (.aload_n 3, 1) := by decide +kernel
set_option maxRecDepth 100000 in
theorem d_212_2354 : decode (mB 212) 2354 = .ok (.invokestatic 230, 3) := by decide +kernel
set_option maxRecDepth 100000 in
theorem d_212_2357 : decode (mB 212) 2357 = .ok (.istore 5, 2) := by decide +kernel
set_option maxRecDepth 100000 in
theorem d_212_2359 : decode (mB 212) 2359 = .ok (.aload_n 2, 1) := by decide +kernel
set_option maxRecDepth 100000 in
theorem d_212_2360 : decode (mB 212) 2360 = .ok (.invokevirtual 232, 3) := by decide +kernel
set_option maxRecDepth 100000 in
theorem d_212_2363 : decode (mB 212) 2363 = .ok (.istore 6, 2) := by decide +kernel
set_option maxRecDepth 100000 in
theorem d_212_2365 : decode (mB 212) 2365 = .ok (.aload_n 2, 1) := by decide +kernel
set_option maxRecDepth 100000 in
theorem d_212_2366 : decode (mB 212) 2366 = .ok (.invokevirtual 126, 3) := by decide +kernel
set_option maxRecDepth 100000 in
theorem d_212_2369 : decode (mB 212) 2369 = .ok (.iload 5, 2) := by decide +kernel
set_option maxRecDepth 100000 in
theorem d_212_2371 : decode (mB 212) 2371 = .ok (.if_icmp .eq 5, 3) := by decide +kernel
set_option maxRecDepth 100000 in
theorem d_212_2376 : decode (mB 212) 2376 = .ok (.iload 5, 2) := by decide +kernel
set_option maxRecDepth 100000 in
theorem d_212_2378 : decode (mB 212) 2378 = .ok (.ifCond .ne 22, 3) := by decide +kernel
set_option maxRecDepth 100000 in
theorem d_212_2400 : decode (mB 212) 2400 = .ok (.goto 138, 3) := by decide +kernel
set_option maxRecDepth 100000 in
theorem d_212_2403 : decode (mB 212) 2403 = .ok (.aload_n 1, 1) := by decide +kernel
set_option maxRecDepth 100000 in
theorem d_212_2404 : decode (mB 212) 2404 = .ok (.aload_n 0, 1) := by decide +kernel
set_option maxRecDepth 100000 in
theorem d_212_2405 : decode (mB 212) 2405 = .ok (.iload 4, 2) := by decide +kernel
set_option maxRecDepth 100000 in
theorem d_212_2407 : decode (mB 212) 2407 = .ok (.iconst 1, 1) := by decide +kernel
set_option maxRecDepth 100000 in
theorem d_212_2408 : decode (mB 212) 2408 = .ok (.iadd, 1) := by decide +kernel
set_option maxRecDepth 100000 in
theorem d_212_2409 : decode (mB 212) 2409 = .ok (.iaload, 1) := by decide +kernel
set_option maxRecDepth 100000 in
theorem d_212_2410 : decode (mB 212) 2410 = .ok (.aload_n 0, 1) := by decide +kernel
set_option maxRecDepth 100000 in
theorem d_212_2411 : decode (mB 212) 2411 = .ok (.iload 4, 2) := by decide +kernel
set_option maxRecDepth 100000 in
theorem d_212_2413 : decode (mB 212) 2413 = .ok (.iconst 2, 1) := by decide +kernel
set_option maxRecDepth 100000 in
theorem d_212_2414 : decode (mB 212) 2414 = .ok (.iadd, 1) := by decide +kernel
set_option maxRecDepth 100000 in
theorem d_212_2415 : decode (mB 212) 2415 = .ok (.iaload, 1) := by decide +kernel
set_option maxRecDepth 100000 in
theorem d_212_2416 : decode (mB 212) 2416 = .ok (.aload_n 0, 1) := by decide +kernel
set_option maxRecDepth 100000 in
theorem d_212_2417 : decode (mB 212) 2417 = .ok (.iload 4, 2) := by decide +kernel
set_option maxRecDepth 100000 in
theorem d_212_2419 : decode (mB 212) 2419 = .ok (.iconst 3, 1) := by decide +kernel
set_option maxRecDepth 100000 in
theorem d_212_2420 : decode (mB 212) 2420 = .ok (.iadd, 1) := by decide +kernel
set_option maxRecDepth 100000 in
theorem d_212_2421 : decode (mB 212) 2421 = .ok (.iaload, 1) := by decide +kernel
set_option maxRecDepth 100000 in
theorem d_212_2422 : decode (mB 212) 2422 = .ok (.aload_n 3, 1) := by decide +kernel
set_option maxRecDepth 100000 in
theorem d_212_2423 : decode (mB 212) 2423 = .ok (.invokestatic 233, 3) := by decide +kernel
set_option maxRecDepth 100000 in
theorem d_212_2426 : decode (mB 212) 2426 = .ok (.istore 5, 2) := by decide +kernel
set_option maxRecDepth 100000 in
theorem d_212_2428 : decode (mB 212) 2428 = .ok (.aload_n 2, 1) := by decide +kernel
set_option maxRecDepth 100000 in
theorem d_212_2429 : decode (mB 212) 2429 = .ok (.aload_n 0, 1) := by decide +kernel
set_option maxRecDepth 100000 in
theorem d_212_2430 : decode (mB 212) 2430 = .ok (.iload 4, 2) := by decide +kernel
set_option maxRecDepth 100000 in
theorem d_212_2432 : decode (mB 212) 2432 = .ok (.iconst 1, 1) := by decide +kernel
set_option maxRecDepth 100000 in
theorem d_212_2433 : decode (mB 212) 2433 = .ok (.iadd, 1) := by decide +kernel
set_option maxRecDepth 100000 in
theorem d_212_2434 : decode (mB 212) 2434 = .ok (.iaload, 1) := by decide +kernel
set_option maxRecDepth 100000 in
theorem d_212_2435 : decode (mB 212) 2435 = .ok (.aload_n 0, 1) := by decide +kernel
set_option maxRecDepth 100000 in
theorem d_212_2436 : decode (mB 212) 2436 = .ok (.iload 4, 2) := by decide +kernel
set_option maxRecDepth 100000 in
theorem d_212_2438 : decode (mB 212) 2438 = .ok (.iconst 2, 1) := by decide +kernel
set_option maxRecDepth 100000 in
theorem d_212_2439 : decode (mB 212) 2439 = .ok (.iadd, 1) := by decide +kernel
set_option maxRecDepth 100000 in
theorem d_212_2440 : decode (mB 212) 2440 = .ok (.iaload, 1) := by decide +kernel
set_option maxRecDepth 100000 in
theorem d_212_2441 : decode (mB 212) 2441 = .ok (.aload_n 0, 1) := by decide +kernel
set_option maxRecDepth 100000 in
theorem d_212_2442 : decode (mB 212) 2442 = .ok (.iload 4, 2) := by decide +kernel
set_option maxRecDepth 100000 in
theorem d_212_2444 : decode (mB 212) 2444 = .ok (.iconst 3, 1) := by decide +kernel
set_option maxRecDepth 100000 in
theorem d_212_2445 : decode (mB 212) 2445 = .ok (.iadd, 1) := by decide +kernel
set_option maxRecDepth 100000 in
theorem d_212_2446 : decode (mB 212) 2446 = .ok (.iaload, 1) := by decide +kernel
set_option maxRecDepth 100000 in
theorem d_212_2447 : decode (mB 212) 2447 = .ok (.invokevirtual 235, 3) := by decide +kernel
set_option maxRecDepth 100000 in
theorem d_212_2450 : decode (mB 212) 2450 = .ok (.istore 6, 2) := by decide +kernel
set_option maxRecDepth 100000 in
theorem d_212_2452 : decode (mB 212) 2452 = .ok (.aload_n 2, 1) := by decide +kernel
set_option maxRecDepth 100000 in
theorem d_212_2453 : decode (mB 212) 2453 = .ok (.invokevirtual 126, 3) := by decide +kernel
set_option maxRecDepth 100000 in
theorem d_212_2456 : decode (mB 212) 2456 = .ok (.iload 5, 2) := by decide +kernel
set_option maxRecDepth 100000 in
theorem d_212_2458 : decode (mB 212) 2458 = .ok (.if_icmp .eq 5, 3) := by decide +kernel
set_option maxRecDepth 100000 in
theorem d_212_2463 : decode (mB 212) 2463 = .ok (.iload 5, 2) := by decide +kernel
set_option maxRecDepth 100000 in
theorem d_212_2465 : decode (mB 212) 2465 = .ok (.ifCond .ne 15, 3) := by decide +kernel
set_option maxRecDepth 100000 in
theorem d_212_2480 : decode (mB 212) 2480 = .ok (.goto 58, 3) := by decide +kernel
set_option maxRecDepth 100000 in
theorem d_212_2483 : decode (mB 212) 2483 = .ok (.aload_n 1, 1) := by decide +kernel
set_option maxRecDepth 100000 in
theorem d_212_2484 : decode (mB 212) 2484 = .ok (.invokevirtual 236, 3) := by decide +kernel
set_option maxRecDepth 100000 in
theorem d_212_2487 : decode (mB 212) 2487 = .ok (.dstore 5, 2) := by decide +kernel
set_option maxRecDepth 100000 in
theorem d_212_2489 : decode (mB 212) 2489 = .ok (.aload_n 2, 1) := by decide +kernel
set_option maxRecDepth 100000 in
theorem d_212_2490 : decode (mB 212) 2490 = .ok (.invokevirtual 240, 3) := by decide +kernel
set_option maxRecDepth 100000 in
theorem d_212_2493 : decode (mB 212) 2493 = .ok (.dstore 7, 2) := by decide +kernel
set_option maxRecDepth 100000 in
theorem d_212_2495 : decode (mB 212) 2495 = .ok (.dload 5, 2) := by decide +kernel
set_option maxRecDepth 100000 in
theorem d_212_2497 : decode (mB 212) 2497 = .ok (.dload 7, 2) := by decide +kernel
set_option maxRecDepth 100000 in
theorem d_212_2499 : decode (mB 212) 2499 = .ok (.dcmp .l, 1) := by decide +kernel
set_option maxRecDepth 100000 in
theorem d_212_2500 : decode (mB 212) 2500 = .ok (.ifCond .eq 21, 3) := by decide +kernel
set_option maxRecDepth 100000 in
theorem d_212_2521 : decode (mB 212) 2521 = .ok (.goto 17, 3) := by decide +kernel
set_option maxRecDepth 100000 in
theorem d_212_2524 : decode (mB 212) 2524 = .ok (.aload_n 1, 1) := by decide +kernel
set_option maxRecDepth 100000 in
theorem d_212_2525 : decode (mB 212) 2525 = .ok (.invokevirtual 241, 3) := by decide +kernel
set_option maxRecDepth 100000 in
theorem d_212_2528 : decode (mB 212) 2528 = .ok (.aload_n 2, 1) := by decide +kernel
set_option maxRecDepth 100000 in
theorem d_212_2529 : decode (mB 212) 2529 = .ok (.invokevirtual 245, 3) := by decide +kernel
set_option maxRecDepth 100000 in
theorem d_212_2532 : decode (mB 212) 2532 = .ok (.lcmp, 1) := by decide +kernel
set_option maxRecDepth 100000 in
theorem d_212_2533 : decode (mB 212) 2533 = .ok (.ifCond .eq 5, 3) := by decide +kernel
set_option maxRecDepth 100000 in
theorem d_212_2538 : decode (mB 212) 2538 = .ok (.iinc 4 5, 3) := by decide +kernel
set_option maxRecDepth 100000 in
theorem d_212_2541 : decode (mB 212) 2541 = .ok (.goto (-2518), 3) := by decide +kernel
set_option maxRecDepth 100000 in
theorem d_212_2544 : decode (mB 212) 2544 = .ok (.iconst 1, 1) := by decide +kernel
set_option maxRecDepth 100000 in
theorem d_212_2545 : decode (mB 212) 2545 = .ok (.ireturn, 1) := by decide +kernel
set_option maxRecDepth 100000 in
theorem ca_100 : okw (.arrayClass (AT 100)) := okk_w (k := 145) (by decide +kernel)
set_option maxRecDepth 100000 in
theorem ca_101 : okw (.arrayClass (AT 101)) := okk_w (k := 197) (by decide +kernel)
set_option maxRecDepth 100000 in
theorem ca_104 : okw (.arrayOver (AT 104)) := okk_w (k := 95) (by decide +kernel)
set_option maxRecDepth 100000 in
theorem ca_105 : okw (.arrayOver (AT 105)) := okk_w (k := 97) (by decide +kernel)
set_option maxRecDepth 100000 in
theorem ca_106 : okw (.arrayOver (AT 106)) := okk_w (k := 99) (by decide +kernel)
set_option maxRecDepth 100000 in
theorem ca_103 : okw (.arrayOver (AT 103)) := okk_w (k := 205) (by decide +kernel)
set_option maxRecDepth 100000 in
theorem ca_107 : okw (.arrayOver (AT 107)) := okk_w (k := 247) (by decide +kernel)
set_option maxRecDepth 100000 in
theorem co_code : okw (.instanceMethod Lib.objectInit) ∧ okw (.code Lib.objectInit ⟨#[0xb1]⟩ 1 none) := ⟨okk_w (k := 86) (by decide +kernel), okk_w (k := 87) (by decide +kernel)⟩
