/-! ===== rows of the law (its calls of addStop and latest) ===== -/
set_option maxRecDepth 100000 in
theorem c_181_7 : cvP 181 7 13 1 := ⟨cd_13, okk_w (k := 518) (by decide +kernel), okk_w (k := 519) (by decide +kernel), okk_w (k := 520) (by decide +kernel), by decide +kernel, by decide +kernel⟩
set_option maxRecDepth 100000 in
theorem d_181_0 : decode (mB 181) 0 = .ok (.aload_n 2, 1) := by decide +kernel
set_option maxRecDepth 100000 in
theorem d_181_1 : decode (mB 181) 1 = .ok (.iconst 0, 1) := by decide +kernel
set_option maxRecDepth 100000 in
theorem d_181_2 : decode (mB 181) 2 = .ok (.aload_n 0, 1) := by decide +kernel
set_option maxRecDepth 100000 in
theorem d_181_3 : decode (mB 181) 3 = .ok (.iload_n 1, 1) := by decide +kernel
set_option maxRecDepth 100000 in
theorem d_181_4 : decode (mB 181) 4 = .ok (.invokevirtual 7, 3) := by decide +kernel
set_option maxRecDepth 100000 in
theorem d_181_7 : decode (mB 181) 7 = .ok (.i2l, 1) := by decide +kernel
set_option maxRecDepth 100000 in
theorem d_181_8 : decode (mB 181) 8 = .ok (.lastore, 1) := by decide +kernel
set_option maxRecDepth 100000 in
theorem d_181_9 : decode (mB 181) 9 = .ok (.goto 9, 3) := by decide +kernel
set_option maxRecDepth 100000 in
theorem d_181_12 : decode (mB 181) 12 = .ok (.astore_n 3, 1) := by decide +kernel
set_option maxRecDepth 100000 in
theorem d_181_13 : decode (mB 181) 13 = .ok (.iconst 1, 1) := by decide +kernel
set_option maxRecDepth 100000 in
theorem d_181_14 : decode (mB 181) 14 = .ok (.ireturn, 1) := by decide +kernel
set_option maxRecDepth 100000 in
theorem d_181_15 : decode (mB 181) 15 = .ok (.astore_n 3, 1) := by decide +kernel
set_option maxRecDepth 100000 in
theorem d_181_16 : decode (mB 181) 16 = .ok (.iconst 2, 1) := by decide +kernel
set_option maxRecDepth 100000 in
theorem d_181_17 : decode (mB 181) 17 = .ok (.ireturn, 1) := by decide +kernel
set_option maxRecDepth 100000 in
theorem d_181_18 : decode (mB 181) 18 = .ok (.iconst 0, 1) := by decide +kernel
set_option maxRecDepth 100000 in
theorem d_181_19 : decode (mB 181) 19 = .ok (.ireturn, 1) := by decide +kernel
set_option maxRecDepth 100000 in
theorem c_201_81 : cvP 201 81 37 3 := ⟨cd_37, okk_w (k := 972) (by decide +kernel), okk_w (k := 973) (by decide +kernel), okk_w (k := 974) (by decide +kernel), by decide +kernel, by decide +kernel⟩
set_option maxRecDepth 100000 in
theorem d_201_0 : decode (mB 201) 0 = .ok (.aload 4, 2) := by decide +kernel
set_option maxRecDepth 100000 in
theorem d_201_2 : decode (mB 201) 2 = .ok (.iconst 0, 1) := by decide +kernel
set_option maxRecDepth 100000 in
theorem d_201_3 : decode (mB 201) 3 = .ok (.aload_n 0, 1) := by decide +kernel
set_option maxRecDepth 100000 in
theorem d_201_4 : decode (mB 201) 4 = .ok (.iload_n 1, 1) := by decide +kernel
set_option maxRecDepth 100000 in
theorem d_201_5 : decode (mB 201) 5 = .ok (.iload_n 2, 1) := by decide +kernel
set_option maxRecDepth 100000 in
theorem d_201_6 : decode (mB 201) 6 = .ok (.iload_n 3, 1) := by decide +kernel
set_option maxRecDepth 100000 in
theorem d_201_7 : decode (mB 201) 7 = .ok (.invokevirtual 81, 3) := by decide +kernel
set_option maxRecDepth 100000 in
theorem d_201_10 : decode (mB 201) 10 = .ok (.i2l, 1) := by decide +kernel
set_option maxRecDepth 100000 in
theorem d_201_11 : decode (mB 201) 11 = .ok (.lastore, 1) := by decide +kernel
set_option maxRecDepth 100000 in
theorem d_201_12 : decode (mB 201) 12 = .ok (.goto 11, 3) := by decide +kernel
set_option maxRecDepth 100000 in
theorem d_201_15 : decode (mB 201) 15 = .ok (.astore 5, 2) := by decide +kernel
set_option maxRecDepth 100000 in
theorem d_201_17 : decode (mB 201) 17 = .ok (.iconst 1, 1) := by decide +kernel
set_option maxRecDepth 100000 in
theorem d_201_18 : decode (mB 201) 18 = .ok (.ireturn, 1) := by decide +kernel
set_option maxRecDepth 100000 in
theorem d_201_19 : decode (mB 201) 19 = .ok (.astore 5, 2) := by decide +kernel
set_option maxRecDepth 100000 in
theorem d_201_21 : decode (mB 201) 21 = .ok (.iconst 2, 1) := by decide +kernel
set_option maxRecDepth 100000 in
theorem d_201_22 : decode (mB 201) 22 = .ok (.ireturn, 1) := by decide +kernel
set_option maxRecDepth 100000 in
theorem d_201_23 : decode (mB 201) 23 = .ok (.iconst 0, 1) := by decide +kernel
set_option maxRecDepth 100000 in
theorem d_201_24 : decode (mB 201) 24 = .ok (.ireturn, 1) := by decide +kernel
set_option maxRecDepth 100000 in
theorem cl_13_8 : okw (.classLink "WhistleStopLaw" 8 "WhistleStop") := okk_w (k := 80) (by decide +kernel)
set_option maxRecDepth 100000 in
theorem c_212_116 : ciP 212 116 0 0 := ⟨cd_0, okk_w (k := 82) (by decide +kernel), okk_w (k := 83) (by decide +kernel), by decide +kernel, by decide +kernel, by decide +kernel⟩
set_option maxRecDepth 100000 in
theorem cl_13_117 : okw (.classLink "WhistleStopLaw" 117 "WhistleStopModel") := okk_w (k := 1124) (by decide +kernel)
set_option maxRecDepth 100000 in
theorem c_212_119 : ciP 212 119 49 0 := ⟨cd_49, okk_w (k := 1126) (by decide +kernel), okk_w (k := 1127) (by decide +kernel), by decide +kernel, by decide +kernel, by decide +kernel⟩
set_option maxRecDepth 100000 in
theorem c_212_125 : cvP 212 125 51 1 := ⟨cd_51, okk_w (k := 1253) (by decide +kernel), okk_w (k := 1254) (by decide +kernel), okk_w (k := 1255) (by decide +kernel), by decide +kernel, by decide +kernel⟩
set_option maxRecDepth 100000 in
theorem c_212_126 : cvP 212 126 50 0 := ⟨cd_50, okk_w (k := 1249) (by decide +kernel), okk_w (k := 1250) (by decide +kernel), okk_w (k := 1251) (by decide +kernel), by decide +kernel, by decide +kernel⟩
set_option maxRecDepth 100000 in
theorem c_212_200 : cvP 212 200 96 3 := ⟨cd_96, okk_w (k := 1434) (by decide +kernel), okk_w (k := 1435) (by decide +kernel), okk_w (k := 1436) (by decide +kernel), by decide +kernel, by decide +kernel⟩
set_option maxRecDepth 100000 in
theorem d_212_0 : decode (mB 212) 0 = .ok (.new 8, 3) := by decide +kernel
set_option maxRecDepth 100000 in
theorem d_212_3 : decode (mB 212) 3 = .ok (.dup, 1) := by decide +kernel
set_option maxRecDepth 100000 in
theorem d_212_4 : decode (mB 212) 4 = .ok (.invokespecial 116, 3) := by decide +kernel
set_option maxRecDepth 100000 in
theorem d_212_7 : decode (mB 212) 7 = .ok (.astore_n 1, 1) := by decide +kernel
set_option maxRecDepth 100000 in
theorem d_212_8 : decode (mB 212) 8 = .ok (.new 117, 3) := by decide +kernel
set_option maxRecDepth 100000 in
theorem d_212_11 : decode (mB 212) 11 = .ok (.dup, 1) := by decide +kernel
set_option maxRecDepth 100000 in
theorem d_212_12 : decode (mB 212) 12 = .ok (.invokespecial 119, 3) := by decide +kernel
set_option maxRecDepth 100000 in
theorem d_212_15 : decode (mB 212) 15 = .ok (.astore_n 2, 1) := by decide +kernel
set_option maxRecDepth 100000 in
theorem d_212_16 : decode (mB 212) 16 = .ok (.iconst 1, 1) := by decide +kernel
set_option maxRecDepth 100000 in
theorem d_212_17 : decode (mB 212) 17 = .ok (.newarray .long, 2) := by decide +kernel
set_option maxRecDepth 100000 in
theorem d_212_19 : decode (mB 212) 19 = .ok (.astore_n 3, 1) := by decide +kernel
set_option maxRecDepth 100000 in
theorem d_212_20 : decode (mB 212) 20 = .ok (.iconst 0, 1) := by decide +kernel
set_option maxRecDepth 100000 in
theorem d_212_21 : decode (mB 212) 21 = .ok (.istore 4, 2) := by decide +kernel
set_option maxRecDepth 100000 in
theorem d_212_23 : decode (mB 212) 23 = .ok (.iload 4, 2) := by decide +kernel
set_option maxRecDepth 100000 in
theorem d_212_25 : decode (mB 212) 25 = .ok (.aload_n 0, 1) := by decide +kernel
set_option maxRecDepth 100000 in
theorem d_212_26 : decode (mB 212) 26 = .ok (.arraylength, 1) := by decide +kernel
set_option maxRecDepth 100000 in
theorem d_212_27 : decode (mB 212) 27 = .ok (.iconst 5, 1) := by decide +kernel
set_option maxRecDepth 100000 in
theorem d_212_28 : decode (mB 212) 28 = .ok (.isub, 1) := by decide +kernel
set_option maxRecDepth 100000 in
theorem d_212_29 : decode (mB 212) 29 = .ok (.if_icmp .gt 2515, 3) := by decide +kernel
set_option maxRecDepth 100000 in
theorem d_212_32 : decode (mB 212) 32 = .ok (.aload_n 0, 1) := by decide +kernel
set_option maxRecDepth 100000 in
theorem d_212_33 : decode (mB 212) 33 = .ok (.iload 4, 2) := by decide +kernel
set_option maxRecDepth 100000 in
theorem d_212_35 : decode (mB 212) 35 = .ok (.iaload, 1) := by decide +kernel
set_option maxRecDepth 100000 in
theorem d_212_36 : decode (mB 212) 36 = .ok (.bipush 63, 2) := by decide +kernel
set_option maxRecDepth 100000 in
theorem d_212_38 : decode (mB 212) 38 = .ok (.iand, 1) := by decide +kernel
set_option maxRecDepth 100000 in
theorem d_212_39 : decode (mB 212) 39 = .ok (.tableswitch 2499 0 35 #[157, 213, 281, 361, 441, 544, 619, 711, 803, 816, 829, 885, 953, 1033, 1108, 1176, 1244, 1324, 1404, 1484, 1576, 1656, 1748, 1828, 1908, 1988, 2001, 2057, 2113, 2169, 2225, 2269, 2313, 2364, 2444, 2485], 157) := by decide +kernel
set_option maxRecDepth 100000 in
theorem d_212_196 : decode (mB 212) 196 = .ok (.aload_n 1, 1) := by decide +kernel
set_option maxRecDepth 100000 in
theorem d_212_197 : decode (mB 212) 197 = .ok (.aload_n 0, 1) := by decide +kernel
set_option maxRecDepth 100000 in
theorem d_212_198 : decode (mB 212) 198 = .ok (.iload 4, 2) := by decide +kernel
set_option maxRecDepth 100000 in
theorem d_212_200 : decode (mB 212) 200 = .ok (.iconst 1, 1) := by decide +kernel
set_option maxRecDepth 100000 in
theorem d_212_201 : decode (mB 212) 201 = .ok (.iadd, 1) := by decide +kernel
set_option maxRecDepth 100000 in
theorem d_212_202 : decode (mB 212) 202 = .ok (.iaload, 1) := by decide +kernel
set_option maxRecDepth 100000 in
theorem d_212_203 : decode (mB 212) 203 = .ok (.aload_n 3, 1) := by decide +kernel
set_option maxRecDepth 100000 in
theorem d_212_204 : decode (mB 212) 204 = .ok (.invokestatic 120, 3) := by decide +kernel
set_option maxRecDepth 100000 in
theorem d_212_207 : decode (mB 212) 207 = .ok (.istore 5, 2) := by decide +kernel
set_option maxRecDepth 100000 in
theorem d_212_209 : decode (mB 212) 209 = .ok (.aload_n 2, 1) := by decide +kernel
set_option maxRecDepth 100000 in
theorem d_212_210 : decode (mB 212) 210 = .ok (.aload_n 0, 1) := by decide +kernel
set_option maxRecDepth 100000 in
theorem d_212_211 : decode (mB 212) 211 = .ok (.iload 4, 2) := by decide +kernel
set_option maxRecDepth 100000 in
theorem d_212_213 : decode (mB 212) 213 = .ok (.iconst 1, 1) := by decide +kernel
set_option maxRecDepth 100000 in
theorem d_212_214 : decode (mB 212) 214 = .ok (.iadd, 1) := by decide +kernel
set_option maxRecDepth 100000 in
theorem d_212_215 : decode (mB 212) 215 = .ok (.iaload, 1) := by decide +kernel
set_option maxRecDepth 100000 in
theorem d_212_216 : decode (mB 212) 216 = .ok (.invokevirtual 125, 3) := by decide +kernel
set_option maxRecDepth 100000 in
theorem d_212_219 : decode (mB 212) 219 = .ok (.istore 6, 2) := by decide +kernel
set_option maxRecDepth 100000 in
theorem d_212_221 : decode (mB 212) 221 = .ok (.aload_n 2, 1) := by decide +kernel
set_option maxRecDepth 100000 in
theorem d_212_222 : decode (mB 212) 222 = .ok (.invokevirtual 126, 3) := by decide +kernel
set_option maxRecDepth 100000 in
theorem d_212_225 : decode (mB 212) 225 = .ok (.iload 5, 2) := by decide +kernel
set_option maxRecDepth 100000 in
theorem d_212_227 : decode (mB 212) 227 = .ok (.if_icmp .eq 5, 3) := by decide +kernel
set_option maxRecDepth 100000 in
theorem d_212_230 : decode (mB 212) 230 = .ok (.iconst 0, 1) := by decide +kernel
set_option maxRecDepth 100000 in
theorem d_212_231 : decode (mB 212) 231 = .ok (.ireturn, 1) := by decide +kernel
set_option maxRecDepth 100000 in
theorem d_212_232 : decode (mB 212) 232 = .ok (.iload 5, 2) := by decide +kernel
set_option maxRecDepth 100000 in
theorem d_212_234 : decode (mB 212) 234 = .ok (.ifCond .ne 15, 3) := by decide +kernel
set_option maxRecDepth 100000 in
theorem d_212_237 : decode (mB 212) 237 = .ok (.aload_n 3, 1) := by decide +kernel
set_option maxRecDepth 100000 in
theorem d_212_238 : decode (mB 212) 238 = .ok (.iconst 0, 1) := by decide +kernel
set_option maxRecDepth 100000 in
theorem d_212_239 : decode (mB 212) 239 = .ok (.laload, 1) := by decide +kernel
set_option maxRecDepth 100000 in
theorem d_212_240 : decode (mB 212) 240 = .ok (.iload 6, 2) := by decide +kernel
set_option maxRecDepth 100000 in
theorem d_212_242 : decode (mB 212) 242 = .ok (.i2l, 1) := by decide +kernel
set_option maxRecDepth 100000 in
theorem d_212_243 : decode (mB 212) 243 = .ok (.lcmp, 1) := by decide +kernel
set_option maxRecDepth 100000 in
theorem d_212_244 : decode (mB 212) 244 = .ok (.ifCond .eq 5, 3) := by decide +kernel
set_option maxRecDepth 100000 in
theorem d_212_247 : decode (mB 212) 247 = .ok (.iconst 0, 1) := by decide +kernel
set_option maxRecDepth 100000 in
theorem d_212_248 : decode (mB 212) 248 = .ok (.ireturn, 1) := by decide +kernel
set_option maxRecDepth 100000 in
theorem d_212_249 : decode (mB 212) 249 = .ok (.goto 2289, 3) := by decide +kernel
set_option maxRecDepth 100000 in
theorem d_212_1787 : decode (mB 212) 1787 = .ok (.aload_n 1, 1) := by decide +kernel
set_option maxRecDepth 100000 in
theorem d_212_1788 : decode (mB 212) 1788 = .ok (.aload_n 0, 1) := by decide +kernel
set_option maxRecDepth 100000 in
theorem d_212_1789 : decode (mB 212) 1789 = .ok (.iload 4, 2) := by decide +kernel
set_option maxRecDepth 100000 in
theorem d_212_1791 : decode (mB 212) 1791 = .ok (.iconst 1, 1) := by decide +kernel
set_option maxRecDepth 100000 in
theorem d_212_1792 : decode (mB 212) 1792 = .ok (.iadd, 1) := by decide +kernel
set_option maxRecDepth 100000 in
theorem d_212_1793 : decode (mB 212) 1793 = .ok (.iaload, 1) := by decide +kernel
set_option maxRecDepth 100000 in
theorem d_212_1794 : decode (mB 212) 1794 = .ok (.aload_n 0, 1) := by decide +kernel
set_option maxRecDepth 100000 in
theorem d_212_1795 : decode (mB 212) 1795 = .ok (.iload 4, 2) := by decide +kernel
set_option maxRecDepth 100000 in
theorem d_212_1797 : decode (mB 212) 1797 = .ok (.iconst 2, 1) := by decide +kernel
set_option maxRecDepth 100000 in
theorem d_212_1798 : decode (mB 212) 1798 = .ok (.iadd, 1) := by decide +kernel
set_option maxRecDepth 100000 in
theorem d_212_1799 : decode (mB 212) 1799 = .ok (.iaload, 1) := by decide +kernel
set_option maxRecDepth 100000 in
theorem d_212_1800 : decode (mB 212) 1800 = .ok (.aload_n 0, 1) := by decide +kernel
set_option maxRecDepth 100000 in
theorem d_212_1801 : decode (mB 212) 1801 = .ok (.iload 4, 2) := by decide +kernel
set_option maxRecDepth 100000 in
theorem d_212_1803 : decode (mB 212) 1803 = .ok (.iconst 3, 1) := by decide +kernel
set_option maxRecDepth 100000 in
theorem d_212_1804 : decode (mB 212) 1804 = .ok (.iadd, 1) := by decide +kernel
set_option maxRecDepth 100000 in
theorem d_212_1805 : decode (mB 212) 1805 = .ok (.iaload, 1) := by decide +kernel
set_option maxRecDepth 100000 in
theorem d_212_1806 : decode (mB 212) 1806 = .ok (.aload_n 3, 1) := by decide +kernel
set_option maxRecDepth 100000 in
theorem d_212_1807 : decode (mB 212) 1807 = .ok (.invokestatic 198, 3) := by decide +kernel
set_option maxRecDepth 100000 in
theorem d_212_1810 : decode (mB 212) 1810 = .ok (.istore 5, 2) := by decide +kernel
set_option maxRecDepth 100000 in
theorem d_212_1812 : decode (mB 212) 1812 = .ok (.aload_n 2, 1) := by decide +kernel
set_option maxRecDepth 100000 in
theorem d_212_1813 : decode (mB 212) 1813 = .ok (.aload_n 0, 1) := by decide +kernel
set_option maxRecDepth 100000 in
theorem d_212_1814 : decode (mB 212) 1814 = .ok (.iload 4, 2) := by decide +kernel
set_option maxRecDepth 100000 in
theorem d_212_1816 : decode (mB 212) 1816 = .ok (.iconst 1, 1) := by decide +kernel
set_option maxRecDepth 100000 in
theorem d_212_1817 : decode (mB 212) 1817 = .ok (.iadd, 1) := by decide +kernel
set_option maxRecDepth 100000 in
theorem d_212_1818 : decode (mB 212) 1818 = .ok (.iaload, 1) := by decide +kernel
set_option maxRecDepth 100000 in
theorem d_212_1819 : decode (mB 212) 1819 = .ok (.aload_n 0, 1) := by decide +kernel
set_option maxRecDepth 100000 in
theorem d_212_1820 : decode (mB 212) 1820 = .ok (.iload 4, 2) := by decide +kernel
set_option maxRecDepth 100000 in
theorem d_212_1822 : decode (mB 212) 1822 = .ok (.iconst 2, 1) := by decide +kernel
set_option maxRecDepth 100000 in
theorem d_212_1823 : decode (mB 212) 1823 = .ok (.iadd, 1) := by decide +kernel
set_option maxRecDepth 100000 in
theorem d_212_1824 : decode (mB 212) 1824 = .ok (.iaload, 1) := by decide +kernel
set_option maxRecDepth 100000 in
theorem d_212_1825 : decode (mB 212) 1825 = .ok (.aload_n 0, 1) := by decide +kernel
set_option maxRecDepth 100000 in
theorem d_212_1826 : decode (mB 212) 1826 = .ok (.iload 4, 2) := by decide +kernel
set_option maxRecDepth 100000 in
theorem d_212_1828 : decode (mB 212) 1828 = .ok (.iconst 3, 1) := by decide +kernel
set_option maxRecDepth 100000 in
theorem d_212_1829 : decode (mB 212) 1829 = .ok (.iadd, 1) := by decide +kernel
set_option maxRecDepth 100000 in
theorem d_212_1830 : decode (mB 212) 1830 = .ok (.iaload, 1) := by decide +kernel
set_option maxRecDepth 100000 in
theorem d_212_1831 : decode (mB 212) 1831 = .ok (.invokevirtual 200, 3) := by decide +kernel
set_option maxRecDepth 100000 in
theorem d_212_1834 : decode (mB 212) 1834 = .ok (.istore 6, 2) := by decide +kernel
set_option maxRecDepth 100000 in
theorem d_212_1836 : decode (mB 212) 1836 = .ok (.aload_n 2, 1) := by decide +kernel
set_option maxRecDepth 100000 in
theorem d_212_1837 : decode (mB 212) 1837 = .ok (.invokevirtual 126, 3) := by decide +kernel
set_option maxRecDepth 100000 in
theorem d_212_1840 : decode (mB 212) 1840 = .ok (.iload 5, 2) := by decide +kernel
set_option maxRecDepth 100000 in
theorem d_212_1842 : decode (mB 212) 1842 = .ok (.if_icmp .eq 5, 3) := by decide +kernel
set_option maxRecDepth 100000 in
theorem d_212_1845 : decode (mB 212) 1845 = .ok (.iconst 0, 1) := by decide +kernel
set_option maxRecDepth 100000 in
theorem d_212_1846 : decode (mB 212) 1846 = .ok (.ireturn, 1) := by decide +kernel
set_option maxRecDepth 100000 in
theorem d_212_1847 : decode (mB 212) 1847 = .ok (.iload 5, 2) := by decide +kernel
set_option maxRecDepth 100000 in
theorem d_212_1849 : decode (mB 212) 1849 = .ok (.ifCond .ne 15, 3) := by decide +kernel
set_option maxRecDepth 100000 in
theorem d_212_1852 : decode (mB 212) 1852 = .ok (.aload_n 3, 1) := by decide +kernel
set_option maxRecDepth 100000 in
theorem d_212_1853 : decode (mB 212) 1853 = .ok (.iconst 0, 1) := by decide +kernel
set_option maxRecDepth 100000 in
theorem d_212_1854 : decode (mB 212) 1854 = .ok (.laload, 1) := by decide +kernel
set_option maxRecDepth 100000 in
theorem d_212_1855 : decode (mB 212) 1855 = .ok (.iload 6, 2) := by decide +kernel
set_option maxRecDepth 100000 in
theorem d_212_1857 : decode (mB 212) 1857 = .ok (.i2l, 1) := by decide +kernel
set_option maxRecDepth 100000 in
theorem d_212_1858 : decode (mB 212) 1858 = .ok (.lcmp, 1) := by decide +kernel
set_option maxRecDepth 100000 in
theorem d_212_1859 : decode (mB 212) 1859 = .ok (.ifCond .eq 5, 3) := by decide +kernel
set_option maxRecDepth 100000 in
theorem d_212_1862 : decode (mB 212) 1862 = .ok (.iconst 0, 1) := by decide +kernel
set_option maxRecDepth 100000 in
theorem d_212_1863 : decode (mB 212) 1863 = .ok (.ireturn, 1) := by decide +kernel
set_option maxRecDepth 100000 in
theorem d_212_1864 : decode (mB 212) 1864 = .ok (.goto 674, 3) := by decide +kernel
set_option maxRecDepth 100000 in
theorem d_212_2538 : decode (mB 212) 2538 = .ok (.iinc 4 5, 3) := by decide +kernel
set_option maxRecDepth 100000 in
theorem d_212_2541 : decode (mB 212) 2541 = .ok (.goto (-2518), 3) := by decide +kernel
set_option maxRecDepth 100000 in
theorem d_212_2544 : decode (mB 212) 2544 = .ok (.iconst 1, 1) := by decide +kernel
set_option maxRecDepth 100000 in
theorem d_212_2545 : decode (mB 212) 2545 = .ok (.ireturn, 1) := by decide +kernel
set_option maxRecDepth 100000 in
theorem cw_212_120 : cswP 212 120 181 3 [((0 : Nat), (9 : Nat), (12 : Nat), (13 : Nat)), ((0 : Nat), (9 : Nat), (15 : Nat), (15 : Nat))] := ⟨okk_w (k := 515) (by decide +kernel), rfl, by decide +kernel, by decide +kernel, okk_w (k := 57) (by decide +kernel), okk_w (k := 513) (by decide +kernel), okk_w (k := 514) (by decide +kernel), by decide +kernel, by decide +kernel⟩
set_option maxRecDepth 100000 in
theorem cw_212_198 : cswP 212 198 201 5 [((0 : Nat), (12 : Nat), (15 : Nat), (21 : Nat)), ((0 : Nat), (12 : Nat), (19 : Nat), (13 : Nat))] := ⟨okk_w (k := 971) (by decide +kernel), rfl, by decide +kernel, by decide +kernel, okk_w (k := 57) (by decide +kernel), okk_w (k := 969) (by decide +kernel), okk_w (k := 970) (by decide +kernel), by decide +kernel, by decide +kernel⟩
/-! more instructions -/
abbrev inL (x : Int) : Prop := -9223372036854775808 ≤ x ∧ x ≤ 9223372036854775807
theorem l_toInt {x : Int} (h : inL x) : (Int64.ofInt x).toInt = x := Int64.toInt_ofInt_of_le (by omega) (by omega)
theorem l_lt {x y : Int} (hx : inL x) (hy : inL y) : Int64.ofInt x < Int64.ofInt y ↔ x < y := by rw [Int64.lt_iff_toInt_lt, l_toInt hx, l_toInt hy]
theorem l_eq {x y : Int} (hx : inL x) (hy : inL y) : Int64.ofInt x = Int64.ofInt y ↔ x = y := by rw [← Int64.toInt_inj, l_toInt hx, l_toInt hy]
section HF
variable {p : Program} {l : Launch} {e : Env} {R : Room} {s : State} {m : MethodId} {args : Array Value} {below : List Frame} {meth : Method} {c : Code} {H : Heap} {locs : List Loc} {cells slots : Nat} {Q : State → Prop}
theorem lv_lcmp {cc : ByteArray} {pc : Nat} {ls : Array Slot} {rest : List Value} (hexec : p.tables.exec = Jvm.exec) (hb : c.code = cc) {x y : Int64} (hdg : decode cc pc = .ok (.lcmp, 1))
    (k : W p l e R s m args below meth c H locs cells slots Q (F0 m (pc + 1) ls (.int (if x > y then 1 else if x == y then 0 else -1) :: rest))) : W p l e R s m args below meth c H locs cells slots Q (F0 m pc ls (.long y :: .long x :: rest)) := by
  intro T hT X
  obtain ⟨t, a, b⟩ := k T hT X
  refine ⟨t, ?_, b⟩
  jvm_step X.here [X.here.top, hexec, hb, hdg]
  by_cases h1 : x > y
  · simp only [h1, if_true] at a ⊢
    exact a
  · by_cases h2 : x = y
    · simp [h2] at a ⊢
      exact a
    · simp [h1, h2] at a ⊢
      exact a
end HF
section HG
variable {i pc : Nat} {ls : List (Option AV)} {st : List AV} {h : Hp} {Q : Option AV → Hp → Prop} {X : String → Hp → Prop}
theorem wp_lcmp {x y : Int} (hd : decode (mB i) pc = .ok (.lcmp, 1)) (hx : inL x) (hy : inL y) (k : wp i (pc + 1) ls (vI (if y < x then 1 else if x = y then 0 else -1) :: st) h Q X) : wp i pc ls (vL y :: vL x :: st) h Q X := by
  intro D DA B0 CN CS p l e R s m args below meth c H locs ls' hfl hE
  have kk := k D DA B0 CN CS p l e R s m args below meth c H locs ls' hfl hE
  have ev : Int32.ofInt (if y < x then 1 else if x = y then 0 else -1) = (if Int64.ofInt x > Int64.ofInt y then 1 else if Int64.ofInt x == Int64.ofInt y then 0 else -1) := by
    by_cases h1 : y < x
    · rw [if_pos h1, if_pos ((l_lt hy hx).mpr h1)]
      rfl
    · rw [if_neg h1, if_neg (fun z => h1 ((l_lt hy hx).mp z))]
      by_cases h2 : x = y
      · rw [if_pos h2, if_pos (by simp [h2])]
        rfl
      · rw [if_neg h2, if_neg (by simpa using fun z => h2 ((l_eq hx hy).mp z))]
        rfl
  refine lv_lcmp hE.1.1 hE.1.2.1 hd ?_
  rw [← ev]
  exact kk
theorem wp_table {dflt lo hi : Int} {offs : Array Int} {len : Nat} {x : Int} {off : Int} {tgt : Nat} (hd : decode (mB i) pc = .ok (.tableswitch dflt lo hi offs, len)) (hx : inR x) (h1 : lo ≤ x) (h2 : x ≤ hi) (ho : offs[(x - lo).toNat]? = some off) (ht : (pc : Int) + off = (tgt : Int)) (k : wp i tgt ls st h Q X) : wp i pc ls (vI x :: st) h Q X := by
  intro D DA B0 CN CS p l e R s m args below meth c H locs ls' hfl hE
  have kk := k D DA B0 CN CS p l e R s m args below meth c H locs ls' hfl hE
  have e1 := i_toInt hx
  exact lv_tableIn hE.1.1 hE.1.2.1 hd (by rw [e1]; omega) (by rw [e1]; omega) (by rw [e1]; exact ho) ht kk
theorem wp_tableOut {dflt lo hi : Int} {offs : Array Int} {len : Nat} {x : Int} {tgt : Nat} (hd : decode (mB i) pc = .ok (.tableswitch dflt lo hi offs, len)) (hx : inR x) (h1 : x < lo ∨ hi < x) (ht : (pc : Int) + dflt = (tgt : Int)) (k : wp i tgt ls st h Q X) : wp i pc ls (vI x :: st) h Q X := by
  intro D DA B0 CN CS p l e R s m args below meth c H locs ls' hfl hE
  have kk := k D DA B0 CN CS p l e R s m args below meth c H locs ls' hfl hE
  have e1 := i_toInt hx
  exact lv_tableOut hE.1.1 hE.1.2.1 hd (by rw [e1]; exact h1) ht kk
end HG
