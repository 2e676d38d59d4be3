set_option maxRecDepth 100000 in
theorem cd_35 : cdP 35 := ⟨okr (k := 945) rfl (by decide +kernel), by decide +kernel, by decide +kernel, okk_w (k := 32) (by decide +kernel)⟩
set_option maxRecDepth 100000 in
theorem cd_36 : cdP 36 := ⟨okr (k := 1009) rfl (by decide +kernel), by decide +kernel, by decide +kernel, okk_w (k := 32) (by decide +kernel)⟩
set_option maxRecDepth 100000 in
theorem cd_37 : cdP 37 := ⟨okr (k := 1014) rfl (by decide +kernel), by decide +kernel, by decide +kernel, okk_w (k := 32) (by decide +kernel)⟩
set_option maxRecDepth 100000 in
theorem fl_12_90 : flP "WhistleStopLaw$Table" 90 12 3 := ⟨_, rfl, by decide, okk_w (k := 799) (by decide +kernel)⟩
set_option maxRecDepth 100000 in
theorem c_104_69 : cvP 104 69 100 1 := ⟨cd_100, okk_w (k := 865) (by decide +kernel), okk_w (k := 850) (by decide +kernel), okk_w (k := 851) (by decide +kernel), by decide +kernel, by decide +kernel⟩
set_option maxRecDepth 100000 in
theorem c_104_93 : csP 104 93 111 2 := ⟨cd_111, okk_w (k := 941) (by decide +kernel), okk_w (k := 180) (by decide +kernel), by decide +kernel, by decide +kernel⟩
set_option maxRecDepth 100000 in
theorem c_104_98 : cvP 104 98 35 4 := ⟨cd_35, okk_w (k := 942) (by decide +kernel), okk_w (k := 943) (by decide +kernel), okk_w (k := 944) (by decide +kernel), by decide +kernel, by decide +kernel⟩
set_option maxRecDepth 100000 in
theorem c_104_102 : cvP 104 102 36 4 := ⟨cd_36, okk_w (k := 1006) (by decide +kernel), okk_w (k := 1007) (by decide +kernel), okk_w (k := 1008) (by decide +kernel), by decide +kernel, by decide +kernel⟩
set_option maxRecDepth 100000 in
theorem c_104_105 : cvP 104 105 37 1 := ⟨cd_37, okk_w (k := 1011) (by decide +kernel), okk_w (k := 1012) (by decide +kernel), okk_w (k := 1013) (by decide +kernel), by decide +kernel, by decide +kernel⟩
set_option maxRecDepth 100000 in
theorem d_104_83 : decode (mB 104) 83 = .ok (.iload_n 3, 1) := by decide +kernel
set_option maxRecDepth 100000 in
theorem d_104_84 : decode (mB 104) 84 = .ok (.aload_n 0, 1) := by decide +kernel
set_option maxRecDepth 100000 in
theorem d_104_85 : decode (mB 104) 85 = .ok (.getfield 36, 3) := by decide +kernel
set_option maxRecDepth 100000 in
theorem d_104_88 : decode (mB 104) 88 = .ok (.iload_n 1, 1) := by decide +kernel
set_option maxRecDepth 100000 in
theorem d_104_89 : decode (mB 104) 89 = .ok (.iaload, 1) := by decide +kernel
set_option maxRecDepth 100000 in
theorem d_104_90 : decode (mB 104) 90 = .ok (.if_icmp .ge 175, 3) := by decide +kernel
set_option maxRecDepth 100000 in
theorem d_104_93 : decode (mB 104) 93 = .ok (.aload_n 0, 1) := by decide +kernel
set_option maxRecDepth 100000 in
theorem d_104_94 : decode (mB 104) 94 = .ok (.getfield 40, 3) := by decide +kernel
set_option maxRecDepth 100000 in
theorem d_104_97 : decode (mB 104) 97 = .ok (.iload_n 1, 1) := by decide +kernel
set_option maxRecDepth 100000 in
theorem d_104_98 : decode (mB 104) 98 = .ok (.aaload, 1) := by decide +kernel
set_option maxRecDepth 100000 in
theorem d_104_99 : decode (mB 104) 99 = .ok (.iload_n 3, 1) := by decide +kernel
set_option maxRecDepth 100000 in
theorem d_104_100 : decode (mB 104) 100 = .ok (.aload_n 0, 1) := by decide +kernel
set_option maxRecDepth 100000 in
theorem d_104_101 : decode (mB 104) 101 = .ok (.aload_n 0, 1) := by decide +kernel
set_option maxRecDepth 100000 in
theorem d_104_102 : decode (mB 104) 102 = .ok (.getfield 90, 3) := by decide +kernel
set_option maxRecDepth 100000 in
theorem d_104_105 : decode (mB 104) 105 = .ok (.invokevirtual 69, 3) := by decide +kernel
set_option maxRecDepth 100000 in
theorem d_104_108 : decode (mB 104) 108 = .ok (.iastore, 1) := by decide +kernel
set_option maxRecDepth 100000 in
theorem d_104_109 : decode (mB 104) 109 = .ok (.aload_n 0, 1) := by decide +kernel
set_option maxRecDepth 100000 in
theorem d_104_110 : decode (mB 104) 110 = .ok (.getfield 43, 3) := by decide +kernel
set_option maxRecDepth 100000 in
theorem d_104_113 : decode (mB 104) 113 = .ok (.iload_n 1, 1) := by decide +kernel
set_option maxRecDepth 100000 in
theorem d_104_114 : decode (mB 104) 114 = .ok (.aaload, 1) := by decide +kernel
set_option maxRecDepth 100000 in
theorem d_104_115 : decode (mB 104) 115 = .ok (.iload_n 3, 1) := by decide +kernel
set_option maxRecDepth 100000 in
theorem d_104_116 : decode (mB 104) 116 = .ok (.iload_n 2, 1) := by decide +kernel
set_option maxRecDepth 100000 in
theorem d_104_117 : decode (mB 104) 117 = .ok (.iastore, 1) := by decide +kernel
set_option maxRecDepth 100000 in
theorem d_104_118 : decode (mB 104) 118 = .ok (.iload_n 3, 1) := by decide +kernel
set_option maxRecDepth 100000 in
theorem d_104_119 : decode (mB 104) 119 = .ok (.ifCond .le 17, 3) := by decide +kernel
set_option maxRecDepth 100000 in
theorem d_104_122 : decode (mB 104) 122 = .ok (.sipush 2879, 3) := by decide +kernel
set_option maxRecDepth 100000 in
theorem d_104_125 : decode (mB 104) 125 = .ok (.iload_n 2, 1) := by decide +kernel
set_option maxRecDepth 100000 in
theorem d_104_126 : decode (mB 104) 126 = .ok (.aload_n 0, 1) := by decide +kernel
set_option maxRecDepth 100000 in
theorem d_104_127 : decode (mB 104) 127 = .ok (.iconst 4, 1) := by decide +kernel
set_option maxRecDepth 100000 in
theorem d_104_128 : decode (mB 104) 128 = .ok (.invokevirtual 69, 3) := by decide +kernel
set_option maxRecDepth 100000 in
theorem d_104_131 : decode (mB 104) 131 = .ok (.iadd, 1) := by decide +kernel
set_option maxRecDepth 100000 in
theorem d_104_132 : decode (mB 104) 132 = .ok (.invokestatic 93, 3) := by decide +kernel
set_option maxRecDepth 100000 in
theorem d_104_135 : decode (mB 104) 135 = .ok (.istore_n 2, 1) := by decide +kernel
set_option maxRecDepth 100000 in
theorem d_104_136 : decode (mB 104) 136 = .ok (.aload_n 0, 1) := by decide +kernel
set_option maxRecDepth 100000 in
theorem d_104_137 : decode (mB 104) 137 = .ok (.getfield 46, 3) := by decide +kernel
set_option maxRecDepth 100000 in
theorem d_104_140 : decode (mB 104) 140 = .ok (.iload_n 1, 1) := by decide +kernel
set_option maxRecDepth 100000 in
theorem d_104_141 : decode (mB 104) 141 = .ok (.aaload, 1) := by decide +kernel
set_option maxRecDepth 100000 in
theorem d_104_142 : decode (mB 104) 142 = .ok (.iload_n 3, 1) := by decide +kernel
set_option maxRecDepth 100000 in
theorem d_104_143 : decode (mB 104) 143 = .ok (.iload_n 2, 1) := by decide +kernel
set_option maxRecDepth 100000 in
theorem d_104_144 : decode (mB 104) 144 = .ok (.iastore, 1) := by decide +kernel
set_option maxRecDepth 100000 in
theorem d_104_145 : decode (mB 104) 145 = .ok (.sipush 2879, 3) := by decide +kernel
set_option maxRecDepth 100000 in
theorem d_104_148 : decode (mB 104) 148 = .ok (.iload_n 2, 1) := by decide +kernel
set_option maxRecDepth 100000 in
theorem d_104_149 : decode (mB 104) 149 = .ok (.aload_n 0, 1) := by decide +kernel
set_option maxRecDepth 100000 in
theorem d_104_150 : decode (mB 104) 150 = .ok (.iconst 5, 1) := by decide +kernel
set_option maxRecDepth 100000 in
theorem d_104_151 : decode (mB 104) 151 = .ok (.invokevirtual 69, 3) := by decide +kernel
set_option maxRecDepth 100000 in
theorem d_104_154 : decode (mB 104) 154 = .ok (.ifCond .ne 7, 3) := by decide +kernel
set_option maxRecDepth 100000 in
theorem d_104_157 : decode (mB 104) 157 = .ok (.iconst 0, 1) := by decide +kernel
set_option maxRecDepth 100000 in
theorem d_104_158 : decode (mB 104) 158 = .ok (.goto 11, 3) := by decide +kernel
set_option maxRecDepth 100000 in
theorem d_104_161 : decode (mB 104) 161 = .ok (.iconst 3, 1) := by decide +kernel
set_option maxRecDepth 100000 in
theorem d_104_162 : decode (mB 104) 162 = .ok (.aload_n 0, 1) := by decide +kernel
set_option maxRecDepth 100000 in
theorem d_104_163 : decode (mB 104) 163 = .ok (.bipush 90, 2) := by decide +kernel
set_option maxRecDepth 100000 in
theorem d_104_165 : decode (mB 104) 165 = .ok (.invokevirtual 69, 3) := by decide +kernel
set_option maxRecDepth 100000 in
theorem d_104_168 : decode (mB 104) 168 = .ok (.iadd, 1) := by decide +kernel
set_option maxRecDepth 100000 in
theorem d_104_169 : decode (mB 104) 169 = .ok (.iadd, 1) := by decide +kernel
set_option maxRecDepth 100000 in
theorem d_104_170 : decode (mB 104) 170 = .ok (.invokestatic 93, 3) := by decide +kernel
set_option maxRecDepth 100000 in
theorem d_104_173 : decode (mB 104) 173 = .ok (.istore_n 2, 1) := by decide +kernel
set_option maxRecDepth 100000 in
theorem d_104_174 : decode (mB 104) 174 = .ok (.iload_n 3, 1) := by decide +kernel
set_option maxRecDepth 100000 in
theorem d_104_175 : decode (mB 104) 175 = .ok (.ifCond .ne 42, 3) := by decide +kernel
set_option maxRecDepth 100000 in
theorem d_104_178 : decode (mB 104) 178 = .ok (.aload_n 0, 1) := by decide +kernel
set_option maxRecDepth 100000 in
theorem d_104_179 : decode (mB 104) 179 = .ok (.getfield 10, 3) := by decide +kernel
set_option maxRecDepth 100000 in
theorem d_104_182 : decode (mB 104) 182 = .ok (.aload_n 0, 1) := by decide +kernel
set_option maxRecDepth 100000 in
theorem d_104_183 : decode (mB 104) 183 = .ok (.getfield 30, 3) := by decide +kernel
set_option maxRecDepth 100000 in
theorem d_104_186 : decode (mB 104) 186 = .ok (.iload_n 1, 1) := by decide +kernel
set_option maxRecDepth 100000 in
theorem d_104_187 : decode (mB 104) 187 = .ok (.iaload, 1) := by decide +kernel
set_option maxRecDepth 100000 in
theorem d_104_188 : decode (mB 104) 188 = .ok (.aload_n 0, 1) := by decide +kernel
set_option maxRecDepth 100000 in
theorem d_104_189 : decode (mB 104) 189 = .ok (.getfield 33, 3) := by decide +kernel
set_option maxRecDepth 100000 in
theorem d_104_192 : decode (mB 104) 192 = .ok (.iload_n 1, 1) := by decide +kernel
set_option maxRecDepth 100000 in
theorem d_104_193 : decode (mB 104) 193 = .ok (.iaload, 1) := by decide +kernel
set_option maxRecDepth 100000 in
theorem d_104_194 : decode (mB 104) 194 = .ok (.aload_n 0, 1) := by decide +kernel
set_option maxRecDepth 100000 in
theorem d_104_195 : decode (mB 104) 195 = .ok (.getfield 40, 3) := by decide +kernel
set_option maxRecDepth 100000 in
theorem d_104_198 : decode (mB 104) 198 = .ok (.iload_n 1, 1) := by decide +kernel
set_option maxRecDepth 100000 in
theorem d_104_199 : decode (mB 104) 199 = .ok (.aaload, 1) := by decide +kernel
set_option maxRecDepth 100000 in
theorem d_104_200 : decode (mB 104) 200 = .ok (.iconst 0, 1) := by decide +kernel
set_option maxRecDepth 100000 in
theorem d_104_201 : decode (mB 104) 201 = .ok (.iaload, 1) := by decide +kernel
set_option maxRecDepth 100000 in
theorem d_104_202 : decode (mB 104) 202 = .ok (.aload_n 0, 1) := by decide +kernel
set_option maxRecDepth 100000 in
theorem d_104_203 : decode (mB 104) 203 = .ok (.getfield 46, 3) := by decide +kernel
set_option maxRecDepth 100000 in
theorem d_104_206 : decode (mB 104) 206 = .ok (.iload_n 1, 1) := by decide +kernel
set_option maxRecDepth 100000 in
theorem d_104_207 : decode (mB 104) 207 = .ok (.aaload, 1) := by decide +kernel
set_option maxRecDepth 100000 in
theorem d_104_208 : decode (mB 104) 208 = .ok (.iconst 0, 1) := by decide +kernel
set_option maxRecDepth 100000 in
theorem d_104_209 : decode (mB 104) 209 = .ok (.iaload, 1) := by decide +kernel
set_option maxRecDepth 100000 in
theorem d_104_210 : decode (mB 104) 210 = .ok (.invokevirtual 98, 3) := by decide +kernel
set_option maxRecDepth 100000 in
theorem d_104_213 : decode (mB 104) 213 = .ok (.iload_n 1, 1) := by decide +kernel
set_option maxRecDepth 100000 in
theorem d_104_214 : decode (mB 104) 214 = .ok (.if_icmp .ne 43, 3) := by decide +kernel
set_option maxRecDepth 100000 in
theorem d_104_217 : decode (mB 104) 217 = .ok (.iload_n 3, 1) := by decide +kernel
set_option maxRecDepth 100000 in
theorem d_104_218 : decode (mB 104) 218 = .ok (.ifCond .le 41, 3) := by decide +kernel
set_option maxRecDepth 100000 in
theorem d_104_221 : decode (mB 104) 221 = .ok (.aload_n 0, 1) := by decide +kernel
set_option maxRecDepth 100000 in
theorem d_104_222 : decode (mB 104) 222 = .ok (.getfield 10, 3) := by decide +kernel
set_option maxRecDepth 100000 in
theorem d_104_225 : decode (mB 104) 225 = .ok (.iload_n 1, 1) := by decide +kernel
set_option maxRecDepth 100000 in
theorem d_104_226 : decode (mB 104) 226 = .ok (.aload_n 0, 1) := by decide +kernel
set_option maxRecDepth 100000 in
theorem d_104_227 : decode (mB 104) 227 = .ok (.getfield 40, 3) := by decide +kernel
set_option maxRecDepth 100000 in
theorem d_104_230 : decode (mB 104) 230 = .ok (.iload_n 1, 1) := by decide +kernel
set_option maxRecDepth 100000 in
theorem d_104_231 : decode (mB 104) 231 = .ok (.aaload, 1) := by decide +kernel
set_option maxRecDepth 100000 in
theorem d_104_232 : decode (mB 104) 232 = .ok (.iload_n 3, 1) := by decide +kernel
set_option maxRecDepth 100000 in
theorem d_104_233 : decode (mB 104) 233 = .ok (.iaload, 1) := by decide +kernel
set_option maxRecDepth 100000 in
theorem d_104_234 : decode (mB 104) 234 = .ok (.aload_n 0, 1) := by decide +kernel
set_option maxRecDepth 100000 in
theorem d_104_235 : decode (mB 104) 235 = .ok (.getfield 43, 3) := by decide +kernel
set_option maxRecDepth 100000 in
theorem d_104_238 : decode (mB 104) 238 = .ok (.iload_n 1, 1) := by decide +kernel
set_option maxRecDepth 100000 in
theorem d_104_239 : decode (mB 104) 239 = .ok (.aaload, 1) := by decide +kernel
set_option maxRecDepth 100000 in
theorem d_104_240 : decode (mB 104) 240 = .ok (.iload_n 3, 1) := by decide +kernel
set_option maxRecDepth 100000 in
theorem d_104_241 : decode (mB 104) 241 = .ok (.iaload, 1) := by decide +kernel
set_option maxRecDepth 100000 in
theorem d_104_242 : decode (mB 104) 242 = .ok (.aload_n 0, 1) := by decide +kernel
set_option maxRecDepth 100000 in
theorem d_104_243 : decode (mB 104) 243 = .ok (.getfield 46, 3) := by decide +kernel
set_option maxRecDepth 100000 in
theorem d_104_246 : decode (mB 104) 246 = .ok (.iload_n 1, 1) := by decide +kernel
set_option maxRecDepth 100000 in
theorem d_104_247 : decode (mB 104) 247 = .ok (.aaload, 1) := by decide +kernel
set_option maxRecDepth 100000 in
theorem d_104_248 : decode (mB 104) 248 = .ok (.iload_n 3, 1) := by decide +kernel
set_option maxRecDepth 100000 in
theorem d_104_249 : decode (mB 104) 249 = .ok (.iaload, 1) := by decide +kernel
set_option maxRecDepth 100000 in
theorem d_104_250 : decode (mB 104) 250 = .ok (.invokevirtual 102, 3) := by decide +kernel
set_option maxRecDepth 100000 in
theorem d_104_253 : decode (mB 104) 253 = .ok (.iload_n 3, 1) := by decide +kernel
set_option maxRecDepth 100000 in
theorem d_104_254 : decode (mB 104) 254 = .ok (.if_icmp .eq 5, 3) := by decide +kernel
set_option maxRecDepth 100000 in
theorem d_104_259 : decode (mB 104) 259 = .ok (.iinc 3 1, 3) := by decide +kernel
set_option maxRecDepth 100000 in
theorem d_104_262 : decode (mB 104) 262 = .ok (.goto (-179), 3) := by decide +kernel
set_option maxRecDepth 100000 in
theorem d_104_265 : decode (mB 104) 265 = .ok (.aload_n 0, 1) := by decide +kernel
set_option maxRecDepth 100000 in
theorem d_104_266 : decode (mB 104) 266 = .ok (.getfield 10, 3) := by decide +kernel
set_option maxRecDepth 100000 in
theorem d_104_269 : decode (mB 104) 269 = .ok (.iload_n 1, 1) := by decide +kernel
set_option maxRecDepth 100000 in
theorem d_104_270 : decode (mB 104) 270 = .ok (.invokevirtual 105, 3) := by decide +kernel
set_option maxRecDepth 100000 in
theorem d_104_273 : decode (mB 104) 273 = .ok (.aload_n 0, 1) := by decide +kernel
set_option maxRecDepth 100000 in
theorem d_104_274 : decode (mB 104) 274 = .ok (.getfield 36, 3) := by decide +kernel
set_option maxRecDepth 100000 in
theorem d_104_277 : decode (mB 104) 277 = .ok (.iload_n 1, 1) := by decide +kernel
set_option maxRecDepth 100000 in
theorem d_104_278 : decode (mB 104) 278 = .ok (.iaload, 1) := by decide +kernel
set_option maxRecDepth 100000 in
theorem d_104_279 : decode (mB 104) 279 = .ok (.if_icmp .ne 7, 3) := by decide +kernel
set_option maxRecDepth 100000 in
theorem d_104_282 : decode (mB 104) 282 = .ok (.iconst 1, 1) := by decide +kernel
set_option maxRecDepth 100000 in
theorem d_104_283 : decode (mB 104) 283 = .ok (.goto 4, 3) := by decide +kernel
set_option maxRecDepth 100000 in
theorem d_104_287 : decode (mB 104) 287 = .ok (.ireturn, 1) := by decide +kernel
