set_option maxRecDepth 100000 in
theorem cd_0 : cdP 0 := ⟨okr (k := 56) rfl (by decide +kernel), by decide +kernel, by decide +kernel, okk_w (k := 32) (by decide +kernel)⟩
set_option maxRecDepth 100000 in
theorem cd_8 : cdP 8 := ⟨okr (k := 251) rfl (by decide +kernel), by decide +kernel, by decide +kernel, okk_w (k := 32) (by decide +kernel)⟩
set_option maxRecDepth 100000 in
theorem cd_9 : cdP 9 := ⟨okr (k := 255) rfl (by decide +kernel), by decide +kernel, by decide +kernel, okk_w (k := 32) (by decide +kernel)⟩
set_option maxRecDepth 100000 in
theorem cd_11 : cdP 11 := ⟨okr (k := 333) rfl (by decide +kernel), by decide +kernel, by decide +kernel, okk_w (k := 32) (by decide +kernel)⟩
set_option maxRecDepth 100000 in
theorem c_108_22 : cvP 108 22 100 1 := ⟨cd_100, okk_w (k := 849) (by decide +kernel), okk_w (k := 850) (by decide +kernel), okk_w (k := 851) (by decide +kernel), by decide +kernel, by decide +kernel⟩
set_option maxRecDepth 100000 in
theorem c_108_47 : cvP 108 47 8 4 := ⟨cd_8, okk_w (k := 248) (by decide +kernel), okk_w (k := 249) (by decide +kernel), okk_w (k := 250) (by decide +kernel), by decide +kernel, by decide +kernel⟩
set_option maxRecDepth 100000 in
theorem c_108_51 : cvP 108 51 0 3 := ⟨cd_0, okk_w (k := 53) (by decide +kernel), okk_w (k := 54) (by decide +kernel), okk_w (k := 55) (by decide +kernel), by decide +kernel, by decide +kernel⟩
set_option maxRecDepth 100000 in
theorem c_108_54 : cvP 108 54 9 3 := ⟨cd_9, okk_w (k := 252) (by decide +kernel), okk_w (k := 253) (by decide +kernel), okk_w (k := 254) (by decide +kernel), by decide +kernel, by decide +kernel⟩
set_option maxRecDepth 100000 in
theorem c_108_57 : cvP 108 57 11 3 := ⟨cd_11, okk_w (k := 330) (by decide +kernel), okk_w (k := 331) (by decide +kernel), okk_w (k := 332) (by decide +kernel), by decide +kernel, by decide +kernel⟩
set_option maxRecDepth 100000 in
theorem d_108_133 : decode (mB 108) 133 = .ok (.iload 12, 2) := by decide +kernel
set_option maxRecDepth 100000 in
theorem d_108_135 : decode (mB 108) 135 = .ok (.bipush 6, 2) := by decide +kernel
set_option maxRecDepth 100000 in
theorem d_108_137 : decode (mB 108) 137 = .ok (.if_icmp .gt 58, 3) := by decide +kernel
set_option maxRecDepth 100000 in
theorem d_108_140 : decode (mB 108) 140 = .ok (.aload_n 3, 1) := by decide +kernel
set_option maxRecDepth 100000 in
theorem d_108_141 : decode (mB 108) 141 = .ok (.iload 5, 2) := by decide +kernel
set_option maxRecDepth 100000 in
theorem d_108_143 : decode (mB 108) 143 = .ok (.iload 6, 2) := by decide +kernel
set_option maxRecDepth 100000 in
theorem d_108_145 : decode (mB 108) 145 = .ok (.iload 7, 2) := by decide +kernel
set_option maxRecDepth 100000 in
theorem d_108_147 : decode (mB 108) 147 = .ok (.iload 12, 2) := by decide +kernel
set_option maxRecDepth 100000 in
theorem d_108_149 : decode (mB 108) 149 = .ok (.invokevirtual 47, 3) := by decide +kernel
set_option maxRecDepth 100000 in
theorem d_108_152 : decode (mB 108) 152 = .ok (.istore 13, 2) := by decide +kernel
set_option maxRecDepth 100000 in
theorem d_108_154 : decode (mB 108) 154 = .ok (.iload 13, 2) := by decide +kernel
set_option maxRecDepth 100000 in
theorem d_108_156 : decode (mB 108) 156 = .ok (.ifCond .lt 10, 3) := by decide +kernel
set_option maxRecDepth 100000 in
theorem d_108_159 : decode (mB 108) 159 = .ok (.iload 13, 2) := by decide +kernel
set_option maxRecDepth 100000 in
theorem d_108_161 : decode (mB 108) 161 = .ok (.iload 7, 2) := by decide +kernel
set_option maxRecDepth 100000 in
theorem d_108_163 : decode (mB 108) 163 = .ok (.if_icmp .lt 20, 3) := by decide +kernel
set_option maxRecDepth 100000 in
theorem d_108_166 : decode (mB 108) 166 = .ok (.iload 11, 2) := by decide +kernel
set_option maxRecDepth 100000 in
theorem d_108_168 : decode (mB 108) 168 = .ok (.ifCond .lt 17, 3) := by decide +kernel
set_option maxRecDepth 100000 in
theorem d_108_171 : decode (mB 108) 171 = .ok (.iload 13, 2) := by decide +kernel
set_option maxRecDepth 100000 in
theorem d_108_173 : decode (mB 108) 173 = .ok (.ifCond .lt 10, 3) := by decide +kernel
set_option maxRecDepth 100000 in
theorem d_108_176 : decode (mB 108) 176 = .ok (.iload 13, 2) := by decide +kernel
set_option maxRecDepth 100000 in
theorem d_108_178 : decode (mB 108) 178 = .ok (.iload 11, 2) := by decide +kernel
set_option maxRecDepth 100000 in
theorem d_108_180 : decode (mB 108) 180 = .ok (.if_icmp .le 5, 3) := by decide +kernel
set_option maxRecDepth 100000 in
theorem d_108_185 : decode (mB 108) 185 = .ok (.iload 13, 2) := by decide +kernel
set_option maxRecDepth 100000 in
theorem d_108_187 : decode (mB 108) 187 = .ok (.istore 11, 2) := by decide +kernel
set_option maxRecDepth 100000 in
theorem d_108_189 : decode (mB 108) 189 = .ok (.iinc 12 1, 3) := by decide +kernel
set_option maxRecDepth 100000 in
theorem d_108_192 : decode (mB 108) 192 = .ok (.goto (-59), 3) := by decide +kernel
set_option maxRecDepth 100000 in
theorem d_108_195 : decode (mB 108) 195 = .ok (.aload_n 3, 1) := by decide +kernel
set_option maxRecDepth 100000 in
theorem d_108_196 : decode (mB 108) 196 = .ok (.iload 5, 2) := by decide +kernel
set_option maxRecDepth 100000 in
theorem d_108_198 : decode (mB 108) 198 = .ok (.iload 6, 2) := by decide +kernel
set_option maxRecDepth 100000 in
theorem d_108_200 : decode (mB 108) 200 = .ok (.iload 7, 2) := by decide +kernel
set_option maxRecDepth 100000 in
theorem d_108_202 : decode (mB 108) 202 = .ok (.invokevirtual 51, 3) := by decide +kernel
set_option maxRecDepth 100000 in
theorem d_108_205 : decode (mB 108) 205 = .ok (.istore 12, 2) := by decide +kernel
set_option maxRecDepth 100000 in
theorem d_108_207 : decode (mB 108) 207 = .ok (.iload 12, 2) := by decide +kernel
set_option maxRecDepth 100000 in
theorem d_108_209 : decode (mB 108) 209 = .ok (.iload 11, 2) := by decide +kernel
set_option maxRecDepth 100000 in
theorem d_108_211 : decode (mB 108) 211 = .ok (.if_icmp .ne 68, 3) := by decide +kernel
set_option maxRecDepth 100000 in
theorem d_108_214 : decode (mB 108) 214 = .ok (.iload 12, 2) := by decide +kernel
set_option maxRecDepth 100000 in
theorem d_108_216 : decode (mB 108) 216 = .ok (.iload 7, 2) := by decide +kernel
set_option maxRecDepth 100000 in
theorem d_108_218 : decode (mB 108) 218 = .ok (.sipush 2880, 3) := by decide +kernel
set_option maxRecDepth 100000 in
theorem d_108_221 : decode (mB 108) 221 = .ok (.iadd, 1) := by decide +kernel
set_option maxRecDepth 100000 in
theorem d_108_222 : decode (mB 108) 222 = .ok (.if_icmp .gt 57, 3) := by decide +kernel
set_option maxRecDepth 100000 in
theorem d_108_225 : decode (mB 108) 225 = .ok (.iload 8, 2) := by decide +kernel
set_option maxRecDepth 100000 in
theorem d_108_227 : decode (mB 108) 227 = .ok (.ifCond .lt 7, 3) := by decide +kernel
set_option maxRecDepth 100000 in
theorem d_108_230 : decode (mB 108) 230 = .ok (.iconst 1, 1) := by decide +kernel
set_option maxRecDepth 100000 in
theorem d_108_231 : decode (mB 108) 231 = .ok (.goto 4, 3) := by decide +kernel
set_option maxRecDepth 100000 in
theorem d_108_234 : decode (mB 108) 234 = .ok (.iconst 0, 1) := by decide +kernel
set_option maxRecDepth 100000 in
theorem d_108_235 : decode (mB 108) 235 = .ok (.iload 12, 2) := by decide +kernel
set_option maxRecDepth 100000 in
theorem d_108_237 : decode (mB 108) 237 = .ok (.ifCond .lt 7, 3) := by decide +kernel
set_option maxRecDepth 100000 in
theorem d_108_240 : decode (mB 108) 240 = .ok (.iconst 1, 1) := by decide +kernel
set_option maxRecDepth 100000 in
theorem d_108_241 : decode (mB 108) 241 = .ok (.goto 4, 3) := by decide +kernel
set_option maxRecDepth 100000 in
theorem d_108_244 : decode (mB 108) 244 = .ok (.iconst 0, 1) := by decide +kernel
set_option maxRecDepth 100000 in
theorem d_108_245 : decode (mB 108) 245 = .ok (.if_icmp .ne 34, 3) := by decide +kernel
set_option maxRecDepth 100000 in
theorem d_108_248 : decode (mB 108) 248 = .ok (.aload_n 3, 1) := by decide +kernel
set_option maxRecDepth 100000 in
theorem d_108_249 : decode (mB 108) 249 = .ok (.iload 5, 2) := by decide +kernel
set_option maxRecDepth 100000 in
theorem d_108_251 : decode (mB 108) 251 = .ok (.iload 6, 2) := by decide +kernel
set_option maxRecDepth 100000 in
theorem d_108_253 : decode (mB 108) 253 = .ok (.iload 7, 2) := by decide +kernel
set_option maxRecDepth 100000 in
theorem d_108_255 : decode (mB 108) 255 = .ok (.invokevirtual 54, 3) := by decide +kernel
set_option maxRecDepth 100000 in
theorem d_108_258 : decode (mB 108) 258 = .ok (.ifCond .lt 7, 3) := by decide +kernel
set_option maxRecDepth 100000 in
theorem d_108_261 : decode (mB 108) 261 = .ok (.iconst 1, 1) := by decide +kernel
set_option maxRecDepth 100000 in
theorem d_108_262 : decode (mB 108) 262 = .ok (.goto 4, 3) := by decide +kernel
set_option maxRecDepth 100000 in
theorem d_108_265 : decode (mB 108) 265 = .ok (.iconst 0, 1) := by decide +kernel
set_option maxRecDepth 100000 in
theorem d_108_266 : decode (mB 108) 266 = .ok (.iload 12, 2) := by decide +kernel
set_option maxRecDepth 100000 in
theorem d_108_268 : decode (mB 108) 268 = .ok (.ifCond .lt 7, 3) := by decide +kernel
set_option maxRecDepth 100000 in
theorem d_108_271 : decode (mB 108) 271 = .ok (.iconst 1, 1) := by decide +kernel
set_option maxRecDepth 100000 in
theorem d_108_272 : decode (mB 108) 272 = .ok (.goto 4, 3) := by decide +kernel
set_option maxRecDepth 100000 in
theorem d_108_275 : decode (mB 108) 275 = .ok (.iconst 0, 1) := by decide +kernel
set_option maxRecDepth 100000 in
theorem d_108_276 : decode (mB 108) 276 = .ok (.if_icmp .eq 5, 3) := by decide +kernel
set_option maxRecDepth 100000 in
theorem d_108_281 : decode (mB 108) 281 = .ok (.iload 7, 2) := by decide +kernel
set_option maxRecDepth 100000 in
theorem d_108_283 : decode (mB 108) 283 = .ok (.iconst 1, 1) := by decide +kernel
set_option maxRecDepth 100000 in
theorem d_108_284 : decode (mB 108) 284 = .ok (.iadd, 1) := by decide +kernel
set_option maxRecDepth 100000 in
theorem d_108_285 : decode (mB 108) 285 = .ok (.aload_n 2, 1) := by decide +kernel
set_option maxRecDepth 100000 in
theorem d_108_286 : decode (mB 108) 286 = .ok (.sipush 300, 3) := by decide +kernel
set_option maxRecDepth 100000 in
theorem d_108_289 : decode (mB 108) 289 = .ok (.invokevirtual 22, 3) := by decide +kernel
set_option maxRecDepth 100000 in
theorem d_108_292 : decode (mB 108) 292 = .ok (.iadd, 1) := by decide +kernel
set_option maxRecDepth 100000 in
theorem d_108_293 : decode (mB 108) 293 = .ok (.istore 13, 2) := by decide +kernel
set_option maxRecDepth 100000 in
theorem d_108_295 : decode (mB 108) 295 = .ok (.aload_n 3, 1) := by decide +kernel
set_option maxRecDepth 100000 in
theorem d_108_296 : decode (mB 108) 296 = .ok (.iload 5, 2) := by decide +kernel
set_option maxRecDepth 100000 in
theorem d_108_298 : decode (mB 108) 298 = .ok (.iload 6, 2) := by decide +kernel
set_option maxRecDepth 100000 in
theorem d_108_300 : decode (mB 108) 300 = .ok (.iload 13, 2) := by decide +kernel
set_option maxRecDepth 100000 in
theorem d_108_302 : decode (mB 108) 302 = .ok (.invokevirtual 51, 3) := by decide +kernel
set_option maxRecDepth 100000 in
theorem d_108_305 : decode (mB 108) 305 = .ok (.istore 14, 2) := by decide +kernel
set_option maxRecDepth 100000 in
theorem d_108_307 : decode (mB 108) 307 = .ok (.iload 12, 2) := by decide +kernel
set_option maxRecDepth 100000 in
theorem d_108_309 : decode (mB 108) 309 = .ok (.ifCond .lt 17, 3) := by decide +kernel
set_option maxRecDepth 100000 in
theorem d_108_312 : decode (mB 108) 312 = .ok (.iload 14, 2) := by decide +kernel
set_option maxRecDepth 100000 in
theorem d_108_314 : decode (mB 108) 314 = .ok (.ifCond .lt 12, 3) := by decide +kernel
set_option maxRecDepth 100000 in
theorem d_108_317 : decode (mB 108) 317 = .ok (.iload 14, 2) := by decide +kernel
set_option maxRecDepth 100000 in
theorem d_108_319 : decode (mB 108) 319 = .ok (.iload 12, 2) := by decide +kernel
set_option maxRecDepth 100000 in
theorem d_108_321 : decode (mB 108) 321 = .ok (.if_icmp .ge 5, 3) := by decide +kernel
set_option maxRecDepth 100000 in
theorem d_108_326 : decode (mB 108) 326 = .ok (.aload_n 3, 1) := by decide +kernel
set_option maxRecDepth 100000 in
theorem d_108_327 : decode (mB 108) 327 = .ok (.iload 5, 2) := by decide +kernel
set_option maxRecDepth 100000 in
theorem d_108_329 : decode (mB 108) 329 = .ok (.iload 6, 2) := by decide +kernel
set_option maxRecDepth 100000 in
theorem d_108_331 : decode (mB 108) 331 = .ok (.iload 13, 2) := by decide +kernel
set_option maxRecDepth 100000 in
theorem d_108_333 : decode (mB 108) 333 = .ok (.invokevirtual 57, 3) := by decide +kernel
set_option maxRecDepth 100000 in
theorem d_108_336 : decode (mB 108) 336 = .ok (.istore 15, 2) := by decide +kernel
set_option maxRecDepth 100000 in
theorem d_108_338 : decode (mB 108) 338 = .ok (.iload 15, 2) := by decide +kernel
set_option maxRecDepth 100000 in
theorem d_108_340 : decode (mB 108) 340 = .ok (.ifCond .lt 31, 3) := by decide +kernel
set_option maxRecDepth 100000 in
theorem d_108_343 : decode (mB 108) 343 = .ok (.aload_n 3, 1) := by decide +kernel
set_option maxRecDepth 100000 in
theorem d_108_344 : decode (mB 108) 344 = .ok (.iload 5, 2) := by decide +kernel
set_option maxRecDepth 100000 in
theorem d_108_346 : decode (mB 108) 346 = .ok (.iload 6, 2) := by decide +kernel
set_option maxRecDepth 100000 in
theorem d_108_348 : decode (mB 108) 348 = .ok (.iload 15, 2) := by decide +kernel
set_option maxRecDepth 100000 in
theorem d_108_350 : decode (mB 108) 350 = .ok (.invokevirtual 51, 3) := by decide +kernel
set_option maxRecDepth 100000 in
theorem d_108_353 : decode (mB 108) 353 = .ok (.ifCond .lt 37, 3) := by decide +kernel
set_option maxRecDepth 100000 in
theorem d_108_356 : decode (mB 108) 356 = .ok (.aload_n 3, 1) := by decide +kernel
set_option maxRecDepth 100000 in
theorem d_108_357 : decode (mB 108) 357 = .ok (.iload 5, 2) := by decide +kernel
set_option maxRecDepth 100000 in
theorem d_108_359 : decode (mB 108) 359 = .ok (.iload 6, 2) := by decide +kernel
set_option maxRecDepth 100000 in
theorem d_108_361 : decode (mB 108) 361 = .ok (.iload 15, 2) := by decide +kernel
set_option maxRecDepth 100000 in
theorem d_108_363 : decode (mB 108) 363 = .ok (.invokevirtual 51, 3) := by decide +kernel
set_option maxRecDepth 100000 in
theorem d_108_366 : decode (mB 108) 366 = .ok (.iload 13, 2) := by decide +kernel
set_option maxRecDepth 100000 in
theorem d_108_368 : decode (mB 108) 368 = .ok (.if_icmp .gt 22, 3) := by decide +kernel
set_option maxRecDepth 100000 in
theorem d_108_371 : decode (mB 108) 371 = .ok (.iload 12, 2) := by decide +kernel
set_option maxRecDepth 100000 in
theorem d_108_373 : decode (mB 108) 373 = .ok (.ifCond .lt 19, 3) := by decide +kernel
set_option maxRecDepth 100000 in
theorem d_108_376 : decode (mB 108) 376 = .ok (.iload 12, 2) := by decide +kernel
set_option maxRecDepth 100000 in
theorem d_108_378 : decode (mB 108) 378 = .ok (.iload 13, 2) := by decide +kernel
set_option maxRecDepth 100000 in
theorem d_108_380 : decode (mB 108) 380 = .ok (.if_icmp .gt 12, 3) := by decide +kernel
set_option maxRecDepth 100000 in
theorem d_108_383 : decode (mB 108) 383 = .ok (.iload 15, 2) := by decide +kernel
set_option maxRecDepth 100000 in
theorem d_108_385 : decode (mB 108) 385 = .ok (.iload 7, 2) := by decide +kernel
set_option maxRecDepth 100000 in
theorem d_108_387 : decode (mB 108) 387 = .ok (.if_icmp .ge 5, 3) := by decide +kernel
