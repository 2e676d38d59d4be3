set_option maxRecDepth 100000 in
theorem cd_103 : cdP 103 := ⟨okr (k := 911) rfl (by decide +kernel), by decide +kernel, by decide +kernel, okk_w (k := 31) (by decide +kernel)⟩
set_option maxRecDepth 100000 in
theorem cd_104 : cdP 104 := ⟨okr (k := 940) rfl (by decide +kernel), by decide +kernel, by decide +kernel, okk_w (k := 31) (by decide +kernel)⟩
set_option maxRecDepth 100000 in
theorem c_102_116 : cvP 102 116 103 0 := ⟨cd_103, okk_w (k := 908) (by decide +kernel), okk_w (k := 909) (by decide +kernel), okk_w (k := 910) (by decide +kernel), by decide +kernel, by decide +kernel⟩
set_option maxRecDepth 100000 in
theorem c_102_118 : cvP 102 118 104 0 := ⟨cd_104, okk_w (k := 937) (by decide +kernel), okk_w (k := 938) (by decide +kernel), okk_w (k := 939) (by decide +kernel), by decide +kernel, by decide +kernel⟩
set_option maxRecDepth 100000 in
theorem d_102_0 : decode (mB 102) 0 = .ok (.aload_n 0, 1) := by decide +kernel
set_option maxRecDepth 100000 in
theorem d_102_1 : decode (mB 102) 1 = .ok (.iconst 3, 1) := by decide +kernel
set_option maxRecDepth 100000 in
theorem d_102_2 : decode (mB 102) 2 = .ok (.aload_n 0, 1) := by decide +kernel
set_option maxRecDepth 100000 in
theorem d_102_3 : decode (mB 102) 3 = .ok (.iconst 4, 1) := by decide +kernel
set_option maxRecDepth 100000 in
theorem d_102_4 : decode (mB 102) 4 = .ok (.invokevirtual 69, 3) := by decide +kernel
set_option maxRecDepth 100000 in
theorem d_102_7 : decode (mB 102) 7 = .ok (.iadd, 1) := by decide +kernel
set_option maxRecDepth 100000 in
theorem d_102_8 : decode (mB 102) 8 = .ok (.putfield 90, 3) := by decide +kernel
set_option maxRecDepth 100000 in
theorem d_102_11 : decode (mB 102) 11 = .ok (.iconst 0, 1) := by decide +kernel
set_option maxRecDepth 100000 in
theorem d_102_12 : decode (mB 102) 12 = .ok (.istore_n 2, 1) := by decide +kernel
set_option maxRecDepth 100000 in
theorem d_102_58 : decode (mB 102) 58 = .ok (.aload_n 0, 1) := by decide +kernel
set_option maxRecDepth 100000 in
theorem d_102_59 : decode (mB 102) 59 = .ok (.iconst 4, 1) := by decide +kernel
set_option maxRecDepth 100000 in
theorem d_102_60 : decode (mB 102) 60 = .ok (.invokevirtual 69, 3) := by decide +kernel
set_option maxRecDepth 100000 in
theorem d_102_63 : decode (mB 102) 63 = .ok (.istore_n 2, 1) := by decide +kernel
set_option maxRecDepth 100000 in
theorem d_102_171 : decode (mB 102) 171 = .ok (.iconst 1, 1) := by decide +kernel
set_option maxRecDepth 100000 in
theorem d_102_172 : decode (mB 102) 172 = .ok (.aload_n 0, 1) := by decide +kernel
set_option maxRecDepth 100000 in
theorem d_102_173 : decode (mB 102) 173 = .ok (.iconst 2, 1) := by decide +kernel
set_option maxRecDepth 100000 in
theorem d_102_174 : decode (mB 102) 174 = .ok (.invokevirtual 69, 3) := by decide +kernel
set_option maxRecDepth 100000 in
theorem d_102_177 : decode (mB 102) 177 = .ok (.iadd, 1) := by decide +kernel
set_option maxRecDepth 100000 in
theorem d_102_178 : decode (mB 102) 178 = .ok (.istore_n 2, 1) := by decide +kernel
set_option maxRecDepth 100000 in
theorem d_102_179 : decode (mB 102) 179 = .ok (.iload_n 2, 1) := by decide +kernel
set_option maxRecDepth 100000 in
theorem d_102_180 : decode (mB 102) 180 = .ok (.ifCond .le 18, 3) := by decide +kernel
set_option maxRecDepth 100000 in
theorem d_102_183 : decode (mB 102) 183 = .ok (.aload_n 0, 1) := by decide +kernel
set_option maxRecDepth 100000 in
theorem d_102_184 : decode (mB 102) 184 = .ok (.invokevirtual 116, 3) := by decide +kernel
set_option maxRecDepth 100000 in
theorem d_102_187 : decode (mB 102) 187 = .ok (.ifCond .ne 5, 3) := by decide +kernel
set_option maxRecDepth 100000 in
theorem d_102_192 : decode (mB 102) 192 = .ok (.iinc 2 (-1), 3) := by decide +kernel
set_option maxRecDepth 100000 in
theorem d_102_195 : decode (mB 102) 195 = .ok (.goto (-16), 3) := by decide +kernel
set_option maxRecDepth 100000 in
theorem d_102_198 : decode (mB 102) 198 = .ok (.iconst 2, 1) := by decide +kernel
set_option maxRecDepth 100000 in
theorem d_102_199 : decode (mB 102) 199 = .ok (.aload_n 0, 1) := by decide +kernel
set_option maxRecDepth 100000 in
theorem d_102_200 : decode (mB 102) 200 = .ok (.iload_n 1, 1) := by decide +kernel
set_option maxRecDepth 100000 in
theorem d_102_201 : decode (mB 102) 201 = .ok (.iconst 1, 1) := by decide +kernel
set_option maxRecDepth 100000 in
theorem d_102_202 : decode (mB 102) 202 = .ok (.isub, 1) := by decide +kernel
set_option maxRecDepth 100000 in
theorem d_102_203 : decode (mB 102) 203 = .ok (.invokevirtual 69, 3) := by decide +kernel
set_option maxRecDepth 100000 in
theorem d_102_206 : decode (mB 102) 206 = .ok (.iadd, 1) := by decide +kernel
set_option maxRecDepth 100000 in
theorem d_102_207 : decode (mB 102) 207 = .ok (.istore_n 2, 1) := by decide +kernel
set_option maxRecDepth 100000 in
theorem d_102_208 : decode (mB 102) 208 = .ok (.iload_n 2, 1) := by decide +kernel
set_option maxRecDepth 100000 in
theorem d_102_209 : decode (mB 102) 209 = .ok (.ifCond .le 18, 3) := by decide +kernel
set_option maxRecDepth 100000 in
theorem d_102_212 : decode (mB 102) 212 = .ok (.aload_n 0, 1) := by decide +kernel
set_option maxRecDepth 100000 in
theorem d_102_213 : decode (mB 102) 213 = .ok (.invokevirtual 118, 3) := by decide +kernel
set_option maxRecDepth 100000 in
theorem d_102_216 : decode (mB 102) 216 = .ok (.ifCond .ne 5, 3) := by decide +kernel
set_option maxRecDepth 100000 in
theorem d_102_221 : decode (mB 102) 221 = .ok (.iinc 2 (-1), 3) := by decide +kernel
set_option maxRecDepth 100000 in
theorem d_102_224 : decode (mB 102) 224 = .ok (.goto (-16), 3) := by decide +kernel
set_option maxRecDepth 100000 in
theorem d_102_227 : decode (mB 102) 227 = .ok (.iconst 1, 1) := by decide +kernel
set_option maxRecDepth 100000 in
theorem d_102_228 : decode (mB 102) 228 = .ok (.ireturn, 1) := by decide +kernel
