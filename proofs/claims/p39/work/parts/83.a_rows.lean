set_option maxRecDepth 100000 in
theorem cd_12 : cdP 12 := ⟨okr (k := 373) rfl (by decide +kernel), by decide +kernel, by decide +kernel, okk_w (k := 32) (by decide +kernel)⟩
set_option maxRecDepth 100000 in
theorem fl_13_33 : flP "WhistleStopLaw" 33 12 3 := ⟨_, rfl, by decide, okk_w (k := 798) (by decide +kernel)⟩
set_option maxRecDepth 100000 in
theorem c_108_60 : cvP 108 60 12 3 := ⟨cd_12, okk_w (k := 370) (by decide +kernel), okk_w (k := 371) (by decide +kernel), okk_w (k := 372) (by decide +kernel), by decide +kernel, by decide +kernel⟩
set_option maxRecDepth 100000 in
theorem d_108_398 : decode (mB 108) 398 = .ok (.iload 17, 2) := by decide +kernel
set_option maxRecDepth 100000 in
theorem d_108_400 : decode (mB 108) 400 = .ok (.aload_n 2, 1) := by decide +kernel
set_option maxRecDepth 100000 in
theorem d_108_401 : decode (mB 108) 401 = .ok (.getfield 33, 3) := by decide +kernel
set_option maxRecDepth 100000 in
theorem d_108_404 : decode (mB 108) 404 = .ok (.if_icmp .ge 51, 3) := by decide +kernel
set_option maxRecDepth 100000 in
theorem d_108_407 : decode (mB 108) 407 = .ok (.iload 16, 2) := by decide +kernel
set_option maxRecDepth 100000 in
theorem d_108_409 : decode (mB 108) 409 = .ok (.aload_n 3, 1) := by decide +kernel
set_option maxRecDepth 100000 in
theorem d_108_410 : decode (mB 108) 410 = .ok (.iload 5, 2) := by decide +kernel
set_option maxRecDepth 100000 in
theorem d_108_412 : decode (mB 108) 412 = .ok (.iload 17, 2) := by decide +kernel
set_option maxRecDepth 100000 in
theorem d_108_414 : decode (mB 108) 414 = .ok (.iload 7, 2) := by decide +kernel
set_option maxRecDepth 100000 in
theorem d_108_416 : decode (mB 108) 416 = .ok (.invokevirtual 51, 3) := by decide +kernel
set_option maxRecDepth 100000 in
theorem d_108_419 : decode (mB 108) 419 = .ok (.ifCond .lt 26, 3) := by decide +kernel
set_option maxRecDepth 100000 in
theorem d_108_422 : decode (mB 108) 422 = .ok (.aload_n 3, 1) := by decide +kernel
set_option maxRecDepth 100000 in
theorem d_108_423 : decode (mB 108) 423 = .ok (.iload 5, 2) := by decide +kernel
set_option maxRecDepth 100000 in
theorem d_108_425 : decode (mB 108) 425 = .ok (.iload 17, 2) := by decide +kernel
set_option maxRecDepth 100000 in
theorem d_108_427 : decode (mB 108) 427 = .ok (.iload 7, 2) := by decide +kernel
set_option maxRecDepth 100000 in
theorem d_108_429 : decode (mB 108) 429 = .ok (.invokevirtual 51, 3) := by decide +kernel
set_option maxRecDepth 100000 in
theorem d_108_432 : decode (mB 108) 432 = .ok (.iload 7, 2) := by decide +kernel
set_option maxRecDepth 100000 in
theorem d_108_434 : decode (mB 108) 434 = .ok (.sipush 700, 3) := by decide +kernel
set_option maxRecDepth 100000 in
theorem d_108_437 : decode (mB 108) 437 = .ok (.iadd, 1) := by decide +kernel
set_option maxRecDepth 100000 in
theorem d_108_438 : decode (mB 108) 438 = .ok (.if_icmp .gt 7, 3) := by decide +kernel
set_option maxRecDepth 100000 in
theorem d_108_441 : decode (mB 108) 441 = .ok (.iconst 1, 1) := by decide +kernel
set_option maxRecDepth 100000 in
theorem d_108_442 : decode (mB 108) 442 = .ok (.goto 4, 3) := by decide +kernel
set_option maxRecDepth 100000 in
theorem d_108_445 : decode (mB 108) 445 = .ok (.iconst 0, 1) := by decide +kernel
set_option maxRecDepth 100000 in
theorem d_108_446 : decode (mB 108) 446 = .ok (.iadd, 1) := by decide +kernel
set_option maxRecDepth 100000 in
theorem d_108_447 : decode (mB 108) 447 = .ok (.istore 16, 2) := by decide +kernel
set_option maxRecDepth 100000 in
theorem d_108_449 : decode (mB 108) 449 = .ok (.iinc 17 1, 3) := by decide +kernel
set_option maxRecDepth 100000 in
theorem d_108_452 : decode (mB 108) 452 = .ok (.goto (-54), 3) := by decide +kernel
set_option maxRecDepth 100000 in
theorem d_108_455 : decode (mB 108) 455 = .ok (.aload_n 3, 1) := by decide +kernel
set_option maxRecDepth 100000 in
theorem d_108_456 : decode (mB 108) 456 = .ok (.iload 5, 2) := by decide +kernel
set_option maxRecDepth 100000 in
theorem d_108_458 : decode (mB 108) 458 = .ok (.iload 7, 2) := by decide +kernel
set_option maxRecDepth 100000 in
theorem d_108_460 : decode (mB 108) 460 = .ok (.sipush 700, 3) := by decide +kernel
set_option maxRecDepth 100000 in
theorem d_108_463 : decode (mB 108) 463 = .ok (.invokevirtual 60, 3) := by decide +kernel
set_option maxRecDepth 100000 in
theorem d_108_466 : decode (mB 108) 466 = .ok (.iload 16, 2) := by decide +kernel
set_option maxRecDepth 100000 in
theorem d_108_468 : decode (mB 108) 468 = .ok (.if_icmp .eq 5, 3) := by decide +kernel
set_option maxRecDepth 100000 in
theorem d_108_473 : decode (mB 108) 473 = .ok (.iload 12, 2) := by decide +kernel
set_option maxRecDepth 100000 in
theorem d_108_475 : decode (mB 108) 475 = .ok (.ifCond .lt 290, 3) := by decide +kernel
