set_option maxRecDepth 100000 in
theorem cd_10 : cdP 10 := ⟨okr (k := 267) rfl (by decide +kernel), by decide +kernel, by decide +kernel, okk_w (k := 32) (by decide +kernel)⟩
set_option maxRecDepth 100000 in
theorem cd_22 : cdP 22 := ⟨okr (k := 477) rfl (by decide +kernel), by decide +kernel, by decide +kernel, okk_w (k := 32) (by decide +kernel)⟩
set_option maxRecDepth 100000 in
theorem c_108_63 : cvP 108 63 10 4 := ⟨cd_10, okk_w (k := 264) (by decide +kernel), okk_w (k := 265) (by decide +kernel), okk_w (k := 266) (by decide +kernel), by decide +kernel, by decide +kernel⟩
set_option maxRecDepth 100000 in
theorem c_108_66 : cvP 108 66 22 0 := ⟨cd_22, okk_w (k := 474) (by decide +kernel), okk_w (k := 475) (by decide +kernel), okk_w (k := 476) (by decide +kernel), by decide +kernel, by decide +kernel⟩
set_option maxRecDepth 100000 in
theorem d_108_478 : decode (mB 108) 478 = .ok (.aload_n 3, 1) := by decide +kernel
set_option maxRecDepth 100000 in
theorem d_108_479 : decode (mB 108) 479 = .ok (.iload 5, 2) := by decide +kernel
set_option maxRecDepth 100000 in
theorem d_108_481 : decode (mB 108) 481 = .ok (.iload 6, 2) := by decide +kernel
set_option maxRecDepth 100000 in
theorem d_108_483 : decode (mB 108) 483 = .ok (.iload 7, 2) := by decide +kernel
set_option maxRecDepth 100000 in
theorem d_108_485 : decode (mB 108) 485 = .ok (.iload 12, 2) := by decide +kernel
set_option maxRecDepth 100000 in
theorem d_108_487 : decode (mB 108) 487 = .ok (.invokevirtual 63, 3) := by decide +kernel
set_option maxRecDepth 100000 in
theorem d_108_490 : decode (mB 108) 490 = .ok (.istore 17, 2) := by decide +kernel
set_option maxRecDepth 100000 in
theorem d_108_492 : decode (mB 108) 492 = .ok (.aload_n 3, 1) := by decide +kernel
set_option maxRecDepth 100000 in
theorem d_108_493 : decode (mB 108) 493 = .ok (.iload 5, 2) := by decide +kernel
set_option maxRecDepth 100000 in
theorem d_108_495 : decode (mB 108) 495 = .ok (.iload 6, 2) := by decide +kernel
set_option maxRecDepth 100000 in
theorem d_108_497 : decode (mB 108) 497 = .ok (.iload 7, 2) := by decide +kernel
set_option maxRecDepth 100000 in
theorem d_108_499 : decode (mB 108) 499 = .ok (.iload 7, 2) := by decide +kernel
set_option maxRecDepth 100000 in
theorem d_108_501 : decode (mB 108) 501 = .ok (.sipush 4000, 3) := by decide +kernel
set_option maxRecDepth 100000 in
theorem d_108_504 : decode (mB 108) 504 = .ok (.iadd, 1) := by decide +kernel
set_option maxRecDepth 100000 in
theorem d_108_505 : decode (mB 108) 505 = .ok (.invokevirtual 63, 3) := by decide +kernel
set_option maxRecDepth 100000 in
theorem d_108_508 : decode (mB 108) 508 = .ok (.istore 18, 2) := by decide +kernel
set_option maxRecDepth 100000 in
theorem d_108_510 : decode (mB 108) 510 = .ok (.iload 17, 2) := by decide +kernel
set_option maxRecDepth 100000 in
theorem d_108_512 : decode (mB 108) 512 = .ok (.ifCond .lt 49, 3) := by decide +kernel
set_option maxRecDepth 100000 in
theorem d_108_515 : decode (mB 108) 515 = .ok (.iload 18, 2) := by decide +kernel
set_option maxRecDepth 100000 in
theorem d_108_517 : decode (mB 108) 517 = .ok (.ifCond .lt 44, 3) := by decide +kernel
set_option maxRecDepth 100000 in
theorem d_108_520 : decode (mB 108) 520 = .ok (.iload 18, 2) := by decide +kernel
set_option maxRecDepth 100000 in
theorem d_108_522 : decode (mB 108) 522 = .ok (.iload 17, 2) := by decide +kernel
set_option maxRecDepth 100000 in
theorem d_108_524 : decode (mB 108) 524 = .ok (.if_icmp .gt 37, 3) := by decide +kernel
set_option maxRecDepth 100000 in
theorem d_108_527 : decode (mB 108) 527 = .ok (.iload 17, 2) := by decide +kernel
set_option maxRecDepth 100000 in
theorem d_108_529 : decode (mB 108) 529 = .ok (.aload_n 3, 1) := by decide +kernel
set_option maxRecDepth 100000 in
theorem d_108_530 : decode (mB 108) 530 = .ok (.invokevirtual 66, 3) := by decide +kernel
set_option maxRecDepth 100000 in
theorem d_108_533 : decode (mB 108) 533 = .ok (.if_icmp .gt 28, 3) := by decide +kernel
set_option maxRecDepth 100000 in
theorem d_108_536 : decode (mB 108) 536 = .ok (.iload 12, 2) := by decide +kernel
set_option maxRecDepth 100000 in
theorem d_108_538 : decode (mB 108) 538 = .ok (.iload 7, 2) := by decide +kernel
set_option maxRecDepth 100000 in
theorem d_108_540 : decode (mB 108) 540 = .ok (.if_icmp .le 23, 3) := by decide +kernel
set_option maxRecDepth 100000 in
theorem d_108_543 : decode (mB 108) 543 = .ok (.aload_n 3, 1) := by decide +kernel
set_option maxRecDepth 100000 in
theorem d_108_544 : decode (mB 108) 544 = .ok (.iload 5, 2) := by decide +kernel
set_option maxRecDepth 100000 in
theorem d_108_546 : decode (mB 108) 546 = .ok (.iload 6, 2) := by decide +kernel
set_option maxRecDepth 100000 in
theorem d_108_548 : decode (mB 108) 548 = .ok (.iload 7, 2) := by decide +kernel
set_option maxRecDepth 100000 in
theorem d_108_550 : decode (mB 108) 550 = .ok (.iload 12, 2) := by decide +kernel
set_option maxRecDepth 100000 in
theorem d_108_552 : decode (mB 108) 552 = .ok (.iconst 1, 1) := by decide +kernel
set_option maxRecDepth 100000 in
theorem d_108_553 : decode (mB 108) 553 = .ok (.isub, 1) := by decide +kernel
set_option maxRecDepth 100000 in
theorem d_108_554 : decode (mB 108) 554 = .ok (.invokevirtual 63, 3) := by decide +kernel
set_option maxRecDepth 100000 in
theorem d_108_557 : decode (mB 108) 557 = .ok (.iconst (-1), 1) := by decide +kernel
set_option maxRecDepth 100000 in
theorem d_108_558 : decode (mB 108) 558 = .ok (.if_icmp .eq 5, 3) := by decide +kernel
