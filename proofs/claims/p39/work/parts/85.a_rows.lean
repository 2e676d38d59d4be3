set_option maxRecDepth 100000 in
theorem cd_15 : cdP 15 := ⟨okr (k := 430) rfl (by decide +kernel), by decide +kernel, by decide +kernel, okk_w (k := 32) (by decide +kernel)⟩
set_option maxRecDepth 100000 in
theorem cd_19 : cdP 19 := ⟨okr (k := 465) rfl (by decide +kernel), by decide +kernel, by decide +kernel, okk_w (k := 32) (by decide +kernel)⟩
set_option maxRecDepth 100000 in
theorem cd_20 : cdP 20 := ⟨okr (k := 469) rfl (by decide +kernel), by decide +kernel, by decide +kernel, okk_w (k := 32) (by decide +kernel)⟩
set_option maxRecDepth 100000 in
theorem c_108_70 : cvP 108 70 15 1 := ⟨cd_15, okk_w (k := 427) (by decide +kernel), okk_w (k := 428) (by decide +kernel), okk_w (k := 429) (by decide +kernel), by decide +kernel, by decide +kernel⟩
set_option maxRecDepth 100000 in
theorem c_108_73 : cvP 108 73 19 1 := ⟨cd_19, okk_w (k := 462) (by decide +kernel), okk_w (k := 463) (by decide +kernel), okk_w (k := 464) (by decide +kernel), by decide +kernel, by decide +kernel⟩
set_option maxRecDepth 100000 in
theorem c_108_76 : cvP 108 76 20 1 := ⟨cd_20, okk_w (k := 466) (by decide +kernel), okk_w (k := 467) (by decide +kernel), okk_w (k := 468) (by decide +kernel), by decide +kernel, by decide +kernel⟩
set_option maxRecDepth 100000 in
theorem d_108_573 : decode (mB 108) 573 = .ok (.iload 21, 2) := by decide +kernel
set_option maxRecDepth 100000 in
theorem d_108_575 : decode (mB 108) 575 = .ok (.iload 8, 2) := by decide +kernel
set_option maxRecDepth 100000 in
theorem d_108_577 : decode (mB 108) 577 = .ok (.if_icmp .ge 113, 3) := by decide +kernel
set_option maxRecDepth 100000 in
theorem d_108_580 : decode (mB 108) 580 = .ok (.aload_n 3, 1) := by decide +kernel
set_option maxRecDepth 100000 in
theorem d_108_581 : decode (mB 108) 581 = .ok (.iload 21, 2) := by decide +kernel
set_option maxRecDepth 100000 in
theorem d_108_583 : decode (mB 108) 583 = .ok (.invokevirtual 70, 3) := by decide +kernel
set_option maxRecDepth 100000 in
theorem d_108_586 : decode (mB 108) 586 = .ok (.ifCond .lt 7, 3) := by decide +kernel
set_option maxRecDepth 100000 in
theorem d_108_589 : decode (mB 108) 589 = .ok (.iconst 1, 1) := by decide +kernel
set_option maxRecDepth 100000 in
theorem d_108_590 : decode (mB 108) 590 = .ok (.goto 4, 3) := by decide +kernel
set_option maxRecDepth 100000 in
theorem d_108_593 : decode (mB 108) 593 = .ok (.iconst 0, 1) := by decide +kernel
set_option maxRecDepth 100000 in
theorem d_108_594 : decode (mB 108) 594 = .ok (.istore 22, 2) := by decide +kernel
set_option maxRecDepth 100000 in
theorem d_108_596 : decode (mB 108) 596 = .ok (.aload_n 3, 1) := by decide +kernel
set_option maxRecDepth 100000 in
theorem d_108_597 : decode (mB 108) 597 = .ok (.iload 21, 2) := by decide +kernel
set_option maxRecDepth 100000 in
theorem d_108_599 : decode (mB 108) 599 = .ok (.invokevirtual 73, 3) := by decide +kernel
set_option maxRecDepth 100000 in
theorem d_108_602 : decode (mB 108) 602 = .ok (.iload 19, 2) := by decide +kernel
set_option maxRecDepth 100000 in
theorem d_108_604 : decode (mB 108) 604 = .ok (.if_icmp .lt 55, 3) := by decide +kernel
set_option maxRecDepth 100000 in
theorem d_108_607 : decode (mB 108) 607 = .ok (.iload 22, 2) := by decide +kernel
set_option maxRecDepth 100000 in
theorem d_108_609 : decode (mB 108) 609 = .ok (.ifCond .ne 14, 3) := by decide +kernel
set_option maxRecDepth 100000 in
theorem d_108_612 : decode (mB 108) 612 = .ok (.aload_n 3, 1) := by decide +kernel
set_option maxRecDepth 100000 in
theorem d_108_613 : decode (mB 108) 613 = .ok (.iload 21, 2) := by decide +kernel
set_option maxRecDepth 100000 in
theorem d_108_615 : decode (mB 108) 615 = .ok (.invokevirtual 73, 3) := by decide +kernel
set_option maxRecDepth 100000 in
theorem d_108_618 : decode (mB 108) 618 = .ok (.iload 19, 2) := by decide +kernel
set_option maxRecDepth 100000 in
theorem d_108_620 : decode (mB 108) 620 = .ok (.if_icmp .ne 39, 3) := by decide +kernel
set_option maxRecDepth 100000 in
theorem d_108_623 : decode (mB 108) 623 = .ok (.aload_n 3, 1) := by decide +kernel
set_option maxRecDepth 100000 in
theorem d_108_624 : decode (mB 108) 624 = .ok (.iload 21, 2) := by decide +kernel
set_option maxRecDepth 100000 in
theorem d_108_626 : decode (mB 108) 626 = .ok (.invokevirtual 76, 3) := by decide +kernel
set_option maxRecDepth 100000 in
theorem d_108_629 : decode (mB 108) 629 = .ok (.aload_n 3, 1) := by decide +kernel
set_option maxRecDepth 100000 in
theorem d_108_630 : decode (mB 108) 630 = .ok (.iload 21, 2) := by decide +kernel
set_option maxRecDepth 100000 in
theorem d_108_632 : decode (mB 108) 632 = .ok (.invokevirtual 73, 3) := by decide +kernel
set_option maxRecDepth 100000 in
theorem d_108_635 : decode (mB 108) 635 = .ok (.if_icmp .lt 24, 3) := by decide +kernel
set_option maxRecDepth 100000 in
theorem d_108_638 : decode (mB 108) 638 = .ok (.iload 21, 2) := by decide +kernel
set_option maxRecDepth 100000 in
theorem d_108_640 : decode (mB 108) 640 = .ok (.ifCond .le 21, 3) := by decide +kernel
set_option maxRecDepth 100000 in
theorem d_108_643 : decode (mB 108) 643 = .ok (.iload 22, 2) := by decide +kernel
set_option maxRecDepth 100000 in
theorem d_108_645 : decode (mB 108) 645 = .ok (.ifCond .ne 16, 3) := by decide +kernel
set_option maxRecDepth 100000 in
theorem d_108_648 : decode (mB 108) 648 = .ok (.aload_n 3, 1) := by decide +kernel
set_option maxRecDepth 100000 in
theorem d_108_649 : decode (mB 108) 649 = .ok (.iload 21, 2) := by decide +kernel
set_option maxRecDepth 100000 in
theorem d_108_651 : decode (mB 108) 651 = .ok (.iconst 1, 1) := by decide +kernel
set_option maxRecDepth 100000 in
theorem d_108_652 : decode (mB 108) 652 = .ok (.isub, 1) := by decide +kernel
set_option maxRecDepth 100000 in
theorem d_108_653 : decode (mB 108) 653 = .ok (.invokevirtual 70, 3) := by decide +kernel
set_option maxRecDepth 100000 in
theorem d_108_656 : decode (mB 108) 656 = .ok (.ifCond .ge 5, 3) := by decide +kernel
set_option maxRecDepth 100000 in
theorem d_108_661 : decode (mB 108) 661 = .ok (.iload 20, 2) := by decide +kernel
set_option maxRecDepth 100000 in
theorem d_108_663 : decode (mB 108) 663 = .ok (.iload 22, 2) := by decide +kernel
set_option maxRecDepth 100000 in
theorem d_108_665 : decode (mB 108) 665 = .ok (.ifCond .eq 7, 3) := by decide +kernel
set_option maxRecDepth 100000 in
theorem d_108_668 : decode (mB 108) 668 = .ok (.iconst 1, 1) := by decide +kernel
set_option maxRecDepth 100000 in
theorem d_108_669 : decode (mB 108) 669 = .ok (.goto 4, 3) := by decide +kernel
set_option maxRecDepth 100000 in
theorem d_108_672 : decode (mB 108) 672 = .ok (.iconst 0, 1) := by decide +kernel
set_option maxRecDepth 100000 in
theorem d_108_673 : decode (mB 108) 673 = .ok (.iadd, 1) := by decide +kernel
set_option maxRecDepth 100000 in
theorem d_108_674 : decode (mB 108) 674 = .ok (.istore 20, 2) := by decide +kernel
set_option maxRecDepth 100000 in
theorem d_108_676 : decode (mB 108) 676 = .ok (.aload_n 3, 1) := by decide +kernel
set_option maxRecDepth 100000 in
theorem d_108_677 : decode (mB 108) 677 = .ok (.iload 21, 2) := by decide +kernel
set_option maxRecDepth 100000 in
theorem d_108_679 : decode (mB 108) 679 = .ok (.invokevirtual 76, 3) := by decide +kernel
set_option maxRecDepth 100000 in
theorem d_108_682 : decode (mB 108) 682 = .ok (.istore 19, 2) := by decide +kernel
set_option maxRecDepth 100000 in
theorem d_108_684 : decode (mB 108) 684 = .ok (.iinc 21 1, 3) := by decide +kernel
set_option maxRecDepth 100000 in
theorem d_108_687 : decode (mB 108) 687 = .ok (.goto (-114), 3) := by decide +kernel
