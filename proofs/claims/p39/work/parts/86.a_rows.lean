set_option maxRecDepth 100000 in
theorem cd_18 : cdP 18 := ⟨okr (k := 461) rfl (by decide +kernel), by decide +kernel, by decide +kernel, okk_w (k := 32) (by decide +kernel)⟩
set_option maxRecDepth 100000 in
theorem cd_21 : cdP 21 := ⟨okr (k := 473) rfl (by decide +kernel), by decide +kernel, by decide +kernel, okk_w (k := 32) (by decide +kernel)⟩
set_option maxRecDepth 100000 in
theorem cd_23 : cdP 23 := ⟨okr (k := 481) rfl (by decide +kernel), by decide +kernel, by decide +kernel, okk_w (k := 32) (by decide +kernel)⟩
set_option maxRecDepth 100000 in
theorem cd_24 : cdP 24 := ⟨okr (k := 490) rfl (by decide +kernel), by decide +kernel, by decide +kernel, okk_w (k := 32) (by decide +kernel)⟩
set_option maxRecDepth 100000 in
theorem cd_25 : cdP 25 := ⟨okr (k := 502) rfl (by decide +kernel), by decide +kernel, by decide +kernel, okk_w (k := 32) (by decide +kernel)⟩
set_option maxRecDepth 100000 in
theorem c_108_43 : cvP 108 43 25 0 := ⟨cd_25, okk_w (k := 499) (by decide +kernel), okk_w (k := 500) (by decide +kernel), okk_w (k := 501) (by decide +kernel), by decide +kernel, by decide +kernel⟩
set_option maxRecDepth 100000 in
theorem c_108_79 : cvP 108 79 18 1 := ⟨cd_18, okk_w (k := 458) (by decide +kernel), okk_w (k := 459) (by decide +kernel), okk_w (k := 460) (by decide +kernel), by decide +kernel, by decide +kernel⟩
set_option maxRecDepth 100000 in
theorem c_108_82 : cvP 108 82 23 0 := ⟨cd_23, okk_w (k := 478) (by decide +kernel), okk_w (k := 479) (by decide +kernel), okk_w (k := 480) (by decide +kernel), by decide +kernel, by decide +kernel⟩
set_option maxRecDepth 100000 in
theorem c_108_85 : cvP 108 85 21 0 := ⟨cd_21, okk_w (k := 470) (by decide +kernel), okk_w (k := 471) (by decide +kernel), okk_w (k := 472) (by decide +kernel), by decide +kernel, by decide +kernel⟩
set_option maxRecDepth 100000 in
theorem c_108_88 : cvP 108 88 24 0 := ⟨cd_24, okk_w (k := 487) (by decide +kernel), okk_w (k := 488) (by decide +kernel), okk_w (k := 489) (by decide +kernel), by decide +kernel, by decide +kernel⟩
set_option maxRecDepth 100000 in
theorem d_108_690 : decode (mB 108) 690 = .ok (.iload 19, 2) := by decide +kernel
set_option maxRecDepth 100000 in
theorem d_108_692 : decode (mB 108) 692 = .ok (.iload 12, 2) := by decide +kernel
set_option maxRecDepth 100000 in
theorem d_108_694 : decode (mB 108) 694 = .ok (.if_icmp .ne 69, 3) := by decide +kernel
set_option maxRecDepth 100000 in
theorem d_108_697 : decode (mB 108) 697 = .ok (.iload 8, 2) := by decide +kernel
set_option maxRecDepth 100000 in
theorem d_108_699 : decode (mB 108) 699 = .ok (.ifCond .le 16, 3) := by decide +kernel
set_option maxRecDepth 100000 in
theorem d_108_702 : decode (mB 108) 702 = .ok (.aload_n 3, 1) := by decide +kernel
set_option maxRecDepth 100000 in
theorem d_108_703 : decode (mB 108) 703 = .ok (.iload 8, 2) := by decide +kernel
set_option maxRecDepth 100000 in
theorem d_108_705 : decode (mB 108) 705 = .ok (.iconst 1, 1) := by decide +kernel
set_option maxRecDepth 100000 in
theorem d_108_706 : decode (mB 108) 706 = .ok (.isub, 1) := by decide +kernel
set_option maxRecDepth 100000 in
theorem d_108_707 : decode (mB 108) 707 = .ok (.invokevirtual 79, 3) := by decide +kernel
set_option maxRecDepth 100000 in
theorem d_108_710 : decode (mB 108) 710 = .ok (.iload 6, 2) := by decide +kernel
set_option maxRecDepth 100000 in
theorem d_108_712 : decode (mB 108) 712 = .ok (.if_icmp .ne 51, 3) := by decide +kernel
set_option maxRecDepth 100000 in
theorem d_108_715 : decode (mB 108) 715 = .ok (.iload 20, 2) := by decide +kernel
set_option maxRecDepth 100000 in
theorem d_108_717 : decode (mB 108) 717 = .ok (.aload_n 3, 1) := by decide +kernel
set_option maxRecDepth 100000 in
theorem d_108_718 : decode (mB 108) 718 = .ok (.iload 5, 2) := by decide +kernel
set_option maxRecDepth 100000 in
theorem d_108_720 : decode (mB 108) 720 = .ok (.iload 6, 2) := by decide +kernel
set_option maxRecDepth 100000 in
theorem d_108_722 : decode (mB 108) 722 = .ok (.iload 7, 2) := by decide +kernel
set_option maxRecDepth 100000 in
theorem d_108_724 : decode (mB 108) 724 = .ok (.invokevirtual 54, 3) := by decide +kernel
set_option maxRecDepth 100000 in
theorem d_108_727 : decode (mB 108) 727 = .ok (.if_icmp .ne 36, 3) := by decide +kernel
set_option maxRecDepth 100000 in
theorem d_108_730 : decode (mB 108) 730 = .ok (.aload_n 3, 1) := by decide +kernel
set_option maxRecDepth 100000 in
theorem d_108_731 : decode (mB 108) 731 = .ok (.invokevirtual 82, 3) := by decide +kernel
set_option maxRecDepth 100000 in
theorem d_108_734 : decode (mB 108) 734 = .ok (.ifCond .eq 29, 3) := by decide +kernel
set_option maxRecDepth 100000 in
theorem d_108_737 : decode (mB 108) 737 = .ok (.aload_n 3, 1) := by decide +kernel
set_option maxRecDepth 100000 in
theorem d_108_738 : decode (mB 108) 738 = .ok (.invokevirtual 85, 3) := by decide +kernel
set_option maxRecDepth 100000 in
theorem d_108_741 : decode (mB 108) 741 = .ok (.iconst (-1), 1) := by decide +kernel
set_option maxRecDepth 100000 in
theorem d_108_742 : decode (mB 108) 742 = .ok (.if_icmp .lt 21, 3) := by decide +kernel
set_option maxRecDepth 100000 in
theorem d_108_745 : decode (mB 108) 745 = .ok (.aload_n 3, 1) := by decide +kernel
set_option maxRecDepth 100000 in
theorem d_108_746 : decode (mB 108) 746 = .ok (.invokevirtual 88, 3) := by decide +kernel
set_option maxRecDepth 100000 in
theorem d_108_749 : decode (mB 108) 749 = .ok (.dconst 0, 1) := by decide +kernel
set_option maxRecDepth 100000 in
theorem d_108_750 : decode (mB 108) 750 = .ok (.dcmp .g, 1) := by decide +kernel
set_option maxRecDepth 100000 in
theorem d_108_751 : decode (mB 108) 751 = .ok (.ifCond .lt 12, 3) := by decide +kernel
set_option maxRecDepth 100000 in
theorem d_108_754 : decode (mB 108) 754 = .ok (.aload_n 3, 1) := by decide +kernel
set_option maxRecDepth 100000 in
theorem d_108_755 : decode (mB 108) 755 = .ok (.invokevirtual 88, 3) := by decide +kernel
set_option maxRecDepth 100000 in
theorem d_108_758 : decode (mB 108) 758 = .ok (.dconst 1, 1) := by decide +kernel
set_option maxRecDepth 100000 in
theorem d_108_759 : decode (mB 108) 759 = .ok (.dcmp .l, 1) := by decide +kernel
set_option maxRecDepth 100000 in
theorem d_108_760 : decode (mB 108) 760 = .ok (.ifCond .le 5, 3) := by decide +kernel
set_option maxRecDepth 100000 in
theorem d_108_765 : decode (mB 108) 765 = .ok (.aload_n 3, 1) := by decide +kernel
set_option maxRecDepth 100000 in
theorem d_108_766 : decode (mB 108) 766 = .ok (.invokevirtual 43, 3) := by decide +kernel
set_option maxRecDepth 100000 in
theorem d_108_769 : decode (mB 108) 769 = .ok (.lload 9, 2) := by decide +kernel
set_option maxRecDepth 100000 in
theorem d_108_771 : decode (mB 108) 771 = .ok (.lcmp, 1) := by decide +kernel
set_option maxRecDepth 100000 in
theorem d_108_772 : decode (mB 108) 772 = .ok (.ifCond .eq 5, 3) := by decide +kernel
set_option maxRecDepth 100000 in
theorem d_108_777 : decode (mB 108) 777 = .ok (.iinc 4 1, 3) := by decide +kernel
set_option maxRecDepth 100000 in
theorem d_108_780 : decode (mB 108) 780 = .ok (.goto (-738), 3) := by decide +kernel
