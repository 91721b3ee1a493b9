theorem dX11_isOut_4 : decode cX11_isOut 4 = .ok (.iload_n 1, 1) := by decide +kernel
theorem dX11_isOut_5 : decode cX11_isOut 5 = .ok (.iaload, 1) := by decide +kernel
theorem dX11_isOut_6 : decode cX11_isOut 6 = .ok (.ifCond .ne 7, 3) := by decide +kernel
theorem dX11_isOut_9 : decode cX11_isOut 9 = .ok (.iconst 1, 1) := by decide +kernel
theorem dX11_isOut_10 : decode cX11_isOut 10 = .ok (.goto 4, 3) := by decide +kernel
theorem dX11_isOut_13 : decode cX11_isOut 13 = .ok (.iconst 0, 1) := by decide +kernel
theorem dX11_isOut_14 : decode cX11_isOut 14 = .ok (.ireturn, 1) := by decide +kernel
theorem dX11_concerns_0 : decode cX11_concerns 0 = .ok (.iload_n 3, 1) := by decide +kernel
theorem dX11_concerns_1 : decode cX11_concerns 1 = .ok (.ifCond .eq 15, 3) := by decide +kernel
theorem dX11_concerns_4 : decode cX11_concerns 4 = .ok (.aload_n 0, 1) := by decide +kernel
theorem dX11_concerns_5 : decode cX11_concerns 5 = .ok (.getfield 38, 3) := by decide +kernel
theorem dX11_concerns_8 : decode cX11_concerns 8 = .ok (.iload_n 1, 1) := by decide +kernel
theorem dX11_concerns_9 : decode cX11_concerns 9 = .ok (.iaload, 1) := by decide +kernel
theorem dX11_concerns_10 : decode cX11_concerns 10 = .ok (.iconst 1, 1) := by decide +kernel
theorem dX11_concerns_11 : decode cX11_concerns 11 = .ok (.if_icmp .ne 5, 3) := by decide +kernel
theorem dX11_concerns_14 : decode cX11_concerns 14 = .ok (.iconst 1, 1) := by decide +kernel
theorem dX11_concerns_15 : decode cX11_concerns 15 = .ok (.ireturn, 1) := by decide +kernel
theorem dX11_concerns_16 : decode cX11_concerns 16 = .ok (.iconst 0, 1) := by decide +kernel
theorem dX11_concerns_17 : decode cX11_concerns 17 = .ok (.istore 4, 2) := by decide +kernel
theorem dX11_concerns_19 : decode cX11_concerns 19 = .ok (.iload 4, 2) := by decide +kernel
theorem dX11_concerns_21 : decode cX11_concerns 21 = .ok (.aload_n 0, 1) := by decide +kernel
theorem dX11_concerns_22 : decode cX11_concerns 22 = .ok (.getfield 128, 3) := by decide +kernel
theorem dX11_concerns_25 : decode cX11_concerns 25 = .ok (.if_icmp .ge 51, 3) := by decide +kernel
theorem dX11_concerns_28 : decode cX11_concerns 28 = .ok (.aload_n 0, 1) := by decide +kernel
theorem dX11_concerns_29 : decode cX11_concerns 29 = .ok (.aload_n 0, 1) := by decide +kernel
theorem dX11_concerns_30 : decode cX11_concerns 30 = .ok (.getfield 62, 3) := by decide +kernel
theorem dX11_concerns_33 : decode cX11_concerns 33 = .ok (.iload 4, 2) := by decide +kernel
theorem dX11_concerns_35 : decode cX11_concerns 35 = .ok (.iaload, 1) := by decide +kernel
theorem dX11_concerns_36 : decode cX11_concerns 36 = .ok (.invokevirtual 153, 3) := by decide +kernel
theorem dX11_concerns_39 : decode cX11_concerns 39 = .ok (.iload_n 3, 1) := by decide +kernel
theorem dX11_concerns_40 : decode cX11_concerns 40 = .ok (.if_icmp .ne 30, 3) := by decide +kernel
theorem dX11_concerns_43 : decode cX11_concerns 43 = .ok (.aload_n 0, 1) := by decide +kernel
theorem dX11_concerns_44 : decode cX11_concerns 44 = .ok (.getfield 20, 3) := by decide +kernel
theorem dX11_concerns_47 : decode cX11_concerns 47 = .ok (.aload_n 0, 1) := by decide +kernel
theorem dX11_concerns_48 : decode cX11_concerns 48 = .ok (.getfield 62, 3) := by decide +kernel
theorem dX11_concerns_51 : decode cX11_concerns 51 = .ok (.iload 4, 2) := by decide +kernel
theorem dX11_concerns_53 : decode cX11_concerns 53 = .ok (.iaload, 1) := by decide +kernel
theorem dX11_concerns_54 : decode cX11_concerns 54 = .ok (.iaload, 1) := by decide +kernel
theorem dX11_concerns_55 : decode cX11_concerns 55 = .ok (.aload_n 0, 1) := by decide +kernel
theorem dX11_concerns_56 : decode cX11_concerns 56 = .ok (.getfield 13, 3) := by decide +kernel
theorem dX11_concerns_59 : decode cX11_concerns 59 = .ok (.iconst 3, 1) := by decide +kernel
theorem dX11_concerns_60 : decode cX11_concerns 60 = .ok (.iload_n 2, 1) := by decide +kernel
theorem dX11_concerns_61 : decode cX11_concerns 61 = .ok (.imul, 1) := by decide +kernel
theorem dX11_concerns_62 : decode cX11_concerns 62 = .ok (.iconst 1, 1) := by decide +kernel
theorem dX11_concerns_63 : decode cX11_concerns 63 = .ok (.iadd, 1) := by decide +kernel
theorem dX11_concerns_64 : decode cX11_concerns 64 = .ok (.iaload, 1) := by decide +kernel
theorem dX11_concerns_65 : decode cX11_concerns 65 = .ok (.if_icmp .ne 5, 3) := by decide +kernel
theorem dX11_concerns_68 : decode cX11_concerns 68 = .ok (.iconst 1, 1) := by decide +kernel
theorem dX11_concerns_69 : decode cX11_concerns 69 = .ok (.ireturn, 1) := by decide +kernel
theorem dX11_concerns_70 : decode cX11_concerns 70 = .ok (.iinc 4 1, 3) := by decide +kernel
theorem dX11_concerns_73 : decode cX11_concerns 73 = .ok (.goto (-54), 3) := by decide +kernel
theorem dX11_concerns_76 : decode cX11_concerns 76 = .ok (.iconst 0, 1) := by decide +kernel
theorem dX11_concerns_77 : decode cX11_concerns 77 = .ok (.ireturn, 1) := by decide +kernel
theorem dX11_takes_0 : decode cX11_takes 0 = .ok (.aload_n 0, 1) := by decide +kernel
theorem dX11_takes_1 : decode cX11_takes 1 = .ok (.getfield 13, 3) := by decide +kernel
theorem dX11_takes_4 : decode cX11_takes 4 = .ok (.iconst 3, 1) := by decide +kernel
theorem dX11_takes_5 : decode cX11_takes 5 = .ok (.iload_n 2, 1) := by decide +kernel
theorem dX11_takes_6 : decode cX11_takes 6 = .ok (.imul, 1) := by decide +kernel
theorem dX11_takes_7 : decode cX11_takes 7 = .ok (.iload_n 3, 1) := by decide +kernel
theorem dX11_takes_8 : decode cX11_takes 8 = .ok (.ifCond .eq 7, 3) := by decide +kernel
