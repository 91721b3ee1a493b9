theorem dX11_together_43 : decode cX11_together 43 = .ok (.iadd, 1) := by decide +kernel
theorem dX11_together_44 : decode cX11_together 44 = .ok (.baload, 1) := by decide +kernel
theorem dX11_together_45 : decode cX11_together 45 = .ok (.ifCond .eq 51, 3) := by decide +kernel
theorem dX11_together_48 : decode cX11_together 48 = .ok (.aload_n 0, 1) := by decide +kernel
theorem dX11_together_49 : decode cX11_together 49 = .ok (.getfield 47, 3) := by decide +kernel
theorem dX11_together_52 : decode cX11_together 52 = .ok (.iload 4, 2) := by decide +kernel
theorem dX11_together_54 : decode cX11_together 54 = .ok (.iaload, 1) := by decide +kernel
theorem dX11_together_55 : decode cX11_together 55 = .ok (.aload_n 0, 1) := by decide +kernel
theorem dX11_together_56 : decode cX11_together 56 = .ok (.getfield 47, 3) := by decide +kernel
theorem dX11_together_59 : decode cX11_together 59 = .ok (.iload 5, 2) := by decide +kernel
theorem dX11_together_61 : decode cX11_together 61 = .ok (.iaload, 1) := by decide +kernel
theorem dX11_together_62 : decode cX11_together 62 = .ok (.iadd, 1) := by decide +kernel
theorem dX11_together_63 : decode cX11_together 63 = .ok (.bipush 9, 2) := by decide +kernel
theorem dX11_together_65 : decode cX11_together 65 = .ok (.if_icmp .ge 31, 3) := by decide +kernel
theorem dX11_together_68 : decode cX11_together 68 = .ok (.aload_n 0, 1) := by decide +kernel
theorem dX11_together_69 : decode cX11_together 69 = .ok (.getfield 55, 3) := by decide +kernel
theorem dX11_together_72 : decode cX11_together 72 = .ok (.iload_n 3, 1) := by decide +kernel
theorem dX11_together_73 : decode cX11_together 73 = .ok (.aload_n 0, 1) := by decide +kernel
theorem dX11_together_74 : decode cX11_together 74 = .ok (.getfield 51, 3) := by decide +kernel
theorem dX11_together_77 : decode cX11_together 77 = .ok (.aload_n 0, 1) := by decide +kernel
theorem dX11_together_78 : decode cX11_together 78 = .ok (.getfield 44, 3) := by decide +kernel
theorem dX11_together_81 : decode cX11_together 81 = .ok (.iload 4, 2) := by decide +kernel
theorem dX11_together_83 : decode cX11_together 83 = .ok (.iaload, 1) := by decide +kernel
theorem dX11_together_84 : decode cX11_together 84 = .ok (.aload_n 0, 1) := by decide +kernel
theorem dX11_together_85 : decode cX11_together 85 = .ok (.getfield 44, 3) := by decide +kernel
theorem dX11_together_88 : decode cX11_together 88 = .ok (.iload 5, 2) := by decide +kernel
theorem dX11_together_90 : decode cX11_together 90 = .ok (.iaload, 1) := by decide +kernel
theorem dX11_together_91 : decode cX11_together 91 = .ok (.iadd, 1) := by decide +kernel
theorem dX11_together_92 : decode cX11_together 92 = .ok (.iaload, 1) := by decide +kernel
theorem dX11_together_93 : decode cX11_together 93 = .ok (.iadd, 1) := by decide +kernel
theorem dX11_together_94 : decode cX11_together 94 = .ok (.iconst 1, 1) := by decide +kernel
theorem dX11_together_95 : decode cX11_together 95 = .ok (.bastore, 1) := by decide +kernel
theorem dX11_together_96 : decode cX11_together 96 = .ok (.iinc 5 1, 3) := by decide +kernel
theorem dX11_together_99 : decode cX11_together 99 = .ok (.goto (-84), 3) := by decide +kernel
theorem dX11_together_102 : decode cX11_together 102 = .ok (.iinc 4 1, 3) := by decide +kernel
theorem dX11_together_105 : decode cX11_together 105 = .ok (.goto (-102), 3) := by decide +kernel
theorem dX11_together_108 : decode cX11_together 108 = .ok (.return_, 1) := by decide +kernel
theorem dX11_repeat_0 : decode cX11_repeat 0 = .ok (.iconst 0, 1) := by decide +kernel
theorem dX11_repeat_1 : decode cX11_repeat 1 = .ok (.istore 5, 2) := by decide +kernel
theorem dX11_repeat_3 : decode cX11_repeat 3 = .ok (.iload 5, 2) := by decide +kernel
theorem dX11_repeat_5 : decode cX11_repeat 5 = .ok (.aload_n 0, 1) := by decide +kernel
theorem dX11_repeat_6 : decode cX11_repeat 6 = .ok (.getfield 94, 3) := by decide +kernel
theorem dX11_repeat_9 : decode cX11_repeat 9 = .ok (.if_icmp .ge 26, 3) := by decide +kernel
theorem dX11_repeat_12 : decode cX11_repeat 12 = .ok (.aload_n 0, 1) := by decide +kernel
theorem dX11_repeat_13 : decode cX11_repeat 13 = .ok (.getfield 71, 3) := by decide +kernel
theorem dX11_repeat_16 : decode cX11_repeat 16 = .ok (.iload 5, 2) := by decide +kernel
theorem dX11_repeat_18 : decode cX11_repeat 18 = .ok (.iload 5, 2) := by decide +kernel
theorem dX11_repeat_20 : decode cX11_repeat 20 = .ok (.ifCond .ne 7, 3) := by decide +kernel
theorem dX11_repeat_23 : decode cX11_repeat 23 = .ok (.iconst 1, 1) := by decide +kernel
theorem dX11_repeat_24 : decode cX11_repeat 24 = .ok (.goto 4, 3) := by decide +kernel
theorem dX11_repeat_27 : decode cX11_repeat 27 = .ok (.iconst 0, 1) := by decide +kernel
theorem dX11_repeat_28 : decode cX11_repeat 28 = .ok (.bastore, 1) := by decide +kernel
theorem dX11_repeat_29 : decode cX11_repeat 29 = .ok (.iinc 5 1, 3) := by decide +kernel
theorem dX11_repeat_32 : decode cX11_repeat 32 = .ok (.goto (-29), 3) := by decide +kernel
theorem dX11_repeat_35 : decode cX11_repeat 35 = .ok (.iconst 0, 1) := by decide +kernel
theorem dX11_repeat_36 : decode cX11_repeat 36 = .ok (.istore 5, 2) := by decide +kernel
theorem dX11_repeat_38 : decode cX11_repeat 38 = .ok (.iload 5, 2) := by decide +kernel
theorem dX11_repeat_40 : decode cX11_repeat 40 = .ok (.iload 4, 2) := by decide +kernel
theorem dX11_repeat_42 : decode cX11_repeat 42 = .ok (.if_icmp .gt 231, 3) := by decide +kernel
theorem dX11_repeat_45 : decode cX11_repeat 45 = .ok (.iconst 0, 1) := by decide +kernel
