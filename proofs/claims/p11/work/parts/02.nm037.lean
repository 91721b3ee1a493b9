theorem dX11_ways_43 : decode cX11_ways 43 = .ok (.lload_n 3, 1) := by decide +kernel
theorem dX11_ways_44 : decode cX11_ways 44 = .ok (.ldc2_w 212, 3) := by decide +kernel
theorem dX11_ways_47 : decode cX11_ways 47 = .ok (.lcmp, 1) := by decide +kernel
theorem dX11_ways_48 : decode cX11_ways 48 = .ok (.ifCond .ge 8, 3) := by decide +kernel
theorem dX11_ways_51 : decode cX11_ways 51 = .ok (.lload_n 3, 1) := by decide +kernel
theorem dX11_ways_52 : decode cX11_ways 52 = .ok (.l2i, 1) := by decide +kernel
theorem dX11_ways_53 : decode cX11_ways 53 = .ok (.goto 5, 3) := by decide +kernel
theorem dX11_ways_56 : decode cX11_ways 56 = .ok (.ldc 214, 2) := by decide +kernel
theorem dX11_ways_58 : decode cX11_ways 58 = .ok (.ireturn, 1) := by decide +kernel
theorem dL_other_0 : decode cL_other 0 = .ok (.aload 4, 2) := by decide +kernel
theorem dL_other_2 : decode cL_other 2 = .ok (.iconst 0, 1) := by decide +kernel
theorem dL_other_3 : decode cL_other 3 = .ok (.aload_n 0, 1) := by decide +kernel
theorem dL_other_4 : decode cL_other 4 = .ok (.iload_n 1, 1) := by decide +kernel
theorem dL_other_5 : decode cL_other 5 = .ok (.iload_n 2, 1) := by decide +kernel
theorem dL_other_6 : decode cL_other 6 = .ok (.iload_n 3, 1) := by decide +kernel
theorem dL_other_7 : decode cL_other 7 = .ok (.invokevirtual 7, 3) := by decide +kernel
theorem dL_other_10 : decode cL_other 10 = .ok (.i2l, 1) := by decide +kernel
theorem dL_other_11 : decode cL_other 11 = .ok (.lastore, 1) := by decide +kernel
theorem dL_other_12 : decode cL_other 12 = .ok (.goto 7, 3) := by decide +kernel
theorem dL_other_15 : decode cL_other 15 = .ok (.astore 5, 2) := by decide +kernel
theorem dL_other_17 : decode cL_other 17 = .ok (.iconst 1, 1) := by decide +kernel
theorem dL_other_18 : decode cL_other 18 = .ok (.ireturn, 1) := by decide +kernel
theorem dL_other_19 : decode cL_other 19 = .ok (.iconst 0, 1) := by decide +kernel
theorem dL_other_20 : decode cL_other 20 = .ok (.ireturn, 1) := by decide +kernel
theorem dL_law_0 : decode cL_law 0 = .ok (.new 8, 3) := by decide +kernel
theorem dL_law_3 : decode cL_law 3 = .ok (.dup, 1) := by decide +kernel
theorem dL_law_4 : decode cL_law 4 = .ok (.invokespecial 15, 3) := by decide +kernel
theorem dL_law_7 : decode cL_law 7 = .ok (.astore_n 1, 1) := by decide +kernel
theorem dL_law_8 : decode cL_law 8 = .ok (.new 16, 3) := by decide +kernel
theorem dL_law_11 : decode cL_law 11 = .ok (.dup, 1) := by decide +kernel
theorem dL_law_12 : decode cL_law 12 = .ok (.invokespecial 18, 3) := by decide +kernel
theorem dL_law_15 : decode cL_law 15 = .ok (.astore_n 2, 1) := by decide +kernel
theorem dL_law_16 : decode cL_law 16 = .ok (.iconst 1, 1) := by decide +kernel
theorem dL_law_17 : decode cL_law 17 = .ok (.newarray .long, 2) := by decide +kernel
theorem dL_law_19 : decode cL_law 19 = .ok (.astore_n 3, 1) := by decide +kernel
theorem dL_law_20 : decode cL_law 20 = .ok (.iconst 0, 1) := by decide +kernel
theorem dL_law_21 : decode cL_law 21 = .ok (.istore 4, 2) := by decide +kernel
theorem dL_law_23 : decode cL_law 23 = .ok (.iload 4, 2) := by decide +kernel
theorem dL_law_25 : decode cL_law 25 = .ok (.aload_n 0, 1) := by decide +kernel
theorem dL_law_26 : decode cL_law 26 = .ok (.arraylength, 1) := by decide +kernel
theorem dL_law_27 : decode cL_law 27 = .ok (.bipush 6, 2) := by decide +kernel
theorem dL_law_29 : decode cL_law 29 = .ok (.isub, 1) := by decide +kernel
theorem dL_law_30 : decode cL_law 30 = .ok (.if_icmp .gt 541, 3) := by decide +kernel
theorem dL_law_33 : decode cL_law 33 = .ok (.aload_n 0, 1) := by decide +kernel
theorem dL_law_34 : decode cL_law 34 = .ok (.iload 4, 2) := by decide +kernel
theorem dL_law_36 : decode cL_law 36 = .ok (.iaload, 1) := by decide +kernel
theorem dL_law_37 : decode cL_law 37 = .ok (.bipush 15, 2) := by decide +kernel
theorem dL_law_39 : decode cL_law 39 = .ok (.iand, 1) := by decide +kernel
theorem dL_law_40 : decode cL_law 40 = .ok (.tableswitch 525 0 9 #[56, 133, 194, 267, 304, 329, 342, 379, 416, 429], 56) := by decide +kernel
theorem dL_law_96 : decode cL_law 96 = .ok (.aload_n 1, 1) := by decide +kernel
theorem dL_law_97 : decode cL_law 97 = .ok (.aload_n 0, 1) := by decide +kernel
theorem dL_law_98 : decode cL_law 98 = .ok (.iload 4, 2) := by decide +kernel
theorem dL_law_100 : decode cL_law 100 = .ok (.iconst 1, 1) := by decide +kernel
theorem dL_law_101 : decode cL_law 101 = .ok (.iadd, 1) := by decide +kernel
theorem dL_law_102 : decode cL_law 102 = .ok (.iaload, 1) := by decide +kernel
theorem dL_law_103 : decode cL_law 103 = .ok (.aload_n 0, 1) := by decide +kernel
theorem dL_law_104 : decode cL_law 104 = .ok (.iload 4, 2) := by decide +kernel
theorem dL_law_106 : decode cL_law 106 = .ok (.iconst 2, 1) := by decide +kernel
theorem dL_law_107 : decode cL_law 107 = .ok (.iadd, 1) := by decide +kernel
theorem dL_law_108 : decode cL_law 108 = .ok (.iaload, 1) := by decide +kernel
