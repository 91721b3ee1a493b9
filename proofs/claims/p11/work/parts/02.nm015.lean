theorem dX11_make_302 : decode cX11_make 302 = .ok (.iaload, 1) := by decide +kernel
theorem dX11_make_303 : decode cX11_make 303 = .ok (.invokestatic 146, 3) := by decide +kernel
theorem dX11_make_306 : decode cX11_make 306 = .ok (.invokevirtual 149, 3) := by decide +kernel
theorem dX11_make_309 : decode cX11_make 309 = .ok (.goto 11, 3) := by decide +kernel
theorem dX11_make_312 : decode cX11_make 312 = .ok (.aload_n 0, 1) := by decide +kernel
theorem dX11_make_313 : decode cX11_make 313 = .ok (.getfield 55, 3) := by decide +kernel
theorem dX11_make_316 : decode cX11_make 316 = .ok (.iload 4, 2) := by decide +kernel
theorem dX11_make_318 : decode cX11_make 318 = .ok (.iconst 1, 1) := by decide +kernel
theorem dX11_make_319 : decode cX11_make 319 = .ok (.bastore, 1) := by decide +kernel
theorem dX11_make_320 : decode cX11_make 320 = .ok (.iinc 3 1, 3) := by decide +kernel
theorem dX11_make_323 : decode cX11_make 323 = .ok (.goto (-319), 3) := by decide +kernel
theorem dX11_make_326 : decode cX11_make 326 = .ok (.return_, 1) := by decide +kernel
theorem dX11_least_0 : decode cX11_least 0 = .ok (.iload_n 0, 1) := by decide +kernel
theorem dX11_least_1 : decode cX11_least 1 = .ok (.bipush 9, 2) := by decide +kernel
theorem dX11_least_3 : decode cX11_least 3 = .ok (.if_icmp .ge 7, 3) := by decide +kernel
theorem dX11_least_6 : decode cX11_least 6 = .ok (.iload_n 0, 1) := by decide +kernel
theorem dX11_least_7 : decode cX11_least 7 = .ok (.goto 5, 3) := by decide +kernel
theorem dX11_least_10 : decode cX11_least 10 = .ok (.bipush 9, 2) := by decide +kernel
theorem dX11_least_12 : decode cX11_least 12 = .ok (.ireturn, 1) := by decide +kernel
theorem dX11_unit_0 : decode cX11_unit 0 = .ok (.iconst 1, 1) := by decide +kernel
theorem dX11_unit_1 : decode cX11_unit 1 = .ok (.istore_n 2, 1) := by decide +kernel
theorem dX11_unit_2 : decode cX11_unit 2 = .ok (.iconst 0, 1) := by decide +kernel
theorem dX11_unit_3 : decode cX11_unit 3 = .ok (.istore_n 3, 1) := by decide +kernel
theorem dX11_unit_4 : decode cX11_unit 4 = .ok (.aload_n 0, 1) := by decide +kernel
theorem dX11_unit_5 : decode cX11_unit 5 = .ok (.getfield 62, 3) := by decide +kernel
theorem dX11_unit_8 : decode cX11_unit 8 = .ok (.iload_n 3, 1) := by decide +kernel
theorem dX11_unit_9 : decode cX11_unit 9 = .ok (.iaload, 1) := by decide +kernel
theorem dX11_unit_10 : decode cX11_unit 10 = .ok (.iload_n 1, 1) := by decide +kernel
theorem dX11_unit_11 : decode cX11_unit 11 = .ok (.if_icmp .eq 14, 3) := by decide +kernel
theorem dX11_unit_14 : decode cX11_unit 14 = .ok (.bipush 9, 2) := by decide +kernel
theorem dX11_unit_16 : decode cX11_unit 16 = .ok (.iload_n 2, 1) := by decide +kernel
theorem dX11_unit_17 : decode cX11_unit 17 = .ok (.imul, 1) := by decide +kernel
theorem dX11_unit_18 : decode cX11_unit 18 = .ok (.istore_n 2, 1) := by decide +kernel
theorem dX11_unit_19 : decode cX11_unit 19 = .ok (.iinc 3 1, 3) := by decide +kernel
theorem dX11_unit_22 : decode cX11_unit 22 = .ok (.goto (-18), 3) := by decide +kernel
theorem dX11_unit_25 : decode cX11_unit 25 = .ok (.iload_n 2, 1) := by decide +kernel
theorem dX11_unit_26 : decode cX11_unit 26 = .ok (.ireturn, 1) := by decide +kernel
theorem dX11_together_0 : decode cX11_together 0 = .ok (.iconst 0, 1) := by decide +kernel
theorem dX11_together_1 : decode cX11_together 1 = .ok (.istore 4, 2) := by decide +kernel
theorem dX11_together_3 : decode cX11_together 3 = .ok (.iload 4, 2) := by decide +kernel
theorem dX11_together_5 : decode cX11_together 5 = .ok (.aload_n 0, 1) := by decide +kernel
theorem dX11_together_6 : decode cX11_together 6 = .ok (.getfield 94, 3) := by decide +kernel
theorem dX11_together_9 : decode cX11_together 9 = .ok (.if_icmp .ge 99, 3) := by decide +kernel
theorem dX11_together_12 : decode cX11_together 12 = .ok (.iconst 0, 1) := by decide +kernel
theorem dX11_together_13 : decode cX11_together 13 = .ok (.istore 5, 2) := by decide +kernel
theorem dX11_together_15 : decode cX11_together 15 = .ok (.iload 5, 2) := by decide +kernel
theorem dX11_together_17 : decode cX11_together 17 = .ok (.aload_n 0, 1) := by decide +kernel
theorem dX11_together_18 : decode cX11_together 18 = .ok (.getfield 94, 3) := by decide +kernel
theorem dX11_together_21 : decode cX11_together 21 = .ok (.if_icmp .ge 81, 3) := by decide +kernel
theorem dX11_together_24 : decode cX11_together 24 = .ok (.aload_n 0, 1) := by decide +kernel
theorem dX11_together_25 : decode cX11_together 25 = .ok (.getfield 55, 3) := by decide +kernel
theorem dX11_together_28 : decode cX11_together 28 = .ok (.iload_n 1, 1) := by decide +kernel
theorem dX11_together_29 : decode cX11_together 29 = .ok (.iload 4, 2) := by decide +kernel
theorem dX11_together_31 : decode cX11_together 31 = .ok (.iadd, 1) := by decide +kernel
theorem dX11_together_32 : decode cX11_together 32 = .ok (.baload, 1) := by decide +kernel
theorem dX11_together_33 : decode cX11_together 33 = .ok (.ifCond .eq 69, 3) := by decide +kernel
theorem dX11_together_36 : decode cX11_together 36 = .ok (.aload_n 0, 1) := by decide +kernel
theorem dX11_together_37 : decode cX11_together 37 = .ok (.getfield 55, 3) := by decide +kernel
theorem dX11_together_40 : decode cX11_together 40 = .ok (.iload_n 2, 1) := by decide +kernel
theorem dX11_together_41 : decode cX11_together 41 = .ok (.iload 5, 2) := by decide +kernel
