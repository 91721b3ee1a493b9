theorem dX11_find_47 : decode cX11_find 47 = .ok (.imul, 1) := by decide +kernel
theorem dX11_find_48 : decode cX11_find 48 = .ok (.iconst 2, 1) := by decide +kernel
theorem dX11_find_49 : decode cX11_find 49 = .ok (.iadd, 1) := by decide +kernel
theorem dX11_find_50 : decode cX11_find 50 = .ok (.iaload, 1) := by decide +kernel
theorem dX11_find_51 : decode cX11_find 51 = .ok (.iload_n 3, 1) := by decide +kernel
theorem dX11_find_52 : decode cX11_find 52 = .ok (.if_icmp .ne 6, 3) := by decide +kernel
theorem dX11_find_55 : decode cX11_find 55 = .ok (.iload 4, 2) := by decide +kernel
theorem dX11_find_57 : decode cX11_find 57 = .ok (.ireturn, 1) := by decide +kernel
theorem dX11_find_58 : decode cX11_find 58 = .ok (.iinc 4 1, 3) := by decide +kernel
theorem dX11_find_61 : decode cX11_find 61 = .ok (.goto (-58), 3) := by decide +kernel
theorem dX11_find_64 : decode cX11_find 64 = .ok (.iconst (-1), 1) := by decide +kernel
theorem dX11_find_65 : decode cX11_find 65 = .ok (.ireturn, 1) := by decide +kernel
theorem dX11_many_0 : decode cX11_many 0 = .ok (.iconst 0, 1) := by decide +kernel
theorem dX11_many_1 : decode cX11_many 1 = .ok (.istore_n 3, 1) := by decide +kernel
theorem dX11_many_2 : decode cX11_many 2 = .ok (.iconst 0, 1) := by decide +kernel
theorem dX11_many_3 : decode cX11_many 3 = .ok (.istore 4, 2) := by decide +kernel
theorem dX11_many_5 : decode cX11_many 5 = .ok (.iload 4, 2) := by decide +kernel
theorem dX11_many_7 : decode cX11_many 7 = .ok (.aload_n 0, 1) := by decide +kernel
theorem dX11_many_8 : decode cX11_many 8 = .ok (.getfield 100, 3) := by decide +kernel
theorem dX11_many_11 : decode cX11_many 11 = .ok (.if_icmp .ge 32, 3) := by decide +kernel
theorem dX11_many_14 : decode cX11_many 14 = .ok (.iload_n 3, 1) := by decide +kernel
theorem dX11_many_15 : decode cX11_many 15 = .ok (.aload_n 0, 1) := by decide +kernel
theorem dX11_many_16 : decode cX11_many 16 = .ok (.getfield 13, 3) := by decide +kernel
theorem dX11_many_19 : decode cX11_many 19 = .ok (.iconst 3, 1) := by decide +kernel
theorem dX11_many_20 : decode cX11_many 20 = .ok (.iload 4, 2) := by decide +kernel
theorem dX11_many_22 : decode cX11_many 22 = .ok (.imul, 1) := by decide +kernel
theorem dX11_many_23 : decode cX11_many 23 = .ok (.iload_n 2, 1) := by decide +kernel
theorem dX11_many_24 : decode cX11_many 24 = .ok (.iadd, 1) := by decide +kernel
theorem dX11_many_25 : decode cX11_many 25 = .ok (.iaload, 1) := by decide +kernel
theorem dX11_many_26 : decode cX11_many 26 = .ok (.iload_n 1, 1) := by decide +kernel
theorem dX11_many_27 : decode cX11_many 27 = .ok (.if_icmp .ne 7, 3) := by decide +kernel
theorem dX11_many_30 : decode cX11_many 30 = .ok (.iconst 1, 1) := by decide +kernel
theorem dX11_many_31 : decode cX11_many 31 = .ok (.goto 4, 3) := by decide +kernel
theorem dX11_many_34 : decode cX11_many 34 = .ok (.iconst 0, 1) := by decide +kernel
theorem dX11_many_35 : decode cX11_many 35 = .ok (.iadd, 1) := by decide +kernel
theorem dX11_many_36 : decode cX11_many 36 = .ok (.istore_n 3, 1) := by decide +kernel
theorem dX11_many_37 : decode cX11_many 37 = .ok (.iinc 4 1, 3) := by decide +kernel
theorem dX11_many_40 : decode cX11_many 40 = .ok (.goto (-35), 3) := by decide +kernel
theorem dX11_many_43 : decode cX11_many 43 = .ok (.iload_n 3, 1) := by decide +kernel
theorem dX11_many_44 : decode cX11_many 44 = .ok (.ireturn, 1) := by decide +kernel
theorem dX11_arc_0 : decode cX11_arc 0 = .ok (.aload_n 0, 1) := by decide +kernel
theorem dX11_arc_1 : decode cX11_arc 1 = .ok (.iconst 0, 1) := by decide +kernel
theorem dX11_arc_2 : decode cX11_arc 2 = .ok (.putfield 1, 3) := by decide +kernel
theorem dX11_arc_5 : decode cX11_arc 5 = .ok (.iload_n 1, 1) := by decide +kernel
theorem dX11_arc_6 : decode cX11_arc 6 = .ok (.invokestatic 103, 3) := by decide +kernel
theorem dX11_arc_9 : decode cX11_arc 9 = .ok (.ifCond .eq 17, 3) := by decide +kernel
theorem dX11_arc_12 : decode cX11_arc 12 = .ok (.iload_n 2, 1) := by decide +kernel
theorem dX11_arc_13 : decode cX11_arc 13 = .ok (.invokestatic 107, 3) := by decide +kernel
theorem dX11_arc_16 : decode cX11_arc 16 = .ok (.ifCond .eq 10, 3) := by decide +kernel
theorem dX11_arc_19 : decode cX11_arc 19 = .ok (.iload_n 3, 1) := by decide +kernel
theorem dX11_arc_20 : decode cX11_arc 20 = .ok (.invokestatic 103, 3) := by decide +kernel
theorem dX11_arc_23 : decode cX11_arc 23 = .ok (.ifCond .ne 5, 3) := by decide +kernel
theorem dX11_arc_26 : decode cX11_arc 26 = .ok (.iconst (-1), 1) := by decide +kernel
theorem dX11_arc_27 : decode cX11_arc 27 = .ok (.ireturn, 1) := by decide +kernel
theorem dX11_arc_28 : decode cX11_arc 28 = .ok (.aload_n 0, 1) := by decide +kernel
theorem dX11_arc_29 : decode cX11_arc 29 = .ok (.iload_n 1, 1) := by decide +kernel
theorem dX11_arc_30 : decode cX11_arc 30 = .ok (.iload_n 2, 1) := by decide +kernel
theorem dX11_arc_31 : decode cX11_arc 31 = .ok (.iload_n 3, 1) := by decide +kernel
theorem dX11_arc_32 : decode cX11_arc 32 = .ok (.invokevirtual 110, 3) := by decide +kernel
theorem dX11_arc_35 : decode cX11_arc 35 = .ok (.istore 5, 2) := by decide +kernel
