theorem dX11_loose_135 : decode cX11_loose 135 = .ok (.iconst 0, 1) := by decide +kernel
theorem dX11_loose_136 : decode cX11_loose 136 = .ok (.iadd, 1) := by decide +kernel
theorem dX11_loose_137 : decode cX11_loose 137 = .ok (.istore_n 3, 1) := by decide +kernel
theorem dX11_loose_138 : decode cX11_loose 138 = .ok (.iinc 4 1, 3) := by decide +kernel
theorem dX11_loose_141 : decode cX11_loose 141 = .ok (.goto (-90), 3) := by decide +kernel
theorem dX11_loose_144 : decode cX11_loose 144 = .ok (.iload_n 3, 1) := by decide +kernel
theorem dX11_loose_145 : decode cX11_loose 145 = .ok (.ireturn, 1) := by decide +kernel
theorem dX11_isLoose_0 : decode cX11_isLoose 0 = .ok (.aload_n 0, 1) := by decide +kernel
theorem dX11_isLoose_1 : decode cX11_isLoose 1 = .ok (.iload_n 1, 1) := by decide +kernel
theorem dX11_isLoose_2 : decode cX11_isLoose 2 = .ok (.iload_n 2, 1) := by decide +kernel
theorem dX11_isLoose_3 : decode cX11_isLoose 3 = .ok (.iload_n 3, 1) := by decide +kernel
theorem dX11_isLoose_4 : decode cX11_isLoose 4 = .ok (.invokevirtual 170, 3) := by decide +kernel
theorem dX11_isLoose_7 : decode cX11_isLoose 7 = .ok (.ifCond .eq 5, 3) := by decide +kernel
theorem dX11_isLoose_10 : decode cX11_isLoose 10 = .ok (.iconst 0, 1) := by decide +kernel
theorem dX11_isLoose_11 : decode cX11_isLoose 11 = .ok (.ireturn, 1) := by decide +kernel
theorem dX11_isLoose_12 : decode cX11_isLoose 12 = .ok (.iconst 0, 1) := by decide +kernel
theorem dX11_isLoose_13 : decode cX11_isLoose 13 = .ok (.istore 4, 2) := by decide +kernel
theorem dX11_isLoose_15 : decode cX11_isLoose 15 = .ok (.iload 4, 2) := by decide +kernel
theorem dX11_isLoose_17 : decode cX11_isLoose 17 = .ok (.aload_n 0, 1) := by decide +kernel
theorem dX11_isLoose_18 : decode cX11_isLoose 18 = .ok (.getfield 128, 3) := by decide +kernel
theorem dX11_isLoose_21 : decode cX11_isLoose 21 = .ok (.if_icmp .ge 27, 3) := by decide +kernel
theorem dX11_isLoose_24 : decode cX11_isLoose 24 = .ok (.aload_n 0, 1) := by decide +kernel
theorem dX11_isLoose_25 : decode cX11_isLoose 25 = .ok (.aload_n 0, 1) := by decide +kernel
theorem dX11_isLoose_26 : decode cX11_isLoose 26 = .ok (.getfield 62, 3) := by decide +kernel
theorem dX11_isLoose_29 : decode cX11_isLoose 29 = .ok (.iload 4, 2) := by decide +kernel
theorem dX11_isLoose_31 : decode cX11_isLoose 31 = .ok (.iaload, 1) := by decide +kernel
theorem dX11_isLoose_32 : decode cX11_isLoose 32 = .ok (.iload_n 2, 1) := by decide +kernel
theorem dX11_isLoose_33 : decode cX11_isLoose 33 = .ok (.iload_n 3, 1) := by decide +kernel
theorem dX11_isLoose_34 : decode cX11_isLoose 34 = .ok (.invokevirtual 173, 3) := by decide +kernel
theorem dX11_isLoose_37 : decode cX11_isLoose 37 = .ok (.ifCond .eq 5, 3) := by decide +kernel
theorem dX11_isLoose_40 : decode cX11_isLoose 40 = .ok (.iconst 0, 1) := by decide +kernel
theorem dX11_isLoose_41 : decode cX11_isLoose 41 = .ok (.ireturn, 1) := by decide +kernel
theorem dX11_isLoose_42 : decode cX11_isLoose 42 = .ok (.iinc 4 1, 3) := by decide +kernel
theorem dX11_isLoose_45 : decode cX11_isLoose 45 = .ok (.goto (-30), 3) := by decide +kernel
theorem dX11_isLoose_48 : decode cX11_isLoose 48 = .ok (.iconst 1, 1) := by decide +kernel
theorem dX11_isLoose_49 : decode cX11_isLoose 49 = .ok (.ireturn, 1) := by decide +kernel
theorem dX11_ways_0 : decode cX11_ways 0 = .ok (.aload_n 0, 1) := by decide +kernel
theorem dX11_ways_1 : decode cX11_ways 1 = .ok (.iconst 0, 1) := by decide +kernel
theorem dX11_ways_2 : decode cX11_ways 2 = .ok (.putfield 1, 3) := by decide +kernel
theorem dX11_ways_5 : decode cX11_ways 5 = .ok (.iload_n 1, 1) := by decide +kernel
theorem dX11_ways_6 : decode cX11_ways 6 = .ok (.invokestatic 103, 3) := by decide +kernel
theorem dX11_ways_9 : decode cX11_ways 9 = .ok (.ifCond .eq 11, 3) := by decide +kernel
theorem dX11_ways_12 : decode cX11_ways 12 = .ok (.aload_n 0, 1) := by decide +kernel
theorem dX11_ways_13 : decode cX11_ways 13 = .ok (.iload_n 2, 1) := by decide +kernel
theorem dX11_ways_14 : decode cX11_ways 14 = .ok (.invokevirtual 206, 3) := by decide +kernel
theorem dX11_ways_17 : decode cX11_ways 17 = .ok (.ifCond .ne 5, 3) := by decide +kernel
theorem dX11_ways_20 : decode cX11_ways 20 = .ok (.iconst (-1), 1) := by decide +kernel
theorem dX11_ways_21 : decode cX11_ways 21 = .ok (.ireturn, 1) := by decide +kernel
theorem dX11_ways_22 : decode cX11_ways 22 = .ok (.aload_n 0, 1) := by decide +kernel
theorem dX11_ways_23 : decode cX11_ways 23 = .ok (.invokevirtual 203, 3) := by decide +kernel
theorem dX11_ways_26 : decode cX11_ways 26 = .ok (.aload_n 0, 1) := by decide +kernel
theorem dX11_ways_27 : decode cX11_ways 27 = .ok (.getfield 187, 3) := by decide +kernel
theorem dX11_ways_30 : decode cX11_ways 30 = .ok (.ifCond .lt 6, 3) := by decide +kernel
theorem dX11_ways_33 : decode cX11_ways 33 = .ok (.bipush (-3), 2) := by decide +kernel
theorem dX11_ways_35 : decode cX11_ways 35 = .ok (.ireturn, 1) := by decide +kernel
theorem dX11_ways_36 : decode cX11_ways 36 = .ok (.aload_n 0, 1) := by decide +kernel
theorem dX11_ways_37 : decode cX11_ways 37 = .ok (.iload_n 1, 1) := by decide +kernel
theorem dX11_ways_38 : decode cX11_ways 38 = .ok (.iload_n 2, 1) := by decide +kernel
theorem dX11_ways_39 : decode cX11_ways 39 = .ok (.invokevirtual 176, 3) := by decide +kernel
theorem dX11_ways_42 : decode cX11_ways 42 = .ok (.lstore_n 3, 1) := by decide +kernel
