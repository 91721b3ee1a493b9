theorem dX11_refers_79 : decode cX11_refers 79 = .ok (.istore_n 3, 1) := by decide +kernel
theorem dX11_refers_80 : decode cX11_refers 80 = .ok (.iload_n 3, 1) := by decide +kernel
theorem dX11_refers_81 : decode cX11_refers 81 = .ok (.aload_n 0, 1) := by decide +kernel
theorem dX11_refers_82 : decode cX11_refers 82 = .ok (.getfield 128, 3) := by decide +kernel
theorem dX11_refers_85 : decode cX11_refers 85 = .ok (.if_icmp .ge 43, 3) := by decide +kernel
theorem dX11_refers_88 : decode cX11_refers 88 = .ok (.iload_n 2, 1) := by decide +kernel
theorem dX11_refers_89 : decode cX11_refers 89 = .ok (.aload_n 0, 1) := by decide +kernel
theorem dX11_refers_90 : decode cX11_refers 90 = .ok (.getfield 23, 3) := by decide +kernel
theorem dX11_refers_93 : decode cX11_refers 93 = .ok (.aload_n 0, 1) := by decide +kernel
theorem dX11_refers_94 : decode cX11_refers 94 = .ok (.getfield 62, 3) := by decide +kernel
theorem dX11_refers_97 : decode cX11_refers 97 = .ok (.iload_n 3, 1) := by decide +kernel
theorem dX11_refers_98 : decode cX11_refers 98 = .ok (.iaload, 1) := by decide +kernel
theorem dX11_refers_99 : decode cX11_refers 99 = .ok (.iaload, 1) := by decide +kernel
theorem dX11_refers_100 : decode cX11_refers 100 = .ok (.ifCond .lt 19, 3) := by decide +kernel
theorem dX11_refers_103 : decode cX11_refers 103 = .ok (.iconst 1, 1) := by decide +kernel
theorem dX11_refers_104 : decode cX11_refers 104 = .ok (.aload_n 0, 1) := by decide +kernel
theorem dX11_refers_105 : decode cX11_refers 105 = .ok (.getfield 23, 3) := by decide +kernel
theorem dX11_refers_108 : decode cX11_refers 108 = .ok (.aload_n 0, 1) := by decide +kernel
theorem dX11_refers_109 : decode cX11_refers 109 = .ok (.getfield 62, 3) := by decide +kernel
theorem dX11_refers_112 : decode cX11_refers 112 = .ok (.iload_n 3, 1) := by decide +kernel
theorem dX11_refers_113 : decode cX11_refers 113 = .ok (.iaload, 1) := by decide +kernel
theorem dX11_refers_114 : decode cX11_refers 114 = .ok (.iaload, 1) := by decide +kernel
theorem dX11_refers_115 : decode cX11_refers 115 = .ok (.ishl, 1) := by decide +kernel
theorem dX11_refers_116 : decode cX11_refers 116 = .ok (.goto 4, 3) := by decide +kernel
theorem dX11_refers_119 : decode cX11_refers 119 = .ok (.iconst 0, 1) := by decide +kernel
theorem dX11_refers_120 : decode cX11_refers 120 = .ok (.ior, 1) := by decide +kernel
theorem dX11_refers_121 : decode cX11_refers 121 = .ok (.istore_n 2, 1) := by decide +kernel
theorem dX11_refers_122 : decode cX11_refers 122 = .ok (.iinc 3 1, 3) := by decide +kernel
theorem dX11_refers_125 : decode cX11_refers 125 = .ok (.goto (-45), 3) := by decide +kernel
theorem dX11_refers_128 : decode cX11_refers 128 = .ok (.iload_n 2, 1) := by decide +kernel
theorem dX11_refers_129 : decode cX11_refers 129 = .ok (.ireturn, 1) := by decide +kernel
theorem dX11_comesTo_0 : decode cX11_comesTo 0 = .ok (.aload_n 0, 1) := by decide +kernel
theorem dX11_comesTo_1 : decode cX11_comesTo 1 = .ok (.getfield 91, 3) := by decide +kernel
theorem dX11_comesTo_4 : decode cX11_comesTo 4 = .ok (.iload_n 1, 1) := by decide +kernel
theorem dX11_comesTo_5 : decode cX11_comesTo 5 = .ok (.iaload, 1) := by decide +kernel
theorem dX11_comesTo_6 : decode cX11_comesTo 6 = .ok (.iload_n 2, 1) := by decide +kernel
theorem dX11_comesTo_7 : decode cX11_comesTo 7 = .ok (.ishr, 1) := by decide +kernel
theorem dX11_comesTo_8 : decode cX11_comesTo 8 = .ok (.iconst 1, 1) := by decide +kernel
theorem dX11_comesTo_9 : decode cX11_comesTo 9 = .ok (.iand, 1) := by decide +kernel
theorem dX11_comesTo_10 : decode cX11_comesTo 10 = .ok (.iconst 1, 1) := by decide +kernel
theorem dX11_comesTo_11 : decode cX11_comesTo 11 = .ok (.if_icmp .ne 7, 3) := by decide +kernel
theorem dX11_comesTo_14 : decode cX11_comesTo 14 = .ok (.iconst 1, 1) := by decide +kernel
theorem dX11_comesTo_15 : decode cX11_comesTo 15 = .ok (.goto 4, 3) := by decide +kernel
theorem dX11_comesTo_18 : decode cX11_comesTo 18 = .ok (.iconst 0, 1) := by decide +kernel
theorem dX11_comesTo_19 : decode cX11_comesTo 19 = .ok (.ireturn, 1) := by decide +kernel
theorem dX11_findRings_0 : decode cX11_findRings 0 = .ok (.iconst 0, 1) := by decide +kernel
theorem dX11_findRings_1 : decode cX11_findRings 1 = .ok (.istore_n 1, 1) := by decide +kernel
theorem dX11_findRings_2 : decode cX11_findRings 2 = .ok (.iload_n 1, 1) := by decide +kernel
theorem dX11_findRings_3 : decode cX11_findRings 3 = .ok (.bipush 16, 2) := by decide +kernel
theorem dX11_findRings_5 : decode cX11_findRings 5 = .ok (.if_icmp .ge 20, 3) := by decide +kernel
theorem dX11_findRings_8 : decode cX11_findRings 8 = .ok (.aload_n 0, 1) := by decide +kernel
theorem dX11_findRings_9 : decode cX11_findRings 9 = .ok (.getfield 91, 3) := by decide +kernel
theorem dX11_findRings_12 : decode cX11_findRings 12 = .ok (.iload_n 1, 1) := by decide +kernel
theorem dX11_findRings_13 : decode cX11_findRings 13 = .ok (.aload_n 0, 1) := by decide +kernel
theorem dX11_findRings_14 : decode cX11_findRings 14 = .ok (.iload_n 1, 1) := by decide +kernel
theorem dX11_findRings_15 : decode cX11_findRings 15 = .ok (.invokevirtual 180, 3) := by decide +kernel
theorem dX11_findRings_18 : decode cX11_findRings 18 = .ok (.iastore, 1) := by decide +kernel
theorem dX11_findRings_19 : decode cX11_findRings 19 = .ok (.iinc 1 1, 3) := by decide +kernel
theorem dX11_findRings_22 : decode cX11_findRings 22 = .ok (.goto (-20), 3) := by decide +kernel
theorem dX11_findRings_25 : decode cX11_findRings 25 = .ok (.iconst 1, 1) := by decide +kernel
