theorem dX11_findRings_26 : decode cX11_findRings 26 = .ok (.istore_n 1, 1) := by decide +kernel
theorem dX11_findRings_27 : decode cX11_findRings 27 = .ok (.iload_n 1, 1) := by decide +kernel
theorem dX11_findRings_28 : decode cX11_findRings 28 = .ok (.ifCond .eq 95, 3) := by decide +kernel
theorem dX11_findRings_31 : decode cX11_findRings 31 = .ok (.iconst 0, 1) := by decide +kernel
theorem dX11_findRings_32 : decode cX11_findRings 32 = .ok (.istore_n 1, 1) := by decide +kernel
theorem dX11_findRings_33 : decode cX11_findRings 33 = .ok (.iconst 0, 1) := by decide +kernel
theorem dX11_findRings_34 : decode cX11_findRings 34 = .ok (.istore_n 2, 1) := by decide +kernel
theorem dX11_findRings_35 : decode cX11_findRings 35 = .ok (.iload_n 2, 1) := by decide +kernel
theorem dX11_findRings_36 : decode cX11_findRings 36 = .ok (.bipush 16, 2) := by decide +kernel
theorem dX11_findRings_38 : decode cX11_findRings 38 = .ok (.if_icmp .ge 82, 3) := by decide +kernel
theorem dX11_findRings_41 : decode cX11_findRings 41 = .ok (.aload_n 0, 1) := by decide +kernel
theorem dX11_findRings_42 : decode cX11_findRings 42 = .ok (.getfield 91, 3) := by decide +kernel
theorem dX11_findRings_45 : decode cX11_findRings 45 = .ok (.iload_n 2, 1) := by decide +kernel
theorem dX11_findRings_46 : decode cX11_findRings 46 = .ok (.iaload, 1) := by decide +kernel
theorem dX11_findRings_47 : decode cX11_findRings 47 = .ok (.istore_n 3, 1) := by decide +kernel
theorem dX11_findRings_48 : decode cX11_findRings 48 = .ok (.iconst 0, 1) := by decide +kernel
theorem dX11_findRings_49 : decode cX11_findRings 49 = .ok (.istore 4, 2) := by decide +kernel
theorem dX11_findRings_51 : decode cX11_findRings 51 = .ok (.iload 4, 2) := by decide +kernel
theorem dX11_findRings_53 : decode cX11_findRings 53 = .ok (.bipush 16, 2) := by decide +kernel
theorem dX11_findRings_55 : decode cX11_findRings 55 = .ok (.if_icmp .ge 39, 3) := by decide +kernel
theorem dX11_findRings_58 : decode cX11_findRings 58 = .ok (.aload_n 0, 1) := by decide +kernel
theorem dX11_findRings_59 : decode cX11_findRings 59 = .ok (.getfield 91, 3) := by decide +kernel
theorem dX11_findRings_62 : decode cX11_findRings 62 = .ok (.iload_n 2, 1) := by decide +kernel
theorem dX11_findRings_63 : decode cX11_findRings 63 = .ok (.dup2, 1) := by decide +kernel
theorem dX11_findRings_64 : decode cX11_findRings 64 = .ok (.iaload, 1) := by decide +kernel
theorem dX11_findRings_65 : decode cX11_findRings 65 = .ok (.aload_n 0, 1) := by decide +kernel
theorem dX11_findRings_66 : decode cX11_findRings 66 = .ok (.iload_n 2, 1) := by decide +kernel
theorem dX11_findRings_67 : decode cX11_findRings 67 = .ok (.iload 4, 2) := by decide +kernel
theorem dX11_findRings_69 : decode cX11_findRings 69 = .ok (.invokevirtual 183, 3) := by decide +kernel
theorem dX11_findRings_72 : decode cX11_findRings 72 = .ok (.ifCond .eq 13, 3) := by decide +kernel
theorem dX11_findRings_75 : decode cX11_findRings 75 = .ok (.aload_n 0, 1) := by decide +kernel
theorem dX11_findRings_76 : decode cX11_findRings 76 = .ok (.getfield 91, 3) := by decide +kernel
theorem dX11_findRings_79 : decode cX11_findRings 79 = .ok (.iload 4, 2) := by decide +kernel
theorem dX11_findRings_81 : decode cX11_findRings 81 = .ok (.iaload, 1) := by decide +kernel
theorem dX11_findRings_82 : decode cX11_findRings 82 = .ok (.goto 4, 3) := by decide +kernel
theorem dX11_findRings_85 : decode cX11_findRings 85 = .ok (.iconst 0, 1) := by decide +kernel
theorem dX11_findRings_86 : decode cX11_findRings 86 = .ok (.ior, 1) := by decide +kernel
theorem dX11_findRings_87 : decode cX11_findRings 87 = .ok (.iastore, 1) := by decide +kernel
theorem dX11_findRings_88 : decode cX11_findRings 88 = .ok (.iinc 4 1, 3) := by decide +kernel
theorem dX11_findRings_91 : decode cX11_findRings 91 = .ok (.goto (-40), 3) := by decide +kernel
theorem dX11_findRings_94 : decode cX11_findRings 94 = .ok (.iload_n 1, 1) := by decide +kernel
theorem dX11_findRings_95 : decode cX11_findRings 95 = .ok (.ifCond .ne 13, 3) := by decide +kernel
theorem dX11_findRings_98 : decode cX11_findRings 98 = .ok (.aload_n 0, 1) := by decide +kernel
theorem dX11_findRings_99 : decode cX11_findRings 99 = .ok (.getfield 91, 3) := by decide +kernel
theorem dX11_findRings_102 : decode cX11_findRings 102 = .ok (.iload_n 2, 1) := by decide +kernel
theorem dX11_findRings_103 : decode cX11_findRings 103 = .ok (.iaload, 1) := by decide +kernel
theorem dX11_findRings_104 : decode cX11_findRings 104 = .ok (.iload_n 3, 1) := by decide +kernel
theorem dX11_findRings_105 : decode cX11_findRings 105 = .ok (.if_icmp .eq 7, 3) := by decide +kernel
theorem dX11_findRings_108 : decode cX11_findRings 108 = .ok (.iconst 1, 1) := by decide +kernel
theorem dX11_findRings_109 : decode cX11_findRings 109 = .ok (.goto 4, 3) := by decide +kernel
theorem dX11_findRings_112 : decode cX11_findRings 112 = .ok (.iconst 0, 1) := by decide +kernel
theorem dX11_findRings_113 : decode cX11_findRings 113 = .ok (.istore_n 1, 1) := by decide +kernel
theorem dX11_findRings_114 : decode cX11_findRings 114 = .ok (.iinc 2 1, 3) := by decide +kernel
theorem dX11_findRings_117 : decode cX11_findRings 117 = .ok (.goto (-82), 3) := by decide +kernel
theorem dX11_findRings_120 : decode cX11_findRings 120 = .ok (.goto (-93), 3) := by decide +kernel
theorem dX11_findRings_123 : decode cX11_findRings 123 = .ok (.aload_n 0, 1) := by decide +kernel
theorem dX11_findRings_124 : decode cX11_findRings 124 = .ok (.iconst (-1), 1) := by decide +kernel
theorem dX11_findRings_125 : decode cX11_findRings 125 = .ok (.putfield 187, 3) := by decide +kernel
theorem dX11_findRings_128 : decode cX11_findRings 128 = .ok (.bipush 15, 2) := by decide +kernel
theorem dX11_findRings_130 : decode cX11_findRings 130 = .ok (.istore_n 2, 1) := by decide +kernel
