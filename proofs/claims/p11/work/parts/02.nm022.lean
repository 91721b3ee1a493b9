theorem dX11_weigh_29 : decode cX11_weigh 29 = .ok (.iload_n 2, 1) := by decide +kernel
theorem dX11_weigh_30 : decode cX11_weigh 30 = .ok (.iaload, 1) := by decide +kernel
theorem dX11_weigh_31 : decode cX11_weigh 31 = .ok (.invokevirtual 159, 3) := by decide +kernel
theorem dX11_weigh_34 : decode cX11_weigh 34 = .ok (.iconst 0, 1) := by decide +kernel
theorem dX11_weigh_35 : decode cX11_weigh 35 = .ok (.istore_n 3, 1) := by decide +kernel
theorem dX11_weigh_36 : decode cX11_weigh 36 = .ok (.iload_n 3, 1) := by decide +kernel
theorem dX11_weigh_37 : decode cX11_weigh 37 = .ok (.aload_n 0, 1) := by decide +kernel
theorem dX11_weigh_38 : decode cX11_weigh 38 = .ok (.getfield 94, 3) := by decide +kernel
theorem dX11_weigh_41 : decode cX11_weigh 41 = .ok (.if_icmp .ge 24, 3) := by decide +kernel
theorem dX11_weigh_44 : decode cX11_weigh 44 = .ok (.aload_n 0, 1) := by decide +kernel
theorem dX11_weigh_45 : decode cX11_weigh 45 = .ok (.getfield 84, 3) := by decide +kernel
theorem dX11_weigh_48 : decode cX11_weigh 48 = .ok (.iload_n 3, 1) := by decide +kernel
theorem dX11_weigh_49 : decode cX11_weigh 49 = .ok (.iload_n 3, 1) := by decide +kernel
theorem dX11_weigh_50 : decode cX11_weigh 50 = .ok (.ifCond .ne 7, 3) := by decide +kernel
theorem dX11_weigh_53 : decode cX11_weigh 53 = .ok (.lconst 1, 1) := by decide +kernel
theorem dX11_weigh_54 : decode cX11_weigh 54 = .ok (.goto 4, 3) := by decide +kernel
theorem dX11_weigh_57 : decode cX11_weigh 57 = .ok (.lconst 0, 1) := by decide +kernel
theorem dX11_weigh_58 : decode cX11_weigh 58 = .ok (.lastore, 1) := by decide +kernel
theorem dX11_weigh_59 : decode cX11_weigh 59 = .ok (.iinc 3 1, 3) := by decide +kernel
theorem dX11_weigh_62 : decode cX11_weigh 62 = .ok (.goto (-26), 3) := by decide +kernel
theorem dX11_weigh_65 : decode cX11_weigh 65 = .ok (.iconst 0, 1) := by decide +kernel
theorem dX11_weigh_66 : decode cX11_weigh 66 = .ok (.istore_n 3, 1) := by decide +kernel
theorem dX11_weigh_67 : decode cX11_weigh 67 = .ok (.iload_n 3, 1) := by decide +kernel
theorem dX11_weigh_68 : decode cX11_weigh 68 = .ok (.iconst 2, 1) := by decide +kernel
theorem dX11_weigh_69 : decode cX11_weigh 69 = .ok (.aload_n 0, 1) := by decide +kernel
theorem dX11_weigh_70 : decode cX11_weigh 70 = .ok (.getfield 100, 3) := by decide +kernel
theorem dX11_weigh_73 : decode cX11_weigh 73 = .ok (.imul, 1) := by decide +kernel
theorem dX11_weigh_74 : decode cX11_weigh 74 = .ok (.if_icmp .ge 70, 3) := by decide +kernel
theorem dX11_weigh_77 : decode cX11_weigh 77 = .ok (.iload_n 3, 1) := by decide +kernel
theorem dX11_weigh_78 : decode cX11_weigh 78 = .ok (.iconst 2, 1) := by decide +kernel
theorem dX11_weigh_79 : decode cX11_weigh 79 = .ok (.irem, 1) := by decide +kernel
theorem dX11_weigh_80 : decode cX11_weigh 80 = .ok (.ifCond .ne 7, 3) := by decide +kernel
theorem dX11_weigh_83 : decode cX11_weigh 83 = .ok (.iconst 1, 1) := by decide +kernel
theorem dX11_weigh_84 : decode cX11_weigh 84 = .ok (.goto 4, 3) := by decide +kernel
theorem dX11_weigh_87 : decode cX11_weigh 87 = .ok (.iconst 0, 1) := by decide +kernel
theorem dX11_weigh_88 : decode cX11_weigh 88 = .ok (.istore 4, 2) := by decide +kernel
theorem dX11_weigh_90 : decode cX11_weigh 90 = .ok (.aload_n 0, 1) := by decide +kernel
theorem dX11_weigh_91 : decode cX11_weigh 91 = .ok (.getfield 13, 3) := by decide +kernel
theorem dX11_weigh_94 : decode cX11_weigh 94 = .ok (.iconst 3, 1) := by decide +kernel
theorem dX11_weigh_95 : decode cX11_weigh 95 = .ok (.iload_n 3, 1) := by decide +kernel
theorem dX11_weigh_96 : decode cX11_weigh 96 = .ok (.iconst 2, 1) := by decide +kernel
theorem dX11_weigh_97 : decode cX11_weigh 97 = .ok (.idiv, 1) := by decide +kernel
theorem dX11_weigh_98 : decode cX11_weigh 98 = .ok (.imul, 1) := by decide +kernel
theorem dX11_weigh_99 : decode cX11_weigh 99 = .ok (.iload 4, 2) := by decide +kernel
theorem dX11_weigh_101 : decode cX11_weigh 101 = .ok (.ifCond .eq 7, 3) := by decide +kernel
theorem dX11_weigh_104 : decode cX11_weigh 104 = .ok (.iconst 0, 1) := by decide +kernel
theorem dX11_weigh_105 : decode cX11_weigh 105 = .ok (.goto 4, 3) := by decide +kernel
theorem dX11_weigh_108 : decode cX11_weigh 108 = .ok (.iconst 2, 1) := by decide +kernel
theorem dX11_weigh_109 : decode cX11_weigh 109 = .ok (.iadd, 1) := by decide +kernel
theorem dX11_weigh_110 : decode cX11_weigh 110 = .ok (.iaload, 1) := by decide +kernel
theorem dX11_weigh_111 : decode cX11_weigh 111 = .ok (.iload_n 1, 1) := by decide +kernel
theorem dX11_weigh_112 : decode cX11_weigh 112 = .ok (.if_icmp .ne 26, 3) := by decide +kernel
theorem dX11_weigh_115 : decode cX11_weigh 115 = .ok (.aload_n 0, 1) := by decide +kernel
theorem dX11_weigh_116 : decode cX11_weigh 116 = .ok (.iload_n 2, 1) := by decide +kernel
theorem dX11_weigh_117 : decode cX11_weigh 117 = .ok (.iload_n 3, 1) := by decide +kernel
theorem dX11_weigh_118 : decode cX11_weigh 118 = .ok (.iconst 2, 1) := by decide +kernel
theorem dX11_weigh_119 : decode cX11_weigh 119 = .ok (.idiv, 1) := by decide +kernel
theorem dX11_weigh_120 : decode cX11_weigh 120 = .ok (.iload 4, 2) := by decide +kernel
theorem dX11_weigh_122 : decode cX11_weigh 122 = .ok (.invokevirtual 162, 3) := by decide +kernel
theorem dX11_weigh_125 : decode cX11_weigh 125 = .ok (.ifCond .eq 13, 3) := by decide +kernel
