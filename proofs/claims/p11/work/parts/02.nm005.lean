theorem dX11_arc_37 : decode cX11_arc 37 = .ok (.iload 4, 2) := by decide +kernel
theorem dX11_arc_39 : decode cX11_arc 39 = .ok (.iload 5, 2) := by decide +kernel
theorem dX11_arc_41 : decode cX11_arc 41 = .ok (.ifCond .lt 7, 3) := by decide +kernel
theorem dX11_arc_44 : decode cX11_arc 44 = .ok (.iconst 1, 1) := by decide +kernel
theorem dX11_arc_45 : decode cX11_arc 45 = .ok (.goto 4, 3) := by decide +kernel
theorem dX11_arc_48 : decode cX11_arc 48 = .ok (.iconst 0, 1) := by decide +kernel
theorem dX11_arc_49 : decode cX11_arc 49 = .ok (.if_icmp .ne 5, 3) := by decide +kernel
theorem dX11_arc_52 : decode cX11_arc 52 = .ok (.iconst 0, 1) := by decide +kernel
theorem dX11_arc_53 : decode cX11_arc 53 = .ok (.ireturn, 1) := by decide +kernel
theorem dX11_arc_54 : decode cX11_arc 54 = .ok (.iload 4, 2) := by decide +kernel
theorem dX11_arc_56 : decode cX11_arc 56 = .ok (.ifCond .eq 88, 3) := by decide +kernel
theorem dX11_arc_59 : decode cX11_arc 59 = .ok (.aload_n 0, 1) := by decide +kernel
theorem dX11_arc_60 : decode cX11_arc 60 = .ok (.getfield 100, 3) := by decide +kernel
theorem dX11_arc_63 : decode cX11_arc 63 = .ok (.bipush 60, 2) := by decide +kernel
theorem dX11_arc_65 : decode cX11_arc 65 = .ok (.if_icmp .eq 23, 3) := by decide +kernel
theorem dX11_arc_68 : decode cX11_arc 68 = .ok (.aload_n 0, 1) := by decide +kernel
theorem dX11_arc_69 : decode cX11_arc 69 = .ok (.iload_n 1, 1) := by decide +kernel
theorem dX11_arc_70 : decode cX11_arc 70 = .ok (.iconst 0, 1) := by decide +kernel
theorem dX11_arc_71 : decode cX11_arc 71 = .ok (.invokevirtual 114, 3) := by decide +kernel
theorem dX11_arc_74 : decode cX11_arc 74 = .ok (.iconst 4, 1) := by decide +kernel
theorem dX11_arc_75 : decode cX11_arc 75 = .ok (.if_icmp .eq 13, 3) := by decide +kernel
theorem dX11_arc_78 : decode cX11_arc 78 = .ok (.aload_n 0, 1) := by decide +kernel
theorem dX11_arc_79 : decode cX11_arc 79 = .ok (.iload_n 3, 1) := by decide +kernel
theorem dX11_arc_80 : decode cX11_arc 80 = .ok (.iconst 2, 1) := by decide +kernel
theorem dX11_arc_81 : decode cX11_arc 81 = .ok (.invokevirtual 114, 3) := by decide +kernel
theorem dX11_arc_84 : decode cX11_arc 84 = .ok (.iconst 4, 1) := by decide +kernel
theorem dX11_arc_85 : decode cX11_arc 85 = .ok (.if_icmp .ne 6, 3) := by decide +kernel
theorem dX11_arc_88 : decode cX11_arc 88 = .ok (.bipush (-2), 2) := by decide +kernel
theorem dX11_arc_90 : decode cX11_arc 90 = .ok (.ireturn, 1) := by decide +kernel
theorem dX11_arc_91 : decode cX11_arc 91 = .ok (.aload_n 0, 1) := by decide +kernel
theorem dX11_arc_92 : decode cX11_arc 92 = .ok (.getfield 13, 3) := by decide +kernel
theorem dX11_arc_95 : decode cX11_arc 95 = .ok (.iconst 3, 1) := by decide +kernel
theorem dX11_arc_96 : decode cX11_arc 96 = .ok (.aload_n 0, 1) := by decide +kernel
theorem dX11_arc_97 : decode cX11_arc 97 = .ok (.getfield 100, 3) := by decide +kernel
theorem dX11_arc_100 : decode cX11_arc 100 = .ok (.imul, 1) := by decide +kernel
theorem dX11_arc_101 : decode cX11_arc 101 = .ok (.iload_n 1, 1) := by decide +kernel
theorem dX11_arc_102 : decode cX11_arc 102 = .ok (.iastore, 1) := by decide +kernel
theorem dX11_arc_103 : decode cX11_arc 103 = .ok (.aload_n 0, 1) := by decide +kernel
theorem dX11_arc_104 : decode cX11_arc 104 = .ok (.getfield 13, 3) := by decide +kernel
theorem dX11_arc_107 : decode cX11_arc 107 = .ok (.iconst 3, 1) := by decide +kernel
theorem dX11_arc_108 : decode cX11_arc 108 = .ok (.aload_n 0, 1) := by decide +kernel
theorem dX11_arc_109 : decode cX11_arc 109 = .ok (.getfield 100, 3) := by decide +kernel
theorem dX11_arc_112 : decode cX11_arc 112 = .ok (.imul, 1) := by decide +kernel
theorem dX11_arc_113 : decode cX11_arc 113 = .ok (.iconst 1, 1) := by decide +kernel
theorem dX11_arc_114 : decode cX11_arc 114 = .ok (.iadd, 1) := by decide +kernel
theorem dX11_arc_115 : decode cX11_arc 115 = .ok (.iload_n 2, 1) := by decide +kernel
theorem dX11_arc_116 : decode cX11_arc 116 = .ok (.iastore, 1) := by decide +kernel
theorem dX11_arc_117 : decode cX11_arc 117 = .ok (.aload_n 0, 1) := by decide +kernel
theorem dX11_arc_118 : decode cX11_arc 118 = .ok (.getfield 13, 3) := by decide +kernel
theorem dX11_arc_121 : decode cX11_arc 121 = .ok (.iconst 3, 1) := by decide +kernel
theorem dX11_arc_122 : decode cX11_arc 122 = .ok (.aload_n 0, 1) := by decide +kernel
theorem dX11_arc_123 : decode cX11_arc 123 = .ok (.getfield 100, 3) := by decide +kernel
theorem dX11_arc_126 : decode cX11_arc 126 = .ok (.imul, 1) := by decide +kernel
theorem dX11_arc_127 : decode cX11_arc 127 = .ok (.iconst 2, 1) := by decide +kernel
theorem dX11_arc_128 : decode cX11_arc 128 = .ok (.iadd, 1) := by decide +kernel
theorem dX11_arc_129 : decode cX11_arc 129 = .ok (.iload_n 3, 1) := by decide +kernel
theorem dX11_arc_130 : decode cX11_arc 130 = .ok (.iastore, 1) := by decide +kernel
theorem dX11_arc_131 : decode cX11_arc 131 = .ok (.aload_n 0, 1) := by decide +kernel
theorem dX11_arc_132 : decode cX11_arc 132 = .ok (.dup, 1) := by decide +kernel
theorem dX11_arc_133 : decode cX11_arc 133 = .ok (.getfield 100, 3) := by decide +kernel
