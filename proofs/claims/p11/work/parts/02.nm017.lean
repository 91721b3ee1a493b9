theorem dX11_repeat_46 : decode cX11_repeat 46 = .ok (.istore 6, 2) := by decide +kernel
theorem dX11_repeat_48 : decode cX11_repeat 48 = .ok (.iload 6, 2) := by decide +kernel
theorem dX11_repeat_50 : decode cX11_repeat 50 = .ok (.aload_n 0, 1) := by decide +kernel
theorem dX11_repeat_51 : decode cX11_repeat 51 = .ok (.getfield 94, 3) := by decide +kernel
theorem dX11_repeat_54 : decode cX11_repeat 54 = .ok (.if_icmp .ge 51, 3) := by decide +kernel
theorem dX11_repeat_57 : decode cX11_repeat 57 = .ok (.iload 5, 2) := by decide +kernel
theorem dX11_repeat_59 : decode cX11_repeat 59 = .ok (.iload_n 3, 1) := by decide +kernel
theorem dX11_repeat_60 : decode cX11_repeat 60 = .ok (.if_icmp .lt 45, 3) := by decide +kernel
theorem dX11_repeat_63 : decode cX11_repeat 63 = .ok (.aload_n 0, 1) := by decide +kernel
theorem dX11_repeat_64 : decode cX11_repeat 64 = .ok (.getfield 55, 3) := by decide +kernel
theorem dX11_repeat_67 : decode cX11_repeat 67 = .ok (.iload_n 2, 1) := by decide +kernel
theorem dX11_repeat_68 : decode cX11_repeat 68 = .ok (.iload 6, 2) := by decide +kernel
theorem dX11_repeat_70 : decode cX11_repeat 70 = .ok (.iadd, 1) := by decide +kernel
theorem dX11_repeat_71 : decode cX11_repeat 71 = .ok (.aload_n 0, 1) := by decide +kernel
theorem dX11_repeat_72 : decode cX11_repeat 72 = .ok (.getfield 55, 3) := by decide +kernel
theorem dX11_repeat_75 : decode cX11_repeat 75 = .ok (.iload_n 2, 1) := by decide +kernel
theorem dX11_repeat_76 : decode cX11_repeat 76 = .ok (.iload 6, 2) := by decide +kernel
theorem dX11_repeat_78 : decode cX11_repeat 78 = .ok (.iadd, 1) := by decide +kernel
theorem dX11_repeat_79 : decode cX11_repeat 79 = .ok (.baload, 1) := by decide +kernel
theorem dX11_repeat_80 : decode cX11_repeat 80 = .ok (.ifCond .ne 13, 3) := by decide +kernel
theorem dX11_repeat_83 : decode cX11_repeat 83 = .ok (.aload_n 0, 1) := by decide +kernel
theorem dX11_repeat_84 : decode cX11_repeat 84 = .ok (.getfield 71, 3) := by decide +kernel
theorem dX11_repeat_87 : decode cX11_repeat 87 = .ok (.iload 6, 2) := by decide +kernel
theorem dX11_repeat_89 : decode cX11_repeat 89 = .ok (.baload, 1) := by decide +kernel
theorem dX11_repeat_90 : decode cX11_repeat 90 = .ok (.ifCond .eq 7, 3) := by decide +kernel
theorem dX11_repeat_93 : decode cX11_repeat 93 = .ok (.iconst 1, 1) := by decide +kernel
theorem dX11_repeat_94 : decode cX11_repeat 94 = .ok (.goto 4, 3) := by decide +kernel
theorem dX11_repeat_97 : decode cX11_repeat 97 = .ok (.iconst 0, 1) := by decide +kernel
theorem dX11_repeat_98 : decode cX11_repeat 98 = .ok (.bastore, 1) := by decide +kernel
theorem dX11_repeat_99 : decode cX11_repeat 99 = .ok (.iinc 6 1, 3) := by decide +kernel
theorem dX11_repeat_102 : decode cX11_repeat 102 = .ok (.goto (-54), 3) := by decide +kernel
theorem dX11_repeat_105 : decode cX11_repeat 105 = .ok (.iconst 0, 1) := by decide +kernel
theorem dX11_repeat_106 : decode cX11_repeat 106 = .ok (.istore 6, 2) := by decide +kernel
theorem dX11_repeat_108 : decode cX11_repeat 108 = .ok (.iload 6, 2) := by decide +kernel
theorem dX11_repeat_110 : decode cX11_repeat 110 = .ok (.aload_n 0, 1) := by decide +kernel
theorem dX11_repeat_111 : decode cX11_repeat 111 = .ok (.getfield 94, 3) := by decide +kernel
theorem dX11_repeat_114 : decode cX11_repeat 114 = .ok (.if_icmp .ge 17, 3) := by decide +kernel
theorem dX11_repeat_117 : decode cX11_repeat 117 = .ok (.aload_n 0, 1) := by decide +kernel
theorem dX11_repeat_118 : decode cX11_repeat 118 = .ok (.getfield 74, 3) := by decide +kernel
theorem dX11_repeat_121 : decode cX11_repeat 121 = .ok (.iload 6, 2) := by decide +kernel
theorem dX11_repeat_123 : decode cX11_repeat 123 = .ok (.iconst 0, 1) := by decide +kernel
theorem dX11_repeat_124 : decode cX11_repeat 124 = .ok (.bastore, 1) := by decide +kernel
theorem dX11_repeat_125 : decode cX11_repeat 125 = .ok (.iinc 6 1, 3) := by decide +kernel
theorem dX11_repeat_128 : decode cX11_repeat 128 = .ok (.goto (-20), 3) := by decide +kernel
theorem dX11_repeat_131 : decode cX11_repeat 131 = .ok (.iconst 0, 1) := by decide +kernel
theorem dX11_repeat_132 : decode cX11_repeat 132 = .ok (.istore 6, 2) := by decide +kernel
theorem dX11_repeat_134 : decode cX11_repeat 134 = .ok (.iload 6, 2) := by decide +kernel
theorem dX11_repeat_136 : decode cX11_repeat 136 = .ok (.aload_n 0, 1) := by decide +kernel
theorem dX11_repeat_137 : decode cX11_repeat 137 = .ok (.getfield 94, 3) := by decide +kernel
theorem dX11_repeat_140 : decode cX11_repeat 140 = .ok (.if_icmp .ge 95, 3) := by decide +kernel
theorem dX11_repeat_143 : decode cX11_repeat 143 = .ok (.iconst 0, 1) := by decide +kernel
theorem dX11_repeat_144 : decode cX11_repeat 144 = .ok (.istore 7, 2) := by decide +kernel
theorem dX11_repeat_146 : decode cX11_repeat 146 = .ok (.iload 7, 2) := by decide +kernel
theorem dX11_repeat_148 : decode cX11_repeat 148 = .ok (.aload_n 0, 1) := by decide +kernel
theorem dX11_repeat_149 : decode cX11_repeat 149 = .ok (.getfield 94, 3) := by decide +kernel
theorem dX11_repeat_152 : decode cX11_repeat 152 = .ok (.if_icmp .ge 77, 3) := by decide +kernel
theorem dX11_repeat_155 : decode cX11_repeat 155 = .ok (.aload_n 0, 1) := by decide +kernel
theorem dX11_repeat_156 : decode cX11_repeat 156 = .ok (.getfield 71, 3) := by decide +kernel
theorem dX11_repeat_159 : decode cX11_repeat 159 = .ok (.iload 6, 2) := by decide +kernel
theorem dX11_repeat_161 : decode cX11_repeat 161 = .ok (.baload, 1) := by decide +kernel
