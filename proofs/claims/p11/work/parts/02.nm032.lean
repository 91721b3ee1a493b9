theorem dX11_reckon_95 : decode cX11_reckon 95 = .ok (.iinc 4 1, 3) := by decide +kernel
theorem dX11_reckon_98 : decode cX11_reckon 98 = .ok (.goto (-41), 3) := by decide +kernel
theorem dX11_reckon_101 : decode cX11_reckon 101 = .ok (.iconst 0, 1) := by decide +kernel
theorem dX11_reckon_102 : decode cX11_reckon 102 = .ok (.istore 4, 2) := by decide +kernel
theorem dX11_reckon_104 : decode cX11_reckon 104 = .ok (.iload 4, 2) := by decide +kernel
theorem dX11_reckon_106 : decode cX11_reckon 106 = .ok (.bipush 16, 2) := by decide +kernel
theorem dX11_reckon_108 : decode cX11_reckon 108 = .ok (.if_icmp .ge 38, 3) := by decide +kernel
theorem dX11_reckon_111 : decode cX11_reckon 111 = .ok (.aload_n 0, 1) := by decide +kernel
theorem dX11_reckon_112 : decode cX11_reckon 112 = .ok (.getfield 41, 3) := by decide +kernel
theorem dX11_reckon_115 : decode cX11_reckon 115 = .ok (.iload 4, 2) := by decide +kernel
theorem dX11_reckon_117 : decode cX11_reckon 117 = .ok (.iload_n 3, 1) := by decide +kernel
theorem dX11_reckon_118 : decode cX11_reckon 118 = .ok (.iload 4, 2) := by decide +kernel
theorem dX11_reckon_120 : decode cX11_reckon 120 = .ok (.ishr, 1) := by decide +kernel
theorem dX11_reckon_121 : decode cX11_reckon 121 = .ok (.iconst 1, 1) := by decide +kernel
theorem dX11_reckon_122 : decode cX11_reckon 122 = .ok (.iand, 1) := by decide +kernel
theorem dX11_reckon_123 : decode cX11_reckon 123 = .ok (.iconst 1, 1) := by decide +kernel
theorem dX11_reckon_124 : decode cX11_reckon 124 = .ok (.if_icmp .ne 8, 3) := by decide +kernel
theorem dX11_reckon_127 : decode cX11_reckon 127 = .ok (.ldc 193, 2) := by decide +kernel
theorem dX11_reckon_129 : decode cX11_reckon 129 = .ok (.goto 10, 3) := by decide +kernel
theorem dX11_reckon_132 : decode cX11_reckon 132 = .ok (.aload_n 0, 1) := by decide +kernel
theorem dX11_reckon_133 : decode cX11_reckon 133 = .ok (.getfield 41, 3) := by decide +kernel
theorem dX11_reckon_136 : decode cX11_reckon 136 = .ok (.iload 4, 2) := by decide +kernel
theorem dX11_reckon_138 : decode cX11_reckon 138 = .ok (.iaload, 1) := by decide +kernel
theorem dX11_reckon_139 : decode cX11_reckon 139 = .ok (.iastore, 1) := by decide +kernel
theorem dX11_reckon_140 : decode cX11_reckon 140 = .ok (.iinc 4 1, 3) := by decide +kernel
theorem dX11_reckon_143 : decode cX11_reckon 143 = .ok (.goto (-39), 3) := by decide +kernel
theorem dX11_reckon_146 : decode cX11_reckon 146 = .ok (.iconst 1, 1) := by decide +kernel
theorem dX11_reckon_147 : decode cX11_reckon 147 = .ok (.istore 4, 2) := by decide +kernel
theorem dX11_reckon_149 : decode cX11_reckon 149 = .ok (.iload 4, 2) := by decide +kernel
theorem dX11_reckon_151 : decode cX11_reckon 151 = .ok (.ifCond .eq 13, 3) := by decide +kernel
theorem dX11_reckon_154 : decode cX11_reckon 154 = .ok (.aload_n 0, 1) := by decide +kernel
theorem dX11_reckon_155 : decode cX11_reckon 155 = .ok (.iload_n 3, 1) := by decide +kernel
theorem dX11_reckon_156 : decode cX11_reckon 156 = .ok (.invokevirtual 197, 3) := by decide +kernel
theorem dX11_reckon_159 : decode cX11_reckon 159 = .ok (.istore 4, 2) := by decide +kernel
theorem dX11_reckon_161 : decode cX11_reckon 161 = .ok (.goto (-12), 3) := by decide +kernel
theorem dX11_reckon_164 : decode cX11_reckon 164 = .ok (.iload_n 1, 1) := by decide +kernel
theorem dX11_reckon_165 : decode cX11_reckon 165 = .ok (.iload_n 3, 1) := by decide +kernel
theorem dX11_reckon_166 : decode cX11_reckon 166 = .ok (.ior, 1) := by decide +kernel
theorem dX11_reckon_167 : decode cX11_reckon 167 = .ok (.istore_n 1, 1) := by decide +kernel
theorem dX11_reckon_168 : decode cX11_reckon 168 = .ok (.goto (-141), 3) := by decide +kernel
theorem dX11_reckon_171 : decode cX11_reckon 171 = .ok (.return_, 1) := by decide +kernel
theorem dX11_lose_0 : decode cX11_lose 0 = .ok (.iconst 0, 1) := by decide +kernel
theorem dX11_lose_1 : decode cX11_lose 1 = .ok (.istore_n 2, 1) := by decide +kernel
theorem dX11_lose_2 : decode cX11_lose 2 = .ok (.iconst 0, 1) := by decide +kernel
theorem dX11_lose_3 : decode cX11_lose 3 = .ok (.istore_n 3, 1) := by decide +kernel
theorem dX11_lose_4 : decode cX11_lose 4 = .ok (.iload_n 3, 1) := by decide +kernel
theorem dX11_lose_5 : decode cX11_lose 5 = .ok (.bipush 16, 2) := by decide +kernel
theorem dX11_lose_7 : decode cX11_lose 7 = .ok (.if_icmp .ge 80, 3) := by decide +kernel
theorem dX11_lose_10 : decode cX11_lose 10 = .ok (.iload_n 1, 1) := by decide +kernel
theorem dX11_lose_11 : decode cX11_lose 11 = .ok (.iload_n 3, 1) := by decide +kernel
theorem dX11_lose_12 : decode cX11_lose 12 = .ok (.ishr, 1) := by decide +kernel
theorem dX11_lose_13 : decode cX11_lose 13 = .ok (.iconst 1, 1) := by decide +kernel
theorem dX11_lose_14 : decode cX11_lose 14 = .ok (.iand, 1) := by decide +kernel
theorem dX11_lose_15 : decode cX11_lose 15 = .ok (.ifCond .ne 6, 3) := by decide +kernel
theorem dX11_lose_18 : decode cX11_lose 18 = .ok (.goto 63, 3) := by decide +kernel
theorem dX11_lose_21 : decode cX11_lose 21 = .ok (.iconst 0, 1) := by decide +kernel
theorem dX11_lose_22 : decode cX11_lose 22 = .ok (.istore 4, 2) := by decide +kernel
theorem dX11_lose_24 : decode cX11_lose 24 = .ok (.iload 4, 2) := by decide +kernel
theorem dX11_lose_26 : decode cX11_lose 26 = .ok (.bipush 16, 2) := by decide +kernel
theorem dX11_lose_28 : decode cX11_lose 28 = .ok (.if_icmp .ge 53, 3) := by decide +kernel
