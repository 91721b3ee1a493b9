theorem dX11_findRings_131 : decode cX11_findRings 131 = .ok (.iload_n 2, 1) := by decide +kernel
theorem dX11_findRings_132 : decode cX11_findRings 132 = .ok (.ifCond .lt 56, 3) := by decide +kernel
theorem dX11_findRings_135 : decode cX11_findRings 135 = .ok (.iconst 0, 1) := by decide +kernel
theorem dX11_findRings_136 : decode cX11_findRings 136 = .ok (.istore_n 3, 1) := by decide +kernel
theorem dX11_findRings_137 : decode cX11_findRings 137 = .ok (.iload_n 3, 1) := by decide +kernel
theorem dX11_findRings_138 : decode cX11_findRings 138 = .ok (.bipush 16, 2) := by decide +kernel
theorem dX11_findRings_140 : decode cX11_findRings 140 = .ok (.if_icmp .ge 42, 3) := by decide +kernel
theorem dX11_findRings_143 : decode cX11_findRings 143 = .ok (.aload_n 0, 1) := by decide +kernel
theorem dX11_findRings_144 : decode cX11_findRings 144 = .ok (.getfield 29, 3) := by decide +kernel
theorem dX11_findRings_147 : decode cX11_findRings 147 = .ok (.iload_n 3, 1) := by decide +kernel
theorem dX11_findRings_148 : decode cX11_findRings 148 = .ok (.iaload, 1) := by decide +kernel
theorem dX11_findRings_149 : decode cX11_findRings 149 = .ok (.iconst 3, 1) := by decide +kernel
theorem dX11_findRings_150 : decode cX11_findRings 150 = .ok (.if_icmp .ne 26, 3) := by decide +kernel
theorem dX11_findRings_153 : decode cX11_findRings 153 = .ok (.aload_n 0, 1) := by decide +kernel
theorem dX11_findRings_154 : decode cX11_findRings 154 = .ok (.iload_n 2, 1) := by decide +kernel
theorem dX11_findRings_155 : decode cX11_findRings 155 = .ok (.iload_n 3, 1) := by decide +kernel
theorem dX11_findRings_156 : decode cX11_findRings 156 = .ok (.invokevirtual 183, 3) := by decide +kernel
theorem dX11_findRings_159 : decode cX11_findRings 159 = .ok (.ifCond .eq 17, 3) := by decide +kernel
theorem dX11_findRings_162 : decode cX11_findRings 162 = .ok (.aload_n 0, 1) := by decide +kernel
theorem dX11_findRings_163 : decode cX11_findRings 163 = .ok (.iload_n 3, 1) := by decide +kernel
theorem dX11_findRings_164 : decode cX11_findRings 164 = .ok (.iload_n 2, 1) := by decide +kernel
theorem dX11_findRings_165 : decode cX11_findRings 165 = .ok (.invokevirtual 183, 3) := by decide +kernel
theorem dX11_findRings_168 : decode cX11_findRings 168 = .ok (.ifCond .eq 8, 3) := by decide +kernel
theorem dX11_findRings_171 : decode cX11_findRings 171 = .ok (.aload_n 0, 1) := by decide +kernel
theorem dX11_findRings_172 : decode cX11_findRings 172 = .ok (.iload_n 2, 1) := by decide +kernel
theorem dX11_findRings_173 : decode cX11_findRings 173 = .ok (.putfield 187, 3) := by decide +kernel
theorem dX11_findRings_176 : decode cX11_findRings 176 = .ok (.iinc 3 1, 3) := by decide +kernel
theorem dX11_findRings_179 : decode cX11_findRings 179 = .ok (.goto (-42), 3) := by decide +kernel
theorem dX11_findRings_182 : decode cX11_findRings 182 = .ok (.iinc 2 (-1), 3) := by decide +kernel
theorem dX11_findRings_185 : decode cX11_findRings 185 = .ok (.goto (-54), 3) := by decide +kernel
theorem dX11_findRings_188 : decode cX11_findRings 188 = .ok (.return_, 1) := by decide +kernel
theorem dX11_isReady_0 : decode cX11_isReady 0 = .ok (.iconst 0, 1) := by decide +kernel
theorem dX11_isReady_1 : decode cX11_isReady 1 = .ok (.istore_n 3, 1) := by decide +kernel
theorem dX11_isReady_2 : decode cX11_isReady 2 = .ok (.iload_n 3, 1) := by decide +kernel
theorem dX11_isReady_3 : decode cX11_isReady 3 = .ok (.bipush 16, 2) := by decide +kernel
theorem dX11_isReady_5 : decode cX11_isReady 5 = .ok (.if_icmp .ge 37, 3) := by decide +kernel
theorem dX11_isReady_8 : decode cX11_isReady 8 = .ok (.aload_n 0, 1) := by decide +kernel
theorem dX11_isReady_9 : decode cX11_isReady 9 = .ok (.iload_n 1, 1) := by decide +kernel
theorem dX11_isReady_10 : decode cX11_isReady 10 = .ok (.iload_n 3, 1) := by decide +kernel
theorem dX11_isReady_11 : decode cX11_isReady 11 = .ok (.invokevirtual 183, 3) := by decide +kernel
theorem dX11_isReady_14 : decode cX11_isReady 14 = .ok (.ifCond .eq 22, 3) := by decide +kernel
theorem dX11_isReady_17 : decode cX11_isReady 17 = .ok (.aload_n 0, 1) := by decide +kernel
theorem dX11_isReady_18 : decode cX11_isReady 18 = .ok (.iload_n 3, 1) := by decide +kernel
theorem dX11_isReady_19 : decode cX11_isReady 19 = .ok (.iload_n 1, 1) := by decide +kernel
theorem dX11_isReady_20 : decode cX11_isReady 20 = .ok (.invokevirtual 183, 3) := by decide +kernel
theorem dX11_isReady_23 : decode cX11_isReady 23 = .ok (.ifCond .ne 13, 3) := by decide +kernel
theorem dX11_isReady_26 : decode cX11_isReady 26 = .ok (.iload_n 2, 1) := by decide +kernel
theorem dX11_isReady_27 : decode cX11_isReady 27 = .ok (.iload_n 3, 1) := by decide +kernel
theorem dX11_isReady_28 : decode cX11_isReady 28 = .ok (.ishr, 1) := by decide +kernel
theorem dX11_isReady_29 : decode cX11_isReady 29 = .ok (.iconst 1, 1) := by decide +kernel
theorem dX11_isReady_30 : decode cX11_isReady 30 = .ok (.iand, 1) := by decide +kernel
theorem dX11_isReady_31 : decode cX11_isReady 31 = .ok (.ifCond .ne 5, 3) := by decide +kernel
theorem dX11_isReady_34 : decode cX11_isReady 34 = .ok (.iconst 0, 1) := by decide +kernel
theorem dX11_isReady_35 : decode cX11_isReady 35 = .ok (.ireturn, 1) := by decide +kernel
theorem dX11_isReady_36 : decode cX11_isReady 36 = .ok (.iinc 3 1, 3) := by decide +kernel
theorem dX11_isReady_39 : decode cX11_isReady 39 = .ok (.goto (-37), 3) := by decide +kernel
theorem dX11_isReady_42 : decode cX11_isReady 42 = .ok (.iload_n 2, 1) := by decide +kernel
theorem dX11_isReady_43 : decode cX11_isReady 43 = .ok (.iload_n 1, 1) := by decide +kernel
theorem dX11_isReady_44 : decode cX11_isReady 44 = .ok (.ishr, 1) := by decide +kernel
theorem dX11_isReady_45 : decode cX11_isReady 45 = .ok (.iconst 1, 1) := by decide +kernel
