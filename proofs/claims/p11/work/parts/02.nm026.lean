theorem dX11_holds_84 : decode cX11_holds 84 = .ok (.getfield 35, 3) := by decide +kernel
theorem dX11_holds_87 : decode cX11_holds 87 = .ok (.iload_n 2, 1) := by decide +kernel
theorem dX11_holds_88 : decode cX11_holds 88 = .ok (.iaload, 1) := by decide +kernel
theorem dX11_holds_89 : decode cX11_holds 89 = .ok (.iaload, 1) := by decide +kernel
theorem dX11_holds_90 : decode cX11_holds 90 = .ok (.iload_n 1, 1) := by decide +kernel
theorem dX11_holds_91 : decode cX11_holds 91 = .ok (.ishr, 1) := by decide +kernel
theorem dX11_holds_92 : decode cX11_holds 92 = .ok (.iconst 1, 1) := by decide +kernel
theorem dX11_holds_93 : decode cX11_holds 93 = .ok (.iand, 1) := by decide +kernel
theorem dX11_holds_94 : decode cX11_holds 94 = .ok (.iconst 1, 1) := by decide +kernel
theorem dX11_holds_95 : decode cX11_holds 95 = .ok (.if_icmp .ne 7, 3) := by decide +kernel
theorem dX11_holds_98 : decode cX11_holds 98 = .ok (.iconst 1, 1) := by decide +kernel
theorem dX11_holds_99 : decode cX11_holds 99 = .ok (.goto 4, 3) := by decide +kernel
theorem dX11_holds_102 : decode cX11_holds 102 = .ok (.iconst 0, 1) := by decide +kernel
theorem dX11_holds_103 : decode cX11_holds 103 = .ok (.ireturn, 1) := by decide +kernel
theorem dX11_holds_104 : decode cX11_holds 104 = .ok (.aload_n 0, 1) := by decide +kernel
theorem dX11_holds_105 : decode cX11_holds 105 = .ok (.getfield 41, 3) := by decide +kernel
theorem dX11_holds_108 : decode cX11_holds 108 = .ok (.iload_n 3, 1) := by decide +kernel
theorem dX11_holds_109 : decode cX11_holds 109 = .ok (.iaload, 1) := by decide +kernel
theorem dX11_holds_110 : decode cX11_holds 110 = .ok (.iload_n 1, 1) := by decide +kernel
theorem dX11_holds_111 : decode cX11_holds 111 = .ok (.ishr, 1) := by decide +kernel
theorem dX11_holds_112 : decode cX11_holds 112 = .ok (.iconst 1, 1) := by decide +kernel
theorem dX11_holds_113 : decode cX11_holds 113 = .ok (.iand, 1) := by decide +kernel
theorem dX11_holds_114 : decode cX11_holds 114 = .ok (.iconst 1, 1) := by decide +kernel
theorem dX11_holds_115 : decode cX11_holds 115 = .ok (.if_icmp .eq 22, 3) := by decide +kernel
theorem dX11_holds_118 : decode cX11_holds 118 = .ok (.aload_n 0, 1) := by decide +kernel
theorem dX11_holds_119 : decode cX11_holds 119 = .ok (.getfield 41, 3) := by decide +kernel
theorem dX11_holds_122 : decode cX11_holds 122 = .ok (.aload_n 0, 1) := by decide +kernel
theorem dX11_holds_123 : decode cX11_holds 123 = .ok (.getfield 35, 3) := by decide +kernel
theorem dX11_holds_126 : decode cX11_holds 126 = .ok (.iload_n 2, 1) := by decide +kernel
theorem dX11_holds_127 : decode cX11_holds 127 = .ok (.iaload, 1) := by decide +kernel
theorem dX11_holds_128 : decode cX11_holds 128 = .ok (.iaload, 1) := by decide +kernel
theorem dX11_holds_129 : decode cX11_holds 129 = .ok (.iload_n 1, 1) := by decide +kernel
theorem dX11_holds_130 : decode cX11_holds 130 = .ok (.ishr, 1) := by decide +kernel
theorem dX11_holds_131 : decode cX11_holds 131 = .ok (.iconst 1, 1) := by decide +kernel
theorem dX11_holds_132 : decode cX11_holds 132 = .ok (.iand, 1) := by decide +kernel
theorem dX11_holds_133 : decode cX11_holds 133 = .ok (.iconst 1, 1) := by decide +kernel
theorem dX11_holds_134 : decode cX11_holds 134 = .ok (.if_icmp .ne 7, 3) := by decide +kernel
theorem dX11_holds_137 : decode cX11_holds 137 = .ok (.iconst 1, 1) := by decide +kernel
theorem dX11_holds_138 : decode cX11_holds 138 = .ok (.goto 4, 3) := by decide +kernel
theorem dX11_holds_141 : decode cX11_holds 141 = .ok (.iconst 0, 1) := by decide +kernel
theorem dX11_holds_142 : decode cX11_holds 142 = .ok (.ireturn, 1) := by decide +kernel
theorem dX11_holds_143 : decode cX11_holds 143 = .ok (.aload_n 0, 1) := by decide +kernel
theorem dX11_holds_144 : decode cX11_holds 144 = .ok (.getfield 41, 3) := by decide +kernel
theorem dX11_holds_147 : decode cX11_holds 147 = .ok (.iload_n 3, 1) := by decide +kernel
theorem dX11_holds_148 : decode cX11_holds 148 = .ok (.iaload, 1) := by decide +kernel
theorem dX11_holds_149 : decode cX11_holds 149 = .ok (.iload_n 1, 1) := by decide +kernel
theorem dX11_holds_150 : decode cX11_holds 150 = .ok (.ishr, 1) := by decide +kernel
theorem dX11_holds_151 : decode cX11_holds 151 = .ok (.iconst 1, 1) := by decide +kernel
theorem dX11_holds_152 : decode cX11_holds 152 = .ok (.iand, 1) := by decide +kernel
theorem dX11_holds_153 : decode cX11_holds 153 = .ok (.ifCond .ne 7, 3) := by decide +kernel
theorem dX11_holds_156 : decode cX11_holds 156 = .ok (.iconst 1, 1) := by decide +kernel
theorem dX11_holds_157 : decode cX11_holds 157 = .ok (.goto 4, 3) := by decide +kernel
theorem dX11_holds_160 : decode cX11_holds 160 = .ok (.iconst 0, 1) := by decide +kernel
theorem dX11_holds_161 : decode cX11_holds 161 = .ok (.ireturn, 1) := by decide +kernel
theorem dX11_holds_162 : decode cX11_holds 162 = .ok (.iload_n 3, 1) := by decide +kernel
theorem dX11_holds_163 : decode cX11_holds 163 = .ok (.iload_n 1, 1) := by decide +kernel
theorem dX11_holds_164 : decode cX11_holds 164 = .ok (.ishr, 1) := by decide +kernel
theorem dX11_holds_165 : decode cX11_holds 165 = .ok (.iconst 1, 1) := by decide +kernel
theorem dX11_holds_166 : decode cX11_holds 166 = .ok (.iand, 1) := by decide +kernel
theorem dX11_holds_167 : decode cX11_holds 167 = .ok (.iconst 1, 1) := by decide +kernel
