theorem dX11_make_54 : decode cX11_make 54 = .ok (.iload 4, 2) := by decide +kernel
theorem dX11_make_56 : decode cX11_make 56 = .ok (.iload 5, 2) := by decide +kernel
theorem dX11_make_58 : decode cX11_make 58 = .ok (.iadd, 1) := by decide +kernel
theorem dX11_make_59 : decode cX11_make 59 = .ok (.iconst 0, 1) := by decide +kernel
theorem dX11_make_60 : decode cX11_make 60 = .ok (.bastore, 1) := by decide +kernel
theorem dX11_make_61 : decode cX11_make 61 = .ok (.iinc 5 1, 3) := by decide +kernel
theorem dX11_make_64 : decode cX11_make 64 = .ok (.goto (-23), 3) := by decide +kernel
theorem dX11_make_67 : decode cX11_make 67 = .ok (.aload_n 0, 1) := by decide +kernel
theorem dX11_make_68 : decode cX11_make 68 = .ok (.getfield 17, 3) := by decide +kernel
theorem dX11_make_71 : decode cX11_make 71 = .ok (.iload_n 3, 1) := by decide +kernel
theorem dX11_make_72 : decode cX11_make 72 = .ok (.iaload, 1) := by decide +kernel
theorem dX11_make_73 : decode cX11_make 73 = .ok (.tableswitch 239 0 4 #[35, 35, 57, 86, 164], 35) := by decide +kernel
theorem dX11_make_108 : decode cX11_make 108 = .ok (.aload_n 0, 1) := by decide +kernel
theorem dX11_make_109 : decode cX11_make 109 = .ok (.getfield 55, 3) := by decide +kernel
theorem dX11_make_112 : decode cX11_make 112 = .ok (.iload 4, 2) := by decide +kernel
theorem dX11_make_114 : decode cX11_make 114 = .ok (.aload_n 0, 1) := by decide +kernel
theorem dX11_make_115 : decode cX11_make 115 = .ok (.getfield 51, 3) := by decide +kernel
theorem dX11_make_118 : decode cX11_make 118 = .ok (.aload_n 0, 1) := by decide +kernel
theorem dX11_make_119 : decode cX11_make 119 = .ok (.iload_n 3, 1) := by decide +kernel
theorem dX11_make_120 : decode cX11_make 120 = .ok (.invokevirtual 139, 3) := by decide +kernel
theorem dX11_make_123 : decode cX11_make 123 = .ok (.iaload, 1) := by decide +kernel
theorem dX11_make_124 : decode cX11_make 124 = .ok (.iadd, 1) := by decide +kernel
theorem dX11_make_125 : decode cX11_make 125 = .ok (.iconst 1, 1) := by decide +kernel
theorem dX11_make_126 : decode cX11_make 126 = .ok (.bastore, 1) := by decide +kernel
theorem dX11_make_127 : decode cX11_make 127 = .ok (.goto 193, 3) := by decide +kernel
theorem dX11_make_130 : decode cX11_make 130 = .ok (.aload_n 0, 1) := by decide +kernel
theorem dX11_make_131 : decode cX11_make 131 = .ok (.aload_n 0, 1) := by decide +kernel
theorem dX11_make_132 : decode cX11_make 132 = .ok (.aload_n 0, 1) := by decide +kernel
theorem dX11_make_133 : decode cX11_make 133 = .ok (.getfield 20, 3) := by decide +kernel
theorem dX11_make_136 : decode cX11_make 136 = .ok (.iload_n 3, 1) := by decide +kernel
theorem dX11_make_137 : decode cX11_make 137 = .ok (.iaload, 1) := by decide +kernel
theorem dX11_make_138 : decode cX11_make 138 = .ok (.invokevirtual 135, 3) := by decide +kernel
theorem dX11_make_141 : decode cX11_make 141 = .ok (.aload_n 0, 1) := by decide +kernel
theorem dX11_make_142 : decode cX11_make 142 = .ok (.aload_n 0, 1) := by decide +kernel
theorem dX11_make_143 : decode cX11_make 143 = .ok (.getfield 23, 3) := by decide +kernel
theorem dX11_make_146 : decode cX11_make 146 = .ok (.iload_n 3, 1) := by decide +kernel
theorem dX11_make_147 : decode cX11_make 147 = .ok (.iaload, 1) := by decide +kernel
theorem dX11_make_148 : decode cX11_make 148 = .ok (.invokevirtual 135, 3) := by decide +kernel
theorem dX11_make_151 : decode cX11_make 151 = .ok (.iload 4, 2) := by decide +kernel
theorem dX11_make_153 : decode cX11_make 153 = .ok (.invokevirtual 142, 3) := by decide +kernel
theorem dX11_make_156 : decode cX11_make 156 = .ok (.goto 164, 3) := by decide +kernel
theorem dX11_make_159 : decode cX11_make 159 = .ok (.iconst 0, 1) := by decide +kernel
theorem dX11_make_160 : decode cX11_make 160 = .ok (.istore 5, 2) := by decide +kernel
theorem dX11_make_162 : decode cX11_make 162 = .ok (.iload 5, 2) := by decide +kernel
theorem dX11_make_164 : decode cX11_make 164 = .ok (.aload_n 0, 1) := by decide +kernel
theorem dX11_make_165 : decode cX11_make 165 = .ok (.getfield 94, 3) := by decide +kernel
theorem dX11_make_168 : decode cX11_make 168 = .ok (.if_icmp .ge 66, 3) := by decide +kernel
theorem dX11_make_171 : decode cX11_make 171 = .ok (.aload_n 0, 1) := by decide +kernel
theorem dX11_make_172 : decode cX11_make 172 = .ok (.getfield 55, 3) := by decide +kernel
theorem dX11_make_175 : decode cX11_make 175 = .ok (.iload 4, 2) := by decide +kernel
theorem dX11_make_177 : decode cX11_make 177 = .ok (.iload 5, 2) := by decide +kernel
theorem dX11_make_179 : decode cX11_make 179 = .ok (.iadd, 1) := by decide +kernel
theorem dX11_make_180 : decode cX11_make 180 = .ok (.aload_n 0, 1) := by decide +kernel
theorem dX11_make_181 : decode cX11_make 181 = .ok (.getfield 55, 3) := by decide +kernel
theorem dX11_make_184 : decode cX11_make 184 = .ok (.aload_n 0, 1) := by decide +kernel
theorem dX11_make_185 : decode cX11_make 185 = .ok (.aload_n 0, 1) := by decide +kernel
theorem dX11_make_186 : decode cX11_make 186 = .ok (.getfield 20, 3) := by decide +kernel
theorem dX11_make_189 : decode cX11_make 189 = .ok (.iload_n 3, 1) := by decide +kernel
theorem dX11_make_190 : decode cX11_make 190 = .ok (.iaload, 1) := by decide +kernel
theorem dX11_make_191 : decode cX11_make 191 = .ok (.invokevirtual 135, 3) := by decide +kernel
