theorem dX11_arc_136 : decode cX11_arc 136 = .ok (.iconst 1, 1) := by decide +kernel
theorem dX11_arc_137 : decode cX11_arc 137 = .ok (.iadd, 1) := by decide +kernel
theorem dX11_arc_138 : decode cX11_arc 138 = .ok (.putfield 100, 3) := by decide +kernel
theorem dX11_arc_141 : decode cX11_arc 141 = .ok (.goto 54, 3) := by decide +kernel
theorem dX11_arc_144 : decode cX11_arc 144 = .ok (.aload_n 0, 1) := by decide +kernel
theorem dX11_arc_145 : decode cX11_arc 145 = .ok (.dup, 1) := by decide +kernel
theorem dX11_arc_146 : decode cX11_arc 146 = .ok (.getfield 100, 3) := by decide +kernel
theorem dX11_arc_149 : decode cX11_arc 149 = .ok (.iconst 1, 1) := by decide +kernel
theorem dX11_arc_150 : decode cX11_arc 150 = .ok (.isub, 1) := by decide +kernel
theorem dX11_arc_151 : decode cX11_arc 151 = .ok (.putfield 100, 3) := by decide +kernel
theorem dX11_arc_154 : decode cX11_arc 154 = .ok (.iconst 0, 1) := by decide +kernel
theorem dX11_arc_155 : decode cX11_arc 155 = .ok (.istore 6, 2) := by decide +kernel
theorem dX11_arc_157 : decode cX11_arc 157 = .ok (.iload 6, 2) := by decide +kernel
theorem dX11_arc_159 : decode cX11_arc 159 = .ok (.iconst 3, 1) := by decide +kernel
theorem dX11_arc_160 : decode cX11_arc 160 = .ok (.if_icmp .ge 35, 3) := by decide +kernel
theorem dX11_arc_163 : decode cX11_arc 163 = .ok (.aload_n 0, 1) := by decide +kernel
theorem dX11_arc_164 : decode cX11_arc 164 = .ok (.getfield 13, 3) := by decide +kernel
theorem dX11_arc_167 : decode cX11_arc 167 = .ok (.iconst 3, 1) := by decide +kernel
theorem dX11_arc_168 : decode cX11_arc 168 = .ok (.iload 5, 2) := by decide +kernel
theorem dX11_arc_170 : decode cX11_arc 170 = .ok (.imul, 1) := by decide +kernel
theorem dX11_arc_171 : decode cX11_arc 171 = .ok (.iload 6, 2) := by decide +kernel
theorem dX11_arc_173 : decode cX11_arc 173 = .ok (.iadd, 1) := by decide +kernel
theorem dX11_arc_174 : decode cX11_arc 174 = .ok (.aload_n 0, 1) := by decide +kernel
theorem dX11_arc_175 : decode cX11_arc 175 = .ok (.getfield 13, 3) := by decide +kernel
theorem dX11_arc_178 : decode cX11_arc 178 = .ok (.iconst 3, 1) := by decide +kernel
theorem dX11_arc_179 : decode cX11_arc 179 = .ok (.aload_n 0, 1) := by decide +kernel
theorem dX11_arc_180 : decode cX11_arc 180 = .ok (.getfield 100, 3) := by decide +kernel
theorem dX11_arc_183 : decode cX11_arc 183 = .ok (.imul, 1) := by decide +kernel
theorem dX11_arc_184 : decode cX11_arc 184 = .ok (.iload 6, 2) := by decide +kernel
theorem dX11_arc_186 : decode cX11_arc 186 = .ok (.iadd, 1) := by decide +kernel
theorem dX11_arc_187 : decode cX11_arc 187 = .ok (.iaload, 1) := by decide +kernel
theorem dX11_arc_188 : decode cX11_arc 188 = .ok (.iastore, 1) := by decide +kernel
theorem dX11_arc_189 : decode cX11_arc 189 = .ok (.iinc 6 1, 3) := by decide +kernel
theorem dX11_arc_192 : decode cX11_arc 192 = .ok (.goto (-35), 3) := by decide +kernel
theorem dX11_arc_195 : decode cX11_arc 195 = .ok (.aload_n 0, 1) := by decide +kernel
theorem dX11_arc_196 : decode cX11_arc 196 = .ok (.iconst 0, 1) := by decide +kernel
theorem dX11_arc_197 : decode cX11_arc 197 = .ok (.putfield 118, 3) := by decide +kernel
theorem dX11_arc_200 : decode cX11_arc 200 = .ok (.iconst 1, 1) := by decide +kernel
theorem dX11_arc_201 : decode cX11_arc 201 = .ok (.ireturn, 1) := by decide +kernel
theorem dX11_arcs_0 : decode cX11_arcs 0 = .ok (.aload_n 0, 1) := by decide +kernel
theorem dX11_arcs_1 : decode cX11_arcs 1 = .ok (.iconst 0, 1) := by decide +kernel
theorem dX11_arcs_2 : decode cX11_arcs 2 = .ok (.putfield 1, 3) := by decide +kernel
theorem dX11_arcs_5 : decode cX11_arcs 5 = .ok (.aload_n 0, 1) := by decide +kernel
theorem dX11_arcs_6 : decode cX11_arcs 6 = .ok (.getfield 100, 3) := by decide +kernel
theorem dX11_arcs_9 : decode cX11_arcs 9 = .ok (.ireturn, 1) := by decide +kernel
theorem dX11_other_0 : decode cX11_other 0 = .ok (.iconst 0, 1) := by decide +kernel
theorem dX11_other_1 : decode cX11_other 1 = .ok (.istore 4, 2) := by decide +kernel
theorem dX11_other_3 : decode cX11_other 3 = .ok (.iconst 0, 1) := by decide +kernel
theorem dX11_other_4 : decode cX11_other 4 = .ok (.istore 5, 2) := by decide +kernel
theorem dX11_other_6 : decode cX11_other 6 = .ok (.iload 5, 2) := by decide +kernel
theorem dX11_other_8 : decode cX11_other 8 = .ok (.sipush 128, 3) := by decide +kernel
theorem dX11_other_11 : decode cX11_other 11 = .ok (.if_icmp .ge 71, 3) := by decide +kernel
theorem dX11_other_14 : decode cX11_other 14 = .ok (.iload_n 2, 1) := by decide +kernel
theorem dX11_other_15 : decode cX11_other 15 = .ok (.ifCond .eq 21, 3) := by decide +kernel
theorem dX11_other_18 : decode cX11_other 18 = .ok (.aload_n 0, 1) := by decide +kernel
theorem dX11_other_19 : decode cX11_other 19 = .ok (.iload_n 1, 1) := by decide +kernel
theorem dX11_other_20 : decode cX11_other 20 = .ok (.iload 5, 2) := by decide +kernel
theorem dX11_other_22 : decode cX11_other 22 = .ok (.bipush 16, 2) := by decide +kernel
theorem dX11_other_24 : decode cX11_other 24 = .ok (.idiv, 1) := by decide +kernel
theorem dX11_other_25 : decode cX11_other 25 = .ok (.iload 5, 2) := by decide +kernel
