theorem dX11_weigh_128 : decode cX11_weigh 128 = .ok (.aload_n 0, 1) := by decide +kernel
theorem dX11_weigh_129 : decode cX11_weigh 129 = .ok (.iload_n 2, 1) := by decide +kernel
theorem dX11_weigh_130 : decode cX11_weigh 130 = .ok (.iload_n 3, 1) := by decide +kernel
theorem dX11_weigh_131 : decode cX11_weigh 131 = .ok (.iconst 2, 1) := by decide +kernel
theorem dX11_weigh_132 : decode cX11_weigh 132 = .ok (.idiv, 1) := by decide +kernel
theorem dX11_weigh_133 : decode cX11_weigh 133 = .ok (.iload 4, 2) := by decide +kernel
theorem dX11_weigh_135 : decode cX11_weigh 135 = .ok (.invokevirtual 166, 3) := by decide +kernel
theorem dX11_weigh_138 : decode cX11_weigh 138 = .ok (.iinc 3 1, 3) := by decide +kernel
theorem dX11_weigh_141 : decode cX11_weigh 141 = .ok (.goto (-74), 3) := by decide +kernel
theorem dX11_weigh_144 : decode cX11_weigh 144 = .ok (.lconst 0, 1) := by decide +kernel
theorem dX11_weigh_145 : decode cX11_weigh 145 = .ok (.lstore_n 3, 1) := by decide +kernel
theorem dX11_weigh_146 : decode cX11_weigh 146 = .ok (.iconst 0, 1) := by decide +kernel
theorem dX11_weigh_147 : decode cX11_weigh 147 = .ok (.istore 5, 2) := by decide +kernel
theorem dX11_weigh_149 : decode cX11_weigh 149 = .ok (.iload 5, 2) := by decide +kernel
theorem dX11_weigh_151 : decode cX11_weigh 151 = .ok (.aload_n 0, 1) := by decide +kernel
theorem dX11_weigh_152 : decode cX11_weigh 152 = .ok (.getfield 94, 3) := by decide +kernel
theorem dX11_weigh_155 : decode cX11_weigh 155 = .ok (.if_icmp .ge 44, 3) := by decide +kernel
theorem dX11_weigh_158 : decode cX11_weigh 158 = .ok (.lload_n 3, 1) := by decide +kernel
theorem dX11_weigh_159 : decode cX11_weigh 159 = .ok (.aload_n 0, 1) := by decide +kernel
theorem dX11_weigh_160 : decode cX11_weigh 160 = .ok (.getfield 78, 3) := by decide +kernel
theorem dX11_weigh_163 : decode cX11_weigh 163 = .ok (.sipush 1300, 3) := by decide +kernel
theorem dX11_weigh_166 : decode cX11_weigh 166 = .ok (.aload_n 0, 1) := by decide +kernel
theorem dX11_weigh_167 : decode cX11_weigh 167 = .ok (.getfield 32, 3) := by decide +kernel
theorem dX11_weigh_170 : decode cX11_weigh 170 = .ok (.iload_n 2, 1) := by decide +kernel
theorem dX11_weigh_171 : decode cX11_weigh 171 = .ok (.iaload, 1) := by decide +kernel
theorem dX11_weigh_172 : decode cX11_weigh 172 = .ok (.imul, 1) := by decide +kernel
theorem dX11_weigh_173 : decode cX11_weigh 173 = .ok (.iload 5, 2) := by decide +kernel
theorem dX11_weigh_175 : decode cX11_weigh 175 = .ok (.iadd, 1) := by decide +kernel
theorem dX11_weigh_176 : decode cX11_weigh 176 = .ok (.baload, 1) := by decide +kernel
theorem dX11_weigh_177 : decode cX11_weigh 177 = .ok (.ifCond .eq 13, 3) := by decide +kernel
theorem dX11_weigh_180 : decode cX11_weigh 180 = .ok (.aload_n 0, 1) := by decide +kernel
theorem dX11_weigh_181 : decode cX11_weigh 181 = .ok (.getfield 84, 3) := by decide +kernel
theorem dX11_weigh_184 : decode cX11_weigh 184 = .ok (.iload 5, 2) := by decide +kernel
theorem dX11_weigh_186 : decode cX11_weigh 186 = .ok (.laload, 1) := by decide +kernel
theorem dX11_weigh_187 : decode cX11_weigh 187 = .ok (.goto 4, 3) := by decide +kernel
theorem dX11_weigh_190 : decode cX11_weigh 190 = .ok (.lconst 0, 1) := by decide +kernel
theorem dX11_weigh_191 : decode cX11_weigh 191 = .ok (.ladd, 1) := by decide +kernel
theorem dX11_weigh_192 : decode cX11_weigh 192 = .ok (.lstore_n 3, 1) := by decide +kernel
theorem dX11_weigh_193 : decode cX11_weigh 193 = .ok (.iinc 5 1, 3) := by decide +kernel
theorem dX11_weigh_196 : decode cX11_weigh 196 = .ok (.goto (-47), 3) := by decide +kernel
theorem dX11_weigh_199 : decode cX11_weigh 199 = .ok (.lload_n 3, 1) := by decide +kernel
theorem dX11_weigh_200 : decode cX11_weigh 200 = .ok (.lreturn, 1) := by decide +kernel
theorem dX11_giveOut_0 : decode cX11_giveOut 0 = .ok (.iconst 0, 1) := by decide +kernel
theorem dX11_giveOut_1 : decode cX11_giveOut 1 = .ok (.istore 4, 2) := by decide +kernel
theorem dX11_giveOut_3 : decode cX11_giveOut 3 = .ok (.iload 4, 2) := by decide +kernel
theorem dX11_giveOut_5 : decode cX11_giveOut 5 = .ok (.aload_n 0, 1) := by decide +kernel
theorem dX11_giveOut_6 : decode cX11_giveOut 6 = .ok (.getfield 94, 3) := by decide +kernel
theorem dX11_giveOut_9 : decode cX11_giveOut 9 = .ok (.if_icmp .ge 37, 3) := by decide +kernel
theorem dX11_giveOut_12 : decode cX11_giveOut 12 = .ok (.aload_n 0, 1) := by decide +kernel
theorem dX11_giveOut_13 : decode cX11_giveOut 13 = .ok (.getfield 88, 3) := by decide +kernel
theorem dX11_giveOut_16 : decode cX11_giveOut 16 = .ok (.iload 4, 2) := by decide +kernel
theorem dX11_giveOut_18 : decode cX11_giveOut 18 = .ok (.aload_n 0, 1) := by decide +kernel
theorem dX11_giveOut_19 : decode cX11_giveOut 19 = .ok (.iload_n 1, 1) := by decide +kernel
theorem dX11_giveOut_20 : decode cX11_giveOut 20 = .ok (.iload_n 2, 1) := by decide +kernel
theorem dX11_giveOut_21 : decode cX11_giveOut 21 = .ok (.iload_n 3, 1) := by decide +kernel
theorem dX11_giveOut_22 : decode cX11_giveOut 22 = .ok (.invokevirtual 170, 3) := by decide +kernel
theorem dX11_giveOut_25 : decode cX11_giveOut 25 = .ok (.ifCond .eq 13, 3) := by decide +kernel
theorem dX11_giveOut_28 : decode cX11_giveOut 28 = .ok (.aload_n 0, 1) := by decide +kernel
theorem dX11_giveOut_29 : decode cX11_giveOut 29 = .ok (.getfield 84, 3) := by decide +kernel
theorem dX11_giveOut_32 : decode cX11_giveOut 32 = .ok (.iload 4, 2) := by decide +kernel
