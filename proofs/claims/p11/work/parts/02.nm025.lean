theorem dX11_giveOut_142 : decode cX11_giveOut 142 = .ok (.lastore, 1) := by decide +kernel
theorem dX11_giveOut_143 : decode cX11_giveOut 143 = .ok (.iinc 6 1, 3) := by decide +kernel
theorem dX11_giveOut_146 : decode cX11_giveOut 146 = .ok (.goto (-82), 3) := by decide +kernel
theorem dX11_giveOut_149 : decode cX11_giveOut 149 = .ok (.bipush 9, 2) := by decide +kernel
theorem dX11_giveOut_151 : decode cX11_giveOut 151 = .ok (.iload 4, 2) := by decide +kernel
theorem dX11_giveOut_153 : decode cX11_giveOut 153 = .ok (.imul, 1) := by decide +kernel
theorem dX11_giveOut_154 : decode cX11_giveOut 154 = .ok (.istore 4, 2) := by decide +kernel
theorem dX11_giveOut_156 : decode cX11_giveOut 156 = .ok (.iinc 5 1, 3) := by decide +kernel
theorem dX11_giveOut_159 : decode cX11_giveOut 159 = .ok (.goto (-107), 3) := by decide +kernel
theorem dX11_giveOut_162 : decode cX11_giveOut 162 = .ok (.iconst 0, 1) := by decide +kernel
theorem dX11_giveOut_163 : decode cX11_giveOut 163 = .ok (.istore 5, 2) := by decide +kernel
theorem dX11_giveOut_165 : decode cX11_giveOut 165 = .ok (.iload 5, 2) := by decide +kernel
theorem dX11_giveOut_167 : decode cX11_giveOut 167 = .ok (.aload_n 0, 1) := by decide +kernel
theorem dX11_giveOut_168 : decode cX11_giveOut 168 = .ok (.getfield 94, 3) := by decide +kernel
theorem dX11_giveOut_171 : decode cX11_giveOut 171 = .ok (.if_icmp .ge 23, 3) := by decide +kernel
theorem dX11_giveOut_174 : decode cX11_giveOut 174 = .ok (.aload_n 0, 1) := by decide +kernel
theorem dX11_giveOut_175 : decode cX11_giveOut 175 = .ok (.getfield 84, 3) := by decide +kernel
theorem dX11_giveOut_178 : decode cX11_giveOut 178 = .ok (.iload 5, 2) := by decide +kernel
theorem dX11_giveOut_180 : decode cX11_giveOut 180 = .ok (.aload_n 0, 1) := by decide +kernel
theorem dX11_giveOut_181 : decode cX11_giveOut 181 = .ok (.getfield 88, 3) := by decide +kernel
theorem dX11_giveOut_184 : decode cX11_giveOut 184 = .ok (.iload 5, 2) := by decide +kernel
theorem dX11_giveOut_186 : decode cX11_giveOut 186 = .ok (.laload, 1) := by decide +kernel
theorem dX11_giveOut_187 : decode cX11_giveOut 187 = .ok (.lastore, 1) := by decide +kernel
theorem dX11_giveOut_188 : decode cX11_giveOut 188 = .ok (.iinc 5 1, 3) := by decide +kernel
theorem dX11_giveOut_191 : decode cX11_giveOut 191 = .ok (.goto (-26), 3) := by decide +kernel
theorem dX11_giveOut_194 : decode cX11_giveOut 194 = .ok (.return_, 1) := by decide +kernel
theorem dX11_holds_0 : decode cX11_holds 0 = .ok (.aload_n 0, 1) := by decide +kernel
theorem dX11_holds_1 : decode cX11_holds 1 = .ok (.getfield 32, 3) := by decide +kernel
theorem dX11_holds_4 : decode cX11_holds 4 = .ok (.iload_n 2, 1) := by decide +kernel
theorem dX11_holds_5 : decode cX11_holds 5 = .ok (.iaload, 1) := by decide +kernel
theorem dX11_holds_6 : decode cX11_holds 6 = .ok (.istore_n 3, 1) := by decide +kernel
theorem dX11_holds_7 : decode cX11_holds 7 = .ok (.aload_n 0, 1) := by decide +kernel
theorem dX11_holds_8 : decode cX11_holds 8 = .ok (.getfield 29, 3) := by decide +kernel
theorem dX11_holds_11 : decode cX11_holds 11 = .ok (.iload_n 2, 1) := by decide +kernel
theorem dX11_holds_12 : decode cX11_holds 12 = .ok (.iaload, 1) := by decide +kernel
theorem dX11_holds_13 : decode cX11_holds 13 = .ok (.tableswitch 164 0 4 #[35, 52, 91, 130, 149], 35) := by decide +kernel
theorem dX11_holds_48 : decode cX11_holds 48 = .ok (.aload_n 0, 1) := by decide +kernel
theorem dX11_holds_49 : decode cX11_holds 49 = .ok (.iload_n 1, 1) := by decide +kernel
theorem dX11_holds_50 : decode cX11_holds 50 = .ok (.iload_n 2, 1) := by decide +kernel
theorem dX11_holds_51 : decode cX11_holds 51 = .ok (.invokevirtual 176, 3) := by decide +kernel
theorem dX11_holds_54 : decode cX11_holds 54 = .ok (.lconst 0, 1) := by decide +kernel
theorem dX11_holds_55 : decode cX11_holds 55 = .ok (.lcmp, 1) := by decide +kernel
theorem dX11_holds_56 : decode cX11_holds 56 = .ok (.ifCond .le 7, 3) := by decide +kernel
theorem dX11_holds_59 : decode cX11_holds 59 = .ok (.iconst 1, 1) := by decide +kernel
theorem dX11_holds_60 : decode cX11_holds 60 = .ok (.goto 4, 3) := by decide +kernel
theorem dX11_holds_63 : decode cX11_holds 63 = .ok (.iconst 0, 1) := by decide +kernel
theorem dX11_holds_64 : decode cX11_holds 64 = .ok (.ireturn, 1) := by decide +kernel
theorem dX11_holds_65 : decode cX11_holds 65 = .ok (.aload_n 0, 1) := by decide +kernel
theorem dX11_holds_66 : decode cX11_holds 66 = .ok (.getfield 41, 3) := by decide +kernel
theorem dX11_holds_69 : decode cX11_holds 69 = .ok (.iload_n 3, 1) := by decide +kernel
theorem dX11_holds_70 : decode cX11_holds 70 = .ok (.iaload, 1) := by decide +kernel
theorem dX11_holds_71 : decode cX11_holds 71 = .ok (.iload_n 1, 1) := by decide +kernel
theorem dX11_holds_72 : decode cX11_holds 72 = .ok (.ishr, 1) := by decide +kernel
theorem dX11_holds_73 : decode cX11_holds 73 = .ok (.iconst 1, 1) := by decide +kernel
theorem dX11_holds_74 : decode cX11_holds 74 = .ok (.iand, 1) := by decide +kernel
theorem dX11_holds_75 : decode cX11_holds 75 = .ok (.iconst 1, 1) := by decide +kernel
theorem dX11_holds_76 : decode cX11_holds 76 = .ok (.if_icmp .ne 26, 3) := by decide +kernel
theorem dX11_holds_79 : decode cX11_holds 79 = .ok (.aload_n 0, 1) := by decide +kernel
theorem dX11_holds_80 : decode cX11_holds 80 = .ok (.getfield 41, 3) := by decide +kernel
theorem dX11_holds_83 : decode cX11_holds 83 = .ok (.aload_n 0, 1) := by decide +kernel
