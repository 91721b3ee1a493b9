theorem dX11_giveOut_34 : decode cX11_giveOut 34 = .ok (.laload, 1) := by decide +kernel
theorem dX11_giveOut_35 : decode cX11_giveOut 35 = .ok (.goto 4, 3) := by decide +kernel
theorem dX11_giveOut_38 : decode cX11_giveOut 38 = .ok (.lconst 0, 1) := by decide +kernel
theorem dX11_giveOut_39 : decode cX11_giveOut 39 = .ok (.lastore, 1) := by decide +kernel
theorem dX11_giveOut_40 : decode cX11_giveOut 40 = .ok (.iinc 4 1, 3) := by decide +kernel
theorem dX11_giveOut_43 : decode cX11_giveOut 43 = .ok (.goto (-40), 3) := by decide +kernel
theorem dX11_giveOut_46 : decode cX11_giveOut 46 = .ok (.iconst 1, 1) := by decide +kernel
theorem dX11_giveOut_47 : decode cX11_giveOut 47 = .ok (.istore 4, 2) := by decide +kernel
theorem dX11_giveOut_49 : decode cX11_giveOut 49 = .ok (.iconst 0, 1) := by decide +kernel
theorem dX11_giveOut_50 : decode cX11_giveOut 50 = .ok (.istore 5, 2) := by decide +kernel
theorem dX11_giveOut_52 : decode cX11_giveOut 52 = .ok (.iload 5, 2) := by decide +kernel
theorem dX11_giveOut_54 : decode cX11_giveOut 54 = .ok (.aload_n 0, 1) := by decide +kernel
theorem dX11_giveOut_55 : decode cX11_giveOut 55 = .ok (.getfield 128, 3) := by decide +kernel
theorem dX11_giveOut_58 : decode cX11_giveOut 58 = .ok (.if_icmp .ge 104, 3) := by decide +kernel
theorem dX11_giveOut_61 : decode cX11_giveOut 61 = .ok (.iconst 0, 1) := by decide +kernel
theorem dX11_giveOut_62 : decode cX11_giveOut 62 = .ok (.istore 6, 2) := by decide +kernel
theorem dX11_giveOut_64 : decode cX11_giveOut 64 = .ok (.iload 6, 2) := by decide +kernel
theorem dX11_giveOut_66 : decode cX11_giveOut 66 = .ok (.aload_n 0, 1) := by decide +kernel
theorem dX11_giveOut_67 : decode cX11_giveOut 67 = .ok (.getfield 94, 3) := by decide +kernel
theorem dX11_giveOut_70 : decode cX11_giveOut 70 = .ok (.if_icmp .ge 79, 3) := by decide +kernel
theorem dX11_giveOut_73 : decode cX11_giveOut 73 = .ok (.aload_n 0, 1) := by decide +kernel
theorem dX11_giveOut_74 : decode cX11_giveOut 74 = .ok (.aload_n 0, 1) := by decide +kernel
theorem dX11_giveOut_75 : decode cX11_giveOut 75 = .ok (.getfield 62, 3) := by decide +kernel
theorem dX11_giveOut_78 : decode cX11_giveOut 78 = .ok (.iload 5, 2) := by decide +kernel
theorem dX11_giveOut_80 : decode cX11_giveOut 80 = .ok (.iaload, 1) := by decide +kernel
theorem dX11_giveOut_81 : decode cX11_giveOut 81 = .ok (.iload_n 2, 1) := by decide +kernel
theorem dX11_giveOut_82 : decode cX11_giveOut 82 = .ok (.iload_n 3, 1) := by decide +kernel
theorem dX11_giveOut_83 : decode cX11_giveOut 83 = .ok (.invokevirtual 173, 3) := by decide +kernel
theorem dX11_giveOut_86 : decode cX11_giveOut 86 = .ok (.ifCond .eq 63, 3) := by decide +kernel
theorem dX11_giveOut_89 : decode cX11_giveOut 89 = .ok (.aload_n 0, 1) := by decide +kernel
theorem dX11_giveOut_90 : decode cX11_giveOut 90 = .ok (.getfield 84, 3) := by decide +kernel
theorem dX11_giveOut_93 : decode cX11_giveOut 93 = .ok (.iload 6, 2) := by decide +kernel
theorem dX11_giveOut_95 : decode cX11_giveOut 95 = .ok (.laload, 1) := by decide +kernel
theorem dX11_giveOut_96 : decode cX11_giveOut 96 = .ok (.lconst 0, 1) := by decide +kernel
theorem dX11_giveOut_97 : decode cX11_giveOut 97 = .ok (.lcmp, 1) := by decide +kernel
theorem dX11_giveOut_98 : decode cX11_giveOut 98 = .ok (.ifCond .le 45, 3) := by decide +kernel
theorem dX11_giveOut_101 : decode cX11_giveOut 101 = .ok (.aload_n 0, 1) := by decide +kernel
theorem dX11_giveOut_102 : decode cX11_giveOut 102 = .ok (.getfield 47, 3) := by decide +kernel
theorem dX11_giveOut_105 : decode cX11_giveOut 105 = .ok (.iload 6, 2) := by decide +kernel
theorem dX11_giveOut_107 : decode cX11_giveOut 107 = .ok (.iaload, 1) := by decide +kernel
theorem dX11_giveOut_108 : decode cX11_giveOut 108 = .ok (.bipush 8, 2) := by decide +kernel
theorem dX11_giveOut_110 : decode cX11_giveOut 110 = .ok (.if_icmp .ge 33, 3) := by decide +kernel
theorem dX11_giveOut_113 : decode cX11_giveOut 113 = .ok (.aload_n 0, 1) := by decide +kernel
theorem dX11_giveOut_114 : decode cX11_giveOut 114 = .ok (.getfield 88, 3) := by decide +kernel
theorem dX11_giveOut_117 : decode cX11_giveOut 117 = .ok (.aload_n 0, 1) := by decide +kernel
theorem dX11_giveOut_118 : decode cX11_giveOut 118 = .ok (.getfield 51, 3) := by decide +kernel
theorem dX11_giveOut_121 : decode cX11_giveOut 121 = .ok (.aload_n 0, 1) := by decide +kernel
theorem dX11_giveOut_122 : decode cX11_giveOut 122 = .ok (.getfield 44, 3) := by decide +kernel
theorem dX11_giveOut_125 : decode cX11_giveOut 125 = .ok (.iload 6, 2) := by decide +kernel
theorem dX11_giveOut_127 : decode cX11_giveOut 127 = .ok (.iaload, 1) := by decide +kernel
theorem dX11_giveOut_128 : decode cX11_giveOut 128 = .ok (.iload 4, 2) := by decide +kernel
theorem dX11_giveOut_130 : decode cX11_giveOut 130 = .ok (.iadd, 1) := by decide +kernel
theorem dX11_giveOut_131 : decode cX11_giveOut 131 = .ok (.iaload, 1) := by decide +kernel
theorem dX11_giveOut_132 : decode cX11_giveOut 132 = .ok (.dup2, 1) := by decide +kernel
theorem dX11_giveOut_133 : decode cX11_giveOut 133 = .ok (.laload, 1) := by decide +kernel
theorem dX11_giveOut_134 : decode cX11_giveOut 134 = .ok (.aload_n 0, 1) := by decide +kernel
theorem dX11_giveOut_135 : decode cX11_giveOut 135 = .ok (.getfield 84, 3) := by decide +kernel
theorem dX11_giveOut_138 : decode cX11_giveOut 138 = .ok (.iload 6, 2) := by decide +kernel
theorem dX11_giveOut_140 : decode cX11_giveOut 140 = .ok (.laload, 1) := by decide +kernel
theorem dX11_giveOut_141 : decode cX11_giveOut 141 = .ok (.ladd, 1) := by decide +kernel
