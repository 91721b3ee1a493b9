theorem dX11_expression_56 : decode cX11_expression 56 = .ok (.ifCond .eq 7, 3) := by decide +kernel
theorem dX11_expression_59 : decode cX11_expression 59 = .ok (.iconst 1, 1) := by decide +kernel
theorem dX11_expression_60 : decode cX11_expression 60 = .ok (.goto 4, 3) := by decide +kernel
theorem dX11_expression_63 : decode cX11_expression 63 = .ok (.iconst 0, 1) := by decide +kernel
theorem dX11_expression_64 : decode cX11_expression 64 = .ok (.istore 5, 2) := by decide +kernel
theorem dX11_expression_66 : decode cX11_expression 66 = .ok (.goto 69, 3) := by decide +kernel
theorem dX11_expression_69 : decode cX11_expression 69 = .ok (.aload_n 0, 1) := by decide +kernel
theorem dX11_expression_70 : decode cX11_expression 70 = .ok (.iload_n 2, 1) := by decide +kernel
theorem dX11_expression_71 : decode cX11_expression 71 = .ok (.invokevirtual 125, 3) := by decide +kernel
theorem dX11_expression_74 : decode cX11_expression 74 = .ok (.ifCond .eq 15, 3) := by decide +kernel
theorem dX11_expression_77 : decode cX11_expression 77 = .ok (.aload_n 0, 1) := by decide +kernel
theorem dX11_expression_78 : decode cX11_expression 78 = .ok (.iload_n 3, 1) := by decide +kernel
theorem dX11_expression_79 : decode cX11_expression 79 = .ok (.invokevirtual 125, 3) := by decide +kernel
theorem dX11_expression_82 : decode cX11_expression 82 = .ok (.ifCond .eq 7, 3) := by decide +kernel
theorem dX11_expression_85 : decode cX11_expression 85 = .ok (.iconst 1, 1) := by decide +kernel
theorem dX11_expression_86 : decode cX11_expression 86 = .ok (.goto 4, 3) := by decide +kernel
theorem dX11_expression_89 : decode cX11_expression 89 = .ok (.iconst 0, 1) := by decide +kernel
theorem dX11_expression_90 : decode cX11_expression 90 = .ok (.istore 5, 2) := by decide +kernel
theorem dX11_expression_92 : decode cX11_expression 92 = .ok (.goto 43, 3) := by decide +kernel
theorem dX11_expression_95 : decode cX11_expression 95 = .ok (.aload_n 0, 1) := by decide +kernel
theorem dX11_expression_96 : decode cX11_expression 96 = .ok (.iload_n 2, 1) := by decide +kernel
theorem dX11_expression_97 : decode cX11_expression 97 = .ok (.invokevirtual 125, 3) := by decide +kernel
theorem dX11_expression_100 : decode cX11_expression 100 = .ok (.ifCond .eq 17, 3) := by decide +kernel
theorem dX11_expression_103 : decode cX11_expression 103 = .ok (.iload_n 3, 1) := by decide +kernel
theorem dX11_expression_104 : decode cX11_expression 104 = .ok (.ifCond .lt 13, 3) := by decide +kernel
theorem dX11_expression_107 : decode cX11_expression 107 = .ok (.iload 4, 2) := by decide +kernel
theorem dX11_expression_109 : decode cX11_expression 109 = .ok (.iconst (-1), 1) := by decide +kernel
theorem dX11_expression_110 : decode cX11_expression 110 = .ok (.if_icmp .lt 7, 3) := by decide +kernel
theorem dX11_expression_113 : decode cX11_expression 113 = .ok (.iconst 1, 1) := by decide +kernel
theorem dX11_expression_114 : decode cX11_expression 114 = .ok (.goto 4, 3) := by decide +kernel
theorem dX11_expression_117 : decode cX11_expression 117 = .ok (.iconst 0, 1) := by decide +kernel
theorem dX11_expression_118 : decode cX11_expression 118 = .ok (.istore 5, 2) := by decide +kernel
theorem dX11_expression_120 : decode cX11_expression 120 = .ok (.goto 15, 3) := by decide +kernel
theorem dX11_expression_123 : decode cX11_expression 123 = .ok (.iload_n 1, 1) := by decide +kernel
theorem dX11_expression_124 : decode cX11_expression 124 = .ok (.iconst 5, 1) := by decide +kernel
theorem dX11_expression_125 : decode cX11_expression 125 = .ok (.if_icmp .ne 7, 3) := by decide +kernel
theorem dX11_expression_128 : decode cX11_expression 128 = .ok (.iconst 1, 1) := by decide +kernel
theorem dX11_expression_129 : decode cX11_expression 129 = .ok (.goto 4, 3) := by decide +kernel
theorem dX11_expression_132 : decode cX11_expression 132 = .ok (.iconst 0, 1) := by decide +kernel
theorem dX11_expression_133 : decode cX11_expression 133 = .ok (.istore 5, 2) := by decide +kernel
theorem dX11_expression_135 : decode cX11_expression 135 = .ok (.iload 5, 2) := by decide +kernel
theorem dX11_expression_137 : decode cX11_expression 137 = .ok (.ifCond .ne 5, 3) := by decide +kernel
theorem dX11_expression_140 : decode cX11_expression 140 = .ok (.iconst (-1), 1) := by decide +kernel
theorem dX11_expression_141 : decode cX11_expression 141 = .ok (.ireturn, 1) := by decide +kernel
theorem dX11_expression_142 : decode cX11_expression 142 = .ok (.aload_n 0, 1) := by decide +kernel
theorem dX11_expression_143 : decode cX11_expression 143 = .ok (.getfield 97, 3) := by decide +kernel
theorem dX11_expression_146 : decode cX11_expression 146 = .ok (.bipush 60, 2) := by decide +kernel
theorem dX11_expression_148 : decode cX11_expression 148 = .ok (.if_icmp .ne 6, 3) := by decide +kernel
theorem dX11_expression_151 : decode cX11_expression 151 = .ok (.bipush (-2), 2) := by decide +kernel
theorem dX11_expression_153 : decode cX11_expression 153 = .ok (.ireturn, 1) := by decide +kernel
theorem dX11_expression_154 : decode cX11_expression 154 = .ok (.aload_n 0, 1) := by decide +kernel
theorem dX11_expression_155 : decode cX11_expression 155 = .ok (.getfield 17, 3) := by decide +kernel
theorem dX11_expression_158 : decode cX11_expression 158 = .ok (.aload_n 0, 1) := by decide +kernel
theorem dX11_expression_159 : decode cX11_expression 159 = .ok (.getfield 97, 3) := by decide +kernel
theorem dX11_expression_162 : decode cX11_expression 162 = .ok (.iload_n 1, 1) := by decide +kernel
theorem dX11_expression_163 : decode cX11_expression 163 = .ok (.iastore, 1) := by decide +kernel
theorem dX11_expression_164 : decode cX11_expression 164 = .ok (.aload_n 0, 1) := by decide +kernel
theorem dX11_expression_165 : decode cX11_expression 165 = .ok (.getfield 20, 3) := by decide +kernel
theorem dX11_expression_168 : decode cX11_expression 168 = .ok (.aload_n 0, 1) := by decide +kernel
theorem dX11_expression_169 : decode cX11_expression 169 = .ok (.getfield 97, 3) := by decide +kernel
