theorem dX11_findPlaces_60 : decode cX11_findPlaces 60 = .ok (.iaload, 1) := by decide +kernel
theorem dX11_findPlaces_61 : decode cX11_findPlaces 61 = .ok (.iconst 5, 1) := by decide +kernel
theorem dX11_findPlaces_62 : decode cX11_findPlaces 62 = .ok (.if_icmp .ne 6, 3) := by decide +kernel
theorem dX11_findPlaces_65 : decode cX11_findPlaces 65 = .ok (.goto 37, 3) := by decide +kernel
theorem dX11_findPlaces_68 : decode cX11_findPlaces 68 = .ok (.aload_n 0, 1) := by decide +kernel
theorem dX11_findPlaces_69 : decode cX11_findPlaces 69 = .ok (.getfield 59, 3) := by decide +kernel
theorem dX11_findPlaces_72 : decode cX11_findPlaces 72 = .ok (.aload_n 0, 1) := by decide +kernel
theorem dX11_findPlaces_73 : decode cX11_findPlaces 73 = .ok (.getfield 20, 3) := by decide +kernel
theorem dX11_findPlaces_76 : decode cX11_findPlaces 76 = .ok (.iload_n 2, 1) := by decide +kernel
theorem dX11_findPlaces_77 : decode cX11_findPlaces 77 = .ok (.iaload, 1) := by decide +kernel
theorem dX11_findPlaces_78 : decode cX11_findPlaces 78 = .ok (.iconst 1, 1) := by decide +kernel
theorem dX11_findPlaces_79 : decode cX11_findPlaces 79 = .ok (.bastore, 1) := by decide +kernel
theorem dX11_findPlaces_80 : decode cX11_findPlaces 80 = .ok (.aload_n 0, 1) := by decide +kernel
theorem dX11_findPlaces_81 : decode cX11_findPlaces 81 = .ok (.getfield 17, 3) := by decide +kernel
theorem dX11_findPlaces_84 : decode cX11_findPlaces 84 = .ok (.iload_n 2, 1) := by decide +kernel
theorem dX11_findPlaces_85 : decode cX11_findPlaces 85 = .ok (.iaload, 1) := by decide +kernel
theorem dX11_findPlaces_86 : decode cX11_findPlaces 86 = .ok (.iconst 4, 1) := by decide +kernel
theorem dX11_findPlaces_87 : decode cX11_findPlaces 87 = .ok (.if_icmp .ge 15, 3) := by decide +kernel
theorem dX11_findPlaces_90 : decode cX11_findPlaces 90 = .ok (.aload_n 0, 1) := by decide +kernel
theorem dX11_findPlaces_91 : decode cX11_findPlaces 91 = .ok (.getfield 59, 3) := by decide +kernel
theorem dX11_findPlaces_94 : decode cX11_findPlaces 94 = .ok (.aload_n 0, 1) := by decide +kernel
theorem dX11_findPlaces_95 : decode cX11_findPlaces 95 = .ok (.getfield 23, 3) := by decide +kernel
theorem dX11_findPlaces_98 : decode cX11_findPlaces 98 = .ok (.iload_n 2, 1) := by decide +kernel
theorem dX11_findPlaces_99 : decode cX11_findPlaces 99 = .ok (.iaload, 1) := by decide +kernel
theorem dX11_findPlaces_100 : decode cX11_findPlaces 100 = .ok (.iconst 1, 1) := by decide +kernel
theorem dX11_findPlaces_101 : decode cX11_findPlaces 101 = .ok (.bastore, 1) := by decide +kernel
theorem dX11_findPlaces_102 : decode cX11_findPlaces 102 = .ok (.iinc 2 (-1), 3) := by decide +kernel
theorem dX11_findPlaces_105 : decode cX11_findPlaces 105 = .ok (.goto (-73), 3) := by decide +kernel
theorem dX11_findPlaces_108 : decode cX11_findPlaces 108 = .ok (.aload_n 0, 1) := by decide +kernel
theorem dX11_findPlaces_109 : decode cX11_findPlaces 109 = .ok (.iconst 0, 1) := by decide +kernel
theorem dX11_findPlaces_110 : decode cX11_findPlaces 110 = .ok (.putfield 128, 3) := by decide +kernel
theorem dX11_findPlaces_113 : decode cX11_findPlaces 113 = .ok (.iconst 0, 1) := by decide +kernel
theorem dX11_findPlaces_114 : decode cX11_findPlaces 114 = .ok (.istore_n 2, 1) := by decide +kernel
theorem dX11_findPlaces_115 : decode cX11_findPlaces 115 = .ok (.iload_n 2, 1) := by decide +kernel
theorem dX11_findPlaces_116 : decode cX11_findPlaces 116 = .ok (.iload_n 1, 1) := by decide +kernel
theorem dX11_findPlaces_117 : decode cX11_findPlaces 117 = .ok (.if_icmp .gt 51, 3) := by decide +kernel
theorem dX11_findPlaces_120 : decode cX11_findPlaces 120 = .ok (.aload_n 0, 1) := by decide +kernel
theorem dX11_findPlaces_121 : decode cX11_findPlaces 121 = .ok (.getfield 59, 3) := by decide +kernel
theorem dX11_findPlaces_124 : decode cX11_findPlaces 124 = .ok (.iload_n 2, 1) := by decide +kernel
theorem dX11_findPlaces_125 : decode cX11_findPlaces 125 = .ok (.baload, 1) := by decide +kernel
theorem dX11_findPlaces_126 : decode cX11_findPlaces 126 = .ok (.ifCond .eq 36, 3) := by decide +kernel
theorem dX11_findPlaces_129 : decode cX11_findPlaces 129 = .ok (.aload_n 0, 1) := by decide +kernel
theorem dX11_findPlaces_130 : decode cX11_findPlaces 130 = .ok (.getfield 17, 3) := by decide +kernel
theorem dX11_findPlaces_133 : decode cX11_findPlaces 133 = .ok (.iload_n 2, 1) := by decide +kernel
theorem dX11_findPlaces_134 : decode cX11_findPlaces 134 = .ok (.iaload, 1) := by decide +kernel
theorem dX11_findPlaces_135 : decode cX11_findPlaces 135 = .ok (.iconst 1, 1) := by decide +kernel
theorem dX11_findPlaces_136 : decode cX11_findPlaces 136 = .ok (.if_icmp .le 6, 3) := by decide +kernel
theorem dX11_findPlaces_139 : decode cX11_findPlaces 139 = .ok (.goto 23, 3) := by decide +kernel
theorem dX11_findPlaces_142 : decode cX11_findPlaces 142 = .ok (.aload_n 0, 1) := by decide +kernel
theorem dX11_findPlaces_143 : decode cX11_findPlaces 143 = .ok (.getfield 62, 3) := by decide +kernel
theorem dX11_findPlaces_146 : decode cX11_findPlaces 146 = .ok (.aload_n 0, 1) := by decide +kernel
theorem dX11_findPlaces_147 : decode cX11_findPlaces 147 = .ok (.getfield 128, 3) := by decide +kernel
theorem dX11_findPlaces_150 : decode cX11_findPlaces 150 = .ok (.iload_n 2, 1) := by decide +kernel
theorem dX11_findPlaces_151 : decode cX11_findPlaces 151 = .ok (.iastore, 1) := by decide +kernel
theorem dX11_findPlaces_152 : decode cX11_findPlaces 152 = .ok (.aload_n 0, 1) := by decide +kernel
theorem dX11_findPlaces_153 : decode cX11_findPlaces 153 = .ok (.dup, 1) := by decide +kernel
theorem dX11_findPlaces_154 : decode cX11_findPlaces 154 = .ok (.getfield 128, 3) := by decide +kernel
theorem dX11_findPlaces_157 : decode cX11_findPlaces 157 = .ok (.iconst 1, 1) := by decide +kernel
theorem dX11_findPlaces_158 : decode cX11_findPlaces 158 = .ok (.iadd, 1) := by decide +kernel
theorem dX11_findPlaces_159 : decode cX11_findPlaces 159 = .ok (.putfield 128, 3) := by decide +kernel
