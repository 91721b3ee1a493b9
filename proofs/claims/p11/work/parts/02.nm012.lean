theorem dX11_shape_100 : decode cX11_shape 100 = .ok (.iload_n 2, 1) := by decide +kernel
theorem dX11_shape_101 : decode cX11_shape 101 = .ok (.iastore, 1) := by decide +kernel
theorem dX11_shape_102 : decode cX11_shape 102 = .ok (.aload_n 0, 1) := by decide +kernel
theorem dX11_shape_103 : decode cX11_shape 103 = .ok (.getfield 32, 3) := by decide +kernel
theorem dX11_shape_106 : decode cX11_shape 106 = .ok (.iload_n 1, 1) := by decide +kernel
theorem dX11_shape_107 : decode cX11_shape 107 = .ok (.iload_n 3, 1) := by decide +kernel
theorem dX11_shape_108 : decode cX11_shape 108 = .ok (.iastore, 1) := by decide +kernel
theorem dX11_shape_109 : decode cX11_shape 109 = .ok (.aload_n 0, 1) := by decide +kernel
theorem dX11_shape_110 : decode cX11_shape 110 = .ok (.getfield 35, 3) := by decide +kernel
theorem dX11_shape_113 : decode cX11_shape 113 = .ok (.iload_n 1, 1) := by decide +kernel
theorem dX11_shape_114 : decode cX11_shape 114 = .ok (.iload 4, 2) := by decide +kernel
theorem dX11_shape_116 : decode cX11_shape 116 = .ok (.iastore, 1) := by decide +kernel
theorem dX11_shape_117 : decode cX11_shape 117 = .ok (.aload_n 0, 1) := by decide +kernel
theorem dX11_shape_118 : decode cX11_shape 118 = .ok (.getfield 38, 3) := by decide +kernel
theorem dX11_shape_121 : decode cX11_shape 121 = .ok (.iload_n 1, 1) := by decide +kernel
theorem dX11_shape_122 : decode cX11_shape 122 = .ok (.iload 5, 2) := by decide +kernel
theorem dX11_shape_124 : decode cX11_shape 124 = .ok (.iastore, 1) := by decide +kernel
theorem dX11_shape_125 : decode cX11_shape 125 = .ok (.aload_n 0, 1) := by decide +kernel
theorem dX11_shape_126 : decode cX11_shape 126 = .ok (.iconst 0, 1) := by decide +kernel
theorem dX11_shape_127 : decode cX11_shape 127 = .ok (.putfield 118, 3) := by decide +kernel
theorem dX11_shape_130 : decode cX11_shape 130 = .ok (.iconst 1, 1) := by decide +kernel
theorem dX11_shape_131 : decode cX11_shape 131 = .ok (.ireturn, 1) := by decide +kernel
theorem dX11_row_0 : decode cX11_row 0 = .ok (.sipush 1300, 3) := by decide +kernel
theorem dX11_row_3 : decode cX11_row 3 = .ok (.aload_n 0, 1) := by decide +kernel
theorem dX11_row_4 : decode cX11_row 4 = .ok (.getfield 68, 3) := by decide +kernel
theorem dX11_row_7 : decode cX11_row 7 = .ok (.iload_n 1, 1) := by decide +kernel
theorem dX11_row_8 : decode cX11_row 8 = .ok (.iaload, 1) := by decide +kernel
theorem dX11_row_9 : decode cX11_row 9 = .ok (.imul, 1) := by decide +kernel
theorem dX11_row_10 : decode cX11_row 10 = .ok (.ireturn, 1) := by decide +kernel
theorem dX11_make_0 : decode cX11_make 0 = .ok (.iconst 0, 1) := by decide +kernel
theorem dX11_make_1 : decode cX11_make 1 = .ok (.istore_n 2, 1) := by decide +kernel
theorem dX11_make_2 : decode cX11_make 2 = .ok (.iconst 0, 1) := by decide +kernel
theorem dX11_make_3 : decode cX11_make 3 = .ok (.istore_n 3, 1) := by decide +kernel
theorem dX11_make_4 : decode cX11_make 4 = .ok (.iload_n 3, 1) := by decide +kernel
theorem dX11_make_5 : decode cX11_make 5 = .ok (.iload_n 1, 1) := by decide +kernel
theorem dX11_make_6 : decode cX11_make 6 = .ok (.if_icmp .gt 320, 3) := by decide +kernel
theorem dX11_make_9 : decode cX11_make 9 = .ok (.aload_n 0, 1) := by decide +kernel
theorem dX11_make_10 : decode cX11_make 10 = .ok (.getfield 59, 3) := by decide +kernel
theorem dX11_make_13 : decode cX11_make 13 = .ok (.iload_n 3, 1) := by decide +kernel
theorem dX11_make_14 : decode cX11_make 14 = .ok (.baload, 1) := by decide +kernel
theorem dX11_make_15 : decode cX11_make 15 = .ok (.ifCond .ne 6, 3) := by decide +kernel
theorem dX11_make_18 : decode cX11_make 18 = .ok (.goto 302, 3) := by decide +kernel
theorem dX11_make_21 : decode cX11_make 21 = .ok (.aload_n 0, 1) := by decide +kernel
theorem dX11_make_22 : decode cX11_make 22 = .ok (.getfield 68, 3) := by decide +kernel
theorem dX11_make_25 : decode cX11_make 25 = .ok (.iload_n 3, 1) := by decide +kernel
theorem dX11_make_26 : decode cX11_make 26 = .ok (.iload_n 2, 1) := by decide +kernel
theorem dX11_make_27 : decode cX11_make 27 = .ok (.iastore, 1) := by decide +kernel
theorem dX11_make_28 : decode cX11_make 28 = .ok (.iinc 2 1, 3) := by decide +kernel
theorem dX11_make_31 : decode cX11_make 31 = .ok (.aload_n 0, 1) := by decide +kernel
theorem dX11_make_32 : decode cX11_make 32 = .ok (.iload_n 3, 1) := by decide +kernel
theorem dX11_make_33 : decode cX11_make 33 = .ok (.invokevirtual 135, 3) := by decide +kernel
theorem dX11_make_36 : decode cX11_make 36 = .ok (.istore 4, 2) := by decide +kernel
theorem dX11_make_38 : decode cX11_make 38 = .ok (.iconst 0, 1) := by decide +kernel
theorem dX11_make_39 : decode cX11_make 39 = .ok (.istore 5, 2) := by decide +kernel
theorem dX11_make_41 : decode cX11_make 41 = .ok (.iload 5, 2) := by decide +kernel
theorem dX11_make_43 : decode cX11_make 43 = .ok (.aload_n 0, 1) := by decide +kernel
theorem dX11_make_44 : decode cX11_make 44 = .ok (.getfield 94, 3) := by decide +kernel
theorem dX11_make_47 : decode cX11_make 47 = .ok (.if_icmp .ge 20, 3) := by decide +kernel
theorem dX11_make_50 : decode cX11_make 50 = .ok (.aload_n 0, 1) := by decide +kernel
theorem dX11_make_51 : decode cX11_make 51 = .ok (.getfield 55, 3) := by decide +kernel
