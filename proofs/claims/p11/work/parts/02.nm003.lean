theorem dX11_isNode_10 : decode cX11_isNode 10 = .ok (.iconst 1, 1) := by decide +kernel
theorem dX11_isNode_11 : decode cX11_isNode 11 = .ok (.goto 4, 3) := by decide +kernel
theorem dX11_isNode_14 : decode cX11_isNode 14 = .ok (.iconst 0, 1) := by decide +kernel
theorem dX11_isNode_15 : decode cX11_isNode 15 = .ok (.ireturn, 1) := by decide +kernel
theorem dX11_isLabel_0 : decode cX11_isLabel 0 = .ok (.iload_n 0, 1) := by decide +kernel
theorem dX11_isLabel_1 : decode cX11_isLabel 1 = .ok (.ifCond .lt 13, 3) := by decide +kernel
theorem dX11_isLabel_4 : decode cX11_isLabel 4 = .ok (.iload_n 0, 1) := by decide +kernel
theorem dX11_isLabel_5 : decode cX11_isLabel 5 = .ok (.bipush 8, 2) := by decide +kernel
theorem dX11_isLabel_7 : decode cX11_isLabel 7 = .ok (.if_icmp .ge 7, 3) := by decide +kernel
theorem dX11_isLabel_10 : decode cX11_isLabel 10 = .ok (.iconst 1, 1) := by decide +kernel
theorem dX11_isLabel_11 : decode cX11_isLabel 11 = .ok (.goto 4, 3) := by decide +kernel
theorem dX11_isLabel_14 : decode cX11_isLabel 14 = .ok (.iconst 0, 1) := by decide +kernel
theorem dX11_isLabel_15 : decode cX11_isLabel 15 = .ok (.ireturn, 1) := by decide +kernel
theorem dX11_isShape_0 : decode cX11_isShape 0 = .ok (.iload_n 0, 1) := by decide +kernel
theorem dX11_isShape_1 : decode cX11_isShape 1 = .ok (.ifCond .lt 13, 3) := by decide +kernel
theorem dX11_isShape_4 : decode cX11_isShape 4 = .ok (.iload_n 0, 1) := by decide +kernel
theorem dX11_isShape_5 : decode cX11_isShape 5 = .ok (.bipush 16, 2) := by decide +kernel
theorem dX11_isShape_7 : decode cX11_isShape 7 = .ok (.if_icmp .ge 7, 3) := by decide +kernel
theorem dX11_isShape_10 : decode cX11_isShape 10 = .ok (.iconst 1, 1) := by decide +kernel
theorem dX11_isShape_11 : decode cX11_isShape 11 = .ok (.goto 4, 3) := by decide +kernel
theorem dX11_isShape_14 : decode cX11_isShape 14 = .ok (.iconst 0, 1) := by decide +kernel
theorem dX11_isShape_15 : decode cX11_isShape 15 = .ok (.ireturn, 1) := by decide +kernel
theorem dX11_isExpression_0 : decode cX11_isExpression 0 = .ok (.iload_n 1, 1) := by decide +kernel
theorem dX11_isExpression_1 : decode cX11_isExpression 1 = .ok (.ifCond .lt 15, 3) := by decide +kernel
theorem dX11_isExpression_4 : decode cX11_isExpression 4 = .ok (.iload_n 1, 1) := by decide +kernel
theorem dX11_isExpression_5 : decode cX11_isExpression 5 = .ok (.aload_n 0, 1) := by decide +kernel
theorem dX11_isExpression_6 : decode cX11_isExpression 6 = .ok (.getfield 97, 3) := by decide +kernel
theorem dX11_isExpression_9 : decode cX11_isExpression 9 = .ok (.if_icmp .ge 7, 3) := by decide +kernel
theorem dX11_isExpression_12 : decode cX11_isExpression 12 = .ok (.iconst 1, 1) := by decide +kernel
theorem dX11_isExpression_13 : decode cX11_isExpression 13 = .ok (.goto 4, 3) := by decide +kernel
theorem dX11_isExpression_16 : decode cX11_isExpression 16 = .ok (.iconst 0, 1) := by decide +kernel
theorem dX11_isExpression_17 : decode cX11_isExpression 17 = .ok (.ireturn, 1) := by decide +kernel
theorem dX11_find_0 : decode cX11_find 0 = .ok (.iconst 0, 1) := by decide +kernel
theorem dX11_find_1 : decode cX11_find 1 = .ok (.istore 4, 2) := by decide +kernel
theorem dX11_find_3 : decode cX11_find 3 = .ok (.iload 4, 2) := by decide +kernel
theorem dX11_find_5 : decode cX11_find 5 = .ok (.aload_n 0, 1) := by decide +kernel
theorem dX11_find_6 : decode cX11_find 6 = .ok (.getfield 100, 3) := by decide +kernel
theorem dX11_find_9 : decode cX11_find 9 = .ok (.if_icmp .ge 55, 3) := by decide +kernel
theorem dX11_find_12 : decode cX11_find 12 = .ok (.aload_n 0, 1) := by decide +kernel
theorem dX11_find_13 : decode cX11_find 13 = .ok (.getfield 13, 3) := by decide +kernel
theorem dX11_find_16 : decode cX11_find 16 = .ok (.iconst 3, 1) := by decide +kernel
theorem dX11_find_17 : decode cX11_find 17 = .ok (.iload 4, 2) := by decide +kernel
theorem dX11_find_19 : decode cX11_find 19 = .ok (.imul, 1) := by decide +kernel
theorem dX11_find_20 : decode cX11_find 20 = .ok (.iaload, 1) := by decide +kernel
theorem dX11_find_21 : decode cX11_find 21 = .ok (.iload_n 1, 1) := by decide +kernel
theorem dX11_find_22 : decode cX11_find 22 = .ok (.if_icmp .ne 36, 3) := by decide +kernel
theorem dX11_find_25 : decode cX11_find 25 = .ok (.aload_n 0, 1) := by decide +kernel
theorem dX11_find_26 : decode cX11_find 26 = .ok (.getfield 13, 3) := by decide +kernel
theorem dX11_find_29 : decode cX11_find 29 = .ok (.iconst 3, 1) := by decide +kernel
theorem dX11_find_30 : decode cX11_find 30 = .ok (.iload 4, 2) := by decide +kernel
theorem dX11_find_32 : decode cX11_find 32 = .ok (.imul, 1) := by decide +kernel
theorem dX11_find_33 : decode cX11_find 33 = .ok (.iconst 1, 1) := by decide +kernel
theorem dX11_find_34 : decode cX11_find 34 = .ok (.iadd, 1) := by decide +kernel
theorem dX11_find_35 : decode cX11_find 35 = .ok (.iaload, 1) := by decide +kernel
theorem dX11_find_36 : decode cX11_find 36 = .ok (.iload_n 2, 1) := by decide +kernel
theorem dX11_find_37 : decode cX11_find 37 = .ok (.if_icmp .ne 21, 3) := by decide +kernel
theorem dX11_find_40 : decode cX11_find 40 = .ok (.aload_n 0, 1) := by decide +kernel
theorem dX11_find_41 : decode cX11_find 41 = .ok (.getfield 13, 3) := by decide +kernel
theorem dX11_find_44 : decode cX11_find 44 = .ok (.iconst 3, 1) := by decide +kernel
theorem dX11_find_45 : decode cX11_find 45 = .ok (.iload 4, 2) := by decide +kernel
