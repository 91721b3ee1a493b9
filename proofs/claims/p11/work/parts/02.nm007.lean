theorem dX11_other_27 : decode cX11_other 27 = .ok (.bipush 16, 2) := by decide +kernel
theorem dX11_other_29 : decode cX11_other 29 = .ok (.irem, 1) := by decide +kernel
theorem dX11_other_30 : decode cX11_other 30 = .ok (.invokevirtual 110, 3) := by decide +kernel
theorem dX11_other_33 : decode cX11_other 33 = .ok (.goto 18, 3) := by decide +kernel
theorem dX11_other_36 : decode cX11_other 36 = .ok (.aload_n 0, 1) := by decide +kernel
theorem dX11_other_37 : decode cX11_other 37 = .ok (.iload 5, 2) := by decide +kernel
theorem dX11_other_39 : decode cX11_other 39 = .ok (.bipush 16, 2) := by decide +kernel
theorem dX11_other_41 : decode cX11_other 41 = .ok (.irem, 1) := by decide +kernel
theorem dX11_other_42 : decode cX11_other 42 = .ok (.iload 5, 2) := by decide +kernel
theorem dX11_other_44 : decode cX11_other 44 = .ok (.bipush 16, 2) := by decide +kernel
theorem dX11_other_46 : decode cX11_other 46 = .ok (.idiv, 1) := by decide +kernel
theorem dX11_other_47 : decode cX11_other 47 = .ok (.iload_n 1, 1) := by decide +kernel
theorem dX11_other_48 : decode cX11_other 48 = .ok (.invokevirtual 110, 3) := by decide +kernel
theorem dX11_other_51 : decode cX11_other 51 = .ok (.istore 6, 2) := by decide +kernel
theorem dX11_other_53 : decode cX11_other 53 = .ok (.iload 6, 2) := by decide +kernel
theorem dX11_other_55 : decode cX11_other 55 = .ok (.ifCond .ge 6, 3) := by decide +kernel
theorem dX11_other_58 : decode cX11_other 58 = .ok (.goto 18, 3) := by decide +kernel
theorem dX11_other_61 : decode cX11_other 61 = .ok (.aload_n 0, 1) := by decide +kernel
theorem dX11_other_62 : decode cX11_other 62 = .ok (.getfield 65, 3) := by decide +kernel
theorem dX11_other_65 : decode cX11_other 65 = .ok (.iload 4, 2) := by decide +kernel
theorem dX11_other_67 : decode cX11_other 67 = .ok (.iload 5, 2) := by decide +kernel
theorem dX11_other_69 : decode cX11_other 69 = .ok (.bipush 16, 2) := by decide +kernel
theorem dX11_other_71 : decode cX11_other 71 = .ok (.irem, 1) := by decide +kernel
theorem dX11_other_72 : decode cX11_other 72 = .ok (.iastore, 1) := by decide +kernel
theorem dX11_other_73 : decode cX11_other 73 = .ok (.iinc 4 1, 3) := by decide +kernel
theorem dX11_other_76 : decode cX11_other 76 = .ok (.iinc 5 1, 3) := by decide +kernel
theorem dX11_other_79 : decode cX11_other 79 = .ok (.goto (-73), 3) := by decide +kernel
theorem dX11_other_82 : decode cX11_other 82 = .ok (.aload_n 0, 1) := by decide +kernel
theorem dX11_other_83 : decode cX11_other 83 = .ok (.iload_n 3, 1) := by decide +kernel
theorem dX11_other_84 : decode cX11_other 84 = .ok (.ifCond .lt 13, 3) := by decide +kernel
theorem dX11_other_87 : decode cX11_other 87 = .ok (.iload_n 3, 1) := by decide +kernel
theorem dX11_other_88 : decode cX11_other 88 = .ok (.iload 4, 2) := by decide +kernel
theorem dX11_other_90 : decode cX11_other 90 = .ok (.if_icmp .ge 7, 3) := by decide +kernel
theorem dX11_other_93 : decode cX11_other 93 = .ok (.iconst 0, 1) := by decide +kernel
theorem dX11_other_94 : decode cX11_other 94 = .ok (.goto 4, 3) := by decide +kernel
theorem dX11_other_97 : decode cX11_other 97 = .ok (.iconst 1, 1) := by decide +kernel
theorem dX11_other_98 : decode cX11_other 98 = .ok (.putfield 1, 3) := by decide +kernel
theorem dX11_other_101 : decode cX11_other 101 = .ok (.aload_n 0, 1) := by decide +kernel
theorem dX11_other_102 : decode cX11_other 102 = .ok (.getfield 1, 3) := by decide +kernel
theorem dX11_other_105 : decode cX11_other 105 = .ok (.ifCond .ne 12, 3) := by decide +kernel
theorem dX11_other_108 : decode cX11_other 108 = .ok (.aload_n 0, 1) := by decide +kernel
theorem dX11_other_109 : decode cX11_other 109 = .ok (.getfield 65, 3) := by decide +kernel
theorem dX11_other_112 : decode cX11_other 112 = .ok (.iload_n 3, 1) := by decide +kernel
theorem dX11_other_113 : decode cX11_other 113 = .ok (.iaload, 1) := by decide +kernel
theorem dX11_other_114 : decode cX11_other 114 = .ok (.goto 4, 3) := by decide +kernel
theorem dX11_other_117 : decode cX11_other 117 = .ok (.iconst 0, 1) := by decide +kernel
theorem dX11_other_118 : decode cX11_other 118 = .ok (.ireturn, 1) := by decide +kernel
theorem dX11_expression_0 : decode cX11_expression 0 = .ok (.aload_n 0, 1) := by decide +kernel
theorem dX11_expression_1 : decode cX11_expression 1 = .ok (.iconst 0, 1) := by decide +kernel
theorem dX11_expression_2 : decode cX11_expression 2 = .ok (.putfield 1, 3) := by decide +kernel
theorem dX11_expression_5 : decode cX11_expression 5 = .ok (.iload_n 1, 1) := by decide +kernel
theorem dX11_expression_6 : decode cX11_expression 6 = .ok (.tableswitch 117 0 4 #[34, 34, 63, 63, 89], 34) := by decide +kernel
theorem dX11_expression_40 : decode cX11_expression 40 = .ok (.iload_n 2, 1) := by decide +kernel
theorem dX11_expression_41 : decode cX11_expression 41 = .ok (.invokestatic 107, 3) := by decide +kernel
theorem dX11_expression_44 : decode cX11_expression 44 = .ok (.ifCond .eq 19, 3) := by decide +kernel
theorem dX11_expression_47 : decode cX11_expression 47 = .ok (.iload_n 3, 1) := by decide +kernel
theorem dX11_expression_48 : decode cX11_expression 48 = .ok (.iconst (-1), 1) := by decide +kernel
theorem dX11_expression_49 : decode cX11_expression 49 = .ok (.if_icmp .eq 10, 3) := by decide +kernel
theorem dX11_expression_52 : decode cX11_expression 52 = .ok (.iload_n 3, 1) := by decide +kernel
theorem dX11_expression_53 : decode cX11_expression 53 = .ok (.invokestatic 122, 3) := by decide +kernel
