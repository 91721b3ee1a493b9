theorem dX11_isReady_46 : decode cX11_isReady 46 = .ok (.iand, 1) := by decide +kernel
theorem dX11_isReady_47 : decode cX11_isReady 47 = .ok (.ifCond .ne 7, 3) := by decide +kernel
theorem dX11_isReady_50 : decode cX11_isReady 50 = .ok (.iconst 1, 1) := by decide +kernel
theorem dX11_isReady_51 : decode cX11_isReady 51 = .ok (.goto 4, 3) := by decide +kernel
theorem dX11_isReady_54 : decode cX11_isReady 54 = .ok (.iconst 0, 1) := by decide +kernel
theorem dX11_isReady_55 : decode cX11_isReady 55 = .ok (.ireturn, 1) := by decide +kernel
theorem dX11_reckon_0 : decode cX11_reckon 0 = .ok (.aload_n 0, 1) := by decide +kernel
theorem dX11_reckon_1 : decode cX11_reckon 1 = .ok (.getfield 118, 3) := by decide +kernel
theorem dX11_reckon_4 : decode cX11_reckon 4 = .ok (.ifCond .eq 4, 3) := by decide +kernel
theorem dX11_reckon_7 : decode cX11_reckon 7 = .ok (.return_, 1) := by decide +kernel
theorem dX11_reckon_8 : decode cX11_reckon 8 = .ok (.aload_n 0, 1) := by decide +kernel
theorem dX11_reckon_9 : decode cX11_reckon 9 = .ok (.iconst 1, 1) := by decide +kernel
theorem dX11_reckon_10 : decode cX11_reckon 10 = .ok (.putfield 118, 3) := by decide +kernel
theorem dX11_reckon_13 : decode cX11_reckon 13 = .ok (.aload_n 0, 1) := by decide +kernel
theorem dX11_reckon_14 : decode cX11_reckon 14 = .ok (.invokevirtual 190, 3) := by decide +kernel
theorem dX11_reckon_17 : decode cX11_reckon 17 = .ok (.aload_n 0, 1) := by decide +kernel
theorem dX11_reckon_18 : decode cX11_reckon 18 = .ok (.getfield 187, 3) := by decide +kernel
theorem dX11_reckon_21 : decode cX11_reckon 21 = .ok (.ifCond .lt 4, 3) := by decide +kernel
theorem dX11_reckon_24 : decode cX11_reckon 24 = .ok (.return_, 1) := by decide +kernel
theorem dX11_reckon_25 : decode cX11_reckon 25 = .ok (.iconst 0, 1) := by decide +kernel
theorem dX11_reckon_26 : decode cX11_reckon 26 = .ok (.istore_n 1, 1) := by decide +kernel
theorem dX11_reckon_27 : decode cX11_reckon 27 = .ok (.iload_n 1, 1) := by decide +kernel
theorem dX11_reckon_28 : decode cX11_reckon 28 = .ok (.ldc 193, 2) := by decide +kernel
theorem dX11_reckon_30 : decode cX11_reckon 30 = .ok (.if_icmp .eq 141, 3) := by decide +kernel
theorem dX11_reckon_33 : decode cX11_reckon 33 = .ok (.iconst 0, 1) := by decide +kernel
theorem dX11_reckon_34 : decode cX11_reckon 34 = .ok (.istore_n 2, 1) := by decide +kernel
theorem dX11_reckon_35 : decode cX11_reckon 35 = .ok (.aload_n 0, 1) := by decide +kernel
theorem dX11_reckon_36 : decode cX11_reckon 36 = .ok (.iload_n 2, 1) := by decide +kernel
theorem dX11_reckon_37 : decode cX11_reckon 37 = .ok (.iload_n 1, 1) := by decide +kernel
theorem dX11_reckon_38 : decode cX11_reckon 38 = .ok (.invokevirtual 194, 3) := by decide +kernel
theorem dX11_reckon_41 : decode cX11_reckon 41 = .ok (.ifCond .ne 9, 3) := by decide +kernel
theorem dX11_reckon_44 : decode cX11_reckon 44 = .ok (.iinc 2 1, 3) := by decide +kernel
theorem dX11_reckon_47 : decode cX11_reckon 47 = .ok (.goto (-12), 3) := by decide +kernel
theorem dX11_reckon_50 : decode cX11_reckon 50 = .ok (.iconst 1, 1) := by decide +kernel
theorem dX11_reckon_51 : decode cX11_reckon 51 = .ok (.iload_n 2, 1) := by decide +kernel
theorem dX11_reckon_52 : decode cX11_reckon 52 = .ok (.ishl, 1) := by decide +kernel
theorem dX11_reckon_53 : decode cX11_reckon 53 = .ok (.istore_n 3, 1) := by decide +kernel
theorem dX11_reckon_54 : decode cX11_reckon 54 = .ok (.iconst 0, 1) := by decide +kernel
theorem dX11_reckon_55 : decode cX11_reckon 55 = .ok (.istore 4, 2) := by decide +kernel
theorem dX11_reckon_57 : decode cX11_reckon 57 = .ok (.iload 4, 2) := by decide +kernel
theorem dX11_reckon_59 : decode cX11_reckon 59 = .ok (.bipush 16, 2) := by decide +kernel
theorem dX11_reckon_61 : decode cX11_reckon 61 = .ok (.if_icmp .ge 40, 3) := by decide +kernel
theorem dX11_reckon_64 : decode cX11_reckon 64 = .ok (.iload_n 3, 1) := by decide +kernel
theorem dX11_reckon_65 : decode cX11_reckon 65 = .ok (.aload_n 0, 1) := by decide +kernel
theorem dX11_reckon_66 : decode cX11_reckon 66 = .ok (.iload_n 2, 1) := by decide +kernel
theorem dX11_reckon_67 : decode cX11_reckon 67 = .ok (.iload 4, 2) := by decide +kernel
theorem dX11_reckon_69 : decode cX11_reckon 69 = .ok (.invokevirtual 183, 3) := by decide +kernel
theorem dX11_reckon_72 : decode cX11_reckon 72 = .ok (.ifCond .eq 20, 3) := by decide +kernel
theorem dX11_reckon_75 : decode cX11_reckon 75 = .ok (.aload_n 0, 1) := by decide +kernel
theorem dX11_reckon_76 : decode cX11_reckon 76 = .ok (.iload 4, 2) := by decide +kernel
theorem dX11_reckon_78 : decode cX11_reckon 78 = .ok (.iload_n 2, 1) := by decide +kernel
theorem dX11_reckon_79 : decode cX11_reckon 79 = .ok (.invokevirtual 183, 3) := by decide +kernel
theorem dX11_reckon_82 : decode cX11_reckon 82 = .ok (.ifCond .eq 10, 3) := by decide +kernel
theorem dX11_reckon_85 : decode cX11_reckon 85 = .ok (.iconst 1, 1) := by decide +kernel
theorem dX11_reckon_86 : decode cX11_reckon 86 = .ok (.iload 4, 2) := by decide +kernel
theorem dX11_reckon_88 : decode cX11_reckon 88 = .ok (.ishl, 1) := by decide +kernel
theorem dX11_reckon_89 : decode cX11_reckon 89 = .ok (.goto 4, 3) := by decide +kernel
theorem dX11_reckon_92 : decode cX11_reckon 92 = .ok (.iconst 0, 1) := by decide +kernel
theorem dX11_reckon_93 : decode cX11_reckon 93 = .ok (.ior, 1) := by decide +kernel
theorem dX11_reckon_94 : decode cX11_reckon 94 = .ok (.istore_n 3, 1) := by decide +kernel
