theorem dX11_loose_35 : decode cX11_loose 35 = .ok (.ireturn, 1) := by decide +kernel
theorem dX11_loose_36 : decode cX11_loose 36 = .ok (.aload_n 0, 1) := by decide +kernel
theorem dX11_loose_37 : decode cX11_loose 37 = .ok (.aload_n 0, 1) := by decide +kernel
theorem dX11_loose_38 : decode cX11_loose 38 = .ok (.getfield 32, 3) := by decide +kernel
theorem dX11_loose_41 : decode cX11_loose 41 = .ok (.iload_n 2, 1) := by decide +kernel
theorem dX11_loose_42 : decode cX11_loose 42 = .ok (.iaload, 1) := by decide +kernel
theorem dX11_loose_43 : decode cX11_loose 43 = .ok (.invokevirtual 131, 3) := by decide +kernel
theorem dX11_loose_46 : decode cX11_loose 46 = .ok (.iconst 0, 1) := by decide +kernel
theorem dX11_loose_47 : decode cX11_loose 47 = .ok (.istore_n 3, 1) := by decide +kernel
theorem dX11_loose_48 : decode cX11_loose 48 = .ok (.iconst 0, 1) := by decide +kernel
theorem dX11_loose_49 : decode cX11_loose 49 = .ok (.istore 4, 2) := by decide +kernel
theorem dX11_loose_51 : decode cX11_loose 51 = .ok (.iload 4, 2) := by decide +kernel
theorem dX11_loose_53 : decode cX11_loose 53 = .ok (.iconst 2, 1) := by decide +kernel
theorem dX11_loose_54 : decode cX11_loose 54 = .ok (.aload_n 0, 1) := by decide +kernel
theorem dX11_loose_55 : decode cX11_loose 55 = .ok (.getfield 100, 3) := by decide +kernel
theorem dX11_loose_58 : decode cX11_loose 58 = .ok (.imul, 1) := by decide +kernel
theorem dX11_loose_59 : decode cX11_loose 59 = .ok (.if_icmp .ge 85, 3) := by decide +kernel
theorem dX11_loose_62 : decode cX11_loose 62 = .ok (.iload 4, 2) := by decide +kernel
theorem dX11_loose_64 : decode cX11_loose 64 = .ok (.iconst 2, 1) := by decide +kernel
theorem dX11_loose_65 : decode cX11_loose 65 = .ok (.irem, 1) := by decide +kernel
theorem dX11_loose_66 : decode cX11_loose 66 = .ok (.ifCond .ne 7, 3) := by decide +kernel
theorem dX11_loose_69 : decode cX11_loose 69 = .ok (.iconst 1, 1) := by decide +kernel
theorem dX11_loose_70 : decode cX11_loose 70 = .ok (.goto 4, 3) := by decide +kernel
theorem dX11_loose_73 : decode cX11_loose 73 = .ok (.iconst 0, 1) := by decide +kernel
theorem dX11_loose_74 : decode cX11_loose 74 = .ok (.istore 5, 2) := by decide +kernel
theorem dX11_loose_76 : decode cX11_loose 76 = .ok (.aload_n 0, 1) := by decide +kernel
theorem dX11_loose_77 : decode cX11_loose 77 = .ok (.getfield 13, 3) := by decide +kernel
theorem dX11_loose_80 : decode cX11_loose 80 = .ok (.iconst 3, 1) := by decide +kernel
theorem dX11_loose_81 : decode cX11_loose 81 = .ok (.iload 4, 2) := by decide +kernel
theorem dX11_loose_83 : decode cX11_loose 83 = .ok (.iconst 2, 1) := by decide +kernel
theorem dX11_loose_84 : decode cX11_loose 84 = .ok (.idiv, 1) := by decide +kernel
theorem dX11_loose_85 : decode cX11_loose 85 = .ok (.imul, 1) := by decide +kernel
theorem dX11_loose_86 : decode cX11_loose 86 = .ok (.iload 5, 2) := by decide +kernel
theorem dX11_loose_88 : decode cX11_loose 88 = .ok (.ifCond .eq 7, 3) := by decide +kernel
theorem dX11_loose_91 : decode cX11_loose 91 = .ok (.iconst 0, 1) := by decide +kernel
theorem dX11_loose_92 : decode cX11_loose 92 = .ok (.goto 4, 3) := by decide +kernel
theorem dX11_loose_95 : decode cX11_loose 95 = .ok (.iconst 2, 1) := by decide +kernel
theorem dX11_loose_96 : decode cX11_loose 96 = .ok (.iadd, 1) := by decide +kernel
theorem dX11_loose_97 : decode cX11_loose 97 = .ok (.iaload, 1) := by decide +kernel
theorem dX11_loose_98 : decode cX11_loose 98 = .ok (.iload_n 1, 1) := by decide +kernel
theorem dX11_loose_99 : decode cX11_loose 99 = .ok (.if_icmp .ne 39, 3) := by decide +kernel
theorem dX11_loose_102 : decode cX11_loose 102 = .ok (.aload_n 0, 1) := by decide +kernel
theorem dX11_loose_103 : decode cX11_loose 103 = .ok (.iload_n 2, 1) := by decide +kernel
theorem dX11_loose_104 : decode cX11_loose 104 = .ok (.iload 4, 2) := by decide +kernel
theorem dX11_loose_106 : decode cX11_loose 106 = .ok (.iconst 2, 1) := by decide +kernel
theorem dX11_loose_107 : decode cX11_loose 107 = .ok (.idiv, 1) := by decide +kernel
theorem dX11_loose_108 : decode cX11_loose 108 = .ok (.iload 5, 2) := by decide +kernel
theorem dX11_loose_110 : decode cX11_loose 110 = .ok (.invokevirtual 162, 3) := by decide +kernel
theorem dX11_loose_113 : decode cX11_loose 113 = .ok (.ifCond .eq 25, 3) := by decide +kernel
theorem dX11_loose_116 : decode cX11_loose 116 = .ok (.iload_n 3, 1) := by decide +kernel
theorem dX11_loose_117 : decode cX11_loose 117 = .ok (.aload_n 0, 1) := by decide +kernel
theorem dX11_loose_118 : decode cX11_loose 118 = .ok (.iload_n 2, 1) := by decide +kernel
theorem dX11_loose_119 : decode cX11_loose 119 = .ok (.iload 4, 2) := by decide +kernel
theorem dX11_loose_121 : decode cX11_loose 121 = .ok (.iconst 2, 1) := by decide +kernel
theorem dX11_loose_122 : decode cX11_loose 122 = .ok (.idiv, 1) := by decide +kernel
theorem dX11_loose_123 : decode cX11_loose 123 = .ok (.iload 5, 2) := by decide +kernel
theorem dX11_loose_125 : decode cX11_loose 125 = .ok (.invokevirtual 209, 3) := by decide +kernel
theorem dX11_loose_128 : decode cX11_loose 128 = .ok (.ifCond .eq 7, 3) := by decide +kernel
theorem dX11_loose_131 : decode cX11_loose 131 = .ok (.iconst 1, 1) := by decide +kernel
theorem dX11_loose_132 : decode cX11_loose 132 = .ok (.goto 4, 3) := by decide +kernel
