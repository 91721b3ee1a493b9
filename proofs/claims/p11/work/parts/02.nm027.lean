theorem dX11_holds_168 : decode cX11_holds 168 = .ok (.if_icmp .ne 7, 3) := by decide +kernel
theorem dX11_holds_171 : decode cX11_holds 171 = .ok (.iconst 1, 1) := by decide +kernel
theorem dX11_holds_172 : decode cX11_holds 172 = .ok (.goto 4, 3) := by decide +kernel
theorem dX11_holds_175 : decode cX11_holds 175 = .ok (.iconst 0, 1) := by decide +kernel
theorem dX11_holds_176 : decode cX11_holds 176 = .ok (.ireturn, 1) := by decide +kernel
theorem dX11_holds_177 : decode cX11_holds 177 = .ok (.iconst 0, 1) := by decide +kernel
theorem dX11_holds_178 : decode cX11_holds 178 = .ok (.ireturn, 1) := by decide +kernel
theorem dX11_refers_0 : decode cX11_refers 0 = .ok (.iconst 0, 1) := by decide +kernel
theorem dX11_refers_1 : decode cX11_refers 1 = .ok (.istore_n 2, 1) := by decide +kernel
theorem dX11_refers_2 : decode cX11_refers 2 = .ok (.aload_n 0, 1) := by decide +kernel
theorem dX11_refers_3 : decode cX11_refers 3 = .ok (.getfield 29, 3) := by decide +kernel
theorem dX11_refers_6 : decode cX11_refers 6 = .ok (.iload_n 1, 1) := by decide +kernel
theorem dX11_refers_7 : decode cX11_refers 7 = .ok (.iaload, 1) := by decide +kernel
theorem dX11_refers_8 : decode cX11_refers 8 = .ok (.iconst 1, 1) := by decide +kernel
theorem dX11_refers_9 : decode cX11_refers 9 = .ok (.if_icmp .eq 13, 3) := by decide +kernel
theorem dX11_refers_12 : decode cX11_refers 12 = .ok (.aload_n 0, 1) := by decide +kernel
theorem dX11_refers_13 : decode cX11_refers 13 = .ok (.getfield 29, 3) := by decide +kernel
theorem dX11_refers_16 : decode cX11_refers 16 = .ok (.iload_n 1, 1) := by decide +kernel
theorem dX11_refers_17 : decode cX11_refers 17 = .ok (.iaload, 1) := by decide +kernel
theorem dX11_refers_18 : decode cX11_refers 18 = .ok (.iconst 2, 1) := by decide +kernel
theorem dX11_refers_19 : decode cX11_refers 19 = .ok (.if_icmp .ne 21, 3) := by decide +kernel
theorem dX11_refers_22 : decode cX11_refers 22 = .ok (.iconst 1, 1) := by decide +kernel
theorem dX11_refers_23 : decode cX11_refers 23 = .ok (.aload_n 0, 1) := by decide +kernel
theorem dX11_refers_24 : decode cX11_refers 24 = .ok (.getfield 32, 3) := by decide +kernel
theorem dX11_refers_27 : decode cX11_refers 27 = .ok (.iload_n 1, 1) := by decide +kernel
theorem dX11_refers_28 : decode cX11_refers 28 = .ok (.iaload, 1) := by decide +kernel
theorem dX11_refers_29 : decode cX11_refers 29 = .ok (.ishl, 1) := by decide +kernel
theorem dX11_refers_30 : decode cX11_refers 30 = .ok (.iconst 1, 1) := by decide +kernel
theorem dX11_refers_31 : decode cX11_refers 31 = .ok (.aload_n 0, 1) := by decide +kernel
theorem dX11_refers_32 : decode cX11_refers 32 = .ok (.getfield 35, 3) := by decide +kernel
theorem dX11_refers_35 : decode cX11_refers 35 = .ok (.iload_n 1, 1) := by decide +kernel
theorem dX11_refers_36 : decode cX11_refers 36 = .ok (.iaload, 1) := by decide +kernel
theorem dX11_refers_37 : decode cX11_refers 37 = .ok (.ishl, 1) := by decide +kernel
theorem dX11_refers_38 : decode cX11_refers 38 = .ok (.ior, 1) := by decide +kernel
theorem dX11_refers_39 : decode cX11_refers 39 = .ok (.istore_n 2, 1) := by decide +kernel
theorem dX11_refers_40 : decode cX11_refers 40 = .ok (.aload_n 0, 1) := by decide +kernel
theorem dX11_refers_41 : decode cX11_refers 41 = .ok (.getfield 29, 3) := by decide +kernel
theorem dX11_refers_44 : decode cX11_refers 44 = .ok (.iload_n 1, 1) := by decide +kernel
theorem dX11_refers_45 : decode cX11_refers 45 = .ok (.iaload, 1) := by decide +kernel
theorem dX11_refers_46 : decode cX11_refers 46 = .ok (.iconst 3, 1) := by decide +kernel
theorem dX11_refers_47 : decode cX11_refers 47 = .ok (.if_icmp .ne 12, 3) := by decide +kernel
theorem dX11_refers_50 : decode cX11_refers 50 = .ok (.iconst 1, 1) := by decide +kernel
theorem dX11_refers_51 : decode cX11_refers 51 = .ok (.aload_n 0, 1) := by decide +kernel
theorem dX11_refers_52 : decode cX11_refers 52 = .ok (.getfield 32, 3) := by decide +kernel
theorem dX11_refers_55 : decode cX11_refers 55 = .ok (.iload_n 1, 1) := by decide +kernel
theorem dX11_refers_56 : decode cX11_refers 56 = .ok (.iaload, 1) := by decide +kernel
theorem dX11_refers_57 : decode cX11_refers 57 = .ok (.ishl, 1) := by decide +kernel
theorem dX11_refers_58 : decode cX11_refers 58 = .ok (.istore_n 2, 1) := by decide +kernel
theorem dX11_refers_59 : decode cX11_refers 59 = .ok (.aload_n 0, 1) := by decide +kernel
theorem dX11_refers_60 : decode cX11_refers 60 = .ok (.getfield 29, 3) := by decide +kernel
theorem dX11_refers_63 : decode cX11_refers 63 = .ok (.iload_n 1, 1) := by decide +kernel
theorem dX11_refers_64 : decode cX11_refers 64 = .ok (.iaload, 1) := by decide +kernel
theorem dX11_refers_65 : decode cX11_refers 65 = .ok (.ifCond .ne 63, 3) := by decide +kernel
theorem dX11_refers_68 : decode cX11_refers 68 = .ok (.aload_n 0, 1) := by decide +kernel
theorem dX11_refers_69 : decode cX11_refers 69 = .ok (.aload_n 0, 1) := by decide +kernel
theorem dX11_refers_70 : decode cX11_refers 70 = .ok (.getfield 32, 3) := by decide +kernel
theorem dX11_refers_73 : decode cX11_refers 73 = .ok (.iload_n 1, 1) := by decide +kernel
theorem dX11_refers_74 : decode cX11_refers 74 = .ok (.iaload, 1) := by decide +kernel
theorem dX11_refers_75 : decode cX11_refers 75 = .ok (.invokevirtual 131, 3) := by decide +kernel
theorem dX11_refers_78 : decode cX11_refers 78 = .ok (.iconst 0, 1) := by decide +kernel
