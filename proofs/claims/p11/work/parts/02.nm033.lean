theorem dX11_lose_31 : decode cX11_lose 31 = .ok (.aload_n 0, 1) := by decide +kernel
theorem dX11_lose_32 : decode cX11_lose 32 = .ok (.getfield 41, 3) := by decide +kernel
theorem dX11_lose_35 : decode cX11_lose 35 = .ok (.iload_n 3, 1) := by decide +kernel
theorem dX11_lose_36 : decode cX11_lose 36 = .ok (.iaload, 1) := by decide +kernel
theorem dX11_lose_37 : decode cX11_lose 37 = .ok (.iload 4, 2) := by decide +kernel
theorem dX11_lose_39 : decode cX11_lose 39 = .ok (.ishr, 1) := by decide +kernel
theorem dX11_lose_40 : decode cX11_lose 40 = .ok (.iconst 1, 1) := by decide +kernel
theorem dX11_lose_41 : decode cX11_lose 41 = .ok (.iand, 1) := by decide +kernel
theorem dX11_lose_42 : decode cX11_lose 42 = .ok (.ifCond .eq 33, 3) := by decide +kernel
theorem dX11_lose_45 : decode cX11_lose 45 = .ok (.aload_n 0, 1) := by decide +kernel
theorem dX11_lose_46 : decode cX11_lose 46 = .ok (.iload 4, 2) := by decide +kernel
theorem dX11_lose_48 : decode cX11_lose 48 = .ok (.iload_n 3, 1) := by decide +kernel
theorem dX11_lose_49 : decode cX11_lose 49 = .ok (.invokevirtual 200, 3) := by decide +kernel
theorem dX11_lose_52 : decode cX11_lose 52 = .ok (.ifCond .eq 6, 3) := by decide +kernel
theorem dX11_lose_55 : decode cX11_lose 55 = .ok (.goto 20, 3) := by decide +kernel
theorem dX11_lose_58 : decode cX11_lose 58 = .ok (.aload_n 0, 1) := by decide +kernel
theorem dX11_lose_59 : decode cX11_lose 59 = .ok (.getfield 41, 3) := by decide +kernel
theorem dX11_lose_62 : decode cX11_lose 62 = .ok (.iload_n 3, 1) := by decide +kernel
theorem dX11_lose_63 : decode cX11_lose 63 = .ok (.dup2, 1) := by decide +kernel
theorem dX11_lose_64 : decode cX11_lose 64 = .ok (.iaload, 1) := by decide +kernel
theorem dX11_lose_65 : decode cX11_lose 65 = .ok (.iconst 1, 1) := by decide +kernel
theorem dX11_lose_66 : decode cX11_lose 66 = .ok (.iload 4, 2) := by decide +kernel
theorem dX11_lose_68 : decode cX11_lose 68 = .ok (.ishl, 1) := by decide +kernel
theorem dX11_lose_69 : decode cX11_lose 69 = .ok (.iconst (-1), 1) := by decide +kernel
theorem dX11_lose_70 : decode cX11_lose 70 = .ok (.ixor, 1) := by decide +kernel
theorem dX11_lose_71 : decode cX11_lose 71 = .ok (.iand, 1) := by decide +kernel
theorem dX11_lose_72 : decode cX11_lose 72 = .ok (.iastore, 1) := by decide +kernel
theorem dX11_lose_73 : decode cX11_lose 73 = .ok (.iconst 1, 1) := by decide +kernel
theorem dX11_lose_74 : decode cX11_lose 74 = .ok (.istore_n 2, 1) := by decide +kernel
theorem dX11_lose_75 : decode cX11_lose 75 = .ok (.iinc 4 1, 3) := by decide +kernel
theorem dX11_lose_78 : decode cX11_lose 78 = .ok (.goto (-54), 3) := by decide +kernel
theorem dX11_lose_81 : decode cX11_lose 81 = .ok (.iinc 3 1, 3) := by decide +kernel
theorem dX11_lose_84 : decode cX11_lose 84 = .ok (.goto (-80), 3) := by decide +kernel
theorem dX11_lose_87 : decode cX11_lose 87 = .ok (.iload_n 2, 1) := by decide +kernel
theorem dX11_lose_88 : decode cX11_lose 88 = .ok (.ireturn, 1) := by decide +kernel
theorem dX11_has_0 : decode cX11_has 0 = .ok (.aload_n 0, 1) := by decide +kernel
theorem dX11_has_1 : decode cX11_has 1 = .ok (.iconst 0, 1) := by decide +kernel
theorem dX11_has_2 : decode cX11_has 2 = .ok (.putfield 1, 3) := by decide +kernel
theorem dX11_has_5 : decode cX11_has 5 = .ok (.iload_n 1, 1) := by decide +kernel
theorem dX11_has_6 : decode cX11_has 6 = .ok (.invokestatic 103, 3) := by decide +kernel
theorem dX11_has_9 : decode cX11_has 9 = .ok (.ifCond .eq 10, 3) := by decide +kernel
theorem dX11_has_12 : decode cX11_has 12 = .ok (.iload_n 2, 1) := by decide +kernel
theorem dX11_has_13 : decode cX11_has 13 = .ok (.invokestatic 122, 3) := by decide +kernel
theorem dX11_has_16 : decode cX11_has 16 = .ok (.ifCond .ne 5, 3) := by decide +kernel
theorem dX11_has_19 : decode cX11_has 19 = .ok (.iconst (-1), 1) := by decide +kernel
theorem dX11_has_20 : decode cX11_has 20 = .ok (.ireturn, 1) := by decide +kernel
theorem dX11_has_21 : decode cX11_has 21 = .ok (.aload_n 0, 1) := by decide +kernel
theorem dX11_has_22 : decode cX11_has 22 = .ok (.invokevirtual 203, 3) := by decide +kernel
theorem dX11_has_25 : decode cX11_has 25 = .ok (.aload_n 0, 1) := by decide +kernel
theorem dX11_has_26 : decode cX11_has 26 = .ok (.getfield 187, 3) := by decide +kernel
theorem dX11_has_29 : decode cX11_has 29 = .ok (.ifCond .lt 8, 3) := by decide +kernel
theorem dX11_has_32 : decode cX11_has 32 = .ok (.bipush (-3), 2) := by decide +kernel
theorem dX11_has_34 : decode cX11_has 34 = .ok (.goto 13, 3) := by decide +kernel
theorem dX11_has_37 : decode cX11_has 37 = .ok (.aload_n 0, 1) := by decide +kernel
theorem dX11_has_38 : decode cX11_has 38 = .ok (.getfield 41, 3) := by decide +kernel
theorem dX11_has_41 : decode cX11_has 41 = .ok (.iload_n 2, 1) := by decide +kernel
theorem dX11_has_42 : decode cX11_has 42 = .ok (.iaload, 1) := by decide +kernel
theorem dX11_has_43 : decode cX11_has 43 = .ok (.iload_n 1, 1) := by decide +kernel
theorem dX11_has_44 : decode cX11_has 44 = .ok (.ishr, 1) := by decide +kernel
theorem dX11_has_45 : decode cX11_has 45 = .ok (.iconst 1, 1) := by decide +kernel
