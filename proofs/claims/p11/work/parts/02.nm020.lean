theorem dX11_takes_11 : decode cX11_takes 11 = .ok (.iconst 2, 1) := by decide +kernel
theorem dX11_takes_12 : decode cX11_takes 12 = .ok (.goto 4, 3) := by decide +kernel
theorem dX11_takes_15 : decode cX11_takes 15 = .ok (.iconst 0, 1) := by decide +kernel
theorem dX11_takes_16 : decode cX11_takes 16 = .ok (.iadd, 1) := by decide +kernel
theorem dX11_takes_17 : decode cX11_takes 17 = .ok (.iaload, 1) := by decide +kernel
theorem dX11_takes_18 : decode cX11_takes 18 = .ok (.istore 4, 2) := by decide +kernel
theorem dX11_takes_20 : decode cX11_takes 20 = .ok (.aload_n 0, 1) := by decide +kernel
theorem dX11_takes_21 : decode cX11_takes 21 = .ok (.iload_n 1, 1) := by decide +kernel
theorem dX11_takes_22 : decode cX11_takes 22 = .ok (.invokevirtual 153, 3) := by decide +kernel
theorem dX11_takes_25 : decode cX11_takes 25 = .ok (.iload_n 3, 1) := by decide +kernel
theorem dX11_takes_26 : decode cX11_takes 26 = .ok (.if_icmp .ne 56, 3) := by decide +kernel
theorem dX11_takes_29 : decode cX11_takes 29 = .ok (.aload_n 0, 1) := by decide +kernel
theorem dX11_takes_30 : decode cX11_takes 30 = .ok (.getfield 20, 3) := by decide +kernel
theorem dX11_takes_33 : decode cX11_takes 33 = .ok (.iload_n 1, 1) := by decide +kernel
theorem dX11_takes_34 : decode cX11_takes 34 = .ok (.iaload, 1) := by decide +kernel
theorem dX11_takes_35 : decode cX11_takes 35 = .ok (.aload_n 0, 1) := by decide +kernel
theorem dX11_takes_36 : decode cX11_takes 36 = .ok (.getfield 13, 3) := by decide +kernel
theorem dX11_takes_39 : decode cX11_takes 39 = .ok (.iconst 3, 1) := by decide +kernel
theorem dX11_takes_40 : decode cX11_takes 40 = .ok (.iload_n 2, 1) := by decide +kernel
theorem dX11_takes_41 : decode cX11_takes 41 = .ok (.imul, 1) := by decide +kernel
theorem dX11_takes_42 : decode cX11_takes 42 = .ok (.iconst 1, 1) := by decide +kernel
theorem dX11_takes_43 : decode cX11_takes 43 = .ok (.iadd, 1) := by decide +kernel
theorem dX11_takes_44 : decode cX11_takes 44 = .ok (.iaload, 1) := by decide +kernel
theorem dX11_takes_45 : decode cX11_takes 45 = .ok (.if_icmp .ne 37, 3) := by decide +kernel
theorem dX11_takes_48 : decode cX11_takes 48 = .ok (.aload_n 0, 1) := by decide +kernel
theorem dX11_takes_49 : decode cX11_takes 49 = .ok (.getfield 23, 3) := by decide +kernel
theorem dX11_takes_52 : decode cX11_takes 52 = .ok (.iload_n 1, 1) := by decide +kernel
theorem dX11_takes_53 : decode cX11_takes 53 = .ok (.iaload, 1) := by decide +kernel
theorem dX11_takes_54 : decode cX11_takes 54 = .ok (.iconst (-1), 1) := by decide +kernel
theorem dX11_takes_55 : decode cX11_takes 55 = .ok (.if_icmp .eq 23, 3) := by decide +kernel
theorem dX11_takes_58 : decode cX11_takes 58 = .ok (.aload_n 0, 1) := by decide +kernel
theorem dX11_takes_59 : decode cX11_takes 59 = .ok (.getfield 41, 3) := by decide +kernel
theorem dX11_takes_62 : decode cX11_takes 62 = .ok (.aload_n 0, 1) := by decide +kernel
theorem dX11_takes_63 : decode cX11_takes 63 = .ok (.getfield 23, 3) := by decide +kernel
theorem dX11_takes_66 : decode cX11_takes 66 = .ok (.iload_n 1, 1) := by decide +kernel
theorem dX11_takes_67 : decode cX11_takes 67 = .ok (.iaload, 1) := by decide +kernel
theorem dX11_takes_68 : decode cX11_takes 68 = .ok (.iaload, 1) := by decide +kernel
theorem dX11_takes_69 : decode cX11_takes 69 = .ok (.iload 4, 2) := by decide +kernel
theorem dX11_takes_71 : decode cX11_takes 71 = .ok (.ishr, 1) := by decide +kernel
theorem dX11_takes_72 : decode cX11_takes 72 = .ok (.iconst 1, 1) := by decide +kernel
theorem dX11_takes_73 : decode cX11_takes 73 = .ok (.iand, 1) := by decide +kernel
theorem dX11_takes_74 : decode cX11_takes 74 = .ok (.iconst 1, 1) := by decide +kernel
theorem dX11_takes_75 : decode cX11_takes 75 = .ok (.if_icmp .ne 7, 3) := by decide +kernel
theorem dX11_takes_78 : decode cX11_takes 78 = .ok (.iconst 1, 1) := by decide +kernel
theorem dX11_takes_79 : decode cX11_takes 79 = .ok (.goto 4, 3) := by decide +kernel
theorem dX11_takes_82 : decode cX11_takes 82 = .ok (.iconst 0, 1) := by decide +kernel
theorem dX11_takes_83 : decode cX11_takes 83 = .ok (.ireturn, 1) := by decide +kernel
theorem dX11_mayBeLeft_0 : decode cX11_mayBeLeft 0 = .ok (.iload_n 3, 1) := by decide +kernel
theorem dX11_mayBeLeft_1 : decode cX11_mayBeLeft 1 = .ok (.ifCond .eq 30, 3) := by decide +kernel
theorem dX11_mayBeLeft_4 : decode cX11_mayBeLeft 4 = .ok (.aload_n 0, 1) := by decide +kernel
theorem dX11_mayBeLeft_5 : decode cX11_mayBeLeft 5 = .ok (.getfield 35, 3) := by decide +kernel
theorem dX11_mayBeLeft_8 : decode cX11_mayBeLeft 8 = .ok (.iload_n 1, 1) := by decide +kernel
theorem dX11_mayBeLeft_9 : decode cX11_mayBeLeft 9 = .ok (.iaload, 1) := by decide +kernel
theorem dX11_mayBeLeft_10 : decode cX11_mayBeLeft 10 = .ok (.aload_n 0, 1) := by decide +kernel
theorem dX11_mayBeLeft_11 : decode cX11_mayBeLeft 11 = .ok (.getfield 13, 3) := by decide +kernel
theorem dX11_mayBeLeft_14 : decode cX11_mayBeLeft 14 = .ok (.iconst 3, 1) := by decide +kernel
theorem dX11_mayBeLeft_15 : decode cX11_mayBeLeft 15 = .ok (.iload_n 2, 1) := by decide +kernel
theorem dX11_mayBeLeft_16 : decode cX11_mayBeLeft 16 = .ok (.imul, 1) := by decide +kernel
theorem dX11_mayBeLeft_17 : decode cX11_mayBeLeft 17 = .ok (.iconst 1, 1) := by decide +kernel
theorem dX11_mayBeLeft_18 : decode cX11_mayBeLeft 18 = .ok (.iadd, 1) := by decide +kernel
