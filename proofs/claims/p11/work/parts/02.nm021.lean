theorem dX11_mayBeLeft_19 : decode cX11_mayBeLeft 19 = .ok (.iaload, 1) := by decide +kernel
theorem dX11_mayBeLeft_20 : decode cX11_mayBeLeft 20 = .ok (.ishr, 1) := by decide +kernel
theorem dX11_mayBeLeft_21 : decode cX11_mayBeLeft 21 = .ok (.iconst 1, 1) := by decide +kernel
theorem dX11_mayBeLeft_22 : decode cX11_mayBeLeft 22 = .ok (.iand, 1) := by decide +kernel
theorem dX11_mayBeLeft_23 : decode cX11_mayBeLeft 23 = .ok (.iconst 1, 1) := by decide +kernel
theorem dX11_mayBeLeft_24 : decode cX11_mayBeLeft 24 = .ok (.if_icmp .ne 7, 3) := by decide +kernel
theorem dX11_mayBeLeft_27 : decode cX11_mayBeLeft 27 = .ok (.iconst 1, 1) := by decide +kernel
theorem dX11_mayBeLeft_28 : decode cX11_mayBeLeft 28 = .ok (.goto 4, 3) := by decide +kernel
theorem dX11_mayBeLeft_31 : decode cX11_mayBeLeft 31 = .ok (.iconst 0, 1) := by decide +kernel
theorem dX11_mayBeLeft_32 : decode cX11_mayBeLeft 32 = .ok (.ireturn, 1) := by decide +kernel
theorem dX11_root_0 : decode cX11_root 0 = .ok (.aload_n 0, 1) := by decide +kernel
theorem dX11_root_1 : decode cX11_root 1 = .ok (.iload_n 1, 1) := by decide +kernel
theorem dX11_root_2 : decode cX11_root 2 = .ok (.invokevirtual 156, 3) := by decide +kernel
theorem dX11_root_5 : decode cX11_root 5 = .ok (.iconst 0, 1) := by decide +kernel
theorem dX11_root_6 : decode cX11_root 6 = .ok (.istore_n 2, 1) := by decide +kernel
theorem dX11_root_7 : decode cX11_root 7 = .ok (.iload_n 2, 1) := by decide +kernel
theorem dX11_root_8 : decode cX11_root 8 = .ok (.aload_n 0, 1) := by decide +kernel
theorem dX11_root_9 : decode cX11_root 9 = .ok (.getfield 94, 3) := by decide +kernel
theorem dX11_root_12 : decode cX11_root 12 = .ok (.if_icmp .ge 33, 3) := by decide +kernel
theorem dX11_root_15 : decode cX11_root 15 = .ok (.aload_n 0, 1) := by decide +kernel
theorem dX11_root_16 : decode cX11_root 16 = .ok (.getfield 78, 3) := by decide +kernel
theorem dX11_root_19 : decode cX11_root 19 = .ok (.sipush 1300, 3) := by decide +kernel
theorem dX11_root_22 : decode cX11_root 22 = .ok (.iload_n 1, 1) := by decide +kernel
theorem dX11_root_23 : decode cX11_root 23 = .ok (.imul, 1) := by decide +kernel
theorem dX11_root_24 : decode cX11_root 24 = .ok (.iload_n 2, 1) := by decide +kernel
theorem dX11_root_25 : decode cX11_root 25 = .ok (.iadd, 1) := by decide +kernel
theorem dX11_root_26 : decode cX11_root 26 = .ok (.aload_n 0, 1) := by decide +kernel
theorem dX11_root_27 : decode cX11_root 27 = .ok (.getfield 55, 3) := by decide +kernel
theorem dX11_root_30 : decode cX11_root 30 = .ok (.aload_n 0, 1) := by decide +kernel
theorem dX11_root_31 : decode cX11_root 31 = .ok (.iload_n 1, 1) := by decide +kernel
theorem dX11_root_32 : decode cX11_root 32 = .ok (.invokevirtual 135, 3) := by decide +kernel
theorem dX11_root_35 : decode cX11_root 35 = .ok (.iload_n 2, 1) := by decide +kernel
theorem dX11_root_36 : decode cX11_root 36 = .ok (.iadd, 1) := by decide +kernel
theorem dX11_root_37 : decode cX11_root 37 = .ok (.baload, 1) := by decide +kernel
theorem dX11_root_38 : decode cX11_root 38 = .ok (.bastore, 1) := by decide +kernel
theorem dX11_root_39 : decode cX11_root 39 = .ok (.iinc 2 1, 3) := by decide +kernel
theorem dX11_root_42 : decode cX11_root 42 = .ok (.goto (-35), 3) := by decide +kernel
theorem dX11_root_45 : decode cX11_root 45 = .ok (.aload_n 0, 1) := by decide +kernel
theorem dX11_root_46 : decode cX11_root 46 = .ok (.getfield 81, 3) := by decide +kernel
theorem dX11_root_49 : decode cX11_root 49 = .ok (.iload_n 1, 1) := by decide +kernel
theorem dX11_root_50 : decode cX11_root 50 = .ok (.iconst 1, 1) := by decide +kernel
theorem dX11_root_51 : decode cX11_root 51 = .ok (.bastore, 1) := by decide +kernel
theorem dX11_root_52 : decode cX11_root 52 = .ok (.return_, 1) := by decide +kernel
theorem dX11_weigh_0 : decode cX11_weigh 0 = .ok (.aload_n 0, 1) := by decide +kernel
theorem dX11_weigh_1 : decode cX11_weigh 1 = .ok (.aload_n 0, 1) := by decide +kernel
theorem dX11_weigh_2 : decode cX11_weigh 2 = .ok (.getfield 32, 3) := by decide +kernel
theorem dX11_weigh_5 : decode cX11_weigh 5 = .ok (.iload_n 2, 1) := by decide +kernel
theorem dX11_weigh_6 : decode cX11_weigh 6 = .ok (.iaload, 1) := by decide +kernel
theorem dX11_weigh_7 : decode cX11_weigh 7 = .ok (.invokevirtual 131, 3) := by decide +kernel
theorem dX11_weigh_10 : decode cX11_weigh 10 = .ok (.aload_n 0, 1) := by decide +kernel
theorem dX11_weigh_11 : decode cX11_weigh 11 = .ok (.getfield 81, 3) := by decide +kernel
theorem dX11_weigh_14 : decode cX11_weigh 14 = .ok (.aload_n 0, 1) := by decide +kernel
theorem dX11_weigh_15 : decode cX11_weigh 15 = .ok (.getfield 32, 3) := by decide +kernel
theorem dX11_weigh_18 : decode cX11_weigh 18 = .ok (.iload_n 2, 1) := by decide +kernel
theorem dX11_weigh_19 : decode cX11_weigh 19 = .ok (.iaload, 1) := by decide +kernel
theorem dX11_weigh_20 : decode cX11_weigh 20 = .ok (.baload, 1) := by decide +kernel
theorem dX11_weigh_21 : decode cX11_weigh 21 = .ok (.ifCond .ne 13, 3) := by decide +kernel
theorem dX11_weigh_24 : decode cX11_weigh 24 = .ok (.aload_n 0, 1) := by decide +kernel
theorem dX11_weigh_25 : decode cX11_weigh 25 = .ok (.aload_n 0, 1) := by decide +kernel
theorem dX11_weigh_26 : decode cX11_weigh 26 = .ok (.getfield 32, 3) := by decide +kernel
