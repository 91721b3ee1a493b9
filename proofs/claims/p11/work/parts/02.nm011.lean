theorem dX11_findPlaces_162 : decode cX11_findPlaces 162 = .ok (.iinc 2 1, 3) := by decide +kernel
theorem dX11_findPlaces_165 : decode cX11_findPlaces 165 = .ok (.goto (-50), 3) := by decide +kernel
theorem dX11_findPlaces_168 : decode cX11_findPlaces 168 = .ok (.return_, 1) := by decide +kernel
theorem dX11_shape_0 : decode cX11_shape 0 = .ok (.aload_n 0, 1) := by decide +kernel
theorem dX11_shape_1 : decode cX11_shape 1 = .ok (.iconst 0, 1) := by decide +kernel
theorem dX11_shape_2 : decode cX11_shape 2 = .ok (.putfield 1, 3) := by decide +kernel
theorem dX11_shape_5 : decode cX11_shape 5 = .ok (.iload_n 1, 1) := by decide +kernel
theorem dX11_shape_6 : decode cX11_shape 6 = .ok (.invokestatic 122, 3) := by decide +kernel
theorem dX11_shape_9 : decode cX11_shape 9 = .ok (.ifCond .eq 13, 3) := by decide +kernel
theorem dX11_shape_12 : decode cX11_shape 12 = .ok (.iload_n 2, 1) := by decide +kernel
theorem dX11_shape_13 : decode cX11_shape 13 = .ok (.iconst (-1), 1) := by decide +kernel
theorem dX11_shape_14 : decode cX11_shape 14 = .ok (.if_icmp .lt 8, 3) := by decide +kernel
theorem dX11_shape_17 : decode cX11_shape 17 = .ok (.iload_n 2, 1) := by decide +kernel
theorem dX11_shape_18 : decode cX11_shape 18 = .ok (.iconst 4, 1) := by decide +kernel
theorem dX11_shape_19 : decode cX11_shape 19 = .ok (.if_icmp .le 5, 3) := by decide +kernel
theorem dX11_shape_22 : decode cX11_shape 22 = .ok (.iconst (-1), 1) := by decide +kernel
theorem dX11_shape_23 : decode cX11_shape 23 = .ok (.ireturn, 1) := by decide +kernel
theorem dX11_shape_24 : decode cX11_shape 24 = .ok (.iload_n 2, 1) := by decide +kernel
theorem dX11_shape_25 : decode cX11_shape 25 = .ok (.ifCond .ne 28, 3) := by decide +kernel
theorem dX11_shape_28 : decode cX11_shape 28 = .ok (.aload_n 0, 1) := by decide +kernel
theorem dX11_shape_29 : decode cX11_shape 29 = .ok (.iload_n 3, 1) := by decide +kernel
theorem dX11_shape_30 : decode cX11_shape 30 = .ok (.invokevirtual 125, 3) := by decide +kernel
theorem dX11_shape_33 : decode cX11_shape 33 = .ok (.ifCond .ne 5, 3) := by decide +kernel
theorem dX11_shape_36 : decode cX11_shape 36 = .ok (.iconst (-1), 1) := by decide +kernel
theorem dX11_shape_37 : decode cX11_shape 37 = .ok (.ireturn, 1) := by decide +kernel
theorem dX11_shape_38 : decode cX11_shape 38 = .ok (.aload_n 0, 1) := by decide +kernel
theorem dX11_shape_39 : decode cX11_shape 39 = .ok (.iload_n 3, 1) := by decide +kernel
theorem dX11_shape_40 : decode cX11_shape 40 = .ok (.invokevirtual 131, 3) := by decide +kernel
theorem dX11_shape_43 : decode cX11_shape 43 = .ok (.aload_n 0, 1) := by decide +kernel
theorem dX11_shape_44 : decode cX11_shape 44 = .ok (.getfield 128, 3) := by decide +kernel
theorem dX11_shape_47 : decode cX11_shape 47 = .ok (.iconst 5, 1) := by decide +kernel
theorem dX11_shape_48 : decode cX11_shape 48 = .ok (.if_icmp .le 5, 3) := by decide +kernel
theorem dX11_shape_51 : decode cX11_shape 51 = .ok (.iconst (-1), 1) := by decide +kernel
theorem dX11_shape_52 : decode cX11_shape 52 = .ok (.ireturn, 1) := by decide +kernel
theorem dX11_shape_53 : decode cX11_shape 53 = .ok (.iload_n 2, 1) := by decide +kernel
theorem dX11_shape_54 : decode cX11_shape 54 = .ok (.iconst 1, 1) := by decide +kernel
theorem dX11_shape_55 : decode cX11_shape 55 = .ok (.if_icmp .eq 13, 3) := by decide +kernel
theorem dX11_shape_58 : decode cX11_shape 58 = .ok (.iload_n 2, 1) := by decide +kernel
theorem dX11_shape_59 : decode cX11_shape 59 = .ok (.iconst 2, 1) := by decide +kernel
theorem dX11_shape_60 : decode cX11_shape 60 = .ok (.if_icmp .eq 8, 3) := by decide +kernel
theorem dX11_shape_63 : decode cX11_shape 63 = .ok (.iload_n 2, 1) := by decide +kernel
theorem dX11_shape_64 : decode cX11_shape 64 = .ok (.iconst 3, 1) := by decide +kernel
theorem dX11_shape_65 : decode cX11_shape 65 = .ok (.if_icmp .ne 10, 3) := by decide +kernel
theorem dX11_shape_68 : decode cX11_shape 68 = .ok (.iload_n 3, 1) := by decide +kernel
theorem dX11_shape_69 : decode cX11_shape 69 = .ok (.invokestatic 122, 3) := by decide +kernel
theorem dX11_shape_72 : decode cX11_shape 72 = .ok (.ifCond .eq 21, 3) := by decide +kernel
theorem dX11_shape_75 : decode cX11_shape 75 = .ok (.iload_n 2, 1) := by decide +kernel
theorem dX11_shape_76 : decode cX11_shape 76 = .ok (.iconst 1, 1) := by decide +kernel
theorem dX11_shape_77 : decode cX11_shape 77 = .ok (.if_icmp .eq 8, 3) := by decide +kernel
theorem dX11_shape_80 : decode cX11_shape 80 = .ok (.iload_n 2, 1) := by decide +kernel
theorem dX11_shape_81 : decode cX11_shape 81 = .ok (.iconst 2, 1) := by decide +kernel
theorem dX11_shape_82 : decode cX11_shape 82 = .ok (.if_icmp .ne 13, 3) := by decide +kernel
theorem dX11_shape_85 : decode cX11_shape 85 = .ok (.iload 4, 2) := by decide +kernel
theorem dX11_shape_87 : decode cX11_shape 87 = .ok (.invokestatic 122, 3) := by decide +kernel
theorem dX11_shape_90 : decode cX11_shape 90 = .ok (.ifCond .ne 5, 3) := by decide +kernel
theorem dX11_shape_93 : decode cX11_shape 93 = .ok (.iconst (-1), 1) := by decide +kernel
theorem dX11_shape_94 : decode cX11_shape 94 = .ok (.ireturn, 1) := by decide +kernel
theorem dX11_shape_95 : decode cX11_shape 95 = .ok (.aload_n 0, 1) := by decide +kernel
theorem dX11_shape_96 : decode cX11_shape 96 = .ok (.getfield 29, 3) := by decide +kernel
theorem dX11_shape_99 : decode cX11_shape 99 = .ok (.iload_n 1, 1) := by decide +kernel
