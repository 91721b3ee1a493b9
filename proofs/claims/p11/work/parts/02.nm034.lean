theorem dX11_has_46 : decode cX11_has 46 = .ok (.iand, 1) := by decide +kernel
theorem dX11_has_47 : decode cX11_has 47 = .ok (.ireturn, 1) := by decide +kernel
theorem dX11_nodes_0 : decode cX11_nodes 0 = .ok (.aload_n 0, 1) := by decide +kernel
theorem dX11_nodes_1 : decode cX11_nodes 1 = .ok (.iconst 0, 1) := by decide +kernel
theorem dX11_nodes_2 : decode cX11_nodes 2 = .ok (.putfield 1, 3) := by decide +kernel
theorem dX11_nodes_5 : decode cX11_nodes 5 = .ok (.iload_n 1, 1) := by decide +kernel
theorem dX11_nodes_6 : decode cX11_nodes 6 = .ok (.invokestatic 122, 3) := by decide +kernel
theorem dX11_nodes_9 : decode cX11_nodes 9 = .ok (.ifCond .ne 5, 3) := by decide +kernel
theorem dX11_nodes_12 : decode cX11_nodes 12 = .ok (.iconst (-1), 1) := by decide +kernel
theorem dX11_nodes_13 : decode cX11_nodes 13 = .ok (.ireturn, 1) := by decide +kernel
theorem dX11_nodes_14 : decode cX11_nodes 14 = .ok (.aload_n 0, 1) := by decide +kernel
theorem dX11_nodes_15 : decode cX11_nodes 15 = .ok (.invokevirtual 203, 3) := by decide +kernel
theorem dX11_nodes_18 : decode cX11_nodes 18 = .ok (.aload_n 0, 1) := by decide +kernel
theorem dX11_nodes_19 : decode cX11_nodes 19 = .ok (.getfield 187, 3) := by decide +kernel
theorem dX11_nodes_22 : decode cX11_nodes 22 = .ok (.ifCond .lt 8, 3) := by decide +kernel
theorem dX11_nodes_25 : decode cX11_nodes 25 = .ok (.bipush (-3), 2) := by decide +kernel
theorem dX11_nodes_27 : decode cX11_nodes 27 = .ok (.goto 9, 3) := by decide +kernel
theorem dX11_nodes_30 : decode cX11_nodes 30 = .ok (.aload_n 0, 1) := by decide +kernel
theorem dX11_nodes_31 : decode cX11_nodes 31 = .ok (.getfield 41, 3) := by decide +kernel
theorem dX11_nodes_34 : decode cX11_nodes 34 = .ok (.iload_n 1, 1) := by decide +kernel
theorem dX11_nodes_35 : decode cX11_nodes 35 = .ok (.iaload, 1) := by decide +kernel
theorem dX11_nodes_36 : decode cX11_nodes 36 = .ok (.ireturn, 1) := by decide +kernel
theorem dX11_wrong_0 : decode cX11_wrong 0 = .ok (.aload_n 0, 1) := by decide +kernel
theorem dX11_wrong_1 : decode cX11_wrong 1 = .ok (.iconst 0, 1) := by decide +kernel
theorem dX11_wrong_2 : decode cX11_wrong 2 = .ok (.putfield 1, 3) := by decide +kernel
theorem dX11_wrong_5 : decode cX11_wrong 5 = .ok (.aload_n 0, 1) := by decide +kernel
theorem dX11_wrong_6 : decode cX11_wrong 6 = .ok (.invokevirtual 203, 3) := by decide +kernel
theorem dX11_wrong_9 : decode cX11_wrong 9 = .ok (.aload_n 0, 1) := by decide +kernel
theorem dX11_wrong_10 : decode cX11_wrong 10 = .ok (.getfield 187, 3) := by decide +kernel
theorem dX11_wrong_13 : decode cX11_wrong 13 = .ok (.ireturn, 1) := by decide +kernel
theorem dX11_isBare_0 : decode cX11_isBare 0 = .ok (.iload_n 1, 1) := by decide +kernel
theorem dX11_isBare_1 : decode cX11_isBare 1 = .ok (.invokestatic 122, 3) := by decide +kernel
theorem dX11_isBare_4 : decode cX11_isBare 4 = .ok (.ifCond .eq 16, 3) := by decide +kernel
theorem dX11_isBare_7 : decode cX11_isBare 7 = .ok (.aload_n 0, 1) := by decide +kernel
theorem dX11_isBare_8 : decode cX11_isBare 8 = .ok (.getfield 29, 3) := by decide +kernel
theorem dX11_isBare_11 : decode cX11_isBare 11 = .ok (.iload_n 1, 1) := by decide +kernel
theorem dX11_isBare_12 : decode cX11_isBare 12 = .ok (.iaload, 1) := by decide +kernel
theorem dX11_isBare_13 : decode cX11_isBare 13 = .ok (.ifCond .ne 7, 3) := by decide +kernel
theorem dX11_isBare_16 : decode cX11_isBare 16 = .ok (.iconst 1, 1) := by decide +kernel
theorem dX11_isBare_17 : decode cX11_isBare 17 = .ok (.goto 4, 3) := by decide +kernel
theorem dX11_isBare_20 : decode cX11_isBare 20 = .ok (.iconst 0, 1) := by decide +kernel
theorem dX11_isBare_21 : decode cX11_isBare 21 = .ok (.ireturn, 1) := by decide +kernel
theorem dX11_loose_0 : decode cX11_loose 0 = .ok (.aload_n 0, 1) := by decide +kernel
theorem dX11_loose_1 : decode cX11_loose 1 = .ok (.iconst 0, 1) := by decide +kernel
theorem dX11_loose_2 : decode cX11_loose 2 = .ok (.putfield 1, 3) := by decide +kernel
theorem dX11_loose_5 : decode cX11_loose 5 = .ok (.iload_n 1, 1) := by decide +kernel
theorem dX11_loose_6 : decode cX11_loose 6 = .ok (.invokestatic 103, 3) := by decide +kernel
theorem dX11_loose_9 : decode cX11_loose 9 = .ok (.ifCond .eq 11, 3) := by decide +kernel
theorem dX11_loose_12 : decode cX11_loose 12 = .ok (.aload_n 0, 1) := by decide +kernel
theorem dX11_loose_13 : decode cX11_loose 13 = .ok (.iload_n 2, 1) := by decide +kernel
theorem dX11_loose_14 : decode cX11_loose 14 = .ok (.invokevirtual 206, 3) := by decide +kernel
theorem dX11_loose_17 : decode cX11_loose 17 = .ok (.ifCond .ne 5, 3) := by decide +kernel
theorem dX11_loose_20 : decode cX11_loose 20 = .ok (.iconst (-1), 1) := by decide +kernel
theorem dX11_loose_21 : decode cX11_loose 21 = .ok (.ireturn, 1) := by decide +kernel
theorem dX11_loose_22 : decode cX11_loose 22 = .ok (.aload_n 0, 1) := by decide +kernel
theorem dX11_loose_23 : decode cX11_loose 23 = .ok (.invokevirtual 203, 3) := by decide +kernel
theorem dX11_loose_26 : decode cX11_loose 26 = .ok (.aload_n 0, 1) := by decide +kernel
theorem dX11_loose_27 : decode cX11_loose 27 = .ok (.getfield 187, 3) := by decide +kernel
theorem dX11_loose_30 : decode cX11_loose 30 = .ok (.ifCond .lt 6, 3) := by decide +kernel
theorem dX11_loose_33 : decode cX11_loose 33 = .ok (.bipush (-3), 2) := by decide +kernel
