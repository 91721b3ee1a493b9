theorem dX10_ways_15 : decode cX10_ways 15 = .ok (.iconst (-1), 1) := by decide +kernel
theorem dX10_ways_16 : decode cX10_ways 16 = .ok (.ireturn, 1) := by decide +kernel
theorem dX10_ways_17 : decode cX10_ways 17 = .ok (.aload_n 0, 1) := by decide +kernel
theorem dX10_ways_18 : decode cX10_ways 18 = .ok (.getfield 49, 3) := by decide +kernel
theorem dX10_ways_21 : decode cX10_ways 21 = .ok (.invokevirtual 98, 3) := by decide +kernel
theorem dX10_ways_24 : decode cX10_ways 24 = .ok (.ifCond .eq 27, 3) := by decide +kernel
theorem dX10_ways_27 : decode cX10_ways 27 = .ok (.aload_n 0, 1) := by decide +kernel
theorem dX10_ways_28 : decode cX10_ways 28 = .ok (.getfield 40, 3) := by decide +kernel
theorem dX10_ways_31 : decode cX10_ways 31 = .ok (.iload_n 1, 1) := by decide +kernel
theorem dX10_ways_32 : decode cX10_ways 32 = .ok (.aload_n 0, 1) := by decide +kernel
theorem dX10_ways_33 : decode cX10_ways 33 = .ok (.getfield 30, 3) := by decide +kernel
theorem dX10_ways_36 : decode cX10_ways 36 = .ok (.iload_n 2, 1) := by decide +kernel
theorem dX10_ways_37 : decode cX10_ways 37 = .ok (.aaload, 1) := by decide +kernel
theorem dX10_ways_38 : decode cX10_ways 38 = .ok (.aload_n 0, 1) := by decide +kernel
theorem dX10_ways_39 : decode cX10_ways 39 = .ok (.getfield 49, 3) := by decide +kernel
theorem dX10_ways_42 : decode cX10_ways 42 = .ok (.getfield 101, 3) := by decide +kernel
theorem dX10_ways_45 : decode cX10_ways 45 = .ok (.invokevirtual 115, 3) := by decide +kernel
theorem dX10_ways_48 : decode cX10_ways 48 = .ok (.goto 5, 3) := by decide +kernel
theorem dX10_ways_51 : decode cX10_ways 51 = .ok (.bipush (-3), 2) := by decide +kernel
theorem dX10_ways_53 : decode cX10_ways 53 = .ok (.ireturn, 1) := by decide +kernel
theorem dX10_arcs_0 : decode cX10_arcs 0 = .ok (.aload_n 0, 1) := by decide +kernel
theorem dX10_arcs_1 : decode cX10_arcs 1 = .ok (.getfield 13, 3) := by decide +kernel
theorem dX10_arcs_4 : decode cX10_arcs 4 = .ok (.getfield 118, 3) := by decide +kernel
theorem dX10_arcs_7 : decode cX10_arcs 7 = .ok (.ireturn, 1) := by decide +kernel
set_option maxRecDepth 20000 in
theorem ggX10_other_X10_isNode : GoodIn wsX10_other wsX10_isNode := goodIn_r _ [10] (by decide +kernel) (by decide +kernel)
set_option maxRecDepth 20000 in
theorem gX10_other_X10_isNode : GoodIn wsX10_other (va_wsS RX10 53 yX10_isNode wsX10_isNode) := goodIn_app (goodIn_of _ (by decide +kernel)) ggX10_other_X10_isNode
set_option maxRecDepth 20000 in
theorem ggX10_other_X0_count : GoodIn wsX10_other wsX0_count := goodIn_r _ [15, 16, 40, 41] (by decide +kernel) (by decide +kernel)
set_option maxRecDepth 20000 in
theorem gX10_other_X0_count : GoodIn wsX10_other (wsV RX10 136 RX0 yX0_count wsX0_count) := goodIn_app (goodIn_of _ (by decide +kernel)) ggX10_other_X0_count
set_option maxRecDepth 20000 in
theorem ggX10_other_X0_key : GoodIn wsX10_other wsX0_key := goodIn_r _ [20, 21, 40, 41] (by decide +kernel) (by decide +kernel)
set_option maxRecDepth 20000 in
theorem gX10_other_X0_key : GoodIn wsX10_other (wsV RX10 144 RX0 yX0_key wsX0_key) := goodIn_app (goodIn_of _ (by decide +kernel)) ggX10_other_X0_key
set_option maxRecDepth 20000 in
theorem ggX10_other_X5_otherOf : GoodIn wsX10_other wsX5_otherOf := goodIn_r _ [25] (by decide +kernel) (by decide +kernel)
set_option maxRecDepth 20000 in
theorem gX10_other_X5_otherOf : GoodIn wsX10_other (va_wsS RX10 148 yX5_otherOf wsX5_otherOf) := goodIn_app (goodIn_of _ (by decide +kernel)) ggX10_other_X5_otherOf
theorem dX10_other_0 : decode cX10_other 0 = .ok (.iload_n 1, 1) := by decide +kernel
theorem dX10_other_1 : decode cX10_other 1 = .ok (.invokestatic 53, 3) := by decide +kernel
theorem dX10_other_4 : decode cX10_other 4 = .ok (.ifCond .ne 13, 3) := by decide +kernel
theorem dX10_other_7 : decode cX10_other 7 = .ok (.new 122, 3) := by decide +kernel
theorem dX10_other_10 : decode cX10_other 10 = .ok (.dup, 1) := by decide +kernel
theorem dX10_other_11 : decode cX10_other 11 = .ok (.ldc 124, 2) := by decide +kernel
theorem dX10_other_13 : decode cX10_other 13 = .ok (.invokespecial 126, 3) := by decide +kernel
theorem dX10_other_16 : decode cX10_other 16 = .ok (.athrow, 1) := by decide +kernel
theorem dX10_other_17 : decode cX10_other 17 = .ok (.iload_n 2, 1) := by decide +kernel
theorem dX10_other_18 : decode cX10_other 18 = .ok (.ifCond .eq 13, 3) := by decide +kernel
theorem dX10_other_21 : decode cX10_other 21 = .ok (.aload_n 0, 1) := by decide +kernel
theorem dX10_other_22 : decode cX10_other 22 = .ok (.getfield 13, 3) := by decide +kernel
theorem dX10_other_25 : decode cX10_other 25 = .ok (.getfield 129, 3) := by decide +kernel
theorem dX10_other_28 : decode cX10_other 28 = .ok (.goto 10, 3) := by decide +kernel
theorem dX10_other_31 : decode cX10_other 31 = .ok (.aload_n 0, 1) := by decide +kernel
theorem dX10_other_32 : decode cX10_other 32 = .ok (.getfield 13, 3) := by decide +kernel
theorem dX10_other_35 : decode cX10_other 35 = .ok (.getfield 133, 3) := by decide +kernel
theorem dX10_other_38 : decode cX10_other 38 = .ok (.astore 4, 2) := by decide +kernel
theorem dX10_other_40 : decode cX10_other 40 = .ok (.iload_n 3, 1) := by decide +kernel
theorem dX10_other_41 : decode cX10_other 41 = .ok (.ifCond .lt 13, 3) := by decide +kernel
theorem dX10_other_44 : decode cX10_other 44 = .ok (.iload_n 3, 1) := by decide +kernel
theorem dX10_other_45 : decode cX10_other 45 = .ok (.aload 4, 2) := by decide +kernel
theorem dX10_other_47 : decode cX10_other 47 = .ok (.iload_n 1, 1) := by decide +kernel
theorem dX10_other_48 : decode cX10_other 48 = .ok (.invokevirtual 136, 3) := by decide +kernel
theorem dX10_other_51 : decode cX10_other 51 = .ok (.if_icmp .lt 13, 3) := by decide +kernel
theorem dX10_other_54 : decode cX10_other 54 = .ok (.new 122, 3) := by decide +kernel
theorem dX10_other_57 : decode cX10_other 57 = .ok (.dup, 1) := by decide +kernel
theorem dX10_other_58 : decode cX10_other 58 = .ok (.ldc 142, 2) := by decide +kernel
theorem dX10_other_60 : decode cX10_other 60 = .ok (.invokespecial 126, 3) := by decide +kernel
theorem dX10_other_63 : decode cX10_other 63 = .ok (.athrow, 1) := by decide +kernel
theorem dX10_other_64 : decode cX10_other 64 = .ok (.aload 4, 2) := by decide +kernel
theorem dX10_other_66 : decode cX10_other 66 = .ok (.iload_n 1, 1) := by decide +kernel
theorem dX10_other_67 : decode cX10_other 67 = .ok (.iload_n 3, 1) := by decide +kernel
theorem dX10_other_68 : decode cX10_other 68 = .ok (.invokevirtual 144, 3) := by decide +kernel
theorem dX10_other_71 : decode cX10_other 71 = .ok (.invokestatic 148, 3) := by decide +kernel
theorem dX10_other_74 : decode cX10_other 74 = .ok (.ireturn, 1) := by decide +kernel
theorem dX10_isNode_0 : decode cX10_isNode 0 = .ok (.iload_n 0, 1) := by decide +kernel
theorem dX10_isNode_1 : decode cX10_isNode 1 = .ok (.ifCond .lt 13, 3) := by decide +kernel
theorem dX10_isNode_4 : decode cX10_isNode 4 = .ok (.iload_n 0, 1) := by decide +kernel
theorem dX10_isNode_5 : decode cX10_isNode 5 = .ok (.bipush 16, 2) := by decide +kernel
theorem dX10_isNode_7 : decode cX10_isNode 7 = .ok (.if_icmp .ge 7, 3) := by decide +kernel
theorem dX10_isNode_10 : decode cX10_isNode 10 = .ok (.iconst 1, 1) := by decide +kernel
theorem dX10_isNode_11 : decode cX10_isNode 11 = .ok (.goto 4, 3) := by decide +kernel
theorem dX10_isNode_14 : decode cX10_isNode 14 = .ok (.iconst 0, 1) := by decide +kernel
theorem dX10_isNode_15 : decode cX10_isNode 15 = .ok (.ireturn, 1) := by decide +kernel
theorem dX10_isLabel_0 : decode cX10_isLabel 0 = .ok (.iload_n 0, 1) := by decide +kernel
theorem dX10_isLabel_1 : decode cX10_isLabel 1 = .ok (.ifCond .lt 13, 3) := by decide +kernel
theorem dX10_isLabel_4 : decode cX10_isLabel 4 = .ok (.iload_n 0, 1) := by decide +kernel
theorem dX10_isLabel_5 : decode cX10_isLabel 5 = .ok (.bipush 8, 2) := by decide +kernel
theorem dX10_isLabel_7 : decode cX10_isLabel 7 = .ok (.if_icmp .ge 7, 3) := by decide +kernel
theorem dX10_isLabel_10 : decode cX10_isLabel 10 = .ok (.iconst 1, 1) := by decide +kernel
theorem dX10_isLabel_11 : decode cX10_isLabel 11 = .ok (.goto 4, 3) := by decide +kernel
theorem dX10_isLabel_14 : decode cX10_isLabel 14 = .ok (.iconst 0, 1) := by decide +kernel
theorem dX10_isLabel_15 : decode cX10_isLabel 15 = .ok (.ireturn, 1) := by decide +kernel
theorem dX10_isShape_0 : decode cX10_isShape 0 = .ok (.iload_n 0, 1) := by decide +kernel
theorem dX10_isShape_1 : decode cX10_isShape 1 = .ok (.ifCond .lt 13, 3) := by decide +kernel
theorem dX10_isShape_4 : decode cX10_isShape 4 = .ok (.iload_n 0, 1) := by decide +kernel
theorem dX10_isShape_5 : decode cX10_isShape 5 = .ok (.bipush 16, 2) := by decide +kernel
theorem dX10_isShape_7 : decode cX10_isShape 7 = .ok (.if_icmp .ge 7, 3) := by decide +kernel
theorem dX10_isShape_10 : decode cX10_isShape 10 = .ok (.iconst 1, 1) := by decide +kernel
theorem dX10_isShape_11 : decode cX10_isShape 11 = .ok (.goto 4, 3) := by decide +kernel
theorem dX10_isShape_14 : decode cX10_isShape 14 = .ok (.iconst 0, 1) := by decide +kernel
theorem dX10_isShape_15 : decode cX10_isShape 15 = .ok (.ireturn, 1) := by decide +kernel
set_option maxRecDepth 20000 in
theorem ggX10_isBare_X10_isShape : GoodIn wsX10_isBare wsX10_isShape := goodIn_r _ [6] (by decide +kernel) (by decide +kernel)
set_option maxRecDepth 20000 in
theorem gX10_isBare_X10_isShape : GoodIn wsX10_isBare (va_wsS RX10 88 yX10_isShape wsX10_isShape) := goodIn_app (goodIn_of _ (by decide +kernel)) ggX10_isBare_X10_isShape
theorem dX10_isBare_0 : decode cX10_isBare 0 = .ok (.iload_n 1, 1) := by decide +kernel
theorem dX10_isBare_1 : decode cX10_isBare 1 = .ok (.invokestatic 88, 3) := by decide +kernel
theorem dX10_isBare_4 : decode cX10_isBare 4 = .ok (.ifCond .eq 19, 3) := by decide +kernel
theorem dX10_isBare_7 : decode cX10_isBare 7 = .ok (.aload_n 0, 1) := by decide +kernel
theorem dX10_isBare_8 : decode cX10_isBare 8 = .ok (.getfield 30, 3) := by decide +kernel
theorem dX10_isBare_11 : decode cX10_isBare 11 = .ok (.iload_n 1, 1) := by decide +kernel
theorem dX10_isBare_12 : decode cX10_isBare 12 = .ok (.aaload, 1) := by decide +kernel
theorem dX10_isBare_13 : decode cX10_isBare 13 = .ok (.getfield 151, 3) := by decide +kernel
theorem dX10_isBare_16 : decode cX10_isBare 16 = .ok (.ifCond .ne 7, 3) := by decide +kernel
theorem dX10_isBare_19 : decode cX10_isBare 19 = .ok (.iconst 1, 1) := by decide +kernel
theorem dX10_isBare_20 : decode cX10_isBare 20 = .ok (.goto 4, 3) := by decide +kernel
theorem dX10_isBare_23 : decode cX10_isBare 23 = .ok (.iconst 0, 1) := by decide +kernel
theorem dX10_isBare_24 : decode cX10_isBare 24 = .ok (.ireturn, 1) := by decide +kernel
set_option maxRecDepth 20000 in
theorem ggX10_addPlace_X10_isLabel : GoodIn wsX10_addPlace wsX10_isLabel := goodIn_r _ [5] (by decide +kernel) (by decide +kernel)
set_option maxRecDepth 20000 in
theorem gX10_addPlace_X10_isLabel : GoodIn wsX10_addPlace (va_wsS RX10 57 yX10_isLabel wsX10_isLabel) := goodIn_app (goodIn_of _ (by decide +kernel)) ggX10_addPlace_X10_isLabel
set_option maxRecDepth 20000 in
theorem ggX10_addPlace_X10_isShape : GoodIn wsX10_addPlace wsX10_isShape := goodIn_r _ [8] (by decide +kernel) (by decide +kernel)
set_option maxRecDepth 20000 in
theorem gX10_addPlace_X10_isShape : GoodIn wsX10_addPlace (va_wsS RX10 88 yX10_isShape wsX10_isShape) := goodIn_app (goodIn_of _ (by decide +kernel)) ggX10_addPlace_X10_isShape
set_option maxRecDepth 20000 in
theorem ggX10_addPlace_X4_isFull : GoodIn wsX10_addPlace wsX4_isFull := goodIn_r _ [13, 14, 69, 70, 71] (by decide +kernel) (by decide +kernel)
set_option maxRecDepth 20000 in
theorem gX10_addPlace_X4_isFull : GoodIn wsX10_addPlace (wsV RX10 80 RX4 yX4_isFull wsX4_isFull) := goodIn_app (goodIn_of _ (by decide +kernel)) ggX10_addPlace_X4_isFull
set_option maxRecDepth 20000 in
theorem ggX10_addPlace_X4_addPlace : GoodIn wsX10_addPlace wsX4_addPlace := goodIn_r _ [18, 19, 20, 21, 14, 22, 23, 24, 25, 26, 27, 28, 29, 30, 31, 32, 33, 34, 35, 36, 37, 38, 39, 40, 41, 42, 43, 44, 12, 45, 46, 47, 48, 49, 50, 10, 11, 13, 51, 52, 53, 54, 55, 56, 57, 58, 59, 60, 61, 62, 63, 72, 73, 74, 75, 69, 70, 71, 76, 77, 78, 79, 80, 81] (by decide +kernel) (by decide +kernel)
set_option maxRecDepth 20000 in
theorem gX10_addPlace_X4_addPlace : GoodIn wsX10_addPlace (wsV RX10 154 RX4 yX4_addPlace wsX4_addPlace) := goodIn_app (goodIn_of _ (by decide +kernel)) ggX10_addPlace_X4_addPlace
theorem dX10_addPlace_0 : decode cX10_addPlace 0 = .ok (.iload_n 2, 1) := by decide +kernel
theorem dX10_addPlace_1 : decode cX10_addPlace 1 = .ok (.invokestatic 57, 3) := by decide +kernel
theorem dX10_addPlace_4 : decode cX10_addPlace 4 = .ok (.ifCond .eq 15, 3) := by decide +kernel
theorem dX10_addPlace_7 : decode cX10_addPlace 7 = .ok (.iload_n 3, 1) := by decide +kernel
theorem dX10_addPlace_8 : decode cX10_addPlace 8 = .ok (.iconst (-1), 1) := by decide +kernel
theorem dX10_addPlace_9 : decode cX10_addPlace 9 = .ok (.if_icmp .eq 12, 3) := by decide +kernel
theorem dX10_addPlace_12 : decode cX10_addPlace 12 = .ok (.iload_n 3, 1) := by decide +kernel
theorem dX10_addPlace_13 : decode cX10_addPlace 13 = .ok (.invokestatic 88, 3) := by decide +kernel
theorem dX10_addPlace_16 : decode cX10_addPlace 16 = .ok (.ifCond .ne 5, 3) := by decide +kernel
theorem dX10_addPlace_19 : decode cX10_addPlace 19 = .ok (.iconst (-1), 1) := by decide +kernel
theorem dX10_addPlace_20 : decode cX10_addPlace 20 = .ok (.ireturn, 1) := by decide +kernel
theorem dX10_addPlace_21 : decode cX10_addPlace 21 = .ok (.aload_n 0, 1) := by decide +kernel
theorem dX10_addPlace_22 : decode cX10_addPlace 22 = .ok (.getfield 24, 3) := by decide +kernel
theorem dX10_addPlace_25 : decode cX10_addPlace 25 = .ok (.invokevirtual 80, 3) := by decide +kernel
theorem dX10_addPlace_28 : decode cX10_addPlace 28 = .ok (.ifCond .eq 8, 3) := by decide +kernel
theorem dX10_addPlace_31 : decode cX10_addPlace 31 = .ok (.bipush (-2), 2) := by decide +kernel
theorem dX10_addPlace_33 : decode cX10_addPlace 33 = .ok (.goto 13, 3) := by decide +kernel
theorem dX10_addPlace_36 : decode cX10_addPlace 36 = .ok (.aload_n 0, 1) := by decide +kernel
theorem dX10_addPlace_37 : decode cX10_addPlace 37 = .ok (.getfield 24, 3) := by decide +kernel
theorem dX10_addPlace_40 : decode cX10_addPlace 40 = .ok (.iload_n 1, 1) := by decide +kernel
theorem dX10_addPlace_41 : decode cX10_addPlace 41 = .ok (.iload_n 2, 1) := by decide +kernel
theorem dX10_addPlace_42 : decode cX10_addPlace 42 = .ok (.iload_n 3, 1) := by decide +kernel
theorem dX10_addPlace_43 : decode cX10_addPlace 43 = .ok (.invokevirtual 154, 3) := by decide +kernel
theorem dX10_addPlace_46 : decode cX10_addPlace 46 = .ok (.ireturn, 1) := by decide +kernel
set_option maxRecDepth 20000 in
theorem ggX10_addPair_X4_find : GoodIn wsX10_addPair wsX4_find := goodIn_r _ [6, 7, 8, 120, 121, 122] (by decide +kernel) (by decide +kernel)
set_option maxRecDepth 20000 in
theorem gX10_addPair_X4_find : GoodIn wsX10_addPair (wsV RX10 155 RX4 yX4_find wsX4_find) := goodIn_app (goodIn_of _ (by decide +kernel)) ggX10_addPair_X4_find
set_option maxRecDepth 20000 in
theorem ggX10_addPair_X4_isFull : GoodIn wsX10_addPair wsX4_isFull := goodIn_r _ [12, 7, 120, 121, 122] (by decide +kernel) (by decide +kernel)
set_option maxRecDepth 20000 in
theorem gX10_addPair_X4_isFull : GoodIn wsX10_addPair (wsV RX10 80 RX4 yX4_isFull wsX4_isFull) := goodIn_app (goodIn_of _ (by decide +kernel)) ggX10_addPair_X4_isFull
set_option maxRecDepth 20000 in
theorem ggX10_addPair_X4_addPair : GoodIn wsX10_addPair wsX4_addPair := goodIn_r _ [16, 17, 18, 19, 20, 21, 22, 23, 5, 24, 25, 26, 27, 28, 29, 8, 7, 30, 31, 32, 33, 10, 11, 12, 34, 35, 36, 37, 38, 39, 40, 41, 42, 43, 44, 45, 46, 47, 48, 49, 50, 51, 52, 53, 54, 55, 56, 57, 58, 59, 60, 61, 62, 63, 64, 65, 66, 67, 68, 69, 70, 71, 72, 73, 74, 75, 76, 77, 78, 79, 80, 81, 82, 83, 84, 85, 86, 87, 88, 89, 90, 91, 92, 93, 94, 95, 96, 97, 98, 99, 100, 101, 102, 103, 104, 105, 106, 107, 108, 109, 110, 111, 112, 113, 114, 123, 124, 125, 126, 127, 128, 120, 121, 122, 129, 130, 131, 132, 133, 134, 135, 136] (by decide +kernel) (by decide +kernel)
set_option maxRecDepth 20000 in
theorem gX10_addPair_X4_addPair : GoodIn wsX10_addPair (wsV RX10 159 RX4 yX4_addPair wsX4_addPair) := goodIn_app (goodIn_of _ (by decide +kernel)) ggX10_addPair_X4_addPair
theorem dX10_addPair_0 : decode cX10_addPair 0 = .ok (.aload_n 0, 1) := by decide +kernel
theorem dX10_addPair_1 : decode cX10_addPair 1 = .ok (.getfield 24, 3) := by decide +kernel
theorem dX10_addPair_4 : decode cX10_addPair 4 = .ok (.iload_n 2, 1) := by decide +kernel
theorem dX10_addPair_5 : decode cX10_addPair 5 = .ok (.invokevirtual 155, 3) := by decide +kernel
theorem dX10_addPair_8 : decode cX10_addPair 8 = .ok (.astore 4, 2) := by decide +kernel
theorem dX10_addPair_10 : decode cX10_addPair 10 = .ok (.aload_n 0, 1) := by decide +kernel
theorem dX10_addPair_11 : decode cX10_addPair 11 = .ok (.getfield 24, 3) := by decide +kernel
theorem dX10_addPair_14 : decode cX10_addPair 14 = .ok (.iload_n 3, 1) := by decide +kernel
theorem dX10_addPair_15 : decode cX10_addPair 15 = .ok (.invokevirtual 155, 3) := by decide +kernel
theorem dX10_addPair_18 : decode cX10_addPair 18 = .ok (.astore 5, 2) := by decide +kernel
theorem dX10_addPair_20 : decode cX10_addPair 20 = .ok (.aload 4, 2) := by decide +kernel
theorem dX10_addPair_22 : decode cX10_addPair 22 = .ok (.ifnull 8, 3) := by decide +kernel
theorem dX10_addPair_25 : decode cX10_addPair 25 = .ok (.aload 5, 2) := by decide +kernel
theorem dX10_addPair_27 : decode cX10_addPair 27 = .ok (.ifnonnull 5, 3) := by decide +kernel
theorem dX10_addPair_30 : decode cX10_addPair 30 = .ok (.iconst (-1), 1) := by decide +kernel
theorem dX10_addPair_31 : decode cX10_addPair 31 = .ok (.ireturn, 1) := by decide +kernel
theorem dX10_addPair_32 : decode cX10_addPair 32 = .ok (.aload_n 0, 1) := by decide +kernel
theorem dX10_addPair_33 : decode cX10_addPair 33 = .ok (.getfield 24, 3) := by decide +kernel
theorem dX10_addPair_36 : decode cX10_addPair 36 = .ok (.invokevirtual 80, 3) := by decide +kernel
theorem dX10_addPair_39 : decode cX10_addPair 39 = .ok (.ifCond .eq 8, 3) := by decide +kernel
theorem dX10_addPair_42 : decode cX10_addPair 42 = .ok (.bipush (-2), 2) := by decide +kernel
theorem dX10_addPair_44 : decode cX10_addPair 44 = .ok (.goto 15, 3) := by decide +kernel
theorem dX10_addPair_47 : decode cX10_addPair 47 = .ok (.aload_n 0, 1) := by decide +kernel
theorem dX10_addPair_48 : decode cX10_addPair 48 = .ok (.getfield 24, 3) := by decide +kernel
theorem dX10_addPair_51 : decode cX10_addPair 51 = .ok (.iload_n 1, 1) := by decide +kernel
theorem dX10_addPair_52 : decode cX10_addPair 52 = .ok (.aload 4, 2) := by decide +kernel
theorem dX10_addPair_54 : decode cX10_addPair 54 = .ok (.aload 5, 2) := by decide +kernel
theorem dX10_addPair_56 : decode cX10_addPair 56 = .ok (.invokevirtual 159, 3) := by decide +kernel
theorem dX10_addPair_59 : decode cX10_addPair 59 = .ok (.ireturn, 1) := by decide +kernel
set_option maxRecDepth 20000 in
theorem ggX10_addRepeated_X4_find : GoodIn wsX10_addRepeated wsX4_find := goodIn_r _ [6, 7, 8, 108, 109, 110] (by decide +kernel) (by decide +kernel)
set_option maxRecDepth 20000 in
theorem gX10_addRepeated_X4_find : GoodIn wsX10_addRepeated (wsV RX10 155 RX4 yX4_find wsX4_find) := goodIn_app (goodIn_of _ (by decide +kernel)) ggX10_addRepeated_X4_find
set_option maxRecDepth 20000 in
theorem ggX10_addRepeated_X4_isFull : GoodIn wsX10_addRepeated wsX4_isFull := goodIn_r _ [12, 7, 108, 109, 110] (by decide +kernel) (by decide +kernel)
set_option maxRecDepth 20000 in
theorem gX10_addRepeated_X4_isFull : GoodIn wsX10_addRepeated (wsV RX10 80 RX4 yX4_isFull wsX4_isFull) := goodIn_app (goodIn_of _ (by decide +kernel)) ggX10_addRepeated_X4_isFull
set_option maxRecDepth 20000 in
theorem ggX10_addRepeated_X4_addRepeated : GoodIn wsX10_addRepeated wsX4_addRepeated := goodIn_r _ [16, 17, 18, 19, 20, 21, 5, 22, 23, 24, 25, 26, 27, 28, 8, 7, 29, 30, 31, 32, 10, 11, 12, 33, 34, 35, 36, 37, 38, 39, 40, 41, 42, 43, 44, 45, 46, 47, 48, 49, 50, 51, 52, 53, 54, 55, 56, 57, 58, 59, 60, 61, 62, 63, 64, 65, 66, 67, 68, 69, 70, 71, 72, 73, 74, 75, 76, 77, 78, 79, 80, 81, 82, 83, 84, 85, 86, 87, 88, 89, 90, 91, 92, 93, 94, 95, 96, 97, 98, 99, 100, 101, 102, 111, 112, 113, 114, 115, 116, 108, 109, 110, 117, 118, 119, 120, 121, 122, 123, 124] (by decide +kernel) (by decide +kernel)
set_option maxRecDepth 20000 in
theorem gX10_addRepeated_X4_addRepeated : GoodIn wsX10_addRepeated (wsV RX10 162 RX4 yX4_addRepeated wsX4_addRepeated) := goodIn_app (goodIn_of _ (by decide +kernel)) ggX10_addRepeated_X4_addRepeated
theorem dX10_addRepeated_0 : decode cX10_addRepeated 0 = .ok (.aload_n 0, 1) := by decide +kernel
theorem dX10_addRepeated_1 : decode cX10_addRepeated 1 = .ok (.getfield 24, 3) := by decide +kernel
theorem dX10_addRepeated_4 : decode cX10_addRepeated 4 = .ok (.iload_n 1, 1) := by decide +kernel
theorem dX10_addRepeated_5 : decode cX10_addRepeated 5 = .ok (.invokevirtual 155, 3) := by decide +kernel
theorem dX10_addRepeated_8 : decode cX10_addRepeated 8 = .ok (.astore 4, 2) := by decide +kernel
theorem dX10_addRepeated_10 : decode cX10_addRepeated 10 = .ok (.aload 4, 2) := by decide +kernel
theorem dX10_addRepeated_12 : decode cX10_addRepeated 12 = .ok (.ifnull 7, 3) := by decide +kernel
theorem dX10_addRepeated_15 : decode cX10_addRepeated 15 = .ok (.iload_n 2, 1) := by decide +kernel
theorem dX10_addRepeated_16 : decode cX10_addRepeated 16 = .ok (.ifCond .ge 5, 3) := by decide +kernel
theorem dX10_addRepeated_19 : decode cX10_addRepeated 19 = .ok (.iconst (-1), 1) := by decide +kernel
theorem dX10_addRepeated_20 : decode cX10_addRepeated 20 = .ok (.ireturn, 1) := by decide +kernel
theorem dX10_addRepeated_21 : decode cX10_addRepeated 21 = .ok (.aload_n 0, 1) := by decide +kernel
theorem dX10_addRepeated_22 : decode cX10_addRepeated 22 = .ok (.getfield 24, 3) := by decide +kernel
theorem dX10_addRepeated_25 : decode cX10_addRepeated 25 = .ok (.invokevirtual 80, 3) := by decide +kernel
theorem dX10_addRepeated_28 : decode cX10_addRepeated 28 = .ok (.ifCond .eq 8, 3) := by decide +kernel
theorem dX10_addRepeated_31 : decode cX10_addRepeated 31 = .ok (.bipush (-2), 2) := by decide +kernel
theorem dX10_addRepeated_33 : decode cX10_addRepeated 33 = .ok (.goto 14, 3) := by decide +kernel
theorem dX10_addRepeated_36 : decode cX10_addRepeated 36 = .ok (.aload_n 0, 1) := by decide +kernel
theorem dX10_addRepeated_37 : decode cX10_addRepeated 37 = .ok (.getfield 24, 3) := by decide +kernel
theorem dX10_addRepeated_40 : decode cX10_addRepeated 40 = .ok (.aload 4, 2) := by decide +kernel
theorem dX10_addRepeated_42 : decode cX10_addRepeated 42 = .ok (.iload_n 2, 1) := by decide +kernel
theorem dX10_addRepeated_43 : decode cX10_addRepeated 43 = .ok (.iload_n 3, 1) := by decide +kernel
theorem dX10_addRepeated_44 : decode cX10_addRepeated 44 = .ok (.invokevirtual 162, 3) := by decide +kernel
theorem dX10_addRepeated_47 : decode cX10_addRepeated 47 = .ok (.ireturn, 1) := by decide +kernel
set_option maxRecDepth 20000 in
theorem ggX10_setShape_X8_becomeNone : GoodIn wsX10_setShape wsX8_becomeNone := goodIn_r _ [6, 7, 8, 9, 10, 11, 12, 13, 49, 50, 51, 52, 53, 54, 55] (by decide +kernel) (by decide +kernel)
set_option maxRecDepth 20000 in
theorem gX10_setShape_X8_becomeNone : GoodIn wsX10_setShape (wsV RX10 165 RX8 yX8_becomeNone wsX8_becomeNone) := goodIn_app (goodIn_of _ (by decide +kernel)) ggX10_setShape_X8_becomeNone
set_option maxRecDepth 20000 in
theorem ggX10_setShape_X10_setBare : GoodIn wsX10_setShape wsX10_setBare := goodIn_r _ [18, 19, 20, 21, 22, 23, 24, 25, 26, 27, 28, 29, 30, 5, 31, 7, 10, 11, 12, 32, 13, 33, 3, 4, 6, 8, 9, 56, 57, 58, 59, 60, 61, 62, 63, 64, 65, 66, 67, 68, 69, 49, 50, 51, 52, 53, 54, 55] (by decide +kernel) (by decide +kernel)
set_option maxRecDepth 20000 in
theorem gX10_setShape_X10_setBare : GoodIn wsX10_setShape (wsV RX10 168 RX10 yX10_setBare wsX10_setBare) := goodIn_app (goodIn_of _ (by decide +kernel)) ggX10_setShape_X10_setBare
set_option maxRecDepth 20000 in
theorem ggX10_setShape_X10_isShape : GoodIn wsX10_setShape wsX10_isShape := goodIn_r _ [36] (by decide +kernel) (by decide +kernel)
set_option maxRecDepth 20000 in
theorem gX10_setShape_X10_isShape : GoodIn wsX10_setShape (va_wsS RX10 88 yX10_isShape wsX10_isShape) := goodIn_app (goodIn_of _ (by decide +kernel)) ggX10_setShape_X10_isShape
set_option maxRecDepth 20000 in
theorem ggX10_setShape_X8_becomePair : GoodIn wsX10_setShape wsX8_becomePair := goodIn_r _ [40, 7, 8, 9, 13, 33, 3, 4, 5, 6, 10, 11, 12, 49, 50, 51, 52, 53, 54, 55] (by decide +kernel) (by decide +kernel)
set_option maxRecDepth 20000 in
theorem gX10_setShape_X8_becomePair : GoodIn wsX10_setShape (wsV RX10 172 RX8 yX8_becomePair wsX8_becomePair) := goodIn_app (goodIn_of _ (by decide +kernel)) ggX10_setShape_X8_becomePair
set_option maxRecDepth 20000 in
theorem ggX10_setShape_X8_becomeNot : GoodIn wsX10_setShape wsX8_becomeNot := goodIn_r _ [44, 7, 8, 13, 33, 3, 4, 5, 6, 9, 10, 11, 12, 49, 50, 51, 52, 53, 54, 55] (by decide +kernel) (by decide +kernel)
set_option maxRecDepth 20000 in
theorem gX10_setShape_X8_becomeNot : GoodIn wsX10_setShape (wsV RX10 176 RX8 yX8_becomeNot wsX8_becomeNot) := goodIn_app (goodIn_of _ (by decide +kernel)) ggX10_setShape_X8_becomeNot
set_option maxRecDepth 20000 in
theorem ggX10_setShape_X8_becomeAmong : GoodIn wsX10_setShape wsX8_becomeAmong := goodIn_r _ [48, 7, 8, 33, 3, 4, 5, 6, 9, 10, 11, 12, 13, 49, 50, 51, 52, 53, 54, 55] (by decide +kernel) (by decide +kernel)
set_option maxRecDepth 20000 in
theorem gX10_setShape_X8_becomeAmong : GoodIn wsX10_setShape (wsV RX10 181 RX8 yX8_becomeAmong wsX8_becomeAmong) := goodIn_app (goodIn_of _ (by decide +kernel)) ggX10_setShape_X8_becomeAmong
theorem dX10_setShape_0 : decode cX10_setShape 0 = .ok (.iload_n 2, 1) := by decide +kernel
theorem dX10_setShape_1 : decode cX10_setShape 1 = .ok (.tableswitch 122 (-1) 4 #[39, 45, 69, 69, 96, 112], 39) := by decide +kernel
theorem dX10_setShape_40 : decode cX10_setShape 40 = .ok (.aload_n 1, 1) := by decide +kernel
theorem dX10_setShape_41 : decode cX10_setShape 41 = .ok (.invokevirtual 165, 3) := by decide +kernel
theorem dX10_setShape_44 : decode cX10_setShape 44 = .ok (.iconst 1, 1) := by decide +kernel
theorem dX10_setShape_45 : decode cX10_setShape 45 = .ok (.ireturn, 1) := by decide +kernel
theorem dX10_setShape_46 : decode cX10_setShape 46 = .ok (.aload_n 0, 1) := by decide +kernel
theorem dX10_setShape_47 : decode cX10_setShape 47 = .ok (.aload_n 1, 1) := by decide +kernel
theorem dX10_setShape_48 : decode cX10_setShape 48 = .ok (.iload_n 3, 1) := by decide +kernel
theorem dX10_setShape_49 : decode cX10_setShape 49 = .ok (.iload 4, 2) := by decide +kernel
theorem dX10_setShape_51 : decode cX10_setShape 51 = .ok (.sipush 255, 3) := by decide +kernel
theorem dX10_setShape_54 : decode cX10_setShape 54 = .ok (.iand, 1) := by decide +kernel
theorem dX10_setShape_55 : decode cX10_setShape 55 = .ok (.iload 5, 2) := by decide +kernel
theorem dX10_setShape_57 : decode cX10_setShape 57 = .ok (.iconst 1, 1) := by decide +kernel
theorem dX10_setShape_58 : decode cX10_setShape 58 = .ok (.if_icmp .ne 7, 3) := by decide +kernel
theorem dX10_setShape_61 : decode cX10_setShape 61 = .ok (.iconst 1, 1) := by decide +kernel
theorem dX10_setShape_62 : decode cX10_setShape 62 = .ok (.goto 4, 3) := by decide +kernel
theorem dX10_setShape_65 : decode cX10_setShape 65 = .ok (.iconst 0, 1) := by decide +kernel
theorem dX10_setShape_66 : decode cX10_setShape 66 = .ok (.invokevirtual 168, 3) := by decide +kernel
theorem dX10_setShape_69 : decode cX10_setShape 69 = .ok (.ireturn, 1) := by decide +kernel
theorem dX10_setShape_70 : decode cX10_setShape 70 = .ok (.iload_n 3, 1) := by decide +kernel
theorem dX10_setShape_71 : decode cX10_setShape 71 = .ok (.invokestatic 88, 3) := by decide +kernel
theorem dX10_setShape_74 : decode cX10_setShape 74 = .ok (.ifCond .eq 11, 3) := by decide +kernel
theorem dX10_setShape_77 : decode cX10_setShape 77 = .ok (.iload 4, 2) := by decide +kernel
theorem dX10_setShape_79 : decode cX10_setShape 79 = .ok (.invokestatic 88, 3) := by decide +kernel
theorem dX10_setShape_82 : decode cX10_setShape 82 = .ok (.ifCond .ne 5, 3) := by decide +kernel
theorem dX10_setShape_85 : decode cX10_setShape 85 = .ok (.iconst 0, 1) := by decide +kernel
theorem dX10_setShape_86 : decode cX10_setShape 86 = .ok (.ireturn, 1) := by decide +kernel
theorem dX10_setShape_87 : decode cX10_setShape 87 = .ok (.aload_n 1, 1) := by decide +kernel
theorem dX10_setShape_88 : decode cX10_setShape 88 = .ok (.iload_n 2, 1) := by decide +kernel
theorem dX10_setShape_89 : decode cX10_setShape 89 = .ok (.iload_n 3, 1) := by decide +kernel
theorem dX10_setShape_90 : decode cX10_setShape 90 = .ok (.iload 4, 2) := by decide +kernel
theorem dX10_setShape_92 : decode cX10_setShape 92 = .ok (.invokevirtual 172, 3) := by decide +kernel
theorem dX10_setShape_95 : decode cX10_setShape 95 = .ok (.iconst 1, 1) := by decide +kernel
theorem dX10_setShape_96 : decode cX10_setShape 96 = .ok (.ireturn, 1) := by decide +kernel
theorem dX10_setShape_97 : decode cX10_setShape 97 = .ok (.iload_n 3, 1) := by decide +kernel
theorem dX10_setShape_98 : decode cX10_setShape 98 = .ok (.invokestatic 88, 3) := by decide +kernel
theorem dX10_setShape_101 : decode cX10_setShape 101 = .ok (.ifCond .ne 5, 3) := by decide +kernel
theorem dX10_setShape_104 : decode cX10_setShape 104 = .ok (.iconst 0, 1) := by decide +kernel
theorem dX10_setShape_105 : decode cX10_setShape 105 = .ok (.ireturn, 1) := by decide +kernel
theorem dX10_setShape_106 : decode cX10_setShape 106 = .ok (.aload_n 1, 1) := by decide +kernel
theorem dX10_setShape_107 : decode cX10_setShape 107 = .ok (.iload_n 3, 1) := by decide +kernel
theorem dX10_setShape_108 : decode cX10_setShape 108 = .ok (.invokevirtual 176, 3) := by decide +kernel
theorem dX10_setShape_111 : decode cX10_setShape 111 = .ok (.iconst 1, 1) := by decide +kernel
theorem dX10_setShape_112 : decode cX10_setShape 112 = .ok (.ireturn, 1) := by decide +kernel
theorem dX10_setShape_113 : decode cX10_setShape 113 = .ok (.aload_n 1, 1) := by decide +kernel
theorem dX10_setShape_114 : decode cX10_setShape 114 = .ok (.iload_n 3, 1) := by decide +kernel
theorem dX10_setShape_115 : decode cX10_setShape 115 = .ok (.ldc 180, 2) := by decide +kernel
theorem dX10_setShape_117 : decode cX10_setShape 117 = .ok (.iand, 1) := by decide +kernel
theorem dX10_setShape_118 : decode cX10_setShape 118 = .ok (.invokevirtual 181, 3) := by decide +kernel
theorem dX10_setShape_121 : decode cX10_setShape 121 = .ok (.iconst 1, 1) := by decide +kernel
theorem dX10_setShape_122 : decode cX10_setShape 122 = .ok (.ireturn, 1) := by decide +kernel
theorem dX10_setShape_123 : decode cX10_setShape 123 = .ok (.iconst 0, 1) := by decide +kernel
theorem dX10_setShape_124 : decode cX10_setShape 124 = .ok (.ireturn, 1) := by decide +kernel
set_option maxRecDepth 20000 in
theorem ggX10_setBare_X4_find : GoodIn wsX10_setBare wsX4_find := goodIn_r _ [7, 8, 9, 38, 39, 40] (by decide +kernel) (by decide +kernel)
set_option maxRecDepth 20000 in
theorem gX10_setBare_X4_find : GoodIn wsX10_setBare (wsV RX10 155 RX4 yX4_find wsX4_find) := goodIn_app (goodIn_of _ (by decide +kernel)) ggX10_setBare_X4_find
set_option maxRecDepth 20000 in
theorem ggX10_setBare_X8_becomeBare : GoodIn wsX10_setBare wsX8_becomeBare := goodIn_r _ [14, 15, 16, 17, 18, 19, 20, 21, 22, 23, 13, 24, 25, 26, 41, 42, 43, 44, 45, 46, 47, 32, 33, 34, 35, 36, 37] (by decide +kernel) (by decide +kernel)
set_option maxRecDepth 20000 in
theorem gX10_setBare_X8_becomeBare : GoodIn wsX10_setBare (wsV RX10 190 RX8 yX8_becomeBare wsX8_becomeBare) := goodIn_app (goodIn_of _ (by decide +kernel)) ggX10_setBare_X8_becomeBare
theorem dX10_setBare_0 : decode cX10_setBare 0 = .ok (.aload_n 0, 1) := by decide +kernel
theorem dX10_setBare_1 : decode cX10_setBare 1 = .ok (.getfield 24, 3) := by decide +kernel
theorem dX10_setBare_4 : decode cX10_setBare 4 = .ok (.iload_n 2, 1) := by decide +kernel
theorem dX10_setBare_5 : decode cX10_setBare 5 = .ok (.invokevirtual 155, 3) := by decide +kernel
theorem dX10_setBare_8 : decode cX10_setBare 8 = .ok (.astore 5, 2) := by decide +kernel
theorem dX10_setBare_10 : decode cX10_setBare 10 = .ok (.aload 5, 2) := by decide +kernel
theorem dX10_setBare_12 : decode cX10_setBare 12 = .ok (.ifnull 11, 3) := by decide +kernel
theorem dX10_setBare_15 : decode cX10_setBare 15 = .ok (.aload 5, 2) := by decide +kernel
theorem dX10_setBare_17 : decode cX10_setBare 17 = .ok (.getfield 184, 3) := by decide +kernel
theorem dX10_setBare_20 : decode cX10_setBare 20 = .ok (.ifCond .eq 5, 3) := by decide +kernel
theorem dX10_setBare_23 : decode cX10_setBare 23 = .ok (.iconst 0, 1) := by decide +kernel
theorem dX10_setBare_24 : decode cX10_setBare 24 = .ok (.ireturn, 1) := by decide +kernel
theorem dX10_setBare_25 : decode cX10_setBare 25 = .ok (.aload_n 1, 1) := by decide +kernel
theorem dX10_setBare_26 : decode cX10_setBare 26 = .ok (.aload 5, 2) := by decide +kernel
theorem dX10_setBare_28 : decode cX10_setBare 28 = .ok (.iload_n 3, 1) := by decide +kernel
theorem dX10_setBare_29 : decode cX10_setBare 29 = .ok (.iload 4, 2) := by decide +kernel
theorem dX10_setBare_31 : decode cX10_setBare 31 = .ok (.invokevirtual 190, 3) := by decide +kernel
theorem dX10_setBare_34 : decode cX10_setBare 34 = .ok (.iconst 1, 1) := by decide +kernel
theorem dX10_setBare_35 : decode cX10_setBare 35 = .ok (.ireturn, 1) := by decide +kernel
theorem dJx00060_init_a7421_0 : decode cJx00060_init_a7421 0 = .ok (.aload_n 0, 1) := by decide +kernel
theorem dJx00060_init_a7421_1 : decode cJx00060_init_a7421 1 = .ok (.aload_n 1, 1) := by decide +kernel
theorem dJx00060_init_a7421_2 : decode cJx00060_init_a7421 2 = .ok (.invokespecial 7, 3) := by decide +kernel
theorem dJx00060_init_a7421_5 : decode cJx00060_init_a7421 5 = .ok (.return_, 1) := by decide +kernel
theorem dJ6_numberOfTrailingZeros_0f7a4_0 : decode cJ6_numberOfTrailingZeros_0f7a4 0 = .ok (.iload_n 0, 1) := by decide +kernel
theorem dJ6_numberOfTrailingZeros_0f7a4_1 : decode cJ6_numberOfTrailingZeros_0f7a4 1 = .ok (.iconst (-1), 1) := by decide +kernel
theorem dJ6_numberOfTrailingZeros_0f7a4_2 : decode cJ6_numberOfTrailingZeros_0f7a4 2 = .ok (.ixor, 1) := by decide +kernel
theorem dJ6_numberOfTrailingZeros_0f7a4_3 : decode cJ6_numberOfTrailingZeros_0f7a4 3 = .ok (.iload_n 0, 1) := by decide +kernel
theorem dJ6_numberOfTrailingZeros_0f7a4_4 : decode cJ6_numberOfTrailingZeros_0f7a4 4 = .ok (.iconst 1, 1) := by decide +kernel
theorem dJ6_numberOfTrailingZeros_0f7a4_5 : decode cJ6_numberOfTrailingZeros_0f7a4 5 = .ok (.isub, 1) := by decide +kernel
theorem dJ6_numberOfTrailingZeros_0f7a4_6 : decode cJ6_numberOfTrailingZeros_0f7a4 6 = .ok (.iand, 1) := by decide +kernel
theorem dJ6_numberOfTrailingZeros_0f7a4_7 : decode cJ6_numberOfTrailingZeros_0f7a4 7 = .ok (.istore_n 0, 1) := by decide +kernel
theorem dJ6_numberOfTrailingZeros_0f7a4_8 : decode cJ6_numberOfTrailingZeros_0f7a4 8 = .ok (.iload_n 0, 1) := by decide +kernel
theorem dJ6_numberOfTrailingZeros_0f7a4_9 : decode cJ6_numberOfTrailingZeros_0f7a4 9 = .ok (.ifCond .gt 8, 3) := by decide +kernel
theorem dJ6_numberOfTrailingZeros_0f7a4_12 : decode cJ6_numberOfTrailingZeros_0f7a4 12 = .ok (.iload_n 0, 1) := by decide +kernel
theorem dJ6_numberOfTrailingZeros_0f7a4_13 : decode cJ6_numberOfTrailingZeros_0f7a4 13 = .ok (.bipush 32, 2) := by decide +kernel
theorem dJ6_numberOfTrailingZeros_0f7a4_15 : decode cJ6_numberOfTrailingZeros_0f7a4 15 = .ok (.iand, 1) := by decide +kernel
theorem dJ6_numberOfTrailingZeros_0f7a4_16 : decode cJ6_numberOfTrailingZeros_0f7a4 16 = .ok (.ireturn, 1) := by decide +kernel
theorem dJ6_numberOfTrailingZeros_0f7a4_17 : decode cJ6_numberOfTrailingZeros_0f7a4 17 = .ok (.iconst 1, 1) := by decide +kernel
theorem dJ6_numberOfTrailingZeros_0f7a4_18 : decode cJ6_numberOfTrailingZeros_0f7a4 18 = .ok (.istore_n 1, 1) := by decide +kernel
theorem dJ6_numberOfTrailingZeros_0f7a4_19 : decode cJ6_numberOfTrailingZeros_0f7a4 19 = .ok (.iload_n 0, 1) := by decide +kernel
theorem dJ6_numberOfTrailingZeros_0f7a4_20 : decode cJ6_numberOfTrailingZeros_0f7a4 20 = .ok (.ldc_w 264, 3) := by decide +kernel
theorem dJ6_numberOfTrailingZeros_0f7a4_23 : decode cJ6_numberOfTrailingZeros_0f7a4 23 = .ok (.if_icmp .le 11, 3) := by decide +kernel
theorem dJ6_numberOfTrailingZeros_0f7a4_26 : decode cJ6_numberOfTrailingZeros_0f7a4 26 = .ok (.iinc 1 16, 3) := by decide +kernel
theorem dJ6_numberOfTrailingZeros_0f7a4_29 : decode cJ6_numberOfTrailingZeros_0f7a4 29 = .ok (.iload_n 0, 1) := by decide +kernel
theorem dJ6_numberOfTrailingZeros_0f7a4_30 : decode cJ6_numberOfTrailingZeros_0f7a4 30 = .ok (.bipush 16, 2) := by decide +kernel
theorem dJ6_numberOfTrailingZeros_0f7a4_32 : decode cJ6_numberOfTrailingZeros_0f7a4 32 = .ok (.iushr, 1) := by decide +kernel
theorem dJ6_numberOfTrailingZeros_0f7a4_33 : decode cJ6_numberOfTrailingZeros_0f7a4 33 = .ok (.istore_n 0, 1) := by decide +kernel
theorem dJ6_numberOfTrailingZeros_0f7a4_34 : decode cJ6_numberOfTrailingZeros_0f7a4 34 = .ok (.iload_n 0, 1) := by decide +kernel
theorem dJ6_numberOfTrailingZeros_0f7a4_35 : decode cJ6_numberOfTrailingZeros_0f7a4 35 = .ok (.sipush 256, 3) := by decide +kernel
theorem dJ6_numberOfTrailingZeros_0f7a4_38 : decode cJ6_numberOfTrailingZeros_0f7a4 38 = .ok (.if_icmp .le 11, 3) := by decide +kernel
theorem dJ6_numberOfTrailingZeros_0f7a4_41 : decode cJ6_numberOfTrailingZeros_0f7a4 41 = .ok (.iinc 1 8, 3) := by decide +kernel
theorem dJ6_numberOfTrailingZeros_0f7a4_44 : decode cJ6_numberOfTrailingZeros_0f7a4 44 = .ok (.iload_n 0, 1) := by decide +kernel
theorem dJ6_numberOfTrailingZeros_0f7a4_45 : decode cJ6_numberOfTrailingZeros_0f7a4 45 = .ok (.bipush 8, 2) := by decide +kernel
theorem dJ6_numberOfTrailingZeros_0f7a4_47 : decode cJ6_numberOfTrailingZeros_0f7a4 47 = .ok (.iushr, 1) := by decide +kernel
theorem dJ6_numberOfTrailingZeros_0f7a4_48 : decode cJ6_numberOfTrailingZeros_0f7a4 48 = .ok (.istore_n 0, 1) := by decide +kernel
theorem dJ6_numberOfTrailingZeros_0f7a4_49 : decode cJ6_numberOfTrailingZeros_0f7a4 49 = .ok (.iload_n 0, 1) := by decide +kernel
theorem dJ6_numberOfTrailingZeros_0f7a4_50 : decode cJ6_numberOfTrailingZeros_0f7a4 50 = .ok (.bipush 16, 2) := by decide +kernel
theorem dJ6_numberOfTrailingZeros_0f7a4_52 : decode cJ6_numberOfTrailingZeros_0f7a4 52 = .ok (.if_icmp .le 10, 3) := by decide +kernel
theorem dJ6_numberOfTrailingZeros_0f7a4_55 : decode cJ6_numberOfTrailingZeros_0f7a4 55 = .ok (.iinc 1 4, 3) := by decide +kernel
theorem dJ6_numberOfTrailingZeros_0f7a4_58 : decode cJ6_numberOfTrailingZeros_0f7a4 58 = .ok (.iload_n 0, 1) := by decide +kernel
theorem dJ6_numberOfTrailingZeros_0f7a4_59 : decode cJ6_numberOfTrailingZeros_0f7a4 59 = .ok (.iconst 4, 1) := by decide +kernel
theorem dJ6_numberOfTrailingZeros_0f7a4_60 : decode cJ6_numberOfTrailingZeros_0f7a4 60 = .ok (.iushr, 1) := by decide +kernel
theorem dJ6_numberOfTrailingZeros_0f7a4_61 : decode cJ6_numberOfTrailingZeros_0f7a4 61 = .ok (.istore_n 0, 1) := by decide +kernel
theorem dJ6_numberOfTrailingZeros_0f7a4_62 : decode cJ6_numberOfTrailingZeros_0f7a4 62 = .ok (.iload_n 0, 1) := by decide +kernel
theorem dJ6_numberOfTrailingZeros_0f7a4_63 : decode cJ6_numberOfTrailingZeros_0f7a4 63 = .ok (.iconst 4, 1) := by decide +kernel
theorem dJ6_numberOfTrailingZeros_0f7a4_64 : decode cJ6_numberOfTrailingZeros_0f7a4 64 = .ok (.if_icmp .le 10, 3) := by decide +kernel
theorem dJ6_numberOfTrailingZeros_0f7a4_67 : decode cJ6_numberOfTrailingZeros_0f7a4 67 = .ok (.iinc 1 2, 3) := by decide +kernel
theorem dJ6_numberOfTrailingZeros_0f7a4_70 : decode cJ6_numberOfTrailingZeros_0f7a4 70 = .ok (.iload_n 0, 1) := by decide +kernel
theorem dJ6_numberOfTrailingZeros_0f7a4_71 : decode cJ6_numberOfTrailingZeros_0f7a4 71 = .ok (.iconst 2, 1) := by decide +kernel
theorem dJ6_numberOfTrailingZeros_0f7a4_72 : decode cJ6_numberOfTrailingZeros_0f7a4 72 = .ok (.iushr, 1) := by decide +kernel
theorem dJ6_numberOfTrailingZeros_0f7a4_73 : decode cJ6_numberOfTrailingZeros_0f7a4 73 = .ok (.istore_n 0, 1) := by decide +kernel
theorem dJ6_numberOfTrailingZeros_0f7a4_74 : decode cJ6_numberOfTrailingZeros_0f7a4 74 = .ok (.iload_n 1, 1) := by decide +kernel
theorem dJ6_numberOfTrailingZeros_0f7a4_75 : decode cJ6_numberOfTrailingZeros_0f7a4 75 = .ok (.iload_n 0, 1) := by decide +kernel
theorem dJ6_numberOfTrailingZeros_0f7a4_76 : decode cJ6_numberOfTrailingZeros_0f7a4 76 = .ok (.iconst 1, 1) := by decide +kernel
theorem dJ6_numberOfTrailingZeros_0f7a4_77 : decode cJ6_numberOfTrailingZeros_0f7a4 77 = .ok (.iushr, 1) := by decide +kernel
theorem dJ6_numberOfTrailingZeros_0f7a4_78 : decode cJ6_numberOfTrailingZeros_0f7a4 78 = .ok (.iadd, 1) := by decide +kernel
theorem dJ6_numberOfTrailingZeros_0f7a4_79 : decode cJ6_numberOfTrailingZeros_0f7a4 79 = .ok (.ireturn, 1) := by decide +kernel
theorem dJ6_bitCount_0f7a4_0 : decode cJ6_bitCount_0f7a4 0 = .ok (.iload_n 0, 1) := by decide +kernel
theorem dJ6_bitCount_0f7a4_1 : decode cJ6_bitCount_0f7a4 1 = .ok (.iload_n 0, 1) := by decide +kernel
theorem dJ6_bitCount_0f7a4_2 : decode cJ6_bitCount_0f7a4 2 = .ok (.iconst 1, 1) := by decide +kernel
theorem dJ6_bitCount_0f7a4_3 : decode cJ6_bitCount_0f7a4 3 = .ok (.iushr, 1) := by decide +kernel
theorem dJ6_bitCount_0f7a4_4 : decode cJ6_bitCount_0f7a4 4 = .ok (.ldc_w 265, 3) := by decide +kernel
theorem dJ6_bitCount_0f7a4_7 : decode cJ6_bitCount_0f7a4 7 = .ok (.iand, 1) := by decide +kernel
theorem dJ6_bitCount_0f7a4_8 : decode cJ6_bitCount_0f7a4 8 = .ok (.isub, 1) := by decide +kernel
theorem dJ6_bitCount_0f7a4_9 : decode cJ6_bitCount_0f7a4 9 = .ok (.istore_n 0, 1) := by decide +kernel
theorem dJ6_bitCount_0f7a4_10 : decode cJ6_bitCount_0f7a4 10 = .ok (.iload_n 0, 1) := by decide +kernel
theorem dJ6_bitCount_0f7a4_11 : decode cJ6_bitCount_0f7a4 11 = .ok (.ldc_w 266, 3) := by decide +kernel
theorem dJ6_bitCount_0f7a4_14 : decode cJ6_bitCount_0f7a4 14 = .ok (.iand, 1) := by decide +kernel
theorem dJ6_bitCount_0f7a4_15 : decode cJ6_bitCount_0f7a4 15 = .ok (.iload_n 0, 1) := by decide +kernel
theorem dJ6_bitCount_0f7a4_16 : decode cJ6_bitCount_0f7a4 16 = .ok (.iconst 2, 1) := by decide +kernel
theorem dJ6_bitCount_0f7a4_17 : decode cJ6_bitCount_0f7a4 17 = .ok (.iushr, 1) := by decide +kernel
theorem dJ6_bitCount_0f7a4_18 : decode cJ6_bitCount_0f7a4 18 = .ok (.ldc_w 266, 3) := by decide +kernel
theorem dJ6_bitCount_0f7a4_21 : decode cJ6_bitCount_0f7a4 21 = .ok (.iand, 1) := by decide +kernel
theorem dJ6_bitCount_0f7a4_22 : decode cJ6_bitCount_0f7a4 22 = .ok (.iadd, 1) := by decide +kernel
theorem dJ6_bitCount_0f7a4_23 : decode cJ6_bitCount_0f7a4 23 = .ok (.istore_n 0, 1) := by decide +kernel
theorem dJ6_bitCount_0f7a4_24 : decode cJ6_bitCount_0f7a4 24 = .ok (.iload_n 0, 1) := by decide +kernel
theorem dJ6_bitCount_0f7a4_25 : decode cJ6_bitCount_0f7a4 25 = .ok (.iload_n 0, 1) := by decide +kernel
theorem dJ6_bitCount_0f7a4_26 : decode cJ6_bitCount_0f7a4 26 = .ok (.iconst 4, 1) := by decide +kernel
theorem dJ6_bitCount_0f7a4_27 : decode cJ6_bitCount_0f7a4 27 = .ok (.iushr, 1) := by decide +kernel
theorem dJ6_bitCount_0f7a4_28 : decode cJ6_bitCount_0f7a4 28 = .ok (.iadd, 1) := by decide +kernel
theorem dJ6_bitCount_0f7a4_29 : decode cJ6_bitCount_0f7a4 29 = .ok (.ldc_w 267, 3) := by decide +kernel
theorem dJ6_bitCount_0f7a4_32 : decode cJ6_bitCount_0f7a4 32 = .ok (.iand, 1) := by decide +kernel
theorem dJ6_bitCount_0f7a4_33 : decode cJ6_bitCount_0f7a4 33 = .ok (.istore_n 0, 1) := by decide +kernel
theorem dJ6_bitCount_0f7a4_34 : decode cJ6_bitCount_0f7a4 34 = .ok (.iload_n 0, 1) := by decide +kernel
theorem dJ6_bitCount_0f7a4_35 : decode cJ6_bitCount_0f7a4 35 = .ok (.iload_n 0, 1) := by decide +kernel
theorem dJ6_bitCount_0f7a4_36 : decode cJ6_bitCount_0f7a4 36 = .ok (.bipush 8, 2) := by decide +kernel
theorem dJ6_bitCount_0f7a4_38 : decode cJ6_bitCount_0f7a4 38 = .ok (.iushr, 1) := by decide +kernel
theorem dJ6_bitCount_0f7a4_39 : decode cJ6_bitCount_0f7a4 39 = .ok (.iadd, 1) := by decide +kernel
theorem dJ6_bitCount_0f7a4_40 : decode cJ6_bitCount_0f7a4 40 = .ok (.istore_n 0, 1) := by decide +kernel
theorem dJ6_bitCount_0f7a4_41 : decode cJ6_bitCount_0f7a4 41 = .ok (.iload_n 0, 1) := by decide +kernel
theorem dJ6_bitCount_0f7a4_42 : decode cJ6_bitCount_0f7a4 42 = .ok (.iload_n 0, 1) := by decide +kernel
theorem dJ6_bitCount_0f7a4_43 : decode cJ6_bitCount_0f7a4 43 = .ok (.bipush 16, 2) := by decide +kernel
theorem dJ6_bitCount_0f7a4_45 : decode cJ6_bitCount_0f7a4 45 = .ok (.iushr, 1) := by decide +kernel
theorem dJ6_bitCount_0f7a4_46 : decode cJ6_bitCount_0f7a4 46 = .ok (.iadd, 1) := by decide +kernel
theorem dJ6_bitCount_0f7a4_47 : decode cJ6_bitCount_0f7a4 47 = .ok (.istore_n 0, 1) := by decide +kernel
theorem dJ6_bitCount_0f7a4_48 : decode cJ6_bitCount_0f7a4 48 = .ok (.iload_n 0, 1) := by decide +kernel
theorem dJ6_bitCount_0f7a4_49 : decode cJ6_bitCount_0f7a4 49 = .ok (.bipush 63, 2) := by decide +kernel
theorem dJ6_bitCount_0f7a4_51 : decode cJ6_bitCount_0f7a4 51 = .ok (.iand, 1) := by decide +kernel
theorem dJ6_bitCount_0f7a4_52 : decode cJ6_bitCount_0f7a4 52 = .ok (.ireturn, 1) := by decide +kernel
theorem dJ9_min_7cf53_0 : decode cJ9_min_7cf53 0 = .ok (.iload_n 0, 1) := by decide +kernel
theorem dJ9_min_7cf53_1 : decode cJ9_min_7cf53 1 = .ok (.iload_n 1, 1) := by decide +kernel
theorem dJ9_min_7cf53_2 : decode cJ9_min_7cf53 2 = .ok (.if_icmp .gt 7, 3) := by decide +kernel
theorem dJ9_min_7cf53_5 : decode cJ9_min_7cf53 5 = .ok (.iload_n 0, 1) := by decide +kernel
theorem dJ9_min_7cf53_6 : decode cJ9_min_7cf53 6 = .ok (.goto 4, 3) := by decide +kernel
theorem dJ9_min_7cf53_9 : decode cJ9_min_7cf53 9 = .ok (.iload_n 1, 1) := by decide +kernel
theorem dJ9_min_7cf53_10 : decode cJ9_min_7cf53 10 = .ok (.ireturn, 1) := by decide +kernel
theorem dJ7_copyOf_59c91_0 : decode cJ7_copyOf_59c91 0 = .ok (.iload_n 1, 1) := by decide +kernel
theorem dJ7_copyOf_59c91_1 : decode cJ7_copyOf_59c91 1 = .ok (.aload_n 0, 1) := by decide +kernel
theorem dJ7_copyOf_59c91_2 : decode cJ7_copyOf_59c91 2 = .ok (.arraylength, 1) := by decide +kernel
theorem dJ7_copyOf_59c91_3 : decode cJ7_copyOf_59c91 3 = .ok (.if_icmp .ne 11, 3) := by decide +kernel
theorem dJ7_copyOf_59c91_6 : decode cJ7_copyOf_59c91 6 = .ok (.aload_n 0, 1) := by decide +kernel
theorem dJ7_copyOf_59c91_7 : decode cJ7_copyOf_59c91 7 = .ok (.invokevirtual 316, 3) := by decide +kernel
theorem dJ7_copyOf_59c91_10 : decode cJ7_copyOf_59c91 10 = .ok (.checkcast 317, 3) := by decide +kernel
theorem dJ7_copyOf_59c91_13 : decode cJ7_copyOf_59c91 13 = .ok (.areturn, 1) := by decide +kernel
theorem dJ7_copyOf_59c91_14 : decode cJ7_copyOf_59c91 14 = .ok (.iload_n 1, 1) := by decide +kernel
theorem dJ7_copyOf_59c91_15 : decode cJ7_copyOf_59c91 15 = .ok (.newarray .int, 2) := by decide +kernel
theorem dJ7_copyOf_59c91_17 : decode cJ7_copyOf_59c91 17 = .ok (.astore_n 2, 1) := by decide +kernel
theorem dJ7_copyOf_59c91_18 : decode cJ7_copyOf_59c91 18 = .ok (.aload_n 0, 1) := by decide +kernel
theorem dJ7_copyOf_59c91_19 : decode cJ7_copyOf_59c91 19 = .ok (.iconst 0, 1) := by decide +kernel
theorem dJ7_copyOf_59c91_20 : decode cJ7_copyOf_59c91 20 = .ok (.aload_n 2, 1) := by decide +kernel
theorem dJ7_copyOf_59c91_21 : decode cJ7_copyOf_59c91 21 = .ok (.iconst 0, 1) := by decide +kernel
theorem dJ7_copyOf_59c91_22 : decode cJ7_copyOf_59c91 22 = .ok (.aload_n 0, 1) := by decide +kernel
theorem dJ7_copyOf_59c91_23 : decode cJ7_copyOf_59c91 23 = .ok (.arraylength, 1) := by decide +kernel
theorem dJ7_copyOf_59c91_24 : decode cJ7_copyOf_59c91 24 = .ok (.iload_n 1, 1) := by decide +kernel
theorem dJ7_copyOf_59c91_25 : decode cJ7_copyOf_59c91 25 = .ok (.invokestatic 304, 3) := by decide +kernel
theorem dJ7_copyOf_59c91_28 : decode cJ7_copyOf_59c91 28 = .ok (.invokestatic 150, 3) := by decide +kernel
theorem dJ7_copyOf_59c91_31 : decode cJ7_copyOf_59c91 31 = .ok (.aload_n 2, 1) := by decide +kernel
theorem dJ7_copyOf_59c91_32 : decode cJ7_copyOf_59c91 32 = .ok (.areturn, 1) := by decide +kernel
abbrev vwCl : List vw_C := [(RJx00060, TJx00060, 6), (RX0, TX0, 2), (RX2, TX2, 4), (RX3, TX3, 6), (RX4, TX4, 3), (RX5, TX5, 3), (RX6, TX6, 5), (RX7, TX7, 4), (RX8, TX8, 7), (RX9, TX9, 7), (RX10, TX10, 5), (RX11, TX11, 32)]
