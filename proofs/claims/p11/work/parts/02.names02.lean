theorem dX6_countWays_20 : decode cX6_countWays 20 = .ok (.aload_n 0, 1) := by decide +kernel
theorem dX6_countWays_21 : decode cX6_countWays 21 = .ok (.getfield 19, 3) := by decide +kernel
theorem dX6_countWays_24 : decode cX6_countWays 24 = .ok (.astore 5, 2) := by decide +kernel
theorem dX6_countWays_26 : decode cX6_countWays 26 = .ok (.aload_n 0, 1) := by decide +kernel
theorem dX6_countWays_27 : decode cX6_countWays 27 = .ok (.getfield 23, 3) := by decide +kernel
theorem dX6_countWays_30 : decode cX6_countWays 30 = .ok (.astore 6, 2) := by decide +kernel
theorem dX6_countWays_32 : decode cX6_countWays 32 = .ok (.aload 5, 2) := by decide +kernel
theorem dX6_countWays_34 : decode cX6_countWays 34 = .ok (.invokevirtual 44, 3) := by decide +kernel
theorem dX6_countWays_37 : decode cX6_countWays 37 = .ok (.aload 5, 2) := by decide +kernel
theorem dX6_countWays_39 : decode cX6_countWays 39 = .ok (.iconst 0, 1) := by decide +kernel
theorem dX6_countWays_40 : decode cX6_countWays 40 = .ok (.iconst 1, 1) := by decide +kernel
theorem dX6_countWays_41 : decode cX6_countWays 41 = .ok (.invokevirtual 51, 3) := by decide +kernel
theorem dX6_countWays_44 : decode cX6_countWays 44 = .ok (.iconst 0, 1) := by decide +kernel
theorem dX6_countWays_45 : decode cX6_countWays 45 = .ok (.istore 7, 2) := by decide +kernel
theorem dX6_countWays_47 : decode cX6_countWays 47 = .ok (.iload 7, 2) := by decide +kernel
theorem dX6_countWays_49 : decode cX6_countWays 49 = .ok (.aload_n 0, 1) := by decide +kernel
theorem dX6_countWays_50 : decode cX6_countWays 50 = .ok (.getfield 34, 3) := by decide +kernel
theorem dX6_countWays_53 : decode cX6_countWays 53 = .ok (.if_icmp .ge 49, 3) := by decide +kernel
theorem dX6_countWays_56 : decode cX6_countWays 56 = .ok (.aload 5, 2) := by decide +kernel
theorem dX6_countWays_58 : decode cX6_countWays 58 = .ok (.getfield 55, 3) := by decide +kernel
theorem dX6_countWays_61 : decode cX6_countWays 61 = .ok (.ifCond .le 41, 3) := by decide +kernel
theorem dX6_countWays_64 : decode cX6_countWays 64 = .ok (.aload_n 0, 1) := by decide +kernel
theorem dX6_countWays_65 : decode cX6_countWays 65 = .ok (.aload_n 0, 1) := by decide +kernel
theorem dX6_countWays_66 : decode cX6_countWays 66 = .ok (.getfield 9, 3) := by decide +kernel
theorem dX6_countWays_69 : decode cX6_countWays 69 = .ok (.iload 7, 2) := by decide +kernel
theorem dX6_countWays_71 : decode cX6_countWays 71 = .ok (.iaload, 1) := by decide +kernel
theorem dX6_countWays_72 : decode cX6_countWays 72 = .ok (.aload 4, 2) := by decide +kernel
theorem dX6_countWays_74 : decode cX6_countWays 74 = .ok (.getfield 58, 3) := by decide +kernel
theorem dX6_countWays_77 : decode cX6_countWays 77 = .ok (.aload 5, 2) := by decide +kernel
theorem dX6_countWays_79 : decode cX6_countWays 79 = .ok (.aload 6, 2) := by decide +kernel
theorem dX6_countWays_81 : decode cX6_countWays 81 = .ok (.invokevirtual 64, 3) := by decide +kernel
theorem dX6_countWays_84 : decode cX6_countWays 84 = .ok (.aload 5, 2) := by decide +kernel
theorem dX6_countWays_86 : decode cX6_countWays 86 = .ok (.astore 8, 2) := by decide +kernel
theorem dX6_countWays_88 : decode cX6_countWays 88 = .ok (.aload 6, 2) := by decide +kernel
theorem dX6_countWays_90 : decode cX6_countWays 90 = .ok (.astore 5, 2) := by decide +kernel
theorem dX6_countWays_92 : decode cX6_countWays 92 = .ok (.aload 8, 2) := by decide +kernel
theorem dX6_countWays_94 : decode cX6_countWays 94 = .ok (.astore 6, 2) := by decide +kernel
theorem dX6_countWays_96 : decode cX6_countWays 96 = .ok (.iinc 7 1, 3) := by decide +kernel
theorem dX6_countWays_99 : decode cX6_countWays 99 = .ok (.goto (-52), 3) := by decide +kernel
theorem dX6_countWays_102 : decode cX6_countWays 102 = .ok (.aload 4, 2) := by decide +kernel
theorem dX6_countWays_104 : decode cX6_countWays 104 = .ok (.getfield 68, 3) := by decide +kernel
theorem dX6_countWays_107 : decode cX6_countWays 107 = .ok (.aload 5, 2) := by decide +kernel
theorem dX6_countWays_109 : decode cX6_countWays 109 = .ok (.invokestatic 71, 3) := by decide +kernel
theorem dX6_countWays_112 : decode cX6_countWays 112 = .ok (.ireturn, 1) := by decide +kernel
set_option maxRecDepth 20000 in
theorem ggX6_giveArc_X2_clear : GoodIn wsX6_giveArc wsX2_clear := goodIn_r _ [9, 10, 11, 12, 31, 32, 33, 34] (by decide +kernel) (by decide +kernel)
set_option maxRecDepth 20000 in
theorem gX6_giveArc_X2_clear : GoodIn wsX6_giveArc (wsV RX6 44 RX2 yX2_clear wsX2_clear) := goodIn_app (goodIn_of _ (by decide +kernel)) ggX6_giveArc_X2_clear
set_option maxRecDepth 20000 in
theorem ggX6_giveArc_X2_addTo : GoodIn wsX6_giveArc wsX2_addTo := goodIn_r _ [16, 17, 18, 19, 20, 8, 21, 11, 10, 12, 31, 32, 33, 34] (by decide +kernel) (by decide +kernel)
set_option maxRecDepth 20000 in
theorem gX6_giveArc_X2_addTo : GoodIn wsX6_giveArc (wsV RX6 51 RX2 yX2_addTo wsX2_addTo) := goodIn_app (goodIn_of _ (by decide +kernel)) ggX6_giveArc_X2_addTo
set_option maxRecDepth 20000 in
theorem ggX6_giveArc_X1_ofOne : GoodIn wsX6_giveArc wsX1_ofOne := goodIn_r _ [25, 26, 27, 28, 24, 29, 30] (by decide +kernel) (by decide +kernel)
set_option maxRecDepth 20000 in
theorem gX6_giveArc_X1_ofOne : GoodIn wsX6_giveArc (va_wsS RX6 85 yX1_ofOne wsX1_ofOne) := goodIn_app (goodIn_of _ (by decide +kernel)) ggX6_giveArc_X1_ofOne
theorem dX6_giveArc_0 : decode cX6_giveArc 0 = .ok (.aload 4, 2) := by decide +kernel
theorem dX6_giveArc_2 : decode cX6_giveArc 2 = .ok (.invokevirtual 44, 3) := by decide +kernel
theorem dX6_giveArc_5 : decode cX6_giveArc 5 = .ok (.iconst 0, 1) := by decide +kernel
theorem dX6_giveArc_6 : decode cX6_giveArc 6 = .ok (.istore 5, 2) := by decide +kernel
theorem dX6_giveArc_8 : decode cX6_giveArc 8 = .ok (.iload 5, 2) := by decide +kernel
theorem dX6_giveArc_10 : decode cX6_giveArc 10 = .ok (.aload_n 3, 1) := by decide +kernel
theorem dX6_giveArc_11 : decode cX6_giveArc 11 = .ok (.getfield 55, 3) := by decide +kernel
theorem dX6_giveArc_14 : decode cX6_giveArc 14 = .ok (.if_icmp .ge 92, 3) := by decide +kernel
theorem dX6_giveArc_17 : decode cX6_giveArc 17 = .ok (.iload_n 1, 1) := by decide +kernel
theorem dX6_giveArc_18 : decode cX6_giveArc 18 = .ok (.bipush 32, 2) := by decide +kernel
theorem dX6_giveArc_20 : decode cX6_giveArc 20 = .ok (.iand, 1) := by decide +kernel
theorem dX6_giveArc_21 : decode cX6_giveArc 21 = .ok (.ifCond .eq 22, 3) := by decide +kernel
theorem dX6_giveArc_24 : decode cX6_giveArc 24 = .ok (.aload 4, 2) := by decide +kernel
theorem dX6_giveArc_26 : decode cX6_giveArc 26 = .ok (.aload_n 3, 1) := by decide +kernel
theorem dX6_giveArc_27 : decode cX6_giveArc 27 = .ok (.getfield 75, 3) := by decide +kernel
theorem dX6_giveArc_30 : decode cX6_giveArc 30 = .ok (.iload 5, 2) := by decide +kernel
theorem dX6_giveArc_32 : decode cX6_giveArc 32 = .ok (.iaload, 1) := by decide +kernel
theorem dX6_giveArc_33 : decode cX6_giveArc 33 = .ok (.aload_n 3, 1) := by decide +kernel
theorem dX6_giveArc_34 : decode cX6_giveArc 34 = .ok (.getfield 76, 3) := by decide +kernel
theorem dX6_giveArc_37 : decode cX6_giveArc 37 = .ok (.iload 5, 2) := by decide +kernel
theorem dX6_giveArc_39 : decode cX6_giveArc 39 = .ok (.iaload, 1) := by decide +kernel
theorem dX6_giveArc_40 : decode cX6_giveArc 40 = .ok (.invokevirtual 51, 3) := by decide +kernel
theorem dX6_giveArc_43 : decode cX6_giveArc 43 = .ok (.iconst 0, 1) := by decide +kernel
theorem dX6_giveArc_44 : decode cX6_giveArc 44 = .ok (.istore 6, 2) := by decide +kernel
theorem dX6_giveArc_46 : decode cX6_giveArc 46 = .ok (.iload 6, 2) := by decide +kernel
theorem dX6_giveArc_48 : decode cX6_giveArc 48 = .ok (.aload_n 2, 1) := by decide +kernel
theorem dX6_giveArc_49 : decode cX6_giveArc 49 = .ok (.arraylength, 1) := by decide +kernel
theorem dX6_giveArc_50 : decode cX6_giveArc 50 = .ok (.if_icmp .ge 50, 3) := by decide +kernel
theorem dX6_giveArc_53 : decode cX6_giveArc 53 = .ok (.iload_n 1, 1) := by decide +kernel
theorem dX6_giveArc_54 : decode cX6_giveArc 54 = .ok (.iload 6, 2) := by decide +kernel
theorem dX6_giveArc_56 : decode cX6_giveArc 56 = .ok (.ishr, 1) := by decide +kernel
theorem dX6_giveArc_57 : decode cX6_giveArc 57 = .ok (.iconst 1, 1) := by decide +kernel
theorem dX6_giveArc_58 : decode cX6_giveArc 58 = .ok (.iand, 1) := by decide +kernel
theorem dX6_giveArc_59 : decode cX6_giveArc 59 = .ok (.ifCond .eq 35, 3) := by decide +kernel
theorem dX6_giveArc_62 : decode cX6_giveArc 62 = .ok (.aload 4, 2) := by decide +kernel
theorem dX6_giveArc_64 : decode cX6_giveArc 64 = .ok (.aload_n 3, 1) := by decide +kernel
theorem dX6_giveArc_65 : decode cX6_giveArc 65 = .ok (.getfield 75, 3) := by decide +kernel
theorem dX6_giveArc_68 : decode cX6_giveArc 68 = .ok (.iload 5, 2) := by decide +kernel
theorem dX6_giveArc_70 : decode cX6_giveArc 70 = .ok (.iaload, 1) := by decide +kernel
theorem dX6_giveArc_71 : decode cX6_giveArc 71 = .ok (.iload 6, 2) := by decide +kernel
theorem dX6_giveArc_73 : decode cX6_giveArc 73 = .ok (.aload_n 2, 1) := by decide +kernel
theorem dX6_giveArc_74 : decode cX6_giveArc 74 = .ok (.iload 6, 2) := by decide +kernel
theorem dX6_giveArc_76 : decode cX6_giveArc 76 = .ok (.aaload, 1) := by decide +kernel
theorem dX6_giveArc_77 : decode cX6_giveArc 77 = .ok (.getfield 79, 3) := by decide +kernel
theorem dX6_giveArc_80 : decode cX6_giveArc 80 = .ok (.invokestatic 85, 3) := by decide +kernel
theorem dX6_giveArc_83 : decode cX6_giveArc 83 = .ok (.iadd, 1) := by decide +kernel
theorem dX6_giveArc_84 : decode cX6_giveArc 84 = .ok (.aload_n 3, 1) := by decide +kernel
theorem dX6_giveArc_85 : decode cX6_giveArc 85 = .ok (.getfield 76, 3) := by decide +kernel
theorem dX6_giveArc_88 : decode cX6_giveArc 88 = .ok (.iload 5, 2) := by decide +kernel
theorem dX6_giveArc_90 : decode cX6_giveArc 90 = .ok (.iaload, 1) := by decide +kernel
theorem dX6_giveArc_91 : decode cX6_giveArc 91 = .ok (.invokevirtual 51, 3) := by decide +kernel
theorem dX6_giveArc_94 : decode cX6_giveArc 94 = .ok (.iinc 6 1, 3) := by decide +kernel
theorem dX6_giveArc_97 : decode cX6_giveArc 97 = .ok (.goto (-51), 3) := by decide +kernel
theorem dX6_giveArc_100 : decode cX6_giveArc 100 = .ok (.iinc 5 1, 3) := by decide +kernel
theorem dX6_giveArc_103 : decode cX6_giveArc 103 = .ok (.goto (-95), 3) := by decide +kernel
theorem dX6_giveArc_106 : decode cX6_giveArc 106 = .ok (.return_, 1) := by decide +kernel
set_option maxRecDepth 20000 in
theorem ggX6_sumAllowed_X2_spotOf : GoodIn wsX6_sumAllowed wsX2_spotOf := goodIn_r _ [11, 12, 13, 14, 15, 16] (by decide +kernel) (by decide +kernel)
set_option maxRecDepth 20000 in
theorem gX6_sumAllowed_X2_spotOf : GoodIn wsX6_sumAllowed (wsV RX6 89 RX2 yX2_spotOf wsX2_spotOf) := goodIn_app (goodIn_of _ (by decide +kernel)) ggX6_sumAllowed_X2_spotOf
theorem dX6_sumAllowed_0 : decode cX6_sumAllowed 0 = .ok (.iconst 0, 1) := by decide +kernel
theorem dX6_sumAllowed_1 : decode cX6_sumAllowed 1 = .ok (.istore_n 2, 1) := by decide +kernel
theorem dX6_sumAllowed_2 : decode cX6_sumAllowed 2 = .ok (.iconst 0, 1) := by decide +kernel
theorem dX6_sumAllowed_3 : decode cX6_sumAllowed 3 = .ok (.istore_n 3, 1) := by decide +kernel
theorem dX6_sumAllowed_4 : decode cX6_sumAllowed 4 = .ok (.iload_n 3, 1) := by decide +kernel
theorem dX6_sumAllowed_5 : decode cX6_sumAllowed 5 = .ok (.aload_n 0, 1) := by decide +kernel
theorem dX6_sumAllowed_6 : decode cX6_sumAllowed 6 = .ok (.arraylength, 1) := by decide +kernel
theorem dX6_sumAllowed_7 : decode cX6_sumAllowed 7 = .ok (.if_icmp .ge 38, 3) := by decide +kernel
theorem dX6_sumAllowed_10 : decode cX6_sumAllowed 10 = .ok (.aload_n 1, 1) := by decide +kernel
theorem dX6_sumAllowed_11 : decode cX6_sumAllowed 11 = .ok (.aload_n 0, 1) := by decide +kernel
theorem dX6_sumAllowed_12 : decode cX6_sumAllowed 12 = .ok (.iload_n 3, 1) := by decide +kernel
theorem dX6_sumAllowed_13 : decode cX6_sumAllowed 13 = .ok (.iaload, 1) := by decide +kernel
theorem dX6_sumAllowed_14 : decode cX6_sumAllowed 14 = .ok (.invokevirtual 89, 3) := by decide +kernel
theorem dX6_sumAllowed_17 : decode cX6_sumAllowed 17 = .ok (.istore 4, 2) := by decide +kernel
theorem dX6_sumAllowed_19 : decode cX6_sumAllowed 19 = .ok (.iload 4, 2) := by decide +kernel
theorem dX6_sumAllowed_21 : decode cX6_sumAllowed 21 = .ok (.ifCond .lt 18, 3) := by decide +kernel
theorem dX6_sumAllowed_24 : decode cX6_sumAllowed 24 = .ok (.ldc 93, 2) := by decide +kernel
theorem dX6_sumAllowed_26 : decode cX6_sumAllowed 26 = .ok (.iload_n 2, 1) := by decide +kernel
theorem dX6_sumAllowed_27 : decode cX6_sumAllowed 27 = .ok (.aload_n 1, 1) := by decide +kernel
theorem dX6_sumAllowed_28 : decode cX6_sumAllowed 28 = .ok (.getfield 76, 3) := by decide +kernel
theorem dX6_sumAllowed_31 : decode cX6_sumAllowed 31 = .ok (.iload 4, 2) := by decide +kernel
theorem dX6_sumAllowed_33 : decode cX6_sumAllowed 33 = .ok (.iaload, 1) := by decide +kernel
theorem dX6_sumAllowed_34 : decode cX6_sumAllowed 34 = .ok (.iadd, 1) := by decide +kernel
theorem dX6_sumAllowed_35 : decode cX6_sumAllowed 35 = .ok (.invokestatic 94, 3) := by decide +kernel
theorem dX6_sumAllowed_38 : decode cX6_sumAllowed 38 = .ok (.istore_n 2, 1) := by decide +kernel
theorem dX6_sumAllowed_39 : decode cX6_sumAllowed 39 = .ok (.iinc 3 1, 3) := by decide +kernel
theorem dX6_sumAllowed_42 : decode cX6_sumAllowed 42 = .ok (.goto (-38), 3) := by decide +kernel
theorem dX6_sumAllowed_45 : decode cX6_sumAllowed 45 = .ok (.iload_n 2, 1) := by decide +kernel
theorem dX6_sumAllowed_46 : decode cX6_sumAllowed 46 = .ok (.ireturn, 1) := by decide +kernel
set_option maxRecDepth 20000 in
theorem ggX6_gather_X0_count : GoodIn wsX6_gather wsX0_count := goodIn_r _ [15, 16, 67, 68] (by decide +kernel) (by decide +kernel)
set_option maxRecDepth 20000 in
theorem gX6_gather_X0_count : GoodIn wsX6_gather (wsV RX6 105 RX0 yX0_count wsX0_count) := goodIn_app (goodIn_of _ (by decide +kernel)) ggX6_gather_X0_count
set_option maxRecDepth 20000 in
theorem ggX6_gather_X0_key : GoodIn wsX6_gather wsX0_key := goodIn_r _ [20, 21, 67, 68] (by decide +kernel) (by decide +kernel)
set_option maxRecDepth 20000 in
theorem gX6_gather_X0_key : GoodIn wsX6_gather (wsV RX6 110 RX0 yX0_key wsX0_key) := goodIn_app (goodIn_of _ (by decide +kernel)) ggX6_gather_X0_key
set_option maxRecDepth 20000 in
theorem ggX6_gather_X5_labelOf : GoodIn wsX6_gather wsX5_labelOf := goodIn_r _ [25] (by decide +kernel) (by decide +kernel)
set_option maxRecDepth 20000 in
theorem gX6_gather_X5_labelOf : GoodIn wsX6_gather (va_wsS RX6 113 yX5_labelOf wsX5_labelOf) := goodIn_app (goodIn_of _ (by decide +kernel)) ggX6_gather_X5_labelOf
set_option maxRecDepth 20000 in
theorem ggX6_gather_X6_takers : GoodIn wsX6_gather wsX6_takers := goodIn_r _ [29, 22, 23, 24, 25, 30, 31, 32, 33, 34, 35, 36, 37, 38, 39, 40, 69, 70, 71, 72] (by decide +kernel) (by decide +kernel)
set_option maxRecDepth 20000 in
theorem gX6_gather_X6_takers : GoodIn wsX6_gather (va_wsS RX6 125 yX6_takers wsX6_takers) := goodIn_app (goodIn_of _ (by decide +kernel)) ggX6_gather_X6_takers
set_option maxRecDepth 20000 in
theorem ggX6_gather_X6_addConcerned : GoodIn wsX6_gather wsX6_addConcerned := goodIn_r _ [44, 1, 45, 46, 47, 48, 49, 50] (by decide +kernel) (by decide +kernel)
set_option maxRecDepth 20000 in
theorem gX6_gather_X6_addConcerned : GoodIn wsX6_gather (wsV RX6 129 RX6 yX6_addConcerned wsX6_addConcerned) := goodIn_app (goodIn_of _ (by decide +kernel)) ggX6_gather_X6_addConcerned
theorem dX6_gather_0 : decode cX6_gather 0 = .ok (.aload_n 0, 1) := by decide +kernel
theorem dX6_gather_1 : decode cX6_gather 1 = .ok (.iconst 0, 1) := by decide +kernel
theorem dX6_gather_2 : decode cX6_gather 2 = .ok (.putfield 34, 3) := by decide +kernel
theorem dX6_gather_5 : decode cX6_gather 5 = .ok (.aload_n 2, 1) := by decide +kernel
theorem dX6_gather_6 : decode cX6_gather 6 = .ok (.getfield 38, 3) := by decide +kernel
theorem dX6_gather_9 : decode cX6_gather 9 = .ok (.astore 4, 2) := by decide +kernel
theorem dX6_gather_11 : decode cX6_gather 11 = .ok (.aload 4, 2) := by decide +kernel
theorem dX6_gather_13 : decode cX6_gather 13 = .ok (.ifnonnull 4, 3) := by decide +kernel
theorem dX6_gather_16 : decode cX6_gather 16 = .ok (.return_, 1) := by decide +kernel
theorem dX6_gather_17 : decode cX6_gather 17 = .ok (.iconst 0, 1) := by decide +kernel
theorem dX6_gather_18 : decode cX6_gather 18 = .ok (.istore 5, 2) := by decide +kernel
theorem dX6_gather_20 : decode cX6_gather 20 = .ok (.iload 5, 2) := by decide +kernel
theorem dX6_gather_22 : decode cX6_gather 22 = .ok (.aload_n 0, 1) := by decide +kernel
theorem dX6_gather_23 : decode cX6_gather 23 = .ok (.getfield 15, 3) := by decide +kernel
theorem dX6_gather_26 : decode cX6_gather 26 = .ok (.getfield 100, 3) := by decide +kernel
theorem dX6_gather_29 : decode cX6_gather 29 = .ok (.iload_n 1, 1) := by decide +kernel
theorem dX6_gather_30 : decode cX6_gather 30 = .ok (.invokevirtual 105, 3) := by decide +kernel
theorem dX6_gather_33 : decode cX6_gather 33 = .ok (.if_icmp .ge 88, 3) := by decide +kernel
theorem dX6_gather_36 : decode cX6_gather 36 = .ok (.aload_n 0, 1) := by decide +kernel
theorem dX6_gather_37 : decode cX6_gather 37 = .ok (.getfield 15, 3) := by decide +kernel
theorem dX6_gather_40 : decode cX6_gather 40 = .ok (.getfield 100, 3) := by decide +kernel
theorem dX6_gather_43 : decode cX6_gather 43 = .ok (.iload_n 1, 1) := by decide +kernel
theorem dX6_gather_44 : decode cX6_gather 44 = .ok (.iload 5, 2) := by decide +kernel
theorem dX6_gather_46 : decode cX6_gather 46 = .ok (.invokevirtual 110, 3) := by decide +kernel
theorem dX6_gather_49 : decode cX6_gather 49 = .ok (.istore 6, 2) := by decide +kernel
theorem dX6_gather_51 : decode cX6_gather 51 = .ok (.iconst 1, 1) := by decide +kernel
theorem dX6_gather_52 : decode cX6_gather 52 = .ok (.iload 6, 2) := by decide +kernel
theorem dX6_gather_54 : decode cX6_gather 54 = .ok (.invokestatic 113, 3) := by decide +kernel
theorem dX6_gather_57 : decode cX6_gather 57 = .ok (.ishl, 1) := by decide +kernel
theorem dX6_gather_58 : decode cX6_gather 58 = .ok (.istore 7, 2) := by decide +kernel
theorem dX6_gather_60 : decode cX6_gather 60 = .ok (.aload_n 2, 1) := by decide +kernel
theorem dX6_gather_61 : decode cX6_gather 61 = .ok (.getfield 116, 3) := by decide +kernel
theorem dX6_gather_64 : decode cX6_gather 64 = .ok (.ifCond .ne 14, 3) := by decide +kernel
theorem dX6_gather_67 : decode cX6_gather 67 = .ok (.aload 4, 2) := by decide +kernel
theorem dX6_gather_69 : decode cX6_gather 69 = .ok (.getfield 119, 3) := by decide +kernel
theorem dX6_gather_72 : decode cX6_gather 72 = .ok (.iload 7, 2) := by decide +kernel
theorem dX6_gather_74 : decode cX6_gather 74 = .ok (.iand, 1) := by decide +kernel
theorem dX6_gather_75 : decode cX6_gather 75 = .ok (.ifCond .eq 40, 3) := by decide +kernel
theorem dX6_gather_78 : decode cX6_gather 78 = .ok (.aload_n 2, 1) := by decide +kernel
theorem dX6_gather_79 : decode cX6_gather 79 = .ok (.getfield 122, 3) := by decide +kernel
theorem dX6_gather_82 : decode cX6_gather 82 = .ok (.iload 7, 2) := by decide +kernel
theorem dX6_gather_84 : decode cX6_gather 84 = .ok (.iand, 1) := by decide +kernel
theorem dX6_gather_85 : decode cX6_gather 85 = .ok (.ifCond .eq 8, 3) := by decide +kernel
theorem dX6_gather_88 : decode cX6_gather 88 = .ok (.bipush 32, 2) := by decide +kernel
theorem dX6_gather_90 : decode cX6_gather 90 = .ok (.goto 4, 3) := by decide +kernel
theorem dX6_gather_93 : decode cX6_gather 93 = .ok (.iconst 0, 1) := by decide +kernel
theorem dX6_gather_94 : decode cX6_gather 94 = .ok (.istore 8, 2) := by decide +kernel
theorem dX6_gather_96 : decode cX6_gather 96 = .ok (.aload_n 0, 1) := by decide +kernel
theorem dX6_gather_97 : decode cX6_gather 97 = .ok (.iload 8, 2) := by decide +kernel
theorem dX6_gather_99 : decode cX6_gather 99 = .ok (.aload 4, 2) := by decide +kernel
theorem dX6_gather_101 : decode cX6_gather 101 = .ok (.getfield 58, 3) := by decide +kernel
theorem dX6_gather_104 : decode cX6_gather 104 = .ok (.iconst 1, 1) := by decide +kernel
theorem dX6_gather_105 : decode cX6_gather 105 = .ok (.iload 6, 2) := by decide +kernel
theorem dX6_gather_107 : decode cX6_gather 107 = .ok (.aload_n 3, 1) := by decide +kernel
theorem dX6_gather_108 : decode cX6_gather 108 = .ok (.invokestatic 125, 3) := by decide +kernel
theorem dX6_gather_111 : decode cX6_gather 111 = .ok (.ior, 1) := by decide +kernel
theorem dX6_gather_112 : decode cX6_gather 112 = .ok (.invokevirtual 129, 3) := by decide +kernel
theorem dX6_gather_115 : decode cX6_gather 115 = .ok (.iinc 5 1, 3) := by decide +kernel
theorem dX6_gather_118 : decode cX6_gather 118 = .ok (.goto (-98), 3) := by decide +kernel
theorem dX6_gather_121 : decode cX6_gather 121 = .ok (.iconst 0, 1) := by decide +kernel
theorem dX6_gather_122 : decode cX6_gather 122 = .ok (.istore 5, 2) := by decide +kernel
theorem dX6_gather_124 : decode cX6_gather 124 = .ok (.iload 5, 2) := by decide +kernel
theorem dX6_gather_126 : decode cX6_gather 126 = .ok (.aload_n 0, 1) := by decide +kernel
theorem dX6_gather_127 : decode cX6_gather 127 = .ok (.getfield 15, 3) := by decide +kernel
theorem dX6_gather_130 : decode cX6_gather 130 = .ok (.getfield 133, 3) := by decide +kernel
theorem dX6_gather_133 : decode cX6_gather 133 = .ok (.iload_n 1, 1) := by decide +kernel
theorem dX6_gather_134 : decode cX6_gather 134 = .ok (.invokevirtual 105, 3) := by decide +kernel
theorem dX6_gather_137 : decode cX6_gather 137 = .ok (.if_icmp .ge 56, 3) := by decide +kernel
theorem dX6_gather_140 : decode cX6_gather 140 = .ok (.aload_n 0, 1) := by decide +kernel
theorem dX6_gather_141 : decode cX6_gather 141 = .ok (.getfield 15, 3) := by decide +kernel
theorem dX6_gather_144 : decode cX6_gather 144 = .ok (.getfield 133, 3) := by decide +kernel
theorem dX6_gather_147 : decode cX6_gather 147 = .ok (.iload_n 1, 1) := by decide +kernel
theorem dX6_gather_148 : decode cX6_gather 148 = .ok (.iload 5, 2) := by decide +kernel
theorem dX6_gather_150 : decode cX6_gather 150 = .ok (.invokevirtual 110, 3) := by decide +kernel
theorem dX6_gather_153 : decode cX6_gather 153 = .ok (.istore 6, 2) := by decide +kernel
theorem dX6_gather_155 : decode cX6_gather 155 = .ok (.aload 4, 2) := by decide +kernel
theorem dX6_gather_157 : decode cX6_gather 157 = .ok (.getfield 136, 3) := by decide +kernel
theorem dX6_gather_160 : decode cX6_gather 160 = .ok (.iload 6, 2) := by decide +kernel
theorem dX6_gather_162 : decode cX6_gather 162 = .ok (.invokestatic 113, 3) := by decide +kernel
theorem dX6_gather_165 : decode cX6_gather 165 = .ok (.ishr, 1) := by decide +kernel
theorem dX6_gather_166 : decode cX6_gather 166 = .ok (.iconst 1, 1) := by decide +kernel
theorem dX6_gather_167 : decode cX6_gather 167 = .ok (.iand, 1) := by decide +kernel
theorem dX6_gather_168 : decode cX6_gather 168 = .ok (.ifCond .eq 19, 3) := by decide +kernel
theorem dX6_gather_171 : decode cX6_gather 171 = .ok (.aload_n 0, 1) := by decide +kernel
theorem dX6_gather_172 : decode cX6_gather 172 = .ok (.aload 4, 2) := by decide +kernel
theorem dX6_gather_174 : decode cX6_gather 174 = .ok (.getfield 58, 3) := by decide +kernel
theorem dX6_gather_177 : decode cX6_gather 177 = .ok (.iconst 0, 1) := by decide +kernel
theorem dX6_gather_178 : decode cX6_gather 178 = .ok (.iload 6, 2) := by decide +kernel
theorem dX6_gather_180 : decode cX6_gather 180 = .ok (.aload_n 3, 1) := by decide +kernel
theorem dX6_gather_181 : decode cX6_gather 181 = .ok (.invokestatic 125, 3) := by decide +kernel
theorem dX6_gather_184 : decode cX6_gather 184 = .ok (.invokevirtual 129, 3) := by decide +kernel
theorem dX6_gather_187 : decode cX6_gather 187 = .ok (.iinc 5 1, 3) := by decide +kernel
theorem dX6_gather_190 : decode cX6_gather 190 = .ok (.goto (-66), 3) := by decide +kernel
theorem dX6_gather_193 : decode cX6_gather 193 = .ok (.return_, 1) := by decide +kernel
theorem dX6_addConcerned_0 : decode cX6_addConcerned 0 = .ok (.aload_n 0, 1) := by decide +kernel
theorem dX6_addConcerned_1 : decode cX6_addConcerned 1 = .ok (.getfield 34, 3) := by decide +kernel
theorem dX6_addConcerned_4 : decode cX6_addConcerned 4 = .ok (.aload_n 0, 1) := by decide +kernel
theorem dX6_addConcerned_5 : decode cX6_addConcerned 5 = .ok (.getfield 9, 3) := by decide +kernel
theorem dX6_addConcerned_8 : decode cX6_addConcerned 8 = .ok (.arraylength, 1) := by decide +kernel
theorem dX6_addConcerned_9 : decode cX6_addConcerned 9 = .ok (.if_icmp .ge 23, 3) := by decide +kernel
theorem dX6_addConcerned_12 : decode cX6_addConcerned 12 = .ok (.aload_n 0, 1) := by decide +kernel
theorem dX6_addConcerned_13 : decode cX6_addConcerned 13 = .ok (.getfield 9, 3) := by decide +kernel
theorem dX6_addConcerned_16 : decode cX6_addConcerned 16 = .ok (.aload_n 0, 1) := by decide +kernel
theorem dX6_addConcerned_17 : decode cX6_addConcerned 17 = .ok (.getfield 34, 3) := by decide +kernel
theorem dX6_addConcerned_20 : decode cX6_addConcerned 20 = .ok (.iload_n 1, 1) := by decide +kernel
theorem dX6_addConcerned_21 : decode cX6_addConcerned 21 = .ok (.iastore, 1) := by decide +kernel
theorem dX6_addConcerned_22 : decode cX6_addConcerned 22 = .ok (.aload_n 0, 1) := by decide +kernel
theorem dX6_addConcerned_23 : decode cX6_addConcerned 23 = .ok (.dup, 1) := by decide +kernel
theorem dX6_addConcerned_24 : decode cX6_addConcerned 24 = .ok (.getfield 34, 3) := by decide +kernel
theorem dX6_addConcerned_27 : decode cX6_addConcerned 27 = .ok (.iconst 1, 1) := by decide +kernel
theorem dX6_addConcerned_28 : decode cX6_addConcerned 28 = .ok (.iadd, 1) := by decide +kernel
theorem dX6_addConcerned_29 : decode cX6_addConcerned 29 = .ok (.putfield 34, 3) := by decide +kernel
theorem dX6_addConcerned_32 : decode cX6_addConcerned 32 = .ok (.return_, 1) := by decide +kernel
set_option maxRecDepth 20000 in
theorem ggX6_takers_X5_labelOf : GoodIn wsX6_takers wsX5_labelOf := goodIn_r _ [4] (by decide +kernel) (by decide +kernel)
set_option maxRecDepth 20000 in
theorem gX6_takers_X5_labelOf : GoodIn wsX6_takers (va_wsS RX6 113 yX5_labelOf wsX5_labelOf) := goodIn_app (goodIn_of _ (by decide +kernel)) ggX6_takers_X5_labelOf
set_option maxRecDepth 20000 in
theorem ggX6_takers_X5_otherOf : GoodIn wsX6_takers wsX5_otherOf := goodIn_r _ [7] (by decide +kernel) (by decide +kernel)
set_option maxRecDepth 20000 in
theorem gX6_takers_X5_otherOf : GoodIn wsX6_takers (va_wsS RX6 139 yX5_otherOf wsX5_otherOf) := goodIn_app (goodIn_of _ (by decide +kernel)) ggX6_takers_X5_otherOf
set_option maxRecDepth 20000 in
theorem ggX6_takers_X7_takes : GoodIn wsX6_takers wsX7_takes := goodIn_r _ [12, 13, 14, 15, 16, 17, 18, 19] (by decide +kernel) (by decide +kernel)
set_option maxRecDepth 20000 in
theorem gX6_takers_X7_takes : GoodIn wsX6_takers (wsV RX6 142 RX7 yX7_takes wsX7_takes) := goodIn_app (goodIn_of _ (by decide +kernel)) ggX6_takers_X7_takes
theorem dX6_takers_0 : decode cX6_takers 0 = .ok (.iconst 0, 1) := by decide +kernel
theorem dX6_takers_1 : decode cX6_takers 1 = .ok (.istore 4, 2) := by decide +kernel
theorem dX6_takers_3 : decode cX6_takers 3 = .ok (.iconst 0, 1) := by decide +kernel
theorem dX6_takers_4 : decode cX6_takers 4 = .ok (.istore 5, 2) := by decide +kernel
theorem dX6_takers_6 : decode cX6_takers 6 = .ok (.iload 5, 2) := by decide +kernel
theorem dX6_takers_8 : decode cX6_takers 8 = .ok (.aload_n 0, 1) := by decide +kernel
theorem dX6_takers_9 : decode cX6_takers 9 = .ok (.arraylength, 1) := by decide +kernel
theorem dX6_takers_10 : decode cX6_takers 10 = .ok (.if_icmp .ge 38, 3) := by decide +kernel
theorem dX6_takers_13 : decode cX6_takers 13 = .ok (.aload_n 0, 1) := by decide +kernel
theorem dX6_takers_14 : decode cX6_takers 14 = .ok (.iload 5, 2) := by decide +kernel
theorem dX6_takers_16 : decode cX6_takers 16 = .ok (.aaload, 1) := by decide +kernel
theorem dX6_takers_17 : decode cX6_takers 17 = .ok (.iload_n 1, 1) := by decide +kernel
theorem dX6_takers_18 : decode cX6_takers 18 = .ok (.iload_n 2, 1) := by decide +kernel
theorem dX6_takers_19 : decode cX6_takers 19 = .ok (.invokestatic 113, 3) := by decide +kernel
theorem dX6_takers_22 : decode cX6_takers 22 = .ok (.iload_n 2, 1) := by decide +kernel
theorem dX6_takers_23 : decode cX6_takers 23 = .ok (.invokestatic 139, 3) := by decide +kernel
theorem dX6_takers_26 : decode cX6_takers 26 = .ok (.aload_n 3, 1) := by decide +kernel
theorem dX6_takers_27 : decode cX6_takers 27 = .ok (.invokevirtual 142, 3) := by decide +kernel
theorem dX6_takers_30 : decode cX6_takers 30 = .ok (.ifCond .eq 12, 3) := by decide +kernel
theorem dX6_takers_33 : decode cX6_takers 33 = .ok (.iload 4, 2) := by decide +kernel
theorem dX6_takers_35 : decode cX6_takers 35 = .ok (.iconst 1, 1) := by decide +kernel
theorem dX6_takers_36 : decode cX6_takers 36 = .ok (.iload 5, 2) := by decide +kernel
theorem dX6_takers_38 : decode cX6_takers 38 = .ok (.ishl, 1) := by decide +kernel
theorem dX6_takers_39 : decode cX6_takers 39 = .ok (.ior, 1) := by decide +kernel
theorem dX6_takers_40 : decode cX6_takers 40 = .ok (.istore 4, 2) := by decide +kernel
theorem dX6_takers_42 : decode cX6_takers 42 = .ok (.iinc 5 1, 3) := by decide +kernel
theorem dX6_takers_45 : decode cX6_takers 45 = .ok (.goto (-39), 3) := by decide +kernel
theorem dX6_takers_48 : decode cX6_takers 48 = .ok (.iload 4, 2) := by decide +kernel
theorem dX6_takers_50 : decode cX6_takers 50 = .ok (.ireturn, 1) := by decide +kernel
theorem dX7_init_0 : decode cX7_init 0 = .ok (.aload_n 0, 1) := by decide +kernel
theorem dX7_init_1 : decode cX7_init 1 = .ok (.invokespecial 3, 3) := by decide +kernel
theorem dX7_init_4 : decode cX7_init 4 = .ok (.aload_n 0, 1) := by decide +kernel
theorem dX7_init_5 : decode cX7_init 5 = .ok (.iload_n 1, 1) := by decide +kernel
theorem dX7_init_6 : decode cX7_init 6 = .ok (.putfield 9, 3) := by decide +kernel
theorem dX7_init_9 : decode cX7_init 9 = .ok (.aload_n 0, 1) := by decide +kernel
theorem dX7_init_10 : decode cX7_init 10 = .ok (.iload_n 2, 1) := by decide +kernel
theorem dX7_init_11 : decode cX7_init 11 = .ok (.putfield 15, 3) := by decide +kernel
theorem dX7_init_14 : decode cX7_init 14 = .ok (.aload_n 0, 1) := by decide +kernel
theorem dX7_init_15 : decode cX7_init 15 = .ok (.iload_n 3, 1) := by decide +kernel
theorem dX7_init_16 : decode cX7_init 16 = .ok (.putfield 19, 3) := by decide +kernel
theorem dX7_init_19 : decode cX7_init 19 = .ok (.aload_n 0, 1) := by decide +kernel
theorem dX7_init_20 : decode cX7_init 20 = .ok (.iload 4, 2) := by decide +kernel
theorem dX7_init_22 : decode cX7_init 22 = .ok (.putfield 22, 3) := by decide +kernel
theorem dX7_init_25 : decode cX7_init 25 = .ok (.return_, 1) := by decide +kernel
theorem dX7_slotOf_0 : decode cX7_slotOf 0 = .ok (.iconst 0, 1) := by decide +kernel
theorem dX7_slotOf_1 : decode cX7_slotOf 1 = .ok (.istore_n 2, 1) := by decide +kernel
theorem dX7_slotOf_2 : decode cX7_slotOf 2 = .ok (.iload_n 2, 1) := by decide +kernel
theorem dX7_slotOf_3 : decode cX7_slotOf 3 = .ok (.aload_n 0, 1) := by decide +kernel
theorem dX7_slotOf_4 : decode cX7_slotOf 4 = .ok (.arraylength, 1) := by decide +kernel
theorem dX7_slotOf_5 : decode cX7_slotOf 5 = .ok (.if_icmp .ge 21, 3) := by decide +kernel
theorem dX7_slotOf_8 : decode cX7_slotOf 8 = .ok (.aload_n 0, 1) := by decide +kernel
theorem dX7_slotOf_9 : decode cX7_slotOf 9 = .ok (.iload_n 2, 1) := by decide +kernel
theorem dX7_slotOf_10 : decode cX7_slotOf 10 = .ok (.aaload, 1) := by decide +kernel
theorem dX7_slotOf_11 : decode cX7_slotOf 11 = .ok (.getfield 9, 3) := by decide +kernel
theorem dX7_slotOf_14 : decode cX7_slotOf 14 = .ok (.iload_n 1, 1) := by decide +kernel
theorem dX7_slotOf_15 : decode cX7_slotOf 15 = .ok (.if_icmp .ne 5, 3) := by decide +kernel
theorem dX7_slotOf_18 : decode cX7_slotOf 18 = .ok (.iload_n 2, 1) := by decide +kernel
theorem dX7_slotOf_19 : decode cX7_slotOf 19 = .ok (.ireturn, 1) := by decide +kernel
theorem dX7_slotOf_20 : decode cX7_slotOf 20 = .ok (.iinc 2 1, 3) := by decide +kernel
theorem dX7_slotOf_23 : decode cX7_slotOf 23 = .ok (.goto (-21), 3) := by decide +kernel
theorem dX7_slotOf_26 : decode cX7_slotOf 26 = .ok (.iconst (-1), 1) := by decide +kernel
theorem dX7_slotOf_27 : decode cX7_slotOf 27 = .ok (.ireturn, 1) := by decide +kernel
set_option maxRecDepth 20000 in
theorem ggX7_union_X7_slotOf : GoodIn wsX7_union wsX7_slotOf := goodIn_r _ [6, 1, 7, 8, 9, 10] (by decide +kernel) (by decide +kernel)
set_option maxRecDepth 20000 in
theorem gX7_union_X7_slotOf : GoodIn wsX7_union (va_wsS RX7 25 yX7_slotOf wsX7_slotOf) := goodIn_app (goodIn_of _ (by decide +kernel)) ggX7_union_X7_slotOf
theorem dX7_union_0 : decode cX7_union 0 = .ok (.aload_n 0, 1) := by decide +kernel
theorem dX7_union_1 : decode cX7_union 1 = .ok (.arraylength, 1) := by decide +kernel
theorem dX7_union_2 : decode cX7_union 2 = .ok (.istore_n 2, 1) := by decide +kernel
theorem dX7_union_3 : decode cX7_union 3 = .ok (.iconst 0, 1) := by decide +kernel
theorem dX7_union_4 : decode cX7_union 4 = .ok (.istore_n 3, 1) := by decide +kernel
theorem dX7_union_5 : decode cX7_union 5 = .ok (.iload_n 3, 1) := by decide +kernel
theorem dX7_union_6 : decode cX7_union 6 = .ok (.aload_n 1, 1) := by decide +kernel
theorem dX7_union_7 : decode cX7_union 7 = .ok (.arraylength, 1) := by decide +kernel
theorem dX7_union_8 : decode cX7_union 8 = .ok (.if_icmp .ge 30, 3) := by decide +kernel
theorem dX7_union_11 : decode cX7_union 11 = .ok (.iload_n 2, 1) := by decide +kernel
theorem dX7_union_12 : decode cX7_union 12 = .ok (.aload_n 0, 1) := by decide +kernel
theorem dX7_union_13 : decode cX7_union 13 = .ok (.aload_n 1, 1) := by decide +kernel
theorem dX7_union_14 : decode cX7_union 14 = .ok (.iload_n 3, 1) := by decide +kernel
theorem dX7_union_15 : decode cX7_union 15 = .ok (.aaload, 1) := by decide +kernel
theorem dX7_union_16 : decode cX7_union 16 = .ok (.getfield 9, 3) := by decide +kernel
theorem dX7_union_19 : decode cX7_union 19 = .ok (.invokestatic 25, 3) := by decide +kernel
theorem dX7_union_22 : decode cX7_union 22 = .ok (.ifCond .ge 7, 3) := by decide +kernel
theorem dX7_union_25 : decode cX7_union 25 = .ok (.iconst 1, 1) := by decide +kernel
theorem dX7_union_26 : decode cX7_union 26 = .ok (.goto 4, 3) := by decide +kernel
theorem dX7_union_29 : decode cX7_union 29 = .ok (.iconst 0, 1) := by decide +kernel
theorem dX7_union_30 : decode cX7_union 30 = .ok (.iadd, 1) := by decide +kernel
theorem dX7_union_31 : decode cX7_union 31 = .ok (.istore_n 2, 1) := by decide +kernel
theorem dX7_union_32 : decode cX7_union 32 = .ok (.iinc 3 1, 3) := by decide +kernel
theorem dX7_union_35 : decode cX7_union 35 = .ok (.goto (-30), 3) := by decide +kernel
theorem dX7_union_38 : decode cX7_union 38 = .ok (.iload_n 2, 1) := by decide +kernel
theorem dX7_union_39 : decode cX7_union 39 = .ok (.anewarray 10, 3) := by decide +kernel
theorem dX7_union_42 : decode cX7_union 42 = .ok (.astore_n 3, 1) := by decide +kernel
theorem dX7_union_43 : decode cX7_union 43 = .ok (.iconst 0, 1) := by decide +kernel
theorem dX7_union_44 : decode cX7_union 44 = .ok (.istore 4, 2) := by decide +kernel
theorem dX7_union_46 : decode cX7_union 46 = .ok (.iload 4, 2) := by decide +kernel
theorem dX7_union_48 : decode cX7_union 48 = .ok (.aload_n 0, 1) := by decide +kernel
theorem dX7_union_49 : decode cX7_union 49 = .ok (.arraylength, 1) := by decide +kernel
theorem dX7_union_50 : decode cX7_union 50 = .ok (.if_icmp .ge 17, 3) := by decide +kernel
theorem dX7_union_53 : decode cX7_union 53 = .ok (.aload_n 3, 1) := by decide +kernel
theorem dX7_union_54 : decode cX7_union 54 = .ok (.iload 4, 2) := by decide +kernel
theorem dX7_union_56 : decode cX7_union 56 = .ok (.aload_n 0, 1) := by decide +kernel
theorem dX7_union_57 : decode cX7_union 57 = .ok (.iload 4, 2) := by decide +kernel
theorem dX7_union_59 : decode cX7_union 59 = .ok (.aaload, 1) := by decide +kernel
theorem dX7_union_60 : decode cX7_union 60 = .ok (.aastore, 1) := by decide +kernel
theorem dX7_union_61 : decode cX7_union 61 = .ok (.iinc 4 1, 3) := by decide +kernel
theorem dX7_union_64 : decode cX7_union 64 = .ok (.goto (-18), 3) := by decide +kernel
theorem dX7_union_67 : decode cX7_union 67 = .ok (.aload_n 0, 1) := by decide +kernel
theorem dX7_union_68 : decode cX7_union 68 = .ok (.arraylength, 1) := by decide +kernel
theorem dX7_union_69 : decode cX7_union 69 = .ok (.istore 4, 2) := by decide +kernel
theorem dX7_union_71 : decode cX7_union 71 = .ok (.iconst 0, 1) := by decide +kernel
theorem dX7_union_72 : decode cX7_union 72 = .ok (.istore 5, 2) := by decide +kernel
theorem dX7_union_74 : decode cX7_union 74 = .ok (.iload 5, 2) := by decide +kernel
theorem dX7_union_76 : decode cX7_union 76 = .ok (.aload_n 1, 1) := by decide +kernel
theorem dX7_union_77 : decode cX7_union 77 = .ok (.arraylength, 1) := by decide +kernel
theorem dX7_union_78 : decode cX7_union 78 = .ok (.if_icmp .ge 40, 3) := by decide +kernel
theorem dX7_union_81 : decode cX7_union 81 = .ok (.aload_n 0, 1) := by decide +kernel
theorem dX7_union_82 : decode cX7_union 82 = .ok (.aload_n 1, 1) := by decide +kernel
theorem dX7_union_83 : decode cX7_union 83 = .ok (.iload 5, 2) := by decide +kernel
theorem dX7_union_85 : decode cX7_union 85 = .ok (.aaload, 1) := by decide +kernel
theorem dX7_union_86 : decode cX7_union 86 = .ok (.getfield 9, 3) := by decide +kernel
theorem dX7_union_89 : decode cX7_union 89 = .ok (.invokestatic 25, 3) := by decide +kernel
theorem dX7_union_92 : decode cX7_union 92 = .ok (.ifCond .ge 20, 3) := by decide +kernel
theorem dX7_union_95 : decode cX7_union 95 = .ok (.iload 4, 2) := by decide +kernel
theorem dX7_union_97 : decode cX7_union 97 = .ok (.iload_n 2, 1) := by decide +kernel
theorem dX7_union_98 : decode cX7_union 98 = .ok (.if_icmp .ge 14, 3) := by decide +kernel
theorem dX7_union_101 : decode cX7_union 101 = .ok (.aload_n 3, 1) := by decide +kernel
theorem dX7_union_102 : decode cX7_union 102 = .ok (.iload 4, 2) := by decide +kernel
theorem dX7_union_104 : decode cX7_union 104 = .ok (.aload_n 1, 1) := by decide +kernel
theorem dX7_union_105 : decode cX7_union 105 = .ok (.iload 5, 2) := by decide +kernel
theorem dX7_union_107 : decode cX7_union 107 = .ok (.aaload, 1) := by decide +kernel
theorem dX7_union_108 : decode cX7_union 108 = .ok (.aastore, 1) := by decide +kernel
theorem dX7_union_109 : decode cX7_union 109 = .ok (.iinc 4 1, 3) := by decide +kernel
theorem dX7_union_112 : decode cX7_union 112 = .ok (.iinc 5 1, 3) := by decide +kernel
theorem dX7_union_115 : decode cX7_union 115 = .ok (.goto (-41), 3) := by decide +kernel
theorem dX7_union_118 : decode cX7_union 118 = .ok (.aload_n 3, 1) := by decide +kernel
theorem dX7_union_119 : decode cX7_union 119 = .ok (.areturn, 1) := by decide +kernel
theorem dX7_takes_0 : decode cX7_takes 0 = .ok (.aload_n 0, 1) := by decide +kernel
theorem dX7_takes_1 : decode cX7_takes 1 = .ok (.getfield 15, 3) := by decide +kernel
theorem dX7_takes_4 : decode cX7_takes 4 = .ok (.iload_n 1, 1) := by decide +kernel
theorem dX7_takes_5 : decode cX7_takes 5 = .ok (.if_icmp .ne 37, 3) := by decide +kernel
theorem dX7_takes_8 : decode cX7_takes 8 = .ok (.aload_n 0, 1) := by decide +kernel
theorem dX7_takes_9 : decode cX7_takes 9 = .ok (.getfield 19, 3) := by decide +kernel
theorem dX7_takes_12 : decode cX7_takes 12 = .ok (.iload_n 2, 1) := by decide +kernel
theorem dX7_takes_13 : decode cX7_takes 13 = .ok (.if_icmp .ne 29, 3) := by decide +kernel
theorem dX7_takes_16 : decode cX7_takes 16 = .ok (.aload_n 0, 1) := by decide +kernel
theorem dX7_takes_17 : decode cX7_takes 17 = .ok (.getfield 22, 3) := by decide +kernel
theorem dX7_takes_20 : decode cX7_takes 20 = .ok (.iconst (-1), 1) := by decide +kernel
theorem dX7_takes_21 : decode cX7_takes 21 = .ok (.if_icmp .eq 17, 3) := by decide +kernel
theorem dX7_takes_24 : decode cX7_takes 24 = .ok (.aload 4, 2) := by decide +kernel
theorem dX7_takes_26 : decode cX7_takes 26 = .ok (.aload_n 0, 1) := by decide +kernel
theorem dX7_takes_27 : decode cX7_takes 27 = .ok (.getfield 22, 3) := by decide +kernel
theorem dX7_takes_30 : decode cX7_takes 30 = .ok (.iaload, 1) := by decide +kernel
theorem dX7_takes_31 : decode cX7_takes 31 = .ok (.iload_n 3, 1) := by decide +kernel
theorem dX7_takes_32 : decode cX7_takes 32 = .ok (.ishr, 1) := by decide +kernel
theorem dX7_takes_33 : decode cX7_takes 33 = .ok (.iconst 1, 1) := by decide +kernel
theorem dX7_takes_34 : decode cX7_takes 34 = .ok (.iand, 1) := by decide +kernel
theorem dX7_takes_35 : decode cX7_takes 35 = .ok (.ifCond .eq 7, 3) := by decide +kernel
theorem dX7_takes_38 : decode cX7_takes 38 = .ok (.iconst 1, 1) := by decide +kernel
theorem dX7_takes_39 : decode cX7_takes 39 = .ok (.goto 4, 3) := by decide +kernel
theorem dX7_takes_42 : decode cX7_takes 42 = .ok (.iconst 0, 1) := by decide +kernel
theorem dX7_takes_43 : decode cX7_takes 43 = .ok (.ireturn, 1) := by decide +kernel
theorem dX8_init_0 : decode cX8_init 0 = .ok (.aload_n 0, 1) := by decide +kernel
theorem dX8_init_1 : decode cX8_init 1 = .ok (.invokespecial 3, 3) := by decide +kernel
theorem dX8_init_4 : decode cX8_init 4 = .ok (.aload_n 0, 1) := by decide +kernel
theorem dX8_init_5 : decode cX8_init 5 = .ok (.iconst (-1), 1) := by decide +kernel
theorem dX8_init_6 : decode cX8_init 6 = .ok (.putfield 9, 3) := by decide +kernel
theorem dX8_init_9 : decode cX8_init 9 = .ok (.return_, 1) := by decide +kernel
theorem dX8_becomeNone_0 : decode cX8_becomeNone 0 = .ok (.aload_n 0, 1) := by decide +kernel
theorem dX8_becomeNone_1 : decode cX8_becomeNone 1 = .ok (.iconst (-1), 1) := by decide +kernel
theorem dX8_becomeNone_2 : decode cX8_becomeNone 2 = .ok (.putfield 9, 3) := by decide +kernel
theorem dX8_becomeNone_5 : decode cX8_becomeNone 5 = .ok (.aload_n 0, 1) := by decide +kernel
theorem dX8_becomeNone_6 : decode cX8_becomeNone 6 = .ok (.iconst 0, 1) := by decide +kernel
theorem dX8_becomeNone_7 : decode cX8_becomeNone 7 = .ok (.putfield 15, 3) := by decide +kernel
theorem dX8_becomeNone_10 : decode cX8_becomeNone 10 = .ok (.aload_n 0, 1) := by decide +kernel
theorem dX8_becomeNone_11 : decode cX8_becomeNone 11 = .ok (.iconst 0, 1) := by decide +kernel
theorem dX8_becomeNone_12 : decode cX8_becomeNone 12 = .ok (.putfield 18, 3) := by decide +kernel
theorem dX8_becomeNone_15 : decode cX8_becomeNone 15 = .ok (.aload_n 0, 1) := by decide +kernel
theorem dX8_becomeNone_16 : decode cX8_becomeNone 16 = .ok (.aconst_null, 1) := by decide +kernel
theorem dX8_becomeNone_17 : decode cX8_becomeNone 17 = .ok (.putfield 21, 3) := by decide +kernel
theorem dX8_becomeNone_20 : decode cX8_becomeNone 20 = .ok (.aload_n 0, 1) := by decide +kernel
theorem dX8_becomeNone_21 : decode cX8_becomeNone 21 = .ok (.iconst 0, 1) := by decide +kernel
theorem dX8_becomeNone_22 : decode cX8_becomeNone 22 = .ok (.putfield 25, 3) := by decide +kernel
theorem dX8_becomeNone_25 : decode cX8_becomeNone 25 = .ok (.aload_n 0, 1) := by decide +kernel
theorem dX8_becomeNone_26 : decode cX8_becomeNone 26 = .ok (.iconst 0, 1) := by decide +kernel
theorem dX8_becomeNone_27 : decode cX8_becomeNone 27 = .ok (.putfield 28, 3) := by decide +kernel
theorem dX8_becomeNone_30 : decode cX8_becomeNone 30 = .ok (.aload_n 0, 1) := by decide +kernel
theorem dX8_becomeNone_31 : decode cX8_becomeNone 31 = .ok (.iconst 0, 1) := by decide +kernel
theorem dX8_becomeNone_32 : decode cX8_becomeNone 32 = .ok (.putfield 32, 3) := by decide +kernel
theorem dX8_becomeNone_35 : decode cX8_becomeNone 35 = .ok (.return_, 1) := by decide +kernel
set_option maxRecDepth 20000 in
theorem ggX8_becomeBare_X8_becomeNone : GoodIn wsX8_becomeBare wsX8_becomeNone := goodIn_r _ [11, 1, 12, 13, 2, 3, 4, 6, 14, 15, 16, 17, 18, 19, 20] (by decide +kernel) (by decide +kernel)
set_option maxRecDepth 20000 in
theorem gX8_becomeBare_X8_becomeNone : GoodIn wsX8_becomeBare (wsV RX8 35 RX8 yX8_becomeNone wsX8_becomeNone) := goodIn_app (goodIn_of _ (by decide +kernel)) ggX8_becomeBare_X8_becomeNone
theorem dX8_becomeBare_0 : decode cX8_becomeBare 0 = .ok (.aload_n 0, 1) := by decide +kernel
theorem dX8_becomeBare_1 : decode cX8_becomeBare 1 = .ok (.invokevirtual 35, 3) := by decide +kernel
theorem dX8_becomeBare_4 : decode cX8_becomeBare 4 = .ok (.aload_n 0, 1) := by decide +kernel
theorem dX8_becomeBare_5 : decode cX8_becomeBare 5 = .ok (.iconst 0, 1) := by decide +kernel
theorem dX8_becomeBare_6 : decode cX8_becomeBare 6 = .ok (.putfield 9, 3) := by decide +kernel
theorem dX8_becomeBare_9 : decode cX8_becomeBare 9 = .ok (.aload_n 0, 1) := by decide +kernel
theorem dX8_becomeBare_10 : decode cX8_becomeBare 10 = .ok (.aload_n 1, 1) := by decide +kernel
theorem dX8_becomeBare_11 : decode cX8_becomeBare 11 = .ok (.putfield 21, 3) := by decide +kernel
theorem dX8_becomeBare_14 : decode cX8_becomeBare 14 = .ok (.aload_n 0, 1) := by decide +kernel
theorem dX8_becomeBare_15 : decode cX8_becomeBare 15 = .ok (.iload_n 2, 1) := by decide +kernel
theorem dX8_becomeBare_16 : decode cX8_becomeBare 16 = .ok (.putfield 25, 3) := by decide +kernel
theorem dX8_becomeBare_19 : decode cX8_becomeBare 19 = .ok (.aload_n 0, 1) := by decide +kernel
theorem dX8_becomeBare_20 : decode cX8_becomeBare 20 = .ok (.iload_n 3, 1) := by decide +kernel
theorem dX8_becomeBare_21 : decode cX8_becomeBare 21 = .ok (.putfield 28, 3) := by decide +kernel
theorem dX8_becomeBare_24 : decode cX8_becomeBare 24 = .ok (.aload_n 0, 1) := by decide +kernel
theorem dX8_becomeBare_25 : decode cX8_becomeBare 25 = .ok (.aload_n 1, 1) := by decide +kernel
theorem dX8_becomeBare_26 : decode cX8_becomeBare 26 = .ok (.getfield 38, 3) := by decide +kernel
theorem dX8_becomeBare_29 : decode cX8_becomeBare 29 = .ok (.putfield 32, 3) := by decide +kernel
theorem dX8_becomeBare_32 : decode cX8_becomeBare 32 = .ok (.return_, 1) := by decide +kernel
set_option maxRecDepth 20000 in
theorem ggX8_becomePair_X8_becomeNone : GoodIn wsX8_becomePair wsX8_becomeNone := goodIn_r _ [9, 1, 2, 3, 10, 11, 12, 4, 13, 14, 15, 16, 17, 18, 19] (by decide +kernel) (by decide +kernel)
set_option maxRecDepth 20000 in
theorem gX8_becomePair_X8_becomeNone : GoodIn wsX8_becomePair (wsV RX8 35 RX8 yX8_becomeNone wsX8_becomeNone) := goodIn_app (goodIn_of _ (by decide +kernel)) ggX8_becomePair_X8_becomeNone
theorem dX8_becomePair_0 : decode cX8_becomePair 0 = .ok (.aload_n 0, 1) := by decide +kernel
theorem dX8_becomePair_1 : decode cX8_becomePair 1 = .ok (.invokevirtual 35, 3) := by decide +kernel
theorem dX8_becomePair_4 : decode cX8_becomePair 4 = .ok (.aload_n 0, 1) := by decide +kernel
theorem dX8_becomePair_5 : decode cX8_becomePair 5 = .ok (.iload_n 1, 1) := by decide +kernel
theorem dX8_becomePair_6 : decode cX8_becomePair 6 = .ok (.putfield 9, 3) := by decide +kernel
theorem dX8_becomePair_9 : decode cX8_becomePair 9 = .ok (.aload_n 0, 1) := by decide +kernel
theorem dX8_becomePair_10 : decode cX8_becomePair 10 = .ok (.iload_n 2, 1) := by decide +kernel
theorem dX8_becomePair_11 : decode cX8_becomePair 11 = .ok (.putfield 15, 3) := by decide +kernel
theorem dX8_becomePair_14 : decode cX8_becomePair 14 = .ok (.aload_n 0, 1) := by decide +kernel
theorem dX8_becomePair_15 : decode cX8_becomePair 15 = .ok (.iload_n 3, 1) := by decide +kernel
theorem dX8_becomePair_16 : decode cX8_becomePair 16 = .ok (.putfield 18, 3) := by decide +kernel
theorem dX8_becomePair_19 : decode cX8_becomePair 19 = .ok (.aload_n 0, 1) := by decide +kernel
theorem dX8_becomePair_20 : decode cX8_becomePair 20 = .ok (.iconst 1, 1) := by decide +kernel
theorem dX8_becomePair_21 : decode cX8_becomePair 21 = .ok (.iload_n 2, 1) := by decide +kernel
theorem dX8_becomePair_22 : decode cX8_becomePair 22 = .ok (.ishl, 1) := by decide +kernel
theorem dX8_becomePair_23 : decode cX8_becomePair 23 = .ok (.iconst 1, 1) := by decide +kernel
theorem dX8_becomePair_24 : decode cX8_becomePair 24 = .ok (.iload_n 3, 1) := by decide +kernel
theorem dX8_becomePair_25 : decode cX8_becomePair 25 = .ok (.ishl, 1) := by decide +kernel
theorem dX8_becomePair_26 : decode cX8_becomePair 26 = .ok (.ior, 1) := by decide +kernel
theorem dX8_becomePair_27 : decode cX8_becomePair 27 = .ok (.putfield 32, 3) := by decide +kernel
theorem dX8_becomePair_30 : decode cX8_becomePair 30 = .ok (.return_, 1) := by decide +kernel
set_option maxRecDepth 20000 in
theorem ggX8_becomeNot_X8_becomeNone : GoodIn wsX8_becomeNot wsX8_becomeNone := goodIn_r _ [8, 1, 2, 9, 10, 11, 12, 3, 13, 14, 15, 16, 17, 18, 19] (by decide +kernel) (by decide +kernel)
set_option maxRecDepth 20000 in
theorem gX8_becomeNot_X8_becomeNone : GoodIn wsX8_becomeNot (wsV RX8 35 RX8 yX8_becomeNone wsX8_becomeNone) := goodIn_app (goodIn_of _ (by decide +kernel)) ggX8_becomeNot_X8_becomeNone
theorem dX8_becomeNot_0 : decode cX8_becomeNot 0 = .ok (.aload_n 0, 1) := by decide +kernel
theorem dX8_becomeNot_1 : decode cX8_becomeNot 1 = .ok (.invokevirtual 35, 3) := by decide +kernel
theorem dX8_becomeNot_4 : decode cX8_becomeNot 4 = .ok (.aload_n 0, 1) := by decide +kernel
theorem dX8_becomeNot_5 : decode cX8_becomeNot 5 = .ok (.iconst 3, 1) := by decide +kernel
theorem dX8_becomeNot_6 : decode cX8_becomeNot 6 = .ok (.putfield 9, 3) := by decide +kernel
theorem dX8_becomeNot_9 : decode cX8_becomeNot 9 = .ok (.aload_n 0, 1) := by decide +kernel
theorem dX8_becomeNot_10 : decode cX8_becomeNot 10 = .ok (.iload_n 1, 1) := by decide +kernel
theorem dX8_becomeNot_11 : decode cX8_becomeNot 11 = .ok (.putfield 15, 3) := by decide +kernel
theorem dX8_becomeNot_14 : decode cX8_becomeNot 14 = .ok (.aload_n 0, 1) := by decide +kernel
theorem dX8_becomeNot_15 : decode cX8_becomeNot 15 = .ok (.iconst 1, 1) := by decide +kernel
theorem dX8_becomeNot_16 : decode cX8_becomeNot 16 = .ok (.iload_n 1, 1) := by decide +kernel
theorem dX8_becomeNot_17 : decode cX8_becomeNot 17 = .ok (.ishl, 1) := by decide +kernel
theorem dX8_becomeNot_18 : decode cX8_becomeNot 18 = .ok (.putfield 32, 3) := by decide +kernel
theorem dX8_becomeNot_21 : decode cX8_becomeNot 21 = .ok (.return_, 1) := by decide +kernel
set_option maxRecDepth 20000 in
theorem ggX8_becomeAmong_X8_becomeNone : GoodIn wsX8_becomeAmong wsX8_becomeNone := goodIn_r _ [7, 1, 2, 8, 9, 10, 11, 12, 13, 14, 15, 16, 17, 18, 19] (by decide +kernel) (by decide +kernel)
set_option maxRecDepth 20000 in
theorem gX8_becomeAmong_X8_becomeNone : GoodIn wsX8_becomeAmong (wsV RX8 35 RX8 yX8_becomeNone wsX8_becomeNone) := goodIn_app (goodIn_of _ (by decide +kernel)) ggX8_becomeAmong_X8_becomeNone
theorem dX8_becomeAmong_0 : decode cX8_becomeAmong 0 = .ok (.aload_n 0, 1) := by decide +kernel
theorem dX8_becomeAmong_1 : decode cX8_becomeAmong 1 = .ok (.invokevirtual 35, 3) := by decide +kernel
theorem dX8_becomeAmong_4 : decode cX8_becomeAmong 4 = .ok (.aload_n 0, 1) := by decide +kernel
theorem dX8_becomeAmong_5 : decode cX8_becomeAmong 5 = .ok (.iconst 4, 1) := by decide +kernel
theorem dX8_becomeAmong_6 : decode cX8_becomeAmong 6 = .ok (.putfield 9, 3) := by decide +kernel
theorem dX8_becomeAmong_9 : decode cX8_becomeAmong 9 = .ok (.aload_n 0, 1) := by decide +kernel
theorem dX8_becomeAmong_10 : decode cX8_becomeAmong 10 = .ok (.iload_n 1, 1) := by decide +kernel
theorem dX8_becomeAmong_11 : decode cX8_becomeAmong 11 = .ok (.putfield 15, 3) := by decide +kernel
theorem dX8_becomeAmong_14 : decode cX8_becomeAmong 14 = .ok (.return_, 1) := by decide +kernel
theorem dX9_init_0 : decode cX9_init 0 = .ok (.aload_n 0, 1) := by decide +kernel
theorem dX9_init_1 : decode cX9_init 1 = .ok (.invokespecial 3, 3) := by decide +kernel
theorem dX9_init_4 : decode cX9_init 4 = .ok (.aload_n 0, 1) := by decide +kernel
theorem dX9_init_5 : decode cX9_init 5 = .ok (.bipush 16, 2) := by decide +kernel
theorem dX9_init_7 : decode cX9_init 7 = .ok (.newarray .int, 2) := by decide +kernel
theorem dX9_init_9 : decode cX9_init 9 = .ok (.putfield 9, 3) := by decide +kernel
theorem dX9_init_12 : decode cX9_init 12 = .ok (.aload_n 0, 1) := by decide +kernel
theorem dX9_init_13 : decode cX9_init 13 = .ok (.bipush 16, 2) := by decide +kernel
theorem dX9_init_15 : decode cX9_init 15 = .ok (.newarray .int, 2) := by decide +kernel
theorem dX9_init_17 : decode cX9_init 17 = .ok (.putfield 15, 3) := by decide +kernel
theorem dX9_init_20 : decode cX9_init 20 = .ok (.aload_n 0, 1) := by decide +kernel
theorem dX9_init_21 : decode cX9_init 21 = .ok (.iconst (-1), 1) := by decide +kernel
theorem dX9_init_22 : decode cX9_init 22 = .ok (.putfield 18, 3) := by decide +kernel
theorem dX9_init_25 : decode cX9_init 25 = .ok (.aload_n 0, 1) := by decide +kernel
theorem dX9_init_26 : decode cX9_init 26 = .ok (.aload_n 1, 1) := by decide +kernel
theorem dX9_init_27 : decode cX9_init 27 = .ok (.putfield 22, 3) := by decide +kernel
theorem dX9_init_30 : decode cX9_init 30 = .ok (.aload_n 0, 1) := by decide +kernel
theorem dX9_init_31 : decode cX9_init 31 = .ok (.aload_n 2, 1) := by decide +kernel
theorem dX9_init_32 : decode cX9_init 32 = .ok (.putfield 26, 3) := by decide +kernel
theorem dX9_init_35 : decode cX9_init 35 = .ok (.aload_n 0, 1) := by decide +kernel
theorem dX9_init_36 : decode cX9_init 36 = .ok (.iconst 1, 1) := by decide +kernel
theorem dX9_init_37 : decode cX9_init 37 = .ok (.putfield 30, 3) := by decide +kernel
theorem dX9_init_40 : decode cX9_init 40 = .ok (.aload_n 0, 1) := by decide +kernel
theorem dX9_init_41 : decode cX9_init 41 = .ok (.iconst 1, 1) := by decide +kernel
theorem dX9_init_42 : decode cX9_init 42 = .ok (.putfield 34, 3) := by decide +kernel
theorem dX9_init_45 : decode cX9_init 45 = .ok (.return_, 1) := by decide +kernel
theorem dX9_noteArcs_0 : decode cX9_noteArcs 0 = .ok (.aload_n 0, 1) := by decide +kernel
theorem dX9_noteArcs_1 : decode cX9_noteArcs 1 = .ok (.iconst 1, 1) := by decide +kernel
theorem dX9_noteArcs_2 : decode cX9_noteArcs 2 = .ok (.putfield 34, 3) := by decide +kernel
theorem dX9_noteArcs_5 : decode cX9_noteArcs 5 = .ok (.return_, 1) := by decide +kernel
theorem dX9_noteShapes_0 : decode cX9_noteShapes 0 = .ok (.aload_n 0, 1) := by decide +kernel
theorem dX9_noteShapes_1 : decode cX9_noteShapes 1 = .ok (.iconst 1, 1) := by decide +kernel
theorem dX9_noteShapes_2 : decode cX9_noteShapes 2 = .ok (.putfield 30, 3) := by decide +kernel
theorem dX9_noteShapes_5 : decode cX9_noteShapes 5 = .ok (.aload_n 0, 1) := by decide +kernel
theorem dX9_noteShapes_6 : decode cX9_noteShapes 6 = .ok (.iconst 1, 1) := by decide +kernel
theorem dX9_noteShapes_7 : decode cX9_noteShapes 7 = .ok (.putfield 34, 3) := by decide +kernel
theorem dX9_noteShapes_10 : decode cX9_noteShapes 10 = .ok (.return_, 1) := by decide +kernel
set_option maxRecDepth 20000 in
theorem ggX9_leastWrong_X9_findReach : GoodIn wsX9_leastWrong wsX9_findReach := goodIn_r _ [7, 8, 9, 10, 11, 12, 13, 6, 14, 20, 21, 22, 23, 24, 25, 26, 27, 28, 29, 30, 31, 32, 33] (by decide +kernel) (by decide +kernel)
set_option maxRecDepth 20000 in
theorem gX9_leastWrong_X9_findReach : GoodIn wsX9_leastWrong (wsV RX9 37 RX9 yX9_findReach wsX9_findReach) := goodIn_app (goodIn_of _ (by decide +kernel)) ggX9_leastWrong_X9_findReach
set_option maxRecDepth 20000 in
theorem ggX9_leastWrong_X9_findLeastWrong : GoodIn wsX9_leastWrong wsX9_findLeastWrong := goodIn_r _ [18, 9, 19, 11, 12, 13, 6, 14, 8, 20, 21, 22, 23, 24, 25, 26, 27, 28, 29, 30, 31, 32, 33] (by decide +kernel) (by decide +kernel)
set_option maxRecDepth 20000 in
theorem gX9_leastWrong_X9_findLeastWrong : GoodIn wsX9_leastWrong (wsV RX9 40 RX9 yX9_findLeastWrong wsX9_findLeastWrong) := goodIn_app (goodIn_of _ (by decide +kernel)) ggX9_leastWrong_X9_findLeastWrong
theorem dX9_leastWrong_0 : decode cX9_leastWrong 0 = .ok (.aload_n 0, 1) := by decide +kernel
theorem dX9_leastWrong_1 : decode cX9_leastWrong 1 = .ok (.getfield 30, 3) := by decide +kernel
theorem dX9_leastWrong_4 : decode cX9_leastWrong 4 = .ok (.ifCond .eq 20, 3) := by decide +kernel
theorem dX9_leastWrong_7 : decode cX9_leastWrong 7 = .ok (.aload_n 0, 1) := by decide +kernel
theorem dX9_leastWrong_8 : decode cX9_leastWrong 8 = .ok (.iconst 0, 1) := by decide +kernel
theorem dX9_leastWrong_9 : decode cX9_leastWrong 9 = .ok (.putfield 30, 3) := by decide +kernel
theorem dX9_leastWrong_12 : decode cX9_leastWrong 12 = .ok (.aload_n 0, 1) := by decide +kernel
theorem dX9_leastWrong_13 : decode cX9_leastWrong 13 = .ok (.invokevirtual 37, 3) := by decide +kernel
theorem dX9_leastWrong_16 : decode cX9_leastWrong 16 = .ok (.aload_n 0, 1) := by decide +kernel
theorem dX9_leastWrong_17 : decode cX9_leastWrong 17 = .ok (.aload_n 0, 1) := by decide +kernel
theorem dX9_leastWrong_18 : decode cX9_leastWrong 18 = .ok (.invokevirtual 40, 3) := by decide +kernel
theorem dX9_leastWrong_21 : decode cX9_leastWrong 21 = .ok (.putfield 18, 3) := by decide +kernel
theorem dX9_leastWrong_24 : decode cX9_leastWrong 24 = .ok (.aload_n 0, 1) := by decide +kernel
theorem dX9_leastWrong_25 : decode cX9_leastWrong 25 = .ok (.getfield 18, 3) := by decide +kernel
theorem dX9_leastWrong_28 : decode cX9_leastWrong 28 = .ok (.ireturn, 1) := by decide +kernel
set_option maxRecDepth 20000 in
theorem ggX9_findReach_X9_leads : GoodIn wsX9_findReach wsX9_leads := goodIn_r _ [8, 1, 9, 10, 11, 12, 13, 14, 15] (by decide +kernel) (by decide +kernel)
set_option maxRecDepth 20000 in
theorem gX9_findReach_X9_leads : GoodIn wsX9_findReach (wsV RX9 49 RX9 yX9_leads wsX9_leads) := goodIn_app (goodIn_of _ (by decide +kernel)) ggX9_findReach_X9_leads
theorem dX9_findReach_0 : decode cX9_findReach 0 = .ok (.iconst 0, 1) := by decide +kernel
theorem dX9_findReach_1 : decode cX9_findReach 1 = .ok (.istore_n 1, 1) := by decide +kernel
theorem dX9_findReach_2 : decode cX9_findReach 2 = .ok (.iload_n 1, 1) := by decide +kernel
theorem dX9_findReach_3 : decode cX9_findReach 3 = .ok (.bipush 16, 2) := by decide +kernel
theorem dX9_findReach_5 : decode cX9_findReach 5 = .ok (.if_icmp .ge 24, 3) := by decide +kernel
theorem dX9_findReach_8 : decode cX9_findReach 8 = .ok (.aload_n 0, 1) := by decide +kernel
theorem dX9_findReach_9 : decode cX9_findReach 9 = .ok (.getfield 9, 3) := by decide +kernel
theorem dX9_findReach_12 : decode cX9_findReach 12 = .ok (.iload_n 1, 1) := by decide +kernel
theorem dX9_findReach_13 : decode cX9_findReach 13 = .ok (.aload_n 0, 1) := by decide +kernel
theorem dX9_findReach_14 : decode cX9_findReach 14 = .ok (.getfield 22, 3) := by decide +kernel
theorem dX9_findReach_17 : decode cX9_findReach 17 = .ok (.iload_n 1, 1) := by decide +kernel
theorem dX9_findReach_18 : decode cX9_findReach 18 = .ok (.aaload, 1) := by decide +kernel
theorem dX9_findReach_19 : decode cX9_findReach 19 = .ok (.getfield 44, 3) := by decide +kernel
theorem dX9_findReach_22 : decode cX9_findReach 22 = .ok (.iastore, 1) := by decide +kernel
theorem dX9_findReach_23 : decode cX9_findReach 23 = .ok (.iinc 1 1, 3) := by decide +kernel
theorem dX9_findReach_26 : decode cX9_findReach 26 = .ok (.goto (-24), 3) := by decide +kernel
theorem dX9_findReach_29 : decode cX9_findReach 29 = .ok (.iconst 0, 1) := by decide +kernel
theorem dX9_findReach_30 : decode cX9_findReach 30 = .ok (.istore_n 1, 1) := by decide +kernel
theorem dX9_findReach_31 : decode cX9_findReach 31 = .ok (.iload_n 1, 1) := by decide +kernel
theorem dX9_findReach_32 : decode cX9_findReach 32 = .ok (.bipush 16, 2) := by decide +kernel
theorem dX9_findReach_34 : decode cX9_findReach 34 = .ok (.if_icmp .ge 47, 3) := by decide +kernel
theorem dX9_findReach_37 : decode cX9_findReach 37 = .ok (.iconst 0, 1) := by decide +kernel
theorem dX9_findReach_38 : decode cX9_findReach 38 = .ok (.istore_n 2, 1) := by decide +kernel
theorem dX9_findReach_39 : decode cX9_findReach 39 = .ok (.iload_n 2, 1) := by decide +kernel
theorem dX9_findReach_40 : decode cX9_findReach 40 = .ok (.bipush 16, 2) := by decide +kernel
theorem dX9_findReach_42 : decode cX9_findReach 42 = .ok (.if_icmp .ge 33, 3) := by decide +kernel
theorem dX9_findReach_45 : decode cX9_findReach 45 = .ok (.aload_n 0, 1) := by decide +kernel
theorem dX9_findReach_46 : decode cX9_findReach 46 = .ok (.iload_n 2, 1) := by decide +kernel
theorem dX9_findReach_47 : decode cX9_findReach 47 = .ok (.iload_n 1, 1) := by decide +kernel
theorem dX9_findReach_48 : decode cX9_findReach 48 = .ok (.invokevirtual 49, 3) := by decide +kernel
theorem dX9_findReach_51 : decode cX9_findReach 51 = .ok (.ifCond .eq 18, 3) := by decide +kernel
theorem dX9_findReach_54 : decode cX9_findReach 54 = .ok (.aload_n 0, 1) := by decide +kernel
theorem dX9_findReach_55 : decode cX9_findReach 55 = .ok (.getfield 9, 3) := by decide +kernel
theorem dX9_findReach_58 : decode cX9_findReach 58 = .ok (.iload_n 2, 1) := by decide +kernel
theorem dX9_findReach_59 : decode cX9_findReach 59 = .ok (.dup2, 1) := by decide +kernel
theorem dX9_findReach_60 : decode cX9_findReach 60 = .ok (.iaload, 1) := by decide +kernel
theorem dX9_findReach_61 : decode cX9_findReach 61 = .ok (.aload_n 0, 1) := by decide +kernel
theorem dX9_findReach_62 : decode cX9_findReach 62 = .ok (.getfield 9, 3) := by decide +kernel
theorem dX9_findReach_65 : decode cX9_findReach 65 = .ok (.iload_n 1, 1) := by decide +kernel
theorem dX9_findReach_66 : decode cX9_findReach 66 = .ok (.iaload, 1) := by decide +kernel
theorem dX9_findReach_67 : decode cX9_findReach 67 = .ok (.ior, 1) := by decide +kernel
theorem dX9_findReach_68 : decode cX9_findReach 68 = .ok (.iastore, 1) := by decide +kernel
theorem dX9_findReach_69 : decode cX9_findReach 69 = .ok (.iinc 2 1, 3) := by decide +kernel
theorem dX9_findReach_72 : decode cX9_findReach 72 = .ok (.goto (-33), 3) := by decide +kernel
theorem dX9_findReach_75 : decode cX9_findReach 75 = .ok (.iinc 1 1, 3) := by decide +kernel
theorem dX9_findReach_78 : decode cX9_findReach 78 = .ok (.goto (-47), 3) := by decide +kernel
theorem dX9_findReach_81 : decode cX9_findReach 81 = .ok (.return_, 1) := by decide +kernel
theorem dX9_leads_0 : decode cX9_leads 0 = .ok (.aload_n 0, 1) := by decide +kernel
theorem dX9_leads_1 : decode cX9_leads 1 = .ok (.getfield 9, 3) := by decide +kernel
theorem dX9_leads_4 : decode cX9_leads 4 = .ok (.iload_n 1, 1) := by decide +kernel
theorem dX9_leads_5 : decode cX9_leads 5 = .ok (.iaload, 1) := by decide +kernel
theorem dX9_leads_6 : decode cX9_leads 6 = .ok (.iload_n 2, 1) := by decide +kernel
theorem dX9_leads_7 : decode cX9_leads 7 = .ok (.ishr, 1) := by decide +kernel
theorem dX9_leads_8 : decode cX9_leads 8 = .ok (.iconst 1, 1) := by decide +kernel
theorem dX9_leads_9 : decode cX9_leads 9 = .ok (.iand, 1) := by decide +kernel
theorem dX9_leads_10 : decode cX9_leads 10 = .ok (.ifCond .eq 7, 3) := by decide +kernel
theorem dX9_leads_13 : decode cX9_leads 13 = .ok (.iconst 1, 1) := by decide +kernel
theorem dX9_leads_14 : decode cX9_leads 14 = .ok (.goto 4, 3) := by decide +kernel
theorem dX9_leads_17 : decode cX9_leads 17 = .ok (.iconst 0, 1) := by decide +kernel
theorem dX9_leads_18 : decode cX9_leads 18 = .ok (.ireturn, 1) := by decide +kernel
set_option maxRecDepth 20000 in
theorem ggX9_findLeastWrong_X9_leads : GoodIn wsX9_findLeastWrong wsX9_leads := goodIn_r _ [7, 8, 9, 10, 11, 12, 13, 14, 15] (by decide +kernel) (by decide +kernel)
set_option maxRecDepth 20000 in
theorem gX9_findLeastWrong_X9_leads : GoodIn wsX9_findLeastWrong (wsV RX9 49 RX9 yX9_leads wsX9_leads) := goodIn_app (goodIn_of _ (by decide +kernel)) ggX9_findLeastWrong_X9_leads
theorem dX9_findLeastWrong_0 : decode cX9_findLeastWrong 0 = .ok (.iconst 0, 1) := by decide +kernel
theorem dX9_findLeastWrong_1 : decode cX9_findLeastWrong 1 = .ok (.istore_n 1, 1) := by decide +kernel
theorem dX9_findLeastWrong_2 : decode cX9_findLeastWrong 2 = .ok (.iload_n 1, 1) := by decide +kernel
theorem dX9_findLeastWrong_3 : decode cX9_findLeastWrong 3 = .ok (.bipush 16, 2) := by decide +kernel
theorem dX9_findLeastWrong_5 : decode cX9_findLeastWrong 5 = .ok (.if_icmp .ge 56, 3) := by decide +kernel
theorem dX9_findLeastWrong_8 : decode cX9_findLeastWrong 8 = .ok (.iconst 0, 1) := by decide +kernel
theorem dX9_findLeastWrong_9 : decode cX9_findLeastWrong 9 = .ok (.istore_n 2, 1) := by decide +kernel
theorem dX9_findLeastWrong_10 : decode cX9_findLeastWrong 10 = .ok (.iload_n 2, 1) := by decide +kernel
theorem dX9_findLeastWrong_11 : decode cX9_findLeastWrong 11 = .ok (.bipush 16, 2) := by decide +kernel
theorem dX9_findLeastWrong_13 : decode cX9_findLeastWrong 13 = .ok (.if_icmp .ge 42, 3) := by decide +kernel
theorem dX9_findLeastWrong_16 : decode cX9_findLeastWrong 16 = .ok (.aload_n 0, 1) := by decide +kernel
theorem dX9_findLeastWrong_17 : decode cX9_findLeastWrong 17 = .ok (.getfield 22, 3) := by decide +kernel
theorem dX9_findLeastWrong_20 : decode cX9_findLeastWrong 20 = .ok (.iload_n 2, 1) := by decide +kernel
theorem dX9_findLeastWrong_21 : decode cX9_findLeastWrong 21 = .ok (.aaload, 1) := by decide +kernel
theorem dX9_findLeastWrong_22 : decode cX9_findLeastWrong 22 = .ok (.getfield 53, 3) := by decide +kernel
theorem dX9_findLeastWrong_25 : decode cX9_findLeastWrong 25 = .ok (.iconst 3, 1) := by decide +kernel
theorem dX9_findLeastWrong_26 : decode cX9_findLeastWrong 26 = .ok (.if_icmp .ne 23, 3) := by decide +kernel
theorem dX9_findLeastWrong_29 : decode cX9_findLeastWrong 29 = .ok (.aload_n 0, 1) := by decide +kernel
theorem dX9_findLeastWrong_30 : decode cX9_findLeastWrong 30 = .ok (.iload_n 1, 1) := by decide +kernel
theorem dX9_findLeastWrong_31 : decode cX9_findLeastWrong 31 = .ok (.iload_n 2, 1) := by decide +kernel
theorem dX9_findLeastWrong_32 : decode cX9_findLeastWrong 32 = .ok (.invokevirtual 49, 3) := by decide +kernel
theorem dX9_findLeastWrong_35 : decode cX9_findLeastWrong 35 = .ok (.ifCond .eq 14, 3) := by decide +kernel
theorem dX9_findLeastWrong_38 : decode cX9_findLeastWrong 38 = .ok (.aload_n 0, 1) := by decide +kernel
theorem dX9_findLeastWrong_39 : decode cX9_findLeastWrong 39 = .ok (.iload_n 2, 1) := by decide +kernel
theorem dX9_findLeastWrong_40 : decode cX9_findLeastWrong 40 = .ok (.iload_n 1, 1) := by decide +kernel
theorem dX9_findLeastWrong_41 : decode cX9_findLeastWrong 41 = .ok (.invokevirtual 49, 3) := by decide +kernel
theorem dX9_findLeastWrong_44 : decode cX9_findLeastWrong 44 = .ok (.ifCond .eq 5, 3) := by decide +kernel
theorem dX9_findLeastWrong_47 : decode cX9_findLeastWrong 47 = .ok (.iload_n 1, 1) := by decide +kernel
theorem dX9_findLeastWrong_48 : decode cX9_findLeastWrong 48 = .ok (.ireturn, 1) := by decide +kernel
theorem dX9_findLeastWrong_49 : decode cX9_findLeastWrong 49 = .ok (.iinc 2 1, 3) := by decide +kernel
theorem dX9_findLeastWrong_52 : decode cX9_findLeastWrong 52 = .ok (.goto (-42), 3) := by decide +kernel
theorem dX9_findLeastWrong_55 : decode cX9_findLeastWrong 55 = .ok (.iinc 1 1, 3) := by decide +kernel
theorem dX9_findLeastWrong_58 : decode cX9_findLeastWrong 58 = .ok (.goto (-56), 3) := by decide +kernel
theorem dX9_findLeastWrong_61 : decode cX9_findLeastWrong 61 = .ok (.iconst (-1), 1) := by decide +kernel
theorem dX9_findLeastWrong_62 : decode cX9_findLeastWrong 62 = .ok (.ireturn, 1) := by decide +kernel
set_option maxRecDepth 20000 in
theorem ggX9_settled_X9_leastWrong : GoodIn wsX9_settled wsX9_leastWrong := goodIn_r _ [7, 8, 9, 10, 11, 12, 6, 13, 2, 14, 15, 16, 17, 18, 19, 20, 21, 22, 23, 24, 159, 160, 161, 162, 163, 164, 165, 166, 167, 168, 169, 170, 171, 172] (by decide +kernel) (by decide +kernel)
set_option maxRecDepth 20000 in
theorem gX9_settled_X9_leastWrong : GoodIn wsX9_settled (wsV RX9 56 RX9 yX9_leastWrong wsX9_leastWrong) := goodIn_app (goodIn_of _ (by decide +kernel)) ggX9_settled_X9_leastWrong
set_option maxRecDepth 20000 in
theorem ggX9_settled_J6_bitCount_0f7a4 : GoodIn wsX9_settled wsJ6_bitCount_0f7a4 := goodIn_r _ [28, 29, 30, 31] (by decide +kernel) (by decide +kernel)
set_option maxRecDepth 20000 in
theorem gX9_settled_J6_bitCount_0f7a4 : GoodIn wsX9_settled (va_wsS RX9 59 yJ6_bitCount_0f7a4 wsJ6_bitCount_0f7a4) := goodIn_app (goodIn_of _ (by decide +kernel)) ggX9_settled_J6_bitCount_0f7a4
set_option maxRecDepth 20000 in
theorem ggX9_settled_X9_settleGroup : GoodIn wsX9_settled wsX9_settleGroup := goodIn_r _ [35, 36, 37, 14, 24, 38, 39, 40, 27, 41, 42, 43, 44, 45, 46, 47, 48, 49, 50, 51, 52, 53, 54, 55, 56, 57, 58, 59, 60, 61, 62, 63, 64, 65, 66, 67, 68, 69, 70, 71, 72, 73, 74, 75, 76, 77, 78, 79, 80, 81, 82, 83, 84, 85, 86, 87, 88, 89, 90, 91, 92, 93, 94, 95, 96, 97, 98, 99, 100, 101, 102, 103, 104, 105, 106, 107, 108, 109, 110, 111, 112, 113, 114, 115, 116, 117, 118, 119, 120, 121, 122, 123, 124, 125, 126, 127, 128, 129, 130, 131, 132, 133, 134, 135, 136, 137, 138, 139, 140, 141, 142, 143, 144, 145, 146, 147, 148, 149, 150, 151, 6, 152, 153, 154, 155, 156, 157, 158, 15, 159, 160, 161, 162, 163, 164, 165, 166, 167, 168, 169, 170, 171, 172, 173, 174, 175, 176, 177, 178, 179, 180, 181, 182, 183, 184, 185, 186, 187, 188, 189, 190, 191, 192, 193, 194, 195, 196] (by decide +kernel) (by decide +kernel)
set_option maxRecDepth 20000 in
theorem gX9_settled_X9_settleGroup : GoodIn wsX9_settled (wsV RX9 65 RX9 yX9_settleGroup wsX9_settleGroup) := goodIn_app (goodIn_of _ (by decide +kernel)) ggX9_settled_X9_settleGroup
theorem dX9_settled_0 : decode cX9_settled 0 = .ok (.aload_n 0, 1) := by decide +kernel
theorem dX9_settled_1 : decode cX9_settled 1 = .ok (.invokevirtual 56, 3) := by decide +kernel
theorem dX9_settled_4 : decode cX9_settled 4 = .ok (.ifCond .lt 5, 3) := by decide +kernel
theorem dX9_settled_7 : decode cX9_settled 7 = .ok (.iconst 0, 1) := by decide +kernel
theorem dX9_settled_8 : decode cX9_settled 8 = .ok (.ireturn, 1) := by decide +kernel
theorem dX9_settled_9 : decode cX9_settled 9 = .ok (.aload_n 0, 1) := by decide +kernel
theorem dX9_settled_10 : decode cX9_settled 10 = .ok (.getfield 34, 3) := by decide +kernel
theorem dX9_settled_13 : decode cX9_settled 13 = .ok (.ifCond .ne 5, 3) := by decide +kernel
theorem dX9_settled_16 : decode cX9_settled 16 = .ok (.iconst 1, 1) := by decide +kernel
theorem dX9_settled_17 : decode cX9_settled 17 = .ok (.ireturn, 1) := by decide +kernel
theorem dX9_settled_18 : decode cX9_settled 18 = .ok (.aload_n 0, 1) := by decide +kernel
theorem dX9_settled_19 : decode cX9_settled 19 = .ok (.iconst 0, 1) := by decide +kernel
theorem dX9_settled_20 : decode cX9_settled 20 = .ok (.putfield 34, 3) := by decide +kernel
theorem dX9_settled_23 : decode cX9_settled 23 = .ok (.iconst 1, 1) := by decide +kernel
theorem dX9_settled_24 : decode cX9_settled 24 = .ok (.istore_n 1, 1) := by decide +kernel
theorem dX9_settled_25 : decode cX9_settled 25 = .ok (.iload_n 1, 1) := by decide +kernel
theorem dX9_settled_26 : decode cX9_settled 26 = .ok (.bipush 16, 2) := by decide +kernel
theorem dX9_settled_28 : decode cX9_settled 28 = .ok (.if_icmp .gt 57, 3) := by decide +kernel
theorem dX9_settled_31 : decode cX9_settled 31 = .ok (.iconst 0, 1) := by decide +kernel
theorem dX9_settled_32 : decode cX9_settled 32 = .ok (.istore_n 2, 1) := by decide +kernel
theorem dX9_settled_33 : decode cX9_settled 33 = .ok (.iconst 0, 1) := by decide +kernel
theorem dX9_settled_34 : decode cX9_settled 34 = .ok (.istore_n 3, 1) := by decide +kernel
theorem dX9_settled_35 : decode cX9_settled 35 = .ok (.iload_n 3, 1) := by decide +kernel
theorem dX9_settled_36 : decode cX9_settled 36 = .ok (.bipush 16, 2) := by decide +kernel
theorem dX9_settled_38 : decode cX9_settled 38 = .ok (.if_icmp .ge 36, 3) := by decide +kernel
theorem dX9_settled_41 : decode cX9_settled 41 = .ok (.iload_n 2, 1) := by decide +kernel
theorem dX9_settled_42 : decode cX9_settled 42 = .ok (.aload_n 0, 1) := by decide +kernel
theorem dX9_settled_43 : decode cX9_settled 43 = .ok (.getfield 9, 3) := by decide +kernel
theorem dX9_settled_46 : decode cX9_settled 46 = .ok (.iload_n 3, 1) := by decide +kernel
theorem dX9_settled_47 : decode cX9_settled 47 = .ok (.iaload, 1) := by decide +kernel
theorem dX9_settled_48 : decode cX9_settled 48 = .ok (.iconst 1, 1) := by decide +kernel
theorem dX9_settled_49 : decode cX9_settled 49 = .ok (.iload_n 3, 1) := by decide +kernel
theorem dX9_settled_50 : decode cX9_settled 50 = .ok (.ishl, 1) := by decide +kernel
theorem dX9_settled_51 : decode cX9_settled 51 = .ok (.ior, 1) := by decide +kernel
theorem dX9_settled_52 : decode cX9_settled 52 = .ok (.invokestatic 59, 3) := by decide +kernel
theorem dX9_settled_55 : decode cX9_settled 55 = .ok (.iload_n 1, 1) := by decide +kernel
theorem dX9_settled_56 : decode cX9_settled 56 = .ok (.if_icmp .ne 9, 3) := by decide +kernel
theorem dX9_settled_59 : decode cX9_settled 59 = .ok (.iconst 1, 1) := by decide +kernel
theorem dX9_settled_60 : decode cX9_settled 60 = .ok (.iload_n 3, 1) := by decide +kernel
theorem dX9_settled_61 : decode cX9_settled 61 = .ok (.ishl, 1) := by decide +kernel
theorem dX9_settled_62 : decode cX9_settled 62 = .ok (.goto 4, 3) := by decide +kernel
theorem dX9_settled_65 : decode cX9_settled 65 = .ok (.iconst 0, 1) := by decide +kernel
theorem dX9_settled_66 : decode cX9_settled 66 = .ok (.ior, 1) := by decide +kernel
theorem dX9_settled_67 : decode cX9_settled 67 = .ok (.istore_n 2, 1) := by decide +kernel
theorem dX9_settled_68 : decode cX9_settled 68 = .ok (.iinc 3 1, 3) := by decide +kernel
theorem dX9_settled_71 : decode cX9_settled 71 = .ok (.goto (-36), 3) := by decide +kernel
theorem dX9_settled_74 : decode cX9_settled 74 = .ok (.aload_n 0, 1) := by decide +kernel
theorem dX9_settled_75 : decode cX9_settled 75 = .ok (.iload_n 2, 1) := by decide +kernel
theorem dX9_settled_76 : decode cX9_settled 76 = .ok (.invokevirtual 65, 3) := by decide +kernel
theorem dX9_settled_79 : decode cX9_settled 79 = .ok (.iinc 1 1, 3) := by decide +kernel
theorem dX9_settled_82 : decode cX9_settled 82 = .ok (.goto (-57), 3) := by decide +kernel
theorem dX9_settled_85 : decode cX9_settled 85 = .ok (.iconst 1, 1) := by decide +kernel
theorem dX9_settled_86 : decode cX9_settled 86 = .ok (.ireturn, 1) := by decide +kernel
set_option maxRecDepth 20000 in
theorem ggX9_settleGroup_J6_numberOfTrailingZeros_0f7a4 : GoodIn wsX9_settleGroup wsJ6_numberOfTrailingZeros_0f7a4 := goodIn_r _ [9, 10] (by decide +kernel) (by decide +kernel)
set_option maxRecDepth 20000 in
theorem gX9_settleGroup_J6_numberOfTrailingZeros_0f7a4 : GoodIn wsX9_settleGroup (va_wsS RX9 70 yJ6_numberOfTrailingZeros_0f7a4 wsJ6_numberOfTrailingZeros_0f7a4) := goodIn_app (goodIn_of _ (by decide +kernel)) ggX9_settleGroup_J6_numberOfTrailingZeros_0f7a4
set_option maxRecDepth 20000 in
theorem ggX9_settleGroup_X6_matching : GoodIn wsX9_settleGroup wsX6_matching := goodIn_r _ [15, 16, 17, 18, 14, 19, 20, 21, 22, 23, 24, 25, 26, 27, 28, 29, 30, 31, 32, 33, 34, 35, 36, 37, 38, 39, 40, 41, 42, 43, 44, 45, 46, 47, 48, 49, 50, 51, 52, 53, 54, 55, 56, 57, 58, 59, 60, 61, 62, 63, 64, 65, 66, 67, 68, 69, 70, 71, 72, 73, 74, 75, 76, 77, 78, 79, 80, 81, 82, 83, 84, 85, 86, 87, 88, 89, 90, 91, 92, 93, 94, 95, 96, 97, 98, 99, 100, 101, 102, 103, 104, 105, 106, 107, 108, 109, 110, 111, 112, 113, 114, 115, 116, 136, 137, 138, 139, 140, 141, 142, 143, 144, 145, 146, 147, 148, 149, 150, 151, 152, 153, 154, 155, 156, 157, 158, 159, 160, 161, 162, 163, 164, 165, 166] (by decide +kernel) (by decide +kernel)
set_option maxRecDepth 20000 in
theorem gX9_settleGroup_X6_matching : GoodIn wsX9_settleGroup (wsV RX9 73 RX6 yX6_matching wsX6_matching) := goodIn_app (goodIn_of _ (by decide +kernel)) ggX9_settleGroup_X6_matching
set_option maxRecDepth 20000 in
theorem ggX9_settleGroup_X9_combined : GoodIn wsX9_settleGroup wsX9_combined := goodIn_r _ [121, 4, 1, 122, 123, 2, 136, 137, 138, 139, 140, 141, 142, 129, 130, 131, 132, 133, 134, 135] (by decide +kernel) (by decide +kernel)
set_option maxRecDepth 20000 in
theorem gX9_settleGroup_X9_combined : GoodIn wsX9_settleGroup (wsV RX9 79 RX9 yX9_combined wsX9_combined) := goodIn_app (goodIn_of _ (by decide +kernel)) ggX9_settleGroup_X9_combined
set_option maxRecDepth 20000 in
theorem ggX9_settleGroup_X9_thoseThatReferTo : GoodIn wsX9_settleGroup wsX9_thoseThatReferTo := goodIn_r _ [127, 3, 128, 129, 130, 131, 132, 133, 134, 135, 136, 137, 138, 139, 140, 141, 142] (by decide +kernel) (by decide +kernel)
set_option maxRecDepth 20000 in
theorem gX9_settleGroup_X9_thoseThatReferTo : GoodIn wsX9_settleGroup (wsV RX9 83 RX9 yX9_thoseThatReferTo wsX9_thoseThatReferTo) := goodIn_app (goodIn_of _ (by decide +kernel)) ggX9_settleGroup_X9_thoseThatReferTo
theorem dX9_settleGroup_0 : decode cX9_settleGroup 0 = .ok (.iconst 0, 1) := by decide +kernel
theorem dX9_settleGroup_1 : decode cX9_settleGroup 1 = .ok (.istore_n 2, 1) := by decide +kernel
theorem dX9_settleGroup_2 : decode cX9_settleGroup 2 = .ok (.iload_n 2, 1) := by decide +kernel
theorem dX9_settleGroup_3 : decode cX9_settleGroup 3 = .ok (.bipush 16, 2) := by decide +kernel
theorem dX9_settleGroup_5 : decode cX9_settleGroup 5 = .ok (.if_icmp .ge 25, 3) := by decide +kernel
theorem dX9_settleGroup_8 : decode cX9_settleGroup 8 = .ok (.iload_n 1, 1) := by decide +kernel
theorem dX9_settleGroup_9 : decode cX9_settleGroup 9 = .ok (.iload_n 2, 1) := by decide +kernel
theorem dX9_settleGroup_10 : decode cX9_settleGroup 10 = .ok (.ishr, 1) := by decide +kernel
theorem dX9_settleGroup_11 : decode cX9_settleGroup 11 = .ok (.iconst 1, 1) := by decide +kernel
theorem dX9_settleGroup_12 : decode cX9_settleGroup 12 = .ok (.iand, 1) := by decide +kernel
theorem dX9_settleGroup_13 : decode cX9_settleGroup 13 = .ok (.ifCond .eq 11, 3) := by decide +kernel
theorem dX9_settleGroup_16 : decode cX9_settleGroup 16 = .ok (.aload_n 0, 1) := by decide +kernel
theorem dX9_settleGroup_17 : decode cX9_settleGroup 17 = .ok (.getfield 15, 3) := by decide +kernel
theorem dX9_settleGroup_20 : decode cX9_settleGroup 20 = .ok (.iload_n 2, 1) := by decide +kernel
theorem dX9_settleGroup_21 : decode cX9_settleGroup 21 = .ok (.ldc 69, 2) := by decide +kernel
theorem dX9_settleGroup_23 : decode cX9_settleGroup 23 = .ok (.iastore, 1) := by decide +kernel
theorem dX9_settleGroup_24 : decode cX9_settleGroup 24 = .ok (.iinc 2 1, 3) := by decide +kernel
theorem dX9_settleGroup_27 : decode cX9_settleGroup 27 = .ok (.goto (-25), 3) := by decide +kernel
theorem dX9_settleGroup_30 : decode cX9_settleGroup 30 = .ok (.iload_n 1, 1) := by decide +kernel
theorem dX9_settleGroup_31 : decode cX9_settleGroup 31 = .ok (.istore_n 2, 1) := by decide +kernel
theorem dX9_settleGroup_32 : decode cX9_settleGroup 32 = .ok (.iconst 0, 1) := by decide +kernel
theorem dX9_settleGroup_33 : decode cX9_settleGroup 33 = .ok (.istore_n 3, 1) := by decide +kernel
theorem dX9_settleGroup_34 : decode cX9_settleGroup 34 = .ok (.iload_n 3, 1) := by decide +kernel
theorem dX9_settleGroup_35 : decode cX9_settleGroup 35 = .ok (.sipush 4112, 3) := by decide +kernel
theorem dX9_settleGroup_38 : decode cX9_settleGroup 38 = .ok (.if_icmp .ge 108, 3) := by decide +kernel
theorem dX9_settleGroup_41 : decode cX9_settleGroup 41 = .ok (.iload_n 2, 1) := by decide +kernel
theorem dX9_settleGroup_42 : decode cX9_settleGroup 42 = .ok (.ifCond .eq 104, 3) := by decide +kernel
theorem dX9_settleGroup_45 : decode cX9_settleGroup 45 = .ok (.iload_n 2, 1) := by decide +kernel
theorem dX9_settleGroup_46 : decode cX9_settleGroup 46 = .ok (.invokestatic 70, 3) := by decide +kernel
theorem dX9_settleGroup_49 : decode cX9_settleGroup 49 = .ok (.istore 4, 2) := by decide +kernel
theorem dX9_settleGroup_51 : decode cX9_settleGroup 51 = .ok (.iload_n 2, 1) := by decide +kernel
theorem dX9_settleGroup_52 : decode cX9_settleGroup 52 = .ok (.iload_n 2, 1) := by decide +kernel
theorem dX9_settleGroup_53 : decode cX9_settleGroup 53 = .ok (.iconst 1, 1) := by decide +kernel
theorem dX9_settleGroup_54 : decode cX9_settleGroup 54 = .ok (.isub, 1) := by decide +kernel
theorem dX9_settleGroup_55 : decode cX9_settleGroup 55 = .ok (.iand, 1) := by decide +kernel
theorem dX9_settleGroup_56 : decode cX9_settleGroup 56 = .ok (.istore_n 2, 1) := by decide +kernel
theorem dX9_settleGroup_57 : decode cX9_settleGroup 57 = .ok (.aload_n 0, 1) := by decide +kernel
theorem dX9_settleGroup_58 : decode cX9_settleGroup 58 = .ok (.getfield 22, 3) := by decide +kernel
theorem dX9_settleGroup_61 : decode cX9_settleGroup 61 = .ok (.iload 4, 2) := by decide +kernel
theorem dX9_settleGroup_63 : decode cX9_settleGroup 63 = .ok (.aaload, 1) := by decide +kernel
theorem dX9_settleGroup_64 : decode cX9_settleGroup 64 = .ok (.astore 5, 2) := by decide +kernel
theorem dX9_settleGroup_66 : decode cX9_settleGroup 66 = .ok (.aload_n 0, 1) := by decide +kernel
theorem dX9_settleGroup_67 : decode cX9_settleGroup 67 = .ok (.getfield 15, 3) := by decide +kernel
theorem dX9_settleGroup_70 : decode cX9_settleGroup 70 = .ok (.iload 4, 2) := by decide +kernel
theorem dX9_settleGroup_72 : decode cX9_settleGroup 72 = .ok (.iaload, 1) := by decide +kernel
theorem dX9_settleGroup_73 : decode cX9_settleGroup 73 = .ok (.istore 6, 2) := by decide +kernel
theorem dX9_settleGroup_75 : decode cX9_settleGroup 75 = .ok (.aload_n 0, 1) := by decide +kernel
theorem dX9_settleGroup_76 : decode cX9_settleGroup 76 = .ok (.getfield 15, 3) := by decide +kernel
theorem dX9_settleGroup_79 : decode cX9_settleGroup 79 = .ok (.iload 4, 2) := by decide +kernel
theorem dX9_settleGroup_81 : decode cX9_settleGroup 81 = .ok (.dup2, 1) := by decide +kernel
theorem dX9_settleGroup_82 : decode cX9_settleGroup 82 = .ok (.iaload, 1) := by decide +kernel
theorem dX9_settleGroup_83 : decode cX9_settleGroup 83 = .ok (.aload 5, 2) := by decide +kernel
theorem dX9_settleGroup_85 : decode cX9_settleGroup 85 = .ok (.getfield 53, 3) := by decide +kernel
theorem dX9_settleGroup_88 : decode cX9_settleGroup 88 = .ok (.ifCond .ne 21, 3) := by decide +kernel
theorem dX9_settleGroup_91 : decode cX9_settleGroup 91 = .ok (.aload_n 0, 1) := by decide +kernel
theorem dX9_settleGroup_92 : decode cX9_settleGroup 92 = .ok (.getfield 26, 3) := by decide +kernel
theorem dX9_settleGroup_95 : decode cX9_settleGroup 95 = .ok (.iload 6, 2) := by decide +kernel
theorem dX9_settleGroup_97 : decode cX9_settleGroup 97 = .ok (.aload 5, 2) := by decide +kernel
theorem dX9_settleGroup_99 : decode cX9_settleGroup 99 = .ok (.aload_n 0, 1) := by decide +kernel
theorem dX9_settleGroup_100 : decode cX9_settleGroup 100 = .ok (.getfield 15, 3) := by decide +kernel
theorem dX9_settleGroup_103 : decode cX9_settleGroup 103 = .ok (.invokevirtual 73, 3) := by decide +kernel
theorem dX9_settleGroup_106 : decode cX9_settleGroup 106 = .ok (.goto 9, 3) := by decide +kernel
theorem dX9_settleGroup_109 : decode cX9_settleGroup 109 = .ok (.aload_n 0, 1) := by decide +kernel
theorem dX9_settleGroup_110 : decode cX9_settleGroup 110 = .ok (.aload 5, 2) := by decide +kernel
theorem dX9_settleGroup_112 : decode cX9_settleGroup 112 = .ok (.invokevirtual 79, 3) := by decide +kernel
theorem dX9_settleGroup_115 : decode cX9_settleGroup 115 = .ok (.iand, 1) := by decide +kernel
theorem dX9_settleGroup_116 : decode cX9_settleGroup 116 = .ok (.iastore, 1) := by decide +kernel
theorem dX9_settleGroup_117 : decode cX9_settleGroup 117 = .ok (.aload_n 0, 1) := by decide +kernel
theorem dX9_settleGroup_118 : decode cX9_settleGroup 118 = .ok (.getfield 15, 3) := by decide +kernel
theorem dX9_settleGroup_121 : decode cX9_settleGroup 121 = .ok (.iload 4, 2) := by decide +kernel
theorem dX9_settleGroup_123 : decode cX9_settleGroup 123 = .ok (.iaload, 1) := by decide +kernel
theorem dX9_settleGroup_124 : decode cX9_settleGroup 124 = .ok (.iload 6, 2) := by decide +kernel
theorem dX9_settleGroup_126 : decode cX9_settleGroup 126 = .ok (.if_icmp .eq 14, 3) := by decide +kernel
theorem dX9_settleGroup_129 : decode cX9_settleGroup 129 = .ok (.iload_n 2, 1) := by decide +kernel
theorem dX9_settleGroup_130 : decode cX9_settleGroup 130 = .ok (.iload_n 1, 1) := by decide +kernel
theorem dX9_settleGroup_131 : decode cX9_settleGroup 131 = .ok (.aload_n 0, 1) := by decide +kernel
theorem dX9_settleGroup_132 : decode cX9_settleGroup 132 = .ok (.iload 4, 2) := by decide +kernel
theorem dX9_settleGroup_134 : decode cX9_settleGroup 134 = .ok (.invokevirtual 83, 3) := by decide +kernel
theorem dX9_settleGroup_137 : decode cX9_settleGroup 137 = .ok (.iand, 1) := by decide +kernel
theorem dX9_settleGroup_138 : decode cX9_settleGroup 138 = .ok (.ior, 1) := by decide +kernel
theorem dX9_settleGroup_139 : decode cX9_settleGroup 139 = .ok (.istore_n 2, 1) := by decide +kernel
theorem dX9_settleGroup_140 : decode cX9_settleGroup 140 = .ok (.iinc 3 1, 3) := by decide +kernel
theorem dX9_settleGroup_143 : decode cX9_settleGroup 143 = .ok (.goto (-109), 3) := by decide +kernel
theorem dX9_settleGroup_146 : decode cX9_settleGroup 146 = .ok (.return_, 1) := by decide +kernel
theorem dX9_combined_0 : decode cX9_combined 0 = .ok (.aload_n 1, 1) := by decide +kernel
theorem dX9_combined_1 : decode cX9_combined 1 = .ok (.getfield 53, 3) := by decide +kernel
theorem dX9_combined_4 : decode cX9_combined 4 = .ok (.tableswitch 92 1 4 #[32, 52, 72, 87], 32) := by decide +kernel
theorem dX9_combined_36 : decode cX9_combined 36 = .ok (.aload_n 0, 1) := by decide +kernel
theorem dX9_combined_37 : decode cX9_combined 37 = .ok (.getfield 15, 3) := by decide +kernel
theorem dX9_combined_40 : decode cX9_combined 40 = .ok (.aload_n 1, 1) := by decide +kernel
theorem dX9_combined_41 : decode cX9_combined 41 = .ok (.getfield 86, 3) := by decide +kernel
theorem dX9_combined_44 : decode cX9_combined 44 = .ok (.iaload, 1) := by decide +kernel
theorem dX9_combined_45 : decode cX9_combined 45 = .ok (.aload_n 0, 1) := by decide +kernel
theorem dX9_combined_46 : decode cX9_combined 46 = .ok (.getfield 15, 3) := by decide +kernel
theorem dX9_combined_49 : decode cX9_combined 49 = .ok (.aload_n 1, 1) := by decide +kernel
theorem dX9_combined_50 : decode cX9_combined 50 = .ok (.getfield 89, 3) := by decide +kernel
theorem dX9_combined_53 : decode cX9_combined 53 = .ok (.iaload, 1) := by decide +kernel
theorem dX9_combined_54 : decode cX9_combined 54 = .ok (.iand, 1) := by decide +kernel
theorem dX9_combined_55 : decode cX9_combined 55 = .ok (.ireturn, 1) := by decide +kernel
theorem dX9_combined_56 : decode cX9_combined 56 = .ok (.aload_n 0, 1) := by decide +kernel
theorem dX9_combined_57 : decode cX9_combined 57 = .ok (.getfield 15, 3) := by decide +kernel
theorem dX9_combined_60 : decode cX9_combined 60 = .ok (.aload_n 1, 1) := by decide +kernel
theorem dX9_combined_61 : decode cX9_combined 61 = .ok (.getfield 86, 3) := by decide +kernel
theorem dX9_combined_64 : decode cX9_combined 64 = .ok (.iaload, 1) := by decide +kernel
theorem dX9_combined_65 : decode cX9_combined 65 = .ok (.aload_n 0, 1) := by decide +kernel
theorem dX9_combined_66 : decode cX9_combined 66 = .ok (.getfield 15, 3) := by decide +kernel
theorem dX9_combined_69 : decode cX9_combined 69 = .ok (.aload_n 1, 1) := by decide +kernel
theorem dX9_combined_70 : decode cX9_combined 70 = .ok (.getfield 89, 3) := by decide +kernel
theorem dX9_combined_73 : decode cX9_combined 73 = .ok (.iaload, 1) := by decide +kernel
theorem dX9_combined_74 : decode cX9_combined 74 = .ok (.ior, 1) := by decide +kernel
theorem dX9_combined_75 : decode cX9_combined 75 = .ok (.ireturn, 1) := by decide +kernel
theorem dX9_combined_76 : decode cX9_combined 76 = .ok (.ldc 69, 2) := by decide +kernel
theorem dX9_combined_78 : decode cX9_combined 78 = .ok (.aload_n 0, 1) := by decide +kernel
theorem dX9_combined_79 : decode cX9_combined 79 = .ok (.getfield 15, 3) := by decide +kernel
theorem dX9_combined_82 : decode cX9_combined 82 = .ok (.aload_n 1, 1) := by decide +kernel
theorem dX9_combined_83 : decode cX9_combined 83 = .ok (.getfield 86, 3) := by decide +kernel
theorem dX9_combined_86 : decode cX9_combined 86 = .ok (.iaload, 1) := by decide +kernel
theorem dX9_combined_87 : decode cX9_combined 87 = .ok (.iconst (-1), 1) := by decide +kernel
theorem dX9_combined_88 : decode cX9_combined 88 = .ok (.ixor, 1) := by decide +kernel
theorem dX9_combined_89 : decode cX9_combined 89 = .ok (.iand, 1) := by decide +kernel
theorem dX9_combined_90 : decode cX9_combined 90 = .ok (.ireturn, 1) := by decide +kernel
theorem dX9_combined_91 : decode cX9_combined 91 = .ok (.aload_n 1, 1) := by decide +kernel
theorem dX9_combined_92 : decode cX9_combined 92 = .ok (.getfield 86, 3) := by decide +kernel
theorem dX9_combined_95 : decode cX9_combined 95 = .ok (.ireturn, 1) := by decide +kernel
theorem dX9_combined_96 : decode cX9_combined 96 = .ok (.iconst 0, 1) := by decide +kernel
theorem dX9_combined_97 : decode cX9_combined 97 = .ok (.ireturn, 1) := by decide +kernel
theorem dX9_thoseThatReferTo_0 : decode cX9_thoseThatReferTo 0 = .ok (.iconst 0, 1) := by decide +kernel
theorem dX9_thoseThatReferTo_1 : decode cX9_thoseThatReferTo 1 = .ok (.istore_n 2, 1) := by decide +kernel
theorem dX9_thoseThatReferTo_2 : decode cX9_thoseThatReferTo 2 = .ok (.iconst 0, 1) := by decide +kernel
theorem dX9_thoseThatReferTo_3 : decode cX9_thoseThatReferTo 3 = .ok (.istore_n 3, 1) := by decide +kernel
theorem dX9_thoseThatReferTo_4 : decode cX9_thoseThatReferTo 4 = .ok (.iload_n 3, 1) := by decide +kernel
theorem dX9_thoseThatReferTo_5 : decode cX9_thoseThatReferTo 5 = .ok (.bipush 16, 2) := by decide +kernel
theorem dX9_thoseThatReferTo_7 : decode cX9_thoseThatReferTo 7 = .ok (.if_icmp .ge 35, 3) := by decide +kernel
theorem dX9_thoseThatReferTo_10 : decode cX9_thoseThatReferTo 10 = .ok (.iload_n 2, 1) := by decide +kernel
theorem dX9_thoseThatReferTo_11 : decode cX9_thoseThatReferTo 11 = .ok (.aload_n 0, 1) := by decide +kernel
theorem dX9_thoseThatReferTo_12 : decode cX9_thoseThatReferTo 12 = .ok (.getfield 22, 3) := by decide +kernel
theorem dX9_thoseThatReferTo_15 : decode cX9_thoseThatReferTo 15 = .ok (.iload_n 3, 1) := by decide +kernel
theorem dX9_thoseThatReferTo_16 : decode cX9_thoseThatReferTo 16 = .ok (.aaload, 1) := by decide +kernel
theorem dX9_thoseThatReferTo_17 : decode cX9_thoseThatReferTo 17 = .ok (.getfield 44, 3) := by decide +kernel
theorem dX9_thoseThatReferTo_20 : decode cX9_thoseThatReferTo 20 = .ok (.iload_n 1, 1) := by decide +kernel
theorem dX9_thoseThatReferTo_21 : decode cX9_thoseThatReferTo 21 = .ok (.ishr, 1) := by decide +kernel
theorem dX9_thoseThatReferTo_22 : decode cX9_thoseThatReferTo 22 = .ok (.iconst 1, 1) := by decide +kernel
theorem dX9_thoseThatReferTo_23 : decode cX9_thoseThatReferTo 23 = .ok (.iand, 1) := by decide +kernel
theorem dX9_thoseThatReferTo_24 : decode cX9_thoseThatReferTo 24 = .ok (.ifCond .eq 9, 3) := by decide +kernel
theorem dX9_thoseThatReferTo_27 : decode cX9_thoseThatReferTo 27 = .ok (.iconst 1, 1) := by decide +kernel
theorem dX9_thoseThatReferTo_28 : decode cX9_thoseThatReferTo 28 = .ok (.iload_n 3, 1) := by decide +kernel
theorem dX9_thoseThatReferTo_29 : decode cX9_thoseThatReferTo 29 = .ok (.ishl, 1) := by decide +kernel
theorem dX9_thoseThatReferTo_30 : decode cX9_thoseThatReferTo 30 = .ok (.goto 4, 3) := by decide +kernel
theorem dX9_thoseThatReferTo_33 : decode cX9_thoseThatReferTo 33 = .ok (.iconst 0, 1) := by decide +kernel
theorem dX9_thoseThatReferTo_34 : decode cX9_thoseThatReferTo 34 = .ok (.ior, 1) := by decide +kernel
theorem dX9_thoseThatReferTo_35 : decode cX9_thoseThatReferTo 35 = .ok (.istore_n 2, 1) := by decide +kernel
theorem dX9_thoseThatReferTo_36 : decode cX9_thoseThatReferTo 36 = .ok (.iinc 3 1, 3) := by decide +kernel
theorem dX9_thoseThatReferTo_39 : decode cX9_thoseThatReferTo 39 = .ok (.goto (-35), 3) := by decide +kernel
theorem dX9_thoseThatReferTo_42 : decode cX9_thoseThatReferTo 42 = .ok (.iload_n 2, 1) := by decide +kernel
theorem dX9_thoseThatReferTo_43 : decode cX9_thoseThatReferTo 43 = .ok (.ireturn, 1) := by decide +kernel
set_option maxRecDepth 20000 in
theorem ggX10_init_X2_init : GoodIn wsX10_init wsX2_init := goodIn_r _ [28, 29, 2, 3, 30, 31, 32, 33, 77, 78, 79, 80] (by decide +kernel) (by decide +kernel)
set_option maxRecDepth 20000 in
theorem gX10_init_X2_init_n9 : GoodIn wsX10_init (wsX2_init) := ggX10_init_X2_init
set_option maxRecDepth 20000 in
theorem ggX10_init_X5_init : GoodIn wsX10_init wsX5_init := goodIn_r _ [35, 36, 2, 3, 37, 38, 39, 40, 41, 42, 43, 44, 30, 45, 46, 111, 112, 81, 82, 83] (by decide +kernel) (by decide +kernel)
set_option maxRecDepth 20000 in
theorem gX10_init_X5_init_n12 : GoodIn wsX10_init (wsX5_init) := ggX10_init_X5_init
set_option maxRecDepth 20000 in
theorem ggX10_init_X4_init : GoodIn wsX10_init wsX4_init := goodIn_r _ [49, 50, 2, 3, 51, 52, 53, 89, 90, 91] (by decide +kernel) (by decide +kernel)
set_option maxRecDepth 20000 in
theorem gX10_init_X4_init : GoodIn wsX10_init (wsX4_init) := ggX10_init_X4_init
set_option maxRecDepth 20000 in
theorem ggX10_init_X8_init : GoodIn wsX10_init wsX8_init := goodIn_r _ [55, 56, 2, 3, 57, 92, 93, 94, 95, 96, 97, 98] (by decide +kernel) (by decide +kernel)
set_option maxRecDepth 20000 in
theorem gX10_init_X8_init_n34 : GoodIn wsX10_init (wsX8_init) := ggX10_init_X8_init
set_option maxRecDepth 20000 in
theorem ggX10_init_X6_init : GoodIn wsX10_init wsX6_init := goodIn_r _ [60, 61, 2, 3, 30, 62, 63, 64, 65, 99, 100, 101, 102, 103] (by decide +kernel) (by decide +kernel)
set_option maxRecDepth 20000 in
theorem gX10_init_X6_init : GoodIn wsX10_init (wsX6_init) := ggX10_init_X6_init
set_option maxRecDepth 20000 in
theorem ggX10_init_X9_init : GoodIn wsX10_init wsX9_init := goodIn_r _ [68, 69, 2, 3, 30, 70, 71, 72, 73, 74, 75, 76, 104, 105, 106, 107, 108, 109, 110] (by decide +kernel) (by decide +kernel)
set_option maxRecDepth 20000 in
theorem gX10_init_X9_init : GoodIn wsX10_init (wsX9_init) := ggX10_init_X9_init
theorem dX10_init_0 : decode cX10_init 0 = .ok (.aload_n 0, 1) := by decide +kernel
theorem dX10_init_1 : decode cX10_init 1 = .ok (.invokespecial 1, 3) := by decide +kernel
theorem dX10_init_4 : decode cX10_init 4 = .ok (.new 7, 3) := by decide +kernel
theorem dX10_init_7 : decode cX10_init 7 = .ok (.dup, 1) := by decide +kernel
theorem dX10_init_8 : decode cX10_init 8 = .ok (.invokespecial 9, 3) := by decide +kernel
theorem dX10_init_11 : decode cX10_init 11 = .ok (.astore_n 1, 1) := by decide +kernel
theorem dX10_init_12 : decode cX10_init 12 = .ok (.aload_n 0, 1) := by decide +kernel
theorem dX10_init_13 : decode cX10_init 13 = .ok (.new 10, 3) := by decide +kernel
theorem dX10_init_16 : decode cX10_init 16 = .ok (.dup, 1) := by decide +kernel
theorem dX10_init_17 : decode cX10_init 17 = .ok (.invokespecial 12, 3) := by decide +kernel
theorem dX10_init_20 : decode cX10_init 20 = .ok (.putfield 13, 3) := by decide +kernel
theorem dX10_init_23 : decode cX10_init 23 = .ok (.aload_n 0, 1) := by decide +kernel
theorem dX10_init_24 : decode cX10_init 24 = .ok (.new 19, 3) := by decide +kernel
theorem dX10_init_27 : decode cX10_init 27 = .ok (.dup, 1) := by decide +kernel
theorem dX10_init_28 : decode cX10_init 28 = .ok (.aload_n 1, 1) := by decide +kernel
theorem dX10_init_29 : decode cX10_init 29 = .ok (.invokespecial 21, 3) := by decide +kernel
theorem dX10_init_32 : decode cX10_init 32 = .ok (.putfield 24, 3) := by decide +kernel
theorem dX10_init_35 : decode cX10_init 35 = .ok (.aload_n 0, 1) := by decide +kernel
theorem dX10_init_36 : decode cX10_init 36 = .ok (.bipush 16, 2) := by decide +kernel
theorem dX10_init_38 : decode cX10_init 38 = .ok (.anewarray 28, 3) := by decide +kernel
theorem dX10_init_41 : decode cX10_init 41 = .ok (.putfield 30, 3) := by decide +kernel
theorem dX10_init_44 : decode cX10_init 44 = .ok (.iconst 0, 1) := by decide +kernel
theorem dX10_init_45 : decode cX10_init 45 = .ok (.istore_n 2, 1) := by decide +kernel
theorem dX10_init_46 : decode cX10_init 46 = .ok (.iload_n 2, 1) := by decide +kernel
theorem dX10_init_47 : decode cX10_init 47 = .ok (.bipush 16, 2) := by decide +kernel
theorem dX10_init_49 : decode cX10_init 49 = .ok (.if_icmp .ge 22, 3) := by decide +kernel
theorem dX10_init_52 : decode cX10_init 52 = .ok (.aload_n 0, 1) := by decide +kernel
theorem dX10_init_53 : decode cX10_init 53 = .ok (.getfield 30, 3) := by decide +kernel
theorem dX10_init_56 : decode cX10_init 56 = .ok (.iload_n 2, 1) := by decide +kernel
theorem dX10_init_57 : decode cX10_init 57 = .ok (.new 28, 3) := by decide +kernel
theorem dX10_init_60 : decode cX10_init 60 = .ok (.dup, 1) := by decide +kernel
theorem dX10_init_61 : decode cX10_init 61 = .ok (.invokespecial 34, 3) := by decide +kernel
theorem dX10_init_64 : decode cX10_init 64 = .ok (.aastore, 1) := by decide +kernel
theorem dX10_init_65 : decode cX10_init 65 = .ok (.iinc 2 1, 3) := by decide +kernel
theorem dX10_init_68 : decode cX10_init 68 = .ok (.goto (-22), 3) := by decide +kernel
theorem dX10_init_71 : decode cX10_init 71 = .ok (.aload_n 0, 1) := by decide +kernel
theorem dX10_init_72 : decode cX10_init 72 = .ok (.new 35, 3) := by decide +kernel
theorem dX10_init_75 : decode cX10_init 75 = .ok (.dup, 1) := by decide +kernel
theorem dX10_init_76 : decode cX10_init 76 = .ok (.aload_n 0, 1) := by decide +kernel
theorem dX10_init_77 : decode cX10_init 77 = .ok (.getfield 13, 3) := by decide +kernel
theorem dX10_init_80 : decode cX10_init 80 = .ok (.aload_n 1, 1) := by decide +kernel
theorem dX10_init_81 : decode cX10_init 81 = .ok (.new 7, 3) := by decide +kernel
theorem dX10_init_84 : decode cX10_init 84 = .ok (.dup, 1) := by decide +kernel
theorem dX10_init_85 : decode cX10_init 85 = .ok (.invokespecial 9, 3) := by decide +kernel
theorem dX10_init_88 : decode cX10_init 88 = .ok (.invokespecial 37, 3) := by decide +kernel
theorem dX10_init_91 : decode cX10_init 91 = .ok (.putfield 40, 3) := by decide +kernel
theorem dX10_init_94 : decode cX10_init 94 = .ok (.aload_n 0, 1) := by decide +kernel
theorem dX10_init_95 : decode cX10_init 95 = .ok (.new 44, 3) := by decide +kernel
theorem dX10_init_98 : decode cX10_init 98 = .ok (.dup, 1) := by decide +kernel
theorem dX10_init_99 : decode cX10_init 99 = .ok (.aload_n 0, 1) := by decide +kernel
theorem dX10_init_100 : decode cX10_init 100 = .ok (.getfield 30, 3) := by decide +kernel
theorem dX10_init_103 : decode cX10_init 103 = .ok (.aload_n 0, 1) := by decide +kernel
theorem dX10_init_104 : decode cX10_init 104 = .ok (.getfield 40, 3) := by decide +kernel
theorem dX10_init_107 : decode cX10_init 107 = .ok (.invokespecial 46, 3) := by decide +kernel
theorem dX10_init_110 : decode cX10_init 110 = .ok (.putfield 49, 3) := by decide +kernel
theorem dX10_init_113 : decode cX10_init 113 = .ok (.return_, 1) := by decide +kernel
set_option maxRecDepth 20000 in
theorem ggX10_arc_X10_isNode : GoodIn wsX10_arc wsX10_isNode := goodIn_r _ [6] (by decide +kernel) (by decide +kernel)
set_option maxRecDepth 20000 in
theorem gX10_arc_X10_isNode : GoodIn wsX10_arc (va_wsS RX10 53 yX10_isNode wsX10_isNode) := goodIn_app (goodIn_of _ (by decide +kernel)) ggX10_arc_X10_isNode
set_option maxRecDepth 20000 in
theorem ggX10_arc_X10_isLabel : GoodIn wsX10_arc wsX10_isLabel := goodIn_r _ [9] (by decide +kernel) (by decide +kernel)
set_option maxRecDepth 20000 in
theorem gX10_arc_X10_isLabel : GoodIn wsX10_arc (va_wsS RX10 57 yX10_isLabel wsX10_isLabel) := goodIn_app (goodIn_of _ (by decide +kernel)) ggX10_arc_X10_isLabel
set_option maxRecDepth 20000 in
theorem ggX10_arc_X5_put : GoodIn wsX10_arc wsX5_put := goodIn_r _ [14, 15, 16, 17, 18, 19, 13, 20, 21, 22, 23, 24, 25, 26, 27, 28, 29, 30, 31, 32, 33, 34, 35, 36, 37, 38, 39, 40, 61, 62, 63, 64, 65] (by decide +kernel) (by decide +kernel)
set_option maxRecDepth 20000 in
theorem gX10_arc_X5_put : GoodIn wsX10_arc (wsV RX10 60 RX5 yX5_put wsX5_put) := goodIn_app (goodIn_of _ (by decide +kernel)) ggX10_arc_X5_put
set_option maxRecDepth 20000 in
theorem ggX10_arc_X5_drop : GoodIn wsX10_arc wsX5_drop := goodIn_r _ [44, 15, 17, 16, 18, 19, 13, 20, 21, 22, 23, 24, 25, 26, 27, 28, 29, 30, 31, 45, 46, 47, 48, 49, 61, 62, 63, 64, 65] (by decide +kernel) (by decide +kernel)
set_option maxRecDepth 20000 in
theorem gX10_arc_X5_drop : GoodIn wsX10_arc (wsV RX10 64 RX5 yX5_drop wsX5_drop) := goodIn_app (goodIn_of _ (by decide +kernel)) ggX10_arc_X5_drop
set_option maxRecDepth 20000 in
theorem ggX10_arc_X9_noteArcs : GoodIn wsX10_arc wsX9_noteArcs := goodIn_r _ [54, 55, 66, 67, 68, 69, 70, 71, 72] (by decide +kernel) (by decide +kernel)
set_option maxRecDepth 20000 in
theorem gX10_arc_X9_noteArcs : GoodIn wsX10_arc (wsV RX10 67 RX9 yX9_noteArcs wsX9_noteArcs) := goodIn_app (goodIn_of _ (by decide +kernel)) ggX10_arc_X9_noteArcs
theorem dX10_arc_0 : decode cX10_arc 0 = .ok (.iload_n 1, 1) := by decide +kernel
theorem dX10_arc_1 : decode cX10_arc 1 = .ok (.invokestatic 53, 3) := by decide +kernel
theorem dX10_arc_4 : decode cX10_arc 4 = .ok (.ifCond .eq 17, 3) := by decide +kernel
theorem dX10_arc_7 : decode cX10_arc 7 = .ok (.iload_n 2, 1) := by decide +kernel
theorem dX10_arc_8 : decode cX10_arc 8 = .ok (.invokestatic 57, 3) := by decide +kernel
theorem dX10_arc_11 : decode cX10_arc 11 = .ok (.ifCond .eq 10, 3) := by decide +kernel
theorem dX10_arc_14 : decode cX10_arc 14 = .ok (.iload_n 3, 1) := by decide +kernel
theorem dX10_arc_15 : decode cX10_arc 15 = .ok (.invokestatic 53, 3) := by decide +kernel
theorem dX10_arc_18 : decode cX10_arc 18 = .ok (.ifCond .ne 5, 3) := by decide +kernel
theorem dX10_arc_21 : decode cX10_arc 21 = .ok (.iconst (-1), 1) := by decide +kernel
theorem dX10_arc_22 : decode cX10_arc 22 = .ok (.ireturn, 1) := by decide +kernel
theorem dX10_arc_23 : decode cX10_arc 23 = .ok (.iload 4, 2) := by decide +kernel
theorem dX10_arc_25 : decode cX10_arc 25 = .ok (.ifCond .eq 16, 3) := by decide +kernel
theorem dX10_arc_28 : decode cX10_arc 28 = .ok (.aload_n 0, 1) := by decide +kernel
theorem dX10_arc_29 : decode cX10_arc 29 = .ok (.getfield 13, 3) := by decide +kernel
theorem dX10_arc_32 : decode cX10_arc 32 = .ok (.iload_n 1, 1) := by decide +kernel
theorem dX10_arc_33 : decode cX10_arc 33 = .ok (.iload_n 2, 1) := by decide +kernel
theorem dX10_arc_34 : decode cX10_arc 34 = .ok (.iload_n 3, 1) := by decide +kernel
theorem dX10_arc_35 : decode cX10_arc 35 = .ok (.invokevirtual 60, 3) := by decide +kernel
theorem dX10_arc_38 : decode cX10_arc 38 = .ok (.goto 13, 3) := by decide +kernel
theorem dX10_arc_41 : decode cX10_arc 41 = .ok (.aload_n 0, 1) := by decide +kernel
theorem dX10_arc_42 : decode cX10_arc 42 = .ok (.getfield 13, 3) := by decide +kernel
theorem dX10_arc_45 : decode cX10_arc 45 = .ok (.iload_n 1, 1) := by decide +kernel
theorem dX10_arc_46 : decode cX10_arc 46 = .ok (.iload_n 2, 1) := by decide +kernel
theorem dX10_arc_47 : decode cX10_arc 47 = .ok (.iload_n 3, 1) := by decide +kernel
theorem dX10_arc_48 : decode cX10_arc 48 = .ok (.invokevirtual 64, 3) := by decide +kernel
theorem dX10_arc_51 : decode cX10_arc 51 = .ok (.istore 5, 2) := by decide +kernel
theorem dX10_arc_53 : decode cX10_arc 53 = .ok (.iload 5, 2) := by decide +kernel
theorem dX10_arc_55 : decode cX10_arc 55 = .ok (.iconst 1, 1) := by decide +kernel
theorem dX10_arc_56 : decode cX10_arc 56 = .ok (.if_icmp .ne 10, 3) := by decide +kernel
theorem dX10_arc_59 : decode cX10_arc 59 = .ok (.aload_n 0, 1) := by decide +kernel
theorem dX10_arc_60 : decode cX10_arc 60 = .ok (.getfield 49, 3) := by decide +kernel
theorem dX10_arc_63 : decode cX10_arc 63 = .ok (.invokevirtual 67, 3) := by decide +kernel
theorem dX10_arc_66 : decode cX10_arc 66 = .ok (.iload 5, 2) := by decide +kernel
theorem dX10_arc_68 : decode cX10_arc 68 = .ok (.ireturn, 1) := by decide +kernel
set_option maxRecDepth 20000 in
theorem ggX10_expression_X10_addPlace : GoodIn wsX10_expression wsX10_addPlace := goodIn_r _ [6, 1, 7, 8, 5, 9, 10, 11, 12, 13, 14, 15, 16, 17, 18, 19, 20, 21, 22, 23, 24, 25, 26, 27, 28, 29, 30, 31, 32, 33, 34, 35, 36, 37, 38, 39, 40, 41, 42, 43, 44, 45, 46, 47, 48, 49, 50, 51, 52, 53, 54, 55, 56, 57, 58, 59, 60, 61, 62, 63, 64, 65, 66, 67, 185, 186, 187, 188, 189, 190, 191, 192, 193, 194, 195, 196, 197, 198, 199, 200, 201, 202] (by decide +kernel) (by decide +kernel)
set_option maxRecDepth 20000 in
theorem gX10_expression_X10_addPlace : GoodIn wsX10_expression (wsV RX10 70 RX10 yX10_addPlace wsX10_addPlace) := goodIn_app (goodIn_of _ (by decide +kernel)) ggX10_expression_X10_addPlace
set_option maxRecDepth 20000 in
theorem ggX10_expression_X10_addPair : GoodIn wsX10_expression wsX10_addPair := goodIn_r _ [71, 1, 72, 73, 74, 16, 75, 18, 50, 13, 14, 15, 17, 76, 77, 78, 79, 80, 81, 82, 26, 83, 84, 85, 86, 23, 46, 47, 48, 49, 51, 52, 53, 54, 55, 56, 57, 58, 31, 32, 59, 60, 61, 62, 63, 64, 65, 66, 67, 87, 88, 25, 89, 33, 90, 91, 92, 93, 94, 95, 39, 96, 97, 98, 42, 43, 44, 45, 99, 100, 101, 102, 103, 104, 105, 106, 107, 108, 109, 110, 111, 112, 113, 114, 115, 116, 117, 118, 119, 120, 121, 122, 123, 124, 125, 126, 127, 128, 129, 130, 131, 132, 133, 134, 135, 136, 137, 138, 139, 140, 141, 142, 143, 144, 145, 185, 186, 187, 188, 189, 190, 191, 192, 197, 198, 199, 200, 201, 202, 193, 194, 195, 196, 203, 204, 205, 206] (by decide +kernel) (by decide +kernel)
set_option maxRecDepth 20000 in
theorem gX10_expression_X10_addPair : GoodIn wsX10_expression (wsV RX10 74 RX10 yX10_addPair wsX10_addPair) := goodIn_app (goodIn_of _ (by decide +kernel)) ggX10_expression_X10_addPair
set_option maxRecDepth 20000 in
theorem ggX10_expression_X10_addRepeated : GoodIn wsX10_expression wsX10_addRepeated := goodIn_r _ [149, 1, 72, 73, 74, 16, 75, 18, 50, 13, 14, 15, 17, 150, 151, 152, 153, 80, 81, 83, 84, 85, 86, 23, 26, 46, 47, 48, 49, 51, 52, 53, 54, 55, 56, 57, 58, 31, 32, 59, 60, 61, 62, 63, 64, 65, 66, 67, 154, 155, 156, 157, 82, 158, 135, 136, 137, 159, 160, 161, 162, 103, 104, 163, 106, 107, 108, 109, 110, 111, 112, 113, 164, 165, 166, 167, 123, 168, 120, 121, 122, 169, 43, 39, 44, 45, 170, 171, 172, 173, 114, 115, 116, 117, 118, 174, 175, 176, 177, 178, 179, 180, 105, 185, 186, 187, 188, 189, 190, 191, 192, 197, 198, 199, 200, 201, 202, 193, 194, 195, 196, 203, 204, 205, 206] (by decide +kernel) (by decide +kernel)
set_option maxRecDepth 20000 in
theorem gX10_expression_X10_addRepeated : GoodIn wsX10_expression (wsV RX10 77 RX10 yX10_addRepeated wsX10_addRepeated) := goodIn_app (goodIn_of _ (by decide +kernel)) ggX10_expression_X10_addRepeated
set_option maxRecDepth 20000 in
theorem ggX10_expression_X4_isFull : GoodIn wsX10_expression wsX4_isFull := goodIn_r _ [17, 18, 190, 191, 192] (by decide +kernel) (by decide +kernel)
set_option maxRecDepth 20000 in
theorem gX10_expression_X4_isFull : GoodIn wsX10_expression (wsV RX10 80 RX4 yX4_isFull wsX4_isFull) := goodIn_app (goodIn_of _ (by decide +kernel)) ggX10_expression_X4_isFull
set_option maxRecDepth 20000 in
theorem ggX10_expression_X4_addNothing : GoodIn wsX10_expression wsX4_addNothing := goodIn_r _ [184, 26, 23, 46, 47, 48, 16, 49, 50, 18, 51, 52, 53, 54, 14, 15, 17, 55, 56, 57, 58, 31, 32, 59, 60, 61, 62, 63, 64, 65, 66, 67, 190, 191, 192, 197, 198, 199, 200, 201, 202, 193, 194, 195, 196] (by decide +kernel) (by decide +kernel)
set_option maxRecDepth 20000 in
theorem gX10_expression_X4_addNothing : GoodIn wsX10_expression (wsV RX10 84 RX4 yX4_addNothing wsX4_addNothing) := goodIn_app (goodIn_of _ (by decide +kernel)) ggX10_expression_X4_addNothing
theorem dX10_expression_0 : decode cX10_expression 0 = .ok (.iload_n 1, 1) := by decide +kernel
theorem dX10_expression_1 : decode cX10_expression 1 = .ok (.tableswitch 104 0 5 #[39, 39, 55, 55, 72, 81], 39) := by decide +kernel
theorem dX10_expression_40 : decode cX10_expression 40 = .ok (.aload_n 0, 1) := by decide +kernel
theorem dX10_expression_41 : decode cX10_expression 41 = .ok (.iload_n 1, 1) := by decide +kernel
theorem dX10_expression_42 : decode cX10_expression 42 = .ok (.ifCond .ne 7, 3) := by decide +kernel
theorem dX10_expression_45 : decode cX10_expression 45 = .ok (.iconst 1, 1) := by decide +kernel
theorem dX10_expression_46 : decode cX10_expression 46 = .ok (.goto 4, 3) := by decide +kernel
theorem dX10_expression_49 : decode cX10_expression 49 = .ok (.iconst 0, 1) := by decide +kernel
theorem dX10_expression_50 : decode cX10_expression 50 = .ok (.iload_n 2, 1) := by decide +kernel
theorem dX10_expression_51 : decode cX10_expression 51 = .ok (.iload_n 3, 1) := by decide +kernel
theorem dX10_expression_52 : decode cX10_expression 52 = .ok (.invokevirtual 70, 3) := by decide +kernel
theorem dX10_expression_55 : decode cX10_expression 55 = .ok (.ireturn, 1) := by decide +kernel
theorem dX10_expression_56 : decode cX10_expression 56 = .ok (.aload_n 0, 1) := by decide +kernel
theorem dX10_expression_57 : decode cX10_expression 57 = .ok (.iload_n 1, 1) := by decide +kernel
theorem dX10_expression_58 : decode cX10_expression 58 = .ok (.iconst 2, 1) := by decide +kernel
theorem dX10_expression_59 : decode cX10_expression 59 = .ok (.if_icmp .ne 7, 3) := by decide +kernel
theorem dX10_expression_62 : decode cX10_expression 62 = .ok (.iconst 1, 1) := by decide +kernel
theorem dX10_expression_63 : decode cX10_expression 63 = .ok (.goto 4, 3) := by decide +kernel
theorem dX10_expression_66 : decode cX10_expression 66 = .ok (.iconst 0, 1) := by decide +kernel
theorem dX10_expression_67 : decode cX10_expression 67 = .ok (.iload_n 2, 1) := by decide +kernel
theorem dX10_expression_68 : decode cX10_expression 68 = .ok (.iload_n 3, 1) := by decide +kernel
theorem dX10_expression_69 : decode cX10_expression 69 = .ok (.invokevirtual 74, 3) := by decide +kernel
theorem dX10_expression_72 : decode cX10_expression 72 = .ok (.ireturn, 1) := by decide +kernel
theorem dX10_expression_73 : decode cX10_expression 73 = .ok (.aload_n 0, 1) := by decide +kernel
theorem dX10_expression_74 : decode cX10_expression 74 = .ok (.iload_n 2, 1) := by decide +kernel
theorem dX10_expression_75 : decode cX10_expression 75 = .ok (.iload_n 3, 1) := by decide +kernel
theorem dX10_expression_76 : decode cX10_expression 76 = .ok (.iload 4, 2) := by decide +kernel
theorem dX10_expression_78 : decode cX10_expression 78 = .ok (.invokevirtual 77, 3) := by decide +kernel
theorem dX10_expression_81 : decode cX10_expression 81 = .ok (.ireturn, 1) := by decide +kernel
theorem dX10_expression_82 : decode cX10_expression 82 = .ok (.aload_n 0, 1) := by decide +kernel
theorem dX10_expression_83 : decode cX10_expression 83 = .ok (.getfield 24, 3) := by decide +kernel
theorem dX10_expression_86 : decode cX10_expression 86 = .ok (.invokevirtual 80, 3) := by decide +kernel
theorem dX10_expression_89 : decode cX10_expression 89 = .ok (.ifCond .eq 8, 3) := by decide +kernel
theorem dX10_expression_92 : decode cX10_expression 92 = .ok (.bipush (-2), 2) := by decide +kernel
theorem dX10_expression_94 : decode cX10_expression 94 = .ok (.goto 10, 3) := by decide +kernel
theorem dX10_expression_97 : decode cX10_expression 97 = .ok (.aload_n 0, 1) := by decide +kernel
theorem dX10_expression_98 : decode cX10_expression 98 = .ok (.getfield 24, 3) := by decide +kernel
theorem dX10_expression_101 : decode cX10_expression 101 = .ok (.invokevirtual 84, 3) := by decide +kernel
theorem dX10_expression_104 : decode cX10_expression 104 = .ok (.ireturn, 1) := by decide +kernel
theorem dX10_expression_105 : decode cX10_expression 105 = .ok (.iconst (-1), 1) := by decide +kernel
theorem dX10_expression_106 : decode cX10_expression 106 = .ok (.ireturn, 1) := by decide +kernel
set_option maxRecDepth 20000 in
theorem ggX10_shape_X10_isShape : GoodIn wsX10_shape wsX10_isShape := goodIn_r _ [6] (by decide +kernel) (by decide +kernel)
set_option maxRecDepth 20000 in
theorem gX10_shape_X10_isShape : GoodIn wsX10_shape (va_wsS RX10 88 yX10_isShape wsX10_isShape) := goodIn_app (goodIn_of _ (by decide +kernel)) ggX10_shape_X10_isShape
set_option maxRecDepth 20000 in
theorem ggX10_shape_X10_setShape : GoodIn wsX10_shape wsX10_setShape := goodIn_r _ [10, 11, 12, 13, 14, 15, 16, 17, 18, 19, 20, 21, 22, 23, 24, 25, 26, 5, 27, 28, 29, 30, 31, 32, 33, 34, 35, 36, 37, 38, 39, 40, 41, 42, 3, 4, 6, 43, 44, 45, 46, 47, 48, 49, 50, 51, 52, 53, 54, 67, 68, 69, 70, 71, 72, 73, 62, 63, 64, 65, 66, 74, 75, 76, 77, 78, 79, 80, 81, 82] (by decide +kernel) (by decide +kernel)
set_option maxRecDepth 20000 in
theorem gX10_shape_X10_setShape : GoodIn wsX10_shape (wsV RX10 91 RX10 yX10_setShape wsX10_setShape) := goodIn_app (goodIn_of _ (by decide +kernel)) ggX10_shape_X10_setShape
set_option maxRecDepth 20000 in
theorem ggX10_shape_X9_noteShapes : GoodIn wsX10_shape wsX9_noteShapes := goodIn_r _ [59, 60, 61, 83, 84, 85, 86, 87, 88, 89] (by decide +kernel) (by decide +kernel)
set_option maxRecDepth 20000 in
theorem gX10_shape_X9_noteShapes : GoodIn wsX10_shape (wsV RX10 95 RX9 yX9_noteShapes wsX9_noteShapes) := goodIn_app (goodIn_of _ (by decide +kernel)) ggX10_shape_X9_noteShapes
theorem dX10_shape_0 : decode cX10_shape 0 = .ok (.iload_n 1, 1) := by decide +kernel
theorem dX10_shape_1 : decode cX10_shape 1 = .ok (.invokestatic 88, 3) := by decide +kernel
theorem dX10_shape_4 : decode cX10_shape 4 = .ok (.ifCond .eq 22, 3) := by decide +kernel
theorem dX10_shape_7 : decode cX10_shape 7 = .ok (.aload_n 0, 1) := by decide +kernel
theorem dX10_shape_8 : decode cX10_shape 8 = .ok (.aload_n 0, 1) := by decide +kernel
theorem dX10_shape_9 : decode cX10_shape 9 = .ok (.getfield 30, 3) := by decide +kernel
theorem dX10_shape_12 : decode cX10_shape 12 = .ok (.iload_n 1, 1) := by decide +kernel
theorem dX10_shape_13 : decode cX10_shape 13 = .ok (.aaload, 1) := by decide +kernel
theorem dX10_shape_14 : decode cX10_shape 14 = .ok (.iload_n 2, 1) := by decide +kernel
theorem dX10_shape_15 : decode cX10_shape 15 = .ok (.iload_n 3, 1) := by decide +kernel
theorem dX10_shape_16 : decode cX10_shape 16 = .ok (.iload 4, 2) := by decide +kernel
theorem dX10_shape_18 : decode cX10_shape 18 = .ok (.iload 5, 2) := by decide +kernel
theorem dX10_shape_20 : decode cX10_shape 20 = .ok (.invokevirtual 91, 3) := by decide +kernel
theorem dX10_shape_23 : decode cX10_shape 23 = .ok (.ifCond .ne 5, 3) := by decide +kernel
theorem dX10_shape_26 : decode cX10_shape 26 = .ok (.iconst (-1), 1) := by decide +kernel
theorem dX10_shape_27 : decode cX10_shape 27 = .ok (.ireturn, 1) := by decide +kernel
theorem dX10_shape_28 : decode cX10_shape 28 = .ok (.aload_n 0, 1) := by decide +kernel
theorem dX10_shape_29 : decode cX10_shape 29 = .ok (.getfield 49, 3) := by decide +kernel
theorem dX10_shape_32 : decode cX10_shape 32 = .ok (.invokevirtual 95, 3) := by decide +kernel
theorem dX10_shape_35 : decode cX10_shape 35 = .ok (.iconst 1, 1) := by decide +kernel
theorem dX10_shape_36 : decode cX10_shape 36 = .ok (.ireturn, 1) := by decide +kernel
set_option maxRecDepth 20000 in
theorem ggX10_has_X10_isNode : GoodIn wsX10_has wsX10_isNode := goodIn_r _ [6] (by decide +kernel) (by decide +kernel)
set_option maxRecDepth 20000 in
theorem gX10_has_X10_isNode : GoodIn wsX10_has (va_wsS RX10 53 yX10_isNode wsX10_isNode) := goodIn_app (goodIn_of _ (by decide +kernel)) ggX10_has_X10_isNode
set_option maxRecDepth 20000 in
theorem ggX10_has_X10_isShape : GoodIn wsX10_has wsX10_isShape := goodIn_r _ [9] (by decide +kernel) (by decide +kernel)
set_option maxRecDepth 20000 in
theorem gX10_has_X10_isShape : GoodIn wsX10_has (va_wsS RX10 88 yX10_isShape wsX10_isShape) := goodIn_app (goodIn_of _ (by decide +kernel)) ggX10_has_X10_isShape
set_option maxRecDepth 20000 in
theorem ggX10_has_X9_settled : GoodIn wsX10_has wsX9_settled := goodIn_r _ [14, 15, 16, 17, 18, 19, 13, 20, 21, 22, 23, 24, 25, 26, 27, 28, 29, 30, 31, 32, 33, 34, 35, 36, 37, 38, 39, 40, 41, 42, 43, 44, 45, 46, 47, 48, 49, 50, 51, 52, 53, 54, 55, 56, 57, 58, 59, 60, 61, 62, 63, 64, 65, 66, 67, 68, 69, 70, 71, 72, 73, 74, 75, 76, 77, 78, 79, 80, 81, 82, 83, 84, 85, 86, 87, 88, 89, 90, 91, 92, 93, 94, 95, 96, 97, 98, 99, 100, 101, 102, 103, 104, 105, 106, 107, 108, 109, 110, 111, 112, 113, 114, 115, 116, 117, 118, 119, 120, 121, 122, 123, 124, 125, 126, 127, 128, 129, 130, 131, 132, 133, 134, 135, 136, 137, 138, 139, 140, 141, 142, 143, 144, 145, 146, 147, 148, 149, 150, 151, 152, 153, 154, 155, 156, 157, 158, 159, 160, 161, 162, 163, 164, 165, 166, 167, 168, 169, 170, 171, 177, 178, 179, 180, 181, 182, 183, 184, 185, 186, 187, 188, 189, 190, 191, 192, 193, 194, 195, 196, 197, 198, 199, 200, 201, 202, 203, 204, 205, 206, 207, 208, 209, 210, 211, 212, 213, 214] (by decide +kernel) (by decide +kernel)
set_option maxRecDepth 20000 in
theorem gX10_has_X9_settled : GoodIn wsX10_has (wsV RX10 98 RX9 yX9_settled wsX9_settled) := goodIn_app (goodIn_of _ (by decide +kernel)) ggX10_has_X9_settled
theorem dX10_has_0 : decode cX10_has 0 = .ok (.iload_n 1, 1) := by decide +kernel
theorem dX10_has_1 : decode cX10_has 1 = .ok (.invokestatic 53, 3) := by decide +kernel
theorem dX10_has_4 : decode cX10_has 4 = .ok (.ifCond .eq 10, 3) := by decide +kernel
theorem dX10_has_7 : decode cX10_has 7 = .ok (.iload_n 2, 1) := by decide +kernel
theorem dX10_has_8 : decode cX10_has 8 = .ok (.invokestatic 88, 3) := by decide +kernel
theorem dX10_has_11 : decode cX10_has 11 = .ok (.ifCond .ne 5, 3) := by decide +kernel
theorem dX10_has_14 : decode cX10_has 14 = .ok (.iconst (-1), 1) := by decide +kernel
theorem dX10_has_15 : decode cX10_has 15 = .ok (.ireturn, 1) := by decide +kernel
theorem dX10_has_16 : decode cX10_has 16 = .ok (.aload_n 0, 1) := by decide +kernel
theorem dX10_has_17 : decode cX10_has 17 = .ok (.getfield 49, 3) := by decide +kernel
theorem dX10_has_20 : decode cX10_has 20 = .ok (.invokevirtual 98, 3) := by decide +kernel
theorem dX10_has_23 : decode cX10_has 23 = .ok (.ifCond .eq 19, 3) := by decide +kernel
theorem dX10_has_26 : decode cX10_has 26 = .ok (.aload_n 0, 1) := by decide +kernel
theorem dX10_has_27 : decode cX10_has 27 = .ok (.getfield 49, 3) := by decide +kernel
theorem dX10_has_30 : decode cX10_has 30 = .ok (.getfield 101, 3) := by decide +kernel
theorem dX10_has_33 : decode cX10_has 33 = .ok (.iload_n 2, 1) := by decide +kernel
theorem dX10_has_34 : decode cX10_has 34 = .ok (.iaload, 1) := by decide +kernel
theorem dX10_has_35 : decode cX10_has 35 = .ok (.iload_n 1, 1) := by decide +kernel
theorem dX10_has_36 : decode cX10_has 36 = .ok (.ishr, 1) := by decide +kernel
theorem dX10_has_37 : decode cX10_has 37 = .ok (.iconst 1, 1) := by decide +kernel
theorem dX10_has_38 : decode cX10_has 38 = .ok (.iand, 1) := by decide +kernel
theorem dX10_has_39 : decode cX10_has 39 = .ok (.goto 5, 3) := by decide +kernel
theorem dX10_has_42 : decode cX10_has 42 = .ok (.bipush (-3), 2) := by decide +kernel
theorem dX10_has_44 : decode cX10_has 44 = .ok (.ireturn, 1) := by decide +kernel
set_option maxRecDepth 20000 in
theorem ggX10_nodes_X10_isShape : GoodIn wsX10_nodes wsX10_isShape := goodIn_r _ [6] (by decide +kernel) (by decide +kernel)
set_option maxRecDepth 20000 in
theorem gX10_nodes_X10_isShape : GoodIn wsX10_nodes (va_wsS RX10 88 yX10_isShape wsX10_isShape) := goodIn_app (goodIn_of _ (by decide +kernel)) ggX10_nodes_X10_isShape
set_option maxRecDepth 20000 in
theorem ggX10_nodes_X9_settled : GoodIn wsX10_nodes wsX9_settled := goodIn_r _ [11, 12, 13, 14, 15, 16, 10, 17, 18, 19, 20, 21, 22, 23, 24, 25, 26, 27, 28, 29, 30, 31, 32, 33, 34, 35, 36, 37, 38, 39, 40, 41, 42, 43, 44, 45, 46, 47, 48, 49, 50, 51, 52, 53, 54, 55, 56, 57, 58, 59, 60, 61, 62, 63, 64, 65, 66, 67, 68, 69, 70, 71, 72, 73, 74, 75, 76, 77, 78, 79, 80, 81, 82, 83, 84, 85, 86, 87, 88, 89, 90, 91, 92, 93, 94, 95, 96, 97, 98, 99, 100, 101, 102, 103, 104, 105, 106, 107, 108, 109, 110, 111, 112, 113, 114, 115, 116, 117, 118, 119, 120, 121, 122, 123, 124, 125, 126, 127, 128, 129, 130, 131, 132, 133, 134, 135, 136, 137, 138, 139, 140, 141, 142, 143, 144, 145, 146, 147, 148, 149, 150, 151, 152, 153, 154, 155, 156, 157, 158, 159, 160, 161, 162, 163, 164, 165, 166, 167, 168, 174, 175, 176, 177, 178, 179, 180, 181, 182, 183, 184, 185, 186, 187, 188, 189, 190, 191, 192, 193, 194, 195, 196, 197, 198, 199, 200, 201, 202, 203, 204, 205, 206, 207, 208, 209, 210, 211] (by decide +kernel) (by decide +kernel)
set_option maxRecDepth 20000 in
theorem gX10_nodes_X9_settled : GoodIn wsX10_nodes (wsV RX10 98 RX9 yX9_settled wsX9_settled) := goodIn_app (goodIn_of _ (by decide +kernel)) ggX10_nodes_X9_settled
theorem dX10_nodes_0 : decode cX10_nodes 0 = .ok (.iload_n 1, 1) := by decide +kernel
theorem dX10_nodes_1 : decode cX10_nodes 1 = .ok (.invokestatic 88, 3) := by decide +kernel
theorem dX10_nodes_4 : decode cX10_nodes 4 = .ok (.ifCond .ne 5, 3) := by decide +kernel
theorem dX10_nodes_7 : decode cX10_nodes 7 = .ok (.iconst (-1), 1) := by decide +kernel
theorem dX10_nodes_8 : decode cX10_nodes 8 = .ok (.ireturn, 1) := by decide +kernel
theorem dX10_nodes_9 : decode cX10_nodes 9 = .ok (.aload_n 0, 1) := by decide +kernel
theorem dX10_nodes_10 : decode cX10_nodes 10 = .ok (.getfield 49, 3) := by decide +kernel
theorem dX10_nodes_13 : decode cX10_nodes 13 = .ok (.invokevirtual 98, 3) := by decide +kernel
theorem dX10_nodes_16 : decode cX10_nodes 16 = .ok (.ifCond .eq 15, 3) := by decide +kernel
theorem dX10_nodes_19 : decode cX10_nodes 19 = .ok (.aload_n 0, 1) := by decide +kernel
theorem dX10_nodes_20 : decode cX10_nodes 20 = .ok (.getfield 49, 3) := by decide +kernel
theorem dX10_nodes_23 : decode cX10_nodes 23 = .ok (.getfield 101, 3) := by decide +kernel
theorem dX10_nodes_26 : decode cX10_nodes 26 = .ok (.iload_n 1, 1) := by decide +kernel
theorem dX10_nodes_27 : decode cX10_nodes 27 = .ok (.iaload, 1) := by decide +kernel
theorem dX10_nodes_28 : decode cX10_nodes 28 = .ok (.goto 5, 3) := by decide +kernel
theorem dX10_nodes_31 : decode cX10_nodes 31 = .ok (.bipush (-3), 2) := by decide +kernel
theorem dX10_nodes_33 : decode cX10_nodes 33 = .ok (.ireturn, 1) := by decide +kernel
set_option maxRecDepth 20000 in
theorem ggX10_wrong_X9_leastWrong : GoodIn wsX10_wrong wsX9_leastWrong := goodIn_r _ [6, 7, 8, 9, 10, 11, 5, 12, 13, 14, 15, 16, 17, 18, 19, 20, 21, 22, 23, 24, 30, 31, 32, 33, 34, 35, 36, 37, 38, 39, 40, 41, 42, 43] (by decide +kernel) (by decide +kernel)
set_option maxRecDepth 20000 in
theorem gX10_wrong_X9_leastWrong : GoodIn wsX10_wrong (wsV RX10 105 RX9 yX9_leastWrong wsX9_leastWrong) := goodIn_app (goodIn_of _ (by decide +kernel)) ggX10_wrong_X9_leastWrong
theorem dX10_wrong_0 : decode cX10_wrong 0 = .ok (.aload_n 0, 1) := by decide +kernel
theorem dX10_wrong_1 : decode cX10_wrong 1 = .ok (.getfield 49, 3) := by decide +kernel
theorem dX10_wrong_4 : decode cX10_wrong 4 = .ok (.invokevirtual 105, 3) := by decide +kernel
theorem dX10_wrong_7 : decode cX10_wrong 7 = .ok (.ireturn, 1) := by decide +kernel
set_option maxRecDepth 20000 in
theorem ggX10_loose_X10_isNode : GoodIn wsX10_loose wsX10_isNode := goodIn_r _ [8] (by decide +kernel) (by decide +kernel)
set_option maxRecDepth 20000 in
theorem gX10_loose_X10_isNode : GoodIn wsX10_loose (va_wsS RX10 53 yX10_isNode wsX10_isNode) := goodIn_app (goodIn_of _ (by decide +kernel)) ggX10_loose_X10_isNode
set_option maxRecDepth 20000 in
theorem ggX10_loose_X10_isBare : GoodIn wsX10_loose wsX10_isBare := goodIn_r _ [12, 3, 13, 14, 15, 7, 16, 183, 184, 185, 186, 187, 195, 196, 197, 198, 199, 200, 201] (by decide +kernel) (by decide +kernel)
set_option maxRecDepth 20000 in
theorem gX10_loose_X10_isBare : GoodIn wsX10_loose (wsV RX10 108 RX10 yX10_isBare wsX10_isBare) := goodIn_app (goodIn_of _ (by decide +kernel)) ggX10_loose_X10_isBare
set_option maxRecDepth 20000 in
theorem ggX10_loose_X9_settled : GoodIn wsX10_loose wsX9_settled := goodIn_r _ [21, 22, 23, 24, 25, 26, 20, 27, 28, 29, 30, 31, 32, 33, 34, 35, 36, 37, 38, 39, 40, 41, 42, 43, 44, 45, 46, 47, 48, 49, 50, 51, 52, 53, 54, 55, 56, 57, 58, 59, 60, 61, 62, 63, 64, 65, 66, 67, 68, 69, 70, 71, 72, 73, 74, 75, 76, 77, 78, 79, 80, 81, 82, 83, 84, 85, 86, 87, 88, 89, 90, 91, 92, 93, 94, 95, 96, 97, 98, 99, 100, 101, 102, 103, 104, 105, 106, 107, 108, 109, 110, 111, 112, 113, 114, 115, 116, 117, 118, 119, 120, 121, 122, 123, 124, 125, 126, 127, 128, 129, 130, 131, 132, 133, 134, 135, 136, 137, 138, 139, 140, 141, 142, 143, 144, 145, 146, 147, 148, 149, 150, 151, 152, 153, 154, 155, 156, 157, 158, 159, 160, 161, 162, 163, 164, 165, 166, 167, 168, 169, 170, 171, 172, 173, 174, 175, 176, 177, 178, 188, 189, 190, 191, 192, 193, 194, 195, 196, 197, 198, 199, 200, 201, 202, 203, 204, 205, 206, 207, 208, 209, 210, 211, 212, 213, 214, 215, 216, 217, 218, 219, 220, 221, 222, 223, 224, 225] (by decide +kernel) (by decide +kernel)
set_option maxRecDepth 20000 in
theorem gX10_loose_X9_settled : GoodIn wsX10_loose (wsV RX10 98 RX9 yX9_settled wsX9_settled) := goodIn_app (goodIn_of _ (by decide +kernel)) ggX10_loose_X9_settled
set_option maxRecDepth 20000 in
theorem ggX10_loose_X6_countLoose : GoodIn wsX10_loose wsX6_countLoose := goodIn_r _ [182, 75, 77, 80, 81, 82, 66, 83, 72, 84, 85, 86, 87, 88, 78, 89, 90, 91, 92, 93, 94, 95, 96, 97, 98, 99, 100, 101, 102, 103, 104, 105, 106, 107, 108, 109, 110, 111, 112, 113, 114, 115, 116, 117, 118, 119, 120, 121, 122, 123, 202, 203, 204, 205, 206, 195, 196, 197, 198, 199, 200, 201, 217, 218, 219, 211, 212, 213, 214, 215, 216, 220, 221, 222, 223, 224, 225] (by decide +kernel) (by decide +kernel)
set_option maxRecDepth 20000 in
theorem gX10_loose_X6_countLoose : GoodIn wsX10_loose (wsV RX10 111 RX6 yX6_countLoose wsX6_countLoose) := goodIn_app (goodIn_of _ (by decide +kernel)) ggX10_loose_X6_countLoose
theorem dX10_loose_0 : decode cX10_loose 0 = .ok (.iload_n 1, 1) := by decide +kernel
theorem dX10_loose_1 : decode cX10_loose 1 = .ok (.invokestatic 53, 3) := by decide +kernel
theorem dX10_loose_4 : decode cX10_loose 4 = .ok (.ifCond .eq 11, 3) := by decide +kernel
theorem dX10_loose_7 : decode cX10_loose 7 = .ok (.aload_n 0, 1) := by decide +kernel
theorem dX10_loose_8 : decode cX10_loose 8 = .ok (.iload_n 2, 1) := by decide +kernel
theorem dX10_loose_9 : decode cX10_loose 9 = .ok (.invokevirtual 108, 3) := by decide +kernel
theorem dX10_loose_12 : decode cX10_loose 12 = .ok (.ifCond .ne 5, 3) := by decide +kernel
theorem dX10_loose_15 : decode cX10_loose 15 = .ok (.iconst (-1), 1) := by decide +kernel
theorem dX10_loose_16 : decode cX10_loose 16 = .ok (.ireturn, 1) := by decide +kernel
theorem dX10_loose_17 : decode cX10_loose 17 = .ok (.aload_n 0, 1) := by decide +kernel
theorem dX10_loose_18 : decode cX10_loose 18 = .ok (.getfield 49, 3) := by decide +kernel
theorem dX10_loose_21 : decode cX10_loose 21 = .ok (.invokevirtual 98, 3) := by decide +kernel
theorem dX10_loose_24 : decode cX10_loose 24 = .ok (.ifCond .eq 27, 3) := by decide +kernel
theorem dX10_loose_27 : decode cX10_loose 27 = .ok (.aload_n 0, 1) := by decide +kernel
theorem dX10_loose_28 : decode cX10_loose 28 = .ok (.getfield 40, 3) := by decide +kernel
theorem dX10_loose_31 : decode cX10_loose 31 = .ok (.iload_n 1, 1) := by decide +kernel
theorem dX10_loose_32 : decode cX10_loose 32 = .ok (.aload_n 0, 1) := by decide +kernel
theorem dX10_loose_33 : decode cX10_loose 33 = .ok (.getfield 30, 3) := by decide +kernel
theorem dX10_loose_36 : decode cX10_loose 36 = .ok (.iload_n 2, 1) := by decide +kernel
theorem dX10_loose_37 : decode cX10_loose 37 = .ok (.aaload, 1) := by decide +kernel
theorem dX10_loose_38 : decode cX10_loose 38 = .ok (.aload_n 0, 1) := by decide +kernel
theorem dX10_loose_39 : decode cX10_loose 39 = .ok (.getfield 49, 3) := by decide +kernel
theorem dX10_loose_42 : decode cX10_loose 42 = .ok (.getfield 101, 3) := by decide +kernel
theorem dX10_loose_45 : decode cX10_loose 45 = .ok (.invokevirtual 111, 3) := by decide +kernel
theorem dX10_loose_48 : decode cX10_loose 48 = .ok (.goto 5, 3) := by decide +kernel
theorem dX10_loose_51 : decode cX10_loose 51 = .ok (.bipush (-3), 2) := by decide +kernel
theorem dX10_loose_53 : decode cX10_loose 53 = .ok (.ireturn, 1) := by decide +kernel
set_option maxRecDepth 20000 in
theorem ggX10_ways_X10_isNode : GoodIn wsX10_ways wsX10_isNode := goodIn_r _ [8] (by decide +kernel) (by decide +kernel)
set_option maxRecDepth 20000 in
theorem gX10_ways_X10_isNode : GoodIn wsX10_ways (va_wsS RX10 53 yX10_isNode wsX10_isNode) := goodIn_app (goodIn_of _ (by decide +kernel)) ggX10_ways_X10_isNode
set_option maxRecDepth 20000 in
theorem ggX10_ways_X10_isBare : GoodIn wsX10_ways wsX10_isBare := goodIn_r _ [12, 3, 13, 14, 15, 7, 16, 180, 181, 182, 183, 184, 192, 193, 194, 195, 196, 197, 198] (by decide +kernel) (by decide +kernel)
set_option maxRecDepth 20000 in
theorem gX10_ways_X10_isBare : GoodIn wsX10_ways (wsV RX10 108 RX10 yX10_isBare wsX10_isBare) := goodIn_app (goodIn_of _ (by decide +kernel)) ggX10_ways_X10_isBare
set_option maxRecDepth 20000 in
theorem ggX10_ways_X9_settled : GoodIn wsX10_ways wsX9_settled := goodIn_r _ [21, 22, 23, 24, 25, 26, 20, 27, 28, 29, 30, 31, 32, 33, 34, 35, 36, 37, 38, 39, 40, 41, 42, 43, 44, 45, 46, 47, 48, 49, 50, 51, 52, 53, 54, 55, 56, 57, 58, 59, 60, 61, 62, 63, 64, 65, 66, 67, 68, 69, 70, 71, 72, 73, 74, 75, 76, 77, 78, 79, 80, 81, 82, 83, 84, 85, 86, 87, 88, 89, 90, 91, 92, 93, 94, 95, 96, 97, 98, 99, 100, 101, 102, 103, 104, 105, 106, 107, 108, 109, 110, 111, 112, 113, 114, 115, 116, 117, 118, 119, 120, 121, 122, 123, 124, 125, 126, 127, 128, 129, 130, 131, 132, 133, 134, 135, 136, 137, 138, 139, 140, 141, 142, 143, 144, 145, 146, 147, 148, 149, 150, 151, 152, 153, 154, 155, 156, 157, 158, 159, 160, 161, 162, 163, 164, 165, 166, 167, 168, 169, 170, 171, 172, 173, 174, 175, 176, 177, 178, 185, 186, 187, 188, 189, 190, 191, 192, 193, 194, 195, 196, 197, 198, 199, 200, 201, 202, 203, 204, 205, 206, 207, 208, 209, 210, 211, 212, 213, 214, 215, 216, 217, 218, 219, 220, 221, 222] (by decide +kernel) (by decide +kernel)
set_option maxRecDepth 20000 in
theorem gX10_ways_X9_settled : GoodIn wsX10_ways (wsV RX10 98 RX9 yX9_settled wsX9_settled) := goodIn_app (goodIn_of _ (by decide +kernel)) ggX10_ways_X9_settled
set_option maxRecDepth 20000 in
theorem ggX10_ways_X6_countWays : GoodIn wsX10_ways wsX6_countWays := goodIn_r _ [71, 72, 73, 74, 75, 76, 77, 78, 79, 80, 81, 82, 66, 83, 84, 85, 86, 87, 88, 89, 90, 91, 92, 93, 94, 95, 96, 97, 98, 99, 100, 101, 102, 103, 104, 105, 106, 107, 108, 109, 110, 111, 112, 113, 114, 115, 116, 117, 118, 119, 120, 121, 122, 123, 124, 125, 126, 127, 128, 129, 130, 131, 132, 133, 134, 135, 136, 137, 138, 139, 140, 141, 142, 143, 144, 145, 146, 147, 148, 149, 150, 151, 152, 153, 154, 155, 156, 157, 158, 159, 160, 161, 162, 163, 164, 165, 166, 167, 168, 192, 193, 194, 195, 196, 197, 198, 199, 200, 201, 202, 203, 204, 205, 206, 207, 208, 209, 210, 211, 212, 213, 214, 215, 216, 217, 218, 219, 220, 221, 222] (by decide +kernel) (by decide +kernel)
set_option maxRecDepth 20000 in
theorem gX10_ways_X6_countWays : GoodIn wsX10_ways (wsV RX10 115 RX6 yX6_countWays wsX6_countWays) := goodIn_app (goodIn_of _ (by decide +kernel)) ggX10_ways_X6_countWays
theorem dX10_ways_0 : decode cX10_ways 0 = .ok (.iload_n 1, 1) := by decide +kernel
theorem dX10_ways_1 : decode cX10_ways 1 = .ok (.invokestatic 53, 3) := by decide +kernel
theorem dX10_ways_4 : decode cX10_ways 4 = .ok (.ifCond .eq 11, 3) := by decide +kernel
theorem dX10_ways_7 : decode cX10_ways 7 = .ok (.aload_n 0, 1) := by decide +kernel
theorem dX10_ways_8 : decode cX10_ways 8 = .ok (.iload_n 2, 1) := by decide +kernel
theorem dX10_ways_9 : decode cX10_ways 9 = .ok (.invokevirtual 108, 3) := by decide +kernel
theorem dX10_ways_12 : decode cX10_ways 12 = .ok (.ifCond .ne 5, 3) := by decide +kernel
