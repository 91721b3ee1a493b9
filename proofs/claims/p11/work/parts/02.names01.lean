theorem dX0_init_0 : decode cX0_init 0 = .ok (.aload_n 0, 1) := by decide +kernel
theorem dX0_init_1 : decode cX0_init 1 = .ok (.invokespecial 3, 3) := by decide +kernel
theorem dX0_init_4 : decode cX0_init 4 = .ok (.aload_n 0, 1) := by decide +kernel
theorem dX0_init_5 : decode cX0_init 5 = .ok (.bipush 64, 2) := by decide +kernel
theorem dX0_init_7 : decode cX0_init 7 = .ok (.newarray .int, 2) := by decide +kernel
theorem dX0_init_9 : decode cX0_init 9 = .ok (.putfield 9, 3) := by decide +kernel
theorem dX0_init_12 : decode cX0_init 12 = .ok (.aload_n 0, 1) := by decide +kernel
theorem dX0_init_13 : decode cX0_init 13 = .ok (.bipush 16, 2) := by decide +kernel
theorem dX0_init_15 : decode cX0_init 15 = .ok (.newarray .int, 2) := by decide +kernel
theorem dX0_init_17 : decode cX0_init 17 = .ok (.putfield 15, 3) := by decide +kernel
theorem dX0_init_20 : decode cX0_init 20 = .ok (.return_, 1) := by decide +kernel
theorem dX0_count_0 : decode cX0_count 0 = .ok (.aload_n 0, 1) := by decide +kernel
theorem dX0_count_1 : decode cX0_count 1 = .ok (.getfield 15, 3) := by decide +kernel
theorem dX0_count_4 : decode cX0_count 4 = .ok (.iload_n 1, 1) := by decide +kernel
theorem dX0_count_5 : decode cX0_count 5 = .ok (.iaload, 1) := by decide +kernel
theorem dX0_count_6 : decode cX0_count 6 = .ok (.ireturn, 1) := by decide +kernel
theorem dX0_key_0 : decode cX0_key 0 = .ok (.aload_n 0, 1) := by decide +kernel
theorem dX0_key_1 : decode cX0_key 1 = .ok (.getfield 9, 3) := by decide +kernel
theorem dX0_key_4 : decode cX0_key 4 = .ok (.iload_n 1, 1) := by decide +kernel
theorem dX0_key_5 : decode cX0_key 5 = .ok (.iconst 4, 1) := by decide +kernel
theorem dX0_key_6 : decode cX0_key 6 = .ok (.imul, 1) := by decide +kernel
theorem dX0_key_7 : decode cX0_key 7 = .ok (.iload_n 2, 1) := by decide +kernel
theorem dX0_key_8 : decode cX0_key 8 = .ok (.iadd, 1) := by decide +kernel
theorem dX0_key_9 : decode cX0_key 9 = .ok (.iaload, 1) := by decide +kernel
theorem dX0_key_10 : decode cX0_key 10 = .ok (.ireturn, 1) := by decide +kernel
theorem dX0_isFull_0 : decode cX0_isFull 0 = .ok (.aload_n 0, 1) := by decide +kernel
theorem dX0_isFull_1 : decode cX0_isFull 1 = .ok (.getfield 15, 3) := by decide +kernel
theorem dX0_isFull_4 : decode cX0_isFull 4 = .ok (.iload_n 1, 1) := by decide +kernel
theorem dX0_isFull_5 : decode cX0_isFull 5 = .ok (.iaload, 1) := by decide +kernel
theorem dX0_isFull_6 : decode cX0_isFull 6 = .ok (.iconst 4, 1) := by decide +kernel
theorem dX0_isFull_7 : decode cX0_isFull 7 = .ok (.if_icmp .lt 7, 3) := by decide +kernel
theorem dX0_isFull_10 : decode cX0_isFull 10 = .ok (.iconst 1, 1) := by decide +kernel
theorem dX0_isFull_11 : decode cX0_isFull 11 = .ok (.goto 4, 3) := by decide +kernel
theorem dX0_isFull_14 : decode cX0_isFull 14 = .ok (.iconst 0, 1) := by decide +kernel
theorem dX0_isFull_15 : decode cX0_isFull 15 = .ok (.ireturn, 1) := by decide +kernel
set_option maxRecDepth 20000 in
theorem ggX0_indexOf_X0_key : GoodIn wsX0_indexOf wsX0_key := goodIn_r _ [6, 7, 8, 9] (by decide +kernel) (by decide +kernel)
set_option maxRecDepth 20000 in
theorem gX0_indexOf_X0_key : GoodIn wsX0_indexOf (wsV RX0 18 RX0 yX0_key wsX0_key) := goodIn_app (goodIn_of _ (by decide +kernel)) ggX0_indexOf_X0_key
theorem dX0_indexOf_0 : decode cX0_indexOf 0 = .ok (.iconst 0, 1) := by decide +kernel
theorem dX0_indexOf_1 : decode cX0_indexOf 1 = .ok (.istore_n 3, 1) := by decide +kernel
theorem dX0_indexOf_2 : decode cX0_indexOf 2 = .ok (.iload_n 3, 1) := by decide +kernel
theorem dX0_indexOf_3 : decode cX0_indexOf 3 = .ok (.aload_n 0, 1) := by decide +kernel
theorem dX0_indexOf_4 : decode cX0_indexOf 4 = .ok (.getfield 15, 3) := by decide +kernel
theorem dX0_indexOf_7 : decode cX0_indexOf 7 = .ok (.iload_n 1, 1) := by decide +kernel
theorem dX0_indexOf_8 : decode cX0_indexOf 8 = .ok (.iaload, 1) := by decide +kernel
theorem dX0_indexOf_9 : decode cX0_indexOf 9 = .ok (.if_icmp .ge 21, 3) := by decide +kernel
theorem dX0_indexOf_12 : decode cX0_indexOf 12 = .ok (.aload_n 0, 1) := by decide +kernel
theorem dX0_indexOf_13 : decode cX0_indexOf 13 = .ok (.iload_n 1, 1) := by decide +kernel
theorem dX0_indexOf_14 : decode cX0_indexOf 14 = .ok (.iload_n 3, 1) := by decide +kernel
theorem dX0_indexOf_15 : decode cX0_indexOf 15 = .ok (.invokevirtual 18, 3) := by decide +kernel
theorem dX0_indexOf_18 : decode cX0_indexOf 18 = .ok (.iload_n 2, 1) := by decide +kernel
theorem dX0_indexOf_19 : decode cX0_indexOf 19 = .ok (.if_icmp .ne 5, 3) := by decide +kernel
theorem dX0_indexOf_22 : decode cX0_indexOf 22 = .ok (.iload_n 3, 1) := by decide +kernel
theorem dX0_indexOf_23 : decode cX0_indexOf 23 = .ok (.ireturn, 1) := by decide +kernel
theorem dX0_indexOf_24 : decode cX0_indexOf 24 = .ok (.iinc 3 1, 3) := by decide +kernel
theorem dX0_indexOf_27 : decode cX0_indexOf 27 = .ok (.goto (-25), 3) := by decide +kernel
theorem dX0_indexOf_30 : decode cX0_indexOf 30 = .ok (.iconst (-1), 1) := by decide +kernel
theorem dX0_indexOf_31 : decode cX0_indexOf 31 = .ok (.ireturn, 1) := by decide +kernel
set_option maxRecDepth 20000 in
theorem ggX0_insert_X0_isFull : GoodIn wsX0_insert wsX0_isFull := goodIn_r _ [7, 1, 8, 9] (by decide +kernel) (by decide +kernel)
set_option maxRecDepth 20000 in
theorem gX0_insert_X0_isFull : GoodIn wsX0_insert (wsV RX0 22 RX0 yX0_isFull wsX0_isFull) := goodIn_app (goodIn_of _ (by decide +kernel)) ggX0_insert_X0_isFull
theorem dX0_insert_0 : decode cX0_insert 0 = .ok (.aload_n 0, 1) := by decide +kernel
theorem dX0_insert_1 : decode cX0_insert 1 = .ok (.iload_n 1, 1) := by decide +kernel
theorem dX0_insert_2 : decode cX0_insert 2 = .ok (.invokevirtual 22, 3) := by decide +kernel
theorem dX0_insert_5 : decode cX0_insert 5 = .ok (.ifCond .eq 4, 3) := by decide +kernel
theorem dX0_insert_8 : decode cX0_insert 8 = .ok (.return_, 1) := by decide +kernel
theorem dX0_insert_9 : decode cX0_insert 9 = .ok (.iload_n 1, 1) := by decide +kernel
theorem dX0_insert_10 : decode cX0_insert 10 = .ok (.iconst 4, 1) := by decide +kernel
theorem dX0_insert_11 : decode cX0_insert 11 = .ok (.imul, 1) := by decide +kernel
theorem dX0_insert_12 : decode cX0_insert 12 = .ok (.istore_n 3, 1) := by decide +kernel
theorem dX0_insert_13 : decode cX0_insert 13 = .ok (.iload_n 3, 1) := by decide +kernel
theorem dX0_insert_14 : decode cX0_insert 14 = .ok (.aload_n 0, 1) := by decide +kernel
theorem dX0_insert_15 : decode cX0_insert 15 = .ok (.getfield 15, 3) := by decide +kernel
theorem dX0_insert_18 : decode cX0_insert 18 = .ok (.iload_n 1, 1) := by decide +kernel
theorem dX0_insert_19 : decode cX0_insert 19 = .ok (.iaload, 1) := by decide +kernel
theorem dX0_insert_20 : decode cX0_insert 20 = .ok (.iadd, 1) := by decide +kernel
theorem dX0_insert_21 : decode cX0_insert 21 = .ok (.istore 4, 2) := by decide +kernel
theorem dX0_insert_23 : decode cX0_insert 23 = .ok (.iload 4, 2) := by decide +kernel
theorem dX0_insert_25 : decode cX0_insert 25 = .ok (.iload_n 3, 1) := by decide +kernel
theorem dX0_insert_26 : decode cX0_insert 26 = .ok (.if_icmp .le 38, 3) := by decide +kernel
theorem dX0_insert_29 : decode cX0_insert 29 = .ok (.aload_n 0, 1) := by decide +kernel
theorem dX0_insert_30 : decode cX0_insert 30 = .ok (.getfield 9, 3) := by decide +kernel
theorem dX0_insert_33 : decode cX0_insert 33 = .ok (.iload 4, 2) := by decide +kernel
theorem dX0_insert_35 : decode cX0_insert 35 = .ok (.iconst 1, 1) := by decide +kernel
theorem dX0_insert_36 : decode cX0_insert 36 = .ok (.isub, 1) := by decide +kernel
theorem dX0_insert_37 : decode cX0_insert 37 = .ok (.iaload, 1) := by decide +kernel
theorem dX0_insert_38 : decode cX0_insert 38 = .ok (.iload_n 2, 1) := by decide +kernel
theorem dX0_insert_39 : decode cX0_insert 39 = .ok (.if_icmp .le 25, 3) := by decide +kernel
theorem dX0_insert_42 : decode cX0_insert 42 = .ok (.aload_n 0, 1) := by decide +kernel
theorem dX0_insert_43 : decode cX0_insert 43 = .ok (.getfield 9, 3) := by decide +kernel
theorem dX0_insert_46 : decode cX0_insert 46 = .ok (.iload 4, 2) := by decide +kernel
theorem dX0_insert_48 : decode cX0_insert 48 = .ok (.aload_n 0, 1) := by decide +kernel
theorem dX0_insert_49 : decode cX0_insert 49 = .ok (.getfield 9, 3) := by decide +kernel
theorem dX0_insert_52 : decode cX0_insert 52 = .ok (.iload 4, 2) := by decide +kernel
theorem dX0_insert_54 : decode cX0_insert 54 = .ok (.iconst 1, 1) := by decide +kernel
theorem dX0_insert_55 : decode cX0_insert 55 = .ok (.isub, 1) := by decide +kernel
theorem dX0_insert_56 : decode cX0_insert 56 = .ok (.iaload, 1) := by decide +kernel
theorem dX0_insert_57 : decode cX0_insert 57 = .ok (.iastore, 1) := by decide +kernel
theorem dX0_insert_58 : decode cX0_insert 58 = .ok (.iinc 4 (-1), 3) := by decide +kernel
theorem dX0_insert_61 : decode cX0_insert 61 = .ok (.goto (-38), 3) := by decide +kernel
theorem dX0_insert_64 : decode cX0_insert 64 = .ok (.aload_n 0, 1) := by decide +kernel
theorem dX0_insert_65 : decode cX0_insert 65 = .ok (.getfield 9, 3) := by decide +kernel
theorem dX0_insert_68 : decode cX0_insert 68 = .ok (.iload 4, 2) := by decide +kernel
theorem dX0_insert_70 : decode cX0_insert 70 = .ok (.iload_n 2, 1) := by decide +kernel
theorem dX0_insert_71 : decode cX0_insert 71 = .ok (.iastore, 1) := by decide +kernel
theorem dX0_insert_72 : decode cX0_insert 72 = .ok (.aload_n 0, 1) := by decide +kernel
theorem dX0_insert_73 : decode cX0_insert 73 = .ok (.getfield 15, 3) := by decide +kernel
theorem dX0_insert_76 : decode cX0_insert 76 = .ok (.iload_n 1, 1) := by decide +kernel
theorem dX0_insert_77 : decode cX0_insert 77 = .ok (.dup2, 1) := by decide +kernel
theorem dX0_insert_78 : decode cX0_insert 78 = .ok (.iaload, 1) := by decide +kernel
theorem dX0_insert_79 : decode cX0_insert 79 = .ok (.iconst 1, 1) := by decide +kernel
theorem dX0_insert_80 : decode cX0_insert 80 = .ok (.iadd, 1) := by decide +kernel
theorem dX0_insert_81 : decode cX0_insert 81 = .ok (.iastore, 1) := by decide +kernel
theorem dX0_insert_82 : decode cX0_insert 82 = .ok (.return_, 1) := by decide +kernel
set_option maxRecDepth 20000 in
theorem ggX0_remove_X0_indexOf : GoodIn wsX0_remove wsX0_indexOf := goodIn_r _ [7, 1, 8, 9, 10, 6, 11, 2, 12, 13] (by decide +kernel) (by decide +kernel)
set_option maxRecDepth 20000 in
theorem gX0_remove_X0_indexOf : GoodIn wsX0_remove (wsV RX0 26 RX0 yX0_indexOf wsX0_indexOf) := goodIn_app (goodIn_of _ (by decide +kernel)) ggX0_remove_X0_indexOf
theorem dX0_remove_0 : decode cX0_remove 0 = .ok (.aload_n 0, 1) := by decide +kernel
theorem dX0_remove_1 : decode cX0_remove 1 = .ok (.iload_n 1, 1) := by decide +kernel
theorem dX0_remove_2 : decode cX0_remove 2 = .ok (.iload_n 2, 1) := by decide +kernel
theorem dX0_remove_3 : decode cX0_remove 3 = .ok (.invokevirtual 26, 3) := by decide +kernel
theorem dX0_remove_6 : decode cX0_remove 6 = .ok (.istore_n 3, 1) := by decide +kernel
theorem dX0_remove_7 : decode cX0_remove 7 = .ok (.iload_n 3, 1) := by decide +kernel
theorem dX0_remove_8 : decode cX0_remove 8 = .ok (.ifCond .ge 4, 3) := by decide +kernel
theorem dX0_remove_11 : decode cX0_remove 11 = .ok (.return_, 1) := by decide +kernel
theorem dX0_remove_12 : decode cX0_remove 12 = .ok (.iload_n 1, 1) := by decide +kernel
theorem dX0_remove_13 : decode cX0_remove 13 = .ok (.iconst 4, 1) := by decide +kernel
theorem dX0_remove_14 : decode cX0_remove 14 = .ok (.imul, 1) := by decide +kernel
theorem dX0_remove_15 : decode cX0_remove 15 = .ok (.istore 4, 2) := by decide +kernel
theorem dX0_remove_17 : decode cX0_remove 17 = .ok (.iload_n 3, 1) := by decide +kernel
theorem dX0_remove_18 : decode cX0_remove 18 = .ok (.istore 5, 2) := by decide +kernel
theorem dX0_remove_20 : decode cX0_remove 20 = .ok (.iload 5, 2) := by decide +kernel
theorem dX0_remove_22 : decode cX0_remove 22 = .ok (.iconst 1, 1) := by decide +kernel
theorem dX0_remove_23 : decode cX0_remove 23 = .ok (.iadd, 1) := by decide +kernel
theorem dX0_remove_24 : decode cX0_remove 24 = .ok (.aload_n 0, 1) := by decide +kernel
theorem dX0_remove_25 : decode cX0_remove 25 = .ok (.getfield 15, 3) := by decide +kernel
theorem dX0_remove_28 : decode cX0_remove 28 = .ok (.iload_n 1, 1) := by decide +kernel
theorem dX0_remove_29 : decode cX0_remove 29 = .ok (.iaload, 1) := by decide +kernel
theorem dX0_remove_30 : decode cX0_remove 30 = .ok (.if_icmp .ge 31, 3) := by decide +kernel
theorem dX0_remove_33 : decode cX0_remove 33 = .ok (.aload_n 0, 1) := by decide +kernel
theorem dX0_remove_34 : decode cX0_remove 34 = .ok (.getfield 9, 3) := by decide +kernel
theorem dX0_remove_37 : decode cX0_remove 37 = .ok (.iload 4, 2) := by decide +kernel
theorem dX0_remove_39 : decode cX0_remove 39 = .ok (.iload 5, 2) := by decide +kernel
theorem dX0_remove_41 : decode cX0_remove 41 = .ok (.iadd, 1) := by decide +kernel
theorem dX0_remove_42 : decode cX0_remove 42 = .ok (.aload_n 0, 1) := by decide +kernel
theorem dX0_remove_43 : decode cX0_remove 43 = .ok (.getfield 9, 3) := by decide +kernel
theorem dX0_remove_46 : decode cX0_remove 46 = .ok (.iload 4, 2) := by decide +kernel
theorem dX0_remove_48 : decode cX0_remove 48 = .ok (.iload 5, 2) := by decide +kernel
theorem dX0_remove_50 : decode cX0_remove 50 = .ok (.iadd, 1) := by decide +kernel
theorem dX0_remove_51 : decode cX0_remove 51 = .ok (.iconst 1, 1) := by decide +kernel
theorem dX0_remove_52 : decode cX0_remove 52 = .ok (.iadd, 1) := by decide +kernel
theorem dX0_remove_53 : decode cX0_remove 53 = .ok (.iaload, 1) := by decide +kernel
theorem dX0_remove_54 : decode cX0_remove 54 = .ok (.iastore, 1) := by decide +kernel
theorem dX0_remove_55 : decode cX0_remove 55 = .ok (.iinc 5 1, 3) := by decide +kernel
theorem dX0_remove_58 : decode cX0_remove 58 = .ok (.goto (-38), 3) := by decide +kernel
theorem dX0_remove_61 : decode cX0_remove 61 = .ok (.aload_n 0, 1) := by decide +kernel
theorem dX0_remove_62 : decode cX0_remove 62 = .ok (.getfield 15, 3) := by decide +kernel
theorem dX0_remove_65 : decode cX0_remove 65 = .ok (.iload_n 1, 1) := by decide +kernel
theorem dX0_remove_66 : decode cX0_remove 66 = .ok (.dup2, 1) := by decide +kernel
theorem dX0_remove_67 : decode cX0_remove 67 = .ok (.iaload, 1) := by decide +kernel
theorem dX0_remove_68 : decode cX0_remove 68 = .ok (.iconst 1, 1) := by decide +kernel
theorem dX0_remove_69 : decode cX0_remove 69 = .ok (.isub, 1) := by decide +kernel
theorem dX0_remove_70 : decode cX0_remove 70 = .ok (.iastore, 1) := by decide +kernel
theorem dX0_remove_71 : decode cX0_remove 71 = .ok (.return_, 1) := by decide +kernel
theorem dX1_indexesOf_0 : decode cX1_indexesOf 0 = .ok (.iload_n 0, 1) := by decide +kernel
theorem dX1_indexesOf_1 : decode cX1_indexesOf 1 = .ok (.ifCond .lt 19, 3) := by decide +kernel
theorem dX1_indexesOf_4 : decode cX1_indexesOf 4 = .ok (.iload_n 0, 1) := by decide +kernel
theorem dX1_indexesOf_5 : decode cX1_indexesOf 5 = .ok (.getstatic 11, 3) := by decide +kernel
theorem dX1_indexesOf_8 : decode cX1_indexesOf 8 = .ok (.arraylength, 1) := by decide +kernel
theorem dX1_indexesOf_9 : decode cX1_indexesOf 9 = .ok (.if_icmp .ge 11, 3) := by decide +kernel
theorem dX1_indexesOf_12 : decode cX1_indexesOf 12 = .ok (.getstatic 11, 3) := by decide +kernel
theorem dX1_indexesOf_15 : decode cX1_indexesOf 15 = .ok (.iload_n 0, 1) := by decide +kernel
theorem dX1_indexesOf_16 : decode cX1_indexesOf 16 = .ok (.iaload, 1) := by decide +kernel
theorem dX1_indexesOf_17 : decode cX1_indexesOf 17 = .ok (.goto 6, 3) := by decide +kernel
theorem dX1_indexesOf_20 : decode cX1_indexesOf 20 = .ok (.sipush 3125, 3) := by decide +kernel
theorem dX1_indexesOf_23 : decode cX1_indexesOf 23 = .ok (.ireturn, 1) := by decide +kernel
set_option maxRecDepth 20000 in
theorem ggX1_ofOne_X1_indexesOf : GoodIn wsX1_ofOne wsX1_indexesOf := goodIn_r _ [5, 6] (by decide +kernel) (by decide +kernel)
set_option maxRecDepth 20000 in
theorem gX1_ofOne_X1_indexesOf : GoodIn wsX1_ofOne (va_wsS RX1 15 yX1_indexesOf wsX1_indexesOf) := goodIn_app (goodIn_of _ (by decide +kernel)) ggX1_ofOne_X1_indexesOf
theorem dX1_ofOne_0 : decode cX1_ofOne 0 = .ok (.iload_n 0, 1) := by decide +kernel
theorem dX1_ofOne_1 : decode cX1_ofOne 1 = .ok (.invokestatic 15, 3) := by decide +kernel
theorem dX1_ofOne_4 : decode cX1_ofOne 4 = .ok (.iload_n 1, 1) := by decide +kernel
theorem dX1_ofOne_5 : decode cX1_ofOne 5 = .ok (.ifCond .eq 9, 3) := by decide +kernel
theorem dX1_ofOne_8 : decode cX1_ofOne 8 = .ok (.sipush 16384, 3) := by decide +kernel
theorem dX1_ofOne_11 : decode cX1_ofOne 11 = .ok (.goto 5, 3) := by decide +kernel
theorem dX1_ofOne_14 : decode cX1_ofOne 14 = .ok (.ldc 19, 2) := by decide +kernel
theorem dX1_ofOne_16 : decode cX1_ofOne 16 = .ok (.iadd, 1) := by decide +kernel
theorem dX1_ofOne_17 : decode cX1_ofOne 17 = .ok (.ireturn, 1) := by decide +kernel
theorem dX1_fits_0 : decode cX1_fits 0 = .ok (.iload_n 0, 1) := by decide +kernel
theorem dX1_fits_1 : decode cX1_fits 1 = .ok (.ldc 20, 2) := by decide +kernel
theorem dX1_fits_3 : decode cX1_fits 3 = .ok (.iadd, 1) := by decide +kernel
theorem dX1_fits_4 : decode cX1_fits 4 = .ok (.ldc 21, 2) := by decide +kernel
theorem dX1_fits_6 : decode cX1_fits 6 = .ok (.iand, 1) := by decide +kernel
theorem dX1_fits_7 : decode cX1_fits 7 = .ok (.ifCond .ne 7, 3) := by decide +kernel
theorem dX1_fits_10 : decode cX1_fits 10 = .ok (.iconst 1, 1) := by decide +kernel
theorem dX1_fits_11 : decode cX1_fits 11 = .ok (.goto 4, 3) := by decide +kernel
theorem dX1_fits_14 : decode cX1_fits 14 = .ok (.iconst 0, 1) := by decide +kernel
theorem dX1_fits_15 : decode cX1_fits 15 = .ok (.ireturn, 1) := by decide +kernel
set_option maxRecDepth 20000 in
theorem ggX1_moved_X7_slotOf : GoodIn wsX1_moved wsX7_slotOf := goodIn_r _ [5, 6, 12, 13, 14, 15] (by decide +kernel) (by decide +kernel)
set_option maxRecDepth 20000 in
theorem gX1_moved_X7_slotOf : GoodIn wsX1_moved (va_wsS RX1 28 yX7_slotOf wsX7_slotOf) := goodIn_app (goodIn_of _ (by decide +kernel)) ggX1_moved_X7_slotOf
set_option maxRecDepth 20000 in
theorem ggX1_moved_X1_indexesOf : GoodIn wsX1_moved wsX1_indexesOf := goodIn_r _ [10, 11] (by decide +kernel) (by decide +kernel)
set_option maxRecDepth 20000 in
theorem gX1_moved_X1_indexesOf : GoodIn wsX1_moved (va_wsS RX1 15 yX1_indexesOf wsX1_indexesOf) := goodIn_app (goodIn_of _ (by decide +kernel)) ggX1_moved_X1_indexesOf
theorem dX1_moved_0 : decode cX1_moved 0 = .ok (.iload_n 0, 1) := by decide +kernel
theorem dX1_moved_1 : decode cX1_moved 1 = .ok (.sipush 16383, 3) := by decide +kernel
theorem dX1_moved_4 : decode cX1_moved 4 = .ok (.iand, 1) := by decide +kernel
theorem dX1_moved_5 : decode cX1_moved 5 = .ok (.istore_n 3, 1) := by decide +kernel
theorem dX1_moved_6 : decode cX1_moved 6 = .ok (.iload_n 0, 1) := by decide +kernel
theorem dX1_moved_7 : decode cX1_moved 7 = .ok (.iload_n 3, 1) := by decide +kernel
theorem dX1_moved_8 : decode cX1_moved 8 = .ok (.isub, 1) := by decide +kernel
theorem dX1_moved_9 : decode cX1_moved 9 = .ok (.istore 4, 2) := by decide +kernel
theorem dX1_moved_11 : decode cX1_moved 11 = .ok (.iconst 0, 1) := by decide +kernel
theorem dX1_moved_12 : decode cX1_moved 12 = .ok (.istore 5, 2) := by decide +kernel
theorem dX1_moved_14 : decode cX1_moved 14 = .ok (.iload 5, 2) := by decide +kernel
theorem dX1_moved_16 : decode cX1_moved 16 = .ok (.aload_n 1, 1) := by decide +kernel
theorem dX1_moved_17 : decode cX1_moved 17 = .ok (.arraylength, 1) := by decide +kernel
theorem dX1_moved_18 : decode cX1_moved 18 = .ok (.if_icmp .ge 36, 3) := by decide +kernel
theorem dX1_moved_21 : decode cX1_moved 21 = .ok (.iload 4, 2) := by decide +kernel
theorem dX1_moved_23 : decode cX1_moved 23 = .ok (.iload_n 3, 1) := by decide +kernel
theorem dX1_moved_24 : decode cX1_moved 24 = .ok (.iconst 5, 1) := by decide +kernel
theorem dX1_moved_25 : decode cX1_moved 25 = .ok (.irem, 1) := by decide +kernel
theorem dX1_moved_26 : decode cX1_moved 26 = .ok (.aload_n 2, 1) := by decide +kernel
theorem dX1_moved_27 : decode cX1_moved 27 = .ok (.aload_n 1, 1) := by decide +kernel
theorem dX1_moved_28 : decode cX1_moved 28 = .ok (.iload 5, 2) := by decide +kernel
theorem dX1_moved_30 : decode cX1_moved 30 = .ok (.aaload, 1) := by decide +kernel
theorem dX1_moved_31 : decode cX1_moved 31 = .ok (.getfield 22, 3) := by decide +kernel
theorem dX1_moved_34 : decode cX1_moved 34 = .ok (.invokestatic 28, 3) := by decide +kernel
theorem dX1_moved_37 : decode cX1_moved 37 = .ok (.invokestatic 15, 3) := by decide +kernel
theorem dX1_moved_40 : decode cX1_moved 40 = .ok (.imul, 1) := by decide +kernel
theorem dX1_moved_41 : decode cX1_moved 41 = .ok (.iadd, 1) := by decide +kernel
theorem dX1_moved_42 : decode cX1_moved 42 = .ok (.istore 4, 2) := by decide +kernel
theorem dX1_moved_44 : decode cX1_moved 44 = .ok (.iload_n 3, 1) := by decide +kernel
theorem dX1_moved_45 : decode cX1_moved 45 = .ok (.iconst 5, 1) := by decide +kernel
theorem dX1_moved_46 : decode cX1_moved 46 = .ok (.idiv, 1) := by decide +kernel
theorem dX1_moved_47 : decode cX1_moved 47 = .ok (.istore_n 3, 1) := by decide +kernel
theorem dX1_moved_48 : decode cX1_moved 48 = .ok (.iinc 5 1, 3) := by decide +kernel
theorem dX1_moved_51 : decode cX1_moved 51 = .ok (.goto (-37), 3) := by decide +kernel
theorem dX1_moved_54 : decode cX1_moved 54 = .ok (.iload 4, 2) := by decide +kernel
theorem dX1_moved_56 : decode cX1_moved 56 = .ok (.ireturn, 1) := by decide +kernel
theorem dX2_init_0 : decode cX2_init 0 = .ok (.aload_n 0, 1) := by decide +kernel
theorem dX2_init_1 : decode cX2_init 1 = .ok (.invokespecial 1, 3) := by decide +kernel
theorem dX2_init_4 : decode cX2_init 4 = .ok (.aload_n 0, 1) := by decide +kernel
theorem dX2_init_5 : decode cX2_init 5 = .ok (.sipush 3125, 3) := by decide +kernel
theorem dX2_init_8 : decode cX2_init 8 = .ok (.newarray .int, 2) := by decide +kernel
theorem dX2_init_10 : decode cX2_init 10 = .ok (.putfield 9, 3) := by decide +kernel
theorem dX2_init_13 : decode cX2_init 13 = .ok (.aload_n 0, 1) := by decide +kernel
theorem dX2_init_14 : decode cX2_init 14 = .ok (.sipush 525, 3) := by decide +kernel
theorem dX2_init_17 : decode cX2_init 17 = .ok (.newarray .int, 2) := by decide +kernel
theorem dX2_init_19 : decode cX2_init 19 = .ok (.putfield 15, 3) := by decide +kernel
theorem dX2_init_22 : decode cX2_init 22 = .ok (.aload_n 0, 1) := by decide +kernel
theorem dX2_init_23 : decode cX2_init 23 = .ok (.sipush 525, 3) := by decide +kernel
theorem dX2_init_26 : decode cX2_init 26 = .ok (.newarray .int, 2) := by decide +kernel
theorem dX2_init_28 : decode cX2_init 28 = .ok (.putfield 18, 3) := by decide +kernel
theorem dX2_init_31 : decode cX2_init 31 = .ok (.return_, 1) := by decide +kernel
theorem dX2_clear_0 : decode cX2_clear 0 = .ok (.iconst 0, 1) := by decide +kernel
theorem dX2_clear_1 : decode cX2_clear 1 = .ok (.istore_n 1, 1) := by decide +kernel
theorem dX2_clear_2 : decode cX2_clear 2 = .ok (.iload_n 1, 1) := by decide +kernel
theorem dX2_clear_3 : decode cX2_clear 3 = .ok (.aload_n 0, 1) := by decide +kernel
theorem dX2_clear_4 : decode cX2_clear 4 = .ok (.getfield 21, 3) := by decide +kernel
theorem dX2_clear_7 : decode cX2_clear 7 = .ok (.if_icmp .ge 25, 3) := by decide +kernel
theorem dX2_clear_10 : decode cX2_clear 10 = .ok (.aload_n 0, 1) := by decide +kernel
theorem dX2_clear_11 : decode cX2_clear 11 = .ok (.getfield 9, 3) := by decide +kernel
theorem dX2_clear_14 : decode cX2_clear 14 = .ok (.aload_n 0, 1) := by decide +kernel
theorem dX2_clear_15 : decode cX2_clear 15 = .ok (.getfield 15, 3) := by decide +kernel
theorem dX2_clear_18 : decode cX2_clear 18 = .ok (.iload_n 1, 1) := by decide +kernel
theorem dX2_clear_19 : decode cX2_clear 19 = .ok (.iaload, 1) := by decide +kernel
theorem dX2_clear_20 : decode cX2_clear 20 = .ok (.sipush 16383, 3) := by decide +kernel
theorem dX2_clear_23 : decode cX2_clear 23 = .ok (.iand, 1) := by decide +kernel
theorem dX2_clear_24 : decode cX2_clear 24 = .ok (.iconst 0, 1) := by decide +kernel
theorem dX2_clear_25 : decode cX2_clear 25 = .ok (.iastore, 1) := by decide +kernel
theorem dX2_clear_26 : decode cX2_clear 26 = .ok (.iinc 1 1, 3) := by decide +kernel
theorem dX2_clear_29 : decode cX2_clear 29 = .ok (.goto (-27), 3) := by decide +kernel
theorem dX2_clear_32 : decode cX2_clear 32 = .ok (.aload_n 0, 1) := by decide +kernel
theorem dX2_clear_33 : decode cX2_clear 33 = .ok (.iconst 0, 1) := by decide +kernel
theorem dX2_clear_34 : decode cX2_clear 34 = .ok (.putfield 21, 3) := by decide +kernel
theorem dX2_clear_37 : decode cX2_clear 37 = .ok (.return_, 1) := by decide +kernel
theorem dX2_spotOf_0 : decode cX2_spotOf 0 = .ok (.iload_n 1, 1) := by decide +kernel
theorem dX2_spotOf_1 : decode cX2_spotOf 1 = .ok (.sipush 16383, 3) := by decide +kernel
theorem dX2_spotOf_4 : decode cX2_spotOf 4 = .ok (.iand, 1) := by decide +kernel
theorem dX2_spotOf_5 : decode cX2_spotOf 5 = .ok (.istore_n 2, 1) := by decide +kernel
theorem dX2_spotOf_6 : decode cX2_spotOf 6 = .ok (.iload_n 2, 1) := by decide +kernel
theorem dX2_spotOf_7 : decode cX2_spotOf 7 = .ok (.sipush 3125, 3) := by decide +kernel
theorem dX2_spotOf_10 : decode cX2_spotOf 10 = .ok (.if_icmp .lt 7, 3) := by decide +kernel
theorem dX2_spotOf_13 : decode cX2_spotOf 13 = .ok (.iconst (-1), 1) := by decide +kernel
theorem dX2_spotOf_14 : decode cX2_spotOf 14 = .ok (.goto 11, 3) := by decide +kernel
theorem dX2_spotOf_17 : decode cX2_spotOf 17 = .ok (.aload_n 0, 1) := by decide +kernel
theorem dX2_spotOf_18 : decode cX2_spotOf 18 = .ok (.getfield 9, 3) := by decide +kernel
theorem dX2_spotOf_21 : decode cX2_spotOf 21 = .ok (.iload_n 2, 1) := by decide +kernel
theorem dX2_spotOf_22 : decode cX2_spotOf 22 = .ok (.iaload, 1) := by decide +kernel
theorem dX2_spotOf_23 : decode cX2_spotOf 23 = .ok (.iconst 1, 1) := by decide +kernel
theorem dX2_spotOf_24 : decode cX2_spotOf 24 = .ok (.isub, 1) := by decide +kernel
theorem dX2_spotOf_25 : decode cX2_spotOf 25 = .ok (.ireturn, 1) := by decide +kernel
theorem dX2_enter_0 : decode cX2_enter 0 = .ok (.iload_n 1, 1) := by decide +kernel
theorem dX2_enter_1 : decode cX2_enter 1 = .ok (.sipush 16383, 3) := by decide +kernel
theorem dX2_enter_4 : decode cX2_enter 4 = .ok (.iand, 1) := by decide +kernel
theorem dX2_enter_5 : decode cX2_enter 5 = .ok (.istore_n 2, 1) := by decide +kernel
theorem dX2_enter_6 : decode cX2_enter 6 = .ok (.iload_n 2, 1) := by decide +kernel
theorem dX2_enter_7 : decode cX2_enter 7 = .ok (.sipush 3125, 3) := by decide +kernel
theorem dX2_enter_10 : decode cX2_enter 10 = .ok (.if_icmp .lt 5, 3) := by decide +kernel
theorem dX2_enter_13 : decode cX2_enter 13 = .ok (.iconst (-1), 1) := by decide +kernel
theorem dX2_enter_14 : decode cX2_enter 14 = .ok (.ireturn, 1) := by decide +kernel
theorem dX2_enter_15 : decode cX2_enter 15 = .ok (.aload_n 0, 1) := by decide +kernel
theorem dX2_enter_16 : decode cX2_enter 16 = .ok (.getfield 9, 3) := by decide +kernel
theorem dX2_enter_19 : decode cX2_enter 19 = .ok (.iload_n 2, 1) := by decide +kernel
theorem dX2_enter_20 : decode cX2_enter 20 = .ok (.iaload, 1) := by decide +kernel
theorem dX2_enter_21 : decode cX2_enter 21 = .ok (.ifCond .ne 53, 3) := by decide +kernel
theorem dX2_enter_24 : decode cX2_enter 24 = .ok (.aload_n 0, 1) := by decide +kernel
theorem dX2_enter_25 : decode cX2_enter 25 = .ok (.getfield 21, 3) := by decide +kernel
theorem dX2_enter_28 : decode cX2_enter 28 = .ok (.sipush 525, 3) := by decide +kernel
theorem dX2_enter_31 : decode cX2_enter 31 = .ok (.if_icmp .ge 43, 3) := by decide +kernel
theorem dX2_enter_34 : decode cX2_enter 34 = .ok (.aload_n 0, 1) := by decide +kernel
theorem dX2_enter_35 : decode cX2_enter 35 = .ok (.getfield 15, 3) := by decide +kernel
theorem dX2_enter_38 : decode cX2_enter 38 = .ok (.aload_n 0, 1) := by decide +kernel
theorem dX2_enter_39 : decode cX2_enter 39 = .ok (.getfield 21, 3) := by decide +kernel
theorem dX2_enter_42 : decode cX2_enter 42 = .ok (.iload_n 1, 1) := by decide +kernel
theorem dX2_enter_43 : decode cX2_enter 43 = .ok (.iastore, 1) := by decide +kernel
theorem dX2_enter_44 : decode cX2_enter 44 = .ok (.aload_n 0, 1) := by decide +kernel
theorem dX2_enter_45 : decode cX2_enter 45 = .ok (.getfield 18, 3) := by decide +kernel
theorem dX2_enter_48 : decode cX2_enter 48 = .ok (.aload_n 0, 1) := by decide +kernel
theorem dX2_enter_49 : decode cX2_enter 49 = .ok (.getfield 21, 3) := by decide +kernel
theorem dX2_enter_52 : decode cX2_enter 52 = .ok (.iconst 0, 1) := by decide +kernel
theorem dX2_enter_53 : decode cX2_enter 53 = .ok (.iastore, 1) := by decide +kernel
theorem dX2_enter_54 : decode cX2_enter 54 = .ok (.aload_n 0, 1) := by decide +kernel
theorem dX2_enter_55 : decode cX2_enter 55 = .ok (.dup, 1) := by decide +kernel
theorem dX2_enter_56 : decode cX2_enter 56 = .ok (.getfield 21, 3) := by decide +kernel
theorem dX2_enter_59 : decode cX2_enter 59 = .ok (.iconst 1, 1) := by decide +kernel
theorem dX2_enter_60 : decode cX2_enter 60 = .ok (.iadd, 1) := by decide +kernel
theorem dX2_enter_61 : decode cX2_enter 61 = .ok (.putfield 21, 3) := by decide +kernel
theorem dX2_enter_64 : decode cX2_enter 64 = .ok (.aload_n 0, 1) := by decide +kernel
theorem dX2_enter_65 : decode cX2_enter 65 = .ok (.getfield 9, 3) := by decide +kernel
theorem dX2_enter_68 : decode cX2_enter 68 = .ok (.iload_n 2, 1) := by decide +kernel
theorem dX2_enter_69 : decode cX2_enter 69 = .ok (.aload_n 0, 1) := by decide +kernel
theorem dX2_enter_70 : decode cX2_enter 70 = .ok (.getfield 21, 3) := by decide +kernel
theorem dX2_enter_73 : decode cX2_enter 73 = .ok (.iastore, 1) := by decide +kernel
theorem dX2_enter_74 : decode cX2_enter 74 = .ok (.aload_n 0, 1) := by decide +kernel
theorem dX2_enter_75 : decode cX2_enter 75 = .ok (.getfield 9, 3) := by decide +kernel
theorem dX2_enter_78 : decode cX2_enter 78 = .ok (.iload_n 2, 1) := by decide +kernel
theorem dX2_enter_79 : decode cX2_enter 79 = .ok (.iaload, 1) := by decide +kernel
theorem dX2_enter_80 : decode cX2_enter 80 = .ok (.iconst 1, 1) := by decide +kernel
theorem dX2_enter_81 : decode cX2_enter 81 = .ok (.isub, 1) := by decide +kernel
theorem dX2_enter_82 : decode cX2_enter 82 = .ok (.ireturn, 1) := by decide +kernel
set_option maxRecDepth 20000 in
theorem ggX2_addTo_X2_enter : GoodIn wsX2_addTo wsX2_enter := goodIn_r _ [6, 7, 8, 9, 1, 10, 11, 12, 13] (by decide +kernel) (by decide +kernel)
set_option maxRecDepth 20000 in
theorem gX2_addTo_X2_enter : GoodIn wsX2_addTo (wsV RX2 25 RX2 yX2_enter wsX2_enter) := goodIn_app (goodIn_of _ (by decide +kernel)) ggX2_addTo_X2_enter
theorem dX2_addTo_0 : decode cX2_addTo 0 = .ok (.aload_n 0, 1) := by decide +kernel
theorem dX2_addTo_1 : decode cX2_addTo 1 = .ok (.iload_n 1, 1) := by decide +kernel
theorem dX2_addTo_2 : decode cX2_addTo 2 = .ok (.invokevirtual 25, 3) := by decide +kernel
theorem dX2_addTo_5 : decode cX2_addTo 5 = .ok (.istore_n 3, 1) := by decide +kernel
theorem dX2_addTo_6 : decode cX2_addTo 6 = .ok (.iload_n 3, 1) := by decide +kernel
theorem dX2_addTo_7 : decode cX2_addTo 7 = .ok (.ifCond .lt 13, 3) := by decide +kernel
theorem dX2_addTo_10 : decode cX2_addTo 10 = .ok (.aload_n 0, 1) := by decide +kernel
theorem dX2_addTo_11 : decode cX2_addTo 11 = .ok (.getfield 18, 3) := by decide +kernel
theorem dX2_addTo_14 : decode cX2_addTo 14 = .ok (.iload_n 3, 1) := by decide +kernel
theorem dX2_addTo_15 : decode cX2_addTo 15 = .ok (.dup2, 1) := by decide +kernel
theorem dX2_addTo_16 : decode cX2_addTo 16 = .ok (.iaload, 1) := by decide +kernel
theorem dX2_addTo_17 : decode cX2_addTo 17 = .ok (.iload_n 2, 1) := by decide +kernel
theorem dX2_addTo_18 : decode cX2_addTo 18 = .ok (.iadd, 1) := by decide +kernel
theorem dX2_addTo_19 : decode cX2_addTo 19 = .ok (.iastore, 1) := by decide +kernel
theorem dX2_addTo_20 : decode cX2_addTo 20 = .ok (.return_, 1) := by decide +kernel
set_option maxRecDepth 20000 in
theorem ggX2_markIn_X2_enter : GoodIn wsX2_markIn wsX2_enter := goodIn_r _ [6, 7, 8, 9, 1, 10, 11, 12, 13] (by decide +kernel) (by decide +kernel)
set_option maxRecDepth 20000 in
theorem gX2_markIn_X2_enter : GoodIn wsX2_markIn (wsV RX2 25 RX2 yX2_enter wsX2_enter) := goodIn_app (goodIn_of _ (by decide +kernel)) ggX2_markIn_X2_enter
theorem dX2_markIn_0 : decode cX2_markIn 0 = .ok (.aload_n 0, 1) := by decide +kernel
theorem dX2_markIn_1 : decode cX2_markIn 1 = .ok (.iload_n 1, 1) := by decide +kernel
theorem dX2_markIn_2 : decode cX2_markIn 2 = .ok (.invokevirtual 25, 3) := by decide +kernel
theorem dX2_markIn_5 : decode cX2_markIn 5 = .ok (.istore_n 3, 1) := by decide +kernel
theorem dX2_markIn_6 : decode cX2_markIn 6 = .ok (.iload_n 3, 1) := by decide +kernel
theorem dX2_markIn_7 : decode cX2_markIn 7 = .ok (.ifCond .lt 13, 3) := by decide +kernel
theorem dX2_markIn_10 : decode cX2_markIn 10 = .ok (.aload_n 0, 1) := by decide +kernel
theorem dX2_markIn_11 : decode cX2_markIn 11 = .ok (.getfield 18, 3) := by decide +kernel
theorem dX2_markIn_14 : decode cX2_markIn 14 = .ok (.iload_n 3, 1) := by decide +kernel
theorem dX2_markIn_15 : decode cX2_markIn 15 = .ok (.dup2, 1) := by decide +kernel
theorem dX2_markIn_16 : decode cX2_markIn 16 = .ok (.iaload, 1) := by decide +kernel
theorem dX2_markIn_17 : decode cX2_markIn 17 = .ok (.iload_n 2, 1) := by decide +kernel
theorem dX2_markIn_18 : decode cX2_markIn 18 = .ok (.ior, 1) := by decide +kernel
theorem dX2_markIn_19 : decode cX2_markIn 19 = .ok (.iastore, 1) := by decide +kernel
theorem dX2_markIn_20 : decode cX2_markIn 20 = .ok (.return_, 1) := by decide +kernel
theorem dX3_init_0 : decode cX3_init 0 = .ok (.aload_n 0, 1) := by decide +kernel
theorem dX3_init_1 : decode cX3_init 1 = .ok (.invokespecial 3, 3) := by decide +kernel
theorem dX3_init_4 : decode cX3_init 4 = .ok (.aload_n 0, 1) := by decide +kernel
theorem dX3_init_5 : decode cX3_init 5 = .ok (.iload_n 1, 1) := by decide +kernel
theorem dX3_init_6 : decode cX3_init 6 = .ok (.putfield 9, 3) := by decide +kernel
theorem dX3_init_9 : decode cX3_init 9 = .ok (.aload_n 0, 1) := by decide +kernel
theorem dX3_init_10 : decode cX3_init 10 = .ok (.aload_n 2, 1) := by decide +kernel
theorem dX3_init_11 : decode cX3_init 11 = .ok (.putfield 15, 3) := by decide +kernel
theorem dX3_init_14 : decode cX3_init 14 = .ok (.aload_n 0, 1) := by decide +kernel
theorem dX3_init_15 : decode cX3_init 15 = .ok (.aload_n 3, 1) := by decide +kernel
theorem dX3_init_16 : decode cX3_init 16 = .ok (.putfield 19, 3) := by decide +kernel
theorem dX3_init_19 : decode cX3_init 19 = .ok (.iconst 0, 1) := by decide +kernel
theorem dX3_init_20 : decode cX3_init 20 = .ok (.istore 4, 2) := by decide +kernel
theorem dX3_init_22 : decode cX3_init 22 = .ok (.iconst 0, 1) := by decide +kernel
theorem dX3_init_23 : decode cX3_init 23 = .ok (.istore 5, 2) := by decide +kernel
theorem dX3_init_25 : decode cX3_init 25 = .ok (.iconst 0, 1) := by decide +kernel
theorem dX3_init_26 : decode cX3_init 26 = .ok (.istore 6, 2) := by decide +kernel
theorem dX3_init_28 : decode cX3_init 28 = .ok (.iconst 0, 1) := by decide +kernel
theorem dX3_init_29 : decode cX3_init 29 = .ok (.istore 7, 2) := by decide +kernel
theorem dX3_init_31 : decode cX3_init 31 = .ok (.iload 7, 2) := by decide +kernel
theorem dX3_init_33 : decode cX3_init 33 = .ok (.aload_n 2, 1) := by decide +kernel
theorem dX3_init_34 : decode cX3_init 34 = .ok (.arraylength, 1) := by decide +kernel
theorem dX3_init_35 : decode cX3_init 35 = .ok (.if_icmp .ge 88, 3) := by decide +kernel
theorem dX3_init_38 : decode cX3_init 38 = .ok (.aload_n 2, 1) := by decide +kernel
theorem dX3_init_39 : decode cX3_init 39 = .ok (.iload 7, 2) := by decide +kernel
theorem dX3_init_41 : decode cX3_init 41 = .ok (.aaload, 1) := by decide +kernel
theorem dX3_init_42 : decode cX3_init 42 = .ok (.astore 8, 2) := by decide +kernel
theorem dX3_init_44 : decode cX3_init 44 = .ok (.iload 4, 2) := by decide +kernel
theorem dX3_init_46 : decode cX3_init 46 = .ok (.aload 8, 2) := by decide +kernel
theorem dX3_init_48 : decode cX3_init 48 = .ok (.getfield 23, 3) := by decide +kernel
theorem dX3_init_51 : decode cX3_init 51 = .ok (.ifCond .eq 13, 3) := by decide +kernel
theorem dX3_init_54 : decode cX3_init 54 = .ok (.iconst 1, 1) := by decide +kernel
theorem dX3_init_55 : decode cX3_init 55 = .ok (.aload 8, 2) := by decide +kernel
theorem dX3_init_57 : decode cX3_init 57 = .ok (.getfield 28, 3) := by decide +kernel
theorem dX3_init_60 : decode cX3_init 60 = .ok (.ishl, 1) := by decide +kernel
theorem dX3_init_61 : decode cX3_init 61 = .ok (.goto 4, 3) := by decide +kernel
theorem dX3_init_64 : decode cX3_init 64 = .ok (.iconst 0, 1) := by decide +kernel
theorem dX3_init_65 : decode cX3_init 65 = .ok (.ior, 1) := by decide +kernel
theorem dX3_init_66 : decode cX3_init 66 = .ok (.istore 4, 2) := by decide +kernel
theorem dX3_init_68 : decode cX3_init 68 = .ok (.iload 5, 2) := by decide +kernel
theorem dX3_init_70 : decode cX3_init 70 = .ok (.aload 8, 2) := by decide +kernel
theorem dX3_init_72 : decode cX3_init 72 = .ok (.getfield 23, 3) := by decide +kernel
theorem dX3_init_75 : decode cX3_init 75 = .ok (.ifCond .eq 7, 3) := by decide +kernel
theorem dX3_init_78 : decode cX3_init 78 = .ok (.iconst 0, 1) := by decide +kernel
theorem dX3_init_79 : decode cX3_init 79 = .ok (.goto 10, 3) := by decide +kernel
theorem dX3_init_82 : decode cX3_init 82 = .ok (.iconst 1, 1) := by decide +kernel
theorem dX3_init_83 : decode cX3_init 83 = .ok (.aload 8, 2) := by decide +kernel
theorem dX3_init_85 : decode cX3_init 85 = .ok (.getfield 28, 3) := by decide +kernel
theorem dX3_init_88 : decode cX3_init 88 = .ok (.ishl, 1) := by decide +kernel
theorem dX3_init_89 : decode cX3_init 89 = .ok (.ior, 1) := by decide +kernel
theorem dX3_init_90 : decode cX3_init 90 = .ok (.istore 5, 2) := by decide +kernel
theorem dX3_init_92 : decode cX3_init 92 = .ok (.iload 6, 2) := by decide +kernel
theorem dX3_init_94 : decode cX3_init 94 = .ok (.aload 8, 2) := by decide +kernel
theorem dX3_init_96 : decode cX3_init 96 = .ok (.getfield 32, 3) := by decide +kernel
theorem dX3_init_99 : decode cX3_init 99 = .ok (.iconst (-1), 1) := by decide +kernel
theorem dX3_init_100 : decode cX3_init 100 = .ok (.if_icmp .ne 7, 3) := by decide +kernel
theorem dX3_init_103 : decode cX3_init 103 = .ok (.iconst 0, 1) := by decide +kernel
theorem dX3_init_104 : decode cX3_init 104 = .ok (.goto 10, 3) := by decide +kernel
theorem dX3_init_107 : decode cX3_init 107 = .ok (.iconst 1, 1) := by decide +kernel
theorem dX3_init_108 : decode cX3_init 108 = .ok (.aload 8, 2) := by decide +kernel
theorem dX3_init_110 : decode cX3_init 110 = .ok (.getfield 32, 3) := by decide +kernel
theorem dX3_init_113 : decode cX3_init 113 = .ok (.ishl, 1) := by decide +kernel
theorem dX3_init_114 : decode cX3_init 114 = .ok (.ior, 1) := by decide +kernel
theorem dX3_init_115 : decode cX3_init 115 = .ok (.istore 6, 2) := by decide +kernel
theorem dX3_init_117 : decode cX3_init 117 = .ok (.iinc 7 1, 3) := by decide +kernel
theorem dX3_init_120 : decode cX3_init 120 = .ok (.goto (-89), 3) := by decide +kernel
theorem dX3_init_123 : decode cX3_init 123 = .ok (.aload_n 0, 1) := by decide +kernel
theorem dX3_init_124 : decode cX3_init 124 = .ok (.iload 4, 2) := by decide +kernel
theorem dX3_init_126 : decode cX3_init 126 = .ok (.putfield 35, 3) := by decide +kernel
theorem dX3_init_129 : decode cX3_init 129 = .ok (.aload_n 0, 1) := by decide +kernel
theorem dX3_init_130 : decode cX3_init 130 = .ok (.iload 5, 2) := by decide +kernel
theorem dX3_init_132 : decode cX3_init 132 = .ok (.putfield 38, 3) := by decide +kernel
theorem dX3_init_135 : decode cX3_init 135 = .ok (.aload_n 0, 1) := by decide +kernel
theorem dX3_init_136 : decode cX3_init 136 = .ok (.iload 6, 2) := by decide +kernel
theorem dX3_init_138 : decode cX3_init 138 = .ok (.putfield 41, 3) := by decide +kernel
theorem dX3_init_141 : decode cX3_init 141 = .ok (.return_, 1) := by decide +kernel
theorem dX4_init_0 : decode cX4_init 0 = .ok (.aload_n 0, 1) := by decide +kernel
theorem dX4_init_1 : decode cX4_init 1 = .ok (.invokespecial 3, 3) := by decide +kernel
theorem dX4_init_4 : decode cX4_init 4 = .ok (.aload_n 0, 1) := by decide +kernel
theorem dX4_init_5 : decode cX4_init 5 = .ok (.bipush 60, 2) := by decide +kernel
theorem dX4_init_7 : decode cX4_init 7 = .ok (.anewarray 9, 3) := by decide +kernel
theorem dX4_init_10 : decode cX4_init 10 = .ok (.putfield 11, 3) := by decide +kernel
theorem dX4_init_13 : decode cX4_init 13 = .ok (.aload_n 0, 1) := by decide +kernel
theorem dX4_init_14 : decode cX4_init 14 = .ok (.aload_n 1, 1) := by decide +kernel
theorem dX4_init_15 : decode cX4_init 15 = .ok (.putfield 17, 3) := by decide +kernel
theorem dX4_init_18 : decode cX4_init 18 = .ok (.return_, 1) := by decide +kernel
theorem dX4_isFull_0 : decode cX4_isFull 0 = .ok (.aload_n 0, 1) := by decide +kernel
theorem dX4_isFull_1 : decode cX4_isFull 1 = .ok (.getfield 21, 3) := by decide +kernel
theorem dX4_isFull_4 : decode cX4_isFull 4 = .ok (.bipush 60, 2) := by decide +kernel
theorem dX4_isFull_6 : decode cX4_isFull 6 = .ok (.if_icmp .lt 7, 3) := by decide +kernel
theorem dX4_isFull_9 : decode cX4_isFull 9 = .ok (.iconst 1, 1) := by decide +kernel
theorem dX4_isFull_10 : decode cX4_isFull 10 = .ok (.goto 4, 3) := by decide +kernel
theorem dX4_isFull_13 : decode cX4_isFull 13 = .ok (.iconst 0, 1) := by decide +kernel
theorem dX4_isFull_14 : decode cX4_isFull 14 = .ok (.ireturn, 1) := by decide +kernel
theorem dX4_find_0 : decode cX4_find 0 = .ok (.iload_n 1, 1) := by decide +kernel
theorem dX4_find_1 : decode cX4_find 1 = .ok (.ifCond .lt 11, 3) := by decide +kernel
theorem dX4_find_4 : decode cX4_find 4 = .ok (.iload_n 1, 1) := by decide +kernel
theorem dX4_find_5 : decode cX4_find 5 = .ok (.aload_n 0, 1) := by decide +kernel
theorem dX4_find_6 : decode cX4_find 6 = .ok (.getfield 21, 3) := by decide +kernel
theorem dX4_find_9 : decode cX4_find 9 = .ok (.if_icmp .lt 7, 3) := by decide +kernel
theorem dX4_find_12 : decode cX4_find 12 = .ok (.aconst_null, 1) := by decide +kernel
theorem dX4_find_13 : decode cX4_find 13 = .ok (.goto 9, 3) := by decide +kernel
theorem dX4_find_16 : decode cX4_find 16 = .ok (.aload_n 0, 1) := by decide +kernel
theorem dX4_find_17 : decode cX4_find 17 = .ok (.getfield 11, 3) := by decide +kernel
theorem dX4_find_20 : decode cX4_find 20 = .ok (.iload_n 1, 1) := by decide +kernel
theorem dX4_find_21 : decode cX4_find 21 = .ok (.aaload, 1) := by decide +kernel
theorem dX4_find_22 : decode cX4_find 22 = .ok (.areturn, 1) := by decide +kernel
set_option maxRecDepth 20000 in
theorem ggX4_keep_X4_isFull : GoodIn wsX4_keep wsX4_isFull := goodIn_r _ [10, 2, 26, 27, 28] (by decide +kernel) (by decide +kernel)
set_option maxRecDepth 20000 in
theorem gX4_keep_X4_isFull : GoodIn wsX4_keep (wsV RX4 25 RX4 yX4_isFull wsX4_isFull) := goodIn_app (goodIn_of _ (by decide +kernel)) ggX4_keep_X4_isFull
set_option maxRecDepth 20000 in
theorem ggX4_keep_X3_init : GoodIn wsX4_keep wsX3_init := goodIn_r _ [13, 14, 15, 16, 17, 18, 19, 20, 21, 22, 23, 24, 25, 29, 30, 31, 32, 33, 34, 35, 36, 37, 38] (by decide +kernel) (by decide +kernel)
set_option maxRecDepth 20000 in
theorem gX4_keep_X3_init : GoodIn wsX4_keep (wsX3_init) := ggX4_keep_X3_init
theorem dX4_keep_0 : decode cX4_keep 0 = .ok (.aload_n 0, 1) := by decide +kernel
theorem dX4_keep_1 : decode cX4_keep 1 = .ok (.invokevirtual 25, 3) := by decide +kernel
theorem dX4_keep_4 : decode cX4_keep 4 = .ok (.ifCond .eq 6, 3) := by decide +kernel
theorem dX4_keep_7 : decode cX4_keep 7 = .ok (.bipush (-2), 2) := by decide +kernel
theorem dX4_keep_9 : decode cX4_keep 9 = .ok (.ireturn, 1) := by decide +kernel
theorem dX4_keep_10 : decode cX4_keep 10 = .ok (.aload_n 0, 1) := by decide +kernel
theorem dX4_keep_11 : decode cX4_keep 11 = .ok (.getfield 11, 3) := by decide +kernel
theorem dX4_keep_14 : decode cX4_keep 14 = .ok (.aload_n 0, 1) := by decide +kernel
theorem dX4_keep_15 : decode cX4_keep 15 = .ok (.getfield 21, 3) := by decide +kernel
theorem dX4_keep_18 : decode cX4_keep 18 = .ok (.new 9, 3) := by decide +kernel
theorem dX4_keep_21 : decode cX4_keep 21 = .ok (.dup, 1) := by decide +kernel
theorem dX4_keep_22 : decode cX4_keep 22 = .ok (.iload_n 1, 1) := by decide +kernel
theorem dX4_keep_23 : decode cX4_keep 23 = .ok (.aload_n 2, 1) := by decide +kernel
theorem dX4_keep_24 : decode cX4_keep 24 = .ok (.aload_n 3, 1) := by decide +kernel
theorem dX4_keep_25 : decode cX4_keep 25 = .ok (.invokespecial 29, 3) := by decide +kernel
theorem dX4_keep_28 : decode cX4_keep 28 = .ok (.aastore, 1) := by decide +kernel
theorem dX4_keep_29 : decode cX4_keep 29 = .ok (.aload_n 0, 1) := by decide +kernel
theorem dX4_keep_30 : decode cX4_keep 30 = .ok (.dup, 1) := by decide +kernel
theorem dX4_keep_31 : decode cX4_keep 31 = .ok (.getfield 21, 3) := by decide +kernel
theorem dX4_keep_34 : decode cX4_keep 34 = .ok (.iconst 1, 1) := by decide +kernel
theorem dX4_keep_35 : decode cX4_keep 35 = .ok (.iadd, 1) := by decide +kernel
theorem dX4_keep_36 : decode cX4_keep 36 = .ok (.putfield 21, 3) := by decide +kernel
theorem dX4_keep_39 : decode cX4_keep 39 = .ok (.aload_n 0, 1) := by decide +kernel
theorem dX4_keep_40 : decode cX4_keep 40 = .ok (.getfield 21, 3) := by decide +kernel
theorem dX4_keep_43 : decode cX4_keep 43 = .ok (.iconst 1, 1) := by decide +kernel
theorem dX4_keep_44 : decode cX4_keep 44 = .ok (.isub, 1) := by decide +kernel
theorem dX4_keep_45 : decode cX4_keep 45 = .ok (.ireturn, 1) := by decide +kernel
set_option maxRecDepth 20000 in
theorem ggX4_keepWide_X4_keep : GoodIn wsX4_keepWide wsX4_keep := goodIn_r _ [7, 8, 9, 10, 11, 12, 13, 14, 15, 6, 16, 17, 18, 19, 20, 21, 22, 23, 24, 25, 26, 27, 28, 29, 30, 31, 32, 33, 34, 35, 36, 37, 38, 39, 40, 41, 42, 43, 44] (by decide +kernel) (by decide +kernel)
set_option maxRecDepth 20000 in
theorem gX4_keepWide_X4_keep : GoodIn wsX4_keepWide (wsV RX4 34 RX4 yX4_keep wsX4_keep) := goodIn_app (goodIn_of _ (by decide +kernel)) ggX4_keepWide_X4_keep
theorem dX4_keepWide_0 : decode cX4_keepWide 0 = .ok (.aload_n 0, 1) := by decide +kernel
theorem dX4_keepWide_1 : decode cX4_keepWide 1 = .ok (.iconst 1, 1) := by decide +kernel
theorem dX4_keepWide_2 : decode cX4_keepWide 2 = .ok (.iconst 0, 1) := by decide +kernel
theorem dX4_keepWide_3 : decode cX4_keepWide 3 = .ok (.anewarray 32, 3) := by decide +kernel
theorem dX4_keepWide_6 : decode cX4_keepWide 6 = .ok (.iconst 0, 1) := by decide +kernel
theorem dX4_keepWide_7 : decode cX4_keepWide 7 = .ok (.newarray .int, 2) := by decide +kernel
theorem dX4_keepWide_9 : decode cX4_keepWide 9 = .ok (.invokevirtual 34, 3) := by decide +kernel
theorem dX4_keepWide_12 : decode cX4_keepWide 12 = .ok (.ireturn, 1) := by decide +kernel
set_option maxRecDepth 20000 in
theorem ggX4_addPlace_X7_init : GoodIn wsX4_addPlace wsX7_init := goodIn_r _ [8, 9, 10, 11, 12, 13, 14, 15, 51, 52, 53, 54] (by decide +kernel) (by decide +kernel)
set_option maxRecDepth 20000 in
theorem gX4_addPlace_X7_init : GoodIn wsX4_addPlace (wsX7_init) := ggX4_addPlace_X7_init
set_option maxRecDepth 20000 in
theorem ggX4_addPlace_X1_ofOne : GoodIn wsX4_addPlace wsX1_ofOne := goodIn_r _ [19, 20, 21, 22, 18, 23, 24] (by decide +kernel) (by decide +kernel)
set_option maxRecDepth 20000 in
theorem gX4_addPlace_X1_ofOne : GoodIn wsX4_addPlace (va_wsS RX4 41 yX1_ofOne wsX1_ofOne) := goodIn_app (goodIn_of _ (by decide +kernel)) ggX4_addPlace_X1_ofOne
set_option maxRecDepth 20000 in
theorem ggX4_addPlace_X4_keep : GoodIn wsX4_addPlace wsX4_keep := goodIn_r _ [29, 30, 4, 31, 32, 33, 34, 35, 36, 28, 37, 38, 39, 40, 41, 10, 11, 42, 43, 44, 45, 46, 47, 48, 49, 50, 55, 56, 57, 58, 59, 60, 61, 62, 63, 51, 52, 53, 54] (by decide +kernel) (by decide +kernel)
set_option maxRecDepth 20000 in
theorem gX4_addPlace_X4_keep : GoodIn wsX4_addPlace (wsV RX4 34 RX4 yX4_keep wsX4_keep) := goodIn_app (goodIn_of _ (by decide +kernel)) ggX4_addPlace_X4_keep
theorem dX4_addPlace_0 : decode cX4_addPlace 0 = .ok (.iconst 1, 1) := by decide +kernel
theorem dX4_addPlace_1 : decode cX4_addPlace 1 = .ok (.anewarray 32, 3) := by decide +kernel
theorem dX4_addPlace_4 : decode cX4_addPlace 4 = .ok (.dup, 1) := by decide +kernel
theorem dX4_addPlace_5 : decode cX4_addPlace 5 = .ok (.iconst 0, 1) := by decide +kernel
theorem dX4_addPlace_6 : decode cX4_addPlace 6 = .ok (.new 32, 3) := by decide +kernel
theorem dX4_addPlace_9 : decode cX4_addPlace 9 = .ok (.dup, 1) := by decide +kernel
theorem dX4_addPlace_10 : decode cX4_addPlace 10 = .ok (.aload_n 0, 1) := by decide +kernel
theorem dX4_addPlace_11 : decode cX4_addPlace 11 = .ok (.getfield 21, 3) := by decide +kernel
theorem dX4_addPlace_14 : decode cX4_addPlace 14 = .ok (.iload_n 1, 1) := by decide +kernel
theorem dX4_addPlace_15 : decode cX4_addPlace 15 = .ok (.iload_n 2, 1) := by decide +kernel
theorem dX4_addPlace_16 : decode cX4_addPlace 16 = .ok (.iload_n 3, 1) := by decide +kernel
theorem dX4_addPlace_17 : decode cX4_addPlace 17 = .ok (.invokespecial 38, 3) := by decide +kernel
theorem dX4_addPlace_20 : decode cX4_addPlace 20 = .ok (.aastore, 1) := by decide +kernel
theorem dX4_addPlace_21 : decode cX4_addPlace 21 = .ok (.astore 4, 2) := by decide +kernel
theorem dX4_addPlace_23 : decode cX4_addPlace 23 = .ok (.iconst 1, 1) := by decide +kernel
theorem dX4_addPlace_24 : decode cX4_addPlace 24 = .ok (.newarray .int, 2) := by decide +kernel
theorem dX4_addPlace_26 : decode cX4_addPlace 26 = .ok (.dup, 1) := by decide +kernel
theorem dX4_addPlace_27 : decode cX4_addPlace 27 = .ok (.iconst 0, 1) := by decide +kernel
theorem dX4_addPlace_28 : decode cX4_addPlace 28 = .ok (.iconst 0, 1) := by decide +kernel
theorem dX4_addPlace_29 : decode cX4_addPlace 29 = .ok (.iload_n 1, 1) := by decide +kernel
theorem dX4_addPlace_30 : decode cX4_addPlace 30 = .ok (.invokestatic 41, 3) := by decide +kernel
theorem dX4_addPlace_33 : decode cX4_addPlace 33 = .ok (.iastore, 1) := by decide +kernel
theorem dX4_addPlace_34 : decode cX4_addPlace 34 = .ok (.astore 5, 2) := by decide +kernel
theorem dX4_addPlace_36 : decode cX4_addPlace 36 = .ok (.aload_n 0, 1) := by decide +kernel
theorem dX4_addPlace_37 : decode cX4_addPlace 37 = .ok (.iconst 0, 1) := by decide +kernel
theorem dX4_addPlace_38 : decode cX4_addPlace 38 = .ok (.aload 4, 2) := by decide +kernel
theorem dX4_addPlace_40 : decode cX4_addPlace 40 = .ok (.aload 5, 2) := by decide +kernel
theorem dX4_addPlace_42 : decode cX4_addPlace 42 = .ok (.invokevirtual 34, 3) := by decide +kernel
theorem dX4_addPlace_45 : decode cX4_addPlace 45 = .ok (.ireturn, 1) := by decide +kernel
set_option maxRecDepth 20000 in
theorem ggX4_addNothing_X4_keep : GoodIn wsX4_addNothing wsX4_keep := goodIn_r _ [7, 8, 9, 10, 11, 12, 13, 14, 15, 6, 16, 17, 18, 19, 20, 21, 22, 23, 24, 25, 26, 27, 28, 29, 30, 31, 32, 33, 34, 35, 36, 37, 38, 39, 40, 41, 42, 43, 44] (by decide +kernel) (by decide +kernel)
set_option maxRecDepth 20000 in
theorem gX4_addNothing_X4_keep : GoodIn wsX4_addNothing (wsV RX4 34 RX4 yX4_keep wsX4_keep) := goodIn_app (goodIn_of _ (by decide +kernel)) ggX4_addNothing_X4_keep
theorem dX4_addNothing_0 : decode cX4_addNothing 0 = .ok (.iconst 1, 1) := by decide +kernel
theorem dX4_addNothing_1 : decode cX4_addNothing 1 = .ok (.newarray .int, 2) := by decide +kernel
theorem dX4_addNothing_3 : decode cX4_addNothing 3 = .ok (.dup, 1) := by decide +kernel
theorem dX4_addNothing_4 : decode cX4_addNothing 4 = .ok (.iconst 0, 1) := by decide +kernel
theorem dX4_addNothing_5 : decode cX4_addNothing 5 = .ok (.iconst 0, 1) := by decide +kernel
theorem dX4_addNothing_6 : decode cX4_addNothing 6 = .ok (.iastore, 1) := by decide +kernel
theorem dX4_addNothing_7 : decode cX4_addNothing 7 = .ok (.astore_n 1, 1) := by decide +kernel
theorem dX4_addNothing_8 : decode cX4_addNothing 8 = .ok (.aload_n 0, 1) := by decide +kernel
theorem dX4_addNothing_9 : decode cX4_addNothing 9 = .ok (.iconst 0, 1) := by decide +kernel
theorem dX4_addNothing_10 : decode cX4_addNothing 10 = .ok (.iconst 0, 1) := by decide +kernel
theorem dX4_addNothing_11 : decode cX4_addNothing 11 = .ok (.anewarray 32, 3) := by decide +kernel
theorem dX4_addNothing_14 : decode cX4_addNothing 14 = .ok (.aload_n 1, 1) := by decide +kernel
theorem dX4_addNothing_15 : decode cX4_addNothing 15 = .ok (.invokevirtual 34, 3) := by decide +kernel
theorem dX4_addNothing_18 : decode cX4_addNothing 18 = .ok (.ireturn, 1) := by decide +kernel
set_option maxRecDepth 20000 in
theorem ggX4_addPair_X4_keepWide : GoodIn wsX4_addPair wsX4_keepWide := goodIn_r _ [9, 10, 4, 11, 12, 13, 8, 14, 15, 16, 17, 18, 19, 20, 21, 22, 23, 24, 25, 26, 27, 28, 29, 30, 31, 32, 33, 34, 35, 36, 37, 38, 111, 112, 113, 105, 106, 107, 108, 109, 110, 114, 115, 116, 117] (by decide +kernel) (by decide +kernel)
set_option maxRecDepth 20000 in
theorem gX4_addPair_X4_keepWide : GoodIn wsX4_addPair (wsV RX4 51 RX4 yX4_keepWide wsX4_keepWide) := goodIn_app (goodIn_of _ (by decide +kernel)) ggX4_addPair_X4_keepWide
set_option maxRecDepth 20000 in
theorem ggX4_addPair_X7_union : GoodIn wsX4_addPair wsX7_union := goodIn_r _ [42, 43, 44, 45, 46, 41, 47, 114, 115, 116, 117] (by decide +kernel) (by decide +kernel)
set_option maxRecDepth 20000 in
theorem gX4_addPair_X7_union : GoodIn wsX4_addPair (va_wsS RX4 59 yX7_union wsX7_union) := goodIn_app (goodIn_of _ (by decide +kernel)) ggX4_addPair_X7_union
set_option maxRecDepth 20000 in
theorem ggX4_addPair_X1_moved : GoodIn wsX4_addPair wsX1_moved := goodIn_r _ [51, 52, 53, 46, 41, 47, 43, 54, 55, 50, 56, 57, 114, 115, 116, 117] (by decide +kernel) (by decide +kernel)
set_option maxRecDepth 20000 in
theorem gX4_addPair_X1_moved : GoodIn wsX4_addPair (va_wsS RX4 67 yX1_moved wsX1_moved) := goodIn_app (goodIn_of _ (by decide +kernel)) ggX4_addPair_X1_moved
set_option maxRecDepth 20000 in
theorem ggX4_addPair_X4_together : GoodIn wsX4_addPair wsX4_together := goodIn_r _ [61, 62, 63, 64, 65, 66, 67, 68, 69, 70, 71, 72, 73, 74, 50, 75, 76, 77, 78, 79, 80, 81, 82, 83, 84, 85, 86, 87, 88, 89, 90, 91, 92, 4, 93, 94, 95, 96, 97, 98, 99, 100, 111, 112, 113, 118, 119, 120, 121] (by decide +kernel) (by decide +kernel)
set_option maxRecDepth 20000 in
theorem gX4_addPair_X4_together : GoodIn wsX4_addPair (wsV RX4 71 RX4 yX4_together wsX4_together) := goodIn_app (goodIn_of _ (by decide +kernel)) ggX4_addPair_X4_together
set_option maxRecDepth 20000 in
theorem ggX4_addPair_X4_eitherOf : GoodIn wsX4_addPair wsX4_eitherOf := goodIn_r _ [104, 62, 63, 64, 65, 66, 67, 68, 69, 70, 71, 72, 78, 79, 80, 81, 82, 83, 84, 85, 86, 87, 88, 89, 90, 91, 92, 4, 93, 94, 95, 96, 97, 98, 99, 100, 111, 112, 113, 118, 119, 120, 121] (by decide +kernel) (by decide +kernel)
set_option maxRecDepth 20000 in
theorem gX4_addPair_X4_eitherOf : GoodIn wsX4_addPair (wsV RX4 75 RX4 yX4_eitherOf wsX4_eitherOf) := goodIn_app (goodIn_of _ (by decide +kernel)) ggX4_addPair_X4_eitherOf
set_option maxRecDepth 20000 in
theorem ggX4_addPair_X4_keep : GoodIn wsX4_addPair wsX4_keep := goodIn_r _ [14, 15, 16, 17, 18, 19, 20, 21, 22, 8, 23, 24, 25, 26, 27, 28, 29, 30, 31, 32, 33, 34, 35, 36, 37, 38, 111, 112, 113, 105, 106, 107, 108, 109, 110, 114, 115, 116, 117] (by decide +kernel) (by decide +kernel)
set_option maxRecDepth 20000 in
theorem gX4_addPair_X4_keep : GoodIn wsX4_addPair (wsV RX4 34 RX4 yX4_keep wsX4_keep) := goodIn_app (goodIn_of _ (by decide +kernel)) ggX4_addPair_X4_keep
theorem dX4_addPair_0 : decode cX4_addPair 0 = .ok (.aload_n 2, 1) := by decide +kernel
theorem dX4_addPair_1 : decode cX4_addPair 1 = .ok (.getfield 47, 3) := by decide +kernel
theorem dX4_addPair_4 : decode cX4_addPair 4 = .ok (.ifCond .ne 10, 3) := by decide +kernel
theorem dX4_addPair_7 : decode cX4_addPair 7 = .ok (.aload_n 3, 1) := by decide +kernel
theorem dX4_addPair_8 : decode cX4_addPair 8 = .ok (.getfield 47, 3) := by decide +kernel
theorem dX4_addPair_11 : decode cX4_addPair 11 = .ok (.ifCond .eq 8, 3) := by decide +kernel
theorem dX4_addPair_14 : decode cX4_addPair 14 = .ok (.aload_n 0, 1) := by decide +kernel
theorem dX4_addPair_15 : decode cX4_addPair 15 = .ok (.invokevirtual 51, 3) := by decide +kernel
theorem dX4_addPair_18 : decode cX4_addPair 18 = .ok (.ireturn, 1) := by decide +kernel
theorem dX4_addPair_19 : decode cX4_addPair 19 = .ok (.aload_n 2, 1) := by decide +kernel
theorem dX4_addPair_20 : decode cX4_addPair 20 = .ok (.getfield 55, 3) := by decide +kernel
theorem dX4_addPair_23 : decode cX4_addPair 23 = .ok (.aload_n 3, 1) := by decide +kernel
theorem dX4_addPair_24 : decode cX4_addPair 24 = .ok (.getfield 55, 3) := by decide +kernel
theorem dX4_addPair_27 : decode cX4_addPair 27 = .ok (.invokestatic 59, 3) := by decide +kernel
theorem dX4_addPair_30 : decode cX4_addPair 30 = .ok (.astore 4, 2) := by decide +kernel
theorem dX4_addPair_32 : decode cX4_addPair 32 = .ok (.aload 4, 2) := by decide +kernel
theorem dX4_addPair_34 : decode cX4_addPair 34 = .ok (.arraylength, 1) := by decide +kernel
theorem dX4_addPair_35 : decode cX4_addPair 35 = .ok (.iconst 5, 1) := by decide +kernel
theorem dX4_addPair_36 : decode cX4_addPair 36 = .ok (.if_icmp .le 8, 3) := by decide +kernel
theorem dX4_addPair_39 : decode cX4_addPair 39 = .ok (.aload_n 0, 1) := by decide +kernel
theorem dX4_addPair_40 : decode cX4_addPair 40 = .ok (.invokevirtual 51, 3) := by decide +kernel
theorem dX4_addPair_43 : decode cX4_addPair 43 = .ok (.ireturn, 1) := by decide +kernel
theorem dX4_addPair_44 : decode cX4_addPair 44 = .ok (.aload_n 3, 1) := by decide +kernel
theorem dX4_addPair_45 : decode cX4_addPair 45 = .ok (.getfield 63, 3) := by decide +kernel
theorem dX4_addPair_48 : decode cX4_addPair 48 = .ok (.arraylength, 1) := by decide +kernel
theorem dX4_addPair_49 : decode cX4_addPair 49 = .ok (.newarray .int, 2) := by decide +kernel
theorem dX4_addPair_51 : decode cX4_addPair 51 = .ok (.astore 5, 2) := by decide +kernel
theorem dX4_addPair_53 : decode cX4_addPair 53 = .ok (.iconst 0, 1) := by decide +kernel
theorem dX4_addPair_54 : decode cX4_addPair 54 = .ok (.istore 6, 2) := by decide +kernel
theorem dX4_addPair_56 : decode cX4_addPair 56 = .ok (.iload 6, 2) := by decide +kernel
theorem dX4_addPair_58 : decode cX4_addPair 58 = .ok (.aload 5, 2) := by decide +kernel
theorem dX4_addPair_60 : decode cX4_addPair 60 = .ok (.arraylength, 1) := by decide +kernel
theorem dX4_addPair_61 : decode cX4_addPair 61 = .ok (.if_icmp .ge 30, 3) := by decide +kernel
theorem dX4_addPair_64 : decode cX4_addPair 64 = .ok (.aload 5, 2) := by decide +kernel
theorem dX4_addPair_66 : decode cX4_addPair 66 = .ok (.iload 6, 2) := by decide +kernel
theorem dX4_addPair_68 : decode cX4_addPair 68 = .ok (.aload_n 3, 1) := by decide +kernel
theorem dX4_addPair_69 : decode cX4_addPair 69 = .ok (.getfield 63, 3) := by decide +kernel
theorem dX4_addPair_72 : decode cX4_addPair 72 = .ok (.iload 6, 2) := by decide +kernel
theorem dX4_addPair_74 : decode cX4_addPair 74 = .ok (.iaload, 1) := by decide +kernel
theorem dX4_addPair_75 : decode cX4_addPair 75 = .ok (.aload_n 3, 1) := by decide +kernel
theorem dX4_addPair_76 : decode cX4_addPair 76 = .ok (.getfield 55, 3) := by decide +kernel
theorem dX4_addPair_79 : decode cX4_addPair 79 = .ok (.aload 4, 2) := by decide +kernel
theorem dX4_addPair_81 : decode cX4_addPair 81 = .ok (.invokestatic 67, 3) := by decide +kernel
theorem dX4_addPair_84 : decode cX4_addPair 84 = .ok (.iastore, 1) := by decide +kernel
theorem dX4_addPair_85 : decode cX4_addPair 85 = .ok (.iinc 6 1, 3) := by decide +kernel
theorem dX4_addPair_88 : decode cX4_addPair 88 = .ok (.goto (-32), 3) := by decide +kernel
theorem dX4_addPair_91 : decode cX4_addPair 91 = .ok (.aload_n 0, 1) := by decide +kernel
theorem dX4_addPair_92 : decode cX4_addPair 92 = .ok (.iconst 0, 1) := by decide +kernel
theorem dX4_addPair_93 : decode cX4_addPair 93 = .ok (.aload 4, 2) := by decide +kernel
theorem dX4_addPair_95 : decode cX4_addPair 95 = .ok (.iload_n 1, 1) := by decide +kernel
theorem dX4_addPair_96 : decode cX4_addPair 96 = .ok (.ifCond .eq 16, 3) := by decide +kernel
theorem dX4_addPair_99 : decode cX4_addPair 99 = .ok (.aload_n 0, 1) := by decide +kernel
theorem dX4_addPair_100 : decode cX4_addPair 100 = .ok (.aload_n 2, 1) := by decide +kernel
theorem dX4_addPair_101 : decode cX4_addPair 101 = .ok (.getfield 63, 3) := by decide +kernel
theorem dX4_addPair_104 : decode cX4_addPair 104 = .ok (.aload 5, 2) := by decide +kernel
theorem dX4_addPair_106 : decode cX4_addPair 106 = .ok (.invokevirtual 71, 3) := by decide +kernel
theorem dX4_addPair_109 : decode cX4_addPair 109 = .ok (.goto 13, 3) := by decide +kernel
theorem dX4_addPair_112 : decode cX4_addPair 112 = .ok (.aload_n 0, 1) := by decide +kernel
theorem dX4_addPair_113 : decode cX4_addPair 113 = .ok (.aload_n 2, 1) := by decide +kernel
theorem dX4_addPair_114 : decode cX4_addPair 114 = .ok (.getfield 63, 3) := by decide +kernel
theorem dX4_addPair_117 : decode cX4_addPair 117 = .ok (.aload 5, 2) := by decide +kernel
theorem dX4_addPair_119 : decode cX4_addPair 119 = .ok (.invokevirtual 75, 3) := by decide +kernel
theorem dX4_addPair_122 : decode cX4_addPair 122 = .ok (.invokevirtual 34, 3) := by decide +kernel
theorem dX4_addPair_125 : decode cX4_addPair 125 = .ok (.ireturn, 1) := by decide +kernel
set_option maxRecDepth 20000 in
theorem ggX4_addRepeated_X4_keepWide : GoodIn wsX4_addRepeated wsX4_keepWide := goodIn_r _ [7, 8, 9, 10, 11, 12, 6, 13, 14, 15, 16, 17, 18, 19, 20, 21, 22, 23, 24, 25, 26, 27, 28, 29, 30, 31, 32, 33, 34, 35, 36, 37, 99, 100, 101, 93, 94, 95, 96, 97, 98, 102, 103, 104, 105] (by decide +kernel) (by decide +kernel)
set_option maxRecDepth 20000 in
theorem gX4_addRepeated_X4_keepWide : GoodIn wsX4_addRepeated (wsV RX4 51 RX4 yX4_keepWide wsX4_keepWide) := goodIn_app (goodIn_of _ (by decide +kernel)) ggX4_addRepeated_X4_keepWide
set_option maxRecDepth 20000 in
theorem ggX4_addRepeated_X4_repeated : GoodIn wsX4_addRepeated wsX4_repeated := goodIn_r _ [41, 9, 42, 43, 44, 45, 46, 47, 48, 49, 6, 50, 51, 2, 52, 53, 54, 55, 56, 57, 58, 59, 60, 61, 62, 63, 64, 65, 66, 67, 68, 69, 70, 71, 72, 73, 74, 75, 76, 77, 78, 79, 80, 81, 82, 83, 84, 85, 86, 87, 88, 89, 90, 91, 92, 93, 94, 95, 96, 97, 98, 99, 100, 101, 106, 107, 108, 109] (by decide +kernel) (by decide +kernel)
set_option maxRecDepth 20000 in
theorem gX4_addRepeated_X4_repeated : GoodIn wsX4_addRepeated (wsV RX4 78 RX4 yX4_repeated wsX4_repeated) := goodIn_app (goodIn_of _ (by decide +kernel)) ggX4_addRepeated_X4_repeated
set_option maxRecDepth 20000 in
theorem ggX4_addRepeated_X4_keep : GoodIn wsX4_addRepeated wsX4_keep := goodIn_r _ [13, 14, 15, 16, 17, 18, 19, 20, 21, 6, 22, 23, 24, 25, 26, 27, 28, 29, 30, 31, 32, 33, 34, 35, 36, 37, 99, 100, 101, 93, 94, 95, 96, 97, 98, 102, 103, 104, 105] (by decide +kernel) (by decide +kernel)
set_option maxRecDepth 20000 in
theorem gX4_addRepeated_X4_keep : GoodIn wsX4_addRepeated (wsV RX4 34 RX4 yX4_keep wsX4_keep) := goodIn_app (goodIn_of _ (by decide +kernel)) ggX4_addRepeated_X4_keep
theorem dX4_addRepeated_0 : decode cX4_addRepeated 0 = .ok (.aload_n 1, 1) := by decide +kernel
theorem dX4_addRepeated_1 : decode cX4_addRepeated 1 = .ok (.getfield 47, 3) := by decide +kernel
theorem dX4_addRepeated_4 : decode cX4_addRepeated 4 = .ok (.ifCond .eq 8, 3) := by decide +kernel
theorem dX4_addRepeated_7 : decode cX4_addRepeated 7 = .ok (.aload_n 0, 1) := by decide +kernel
theorem dX4_addRepeated_8 : decode cX4_addRepeated 8 = .ok (.invokevirtual 51, 3) := by decide +kernel
theorem dX4_addRepeated_11 : decode cX4_addRepeated 11 = .ok (.ireturn, 1) := by decide +kernel
theorem dX4_addRepeated_12 : decode cX4_addRepeated 12 = .ok (.aload_n 0, 1) := by decide +kernel
theorem dX4_addRepeated_13 : decode cX4_addRepeated 13 = .ok (.iconst 0, 1) := by decide +kernel
theorem dX4_addRepeated_14 : decode cX4_addRepeated 14 = .ok (.aload_n 1, 1) := by decide +kernel
theorem dX4_addRepeated_15 : decode cX4_addRepeated 15 = .ok (.getfield 55, 3) := by decide +kernel
theorem dX4_addRepeated_18 : decode cX4_addRepeated 18 = .ok (.aload_n 0, 1) := by decide +kernel
theorem dX4_addRepeated_19 : decode cX4_addRepeated 19 = .ok (.aload_n 1, 1) := by decide +kernel
theorem dX4_addRepeated_20 : decode cX4_addRepeated 20 = .ok (.iload_n 2, 1) := by decide +kernel
theorem dX4_addRepeated_21 : decode cX4_addRepeated 21 = .ok (.iload_n 3, 1) := by decide +kernel
theorem dX4_addRepeated_22 : decode cX4_addRepeated 22 = .ok (.invokevirtual 78, 3) := by decide +kernel
theorem dX4_addRepeated_25 : decode cX4_addRepeated 25 = .ok (.invokevirtual 34, 3) := by decide +kernel
theorem dX4_addRepeated_28 : decode cX4_addRepeated 28 = .ok (.ireturn, 1) := by decide +kernel
set_option maxRecDepth 20000 in
theorem ggX4_together_X2_clear : GoodIn wsX4_together wsX2_clear := goodIn_r _ [8, 9, 10, 11, 45, 46, 47, 48] (by decide +kernel) (by decide +kernel)
set_option maxRecDepth 20000 in
theorem gX4_together_X2_clear : GoodIn wsX4_together (wsV RX4 82 RX2 yX2_clear wsX2_clear) := goodIn_app (goodIn_of _ (by decide +kernel)) ggX4_together_X2_clear
set_option maxRecDepth 20000 in
theorem ggX4_together_X1_fits : GoodIn wsX4_together wsX1_fits := goodIn_r _ [15, 16, 17] (by decide +kernel) (by decide +kernel)
set_option maxRecDepth 20000 in
theorem gX4_together_X1_fits : GoodIn wsX4_together (va_wsS RX4 87 yX1_fits wsX1_fits) := goodIn_app (goodIn_of _ (by decide +kernel)) ggX4_together_X1_fits
set_option maxRecDepth 20000 in
theorem ggX4_together_X2_enter : GoodIn wsX4_together wsX2_enter := goodIn_r _ [21, 10, 9, 11, 22, 45, 46, 47, 48] (by decide +kernel) (by decide +kernel)
set_option maxRecDepth 20000 in
theorem gX4_together_X2_enter : GoodIn wsX4_together (wsV RX4 91 RX2 yX2_enter wsX2_enter) := goodIn_app (goodIn_of _ (by decide +kernel)) ggX4_together_X2_enter
set_option maxRecDepth 20000 in
theorem ggX4_together_J7_copyOf_59c91 : GoodIn wsX4_together wsJ7_copyOf_59c91 := goodIn_r _ [26, 27, 28, 29, 30, 31, 32, 33, 34, 35, 36, 37, 38, 39, 40, 41] (by decide +kernel) (by decide +kernel)
set_option maxRecDepth 20000 in
theorem gX4_together_J7_copyOf_59c91 : GoodIn wsX4_together (va_wsS RX4 99 yJ7_copyOf_59c91 wsJ7_copyOf_59c91) := goodIn_app (goodIn_of _ (by decide +kernel)) ggX4_together_J7_copyOf_59c91
theorem dX4_together_0 : decode cX4_together 0 = .ok (.aload_n 0, 1) := by decide +kernel
theorem dX4_together_1 : decode cX4_together 1 = .ok (.getfield 17, 3) := by decide +kernel
theorem dX4_together_4 : decode cX4_together 4 = .ok (.invokevirtual 82, 3) := by decide +kernel
theorem dX4_together_7 : decode cX4_together 7 = .ok (.iconst 0, 1) := by decide +kernel
theorem dX4_together_8 : decode cX4_together 8 = .ok (.istore_n 3, 1) := by decide +kernel
theorem dX4_together_9 : decode cX4_together 9 = .ok (.iload_n 3, 1) := by decide +kernel
theorem dX4_together_10 : decode cX4_together 10 = .ok (.aload_n 1, 1) := by decide +kernel
theorem dX4_together_11 : decode cX4_together 11 = .ok (.arraylength, 1) := by decide +kernel
theorem dX4_together_12 : decode cX4_together 12 = .ok (.if_icmp .ge 55, 3) := by decide +kernel
theorem dX4_together_15 : decode cX4_together 15 = .ok (.iconst 0, 1) := by decide +kernel
theorem dX4_together_16 : decode cX4_together 16 = .ok (.istore 4, 2) := by decide +kernel
theorem dX4_together_18 : decode cX4_together 18 = .ok (.iload 4, 2) := by decide +kernel
theorem dX4_together_20 : decode cX4_together 20 = .ok (.aload_n 2, 1) := by decide +kernel
theorem dX4_together_21 : decode cX4_together 21 = .ok (.arraylength, 1) := by decide +kernel
theorem dX4_together_22 : decode cX4_together 22 = .ok (.if_icmp .ge 39, 3) := by decide +kernel
theorem dX4_together_25 : decode cX4_together 25 = .ok (.aload_n 1, 1) := by decide +kernel
theorem dX4_together_26 : decode cX4_together 26 = .ok (.iload_n 3, 1) := by decide +kernel
theorem dX4_together_27 : decode cX4_together 27 = .ok (.iaload, 1) := by decide +kernel
theorem dX4_together_28 : decode cX4_together 28 = .ok (.aload_n 2, 1) := by decide +kernel
theorem dX4_together_29 : decode cX4_together 29 = .ok (.iload 4, 2) := by decide +kernel
theorem dX4_together_31 : decode cX4_together 31 = .ok (.iaload, 1) := by decide +kernel
theorem dX4_together_32 : decode cX4_together 32 = .ok (.iadd, 1) := by decide +kernel
theorem dX4_together_33 : decode cX4_together 33 = .ok (.invokestatic 87, 3) := by decide +kernel
theorem dX4_together_36 : decode cX4_together 36 = .ok (.ifCond .eq 19, 3) := by decide +kernel
theorem dX4_together_39 : decode cX4_together 39 = .ok (.aload_n 0, 1) := by decide +kernel
theorem dX4_together_40 : decode cX4_together 40 = .ok (.getfield 17, 3) := by decide +kernel
theorem dX4_together_43 : decode cX4_together 43 = .ok (.aload_n 1, 1) := by decide +kernel
theorem dX4_together_44 : decode cX4_together 44 = .ok (.iload_n 3, 1) := by decide +kernel
theorem dX4_together_45 : decode cX4_together 45 = .ok (.iaload, 1) := by decide +kernel
theorem dX4_together_46 : decode cX4_together 46 = .ok (.aload_n 2, 1) := by decide +kernel
theorem dX4_together_47 : decode cX4_together 47 = .ok (.iload 4, 2) := by decide +kernel
theorem dX4_together_49 : decode cX4_together 49 = .ok (.iaload, 1) := by decide +kernel
theorem dX4_together_50 : decode cX4_together 50 = .ok (.iadd, 1) := by decide +kernel
theorem dX4_together_51 : decode cX4_together 51 = .ok (.invokevirtual 91, 3) := by decide +kernel
theorem dX4_together_54 : decode cX4_together 54 = .ok (.pop, 1) := by decide +kernel
theorem dX4_together_55 : decode cX4_together 55 = .ok (.iinc 4 1, 3) := by decide +kernel
theorem dX4_together_58 : decode cX4_together 58 = .ok (.goto (-40), 3) := by decide +kernel
theorem dX4_together_61 : decode cX4_together 61 = .ok (.iinc 3 1, 3) := by decide +kernel
theorem dX4_together_64 : decode cX4_together 64 = .ok (.goto (-55), 3) := by decide +kernel
theorem dX4_together_67 : decode cX4_together 67 = .ok (.aload_n 0, 1) := by decide +kernel
theorem dX4_together_68 : decode cX4_together 68 = .ok (.getfield 17, 3) := by decide +kernel
theorem dX4_together_71 : decode cX4_together 71 = .ok (.getfield 95, 3) := by decide +kernel
theorem dX4_together_74 : decode cX4_together 74 = .ok (.aload_n 0, 1) := by decide +kernel
theorem dX4_together_75 : decode cX4_together 75 = .ok (.getfield 17, 3) := by decide +kernel
theorem dX4_together_78 : decode cX4_together 78 = .ok (.getfield 96, 3) := by decide +kernel
theorem dX4_together_81 : decode cX4_together 81 = .ok (.invokestatic 99, 3) := by decide +kernel
theorem dX4_together_84 : decode cX4_together 84 = .ok (.areturn, 1) := by decide +kernel
set_option maxRecDepth 20000 in
theorem ggX4_eitherOf_X2_clear : GoodIn wsX4_eitherOf wsX2_clear := goodIn_r _ [8, 9, 10, 11, 39, 40, 41, 42] (by decide +kernel) (by decide +kernel)
set_option maxRecDepth 20000 in
theorem gX4_eitherOf_X2_clear : GoodIn wsX4_eitherOf (wsV RX4 82 RX2 yX2_clear wsX2_clear) := goodIn_app (goodIn_of _ (by decide +kernel)) ggX4_eitherOf_X2_clear
set_option maxRecDepth 20000 in
theorem ggX4_eitherOf_X2_enter : GoodIn wsX4_eitherOf wsX2_enter := goodIn_r _ [15, 10, 9, 11, 16, 39, 40, 41, 42] (by decide +kernel) (by decide +kernel)
set_option maxRecDepth 20000 in
theorem gX4_eitherOf_X2_enter : GoodIn wsX4_eitherOf (wsV RX4 91 RX2 yX2_enter wsX2_enter) := goodIn_app (goodIn_of _ (by decide +kernel)) ggX4_eitherOf_X2_enter
set_option maxRecDepth 20000 in
theorem ggX4_eitherOf_J7_copyOf_59c91 : GoodIn wsX4_eitherOf wsJ7_copyOf_59c91 := goodIn_r _ [20, 21, 22, 23, 24, 25, 26, 27, 28, 29, 30, 31, 32, 33, 34, 35] (by decide +kernel) (by decide +kernel)
set_option maxRecDepth 20000 in
theorem gX4_eitherOf_J7_copyOf_59c91 : GoodIn wsX4_eitherOf (va_wsS RX4 99 yJ7_copyOf_59c91 wsJ7_copyOf_59c91) := goodIn_app (goodIn_of _ (by decide +kernel)) ggX4_eitherOf_J7_copyOf_59c91
theorem dX4_eitherOf_0 : decode cX4_eitherOf 0 = .ok (.aload_n 0, 1) := by decide +kernel
theorem dX4_eitherOf_1 : decode cX4_eitherOf 1 = .ok (.getfield 17, 3) := by decide +kernel
theorem dX4_eitherOf_4 : decode cX4_eitherOf 4 = .ok (.invokevirtual 82, 3) := by decide +kernel
theorem dX4_eitherOf_7 : decode cX4_eitherOf 7 = .ok (.iconst 0, 1) := by decide +kernel
theorem dX4_eitherOf_8 : decode cX4_eitherOf 8 = .ok (.istore_n 3, 1) := by decide +kernel
theorem dX4_eitherOf_9 : decode cX4_eitherOf 9 = .ok (.iload_n 3, 1) := by decide +kernel
theorem dX4_eitherOf_10 : decode cX4_eitherOf 10 = .ok (.aload_n 1, 1) := by decide +kernel
theorem dX4_eitherOf_11 : decode cX4_eitherOf 11 = .ok (.arraylength, 1) := by decide +kernel
theorem dX4_eitherOf_12 : decode cX4_eitherOf 12 = .ok (.if_icmp .ge 20, 3) := by decide +kernel
theorem dX4_eitherOf_15 : decode cX4_eitherOf 15 = .ok (.aload_n 0, 1) := by decide +kernel
theorem dX4_eitherOf_16 : decode cX4_eitherOf 16 = .ok (.getfield 17, 3) := by decide +kernel
theorem dX4_eitherOf_19 : decode cX4_eitherOf 19 = .ok (.aload_n 1, 1) := by decide +kernel
theorem dX4_eitherOf_20 : decode cX4_eitherOf 20 = .ok (.iload_n 3, 1) := by decide +kernel
theorem dX4_eitherOf_21 : decode cX4_eitherOf 21 = .ok (.iaload, 1) := by decide +kernel
theorem dX4_eitherOf_22 : decode cX4_eitherOf 22 = .ok (.invokevirtual 91, 3) := by decide +kernel
theorem dX4_eitherOf_25 : decode cX4_eitherOf 25 = .ok (.pop, 1) := by decide +kernel
theorem dX4_eitherOf_26 : decode cX4_eitherOf 26 = .ok (.iinc 3 1, 3) := by decide +kernel
theorem dX4_eitherOf_29 : decode cX4_eitherOf 29 = .ok (.goto (-20), 3) := by decide +kernel
theorem dX4_eitherOf_32 : decode cX4_eitherOf 32 = .ok (.iconst 0, 1) := by decide +kernel
theorem dX4_eitherOf_33 : decode cX4_eitherOf 33 = .ok (.istore_n 3, 1) := by decide +kernel
theorem dX4_eitherOf_34 : decode cX4_eitherOf 34 = .ok (.iload_n 3, 1) := by decide +kernel
theorem dX4_eitherOf_35 : decode cX4_eitherOf 35 = .ok (.aload_n 2, 1) := by decide +kernel
theorem dX4_eitherOf_36 : decode cX4_eitherOf 36 = .ok (.arraylength, 1) := by decide +kernel
theorem dX4_eitherOf_37 : decode cX4_eitherOf 37 = .ok (.if_icmp .ge 20, 3) := by decide +kernel
theorem dX4_eitherOf_40 : decode cX4_eitherOf 40 = .ok (.aload_n 0, 1) := by decide +kernel
theorem dX4_eitherOf_41 : decode cX4_eitherOf 41 = .ok (.getfield 17, 3) := by decide +kernel
theorem dX4_eitherOf_44 : decode cX4_eitherOf 44 = .ok (.aload_n 2, 1) := by decide +kernel
theorem dX4_eitherOf_45 : decode cX4_eitherOf 45 = .ok (.iload_n 3, 1) := by decide +kernel
theorem dX4_eitherOf_46 : decode cX4_eitherOf 46 = .ok (.iaload, 1) := by decide +kernel
theorem dX4_eitherOf_47 : decode cX4_eitherOf 47 = .ok (.invokevirtual 91, 3) := by decide +kernel
theorem dX4_eitherOf_50 : decode cX4_eitherOf 50 = .ok (.pop, 1) := by decide +kernel
theorem dX4_eitherOf_51 : decode cX4_eitherOf 51 = .ok (.iinc 3 1, 3) := by decide +kernel
theorem dX4_eitherOf_54 : decode cX4_eitherOf 54 = .ok (.goto (-20), 3) := by decide +kernel
theorem dX4_eitherOf_57 : decode cX4_eitherOf 57 = .ok (.aload_n 0, 1) := by decide +kernel
theorem dX4_eitherOf_58 : decode cX4_eitherOf 58 = .ok (.getfield 17, 3) := by decide +kernel
theorem dX4_eitherOf_61 : decode cX4_eitherOf 61 = .ok (.getfield 95, 3) := by decide +kernel
theorem dX4_eitherOf_64 : decode cX4_eitherOf 64 = .ok (.aload_n 0, 1) := by decide +kernel
theorem dX4_eitherOf_65 : decode cX4_eitherOf 65 = .ok (.getfield 17, 3) := by decide +kernel
theorem dX4_eitherOf_68 : decode cX4_eitherOf 68 = .ok (.getfield 96, 3) := by decide +kernel
theorem dX4_eitherOf_71 : decode cX4_eitherOf 71 = .ok (.invokestatic 99, 3) := by decide +kernel
theorem dX4_eitherOf_74 : decode cX4_eitherOf 74 = .ok (.areturn, 1) := by decide +kernel
set_option maxRecDepth 20000 in
theorem ggX4_repeated_X4_countParts : GoodIn wsX4_repeated wsX4_countParts := goodIn_r _ [11, 12, 13, 2, 14, 15, 16, 17, 18, 19, 20, 21, 22, 23, 24, 25, 26, 27, 28, 29, 30, 31, 32, 33, 34, 35, 36, 37, 38, 39, 40, 41, 42, 43, 44, 45, 46, 61, 62, 63, 55, 56, 57, 58, 59, 60, 64, 65, 66, 67] (by decide +kernel) (by decide +kernel)
set_option maxRecDepth 20000 in
theorem gX4_repeated_X4_countParts : GoodIn wsX4_repeated (wsV RX4 105 RX4 yX4_countParts wsX4_countParts) := goodIn_app (goodIn_of _ (by decide +kernel)) ggX4_repeated_X4_countParts
set_option maxRecDepth 20000 in
theorem ggX4_repeated_X4_holdsEmpty : GoodIn wsX4_repeated wsX4_holdsEmpty := goodIn_r _ [49] (by decide +kernel) (by decide +kernel)
set_option maxRecDepth 20000 in
theorem gX4_repeated_X4_holdsEmpty : GoodIn wsX4_repeated (va_wsS RX4 109 yX4_holdsEmpty wsX4_holdsEmpty) := goodIn_app (goodIn_of _ (by decide +kernel)) ggX4_repeated_X4_holdsEmpty
set_option maxRecDepth 20000 in
theorem ggX4_repeated_X4_bagsMarked : GoodIn wsX4_repeated wsX4_bagsMarked := goodIn_r _ [53, 12, 54, 15, 1, 14, 61, 62, 63, 64, 65, 66, 67] (by decide +kernel) (by decide +kernel)
set_option maxRecDepth 20000 in
theorem gX4_repeated_X4_bagsMarked : GoodIn wsX4_repeated (wsV RX4 119 RX4 yX4_bagsMarked wsX4_bagsMarked) := goodIn_app (goodIn_of _ (by decide +kernel)) ggX4_repeated_X4_bagsMarked
theorem dX4_repeated_0 : decode cX4_repeated 0 = .ok (.iload_n 3, 1) := by decide +kernel
theorem dX4_repeated_1 : decode cX4_repeated 1 = .ok (.iconst (-1), 1) := by decide +kernel
theorem dX4_repeated_2 : decode cX4_repeated 2 = .ok (.if_icmp .eq 12, 3) := by decide +kernel
theorem dX4_repeated_5 : decode cX4_repeated 5 = .ok (.iload_n 3, 1) := by decide +kernel
theorem dX4_repeated_6 : decode cX4_repeated 6 = .ok (.iload_n 2, 1) := by decide +kernel
theorem dX4_repeated_7 : decode cX4_repeated 7 = .ok (.if_icmp .ge 7, 3) := by decide +kernel
theorem dX4_repeated_10 : decode cX4_repeated 10 = .ok (.iconst 0, 1) := by decide +kernel
theorem dX4_repeated_11 : decode cX4_repeated 11 = .ok (.newarray .int, 2) := by decide +kernel
theorem dX4_repeated_13 : decode cX4_repeated 13 = .ok (.areturn, 1) := by decide +kernel
theorem dX4_repeated_14 : decode cX4_repeated 14 = .ok (.aload_n 0, 1) := by decide +kernel
theorem dX4_repeated_15 : decode cX4_repeated 15 = .ok (.aload_n 1, 1) := by decide +kernel
theorem dX4_repeated_16 : decode cX4_repeated 16 = .ok (.invokevirtual 105, 3) := by decide +kernel
theorem dX4_repeated_19 : decode cX4_repeated 19 = .ok (.aload_n 1, 1) := by decide +kernel
theorem dX4_repeated_20 : decode cX4_repeated 20 = .ok (.getfield 63, 3) := by decide +kernel
theorem dX4_repeated_23 : decode cX4_repeated 23 = .ok (.invokestatic 109, 3) := by decide +kernel
theorem dX4_repeated_26 : decode cX4_repeated 26 = .ok (.ifCond .eq 7, 3) := by decide +kernel
theorem dX4_repeated_29 : decode cX4_repeated 29 = .ok (.iconst 0, 1) := by decide +kernel
theorem dX4_repeated_30 : decode cX4_repeated 30 = .ok (.goto 4, 3) := by decide +kernel
theorem dX4_repeated_33 : decode cX4_repeated 33 = .ok (.iload_n 2, 1) := by decide +kernel
theorem dX4_repeated_34 : decode cX4_repeated 34 = .ok (.istore 4, 2) := by decide +kernel
theorem dX4_repeated_36 : decode cX4_repeated 36 = .ok (.iload_n 3, 1) := by decide +kernel
theorem dX4_repeated_37 : decode cX4_repeated 37 = .ok (.iconst (-1), 1) := by decide +kernel
theorem dX4_repeated_38 : decode cX4_repeated 38 = .ok (.if_icmp .ne 8, 3) := by decide +kernel
theorem dX4_repeated_41 : decode cX4_repeated 41 = .ok (.bipush 8, 2) := by decide +kernel
theorem dX4_repeated_43 : decode cX4_repeated 43 = .ok (.goto 9, 3) := by decide +kernel
theorem dX4_repeated_46 : decode cX4_repeated 46 = .ok (.iload_n 3, 1) := by decide +kernel
theorem dX4_repeated_47 : decode cX4_repeated 47 = .ok (.bipush 8, 2) := by decide +kernel
theorem dX4_repeated_49 : decode cX4_repeated 49 = .ok (.invokestatic 113, 3) := by decide +kernel
theorem dX4_repeated_52 : decode cX4_repeated 52 = .ok (.istore 5, 2) := by decide +kernel
theorem dX4_repeated_54 : decode cX4_repeated 54 = .ok (.iconst 0, 1) := by decide +kernel
theorem dX4_repeated_55 : decode cX4_repeated 55 = .ok (.istore 6, 2) := by decide +kernel
theorem dX4_repeated_57 : decode cX4_repeated 57 = .ok (.iload 4, 2) := by decide +kernel
theorem dX4_repeated_59 : decode cX4_repeated 59 = .ok (.istore 7, 2) := by decide +kernel
theorem dX4_repeated_61 : decode cX4_repeated 61 = .ok (.iload 7, 2) := by decide +kernel
theorem dX4_repeated_63 : decode cX4_repeated 63 = .ok (.iload 5, 2) := by decide +kernel
theorem dX4_repeated_65 : decode cX4_repeated 65 = .ok (.if_icmp .gt 18, 3) := by decide +kernel
theorem dX4_repeated_68 : decode cX4_repeated 68 = .ok (.iload 6, 2) := by decide +kernel
theorem dX4_repeated_70 : decode cX4_repeated 70 = .ok (.iconst 1, 1) := by decide +kernel
theorem dX4_repeated_71 : decode cX4_repeated 71 = .ok (.iload 7, 2) := by decide +kernel
theorem dX4_repeated_73 : decode cX4_repeated 73 = .ok (.ishl, 1) := by decide +kernel
theorem dX4_repeated_74 : decode cX4_repeated 74 = .ok (.ior, 1) := by decide +kernel
theorem dX4_repeated_75 : decode cX4_repeated 75 = .ok (.istore 6, 2) := by decide +kernel
theorem dX4_repeated_77 : decode cX4_repeated 77 = .ok (.iinc 7 1, 3) := by decide +kernel
theorem dX4_repeated_80 : decode cX4_repeated 80 = .ok (.goto (-19), 3) := by decide +kernel
theorem dX4_repeated_83 : decode cX4_repeated 83 = .ok (.aload_n 0, 1) := by decide +kernel
theorem dX4_repeated_84 : decode cX4_repeated 84 = .ok (.iload 6, 2) := by decide +kernel
theorem dX4_repeated_86 : decode cX4_repeated 86 = .ok (.invokevirtual 119, 3) := by decide +kernel
theorem dX4_repeated_89 : decode cX4_repeated 89 = .ok (.areturn, 1) := by decide +kernel
theorem dX4_holdsEmpty_0 : decode cX4_holdsEmpty 0 = .ok (.iconst 0, 1) := by decide +kernel
theorem dX4_holdsEmpty_1 : decode cX4_holdsEmpty 1 = .ok (.istore_n 1, 1) := by decide +kernel
theorem dX4_holdsEmpty_2 : decode cX4_holdsEmpty 2 = .ok (.iload_n 1, 1) := by decide +kernel
theorem dX4_holdsEmpty_3 : decode cX4_holdsEmpty 3 = .ok (.aload_n 0, 1) := by decide +kernel
theorem dX4_holdsEmpty_4 : decode cX4_holdsEmpty 4 = .ok (.arraylength, 1) := by decide +kernel
theorem dX4_holdsEmpty_5 : decode cX4_holdsEmpty 5 = .ok (.if_icmp .ge 17, 3) := by decide +kernel
theorem dX4_holdsEmpty_8 : decode cX4_holdsEmpty 8 = .ok (.aload_n 0, 1) := by decide +kernel
theorem dX4_holdsEmpty_9 : decode cX4_holdsEmpty 9 = .ok (.iload_n 1, 1) := by decide +kernel
theorem dX4_holdsEmpty_10 : decode cX4_holdsEmpty 10 = .ok (.iaload, 1) := by decide +kernel
theorem dX4_holdsEmpty_11 : decode cX4_holdsEmpty 11 = .ok (.ifCond .ne 5, 3) := by decide +kernel
theorem dX4_holdsEmpty_14 : decode cX4_holdsEmpty 14 = .ok (.iconst 1, 1) := by decide +kernel
theorem dX4_holdsEmpty_15 : decode cX4_holdsEmpty 15 = .ok (.ireturn, 1) := by decide +kernel
theorem dX4_holdsEmpty_16 : decode cX4_holdsEmpty 16 = .ok (.iinc 1 1, 3) := by decide +kernel
theorem dX4_holdsEmpty_19 : decode cX4_holdsEmpty 19 = .ok (.goto (-17), 3) := by decide +kernel
theorem dX4_holdsEmpty_22 : decode cX4_holdsEmpty 22 = .ok (.iconst 0, 1) := by decide +kernel
theorem dX4_holdsEmpty_23 : decode cX4_holdsEmpty 23 = .ok (.ireturn, 1) := by decide +kernel
set_option maxRecDepth 20000 in
theorem ggX4_countParts_X2_clear : GoodIn wsX4_countParts wsX2_clear := goodIn_r _ [10, 11, 12, 13, 46, 47, 48, 49] (by decide +kernel) (by decide +kernel)
set_option maxRecDepth 20000 in
theorem gX4_countParts_X2_clear : GoodIn wsX4_countParts (wsV RX4 82 RX2 yX2_clear wsX2_clear) := goodIn_app (goodIn_of _ (by decide +kernel)) ggX4_countParts_X2_clear
set_option maxRecDepth 20000 in
theorem ggX4_countParts_X2_markIn : GoodIn wsX4_countParts wsX2_markIn := goodIn_r _ [17, 18, 19, 20, 21, 9, 22, 12, 11, 13, 46, 47, 48, 49] (by decide +kernel) (by decide +kernel)
set_option maxRecDepth 20000 in
theorem gX4_countParts_X2_markIn : GoodIn wsX4_countParts (wsV RX4 123 RX2 yX2_markIn wsX2_markIn) := goodIn_app (goodIn_of _ (by decide +kernel)) ggX4_countParts_X2_markIn
set_option maxRecDepth 20000 in
theorem ggX4_countParts_X1_indexesOf : GoodIn wsX4_countParts wsX1_indexesOf := goodIn_r _ [26, 27] (by decide +kernel) (by decide +kernel)
set_option maxRecDepth 20000 in
theorem gX4_countParts_X1_indexesOf : GoodIn wsX4_countParts (va_wsS RX4 127 yX1_indexesOf wsX1_indexesOf) := goodIn_app (goodIn_of _ (by decide +kernel)) ggX4_countParts_X1_indexesOf
set_option maxRecDepth 20000 in
theorem ggX4_countParts_X2_spotOf : GoodIn wsX4_countParts wsX2_spotOf := goodIn_r _ [31, 12, 46, 47, 48, 49] (by decide +kernel) (by decide +kernel)
set_option maxRecDepth 20000 in
theorem gX4_countParts_X2_spotOf : GoodIn wsX4_countParts (wsV RX4 130 RX2 yX2_spotOf wsX2_spotOf) := goodIn_app (goodIn_of _ (by decide +kernel)) ggX4_countParts_X2_spotOf
set_option maxRecDepth 20000 in
theorem ggX4_countParts_X1_fits : GoodIn wsX4_countParts wsX1_fits := goodIn_r _ [34, 35, 36] (by decide +kernel) (by decide +kernel)
set_option maxRecDepth 20000 in
theorem gX4_countParts_X1_fits : GoodIn wsX4_countParts (va_wsS RX4 87 yX1_fits wsX1_fits) := goodIn_app (goodIn_of _ (by decide +kernel)) ggX4_countParts_X1_fits
theorem dX4_countParts_0 : decode cX4_countParts 0 = .ok (.aload_n 0, 1) := by decide +kernel
theorem dX4_countParts_1 : decode cX4_countParts 1 = .ok (.getfield 17, 3) := by decide +kernel
theorem dX4_countParts_4 : decode cX4_countParts 4 = .ok (.invokevirtual 82, 3) := by decide +kernel
theorem dX4_countParts_7 : decode cX4_countParts 7 = .ok (.aload_n 0, 1) := by decide +kernel
theorem dX4_countParts_8 : decode cX4_countParts 8 = .ok (.getfield 17, 3) := by decide +kernel
theorem dX4_countParts_11 : decode cX4_countParts 11 = .ok (.iconst 0, 1) := by decide +kernel
theorem dX4_countParts_12 : decode cX4_countParts 12 = .ok (.iconst 1, 1) := by decide +kernel
theorem dX4_countParts_13 : decode cX4_countParts 13 = .ok (.invokevirtual 123, 3) := by decide +kernel
theorem dX4_countParts_16 : decode cX4_countParts 16 = .ok (.aload_n 1, 1) := by decide +kernel
theorem dX4_countParts_17 : decode cX4_countParts 17 = .ok (.getfield 55, 3) := by decide +kernel
theorem dX4_countParts_20 : decode cX4_countParts 20 = .ok (.arraylength, 1) := by decide +kernel
theorem dX4_countParts_21 : decode cX4_countParts 21 = .ok (.invokestatic 127, 3) := by decide +kernel
theorem dX4_countParts_24 : decode cX4_countParts 24 = .ok (.istore_n 2, 1) := by decide +kernel
theorem dX4_countParts_25 : decode cX4_countParts 25 = .ok (.iconst 0, 1) := by decide +kernel
theorem dX4_countParts_26 : decode cX4_countParts 26 = .ok (.istore_n 3, 1) := by decide +kernel
theorem dX4_countParts_27 : decode cX4_countParts 27 = .ok (.iload_n 3, 1) := by decide +kernel
theorem dX4_countParts_28 : decode cX4_countParts 28 = .ok (.iload_n 2, 1) := by decide +kernel
theorem dX4_countParts_29 : decode cX4_countParts 29 = .ok (.if_icmp .ge 102, 3) := by decide +kernel
theorem dX4_countParts_32 : decode cX4_countParts 32 = .ok (.aload_n 0, 1) := by decide +kernel
theorem dX4_countParts_33 : decode cX4_countParts 33 = .ok (.getfield 17, 3) := by decide +kernel
theorem dX4_countParts_36 : decode cX4_countParts 36 = .ok (.iload_n 3, 1) := by decide +kernel
theorem dX4_countParts_37 : decode cX4_countParts 37 = .ok (.invokevirtual 130, 3) := by decide +kernel
theorem dX4_countParts_40 : decode cX4_countParts 40 = .ok (.istore 4, 2) := by decide +kernel
theorem dX4_countParts_42 : decode cX4_countParts 42 = .ok (.iconst 0, 1) := by decide +kernel
theorem dX4_countParts_43 : decode cX4_countParts 43 = .ok (.istore 5, 2) := by decide +kernel
theorem dX4_countParts_45 : decode cX4_countParts 45 = .ok (.iload 4, 2) := by decide +kernel
theorem dX4_countParts_47 : decode cX4_countParts 47 = .ok (.ifCond .lt 78, 3) := by decide +kernel
theorem dX4_countParts_50 : decode cX4_countParts 50 = .ok (.iload 5, 2) := by decide +kernel
theorem dX4_countParts_52 : decode cX4_countParts 52 = .ok (.aload_n 1, 1) := by decide +kernel
theorem dX4_countParts_53 : decode cX4_countParts 53 = .ok (.getfield 63, 3) := by decide +kernel
theorem dX4_countParts_56 : decode cX4_countParts 56 = .ok (.arraylength, 1) := by decide +kernel
theorem dX4_countParts_57 : decode cX4_countParts 57 = .ok (.if_icmp .ge 68, 3) := by decide +kernel
theorem dX4_countParts_60 : decode cX4_countParts 60 = .ok (.aload_n 0, 1) := by decide +kernel
theorem dX4_countParts_61 : decode cX4_countParts 61 = .ok (.getfield 17, 3) := by decide +kernel
theorem dX4_countParts_64 : decode cX4_countParts 64 = .ok (.getfield 95, 3) := by decide +kernel
theorem dX4_countParts_67 : decode cX4_countParts 67 = .ok (.iload 4, 2) := by decide +kernel
theorem dX4_countParts_69 : decode cX4_countParts 69 = .ok (.iaload, 1) := by decide +kernel
theorem dX4_countParts_70 : decode cX4_countParts 70 = .ok (.aload_n 1, 1) := by decide +kernel
theorem dX4_countParts_71 : decode cX4_countParts 71 = .ok (.getfield 63, 3) := by decide +kernel
theorem dX4_countParts_74 : decode cX4_countParts 74 = .ok (.iload 5, 2) := by decide +kernel
theorem dX4_countParts_76 : decode cX4_countParts 76 = .ok (.iaload, 1) := by decide +kernel
theorem dX4_countParts_77 : decode cX4_countParts 77 = .ok (.iadd, 1) := by decide +kernel
theorem dX4_countParts_78 : decode cX4_countParts 78 = .ok (.istore 6, 2) := by decide +kernel
theorem dX4_countParts_80 : decode cX4_countParts 80 = .ok (.aload_n 1, 1) := by decide +kernel
theorem dX4_countParts_81 : decode cX4_countParts 81 = .ok (.getfield 63, 3) := by decide +kernel
theorem dX4_countParts_84 : decode cX4_countParts 84 = .ok (.iload 5, 2) := by decide +kernel
theorem dX4_countParts_86 : decode cX4_countParts 86 = .ok (.iaload, 1) := by decide +kernel
theorem dX4_countParts_87 : decode cX4_countParts 87 = .ok (.ifCond .eq 32, 3) := by decide +kernel
theorem dX4_countParts_90 : decode cX4_countParts 90 = .ok (.iload 6, 2) := by decide +kernel
theorem dX4_countParts_92 : decode cX4_countParts 92 = .ok (.invokestatic 87, 3) := by decide +kernel
theorem dX4_countParts_95 : decode cX4_countParts 95 = .ok (.ifCond .eq 24, 3) := by decide +kernel
theorem dX4_countParts_98 : decode cX4_countParts 98 = .ok (.aload_n 0, 1) := by decide +kernel
theorem dX4_countParts_99 : decode cX4_countParts 99 = .ok (.getfield 17, 3) := by decide +kernel
theorem dX4_countParts_102 : decode cX4_countParts 102 = .ok (.iload 6, 2) := by decide +kernel
theorem dX4_countParts_104 : decode cX4_countParts 104 = .ok (.aload_n 0, 1) := by decide +kernel
theorem dX4_countParts_105 : decode cX4_countParts 105 = .ok (.getfield 17, 3) := by decide +kernel
theorem dX4_countParts_108 : decode cX4_countParts 108 = .ok (.getfield 133, 3) := by decide +kernel
theorem dX4_countParts_111 : decode cX4_countParts 111 = .ok (.iload 4, 2) := by decide +kernel
theorem dX4_countParts_113 : decode cX4_countParts 113 = .ok (.iaload, 1) := by decide +kernel
theorem dX4_countParts_114 : decode cX4_countParts 114 = .ok (.iconst 1, 1) := by decide +kernel
theorem dX4_countParts_115 : decode cX4_countParts 115 = .ok (.ishl, 1) := by decide +kernel
theorem dX4_countParts_116 : decode cX4_countParts 116 = .ok (.invokevirtual 123, 3) := by decide +kernel
theorem dX4_countParts_119 : decode cX4_countParts 119 = .ok (.iinc 5 1, 3) := by decide +kernel
theorem dX4_countParts_122 : decode cX4_countParts 122 = .ok (.goto (-77), 3) := by decide +kernel
theorem dX4_countParts_125 : decode cX4_countParts 125 = .ok (.iinc 3 1, 3) := by decide +kernel
theorem dX4_countParts_128 : decode cX4_countParts 128 = .ok (.goto (-101), 3) := by decide +kernel
theorem dX4_countParts_131 : decode cX4_countParts 131 = .ok (.return_, 1) := by decide +kernel
theorem dX4_bagsMarked_0 : decode cX4_bagsMarked 0 = .ok (.iconst 0, 1) := by decide +kernel
theorem dX4_bagsMarked_1 : decode cX4_bagsMarked 1 = .ok (.istore_n 2, 1) := by decide +kernel
theorem dX4_bagsMarked_2 : decode cX4_bagsMarked 2 = .ok (.iconst 0, 1) := by decide +kernel
theorem dX4_bagsMarked_3 : decode cX4_bagsMarked 3 = .ok (.istore_n 3, 1) := by decide +kernel
theorem dX4_bagsMarked_4 : decode cX4_bagsMarked 4 = .ok (.iload_n 3, 1) := by decide +kernel
theorem dX4_bagsMarked_5 : decode cX4_bagsMarked 5 = .ok (.aload_n 0, 1) := by decide +kernel
theorem dX4_bagsMarked_6 : decode cX4_bagsMarked 6 = .ok (.getfield 17, 3) := by decide +kernel
theorem dX4_bagsMarked_9 : decode cX4_bagsMarked 9 = .ok (.getfield 96, 3) := by decide +kernel
theorem dX4_bagsMarked_12 : decode cX4_bagsMarked 12 = .ok (.if_icmp .ge 31, 3) := by decide +kernel
theorem dX4_bagsMarked_15 : decode cX4_bagsMarked 15 = .ok (.iload_n 2, 1) := by decide +kernel
theorem dX4_bagsMarked_16 : decode cX4_bagsMarked 16 = .ok (.aload_n 0, 1) := by decide +kernel
theorem dX4_bagsMarked_17 : decode cX4_bagsMarked 17 = .ok (.getfield 17, 3) := by decide +kernel
theorem dX4_bagsMarked_20 : decode cX4_bagsMarked 20 = .ok (.getfield 133, 3) := by decide +kernel
theorem dX4_bagsMarked_23 : decode cX4_bagsMarked 23 = .ok (.iload_n 3, 1) := by decide +kernel
theorem dX4_bagsMarked_24 : decode cX4_bagsMarked 24 = .ok (.iaload, 1) := by decide +kernel
theorem dX4_bagsMarked_25 : decode cX4_bagsMarked 25 = .ok (.iload_n 1, 1) := by decide +kernel
theorem dX4_bagsMarked_26 : decode cX4_bagsMarked 26 = .ok (.iand, 1) := by decide +kernel
theorem dX4_bagsMarked_27 : decode cX4_bagsMarked 27 = .ok (.ifCond .eq 7, 3) := by decide +kernel
theorem dX4_bagsMarked_30 : decode cX4_bagsMarked 30 = .ok (.iconst 1, 1) := by decide +kernel
theorem dX4_bagsMarked_31 : decode cX4_bagsMarked 31 = .ok (.goto 4, 3) := by decide +kernel
theorem dX4_bagsMarked_34 : decode cX4_bagsMarked 34 = .ok (.iconst 0, 1) := by decide +kernel
theorem dX4_bagsMarked_35 : decode cX4_bagsMarked 35 = .ok (.iadd, 1) := by decide +kernel
theorem dX4_bagsMarked_36 : decode cX4_bagsMarked 36 = .ok (.istore_n 2, 1) := by decide +kernel
theorem dX4_bagsMarked_37 : decode cX4_bagsMarked 37 = .ok (.iinc 3 1, 3) := by decide +kernel
theorem dX4_bagsMarked_40 : decode cX4_bagsMarked 40 = .ok (.goto (-36), 3) := by decide +kernel
theorem dX4_bagsMarked_43 : decode cX4_bagsMarked 43 = .ok (.iload_n 2, 1) := by decide +kernel
theorem dX4_bagsMarked_44 : decode cX4_bagsMarked 44 = .ok (.newarray .int, 2) := by decide +kernel
theorem dX4_bagsMarked_46 : decode cX4_bagsMarked 46 = .ok (.astore_n 3, 1) := by decide +kernel
theorem dX4_bagsMarked_47 : decode cX4_bagsMarked 47 = .ok (.iconst 0, 1) := by decide +kernel
theorem dX4_bagsMarked_48 : decode cX4_bagsMarked 48 = .ok (.istore 4, 2) := by decide +kernel
theorem dX4_bagsMarked_50 : decode cX4_bagsMarked 50 = .ok (.iconst 0, 1) := by decide +kernel
theorem dX4_bagsMarked_51 : decode cX4_bagsMarked 51 = .ok (.istore 5, 2) := by decide +kernel
theorem dX4_bagsMarked_53 : decode cX4_bagsMarked 53 = .ok (.iload 5, 2) := by decide +kernel
theorem dX4_bagsMarked_55 : decode cX4_bagsMarked 55 = .ok (.aload_n 0, 1) := by decide +kernel
theorem dX4_bagsMarked_56 : decode cX4_bagsMarked 56 = .ok (.getfield 17, 3) := by decide +kernel
theorem dX4_bagsMarked_59 : decode cX4_bagsMarked 59 = .ok (.getfield 96, 3) := by decide +kernel
theorem dX4_bagsMarked_62 : decode cX4_bagsMarked 62 = .ok (.if_icmp .ge 47, 3) := by decide +kernel
theorem dX4_bagsMarked_65 : decode cX4_bagsMarked 65 = .ok (.aload_n 0, 1) := by decide +kernel
theorem dX4_bagsMarked_66 : decode cX4_bagsMarked 66 = .ok (.getfield 17, 3) := by decide +kernel
theorem dX4_bagsMarked_69 : decode cX4_bagsMarked 69 = .ok (.getfield 133, 3) := by decide +kernel
theorem dX4_bagsMarked_72 : decode cX4_bagsMarked 72 = .ok (.iload 5, 2) := by decide +kernel
theorem dX4_bagsMarked_74 : decode cX4_bagsMarked 74 = .ok (.iaload, 1) := by decide +kernel
theorem dX4_bagsMarked_75 : decode cX4_bagsMarked 75 = .ok (.iload_n 1, 1) := by decide +kernel
theorem dX4_bagsMarked_76 : decode cX4_bagsMarked 76 = .ok (.iand, 1) := by decide +kernel
theorem dX4_bagsMarked_77 : decode cX4_bagsMarked 77 = .ok (.ifCond .eq 26, 3) := by decide +kernel
theorem dX4_bagsMarked_80 : decode cX4_bagsMarked 80 = .ok (.iload 4, 2) := by decide +kernel
theorem dX4_bagsMarked_82 : decode cX4_bagsMarked 82 = .ok (.iload_n 2, 1) := by decide +kernel
theorem dX4_bagsMarked_83 : decode cX4_bagsMarked 83 = .ok (.if_icmp .ge 20, 3) := by decide +kernel
theorem dX4_bagsMarked_86 : decode cX4_bagsMarked 86 = .ok (.aload_n 3, 1) := by decide +kernel
theorem dX4_bagsMarked_87 : decode cX4_bagsMarked 87 = .ok (.iload 4, 2) := by decide +kernel
theorem dX4_bagsMarked_89 : decode cX4_bagsMarked 89 = .ok (.aload_n 0, 1) := by decide +kernel
theorem dX4_bagsMarked_90 : decode cX4_bagsMarked 90 = .ok (.getfield 17, 3) := by decide +kernel
theorem dX4_bagsMarked_93 : decode cX4_bagsMarked 93 = .ok (.getfield 95, 3) := by decide +kernel
theorem dX4_bagsMarked_96 : decode cX4_bagsMarked 96 = .ok (.iload 5, 2) := by decide +kernel
theorem dX4_bagsMarked_98 : decode cX4_bagsMarked 98 = .ok (.iaload, 1) := by decide +kernel
theorem dX4_bagsMarked_99 : decode cX4_bagsMarked 99 = .ok (.iastore, 1) := by decide +kernel
theorem dX4_bagsMarked_100 : decode cX4_bagsMarked 100 = .ok (.iinc 4 1, 3) := by decide +kernel
theorem dX4_bagsMarked_103 : decode cX4_bagsMarked 103 = .ok (.iinc 5 1, 3) := by decide +kernel
theorem dX4_bagsMarked_106 : decode cX4_bagsMarked 106 = .ok (.goto (-53), 3) := by decide +kernel
theorem dX4_bagsMarked_109 : decode cX4_bagsMarked 109 = .ok (.aload_n 3, 1) := by decide +kernel
theorem dX4_bagsMarked_110 : decode cX4_bagsMarked 110 = .ok (.areturn, 1) := by decide +kernel
set_option maxRecDepth 20000 in
theorem ggX5_init_X0_init : GoodIn wsX5_init wsX0_init := goodIn_r _ [10, 11, 2, 3, 12, 13, 14, 15, 16] (by decide +kernel) (by decide +kernel)
set_option maxRecDepth 20000 in
theorem gX5_init_X0_init_n11 : GoodIn wsX5_init (wsX0_init) := ggX5_init_X0_init
theorem dX5_init_0 : decode cX5_init 0 = .ok (.aload_n 0, 1) := by decide +kernel
theorem dX5_init_1 : decode cX5_init 1 = .ok (.invokespecial 3, 3) := by decide +kernel
theorem dX5_init_4 : decode cX5_init 4 = .ok (.aload_n 0, 1) := by decide +kernel
theorem dX5_init_5 : decode cX5_init 5 = .ok (.new 9, 3) := by decide +kernel
theorem dX5_init_8 : decode cX5_init 8 = .ok (.dup, 1) := by decide +kernel
theorem dX5_init_9 : decode cX5_init 9 = .ok (.invokespecial 11, 3) := by decide +kernel
theorem dX5_init_12 : decode cX5_init 12 = .ok (.putfield 12, 3) := by decide +kernel
theorem dX5_init_15 : decode cX5_init 15 = .ok (.aload_n 0, 1) := by decide +kernel
theorem dX5_init_16 : decode cX5_init 16 = .ok (.new 9, 3) := by decide +kernel
theorem dX5_init_19 : decode cX5_init 19 = .ok (.dup, 1) := by decide +kernel
theorem dX5_init_20 : decode cX5_init 20 = .ok (.invokespecial 11, 3) := by decide +kernel
theorem dX5_init_23 : decode cX5_init 23 = .ok (.putfield 18, 3) := by decide +kernel
theorem dX5_init_26 : decode cX5_init 26 = .ok (.return_, 1) := by decide +kernel
theorem dX5_keyOf_0 : decode cX5_keyOf 0 = .ok (.iload_n 0, 1) := by decide +kernel
theorem dX5_keyOf_1 : decode cX5_keyOf 1 = .ok (.bipush 16, 2) := by decide +kernel
theorem dX5_keyOf_3 : decode cX5_keyOf 3 = .ok (.imul, 1) := by decide +kernel
theorem dX5_keyOf_4 : decode cX5_keyOf 4 = .ok (.iload_n 1, 1) := by decide +kernel
theorem dX5_keyOf_5 : decode cX5_keyOf 5 = .ok (.iadd, 1) := by decide +kernel
theorem dX5_keyOf_6 : decode cX5_keyOf 6 = .ok (.ireturn, 1) := by decide +kernel
theorem dX5_labelOf_0 : decode cX5_labelOf 0 = .ok (.iload_n 0, 1) := by decide +kernel
theorem dX5_labelOf_1 : decode cX5_labelOf 1 = .ok (.bipush 16, 2) := by decide +kernel
theorem dX5_labelOf_3 : decode cX5_labelOf 3 = .ok (.idiv, 1) := by decide +kernel
theorem dX5_labelOf_4 : decode cX5_labelOf 4 = .ok (.ireturn, 1) := by decide +kernel
theorem dX5_otherOf_0 : decode cX5_otherOf 0 = .ok (.iload_n 0, 1) := by decide +kernel
theorem dX5_otherOf_1 : decode cX5_otherOf 1 = .ok (.bipush 16, 2) := by decide +kernel
theorem dX5_otherOf_3 : decode cX5_otherOf 3 = .ok (.irem, 1) := by decide +kernel
theorem dX5_otherOf_4 : decode cX5_otherOf 4 = .ok (.ireturn, 1) := by decide +kernel
set_option maxRecDepth 20000 in
theorem ggX5_put_X5_keyOf : GoodIn wsX5_put wsX5_keyOf := goodIn_r _ [7] (by decide +kernel) (by decide +kernel)
set_option maxRecDepth 20000 in
theorem gX5_put_X5_keyOf : GoodIn wsX5_put (va_wsS RX5 21 yX5_keyOf wsX5_keyOf) := goodIn_app (goodIn_of _ (by decide +kernel)) ggX5_put_X5_keyOf
set_option maxRecDepth 20000 in
theorem ggX5_put_X0_indexOf : GoodIn wsX5_put wsX0_indexOf := goodIn_r _ [12, 13, 14, 15, 16, 11, 17, 18, 31, 32] (by decide +kernel) (by decide +kernel)
set_option maxRecDepth 20000 in
theorem gX5_put_X0_indexOf : GoodIn wsX5_put (wsV RX5 25 RX0 yX0_indexOf wsX0_indexOf) := goodIn_app (goodIn_of _ (by decide +kernel)) ggX5_put_X0_indexOf
set_option maxRecDepth 20000 in
theorem ggX5_put_X0_isFull : GoodIn wsX5_put wsX0_isFull := goodIn_r _ [22, 13, 31, 32] (by decide +kernel) (by decide +kernel)
set_option maxRecDepth 20000 in
theorem gX5_put_X0_isFull : GoodIn wsX5_put (wsV RX5 32 RX0 yX0_isFull wsX0_isFull) := goodIn_app (goodIn_of _ (by decide +kernel)) ggX5_put_X0_isFull
set_option maxRecDepth 20000 in
theorem ggX5_put_X0_insert : GoodIn wsX5_put wsX0_insert := goodIn_r _ [26, 13, 18, 27, 20, 21, 11, 22, 31, 32] (by decide +kernel) (by decide +kernel)
set_option maxRecDepth 20000 in
theorem gX5_put_X0_insert : GoodIn wsX5_put (wsV RX5 36 RX0 yX0_insert wsX0_insert) := goodIn_app (goodIn_of _ (by decide +kernel)) ggX5_put_X0_insert
theorem dX5_put_0 : decode cX5_put 0 = .ok (.iload_n 2, 1) := by decide +kernel
theorem dX5_put_1 : decode cX5_put 1 = .ok (.iload_n 3, 1) := by decide +kernel
theorem dX5_put_2 : decode cX5_put 2 = .ok (.invokestatic 21, 3) := by decide +kernel
theorem dX5_put_5 : decode cX5_put 5 = .ok (.istore 4, 2) := by decide +kernel
theorem dX5_put_7 : decode cX5_put 7 = .ok (.aload_n 0, 1) := by decide +kernel
theorem dX5_put_8 : decode cX5_put 8 = .ok (.getfield 12, 3) := by decide +kernel
theorem dX5_put_11 : decode cX5_put 11 = .ok (.iload_n 1, 1) := by decide +kernel
theorem dX5_put_12 : decode cX5_put 12 = .ok (.iload 4, 2) := by decide +kernel
theorem dX5_put_14 : decode cX5_put 14 = .ok (.invokevirtual 25, 3) := by decide +kernel
theorem dX5_put_17 : decode cX5_put 17 = .ok (.ifCond .lt 5, 3) := by decide +kernel
theorem dX5_put_20 : decode cX5_put 20 = .ok (.iconst 0, 1) := by decide +kernel
theorem dX5_put_21 : decode cX5_put 21 = .ok (.ireturn, 1) := by decide +kernel
theorem dX5_put_22 : decode cX5_put 22 = .ok (.aload_n 0, 1) := by decide +kernel
theorem dX5_put_23 : decode cX5_put 23 = .ok (.getfield 28, 3) := by decide +kernel
theorem dX5_put_26 : decode cX5_put 26 = .ok (.bipush 60, 2) := by decide +kernel
theorem dX5_put_28 : decode cX5_put 28 = .ok (.if_icmp .ge 25, 3) := by decide +kernel
theorem dX5_put_31 : decode cX5_put 31 = .ok (.aload_n 0, 1) := by decide +kernel
theorem dX5_put_32 : decode cX5_put 32 = .ok (.getfield 12, 3) := by decide +kernel
theorem dX5_put_35 : decode cX5_put 35 = .ok (.iload_n 1, 1) := by decide +kernel
theorem dX5_put_36 : decode cX5_put 36 = .ok (.invokevirtual 32, 3) := by decide +kernel
theorem dX5_put_39 : decode cX5_put 39 = .ok (.ifCond .ne 14, 3) := by decide +kernel
theorem dX5_put_42 : decode cX5_put 42 = .ok (.aload_n 0, 1) := by decide +kernel
theorem dX5_put_43 : decode cX5_put 43 = .ok (.getfield 18, 3) := by decide +kernel
theorem dX5_put_46 : decode cX5_put 46 = .ok (.iload_n 3, 1) := by decide +kernel
theorem dX5_put_47 : decode cX5_put 47 = .ok (.invokevirtual 32, 3) := by decide +kernel
theorem dX5_put_50 : decode cX5_put 50 = .ok (.ifCond .eq 6, 3) := by decide +kernel
theorem dX5_put_53 : decode cX5_put 53 = .ok (.bipush (-2), 2) := by decide +kernel
theorem dX5_put_55 : decode cX5_put 55 = .ok (.ireturn, 1) := by decide +kernel
theorem dX5_put_56 : decode cX5_put 56 = .ok (.aload_n 0, 1) := by decide +kernel
theorem dX5_put_57 : decode cX5_put 57 = .ok (.getfield 12, 3) := by decide +kernel
theorem dX5_put_60 : decode cX5_put 60 = .ok (.iload_n 1, 1) := by decide +kernel
theorem dX5_put_61 : decode cX5_put 61 = .ok (.iload 4, 2) := by decide +kernel
theorem dX5_put_63 : decode cX5_put 63 = .ok (.invokevirtual 36, 3) := by decide +kernel
theorem dX5_put_66 : decode cX5_put 66 = .ok (.aload_n 0, 1) := by decide +kernel
theorem dX5_put_67 : decode cX5_put 67 = .ok (.getfield 18, 3) := by decide +kernel
theorem dX5_put_70 : decode cX5_put 70 = .ok (.iload_n 3, 1) := by decide +kernel
theorem dX5_put_71 : decode cX5_put 71 = .ok (.iload_n 2, 1) := by decide +kernel
theorem dX5_put_72 : decode cX5_put 72 = .ok (.iload_n 1, 1) := by decide +kernel
theorem dX5_put_73 : decode cX5_put 73 = .ok (.invokestatic 21, 3) := by decide +kernel
theorem dX5_put_76 : decode cX5_put 76 = .ok (.invokevirtual 36, 3) := by decide +kernel
theorem dX5_put_79 : decode cX5_put 79 = .ok (.aload_n 0, 1) := by decide +kernel
theorem dX5_put_80 : decode cX5_put 80 = .ok (.dup, 1) := by decide +kernel
theorem dX5_put_81 : decode cX5_put 81 = .ok (.getfield 28, 3) := by decide +kernel
theorem dX5_put_84 : decode cX5_put 84 = .ok (.iconst 1, 1) := by decide +kernel
theorem dX5_put_85 : decode cX5_put 85 = .ok (.iadd, 1) := by decide +kernel
theorem dX5_put_86 : decode cX5_put 86 = .ok (.putfield 28, 3) := by decide +kernel
theorem dX5_put_89 : decode cX5_put 89 = .ok (.iconst 1, 1) := by decide +kernel
theorem dX5_put_90 : decode cX5_put 90 = .ok (.ireturn, 1) := by decide +kernel
set_option maxRecDepth 20000 in
theorem ggX5_drop_X5_keyOf : GoodIn wsX5_drop wsX5_keyOf := goodIn_r _ [7] (by decide +kernel) (by decide +kernel)
set_option maxRecDepth 20000 in
theorem gX5_drop_X5_keyOf : GoodIn wsX5_drop (va_wsS RX5 21 yX5_keyOf wsX5_keyOf) := goodIn_app (goodIn_of _ (by decide +kernel)) ggX5_drop_X5_keyOf
set_option maxRecDepth 20000 in
theorem ggX5_drop_X0_indexOf : GoodIn wsX5_drop wsX0_indexOf := goodIn_r _ [12, 13, 14, 15, 16, 11, 17, 18, 27, 28] (by decide +kernel) (by decide +kernel)
set_option maxRecDepth 20000 in
theorem gX5_drop_X0_indexOf : GoodIn wsX5_drop (wsV RX5 25 RX0 yX0_indexOf wsX0_indexOf) := goodIn_app (goodIn_of _ (by decide +kernel)) ggX5_drop_X0_indexOf
set_option maxRecDepth 20000 in
theorem ggX5_drop_X0_remove : GoodIn wsX5_drop wsX0_remove := goodIn_r _ [22, 13, 18, 23, 9, 10, 11, 12, 14, 15, 16, 17, 27, 28] (by decide +kernel) (by decide +kernel)
set_option maxRecDepth 20000 in
theorem gX5_drop_X0_remove : GoodIn wsX5_drop (wsV RX5 40 RX0 yX0_remove wsX0_remove) := goodIn_app (goodIn_of _ (by decide +kernel)) ggX5_drop_X0_remove
theorem dX5_drop_0 : decode cX5_drop 0 = .ok (.iload_n 2, 1) := by decide +kernel
theorem dX5_drop_1 : decode cX5_drop 1 = .ok (.iload_n 3, 1) := by decide +kernel
theorem dX5_drop_2 : decode cX5_drop 2 = .ok (.invokestatic 21, 3) := by decide +kernel
theorem dX5_drop_5 : decode cX5_drop 5 = .ok (.istore 4, 2) := by decide +kernel
theorem dX5_drop_7 : decode cX5_drop 7 = .ok (.aload_n 0, 1) := by decide +kernel
theorem dX5_drop_8 : decode cX5_drop 8 = .ok (.getfield 12, 3) := by decide +kernel
theorem dX5_drop_11 : decode cX5_drop 11 = .ok (.iload_n 1, 1) := by decide +kernel
theorem dX5_drop_12 : decode cX5_drop 12 = .ok (.iload 4, 2) := by decide +kernel
theorem dX5_drop_14 : decode cX5_drop 14 = .ok (.invokevirtual 25, 3) := by decide +kernel
theorem dX5_drop_17 : decode cX5_drop 17 = .ok (.ifCond .ge 5, 3) := by decide +kernel
theorem dX5_drop_20 : decode cX5_drop 20 = .ok (.iconst 0, 1) := by decide +kernel
theorem dX5_drop_21 : decode cX5_drop 21 = .ok (.ireturn, 1) := by decide +kernel
theorem dX5_drop_22 : decode cX5_drop 22 = .ok (.aload_n 0, 1) := by decide +kernel
theorem dX5_drop_23 : decode cX5_drop 23 = .ok (.getfield 12, 3) := by decide +kernel
theorem dX5_drop_26 : decode cX5_drop 26 = .ok (.iload_n 1, 1) := by decide +kernel
theorem dX5_drop_27 : decode cX5_drop 27 = .ok (.iload 4, 2) := by decide +kernel
theorem dX5_drop_29 : decode cX5_drop 29 = .ok (.invokevirtual 40, 3) := by decide +kernel
theorem dX5_drop_32 : decode cX5_drop 32 = .ok (.aload_n 0, 1) := by decide +kernel
theorem dX5_drop_33 : decode cX5_drop 33 = .ok (.getfield 18, 3) := by decide +kernel
theorem dX5_drop_36 : decode cX5_drop 36 = .ok (.iload_n 3, 1) := by decide +kernel
theorem dX5_drop_37 : decode cX5_drop 37 = .ok (.iload_n 2, 1) := by decide +kernel
theorem dX5_drop_38 : decode cX5_drop 38 = .ok (.iload_n 1, 1) := by decide +kernel
theorem dX5_drop_39 : decode cX5_drop 39 = .ok (.invokestatic 21, 3) := by decide +kernel
theorem dX5_drop_42 : decode cX5_drop 42 = .ok (.invokevirtual 40, 3) := by decide +kernel
theorem dX5_drop_45 : decode cX5_drop 45 = .ok (.aload_n 0, 1) := by decide +kernel
theorem dX5_drop_46 : decode cX5_drop 46 = .ok (.dup, 1) := by decide +kernel
theorem dX5_drop_47 : decode cX5_drop 47 = .ok (.getfield 28, 3) := by decide +kernel
theorem dX5_drop_50 : decode cX5_drop 50 = .ok (.iconst 1, 1) := by decide +kernel
theorem dX5_drop_51 : decode cX5_drop 51 = .ok (.isub, 1) := by decide +kernel
theorem dX5_drop_52 : decode cX5_drop 52 = .ok (.putfield 28, 3) := by decide +kernel
theorem dX5_drop_55 : decode cX5_drop 55 = .ok (.iconst 1, 1) := by decide +kernel
theorem dX5_drop_56 : decode cX5_drop 56 = .ok (.ireturn, 1) := by decide +kernel
theorem dX6_init_0 : decode cX6_init 0 = .ok (.aload_n 0, 1) := by decide +kernel
theorem dX6_init_1 : decode cX6_init 1 = .ok (.invokespecial 3, 3) := by decide +kernel
theorem dX6_init_4 : decode cX6_init 4 = .ok (.aload_n 0, 1) := by decide +kernel
theorem dX6_init_5 : decode cX6_init 5 = .ok (.bipush 8, 2) := by decide +kernel
theorem dX6_init_7 : decode cX6_init 7 = .ok (.newarray .int, 2) := by decide +kernel
theorem dX6_init_9 : decode cX6_init 9 = .ok (.putfield 9, 3) := by decide +kernel
theorem dX6_init_12 : decode cX6_init 12 = .ok (.aload_n 0, 1) := by decide +kernel
theorem dX6_init_13 : decode cX6_init 13 = .ok (.aload_n 1, 1) := by decide +kernel
theorem dX6_init_14 : decode cX6_init 14 = .ok (.putfield 15, 3) := by decide +kernel
theorem dX6_init_17 : decode cX6_init 17 = .ok (.aload_n 0, 1) := by decide +kernel
theorem dX6_init_18 : decode cX6_init 18 = .ok (.aload_n 2, 1) := by decide +kernel
theorem dX6_init_19 : decode cX6_init 19 = .ok (.putfield 19, 3) := by decide +kernel
theorem dX6_init_22 : decode cX6_init 22 = .ok (.aload_n 0, 1) := by decide +kernel
theorem dX6_init_23 : decode cX6_init 23 = .ok (.aload_n 3, 1) := by decide +kernel
theorem dX6_init_24 : decode cX6_init 24 = .ok (.putfield 23, 3) := by decide +kernel
theorem dX6_init_27 : decode cX6_init 27 = .ok (.return_, 1) := by decide +kernel
set_option maxRecDepth 20000 in
theorem ggX6_matching_X6_countWays : GoodIn wsX6_matching wsX6_countWays := goodIn_r _ [5, 6, 7, 8, 9, 10, 11, 12, 13, 14, 15, 16, 4, 17, 18, 19, 20, 21, 22, 23, 24, 25, 26, 27, 28, 29, 30, 31, 32, 33, 34, 35, 36, 37, 38, 39, 40, 41, 42, 43, 44, 45, 46, 47, 48, 49, 50, 51, 52, 53, 54, 55, 56, 57, 58, 59, 60, 61, 62, 63, 64, 65, 66, 67, 68, 69, 70, 71, 72, 73, 74, 75, 76, 77, 78, 79, 80, 81, 82, 83, 84, 85, 86, 87, 88, 89, 90, 91, 92, 93, 94, 95, 96, 97, 98, 99, 100, 101, 102, 103, 104, 105, 106, 107, 108, 109, 110, 111, 112, 113, 114, 115, 116, 117, 118, 119, 120, 121, 122, 123, 124, 125, 126, 127, 128, 129, 130, 131, 132, 133] (by decide +kernel) (by decide +kernel)
set_option maxRecDepth 20000 in
theorem gX6_matching_X6_countWays : GoodIn wsX6_matching (wsV RX6 26 RX6 yX6_countWays wsX6_countWays) := goodIn_app (goodIn_of _ (by decide +kernel)) ggX6_matching_X6_countWays
theorem dX6_matching_0 : decode cX6_matching 0 = .ok (.iconst 0, 1) := by decide +kernel
theorem dX6_matching_1 : decode cX6_matching 1 = .ok (.istore 4, 2) := by decide +kernel
theorem dX6_matching_3 : decode cX6_matching 3 = .ok (.iconst 0, 1) := by decide +kernel
theorem dX6_matching_4 : decode cX6_matching 4 = .ok (.istore 5, 2) := by decide +kernel
theorem dX6_matching_6 : decode cX6_matching 6 = .ok (.iload 5, 2) := by decide +kernel
theorem dX6_matching_8 : decode cX6_matching 8 = .ok (.bipush 16, 2) := by decide +kernel
theorem dX6_matching_10 : decode cX6_matching 10 = .ok (.if_icmp .ge 40, 3) := by decide +kernel
theorem dX6_matching_13 : decode cX6_matching 13 = .ok (.iconst 1, 1) := by decide +kernel
theorem dX6_matching_14 : decode cX6_matching 14 = .ok (.iload 5, 2) := by decide +kernel
theorem dX6_matching_16 : decode cX6_matching 16 = .ok (.ishl, 1) := by decide +kernel
theorem dX6_matching_17 : decode cX6_matching 17 = .ok (.istore 6, 2) := by decide +kernel
theorem dX6_matching_19 : decode cX6_matching 19 = .ok (.iload_n 1, 1) := by decide +kernel
theorem dX6_matching_20 : decode cX6_matching 20 = .ok (.iload 6, 2) := by decide +kernel
theorem dX6_matching_22 : decode cX6_matching 22 = .ok (.iand, 1) := by decide +kernel
theorem dX6_matching_23 : decode cX6_matching 23 = .ok (.ifCond .eq 21, 3) := by decide +kernel
theorem dX6_matching_26 : decode cX6_matching 26 = .ok (.aload_n 0, 1) := by decide +kernel
theorem dX6_matching_27 : decode cX6_matching 27 = .ok (.iload 5, 2) := by decide +kernel
theorem dX6_matching_29 : decode cX6_matching 29 = .ok (.aload_n 2, 1) := by decide +kernel
theorem dX6_matching_30 : decode cX6_matching 30 = .ok (.aload_n 3, 1) := by decide +kernel
theorem dX6_matching_31 : decode cX6_matching 31 = .ok (.invokevirtual 26, 3) := by decide +kernel
theorem dX6_matching_34 : decode cX6_matching 34 = .ok (.ifCond .le 10, 3) := by decide +kernel
theorem dX6_matching_37 : decode cX6_matching 37 = .ok (.iload 4, 2) := by decide +kernel
theorem dX6_matching_39 : decode cX6_matching 39 = .ok (.iload 6, 2) := by decide +kernel
theorem dX6_matching_41 : decode cX6_matching 41 = .ok (.ior, 1) := by decide +kernel
theorem dX6_matching_42 : decode cX6_matching 42 = .ok (.istore 4, 2) := by decide +kernel
theorem dX6_matching_44 : decode cX6_matching 44 = .ok (.iinc 5 1, 3) := by decide +kernel
theorem dX6_matching_47 : decode cX6_matching 47 = .ok (.goto (-41), 3) := by decide +kernel
theorem dX6_matching_50 : decode cX6_matching 50 = .ok (.iload 4, 2) := by decide +kernel
theorem dX6_matching_52 : decode cX6_matching 52 = .ok (.ireturn, 1) := by decide +kernel
set_option maxRecDepth 20000 in
theorem ggX6_countLoose_X6_gather : GoodIn wsX6_countLoose wsX6_gather := goodIn_r _ [7, 1, 8, 9, 10, 11, 12, 13, 14, 15, 16, 17, 18, 19, 20, 21, 22, 23, 24, 25, 26, 27, 28, 29, 30, 31, 32, 33, 6, 34, 35, 36, 37, 38, 39, 40, 41, 42, 43, 44, 45, 46, 47, 48, 49, 2, 50, 51, 52, 53, 54, 55, 56, 57, 58, 59, 60, 61, 62, 63, 64, 65, 66, 67, 68, 69, 70, 71, 72, 73, 74, 75, 76] (by decide +kernel) (by decide +kernel)
set_option maxRecDepth 20000 in
theorem gX6_countLoose_X6_gather : GoodIn wsX6_countLoose (wsV RX6 30 RX6 yX6_gather wsX6_gather) := goodIn_app (goodIn_of _ (by decide +kernel)) ggX6_countLoose_X6_gather
theorem dX6_countLoose_0 : decode cX6_countLoose 0 = .ok (.aload_n 0, 1) := by decide +kernel
theorem dX6_countLoose_1 : decode cX6_countLoose 1 = .ok (.iload_n 1, 1) := by decide +kernel
theorem dX6_countLoose_2 : decode cX6_countLoose 2 = .ok (.aload_n 2, 1) := by decide +kernel
theorem dX6_countLoose_3 : decode cX6_countLoose 3 = .ok (.aload_n 3, 1) := by decide +kernel
theorem dX6_countLoose_4 : decode cX6_countLoose 4 = .ok (.invokevirtual 30, 3) := by decide +kernel
theorem dX6_countLoose_7 : decode cX6_countLoose 7 = .ok (.iconst 0, 1) := by decide +kernel
theorem dX6_countLoose_8 : decode cX6_countLoose 8 = .ok (.istore 4, 2) := by decide +kernel
theorem dX6_countLoose_10 : decode cX6_countLoose 10 = .ok (.iconst 0, 1) := by decide +kernel
theorem dX6_countLoose_11 : decode cX6_countLoose 11 = .ok (.istore 5, 2) := by decide +kernel
theorem dX6_countLoose_13 : decode cX6_countLoose 13 = .ok (.iload 5, 2) := by decide +kernel
theorem dX6_countLoose_15 : decode cX6_countLoose 15 = .ok (.aload_n 0, 1) := by decide +kernel
theorem dX6_countLoose_16 : decode cX6_countLoose 16 = .ok (.getfield 34, 3) := by decide +kernel
theorem dX6_countLoose_19 : decode cX6_countLoose 19 = .ok (.if_icmp .ge 29, 3) := by decide +kernel
theorem dX6_countLoose_22 : decode cX6_countLoose 22 = .ok (.iload 4, 2) := by decide +kernel
theorem dX6_countLoose_24 : decode cX6_countLoose 24 = .ok (.aload_n 0, 1) := by decide +kernel
theorem dX6_countLoose_25 : decode cX6_countLoose 25 = .ok (.getfield 9, 3) := by decide +kernel
theorem dX6_countLoose_28 : decode cX6_countLoose 28 = .ok (.iload 5, 2) := by decide +kernel
theorem dX6_countLoose_30 : decode cX6_countLoose 30 = .ok (.iaload, 1) := by decide +kernel
theorem dX6_countLoose_31 : decode cX6_countLoose 31 = .ok (.ifCond .ne 7, 3) := by decide +kernel
theorem dX6_countLoose_34 : decode cX6_countLoose 34 = .ok (.iconst 1, 1) := by decide +kernel
theorem dX6_countLoose_35 : decode cX6_countLoose 35 = .ok (.goto 4, 3) := by decide +kernel
theorem dX6_countLoose_38 : decode cX6_countLoose 38 = .ok (.iconst 0, 1) := by decide +kernel
theorem dX6_countLoose_39 : decode cX6_countLoose 39 = .ok (.iadd, 1) := by decide +kernel
theorem dX6_countLoose_40 : decode cX6_countLoose 40 = .ok (.istore 4, 2) := by decide +kernel
theorem dX6_countLoose_42 : decode cX6_countLoose 42 = .ok (.iinc 5 1, 3) := by decide +kernel
theorem dX6_countLoose_45 : decode cX6_countLoose 45 = .ok (.goto (-32), 3) := by decide +kernel
theorem dX6_countLoose_48 : decode cX6_countLoose 48 = .ok (.iload 4, 2) := by decide +kernel
theorem dX6_countLoose_50 : decode cX6_countLoose 50 = .ok (.ireturn, 1) := by decide +kernel
set_option maxRecDepth 20000 in
theorem ggX6_countWays_X6_gather : GoodIn wsX6_countWays wsX6_gather := goodIn_r _ [13, 4, 1, 14, 15, 16, 17, 18, 7, 19, 20, 21, 22, 23, 24, 25, 26, 27, 28, 29, 30, 31, 32, 33, 34, 35, 36, 37, 12, 38, 39, 40, 41, 42, 43, 44, 45, 46, 47, 48, 49, 50, 51, 52, 53, 6, 106, 107, 108, 109, 110, 99, 100, 101, 102, 103, 104, 105, 121, 122, 123, 115, 116, 117, 118, 119, 120, 124, 125, 126, 127, 128, 129] (by decide +kernel) (by decide +kernel)
set_option maxRecDepth 20000 in
theorem gX6_countWays_X6_gather : GoodIn wsX6_countWays (wsV RX6 30 RX6 yX6_gather wsX6_gather) := goodIn_app (goodIn_of _ (by decide +kernel)) ggX6_countWays_X6_gather
set_option maxRecDepth 20000 in
theorem ggX6_countWays_X2_clear : GoodIn wsX6_countWays wsX2_clear := goodIn_r _ [58, 59, 60, 61, 111, 112, 113, 114] (by decide +kernel) (by decide +kernel)
set_option maxRecDepth 20000 in
theorem gX6_countWays_X2_clear : GoodIn wsX6_countWays (wsV RX6 44 RX2 yX2_clear wsX2_clear) := goodIn_app (goodIn_of _ (by decide +kernel)) ggX6_countWays_X2_clear
set_option maxRecDepth 20000 in
theorem ggX6_countWays_X2_addTo : GoodIn wsX6_countWays wsX2_addTo := goodIn_r _ [65, 66, 67, 68, 69, 57, 70, 60, 59, 61, 111, 112, 113, 114] (by decide +kernel) (by decide +kernel)
set_option maxRecDepth 20000 in
theorem gX6_countWays_X2_addTo : GoodIn wsX6_countWays (wsV RX6 51 RX2 yX2_addTo wsX2_addTo) := goodIn_app (goodIn_of _ (by decide +kernel)) ggX6_countWays_X2_addTo
set_option maxRecDepth 20000 in
theorem ggX6_countWays_X6_giveArc : GoodIn wsX6_countWays wsX6_giveArc := goodIn_r _ [74, 5, 75, 76, 77, 54, 55, 56, 57, 58, 59, 60, 61, 62, 63, 64, 65, 66, 67, 68, 69, 70, 78, 79, 80, 81, 82, 83, 84, 85, 86, 111, 112, 113, 114, 126, 127, 128, 129] (by decide +kernel) (by decide +kernel)
set_option maxRecDepth 20000 in
theorem gX6_countWays_X6_giveArc : GoodIn wsX6_countWays (wsV RX6 64 RX6 yX6_giveArc wsX6_giveArc) := goodIn_app (goodIn_of _ (by decide +kernel)) ggX6_countWays_X6_giveArc
set_option maxRecDepth 20000 in
theorem ggX6_countWays_X6_sumAllowed : GoodIn wsX6_countWays wsX6_sumAllowed := goodIn_r _ [89, 90, 76, 91, 92, 93, 94, 95, 96, 97, 57, 98, 60, 111, 112, 113, 114] (by decide +kernel) (by decide +kernel)
set_option maxRecDepth 20000 in
theorem gX6_countWays_X6_sumAllowed : GoodIn wsX6_countWays (va_wsS RX6 71 yX6_sumAllowed wsX6_sumAllowed) := goodIn_app (goodIn_of _ (by decide +kernel)) ggX6_countWays_X6_sumAllowed
theorem dX6_countWays_0 : decode cX6_countWays 0 = .ok (.aload_n 2, 1) := by decide +kernel
theorem dX6_countWays_1 : decode cX6_countWays 1 = .ok (.getfield 38, 3) := by decide +kernel
theorem dX6_countWays_4 : decode cX6_countWays 4 = .ok (.astore 4, 2) := by decide +kernel
theorem dX6_countWays_6 : decode cX6_countWays 6 = .ok (.aload 4, 2) := by decide +kernel
theorem dX6_countWays_8 : decode cX6_countWays 8 = .ok (.ifnonnull 5, 3) := by decide +kernel
theorem dX6_countWays_11 : decode cX6_countWays 11 = .ok (.iconst 0, 1) := by decide +kernel
theorem dX6_countWays_12 : decode cX6_countWays 12 = .ok (.ireturn, 1) := by decide +kernel
theorem dX6_countWays_13 : decode cX6_countWays 13 = .ok (.aload_n 0, 1) := by decide +kernel
theorem dX6_countWays_14 : decode cX6_countWays 14 = .ok (.iload_n 1, 1) := by decide +kernel
theorem dX6_countWays_15 : decode cX6_countWays 15 = .ok (.aload_n 2, 1) := by decide +kernel
theorem dX6_countWays_16 : decode cX6_countWays 16 = .ok (.aload_n 3, 1) := by decide +kernel
theorem dX6_countWays_17 : decode cX6_countWays 17 = .ok (.invokevirtual 30, 3) := by decide +kernel
