theorem dX5_put_0 : decode cX5_put 0 = .ok (.iload_n 1, 1) := by decide +kernel
theorem dX5_put_1 : decode cX5_put 1 = .ok (.iconst 0, 1) := by decide +kernel
theorem dX5_put_2 : decode cX5_put 2 = .ok (.sipush 1023, 3) := by decide +kernel
theorem dX5_put_5 : decode cX5_put 5 = .ok (.invokestatic 23, 3) := by decide +kernel
theorem dX5_put_8 : decode cX5_put 8 = .ok (.ifCond .eq 14, 3) := by decide +kernel
theorem dX5_put_11 : decode cX5_put 11 = .ok (.iload_n 2, 1) := by decide +kernel
theorem dX5_put_12 : decode cX5_put 12 = .ok (.iconst 0, 1) := by decide +kernel
theorem dX5_put_13 : decode cX5_put 13 = .ok (.sipush 255, 3) := by decide +kernel
theorem dX5_put_16 : decode cX5_put 16 = .ok (.invokestatic 23, 3) := by decide +kernel
theorem dX5_put_19 : decode cX5_put 19 = .ok (.ifCond .ne 5, 3) := by decide +kernel
theorem dX5_put_22 : decode cX5_put 22 = .ok (.iconst (-1), 1) := by decide +kernel
theorem dX5_put_23 : decode cX5_put 23 = .ok (.ireturn, 1) := by decide +kernel
theorem dX5_put_24 : decode cX5_put 24 = .ok (.aload_n 0, 1) := by decide +kernel
theorem dX5_put_25 : decode cX5_put 25 = .ok (.getfield 13, 3) := by decide +kernel
theorem dX5_put_28 : decode cX5_put 28 = .ok (.iload_n 1, 1) := by decide +kernel
theorem dX5_put_29 : decode cX5_put 29 = .ok (.iaload, 1) := by decide +kernel
theorem dX5_put_30 : decode cX5_put 30 = .ok (.istore_n 3, 1) := by decide +kernel
theorem dX5_put_31 : decode cX5_put 31 = .ok (.aload_n 0, 1) := by decide +kernel
theorem dX5_put_32 : decode cX5_put 32 = .ok (.getfield 13, 3) := by decide +kernel
theorem dX5_put_35 : decode cX5_put 35 = .ok (.iload_n 1, 1) := by decide +kernel
theorem dX5_put_36 : decode cX5_put 36 = .ok (.iload_n 2, 1) := by decide +kernel
theorem dX5_put_37 : decode cX5_put 37 = .ok (.iastore, 1) := by decide +kernel
theorem dX5_put_38 : decode cX5_put 38 = .ok (.iload_n 3, 1) := by decide +kernel
theorem dX5_put_39 : decode cX5_put 39 = .ok (.ireturn, 1) := by decide +kernel
set_option maxRecDepth 20000 in
theorem ggX5_data_X5_in : GoodIn wsX5_data wsX5_in := goodIn_r _ [5] (by decide +kernel) (by decide +kernel)
set_option maxRecDepth 20000 in
theorem gX5_data_X5_in : GoodIn wsX5_data (va_wsS RX5 23 yX5_in wsX5_in) := goodIn_app (goodIn_of _ (by decide +kernel)) ggX5_data_X5_in
theorem dX5_data_0 : decode cX5_data 0 = .ok (.iload_n 1, 1) := by decide +kernel
theorem dX5_data_1 : decode cX5_data 1 = .ok (.iconst 0, 1) := by decide +kernel
theorem dX5_data_2 : decode cX5_data 2 = .ok (.sipush 1023, 3) := by decide +kernel
theorem dX5_data_5 : decode cX5_data 5 = .ok (.invokestatic 23, 3) := by decide +kernel
theorem dX5_data_8 : decode cX5_data 8 = .ok (.ifCond .eq 12, 3) := by decide +kernel
theorem dX5_data_11 : decode cX5_data 11 = .ok (.aload_n 0, 1) := by decide +kernel
theorem dX5_data_12 : decode cX5_data 12 = .ok (.getfield 13, 3) := by decide +kernel
theorem dX5_data_15 : decode cX5_data 15 = .ok (.iload_n 1, 1) := by decide +kernel
theorem dX5_data_16 : decode cX5_data 16 = .ok (.iaload, 1) := by decide +kernel
theorem dX5_data_17 : decode cX5_data 17 = .ok (.goto 4, 3) := by decide +kernel
theorem dX5_data_20 : decode cX5_data 20 = .ok (.iconst (-1), 1) := by decide +kernel
theorem dX5_data_21 : decode cX5_data 21 = .ok (.ireturn, 1) := by decide +kernel
theorem dX5_pair_0 : decode cX5_pair 0 = .ok (.aload_n 0, 1) := by decide +kernel
theorem dX5_pair_1 : decode cX5_pair 1 = .ok (.getfield 13, 3) := by decide +kernel
theorem dX5_pair_4 : decode cX5_pair 4 = .ok (.iload_n 1, 1) := by decide +kernel
theorem dX5_pair_5 : decode cX5_pair 5 = .ok (.iaload, 1) := by decide +kernel
theorem dX5_pair_6 : decode cX5_pair 6 = .ok (.aload_n 0, 1) := by decide +kernel
theorem dX5_pair_7 : decode cX5_pair 7 = .ok (.getfield 13, 3) := by decide +kernel
theorem dX5_pair_10 : decode cX5_pair 10 = .ok (.iload_n 1, 1) := by decide +kernel
theorem dX5_pair_11 : decode cX5_pair 11 = .ok (.iconst 1, 1) := by decide +kernel
theorem dX5_pair_12 : decode cX5_pair 12 = .ok (.iadd, 1) := by decide +kernel
theorem dX5_pair_13 : decode cX5_pair 13 = .ok (.iaload, 1) := by decide +kernel
theorem dX5_pair_14 : decode cX5_pair 14 = .ok (.bipush 8, 2) := by decide +kernel
theorem dX5_pair_16 : decode cX5_pair 16 = .ok (.ishl, 1) := by decide +kernel
theorem dX5_pair_17 : decode cX5_pair 17 = .ok (.ior, 1) := by decide +kernel
theorem dX5_pair_18 : decode cX5_pair 18 = .ok (.ireturn, 1) := by decide +kernel
theorem dX5_setPair_0 : decode cX5_setPair 0 = .ok (.aload_n 0, 1) := by decide +kernel
theorem dX5_setPair_1 : decode cX5_setPair 1 = .ok (.getfield 13, 3) := by decide +kernel
theorem dX5_setPair_4 : decode cX5_setPair 4 = .ok (.iload_n 1, 1) := by decide +kernel
theorem dX5_setPair_5 : decode cX5_setPair 5 = .ok (.iload_n 2, 1) := by decide +kernel
theorem dX5_setPair_6 : decode cX5_setPair 6 = .ok (.sipush 255, 3) := by decide +kernel
theorem dX5_setPair_9 : decode cX5_setPair 9 = .ok (.iand, 1) := by decide +kernel
theorem dX5_setPair_10 : decode cX5_setPair 10 = .ok (.iastore, 1) := by decide +kernel
theorem dX5_setPair_11 : decode cX5_setPair 11 = .ok (.aload_n 0, 1) := by decide +kernel
theorem dX5_setPair_12 : decode cX5_setPair 12 = .ok (.getfield 13, 3) := by decide +kernel
theorem dX5_setPair_15 : decode cX5_setPair 15 = .ok (.iload_n 1, 1) := by decide +kernel
theorem dX5_setPair_16 : decode cX5_setPair 16 = .ok (.iconst 1, 1) := by decide +kernel
theorem dX5_setPair_17 : decode cX5_setPair 17 = .ok (.iadd, 1) := by decide +kernel
theorem dX5_setPair_18 : decode cX5_setPair 18 = .ok (.iload_n 2, 1) := by decide +kernel
theorem dX5_setPair_19 : decode cX5_setPair 19 = .ok (.bipush 8, 2) := by decide +kernel
theorem dX5_setPair_21 : decode cX5_setPair 21 = .ok (.ishr, 1) := by decide +kernel
theorem dX5_setPair_22 : decode cX5_setPair 22 = .ok (.sipush 255, 3) := by decide +kernel
theorem dX5_setPair_25 : decode cX5_setPair 25 = .ok (.iand, 1) := by decide +kernel
theorem dX5_setPair_26 : decode cX5_setPair 26 = .ok (.iastore, 1) := by decide +kernel
theorem dX5_setPair_27 : decode cX5_setPair 27 = .ok (.return_, 1) := by decide +kernel
set_option maxRecDepth 20000 in
theorem ggX5_told_X5_pair : GoodIn wsX5_told wsX5_pair := goodIn_r _ [9, 2, 10, 11, 12, 13, 14, 15, 16, 17] (by decide +kernel) (by decide +kernel)
set_option maxRecDepth 20000 in
theorem gX5_told_X5_pair : GoodIn wsX5_told (wsV RX5 28 RX5 yX5_pair wsX5_pair) := goodIn_app (goodIn_of _ (by decide +kernel)) ggX5_told_X5_pair
theorem dX5_told_0 : decode cX5_told 0 = .ok (.iload_n 1, 1) := by decide +kernel
theorem dX5_told_1 : decode cX5_told 1 = .ok (.tableswitch 106 0 7 #[47, 52, 59, 67, 74, 81, 88, 101], 47) := by decide +kernel
theorem dX5_told_48 : decode cX5_told 48 = .ok (.aload_n 0, 1) := by decide +kernel
theorem dX5_told_49 : decode cX5_told 49 = .ok (.getfield 19, 3) := by decide +kernel
theorem dX5_told_52 : decode cX5_told 52 = .ok (.ireturn, 1) := by decide +kernel
theorem dX5_told_53 : decode cX5_told 53 = .ok (.aload_n 0, 1) := by decide +kernel
theorem dX5_told_54 : decode cX5_told 54 = .ok (.bipush 93, 2) := by decide +kernel
theorem dX5_told_56 : decode cX5_told 56 = .ok (.invokevirtual 28, 3) := by decide +kernel
theorem dX5_told_59 : decode cX5_told 59 = .ok (.ireturn, 1) := by decide +kernel
theorem dX5_told_60 : decode cX5_told 60 = .ok (.aload_n 0, 1) := by decide +kernel
theorem dX5_told_61 : decode cX5_told 61 = .ok (.getfield 13, 3) := by decide +kernel
theorem dX5_told_64 : decode cX5_told 64 = .ok (.bipush 95, 2) := by decide +kernel
theorem dX5_told_66 : decode cX5_told 66 = .ok (.iaload, 1) := by decide +kernel
theorem dX5_told_67 : decode cX5_told 67 = .ok (.ireturn, 1) := by decide +kernel
theorem dX5_told_68 : decode cX5_told 68 = .ok (.aload_n 0, 1) := by decide +kernel
theorem dX5_told_69 : decode cX5_told 69 = .ok (.bipush 26, 2) := by decide +kernel
theorem dX5_told_71 : decode cX5_told 71 = .ok (.invokevirtual 28, 3) := by decide +kernel
theorem dX5_told_74 : decode cX5_told 74 = .ok (.ireturn, 1) := by decide +kernel
theorem dX5_told_75 : decode cX5_told 75 = .ok (.aload_n 0, 1) := by decide +kernel
theorem dX5_told_76 : decode cX5_told 76 = .ok (.bipush 28, 2) := by decide +kernel
theorem dX5_told_78 : decode cX5_told 78 = .ok (.invokevirtual 28, 3) := by decide +kernel
theorem dX5_told_81 : decode cX5_told 81 = .ok (.ireturn, 1) := by decide +kernel
theorem dX5_told_82 : decode cX5_told 82 = .ok (.aload_n 0, 1) := by decide +kernel
theorem dX5_told_83 : decode cX5_told 83 = .ok (.bipush 30, 2) := by decide +kernel
theorem dX5_told_85 : decode cX5_told 85 = .ok (.invokevirtual 28, 3) := by decide +kernel
theorem dX5_told_88 : decode cX5_told 88 = .ok (.ireturn, 1) := by decide +kernel
theorem dX5_told_89 : decode cX5_told 89 = .ok (.aload_n 0, 1) := by decide +kernel
theorem dX5_told_90 : decode cX5_told 90 = .ok (.getfield 32, 3) := by decide +kernel
theorem dX5_told_93 : decode cX5_told 93 = .ok (.ifCond .eq 7, 3) := by decide +kernel
theorem dX5_told_96 : decode cX5_told 96 = .ok (.iconst 1, 1) := by decide +kernel
theorem dX5_told_97 : decode cX5_told 97 = .ok (.goto 4, 3) := by decide +kernel
theorem dX5_told_100 : decode cX5_told 100 = .ok (.iconst 0, 1) := by decide +kernel
theorem dX5_told_101 : decode cX5_told 101 = .ok (.ireturn, 1) := by decide +kernel
theorem dX5_told_102 : decode cX5_told 102 = .ok (.aload_n 0, 1) := by decide +kernel
theorem dX5_told_103 : decode cX5_told 103 = .ok (.getfield 36, 3) := by decide +kernel
theorem dX5_told_106 : decode cX5_told 106 = .ok (.ireturn, 1) := by decide +kernel
theorem dX5_told_107 : decode cX5_told 107 = .ok (.iconst (-1), 1) := by decide +kernel
theorem dX5_told_108 : decode cX5_told 108 = .ok (.ireturn, 1) := by decide +kernel
set_option maxRecDepth 20000 in
theorem ggX5_go_X5_in : GoodIn wsX5_go wsX5_in := goodIn_r _ [5] (by decide +kernel) (by decide +kernel)
set_option maxRecDepth 20000 in
theorem gX5_go_X5_in : GoodIn wsX5_go (va_wsS RX5 23 yX5_in wsX5_in) := goodIn_app (goodIn_of _ (by decide +kernel)) ggX5_go_X5_in
theorem dX5_go_0 : decode cX5_go 0 = .ok (.iload_n 1, 1) := by decide +kernel
theorem dX5_go_1 : decode cX5_go 1 = .ok (.iconst 0, 1) := by decide +kernel
theorem dX5_go_2 : decode cX5_go 2 = .ok (.sipush 1023, 3) := by decide +kernel
theorem dX5_go_5 : decode cX5_go 5 = .ok (.invokestatic 23, 3) := by decide +kernel
theorem dX5_go_8 : decode cX5_go 8 = .ok (.ifCond .ne 5, 3) := by decide +kernel
theorem dX5_go_11 : decode cX5_go 11 = .ok (.iconst (-1), 1) := by decide +kernel
theorem dX5_go_12 : decode cX5_go 12 = .ok (.ireturn, 1) := by decide +kernel
theorem dX5_go_13 : decode cX5_go 13 = .ok (.aload_n 0, 1) := by decide +kernel
theorem dX5_go_14 : decode cX5_go 14 = .ok (.getfield 19, 3) := by decide +kernel
theorem dX5_go_17 : decode cX5_go 17 = .ok (.istore_n 2, 1) := by decide +kernel
theorem dX5_go_18 : decode cX5_go 18 = .ok (.aload_n 0, 1) := by decide +kernel
theorem dX5_go_19 : decode cX5_go 19 = .ok (.iload_n 1, 1) := by decide +kernel
theorem dX5_go_20 : decode cX5_go 20 = .ok (.putfield 19, 3) := by decide +kernel
theorem dX5_go_23 : decode cX5_go 23 = .ok (.iload_n 2, 1) := by decide +kernel
theorem dX5_go_24 : decode cX5_go 24 = .ok (.ireturn, 1) := by decide +kernel
set_option maxRecDepth 20000 in
theorem ggX5_ask_X5_in : GoodIn wsX5_ask wsX5_in := goodIn_r _ [5] (by decide +kernel) (by decide +kernel)
set_option maxRecDepth 20000 in
theorem gX5_ask_X5_in : GoodIn wsX5_ask (va_wsS RX5 23 yX5_in wsX5_in) := goodIn_app (goodIn_of _ (by decide +kernel)) ggX5_ask_X5_in
theorem dX5_ask_0 : decode cX5_ask 0 = .ok (.iload_n 1, 1) := by decide +kernel
theorem dX5_ask_1 : decode cX5_ask 1 = .ok (.iconst 1, 1) := by decide +kernel
theorem dX5_ask_2 : decode cX5_ask 2 = .ok (.bipush 25, 2) := by decide +kernel
theorem dX5_ask_4 : decode cX5_ask 4 = .ok (.invokestatic 23, 3) := by decide +kernel
theorem dX5_ask_7 : decode cX5_ask 7 = .ok (.ifCond .ne 5, 3) := by decide +kernel
theorem dX5_ask_10 : decode cX5_ask 10 = .ok (.iconst (-1), 1) := by decide +kernel
theorem dX5_ask_11 : decode cX5_ask 11 = .ok (.ireturn, 1) := by decide +kernel
theorem dX5_ask_12 : decode cX5_ask 12 = .ok (.aload_n 0, 1) := by decide +kernel
theorem dX5_ask_13 : decode cX5_ask 13 = .ok (.getfield 36, 3) := by decide +kernel
theorem dX5_ask_16 : decode cX5_ask 16 = .ok (.iload_n 1, 1) := by decide +kernel
theorem dX5_ask_17 : decode cX5_ask 17 = .ok (.ishr, 1) := by decide +kernel
theorem dX5_ask_18 : decode cX5_ask 18 = .ok (.iconst 1, 1) := by decide +kernel
theorem dX5_ask_19 : decode cX5_ask 19 = .ok (.iand, 1) := by decide +kernel
theorem dX5_ask_20 : decode cX5_ask 20 = .ok (.iconst 1, 1) := by decide +kernel
theorem dX5_ask_21 : decode cX5_ask 21 = .ok (.if_icmp .ne 7, 3) := by decide +kernel
theorem dX5_ask_24 : decode cX5_ask 24 = .ok (.iconst 0, 1) := by decide +kernel
theorem dX5_ask_25 : decode cX5_ask 25 = .ok (.goto 4, 3) := by decide +kernel
theorem dX5_ask_28 : decode cX5_ask 28 = .ok (.iconst 1, 1) := by decide +kernel
theorem dX5_ask_29 : decode cX5_ask 29 = .ok (.istore_n 2, 1) := by decide +kernel
theorem dX5_ask_30 : decode cX5_ask 30 = .ok (.aload_n 0, 1) := by decide +kernel
theorem dX5_ask_31 : decode cX5_ask 31 = .ok (.dup, 1) := by decide +kernel
theorem dX5_ask_32 : decode cX5_ask 32 = .ok (.getfield 36, 3) := by decide +kernel
theorem dX5_ask_35 : decode cX5_ask 35 = .ok (.iconst 1, 1) := by decide +kernel
theorem dX5_ask_36 : decode cX5_ask 36 = .ok (.iload_n 1, 1) := by decide +kernel
theorem dX5_ask_37 : decode cX5_ask 37 = .ok (.ishl, 1) := by decide +kernel
theorem dX5_ask_38 : decode cX5_ask 38 = .ok (.ior, 1) := by decide +kernel
theorem dX5_ask_39 : decode cX5_ask 39 = .ok (.putfield 36, 3) := by decide +kernel
theorem dX5_ask_42 : decode cX5_ask 42 = .ok (.iload_n 2, 1) := by decide +kernel
theorem dX5_ask_43 : decode cX5_ask 43 = .ok (.ireturn, 1) := by decide +kernel
theorem dX5_isMemory_0 : decode cX5_isMemory 0 = .ok (.iload_n 0, 1) := by decide +kernel
theorem dX5_isMemory_1 : decode cX5_isMemory 1 = .ok (.ldc 39, 2) := by decide +kernel
theorem dX5_isMemory_3 : decode cX5_isMemory 3 = .ok (.iand, 1) := by decide +kernel
theorem dX5_isMemory_4 : decode cX5_isMemory 4 = .ok (.ldc 40, 2) := by decide +kernel
theorem dX5_isMemory_6 : decode cX5_isMemory 6 = .ok (.if_icmp .ne 7, 3) := by decide +kernel
theorem dX5_isMemory_9 : decode cX5_isMemory 9 = .ok (.iconst 1, 1) := by decide +kernel
theorem dX5_isMemory_10 : decode cX5_isMemory 10 = .ok (.goto 4, 3) := by decide +kernel
theorem dX5_isMemory_13 : decode cX5_isMemory 13 = .ok (.iconst 0, 1) := by decide +kernel
theorem dX5_isMemory_14 : decode cX5_isMemory 14 = .ok (.ireturn, 1) := by decide +kernel
theorem dX5_isOne_0 : decode cX5_isOne 0 = .ok (.iload_n 0, 1) := by decide +kernel
theorem dX5_isOne_1 : decode cX5_isOne 1 = .ok (.ldc 41, 2) := by decide +kernel
theorem dX5_isOne_3 : decode cX5_isOne 3 = .ok (.iand, 1) := by decide +kernel
theorem dX5_isOne_4 : decode cX5_isOne 4 = .ok (.ldc 42, 2) := by decide +kernel
theorem dX5_isOne_6 : decode cX5_isOne 6 = .ok (.if_icmp .ne 7, 3) := by decide +kernel
theorem dX5_isOne_9 : decode cX5_isOne 9 = .ok (.iconst 1, 1) := by decide +kernel
theorem dX5_isOne_10 : decode cX5_isOne 10 = .ok (.goto 4, 3) := by decide +kernel
theorem dX5_isOne_13 : decode cX5_isOne 13 = .ok (.iconst 0, 1) := by decide +kernel
theorem dX5_isOne_14 : decode cX5_isOne 14 = .ok (.ireturn, 1) := by decide +kernel
set_option maxRecDepth 20000 in
theorem ggX5_hasNext_X5_isMemory : GoodIn wsX5_hasNext wsX5_isMemory := goodIn_r _ [4, 5, 6] (by decide +kernel) (by decide +kernel)
set_option maxRecDepth 20000 in
theorem gX5_hasNext_X5_isMemory : GoodIn wsX5_hasNext (va_wsS RX5 43 yX5_isMemory wsX5_isMemory) := goodIn_app (goodIn_of _ (by decide +kernel)) ggX5_hasNext_X5_isMemory
set_option maxRecDepth 20000 in
theorem ggX5_hasNext_X5_isOne : GoodIn wsX5_hasNext wsX5_isOne := goodIn_r _ [9, 10, 11] (by decide +kernel) (by decide +kernel)
set_option maxRecDepth 20000 in
theorem gX5_hasNext_X5_isOne : GoodIn wsX5_hasNext (va_wsS RX5 47 yX5_isOne wsX5_isOne) := goodIn_app (goodIn_of _ (by decide +kernel)) ggX5_hasNext_X5_isOne
theorem dX5_hasNext_0 : decode cX5_hasNext 0 = .ok (.iload_n 0, 1) := by decide +kernel
theorem dX5_hasNext_1 : decode cX5_hasNext 1 = .ok (.invokestatic 43, 3) := by decide +kernel
theorem dX5_hasNext_4 : decode cX5_hasNext 4 = .ok (.ifCond .eq 10, 3) := by decide +kernel
theorem dX5_hasNext_7 : decode cX5_hasNext 7 = .ok (.iload_n 0, 1) := by decide +kernel
theorem dX5_hasNext_8 : decode cX5_hasNext 8 = .ok (.bipush 15, 2) := by decide +kernel
theorem dX5_hasNext_10 : decode cX5_hasNext 10 = .ok (.iand, 1) := by decide +kernel
theorem dX5_hasNext_11 : decode cX5_hasNext 11 = .ok (.ifCond .eq 19, 3) := by decide +kernel
theorem dX5_hasNext_14 : decode cX5_hasNext 14 = .ok (.iload_n 0, 1) := by decide +kernel
theorem dX5_hasNext_15 : decode cX5_hasNext 15 = .ok (.invokestatic 47, 3) := by decide +kernel
theorem dX5_hasNext_18 : decode cX5_hasNext 18 = .ok (.ifCond .eq 16, 3) := by decide +kernel
theorem dX5_hasNext_21 : decode cX5_hasNext 21 = .ok (.iload_n 0, 1) := by decide +kernel
theorem dX5_hasNext_22 : decode cX5_hasNext 22 = .ok (.bipush 15, 2) := by decide +kernel
theorem dX5_hasNext_24 : decode cX5_hasNext 24 = .ok (.iand, 1) := by decide +kernel
theorem dX5_hasNext_25 : decode cX5_hasNext 25 = .ok (.bipush 11, 2) := by decide +kernel
theorem dX5_hasNext_27 : decode cX5_hasNext 27 = .ok (.if_icmp .le 7, 3) := by decide +kernel
theorem dX5_hasNext_30 : decode cX5_hasNext 30 = .ok (.iconst 1, 1) := by decide +kernel
theorem dX5_hasNext_31 : decode cX5_hasNext 31 = .ok (.goto 4, 3) := by decide +kernel
theorem dX5_hasNext_34 : decode cX5_hasNext 34 = .ok (.iconst 0, 1) := by decide +kernel
theorem dX5_hasNext_35 : decode cX5_hasNext 35 = .ok (.ireturn, 1) := by decide +kernel
theorem dX5_dOf_0 : decode cX5_dOf 0 = .ok (.iload_n 0, 1) := by decide +kernel
theorem dX5_dOf_1 : decode cX5_dOf 1 = .ok (.iconst 4, 1) := by decide +kernel
theorem dX5_dOf_2 : decode cX5_dOf 2 = .ok (.ishr, 1) := by decide +kernel
theorem dX5_dOf_3 : decode cX5_dOf 3 = .ok (.bipush 31, 2) := by decide +kernel
theorem dX5_dOf_5 : decode cX5_dOf 5 = .ok (.iand, 1) := by decide +kernel
theorem dX5_dOf_6 : decode cX5_dOf 6 = .ok (.ireturn, 1) := by decide +kernel
theorem dX5_changes_0 : decode cX5_changes 0 = .ok (.iload_n 0, 1) := by decide +kernel
theorem dX5_changes_1 : decode cX5_changes 1 = .ok (.bipush 15, 2) := by decide +kernel
theorem dX5_changes_3 : decode cX5_changes 3 = .ok (.iand, 1) := by decide +kernel
theorem dX5_changes_4 : decode cX5_changes 4 = .ok (.tableswitch 81 1 14 #[72, 72, 81, 81, 72, 81, 81, 81, 75, 75, 81, 81, 78, 78], 72) := by decide +kernel
theorem dX5_changes_76 : decode cX5_changes 76 = .ok (.bipush 30, 2) := by decide +kernel
theorem dX5_changes_78 : decode cX5_changes 78 = .ok (.ireturn, 1) := by decide +kernel
theorem dX5_changes_79 : decode cX5_changes 79 = .ok (.bipush 28, 2) := by decide +kernel
theorem dX5_changes_81 : decode cX5_changes 81 = .ok (.ireturn, 1) := by decide +kernel
theorem dX5_changes_82 : decode cX5_changes 82 = .ok (.bipush 26, 2) := by decide +kernel
theorem dX5_changes_84 : decode cX5_changes 84 = .ok (.ireturn, 1) := by decide +kernel
theorem dX5_changes_85 : decode cX5_changes 85 = .ok (.iconst 0, 1) := by decide +kernel
theorem dX5_changes_86 : decode cX5_changes 86 = .ok (.ireturn, 1) := by decide +kernel
set_option maxRecDepth 20000 in
theorem ggX5_isBadMemory_X5_changes : GoodIn wsX5_isBadMemory wsX5_changes := goodIn_r _ [4] (by decide +kernel) (by decide +kernel)
set_option maxRecDepth 20000 in
theorem gX5_isBadMemory_X5_changes : GoodIn wsX5_isBadMemory (va_wsS RX5 50 yX5_changes wsX5_changes) := goodIn_app (goodIn_of _ (by decide +kernel)) ggX5_isBadMemory_X5_changes
set_option maxRecDepth 20000 in
theorem ggX5_isBadMemory_X5_dOf : GoodIn wsX5_isBadMemory wsX5_dOf := goodIn_r _ [7] (by decide +kernel) (by decide +kernel)
set_option maxRecDepth 20000 in
theorem gX5_isBadMemory_X5_dOf : GoodIn wsX5_isBadMemory (va_wsS RX5 53 yX5_dOf wsX5_dOf) := goodIn_app (goodIn_of _ (by decide +kernel)) ggX5_isBadMemory_X5_dOf
theorem dX5_isBadMemory_0 : decode cX5_isBadMemory 0 = .ok (.iload_n 0, 1) := by decide +kernel
theorem dX5_isBadMemory_1 : decode cX5_isBadMemory 1 = .ok (.bipush 15, 2) := by decide +kernel
theorem dX5_isBadMemory_3 : decode cX5_isBadMemory 3 = .ok (.iand, 1) := by decide +kernel
theorem dX5_isBadMemory_4 : decode cX5_isBadMemory 4 = .ok (.istore_n 1, 1) := by decide +kernel
theorem dX5_isBadMemory_5 : decode cX5_isBadMemory 5 = .ok (.iload_n 0, 1) := by decide +kernel
theorem dX5_isBadMemory_6 : decode cX5_isBadMemory 6 = .ok (.sipush 512, 3) := by decide +kernel
theorem dX5_isBadMemory_9 : decode cX5_isBadMemory 9 = .ok (.iand, 1) := by decide +kernel
theorem dX5_isBadMemory_10 : decode cX5_isBadMemory 10 = .ok (.ifCond .eq 7, 3) := by decide +kernel
theorem dX5_isBadMemory_13 : decode cX5_isBadMemory 13 = .ok (.iconst 1, 1) := by decide +kernel
theorem dX5_isBadMemory_14 : decode cX5_isBadMemory 14 = .ok (.goto 4, 3) := by decide +kernel
theorem dX5_isBadMemory_17 : decode cX5_isBadMemory 17 = .ok (.iconst 0, 1) := by decide +kernel
theorem dX5_isBadMemory_18 : decode cX5_isBadMemory 18 = .ok (.istore_n 2, 1) := by decide +kernel
theorem dX5_isBadMemory_19 : decode cX5_isBadMemory 19 = .ok (.iload_n 1, 1) := by decide +kernel
theorem dX5_isBadMemory_20 : decode cX5_isBadMemory 20 = .ok (.iconst 3, 1) := by decide +kernel
theorem dX5_isBadMemory_21 : decode cX5_isBadMemory 21 = .ok (.if_icmp .eq 41, 3) := by decide +kernel
theorem dX5_isBadMemory_24 : decode cX5_isBadMemory 24 = .ok (.iload_n 1, 1) := by decide +kernel
theorem dX5_isBadMemory_25 : decode cX5_isBadMemory 25 = .ok (.bipush 6, 2) := by decide +kernel
theorem dX5_isBadMemory_27 : decode cX5_isBadMemory 27 = .ok (.if_icmp .eq 35, 3) := by decide +kernel
theorem dX5_isBadMemory_30 : decode cX5_isBadMemory 30 = .ok (.iload_n 1, 1) := by decide +kernel
theorem dX5_isBadMemory_31 : decode cX5_isBadMemory 31 = .ok (.bipush 7, 2) := by decide +kernel
theorem dX5_isBadMemory_33 : decode cX5_isBadMemory 33 = .ok (.if_icmp .eq 29, 3) := by decide +kernel
theorem dX5_isBadMemory_36 : decode cX5_isBadMemory 36 = .ok (.iload_n 1, 1) := by decide +kernel
theorem dX5_isBadMemory_37 : decode cX5_isBadMemory 37 = .ok (.bipush 8, 2) := by decide +kernel
theorem dX5_isBadMemory_39 : decode cX5_isBadMemory 39 = .ok (.if_icmp .eq 23, 3) := by decide +kernel
theorem dX5_isBadMemory_42 : decode cX5_isBadMemory 42 = .ok (.iload_n 1, 1) := by decide +kernel
theorem dX5_isBadMemory_43 : decode cX5_isBadMemory 43 = .ok (.bipush 11, 2) := by decide +kernel
theorem dX5_isBadMemory_45 : decode cX5_isBadMemory 45 = .ok (.if_icmp .eq 17, 3) := by decide +kernel
theorem dX5_isBadMemory_48 : decode cX5_isBadMemory 48 = .ok (.iload_n 2, 1) := by decide +kernel
theorem dX5_isBadMemory_49 : decode cX5_isBadMemory 49 = .ok (.ifCond .eq 15, 3) := by decide +kernel
theorem dX5_isBadMemory_52 : decode cX5_isBadMemory 52 = .ok (.iload_n 1, 1) := by decide +kernel
theorem dX5_isBadMemory_53 : decode cX5_isBadMemory 53 = .ok (.iconst 4, 1) := by decide +kernel
theorem dX5_isBadMemory_54 : decode cX5_isBadMemory 54 = .ok (.if_icmp .eq 8, 3) := by decide +kernel
theorem dX5_isBadMemory_57 : decode cX5_isBadMemory 57 = .ok (.iload_n 1, 1) := by decide +kernel
theorem dX5_isBadMemory_58 : decode cX5_isBadMemory 58 = .ok (.iconst 5, 1) := by decide +kernel
theorem dX5_isBadMemory_59 : decode cX5_isBadMemory 59 = .ok (.if_icmp .ne 5, 3) := by decide +kernel
theorem dX5_isBadMemory_62 : decode cX5_isBadMemory 62 = .ok (.iconst 1, 1) := by decide +kernel
theorem dX5_isBadMemory_63 : decode cX5_isBadMemory 63 = .ok (.ireturn, 1) := by decide +kernel
theorem dX5_isBadMemory_64 : decode cX5_isBadMemory 64 = .ok (.iload_n 0, 1) := by decide +kernel
theorem dX5_isBadMemory_65 : decode cX5_isBadMemory 65 = .ok (.invokestatic 50, 3) := by decide +kernel
theorem dX5_isBadMemory_68 : decode cX5_isBadMemory 68 = .ok (.istore_n 3, 1) := by decide +kernel
theorem dX5_isBadMemory_69 : decode cX5_isBadMemory 69 = .ok (.iload_n 3, 1) := by decide +kernel
theorem dX5_isBadMemory_70 : decode cX5_isBadMemory 70 = .ok (.ifCond .le 25, 3) := by decide +kernel
theorem dX5_isBadMemory_73 : decode cX5_isBadMemory 73 = .ok (.iload_n 0, 1) := by decide +kernel
theorem dX5_isBadMemory_74 : decode cX5_isBadMemory 74 = .ok (.invokestatic 53, 3) := by decide +kernel
theorem dX5_isBadMemory_77 : decode cX5_isBadMemory 77 = .ok (.iload_n 3, 1) := by decide +kernel
theorem dX5_isBadMemory_78 : decode cX5_isBadMemory 78 = .ok (.if_icmp .eq 13, 3) := by decide +kernel
theorem dX5_isBadMemory_81 : decode cX5_isBadMemory 81 = .ok (.iload_n 0, 1) := by decide +kernel
theorem dX5_isBadMemory_82 : decode cX5_isBadMemory 82 = .ok (.invokestatic 53, 3) := by decide +kernel
theorem dX5_isBadMemory_85 : decode cX5_isBadMemory 85 = .ok (.iload_n 3, 1) := by decide +kernel
theorem dX5_isBadMemory_86 : decode cX5_isBadMemory 86 = .ok (.iconst 1, 1) := by decide +kernel
theorem dX5_isBadMemory_87 : decode cX5_isBadMemory 87 = .ok (.iadd, 1) := by decide +kernel
theorem dX5_isBadMemory_88 : decode cX5_isBadMemory 88 = .ok (.if_icmp .ne 7, 3) := by decide +kernel
theorem dX5_isBadMemory_91 : decode cX5_isBadMemory 91 = .ok (.iconst 1, 1) := by decide +kernel
theorem dX5_isBadMemory_92 : decode cX5_isBadMemory 92 = .ok (.goto 4, 3) := by decide +kernel
theorem dX5_isBadMemory_95 : decode cX5_isBadMemory 95 = .ok (.iconst 0, 1) := by decide +kernel
theorem dX5_isBadMemory_96 : decode cX5_isBadMemory 96 = .ok (.ireturn, 1) := by decide +kernel
theorem dX5_isBadOne_0 : decode cX5_isBadOne 0 = .ok (.iload_n 0, 1) := by decide +kernel
theorem dX5_isBadOne_1 : decode cX5_isBadOne 1 = .ok (.bipush 15, 2) := by decide +kernel
theorem dX5_isBadOne_3 : decode cX5_isBadOne 3 = .ok (.iand, 1) := by decide +kernel
theorem dX5_isBadOne_4 : decode cX5_isBadOne 4 = .ok (.istore_n 1, 1) := by decide +kernel
theorem dX5_isBadOne_5 : decode cX5_isBadOne 5 = .ok (.iload_n 1, 1) := by decide +kernel
theorem dX5_isBadOne_6 : decode cX5_isBadOne 6 = .ok (.iconst 4, 1) := by decide +kernel
theorem dX5_isBadOne_7 : decode cX5_isBadOne 7 = .ok (.if_icmp .eq 9, 3) := by decide +kernel
theorem dX5_isBadOne_10 : decode cX5_isBadOne 10 = .ok (.iload_n 1, 1) := by decide +kernel
theorem dX5_isBadOne_11 : decode cX5_isBadOne 11 = .ok (.bipush 11, 2) := by decide +kernel
theorem dX5_isBadOne_13 : decode cX5_isBadOne 13 = .ok (.if_icmp .ne 5, 3) := by decide +kernel
theorem dX5_isBadOne_16 : decode cX5_isBadOne 16 = .ok (.iconst 1, 1) := by decide +kernel
theorem dX5_isBadOne_17 : decode cX5_isBadOne 17 = .ok (.ireturn, 1) := by decide +kernel
theorem dX5_isBadOne_18 : decode cX5_isBadOne 18 = .ok (.iload_n 1, 1) := by decide +kernel
theorem dX5_isBadOne_19 : decode cX5_isBadOne 19 = .ok (.bipush 8, 2) := by decide +kernel
theorem dX5_isBadOne_21 : decode cX5_isBadOne 21 = .ok (.if_icmp .ne 35, 3) := by decide +kernel
theorem dX5_isBadOne_24 : decode cX5_isBadOne 24 = .ok (.iload_n 0, 1) := by decide +kernel
theorem dX5_isBadOne_25 : decode cX5_isBadOne 25 = .ok (.sipush 256, 3) := by decide +kernel
theorem dX5_isBadOne_28 : decode cX5_isBadOne 28 = .ok (.iand, 1) := by decide +kernel
theorem dX5_isBadOne_29 : decode cX5_isBadOne 29 = .ok (.ifCond .eq 25, 3) := by decide +kernel
theorem dX5_isBadOne_32 : decode cX5_isBadOne 32 = .ok (.iload_n 0, 1) := by decide +kernel
theorem dX5_isBadOne_33 : decode cX5_isBadOne 33 = .ok (.ldc 56, 2) := by decide +kernel
theorem dX5_isBadOne_35 : decode cX5_isBadOne 35 = .ok (.if_icmp .eq 19, 3) := by decide +kernel
theorem dX5_isBadOne_38 : decode cX5_isBadOne 38 = .ok (.iload_n 0, 1) := by decide +kernel
theorem dX5_isBadOne_39 : decode cX5_isBadOne 39 = .ok (.ldc 57, 2) := by decide +kernel
theorem dX5_isBadOne_41 : decode cX5_isBadOne 41 = .ok (.if_icmp .eq 13, 3) := by decide +kernel
theorem dX5_isBadOne_44 : decode cX5_isBadOne 44 = .ok (.iload_n 0, 1) := by decide +kernel
theorem dX5_isBadOne_45 : decode cX5_isBadOne 45 = .ok (.ldc 58, 2) := by decide +kernel
theorem dX5_isBadOne_47 : decode cX5_isBadOne 47 = .ok (.if_icmp .eq 7, 3) := by decide +kernel
theorem dX5_isBadOne_50 : decode cX5_isBadOne 50 = .ok (.iconst 1, 1) := by decide +kernel
theorem dX5_isBadOne_51 : decode cX5_isBadOne 51 = .ok (.goto 4, 3) := by decide +kernel
theorem dX5_isBadOne_54 : decode cX5_isBadOne 54 = .ok (.iconst 0, 1) := by decide +kernel
theorem dX5_isBadOne_55 : decode cX5_isBadOne 55 = .ok (.ireturn, 1) := by decide +kernel
theorem dX5_isBadOne_56 : decode cX5_isBadOne 56 = .ok (.iload_n 1, 1) := by decide +kernel
theorem dX5_isBadOne_57 : decode cX5_isBadOne 57 = .ok (.bipush 9, 2) := by decide +kernel
theorem dX5_isBadOne_59 : decode cX5_isBadOne 59 = .ok (.if_icmp .ne 19, 3) := by decide +kernel
theorem dX5_isBadOne_62 : decode cX5_isBadOne 62 = .ok (.iload_n 0, 1) := by decide +kernel
theorem dX5_isBadOne_63 : decode cX5_isBadOne 63 = .ok (.ldc 59, 2) := by decide +kernel
theorem dX5_isBadOne_65 : decode cX5_isBadOne 65 = .ok (.if_icmp .eq 13, 3) := by decide +kernel
theorem dX5_isBadOne_68 : decode cX5_isBadOne 68 = .ok (.iload_n 0, 1) := by decide +kernel
theorem dX5_isBadOne_69 : decode cX5_isBadOne 69 = .ok (.ldc 60, 2) := by decide +kernel
theorem dX5_isBadOne_71 : decode cX5_isBadOne 71 = .ok (.if_icmp .eq 7, 3) := by decide +kernel
theorem dX5_isBadOne_74 : decode cX5_isBadOne 74 = .ok (.iconst 1, 1) := by decide +kernel
theorem dX5_isBadOne_75 : decode cX5_isBadOne 75 = .ok (.goto 4, 3) := by decide +kernel
theorem dX5_isBadOne_78 : decode cX5_isBadOne 78 = .ok (.iconst 0, 1) := by decide +kernel
theorem dX5_isBadOne_79 : decode cX5_isBadOne 79 = .ok (.ireturn, 1) := by decide +kernel
set_option maxRecDepth 20000 in
theorem ggX5_isIllegal_X5_isMemory : GoodIn wsX5_isIllegal wsX5_isMemory := goodIn_r _ [5, 6, 7] (by decide +kernel) (by decide +kernel)
set_option maxRecDepth 20000 in
theorem gX5_isIllegal_X5_isMemory : GoodIn wsX5_isIllegal (va_wsS RX5 43 yX5_isMemory wsX5_isMemory) := goodIn_app (goodIn_of _ (by decide +kernel)) ggX5_isIllegal_X5_isMemory
set_option maxRecDepth 20000 in
theorem ggX5_isIllegal_X5_isBadMemory : GoodIn wsX5_isIllegal wsX5_isBadMemory := goodIn_r _ [10, 11, 12, 4, 13, 14, 15, 16] (by decide +kernel) (by decide +kernel)
set_option maxRecDepth 20000 in
theorem gX5_isIllegal_X5_isBadMemory : GoodIn wsX5_isIllegal (va_wsS RX5 61 yX5_isBadMemory wsX5_isBadMemory) := goodIn_app (goodIn_of _ (by decide +kernel)) ggX5_isIllegal_X5_isBadMemory
set_option maxRecDepth 20000 in
theorem ggX5_isIllegal_X5_isOne : GoodIn wsX5_isIllegal wsX5_isOne := goodIn_r _ [19, 20, 21] (by decide +kernel) (by decide +kernel)
set_option maxRecDepth 20000 in
theorem gX5_isIllegal_X5_isOne : GoodIn wsX5_isIllegal (va_wsS RX5 47 yX5_isOne wsX5_isOne) := goodIn_app (goodIn_of _ (by decide +kernel)) ggX5_isIllegal_X5_isOne
set_option maxRecDepth 20000 in
theorem ggX5_isIllegal_X5_isBadOne : GoodIn wsX5_isIllegal wsX5_isBadOne := goodIn_r _ [24, 25, 26, 27, 28, 29] (by decide +kernel) (by decide +kernel)
set_option maxRecDepth 20000 in
theorem gX5_isIllegal_X5_isBadOne : GoodIn wsX5_isIllegal (va_wsS RX5 64 yX5_isBadOne wsX5_isBadOne) := goodIn_app (goodIn_of _ (by decide +kernel)) ggX5_isIllegal_X5_isBadOne
theorem dX5_isIllegal_0 : decode cX5_isIllegal 0 = .ok (.iload_n 0, 1) := by decide +kernel
theorem dX5_isIllegal_1 : decode cX5_isIllegal 1 = .ok (.sipush 256, 3) := by decide +kernel
theorem dX5_isIllegal_4 : decode cX5_isIllegal 4 = .ok (.if_icmp .ge 13, 3) := by decide +kernel
theorem dX5_isIllegal_7 : decode cX5_isIllegal 7 = .ok (.iload_n 0, 1) := by decide +kernel
theorem dX5_isIllegal_8 : decode cX5_isIllegal 8 = .ok (.ifCond .eq 7, 3) := by decide +kernel
theorem dX5_isIllegal_11 : decode cX5_isIllegal 11 = .ok (.iconst 1, 1) := by decide +kernel
theorem dX5_isIllegal_12 : decode cX5_isIllegal 12 = .ok (.goto 4, 3) := by decide +kernel
theorem dX5_isIllegal_15 : decode cX5_isIllegal 15 = .ok (.iconst 0, 1) := by decide +kernel
theorem dX5_isIllegal_16 : decode cX5_isIllegal 16 = .ok (.ireturn, 1) := by decide +kernel
theorem dX5_isIllegal_17 : decode cX5_isIllegal 17 = .ok (.iload_n 0, 1) := by decide +kernel
theorem dX5_isIllegal_18 : decode cX5_isIllegal 18 = .ok (.invokestatic 43, 3) := by decide +kernel
theorem dX5_isIllegal_21 : decode cX5_isIllegal 21 = .ok (.ifCond .eq 8, 3) := by decide +kernel
theorem dX5_isIllegal_24 : decode cX5_isIllegal 24 = .ok (.iload_n 0, 1) := by decide +kernel
theorem dX5_isIllegal_25 : decode cX5_isIllegal 25 = .ok (.invokestatic 61, 3) := by decide +kernel
theorem dX5_isIllegal_28 : decode cX5_isIllegal 28 = .ok (.ireturn, 1) := by decide +kernel
theorem dX5_isIllegal_29 : decode cX5_isIllegal 29 = .ok (.iload_n 0, 1) := by decide +kernel
theorem dX5_isIllegal_30 : decode cX5_isIllegal 30 = .ok (.invokestatic 47, 3) := by decide +kernel
theorem dX5_isIllegal_33 : decode cX5_isIllegal 33 = .ok (.ifCond .eq 8, 3) := by decide +kernel
theorem dX5_isIllegal_36 : decode cX5_isIllegal 36 = .ok (.iload_n 0, 1) := by decide +kernel
theorem dX5_isIllegal_37 : decode cX5_isIllegal 37 = .ok (.invokestatic 64, 3) := by decide +kernel
theorem dX5_isIllegal_40 : decode cX5_isIllegal 40 = .ok (.ireturn, 1) := by decide +kernel
theorem dX5_isIllegal_41 : decode cX5_isIllegal 41 = .ok (.iload_n 0, 1) := by decide +kernel
theorem dX5_isIllegal_42 : decode cX5_isIllegal 42 = .ok (.ldc 67, 2) := by decide +kernel
theorem dX5_isIllegal_44 : decode cX5_isIllegal 44 = .ok (.iand, 1) := by decide +kernel
theorem dX5_isIllegal_45 : decode cX5_isIllegal 45 = .ok (.ldc 67, 2) := by decide +kernel
theorem dX5_isIllegal_47 : decode cX5_isIllegal 47 = .ok (.if_icmp .ne 7, 3) := by decide +kernel
theorem dX5_isIllegal_50 : decode cX5_isIllegal 50 = .ok (.iconst 1, 1) := by decide +kernel
theorem dX5_isIllegal_51 : decode cX5_isIllegal 51 = .ok (.goto 4, 3) := by decide +kernel
theorem dX5_isIllegal_54 : decode cX5_isIllegal 54 = .ok (.iconst 0, 1) := by decide +kernel
theorem dX5_isIllegal_55 : decode cX5_isIllegal 55 = .ok (.ireturn, 1) := by decide +kernel
set_option maxRecDepth 20000 in
theorem ggX5_reads_X5_in : GoodIn wsX5_reads wsX5_in := goodIn_r _ [5] (by decide +kernel) (by decide +kernel)
set_option maxRecDepth 20000 in
theorem gX5_reads_X5_in : GoodIn wsX5_reads (va_wsS RX5 23 yX5_in wsX5_in) := goodIn_app (goodIn_of _ (by decide +kernel)) ggX5_reads_X5_in
set_option maxRecDepth 20000 in
theorem ggX5_reads_X5_isIllegal : GoodIn wsX5_reads wsX5_isIllegal := goodIn_r _ [8, 9, 10, 11, 4, 12, 13, 14, 15, 16, 17, 18, 19, 20, 21, 22, 23, 24, 25, 26, 27, 28, 29, 30, 31, 32, 33, 34, 35, 36] (by decide +kernel) (by decide +kernel)
set_option maxRecDepth 20000 in
theorem gX5_reads_X5_isIllegal : GoodIn wsX5_reads (va_wsS RX5 68 yX5_isIllegal wsX5_isIllegal) := goodIn_app (goodIn_of _ (by decide +kernel)) ggX5_reads_X5_isIllegal
set_option maxRecDepth 20000 in
theorem ggX5_reads_X5_hasNext : GoodIn wsX5_reads wsX5_hasNext := goodIn_r _ [39, 10, 11, 4, 12, 13, 14, 24, 25, 26, 27, 28] (by decide +kernel) (by decide +kernel)
set_option maxRecDepth 20000 in
theorem gX5_reads_X5_hasNext : GoodIn wsX5_reads (va_wsS RX5 71 yX5_hasNext wsX5_hasNext) := goodIn_app (goodIn_of _ (by decide +kernel)) ggX5_reads_X5_hasNext
theorem dX5_reads_0 : decode cX5_reads 0 = .ok (.iload_n 1, 1) := by decide +kernel
theorem dX5_reads_1 : decode cX5_reads 1 = .ok (.iconst 0, 1) := by decide +kernel
theorem dX5_reads_2 : decode cX5_reads 2 = .ok (.ldc 27, 2) := by decide +kernel
theorem dX5_reads_4 : decode cX5_reads 4 = .ok (.invokestatic 23, 3) := by decide +kernel
theorem dX5_reads_7 : decode cX5_reads 7 = .ok (.ifCond .eq 12, 3) := by decide +kernel
theorem dX5_reads_10 : decode cX5_reads 10 = .ok (.iload_n 2, 1) := by decide +kernel
theorem dX5_reads_11 : decode cX5_reads 11 = .ok (.iconst 0, 1) := by decide +kernel
theorem dX5_reads_12 : decode cX5_reads 12 = .ok (.iconst 1, 1) := by decide +kernel
theorem dX5_reads_13 : decode cX5_reads 13 = .ok (.invokestatic 23, 3) := by decide +kernel
theorem dX5_reads_16 : decode cX5_reads 16 = .ok (.ifCond .ne 5, 3) := by decide +kernel
theorem dX5_reads_19 : decode cX5_reads 19 = .ok (.iconst (-1), 1) := by decide +kernel
theorem dX5_reads_20 : decode cX5_reads 20 = .ok (.ireturn, 1) := by decide +kernel
theorem dX5_reads_21 : decode cX5_reads 21 = .ok (.iload_n 2, 1) := by decide +kernel
theorem dX5_reads_22 : decode cX5_reads 22 = .ok (.ifCond .ne 13, 3) := by decide +kernel
theorem dX5_reads_25 : decode cX5_reads 25 = .ok (.iload_n 1, 1) := by decide +kernel
theorem dX5_reads_26 : decode cX5_reads 26 = .ok (.invokestatic 68, 3) := by decide +kernel
theorem dX5_reads_29 : decode cX5_reads 29 = .ok (.ifCond .eq 17, 3) := by decide +kernel
theorem dX5_reads_32 : decode cX5_reads 32 = .ok (.goto 10, 3) := by decide +kernel
theorem dX5_reads_35 : decode cX5_reads 35 = .ok (.iload_n 1, 1) := by decide +kernel
theorem dX5_reads_36 : decode cX5_reads 36 = .ok (.invokestatic 71, 3) := by decide +kernel
theorem dX5_reads_39 : decode cX5_reads 39 = .ok (.ifCond .eq 7, 3) := by decide +kernel
theorem dX5_reads_42 : decode cX5_reads 42 = .ok (.iconst 1, 1) := by decide +kernel
theorem dX5_reads_43 : decode cX5_reads 43 = .ok (.goto 4, 3) := by decide +kernel
theorem dX5_reads_46 : decode cX5_reads 46 = .ok (.iconst 0, 1) := by decide +kernel
theorem dX5_reads_47 : decode cX5_reads 47 = .ok (.ireturn, 1) := by decide +kernel
theorem dX5_has_0 : decode cX5_has 0 = .ok (.aload_n 0, 1) := by decide +kernel
theorem dX5_has_1 : decode cX5_has 1 = .ok (.getfield 13, 3) := by decide +kernel
theorem dX5_has_4 : decode cX5_has 4 = .ok (.bipush 95, 2) := by decide +kernel
theorem dX5_has_6 : decode cX5_has 6 = .ok (.iaload, 1) := by decide +kernel
theorem dX5_has_7 : decode cX5_has 7 = .ok (.iload_n 1, 1) := by decide +kernel
theorem dX5_has_8 : decode cX5_has 8 = .ok (.iand, 1) := by decide +kernel
theorem dX5_has_9 : decode cX5_has 9 = .ok (.ifCond .eq 7, 3) := by decide +kernel
theorem dX5_has_12 : decode cX5_has 12 = .ok (.iconst 1, 1) := by decide +kernel
theorem dX5_has_13 : decode cX5_has 13 = .ok (.goto 4, 3) := by decide +kernel
theorem dX5_has_16 : decode cX5_has 16 = .ok (.iconst 0, 1) := by decide +kernel
theorem dX5_has_17 : decode cX5_has 17 = .ok (.ireturn, 1) := by decide +kernel
theorem dX5_flag_0 : decode cX5_flag 0 = .ok (.aload_n 0, 1) := by decide +kernel
theorem dX5_flag_1 : decode cX5_flag 1 = .ok (.getfield 13, 3) := by decide +kernel
theorem dX5_flag_4 : decode cX5_flag 4 = .ok (.bipush 95, 2) := by decide +kernel
theorem dX5_flag_6 : decode cX5_flag 6 = .ok (.iload_n 2, 1) := by decide +kernel
theorem dX5_flag_7 : decode cX5_flag 7 = .ok (.ifCond .eq 15, 3) := by decide +kernel
theorem dX5_flag_10 : decode cX5_flag 10 = .ok (.aload_n 0, 1) := by decide +kernel
theorem dX5_flag_11 : decode cX5_flag 11 = .ok (.getfield 13, 3) := by decide +kernel
theorem dX5_flag_14 : decode cX5_flag 14 = .ok (.bipush 95, 2) := by decide +kernel
theorem dX5_flag_16 : decode cX5_flag 16 = .ok (.iaload, 1) := by decide +kernel
theorem dX5_flag_17 : decode cX5_flag 17 = .ok (.iload_n 1, 1) := by decide +kernel
theorem dX5_flag_18 : decode cX5_flag 18 = .ok (.ior, 1) := by decide +kernel
theorem dX5_flag_19 : decode cX5_flag 19 = .ok (.goto 14, 3) := by decide +kernel
theorem dX5_flag_22 : decode cX5_flag 22 = .ok (.aload_n 0, 1) := by decide +kernel
theorem dX5_flag_23 : decode cX5_flag 23 = .ok (.getfield 13, 3) := by decide +kernel
theorem dX5_flag_26 : decode cX5_flag 26 = .ok (.bipush 95, 2) := by decide +kernel
theorem dX5_flag_28 : decode cX5_flag 28 = .ok (.iaload, 1) := by decide +kernel
theorem dX5_flag_29 : decode cX5_flag 29 = .ok (.iload_n 1, 1) := by decide +kernel
theorem dX5_flag_30 : decode cX5_flag 30 = .ok (.iconst (-1), 1) := by decide +kernel
theorem dX5_flag_31 : decode cX5_flag 31 = .ok (.ixor, 1) := by decide +kernel
theorem dX5_flag_32 : decode cX5_flag 32 = .ok (.iand, 1) := by decide +kernel
theorem dX5_flag_33 : decode cX5_flag 33 = .ok (.iastore, 1) := by decide +kernel
theorem dX5_flag_34 : decode cX5_flag 34 = .ok (.return_, 1) := by decide +kernel
set_option maxRecDepth 20000 in
theorem ggX5_signs_X5_flag : GoodIn wsX5_signs wsX5_flag := goodIn_r _ [5, 6, 7, 8, 9, 10, 11, 12, 13, 14] (by decide +kernel) (by decide +kernel)
set_option maxRecDepth 20000 in
theorem gX5_signs_X5_flag : GoodIn wsX5_signs (wsV RX5 74 RX5 yX5_flag wsX5_flag) := goodIn_app (goodIn_of _ (by decide +kernel)) ggX5_signs_X5_flag
theorem dX5_signs_0 : decode cX5_signs 0 = .ok (.aload_n 0, 1) := by decide +kernel
theorem dX5_signs_1 : decode cX5_signs 1 = .ok (.iconst 2, 1) := by decide +kernel
theorem dX5_signs_2 : decode cX5_signs 2 = .ok (.iload_n 1, 1) := by decide +kernel
theorem dX5_signs_3 : decode cX5_signs 3 = .ok (.ifCond .ne 7, 3) := by decide +kernel
theorem dX5_signs_6 : decode cX5_signs 6 = .ok (.iconst 1, 1) := by decide +kernel
theorem dX5_signs_7 : decode cX5_signs 7 = .ok (.goto 4, 3) := by decide +kernel
theorem dX5_signs_10 : decode cX5_signs 10 = .ok (.iconst 0, 1) := by decide +kernel
theorem dX5_signs_11 : decode cX5_signs 11 = .ok (.invokevirtual 74, 3) := by decide +kernel
theorem dX5_signs_14 : decode cX5_signs 14 = .ok (.aload_n 0, 1) := by decide +kernel
theorem dX5_signs_15 : decode cX5_signs 15 = .ok (.iconst 4, 1) := by decide +kernel
theorem dX5_signs_16 : decode cX5_signs 16 = .ok (.iload_n 1, 1) := by decide +kernel
theorem dX5_signs_17 : decode cX5_signs 17 = .ok (.bipush 127, 2) := by decide +kernel
theorem dX5_signs_19 : decode cX5_signs 19 = .ok (.if_icmp .le 7, 3) := by decide +kernel
theorem dX5_signs_22 : decode cX5_signs 22 = .ok (.iconst 1, 1) := by decide +kernel
theorem dX5_signs_23 : decode cX5_signs 23 = .ok (.goto 4, 3) := by decide +kernel
theorem dX5_signs_26 : decode cX5_signs 26 = .ok (.iconst 0, 1) := by decide +kernel
theorem dX5_signs_27 : decode cX5_signs 27 = .ok (.invokevirtual 74, 3) := by decide +kernel
theorem dX5_signs_30 : decode cX5_signs 30 = .ok (.aload_n 0, 1) := by decide +kernel
theorem dX5_signs_31 : decode cX5_signs 31 = .ok (.bipush 8, 2) := by decide +kernel
theorem dX5_signs_33 : decode cX5_signs 33 = .ok (.iload_n 2, 1) := by decide +kernel
theorem dX5_signs_34 : decode cX5_signs 34 = .ok (.invokevirtual 74, 3) := by decide +kernel
theorem dX5_signs_37 : decode cX5_signs 37 = .ok (.aload_n 0, 1) := by decide +kernel
theorem dX5_signs_38 : decode cX5_signs 38 = .ok (.bipush 16, 2) := by decide +kernel
theorem dX5_signs_40 : decode cX5_signs 40 = .ok (.iload_n 1, 1) := by decide +kernel
theorem dX5_signs_41 : decode cX5_signs 41 = .ok (.bipush 127, 2) := by decide +kernel
theorem dX5_signs_43 : decode cX5_signs 43 = .ok (.if_icmp .le 7, 3) := by decide +kernel
theorem dX5_signs_46 : decode cX5_signs 46 = .ok (.iconst 1, 1) := by decide +kernel
theorem dX5_signs_47 : decode cX5_signs 47 = .ok (.goto 4, 3) := by decide +kernel
theorem dX5_signs_50 : decode cX5_signs 50 = .ok (.iconst 0, 1) := by decide +kernel
theorem dX5_signs_51 : decode cX5_signs 51 = .ok (.iload_n 2, 1) := by decide +kernel
theorem dX5_signs_52 : decode cX5_signs 52 = .ok (.if_icmp .eq 7, 3) := by decide +kernel
theorem dX5_signs_55 : decode cX5_signs 55 = .ok (.iconst 1, 1) := by decide +kernel
theorem dX5_signs_56 : decode cX5_signs 56 = .ok (.goto 4, 3) := by decide +kernel
theorem dX5_signs_59 : decode cX5_signs 59 = .ok (.iconst 0, 1) := by decide +kernel
theorem dX5_signs_60 : decode cX5_signs 60 = .ok (.invokevirtual 74, 3) := by decide +kernel
theorem dX5_signs_63 : decode cX5_signs 63 = .ok (.return_, 1) := by decide +kernel
set_option maxRecDepth 20000 in
theorem ggX5_add_X5_flag : GoodIn wsX5_add wsX5_flag := goodIn_r _ [5, 6, 11, 12, 13, 14, 15, 16, 17, 18] (by decide +kernel) (by decide +kernel)
set_option maxRecDepth 20000 in
theorem gX5_add_X5_flag : GoodIn wsX5_add (wsV RX5 74 RX5 yX5_flag wsX5_flag) := goodIn_app (goodIn_of _ (by decide +kernel)) ggX5_add_X5_flag
set_option maxRecDepth 20000 in
theorem ggX5_add_X5_signs : GoodIn wsX5_add wsX5_signs := goodIn_r _ [10, 1, 2, 3, 4, 5, 6, 11, 12, 13, 14, 15, 16, 17, 18] (by decide +kernel) (by decide +kernel)
set_option maxRecDepth 20000 in
theorem gX5_add_X5_signs : GoodIn wsX5_add (wsV RX5 78 RX5 yX5_signs wsX5_signs) := goodIn_app (goodIn_of _ (by decide +kernel)) ggX5_add_X5_signs
theorem dX5_add_0 : decode cX5_add 0 = .ok (.iload_n 1, 1) := by decide +kernel
theorem dX5_add_1 : decode cX5_add 1 = .ok (.iload_n 2, 1) := by decide +kernel
theorem dX5_add_2 : decode cX5_add 2 = .ok (.iadd, 1) := by decide +kernel
theorem dX5_add_3 : decode cX5_add 3 = .ok (.iload_n 3, 1) := by decide +kernel
theorem dX5_add_4 : decode cX5_add 4 = .ok (.iadd, 1) := by decide +kernel
theorem dX5_add_5 : decode cX5_add 5 = .ok (.sipush 255, 3) := by decide +kernel
theorem dX5_add_8 : decode cX5_add 8 = .ok (.iand, 1) := by decide +kernel
theorem dX5_add_9 : decode cX5_add 9 = .ok (.istore 4, 2) := by decide +kernel
theorem dX5_add_11 : decode cX5_add 11 = .ok (.aload_n 0, 1) := by decide +kernel
theorem dX5_add_12 : decode cX5_add 12 = .ok (.iconst 1, 1) := by decide +kernel
theorem dX5_add_13 : decode cX5_add 13 = .ok (.iload_n 1, 1) := by decide +kernel
theorem dX5_add_14 : decode cX5_add 14 = .ok (.iload_n 2, 1) := by decide +kernel
theorem dX5_add_15 : decode cX5_add 15 = .ok (.iadd, 1) := by decide +kernel
theorem dX5_add_16 : decode cX5_add 16 = .ok (.iload_n 3, 1) := by decide +kernel
theorem dX5_add_17 : decode cX5_add 17 = .ok (.iadd, 1) := by decide +kernel
theorem dX5_add_18 : decode cX5_add 18 = .ok (.sipush 255, 3) := by decide +kernel
theorem dX5_add_21 : decode cX5_add 21 = .ok (.if_icmp .le 7, 3) := by decide +kernel
theorem dX5_add_24 : decode cX5_add 24 = .ok (.iconst 1, 1) := by decide +kernel
theorem dX5_add_25 : decode cX5_add 25 = .ok (.goto 4, 3) := by decide +kernel
theorem dX5_add_28 : decode cX5_add 28 = .ok (.iconst 0, 1) := by decide +kernel
theorem dX5_add_29 : decode cX5_add 29 = .ok (.invokevirtual 74, 3) := by decide +kernel
theorem dX5_add_32 : decode cX5_add 32 = .ok (.aload_n 0, 1) := by decide +kernel
theorem dX5_add_33 : decode cX5_add 33 = .ok (.bipush 32, 2) := by decide +kernel
theorem dX5_add_35 : decode cX5_add 35 = .ok (.iload_n 1, 1) := by decide +kernel
theorem dX5_add_36 : decode cX5_add 36 = .ok (.bipush 15, 2) := by decide +kernel
theorem dX5_add_38 : decode cX5_add 38 = .ok (.iand, 1) := by decide +kernel
theorem dX5_add_39 : decode cX5_add 39 = .ok (.iload_n 2, 1) := by decide +kernel
theorem dX5_add_40 : decode cX5_add 40 = .ok (.bipush 15, 2) := by decide +kernel
theorem dX5_add_42 : decode cX5_add 42 = .ok (.iand, 1) := by decide +kernel
theorem dX5_add_43 : decode cX5_add 43 = .ok (.iadd, 1) := by decide +kernel
theorem dX5_add_44 : decode cX5_add 44 = .ok (.iload_n 3, 1) := by decide +kernel
theorem dX5_add_45 : decode cX5_add 45 = .ok (.iadd, 1) := by decide +kernel
theorem dX5_add_46 : decode cX5_add 46 = .ok (.bipush 15, 2) := by decide +kernel
theorem dX5_add_48 : decode cX5_add 48 = .ok (.if_icmp .le 7, 3) := by decide +kernel
theorem dX5_add_51 : decode cX5_add 51 = .ok (.iconst 1, 1) := by decide +kernel
theorem dX5_add_52 : decode cX5_add 52 = .ok (.goto 4, 3) := by decide +kernel
theorem dX5_add_55 : decode cX5_add 55 = .ok (.iconst 0, 1) := by decide +kernel
theorem dX5_add_56 : decode cX5_add 56 = .ok (.invokevirtual 74, 3) := by decide +kernel
theorem dX5_add_59 : decode cX5_add 59 = .ok (.aload_n 0, 1) := by decide +kernel
theorem dX5_add_60 : decode cX5_add 60 = .ok (.iload 4, 2) := by decide +kernel
theorem dX5_add_62 : decode cX5_add 62 = .ok (.iload_n 1, 1) := by decide +kernel
theorem dX5_add_63 : decode cX5_add 63 = .ok (.bipush 127, 2) := by decide +kernel
theorem dX5_add_65 : decode cX5_add 65 = .ok (.if_icmp .le 7, 3) := by decide +kernel
theorem dX5_add_68 : decode cX5_add 68 = .ok (.iconst 1, 1) := by decide +kernel
theorem dX5_add_69 : decode cX5_add 69 = .ok (.goto 4, 3) := by decide +kernel
theorem dX5_add_72 : decode cX5_add 72 = .ok (.iconst 0, 1) := by decide +kernel
theorem dX5_add_73 : decode cX5_add 73 = .ok (.iload_n 2, 1) := by decide +kernel
theorem dX5_add_74 : decode cX5_add 74 = .ok (.bipush 127, 2) := by decide +kernel
theorem dX5_add_76 : decode cX5_add 76 = .ok (.if_icmp .le 7, 3) := by decide +kernel
theorem dX5_add_79 : decode cX5_add 79 = .ok (.iconst 1, 1) := by decide +kernel
theorem dX5_add_80 : decode cX5_add 80 = .ok (.goto 4, 3) := by decide +kernel
theorem dX5_add_83 : decode cX5_add 83 = .ok (.iconst 0, 1) := by decide +kernel
theorem dX5_add_84 : decode cX5_add 84 = .ok (.if_icmp .ne 33, 3) := by decide +kernel
theorem dX5_add_87 : decode cX5_add 87 = .ok (.iload 4, 2) := by decide +kernel
theorem dX5_add_89 : decode cX5_add 89 = .ok (.bipush 127, 2) := by decide +kernel
theorem dX5_add_91 : decode cX5_add 91 = .ok (.if_icmp .le 7, 3) := by decide +kernel
theorem dX5_add_94 : decode cX5_add 94 = .ok (.iconst 1, 1) := by decide +kernel
theorem dX5_add_95 : decode cX5_add 95 = .ok (.goto 4, 3) := by decide +kernel
theorem dX5_add_98 : decode cX5_add 98 = .ok (.iconst 0, 1) := by decide +kernel
theorem dX5_add_99 : decode cX5_add 99 = .ok (.iload_n 1, 1) := by decide +kernel
theorem dX5_add_100 : decode cX5_add 100 = .ok (.bipush 127, 2) := by decide +kernel
theorem dX5_add_102 : decode cX5_add 102 = .ok (.if_icmp .le 7, 3) := by decide +kernel
theorem dX5_add_105 : decode cX5_add 105 = .ok (.iconst 1, 1) := by decide +kernel
theorem dX5_add_106 : decode cX5_add 106 = .ok (.goto 4, 3) := by decide +kernel
theorem dX5_add_109 : decode cX5_add 109 = .ok (.iconst 0, 1) := by decide +kernel
theorem dX5_add_110 : decode cX5_add 110 = .ok (.if_icmp .eq 7, 3) := by decide +kernel
theorem dX5_add_113 : decode cX5_add 113 = .ok (.iconst 1, 1) := by decide +kernel
theorem dX5_add_114 : decode cX5_add 114 = .ok (.goto 4, 3) := by decide +kernel
theorem dX5_add_117 : decode cX5_add 117 = .ok (.iconst 0, 1) := by decide +kernel
theorem dX5_add_118 : decode cX5_add 118 = .ok (.invokevirtual 78, 3) := by decide +kernel
theorem dX5_add_121 : decode cX5_add 121 = .ok (.iload 4, 2) := by decide +kernel
theorem dX5_add_123 : decode cX5_add 123 = .ok (.ireturn, 1) := by decide +kernel
set_option maxRecDepth 20000 in
theorem ggX5_subtract_X5_has : GoodIn wsX5_subtract wsX5_has := goodIn_r _ [5, 6, 15, 16, 17, 18, 19, 20, 21, 22] (by decide +kernel) (by decide +kernel)
set_option maxRecDepth 20000 in
theorem gX5_subtract_X5_has : GoodIn wsX5_subtract (wsV RX5 81 RX5 yX5_has wsX5_has) := goodIn_app (goodIn_of _ (by decide +kernel)) ggX5_subtract_X5_has
set_option maxRecDepth 20000 in
theorem ggX5_subtract_X5_flag : GoodIn wsX5_subtract wsX5_flag := goodIn_r _ [10, 6, 15, 16, 17, 18, 19, 20, 21, 22] (by decide +kernel) (by decide +kernel)
set_option maxRecDepth 20000 in
theorem gX5_subtract_X5_flag : GoodIn wsX5_subtract (wsV RX5 74 RX5 yX5_flag wsX5_flag) := goodIn_app (goodIn_of _ (by decide +kernel)) ggX5_subtract_X5_flag
set_option maxRecDepth 20000 in
theorem ggX5_subtract_X5_signs : GoodIn wsX5_subtract wsX5_signs := goodIn_r _ [14, 7, 8, 9, 4, 10, 6, 15, 16, 17, 18, 19, 20, 21, 22] (by decide +kernel) (by decide +kernel)
set_option maxRecDepth 20000 in
theorem gX5_subtract_X5_signs : GoodIn wsX5_subtract (wsV RX5 78 RX5 yX5_signs wsX5_signs) := goodIn_app (goodIn_of _ (by decide +kernel)) ggX5_subtract_X5_signs
theorem dX5_subtract_0 : decode cX5_subtract 0 = .ok (.aload_n 0, 1) := by decide +kernel
theorem dX5_subtract_1 : decode cX5_subtract 1 = .ok (.iconst 2, 1) := by decide +kernel
theorem dX5_subtract_2 : decode cX5_subtract 2 = .ok (.invokevirtual 81, 3) := by decide +kernel
theorem dX5_subtract_5 : decode cX5_subtract 5 = .ok (.istore 5, 2) := by decide +kernel
theorem dX5_subtract_7 : decode cX5_subtract 7 = .ok (.iload_n 1, 1) := by decide +kernel
theorem dX5_subtract_8 : decode cX5_subtract 8 = .ok (.iload_n 2, 1) := by decide +kernel
theorem dX5_subtract_9 : decode cX5_subtract 9 = .ok (.isub, 1) := by decide +kernel
theorem dX5_subtract_10 : decode cX5_subtract 10 = .ok (.iload_n 3, 1) := by decide +kernel
theorem dX5_subtract_11 : decode cX5_subtract 11 = .ok (.isub, 1) := by decide +kernel
theorem dX5_subtract_12 : decode cX5_subtract 12 = .ok (.sipush 255, 3) := by decide +kernel
theorem dX5_subtract_15 : decode cX5_subtract 15 = .ok (.iand, 1) := by decide +kernel
theorem dX5_subtract_16 : decode cX5_subtract 16 = .ok (.istore 6, 2) := by decide +kernel
theorem dX5_subtract_18 : decode cX5_subtract 18 = .ok (.aload_n 0, 1) := by decide +kernel
theorem dX5_subtract_19 : decode cX5_subtract 19 = .ok (.iconst 1, 1) := by decide +kernel
theorem dX5_subtract_20 : decode cX5_subtract 20 = .ok (.iload_n 1, 1) := by decide +kernel
theorem dX5_subtract_21 : decode cX5_subtract 21 = .ok (.iload_n 2, 1) := by decide +kernel
theorem dX5_subtract_22 : decode cX5_subtract 22 = .ok (.isub, 1) := by decide +kernel
theorem dX5_subtract_23 : decode cX5_subtract 23 = .ok (.iload_n 3, 1) := by decide +kernel
theorem dX5_subtract_24 : decode cX5_subtract 24 = .ok (.isub, 1) := by decide +kernel
theorem dX5_subtract_25 : decode cX5_subtract 25 = .ok (.ifCond .ge 7, 3) := by decide +kernel
theorem dX5_subtract_28 : decode cX5_subtract 28 = .ok (.iconst 1, 1) := by decide +kernel
theorem dX5_subtract_29 : decode cX5_subtract 29 = .ok (.goto 4, 3) := by decide +kernel
theorem dX5_subtract_32 : decode cX5_subtract 32 = .ok (.iconst 0, 1) := by decide +kernel
theorem dX5_subtract_33 : decode cX5_subtract 33 = .ok (.invokevirtual 74, 3) := by decide +kernel
theorem dX5_subtract_36 : decode cX5_subtract 36 = .ok (.aload_n 0, 1) := by decide +kernel
theorem dX5_subtract_37 : decode cX5_subtract 37 = .ok (.bipush 32, 2) := by decide +kernel
theorem dX5_subtract_39 : decode cX5_subtract 39 = .ok (.iload_n 1, 1) := by decide +kernel
theorem dX5_subtract_40 : decode cX5_subtract 40 = .ok (.bipush 15, 2) := by decide +kernel
theorem dX5_subtract_42 : decode cX5_subtract 42 = .ok (.iand, 1) := by decide +kernel
theorem dX5_subtract_43 : decode cX5_subtract 43 = .ok (.iload_n 2, 1) := by decide +kernel
theorem dX5_subtract_44 : decode cX5_subtract 44 = .ok (.bipush 15, 2) := by decide +kernel
theorem dX5_subtract_46 : decode cX5_subtract 46 = .ok (.iand, 1) := by decide +kernel
theorem dX5_subtract_47 : decode cX5_subtract 47 = .ok (.isub, 1) := by decide +kernel
theorem dX5_subtract_48 : decode cX5_subtract 48 = .ok (.iload_n 3, 1) := by decide +kernel
theorem dX5_subtract_49 : decode cX5_subtract 49 = .ok (.isub, 1) := by decide +kernel
theorem dX5_subtract_50 : decode cX5_subtract 50 = .ok (.ifCond .ge 7, 3) := by decide +kernel
theorem dX5_subtract_53 : decode cX5_subtract 53 = .ok (.iconst 1, 1) := by decide +kernel
theorem dX5_subtract_54 : decode cX5_subtract 54 = .ok (.goto 4, 3) := by decide +kernel
theorem dX5_subtract_57 : decode cX5_subtract 57 = .ok (.iconst 0, 1) := by decide +kernel
theorem dX5_subtract_58 : decode cX5_subtract 58 = .ok (.invokevirtual 74, 3) := by decide +kernel
theorem dX5_subtract_61 : decode cX5_subtract 61 = .ok (.aload_n 0, 1) := by decide +kernel
theorem dX5_subtract_62 : decode cX5_subtract 62 = .ok (.iload 6, 2) := by decide +kernel
theorem dX5_subtract_64 : decode cX5_subtract 64 = .ok (.iload_n 1, 1) := by decide +kernel
theorem dX5_subtract_65 : decode cX5_subtract 65 = .ok (.bipush 127, 2) := by decide +kernel
theorem dX5_subtract_67 : decode cX5_subtract 67 = .ok (.if_icmp .le 7, 3) := by decide +kernel
theorem dX5_subtract_70 : decode cX5_subtract 70 = .ok (.iconst 1, 1) := by decide +kernel
theorem dX5_subtract_71 : decode cX5_subtract 71 = .ok (.goto 4, 3) := by decide +kernel
theorem dX5_subtract_74 : decode cX5_subtract 74 = .ok (.iconst 0, 1) := by decide +kernel
theorem dX5_subtract_75 : decode cX5_subtract 75 = .ok (.iload_n 2, 1) := by decide +kernel
theorem dX5_subtract_76 : decode cX5_subtract 76 = .ok (.bipush 127, 2) := by decide +kernel
theorem dX5_subtract_78 : decode cX5_subtract 78 = .ok (.if_icmp .le 7, 3) := by decide +kernel
theorem dX5_subtract_81 : decode cX5_subtract 81 = .ok (.iconst 1, 1) := by decide +kernel
theorem dX5_subtract_82 : decode cX5_subtract 82 = .ok (.goto 4, 3) := by decide +kernel
theorem dX5_subtract_85 : decode cX5_subtract 85 = .ok (.iconst 0, 1) := by decide +kernel
theorem dX5_subtract_86 : decode cX5_subtract 86 = .ok (.if_icmp .eq 33, 3) := by decide +kernel
theorem dX5_subtract_89 : decode cX5_subtract 89 = .ok (.iload 6, 2) := by decide +kernel
theorem dX5_subtract_91 : decode cX5_subtract 91 = .ok (.bipush 127, 2) := by decide +kernel
theorem dX5_subtract_93 : decode cX5_subtract 93 = .ok (.if_icmp .le 7, 3) := by decide +kernel
theorem dX5_subtract_96 : decode cX5_subtract 96 = .ok (.iconst 1, 1) := by decide +kernel
theorem dX5_subtract_97 : decode cX5_subtract 97 = .ok (.goto 4, 3) := by decide +kernel
theorem dX5_subtract_100 : decode cX5_subtract 100 = .ok (.iconst 0, 1) := by decide +kernel
theorem dX5_subtract_101 : decode cX5_subtract 101 = .ok (.iload_n 2, 1) := by decide +kernel
theorem dX5_subtract_102 : decode cX5_subtract 102 = .ok (.bipush 127, 2) := by decide +kernel
theorem dX5_subtract_104 : decode cX5_subtract 104 = .ok (.if_icmp .le 7, 3) := by decide +kernel
theorem dX5_subtract_107 : decode cX5_subtract 107 = .ok (.iconst 1, 1) := by decide +kernel
theorem dX5_subtract_108 : decode cX5_subtract 108 = .ok (.goto 4, 3) := by decide +kernel
theorem dX5_subtract_111 : decode cX5_subtract 111 = .ok (.iconst 0, 1) := by decide +kernel
theorem dX5_subtract_112 : decode cX5_subtract 112 = .ok (.if_icmp .ne 7, 3) := by decide +kernel
theorem dX5_subtract_115 : decode cX5_subtract 115 = .ok (.iconst 1, 1) := by decide +kernel
theorem dX5_subtract_116 : decode cX5_subtract 116 = .ok (.goto 4, 3) := by decide +kernel
theorem dX5_subtract_119 : decode cX5_subtract 119 = .ok (.iconst 0, 1) := by decide +kernel
theorem dX5_subtract_120 : decode cX5_subtract 120 = .ok (.invokevirtual 78, 3) := by decide +kernel
theorem dX5_subtract_123 : decode cX5_subtract 123 = .ok (.iload 4, 2) := by decide +kernel
theorem dX5_subtract_125 : decode cX5_subtract 125 = .ok (.ifCond .eq 23, 3) := by decide +kernel
theorem dX5_subtract_128 : decode cX5_subtract 128 = .ok (.aload_n 0, 1) := by decide +kernel
theorem dX5_subtract_129 : decode cX5_subtract 129 = .ok (.iconst 2, 1) := by decide +kernel
theorem dX5_subtract_130 : decode cX5_subtract 130 = .ok (.iload 6, 2) := by decide +kernel
theorem dX5_subtract_132 : decode cX5_subtract 132 = .ok (.ifCond .ne 12, 3) := by decide +kernel
theorem dX5_subtract_135 : decode cX5_subtract 135 = .ok (.iload 5, 2) := by decide +kernel
theorem dX5_subtract_137 : decode cX5_subtract 137 = .ok (.ifCond .eq 7, 3) := by decide +kernel
theorem dX5_subtract_140 : decode cX5_subtract 140 = .ok (.iconst 1, 1) := by decide +kernel
theorem dX5_subtract_141 : decode cX5_subtract 141 = .ok (.goto 4, 3) := by decide +kernel
theorem dX5_subtract_144 : decode cX5_subtract 144 = .ok (.iconst 0, 1) := by decide +kernel
theorem dX5_subtract_145 : decode cX5_subtract 145 = .ok (.invokevirtual 74, 3) := by decide +kernel
theorem dX5_subtract_148 : decode cX5_subtract 148 = .ok (.iload 6, 2) := by decide +kernel
theorem dX5_subtract_150 : decode cX5_subtract 150 = .ok (.ireturn, 1) := by decide +kernel
set_option maxRecDepth 20000 in
theorem ggX5_logic_X5_signs : GoodIn wsX5_logic wsX5_signs := goodIn_r _ [5, 6, 7, 8, 4, 9, 10, 11, 12, 13, 14, 15, 16, 17, 18] (by decide +kernel) (by decide +kernel)
set_option maxRecDepth 20000 in
theorem gX5_logic_X5_signs : GoodIn wsX5_logic (wsV RX5 78 RX5 yX5_signs wsX5_signs) := goodIn_app (goodIn_of _ (by decide +kernel)) ggX5_logic_X5_signs
theorem dX5_logic_0 : decode cX5_logic 0 = .ok (.aload_n 0, 1) := by decide +kernel
theorem dX5_logic_1 : decode cX5_logic 1 = .ok (.iload_n 1, 1) := by decide +kernel
theorem dX5_logic_2 : decode cX5_logic 2 = .ok (.iconst 0, 1) := by decide +kernel
theorem dX5_logic_3 : decode cX5_logic 3 = .ok (.invokevirtual 78, 3) := by decide +kernel
theorem dX5_logic_6 : decode cX5_logic 6 = .ok (.iload_n 1, 1) := by decide +kernel
theorem dX5_logic_7 : decode cX5_logic 7 = .ok (.ireturn, 1) := by decide +kernel
set_option maxRecDepth 20000 in
theorem ggX5_carry_X5_has : GoodIn wsX5_carry wsX5_has := goodIn_r _ [5, 6, 7, 8, 9, 10, 11, 12, 13, 14] (by decide +kernel) (by decide +kernel)
set_option maxRecDepth 20000 in
theorem gX5_carry_X5_has : GoodIn wsX5_carry (wsV RX5 81 RX5 yX5_has wsX5_has) := goodIn_app (goodIn_of _ (by decide +kernel)) ggX5_carry_X5_has
theorem dX5_carry_0 : decode cX5_carry 0 = .ok (.aload_n 0, 1) := by decide +kernel
theorem dX5_carry_1 : decode cX5_carry 1 = .ok (.iconst 1, 1) := by decide +kernel
theorem dX5_carry_2 : decode cX5_carry 2 = .ok (.invokevirtual 81, 3) := by decide +kernel
theorem dX5_carry_5 : decode cX5_carry 5 = .ok (.ifCond .eq 7, 3) := by decide +kernel
theorem dX5_carry_8 : decode cX5_carry 8 = .ok (.iconst 1, 1) := by decide +kernel
theorem dX5_carry_9 : decode cX5_carry 9 = .ok (.goto 4, 3) := by decide +kernel
theorem dX5_carry_12 : decode cX5_carry 12 = .ok (.iconst 0, 1) := by decide +kernel
theorem dX5_carry_13 : decode cX5_carry 13 = .ok (.ireturn, 1) := by decide +kernel
set_option maxRecDepth 20000 in
theorem ggX5_skips_X5_hasNext : GoodIn wsX5_skips wsX5_hasNext := goodIn_r _ [7, 8, 9, 6, 10, 11, 12, 13, 14, 15, 16, 17] (by decide +kernel) (by decide +kernel)
set_option maxRecDepth 20000 in
theorem gX5_skips_X5_hasNext : GoodIn wsX5_skips (va_wsS RX5 71 yX5_hasNext wsX5_hasNext) := goodIn_app (goodIn_of _ (by decide +kernel)) ggX5_skips_X5_hasNext
theorem dX5_skips_0 : decode cX5_skips 0 = .ok (.iload_n 1, 1) := by decide +kernel
theorem dX5_skips_1 : decode cX5_skips 1 = .ok (.ifCond .eq 56, 3) := by decide +kernel
theorem dX5_skips_4 : decode cX5_skips 4 = .ok (.aload_n 0, 1) := by decide +kernel
theorem dX5_skips_5 : decode cX5_skips 5 = .ok (.getfield 7, 3) := by decide +kernel
theorem dX5_skips_8 : decode cX5_skips 8 = .ok (.aload_n 0, 1) := by decide +kernel
theorem dX5_skips_9 : decode cX5_skips 9 = .ok (.getfield 84, 3) := by decide +kernel
theorem dX5_skips_12 : decode cX5_skips 12 = .ok (.iaload, 1) := by decide +kernel
theorem dX5_skips_13 : decode cX5_skips 13 = .ok (.invokestatic 71, 3) := by decide +kernel
theorem dX5_skips_16 : decode cX5_skips 16 = .ok (.istore_n 2, 1) := by decide +kernel
theorem dX5_skips_17 : decode cX5_skips 17 = .ok (.aload_n 0, 1) := by decide +kernel
theorem dX5_skips_18 : decode cX5_skips 18 = .ok (.aload_n 0, 1) := by decide +kernel
theorem dX5_skips_19 : decode cX5_skips 19 = .ok (.getfield 84, 3) := by decide +kernel
theorem dX5_skips_22 : decode cX5_skips 22 = .ok (.iload_n 2, 1) := by decide +kernel
theorem dX5_skips_23 : decode cX5_skips 23 = .ok (.ifCond .eq 7, 3) := by decide +kernel
theorem dX5_skips_26 : decode cX5_skips 26 = .ok (.iconst 2, 1) := by decide +kernel
theorem dX5_skips_27 : decode cX5_skips 27 = .ok (.goto 4, 3) := by decide +kernel
theorem dX5_skips_30 : decode cX5_skips 30 = .ok (.iconst 1, 1) := by decide +kernel
theorem dX5_skips_31 : decode cX5_skips 31 = .ok (.iadd, 1) := by decide +kernel
theorem dX5_skips_32 : decode cX5_skips 32 = .ok (.sipush 1023, 3) := by decide +kernel
theorem dX5_skips_35 : decode cX5_skips 35 = .ok (.iand, 1) := by decide +kernel
theorem dX5_skips_36 : decode cX5_skips 36 = .ok (.putfield 84, 3) := by decide +kernel
theorem dX5_skips_39 : decode cX5_skips 39 = .ok (.aload_n 0, 1) := by decide +kernel
theorem dX5_skips_40 : decode cX5_skips 40 = .ok (.getfield 16, 3) := by decide +kernel
theorem dX5_skips_43 : decode cX5_skips 43 = .ok (.iload_n 2, 1) := by decide +kernel
theorem dX5_skips_44 : decode cX5_skips 44 = .ok (.ifCond .eq 7, 3) := by decide +kernel
theorem dX5_skips_47 : decode cX5_skips 47 = .ok (.iconst 5, 1) := by decide +kernel
theorem dX5_skips_48 : decode cX5_skips 48 = .ok (.goto 4, 3) := by decide +kernel
theorem dX5_skips_51 : decode cX5_skips 51 = .ok (.iconst 4, 1) := by decide +kernel
theorem dX5_skips_52 : decode cX5_skips 52 = .ok (.dup2, 1) := by decide +kernel
theorem dX5_skips_53 : decode cX5_skips 53 = .ok (.iaload, 1) := by decide +kernel
theorem dX5_skips_54 : decode cX5_skips 54 = .ok (.iconst 1, 1) := by decide +kernel
theorem dX5_skips_55 : decode cX5_skips 55 = .ok (.iadd, 1) := by decide +kernel
theorem dX5_skips_56 : decode cX5_skips 56 = .ok (.iastore, 1) := by decide +kernel
theorem dX5_skips_57 : decode cX5_skips 57 = .ok (.return_, 1) := by decide +kernel
set_option maxRecDepth 20000 in
theorem ggX5_ofTwo_X5_dOf : GoodIn wsX5_ofTwo wsX5_dOf := goodIn_r _ [5] (by decide +kernel) (by decide +kernel)
set_option maxRecDepth 20000 in
theorem gX5_ofTwo_X5_dOf : GoodIn wsX5_ofTwo (va_wsS RX5 53 yX5_dOf wsX5_dOf) := goodIn_app (goodIn_of _ (by decide +kernel)) ggX5_ofTwo_X5_dOf
set_option maxRecDepth 20000 in
theorem ggX5_ofTwo_X5_carry : GoodIn wsX5_ofTwo wsX5_carry := goodIn_r _ [9, 10, 11, 12, 4, 13, 1, 54, 55, 56, 57, 58, 59, 60, 61] (by decide +kernel) (by decide +kernel)
set_option maxRecDepth 20000 in
theorem gX5_ofTwo_X5_carry : GoodIn wsX5_ofTwo (wsV RX5 87 RX5 yX5_carry wsX5_carry) := goodIn_app (goodIn_of _ (by decide +kernel)) ggX5_ofTwo_X5_carry
set_option maxRecDepth 20000 in
theorem ggX5_ofTwo_X5_subtract : GoodIn wsX5_ofTwo wsX5_subtract := goodIn_r _ [17, 10, 11, 12, 4, 13, 1, 18, 19, 20, 21, 22, 23, 24, 25, 54, 55, 56, 57, 58, 59, 60, 61] (by decide +kernel) (by decide +kernel)
set_option maxRecDepth 20000 in
theorem gX5_ofTwo_X5_subtract : GoodIn wsX5_ofTwo (wsV RX5 91 RX5 yX5_subtract wsX5_subtract) := goodIn_app (goodIn_of _ (by decide +kernel)) ggX5_ofTwo_X5_subtract
set_option maxRecDepth 20000 in
theorem ggX5_ofTwo_X5_add : GoodIn wsX5_ofTwo wsX5_add := goodIn_r _ [29, 18, 19, 20, 4, 21, 1, 22, 23, 24, 25, 54, 55, 56, 57, 58, 59, 60, 61] (by decide +kernel) (by decide +kernel)
set_option maxRecDepth 20000 in
theorem gX5_ofTwo_X5_add : GoodIn wsX5_ofTwo (wsV RX5 95 RX5 yX5_add wsX5_add) := goodIn_app (goodIn_of _ (by decide +kernel)) ggX5_ofTwo_X5_add
set_option maxRecDepth 20000 in
theorem ggX5_ofTwo_X5_skips : GoodIn wsX5_ofTwo wsX5_skips := goodIn_r _ [33, 34, 35, 36, 37, 38, 4, 39, 40, 41, 42, 43, 44, 45, 46, 47, 48, 49, 54, 55, 56, 57, 58, 59, 60, 61] (by decide +kernel) (by decide +kernel)
set_option maxRecDepth 20000 in
theorem gX5_ofTwo_X5_skips : GoodIn wsX5_ofTwo (wsV RX5 99 RX5 yX5_skips wsX5_skips) := goodIn_app (goodIn_of _ (by decide +kernel)) ggX5_ofTwo_X5_skips
set_option maxRecDepth 20000 in
theorem ggX5_ofTwo_X5_logic : GoodIn wsX5_ofTwo wsX5_logic := goodIn_r _ [53, 22, 23, 24, 4, 25, 18, 19, 20, 21, 1, 54, 55, 56, 57, 58, 59, 60, 61] (by decide +kernel) (by decide +kernel)
set_option maxRecDepth 20000 in
theorem gX5_ofTwo_X5_logic : GoodIn wsX5_ofTwo (wsV RX5 103 RX5 yX5_logic wsX5_logic) := goodIn_app (goodIn_of _ (by decide +kernel)) ggX5_ofTwo_X5_logic
theorem dX5_ofTwo_0 : decode cX5_ofTwo 0 = .ok (.iload_n 1, 1) := by decide +kernel
theorem dX5_ofTwo_1 : decode cX5_ofTwo 1 = .ok (.invokestatic 53, 3) := by decide +kernel
theorem dX5_ofTwo_4 : decode cX5_ofTwo 4 = .ok (.istore_n 2, 1) := by decide +kernel
theorem dX5_ofTwo_5 : decode cX5_ofTwo 5 = .ok (.aload_n 0, 1) := by decide +kernel
theorem dX5_ofTwo_6 : decode cX5_ofTwo 6 = .ok (.getfield 13, 3) := by decide +kernel
theorem dX5_ofTwo_9 : decode cX5_ofTwo 9 = .ok (.iload_n 2, 1) := by decide +kernel
theorem dX5_ofTwo_10 : decode cX5_ofTwo 10 = .ok (.iaload, 1) := by decide +kernel
theorem dX5_ofTwo_11 : decode cX5_ofTwo 11 = .ok (.istore_n 3, 1) := by decide +kernel
theorem dX5_ofTwo_12 : decode cX5_ofTwo 12 = .ok (.aload_n 0, 1) := by decide +kernel
theorem dX5_ofTwo_13 : decode cX5_ofTwo 13 = .ok (.getfield 13, 3) := by decide +kernel
theorem dX5_ofTwo_16 : decode cX5_ofTwo 16 = .ok (.iload_n 1, 1) := by decide +kernel
theorem dX5_ofTwo_17 : decode cX5_ofTwo 17 = .ok (.iconst 5, 1) := by decide +kernel
theorem dX5_ofTwo_18 : decode cX5_ofTwo 18 = .ok (.ishr, 1) := by decide +kernel
theorem dX5_ofTwo_19 : decode cX5_ofTwo 19 = .ok (.bipush 16, 2) := by decide +kernel
theorem dX5_ofTwo_21 : decode cX5_ofTwo 21 = .ok (.iand, 1) := by decide +kernel
theorem dX5_ofTwo_22 : decode cX5_ofTwo 22 = .ok (.iload_n 1, 1) := by decide +kernel
theorem dX5_ofTwo_23 : decode cX5_ofTwo 23 = .ok (.bipush 15, 2) := by decide +kernel
theorem dX5_ofTwo_25 : decode cX5_ofTwo 25 = .ok (.iand, 1) := by decide +kernel
theorem dX5_ofTwo_26 : decode cX5_ofTwo 26 = .ok (.ior, 1) := by decide +kernel
theorem dX5_ofTwo_27 : decode cX5_ofTwo 27 = .ok (.iaload, 1) := by decide +kernel
theorem dX5_ofTwo_28 : decode cX5_ofTwo 28 = .ok (.istore 4, 2) := by decide +kernel
theorem dX5_ofTwo_30 : decode cX5_ofTwo 30 = .ok (.iload_n 1, 1) := by decide +kernel
theorem dX5_ofTwo_31 : decode cX5_ofTwo 31 = .ok (.bipush 10, 2) := by decide +kernel
theorem dX5_ofTwo_33 : decode cX5_ofTwo 33 = .ok (.ishr, 1) := by decide +kernel
theorem dX5_ofTwo_34 : decode cX5_ofTwo 34 = .ok (.tableswitch 234 1 10 #[54, 71, 96, 113, 131, 145, 163, 183, 200, 217], 54) := by decide +kernel
theorem dX5_ofTwo_88 : decode cX5_ofTwo 88 = .ok (.aload_n 0, 1) := by decide +kernel
theorem dX5_ofTwo_89 : decode cX5_ofTwo 89 = .ok (.iload_n 3, 1) := by decide +kernel
theorem dX5_ofTwo_90 : decode cX5_ofTwo 90 = .ok (.iload 4, 2) := by decide +kernel
theorem dX5_ofTwo_92 : decode cX5_ofTwo 92 = .ok (.aload_n 0, 1) := by decide +kernel
theorem dX5_ofTwo_93 : decode cX5_ofTwo 93 = .ok (.invokevirtual 87, 3) := by decide +kernel
theorem dX5_ofTwo_96 : decode cX5_ofTwo 96 = .ok (.iconst 1, 1) := by decide +kernel
theorem dX5_ofTwo_97 : decode cX5_ofTwo 97 = .ok (.invokevirtual 91, 3) := by decide +kernel
theorem dX5_ofTwo_100 : decode cX5_ofTwo 100 = .ok (.istore 5, 2) := by decide +kernel
theorem dX5_ofTwo_102 : decode cX5_ofTwo 102 = .ok (.goto 174, 3) := by decide +kernel
theorem dX5_ofTwo_105 : decode cX5_ofTwo 105 = .ok (.aload_n 0, 1) := by decide +kernel
theorem dX5_ofTwo_106 : decode cX5_ofTwo 106 = .ok (.iload_n 3, 1) := by decide +kernel
theorem dX5_ofTwo_107 : decode cX5_ofTwo 107 = .ok (.iload 4, 2) := by decide +kernel
theorem dX5_ofTwo_109 : decode cX5_ofTwo 109 = .ok (.aload_n 0, 1) := by decide +kernel
theorem dX5_ofTwo_110 : decode cX5_ofTwo 110 = .ok (.invokevirtual 87, 3) := by decide +kernel
theorem dX5_ofTwo_113 : decode cX5_ofTwo 113 = .ok (.iconst 1, 1) := by decide +kernel
theorem dX5_ofTwo_114 : decode cX5_ofTwo 114 = .ok (.invokevirtual 91, 3) := by decide +kernel
theorem dX5_ofTwo_117 : decode cX5_ofTwo 117 = .ok (.istore 6, 2) := by decide +kernel
theorem dX5_ofTwo_119 : decode cX5_ofTwo 119 = .ok (.aload_n 0, 1) := by decide +kernel
theorem dX5_ofTwo_120 : decode cX5_ofTwo 120 = .ok (.getfield 13, 3) := by decide +kernel
theorem dX5_ofTwo_123 : decode cX5_ofTwo 123 = .ok (.iload_n 2, 1) := by decide +kernel
theorem dX5_ofTwo_124 : decode cX5_ofTwo 124 = .ok (.iload 6, 2) := by decide +kernel
theorem dX5_ofTwo_126 : decode cX5_ofTwo 126 = .ok (.iastore, 1) := by decide +kernel
theorem dX5_ofTwo_127 : decode cX5_ofTwo 127 = .ok (.goto 149, 3) := by decide +kernel
theorem dX5_ofTwo_130 : decode cX5_ofTwo 130 = .ok (.aload_n 0, 1) := by decide +kernel
theorem dX5_ofTwo_131 : decode cX5_ofTwo 131 = .ok (.getfield 13, 3) := by decide +kernel
theorem dX5_ofTwo_134 : decode cX5_ofTwo 134 = .ok (.iload_n 2, 1) := by decide +kernel
theorem dX5_ofTwo_135 : decode cX5_ofTwo 135 = .ok (.aload_n 0, 1) := by decide +kernel
theorem dX5_ofTwo_136 : decode cX5_ofTwo 136 = .ok (.iload_n 3, 1) := by decide +kernel
theorem dX5_ofTwo_137 : decode cX5_ofTwo 137 = .ok (.iload 4, 2) := by decide +kernel
theorem dX5_ofTwo_139 : decode cX5_ofTwo 139 = .ok (.iconst 0, 1) := by decide +kernel
theorem dX5_ofTwo_140 : decode cX5_ofTwo 140 = .ok (.invokevirtual 95, 3) := by decide +kernel
theorem dX5_ofTwo_143 : decode cX5_ofTwo 143 = .ok (.iastore, 1) := by decide +kernel
theorem dX5_ofTwo_144 : decode cX5_ofTwo 144 = .ok (.goto 132, 3) := by decide +kernel
theorem dX5_ofTwo_147 : decode cX5_ofTwo 147 = .ok (.aload_n 0, 1) := by decide +kernel
theorem dX5_ofTwo_148 : decode cX5_ofTwo 148 = .ok (.iload_n 3, 1) := by decide +kernel
theorem dX5_ofTwo_149 : decode cX5_ofTwo 149 = .ok (.iload 4, 2) := by decide +kernel
theorem dX5_ofTwo_151 : decode cX5_ofTwo 151 = .ok (.if_icmp .ne 7, 3) := by decide +kernel
theorem dX5_ofTwo_154 : decode cX5_ofTwo 154 = .ok (.iconst 1, 1) := by decide +kernel
theorem dX5_ofTwo_155 : decode cX5_ofTwo 155 = .ok (.goto 4, 3) := by decide +kernel
theorem dX5_ofTwo_158 : decode cX5_ofTwo 158 = .ok (.iconst 0, 1) := by decide +kernel
theorem dX5_ofTwo_159 : decode cX5_ofTwo 159 = .ok (.invokevirtual 99, 3) := by decide +kernel
theorem dX5_ofTwo_162 : decode cX5_ofTwo 162 = .ok (.goto 114, 3) := by decide +kernel
theorem dX5_ofTwo_165 : decode cX5_ofTwo 165 = .ok (.aload_n 0, 1) := by decide +kernel
theorem dX5_ofTwo_166 : decode cX5_ofTwo 166 = .ok (.iload_n 3, 1) := by decide +kernel
theorem dX5_ofTwo_167 : decode cX5_ofTwo 167 = .ok (.iload 4, 2) := by decide +kernel
theorem dX5_ofTwo_169 : decode cX5_ofTwo 169 = .ok (.iconst 0, 1) := by decide +kernel
theorem dX5_ofTwo_170 : decode cX5_ofTwo 170 = .ok (.iconst 0, 1) := by decide +kernel
theorem dX5_ofTwo_171 : decode cX5_ofTwo 171 = .ok (.invokevirtual 91, 3) := by decide +kernel
theorem dX5_ofTwo_174 : decode cX5_ofTwo 174 = .ok (.istore 7, 2) := by decide +kernel
theorem dX5_ofTwo_176 : decode cX5_ofTwo 176 = .ok (.goto 100, 3) := by decide +kernel
theorem dX5_ofTwo_179 : decode cX5_ofTwo 179 = .ok (.aload_n 0, 1) := by decide +kernel
theorem dX5_ofTwo_180 : decode cX5_ofTwo 180 = .ok (.getfield 13, 3) := by decide +kernel
theorem dX5_ofTwo_183 : decode cX5_ofTwo 183 = .ok (.iload_n 2, 1) := by decide +kernel
theorem dX5_ofTwo_184 : decode cX5_ofTwo 184 = .ok (.aload_n 0, 1) := by decide +kernel
theorem dX5_ofTwo_185 : decode cX5_ofTwo 185 = .ok (.iload_n 3, 1) := by decide +kernel
theorem dX5_ofTwo_186 : decode cX5_ofTwo 186 = .ok (.iload 4, 2) := by decide +kernel
theorem dX5_ofTwo_188 : decode cX5_ofTwo 188 = .ok (.iconst 0, 1) := by decide +kernel
theorem dX5_ofTwo_189 : decode cX5_ofTwo 189 = .ok (.iconst 0, 1) := by decide +kernel
theorem dX5_ofTwo_190 : decode cX5_ofTwo 190 = .ok (.invokevirtual 91, 3) := by decide +kernel
theorem dX5_ofTwo_193 : decode cX5_ofTwo 193 = .ok (.iastore, 1) := by decide +kernel
theorem dX5_ofTwo_194 : decode cX5_ofTwo 194 = .ok (.goto 82, 3) := by decide +kernel
theorem dX5_ofTwo_197 : decode cX5_ofTwo 197 = .ok (.aload_n 0, 1) := by decide +kernel
theorem dX5_ofTwo_198 : decode cX5_ofTwo 198 = .ok (.getfield 13, 3) := by decide +kernel
theorem dX5_ofTwo_201 : decode cX5_ofTwo 201 = .ok (.iload_n 2, 1) := by decide +kernel
theorem dX5_ofTwo_202 : decode cX5_ofTwo 202 = .ok (.aload_n 0, 1) := by decide +kernel
theorem dX5_ofTwo_203 : decode cX5_ofTwo 203 = .ok (.iload_n 3, 1) := by decide +kernel
theorem dX5_ofTwo_204 : decode cX5_ofTwo 204 = .ok (.iload 4, 2) := by decide +kernel
theorem dX5_ofTwo_206 : decode cX5_ofTwo 206 = .ok (.aload_n 0, 1) := by decide +kernel
theorem dX5_ofTwo_207 : decode cX5_ofTwo 207 = .ok (.invokevirtual 87, 3) := by decide +kernel
theorem dX5_ofTwo_210 : decode cX5_ofTwo 210 = .ok (.invokevirtual 95, 3) := by decide +kernel
theorem dX5_ofTwo_213 : decode cX5_ofTwo 213 = .ok (.iastore, 1) := by decide +kernel
theorem dX5_ofTwo_214 : decode cX5_ofTwo 214 = .ok (.goto 62, 3) := by decide +kernel
theorem dX5_ofTwo_217 : decode cX5_ofTwo 217 = .ok (.aload_n 0, 1) := by decide +kernel
theorem dX5_ofTwo_218 : decode cX5_ofTwo 218 = .ok (.getfield 13, 3) := by decide +kernel
theorem dX5_ofTwo_221 : decode cX5_ofTwo 221 = .ok (.iload_n 2, 1) := by decide +kernel
theorem dX5_ofTwo_222 : decode cX5_ofTwo 222 = .ok (.aload_n 0, 1) := by decide +kernel
theorem dX5_ofTwo_223 : decode cX5_ofTwo 223 = .ok (.iload_n 3, 1) := by decide +kernel
theorem dX5_ofTwo_224 : decode cX5_ofTwo 224 = .ok (.iload 4, 2) := by decide +kernel
theorem dX5_ofTwo_226 : decode cX5_ofTwo 226 = .ok (.iand, 1) := by decide +kernel
theorem dX5_ofTwo_227 : decode cX5_ofTwo 227 = .ok (.invokevirtual 103, 3) := by decide +kernel
theorem dX5_ofTwo_230 : decode cX5_ofTwo 230 = .ok (.iastore, 1) := by decide +kernel
theorem dX5_ofTwo_231 : decode cX5_ofTwo 231 = .ok (.goto 45, 3) := by decide +kernel
theorem dX5_ofTwo_234 : decode cX5_ofTwo 234 = .ok (.aload_n 0, 1) := by decide +kernel
theorem dX5_ofTwo_235 : decode cX5_ofTwo 235 = .ok (.getfield 13, 3) := by decide +kernel
theorem dX5_ofTwo_238 : decode cX5_ofTwo 238 = .ok (.iload_n 2, 1) := by decide +kernel
theorem dX5_ofTwo_239 : decode cX5_ofTwo 239 = .ok (.aload_n 0, 1) := by decide +kernel
theorem dX5_ofTwo_240 : decode cX5_ofTwo 240 = .ok (.iload_n 3, 1) := by decide +kernel
theorem dX5_ofTwo_241 : decode cX5_ofTwo 241 = .ok (.iload 4, 2) := by decide +kernel
theorem dX5_ofTwo_243 : decode cX5_ofTwo 243 = .ok (.ixor, 1) := by decide +kernel
theorem dX5_ofTwo_244 : decode cX5_ofTwo 244 = .ok (.invokevirtual 103, 3) := by decide +kernel
theorem dX5_ofTwo_247 : decode cX5_ofTwo 247 = .ok (.iastore, 1) := by decide +kernel
theorem dX5_ofTwo_248 : decode cX5_ofTwo 248 = .ok (.goto 28, 3) := by decide +kernel
theorem dX5_ofTwo_251 : decode cX5_ofTwo 251 = .ok (.aload_n 0, 1) := by decide +kernel
theorem dX5_ofTwo_252 : decode cX5_ofTwo 252 = .ok (.getfield 13, 3) := by decide +kernel
theorem dX5_ofTwo_255 : decode cX5_ofTwo 255 = .ok (.iload_n 2, 1) := by decide +kernel
theorem dX5_ofTwo_256 : decode cX5_ofTwo 256 = .ok (.aload_n 0, 1) := by decide +kernel
theorem dX5_ofTwo_257 : decode cX5_ofTwo 257 = .ok (.iload_n 3, 1) := by decide +kernel
theorem dX5_ofTwo_258 : decode cX5_ofTwo 258 = .ok (.iload 4, 2) := by decide +kernel
theorem dX5_ofTwo_260 : decode cX5_ofTwo 260 = .ok (.ior, 1) := by decide +kernel
theorem dX5_ofTwo_261 : decode cX5_ofTwo 261 = .ok (.invokevirtual 103, 3) := by decide +kernel
theorem dX5_ofTwo_264 : decode cX5_ofTwo 264 = .ok (.iastore, 1) := by decide +kernel
theorem dX5_ofTwo_265 : decode cX5_ofTwo 265 = .ok (.goto 11, 3) := by decide +kernel
theorem dX5_ofTwo_268 : decode cX5_ofTwo 268 = .ok (.aload_n 0, 1) := by decide +kernel
theorem dX5_ofTwo_269 : decode cX5_ofTwo 269 = .ok (.getfield 13, 3) := by decide +kernel
theorem dX5_ofTwo_272 : decode cX5_ofTwo 272 = .ok (.iload_n 2, 1) := by decide +kernel
theorem dX5_ofTwo_273 : decode cX5_ofTwo 273 = .ok (.iload 4, 2) := by decide +kernel
theorem dX5_ofTwo_275 : decode cX5_ofTwo 275 = .ok (.iastore, 1) := by decide +kernel
theorem dX5_ofTwo_276 : decode cX5_ofTwo 276 = .ok (.return_, 1) := by decide +kernel
set_option maxRecDepth 20000 in
theorem ggX5_ofNumber_X5_subtract : GoodIn wsX5_ofNumber wsX5_subtract := goodIn_r _ [6, 7, 8, 9, 5, 10, 1, 11, 12, 13, 14, 15, 16, 17, 18, 27, 28, 29, 30, 31, 32, 33, 34] (by decide +kernel) (by decide +kernel)
set_option maxRecDepth 20000 in
theorem gX5_ofNumber_X5_subtract : GoodIn wsX5_ofNumber (wsV RX5 91 RX5 yX5_subtract wsX5_subtract) := goodIn_app (goodIn_of _ (by decide +kernel)) ggX5_ofNumber_X5_subtract
set_option maxRecDepth 20000 in
theorem ggX5_ofNumber_X5_carry : GoodIn wsX5_ofNumber wsX5_carry := goodIn_r _ [22, 7, 8, 9, 5, 10, 1, 27, 28, 29, 30, 31, 32, 33, 34] (by decide +kernel) (by decide +kernel)
set_option maxRecDepth 20000 in
theorem gX5_ofNumber_X5_carry : GoodIn wsX5_ofNumber (wsV RX5 87 RX5 yX5_carry wsX5_carry) := goodIn_app (goodIn_of _ (by decide +kernel)) ggX5_ofNumber_X5_carry
set_option maxRecDepth 20000 in
theorem ggX5_ofNumber_X5_logic : GoodIn wsX5_ofNumber wsX5_logic := goodIn_r _ [26, 15, 16, 17, 5, 18, 11, 12, 13, 14, 1, 27, 28, 29, 30, 31, 32, 33, 34] (by decide +kernel) (by decide +kernel)
set_option maxRecDepth 20000 in
theorem gX5_ofNumber_X5_logic : GoodIn wsX5_ofNumber (wsV RX5 103 RX5 yX5_logic wsX5_logic) := goodIn_app (goodIn_of _ (by decide +kernel)) ggX5_ofNumber_X5_logic
theorem dX5_ofNumber_0 : decode cX5_ofNumber 0 = .ok (.bipush 16, 2) := by decide +kernel
theorem dX5_ofNumber_2 : decode cX5_ofNumber 2 = .ok (.iload_n 1, 1) := by decide +kernel
theorem dX5_ofNumber_3 : decode cX5_ofNumber 3 = .ok (.iconst 4, 1) := by decide +kernel
theorem dX5_ofNumber_4 : decode cX5_ofNumber 4 = .ok (.ishr, 1) := by decide +kernel
theorem dX5_ofNumber_5 : decode cX5_ofNumber 5 = .ok (.bipush 15, 2) := by decide +kernel
theorem dX5_ofNumber_7 : decode cX5_ofNumber 7 = .ok (.iand, 1) := by decide +kernel
theorem dX5_ofNumber_8 : decode cX5_ofNumber 8 = .ok (.iadd, 1) := by decide +kernel
theorem dX5_ofNumber_9 : decode cX5_ofNumber 9 = .ok (.istore_n 2, 1) := by decide +kernel
theorem dX5_ofNumber_10 : decode cX5_ofNumber 10 = .ok (.iload_n 1, 1) := by decide +kernel
theorem dX5_ofNumber_11 : decode cX5_ofNumber 11 = .ok (.iconst 4, 1) := by decide +kernel
theorem dX5_ofNumber_12 : decode cX5_ofNumber 12 = .ok (.ishr, 1) := by decide +kernel
theorem dX5_ofNumber_13 : decode cX5_ofNumber 13 = .ok (.sipush 240, 3) := by decide +kernel
theorem dX5_ofNumber_16 : decode cX5_ofNumber 16 = .ok (.iand, 1) := by decide +kernel
theorem dX5_ofNumber_17 : decode cX5_ofNumber 17 = .ok (.iload_n 1, 1) := by decide +kernel
theorem dX5_ofNumber_18 : decode cX5_ofNumber 18 = .ok (.bipush 15, 2) := by decide +kernel
theorem dX5_ofNumber_20 : decode cX5_ofNumber 20 = .ok (.iand, 1) := by decide +kernel
theorem dX5_ofNumber_21 : decode cX5_ofNumber 21 = .ok (.ior, 1) := by decide +kernel
theorem dX5_ofNumber_22 : decode cX5_ofNumber 22 = .ok (.istore_n 3, 1) := by decide +kernel
theorem dX5_ofNumber_23 : decode cX5_ofNumber 23 = .ok (.aload_n 0, 1) := by decide +kernel
theorem dX5_ofNumber_24 : decode cX5_ofNumber 24 = .ok (.getfield 13, 3) := by decide +kernel
theorem dX5_ofNumber_27 : decode cX5_ofNumber 27 = .ok (.iload_n 2, 1) := by decide +kernel
theorem dX5_ofNumber_28 : decode cX5_ofNumber 28 = .ok (.iaload, 1) := by decide +kernel
theorem dX5_ofNumber_29 : decode cX5_ofNumber 29 = .ok (.istore 4, 2) := by decide +kernel
theorem dX5_ofNumber_31 : decode cX5_ofNumber 31 = .ok (.iload_n 1, 1) := by decide +kernel
theorem dX5_ofNumber_32 : decode cX5_ofNumber 32 = .ok (.bipush 12, 2) := by decide +kernel
theorem dX5_ofNumber_34 : decode cX5_ofNumber 34 = .ok (.ishr, 1) := by decide +kernel
theorem dX5_ofNumber_35 : decode cX5_ofNumber 35 = .ok (.tableswitch 120 3 7 #[33, 47, 68, 86, 103], 33) := by decide +kernel
theorem dX5_ofNumber_68 : decode cX5_ofNumber 68 = .ok (.aload_n 0, 1) := by decide +kernel
theorem dX5_ofNumber_69 : decode cX5_ofNumber 69 = .ok (.iload 4, 2) := by decide +kernel
theorem dX5_ofNumber_71 : decode cX5_ofNumber 71 = .ok (.iload_n 3, 1) := by decide +kernel
theorem dX5_ofNumber_72 : decode cX5_ofNumber 72 = .ok (.iconst 0, 1) := by decide +kernel
theorem dX5_ofNumber_73 : decode cX5_ofNumber 73 = .ok (.iconst 0, 1) := by decide +kernel
theorem dX5_ofNumber_74 : decode cX5_ofNumber 74 = .ok (.invokevirtual 91, 3) := by decide +kernel
theorem dX5_ofNumber_77 : decode cX5_ofNumber 77 = .ok (.istore 5, 2) := by decide +kernel
theorem dX5_ofNumber_79 : decode cX5_ofNumber 79 = .ok (.goto 83, 3) := by decide +kernel
theorem dX5_ofNumber_82 : decode cX5_ofNumber 82 = .ok (.aload_n 0, 1) := by decide +kernel
theorem dX5_ofNumber_83 : decode cX5_ofNumber 83 = .ok (.getfield 13, 3) := by decide +kernel
theorem dX5_ofNumber_86 : decode cX5_ofNumber 86 = .ok (.iload_n 2, 1) := by decide +kernel
theorem dX5_ofNumber_87 : decode cX5_ofNumber 87 = .ok (.aload_n 0, 1) := by decide +kernel
theorem dX5_ofNumber_88 : decode cX5_ofNumber 88 = .ok (.iload 4, 2) := by decide +kernel
theorem dX5_ofNumber_90 : decode cX5_ofNumber 90 = .ok (.iload_n 3, 1) := by decide +kernel
theorem dX5_ofNumber_91 : decode cX5_ofNumber 91 = .ok (.aload_n 0, 1) := by decide +kernel
theorem dX5_ofNumber_92 : decode cX5_ofNumber 92 = .ok (.invokevirtual 87, 3) := by decide +kernel
theorem dX5_ofNumber_95 : decode cX5_ofNumber 95 = .ok (.iconst 1, 1) := by decide +kernel
theorem dX5_ofNumber_96 : decode cX5_ofNumber 96 = .ok (.invokevirtual 91, 3) := by decide +kernel
theorem dX5_ofNumber_99 : decode cX5_ofNumber 99 = .ok (.iastore, 1) := by decide +kernel
theorem dX5_ofNumber_100 : decode cX5_ofNumber 100 = .ok (.goto 62, 3) := by decide +kernel
theorem dX5_ofNumber_103 : decode cX5_ofNumber 103 = .ok (.aload_n 0, 1) := by decide +kernel
theorem dX5_ofNumber_104 : decode cX5_ofNumber 104 = .ok (.getfield 13, 3) := by decide +kernel
theorem dX5_ofNumber_107 : decode cX5_ofNumber 107 = .ok (.iload_n 2, 1) := by decide +kernel
theorem dX5_ofNumber_108 : decode cX5_ofNumber 108 = .ok (.aload_n 0, 1) := by decide +kernel
theorem dX5_ofNumber_109 : decode cX5_ofNumber 109 = .ok (.iload 4, 2) := by decide +kernel
theorem dX5_ofNumber_111 : decode cX5_ofNumber 111 = .ok (.iload_n 3, 1) := by decide +kernel
theorem dX5_ofNumber_112 : decode cX5_ofNumber 112 = .ok (.iconst 0, 1) := by decide +kernel
theorem dX5_ofNumber_113 : decode cX5_ofNumber 113 = .ok (.iconst 0, 1) := by decide +kernel
theorem dX5_ofNumber_114 : decode cX5_ofNumber 114 = .ok (.invokevirtual 91, 3) := by decide +kernel
theorem dX5_ofNumber_117 : decode cX5_ofNumber 117 = .ok (.iastore, 1) := by decide +kernel
theorem dX5_ofNumber_118 : decode cX5_ofNumber 118 = .ok (.goto 44, 3) := by decide +kernel
theorem dX5_ofNumber_121 : decode cX5_ofNumber 121 = .ok (.aload_n 0, 1) := by decide +kernel
theorem dX5_ofNumber_122 : decode cX5_ofNumber 122 = .ok (.getfield 13, 3) := by decide +kernel
theorem dX5_ofNumber_125 : decode cX5_ofNumber 125 = .ok (.iload_n 2, 1) := by decide +kernel
theorem dX5_ofNumber_126 : decode cX5_ofNumber 126 = .ok (.aload_n 0, 1) := by decide +kernel
theorem dX5_ofNumber_127 : decode cX5_ofNumber 127 = .ok (.iload 4, 2) := by decide +kernel
theorem dX5_ofNumber_129 : decode cX5_ofNumber 129 = .ok (.iload_n 3, 1) := by decide +kernel
theorem dX5_ofNumber_130 : decode cX5_ofNumber 130 = .ok (.ior, 1) := by decide +kernel
theorem dX5_ofNumber_131 : decode cX5_ofNumber 131 = .ok (.invokevirtual 103, 3) := by decide +kernel
theorem dX5_ofNumber_134 : decode cX5_ofNumber 134 = .ok (.iastore, 1) := by decide +kernel
theorem dX5_ofNumber_135 : decode cX5_ofNumber 135 = .ok (.goto 27, 3) := by decide +kernel
theorem dX5_ofNumber_138 : decode cX5_ofNumber 138 = .ok (.aload_n 0, 1) := by decide +kernel
theorem dX5_ofNumber_139 : decode cX5_ofNumber 139 = .ok (.getfield 13, 3) := by decide +kernel
theorem dX5_ofNumber_142 : decode cX5_ofNumber 142 = .ok (.iload_n 2, 1) := by decide +kernel
theorem dX5_ofNumber_143 : decode cX5_ofNumber 143 = .ok (.aload_n 0, 1) := by decide +kernel
theorem dX5_ofNumber_144 : decode cX5_ofNumber 144 = .ok (.iload 4, 2) := by decide +kernel
theorem dX5_ofNumber_146 : decode cX5_ofNumber 146 = .ok (.iload_n 3, 1) := by decide +kernel
theorem dX5_ofNumber_147 : decode cX5_ofNumber 147 = .ok (.iand, 1) := by decide +kernel
theorem dX5_ofNumber_148 : decode cX5_ofNumber 148 = .ok (.invokevirtual 103, 3) := by decide +kernel
theorem dX5_ofNumber_151 : decode cX5_ofNumber 151 = .ok (.iastore, 1) := by decide +kernel
theorem dX5_ofNumber_152 : decode cX5_ofNumber 152 = .ok (.goto 10, 3) := by decide +kernel
theorem dX5_ofNumber_155 : decode cX5_ofNumber 155 = .ok (.aload_n 0, 1) := by decide +kernel
theorem dX5_ofNumber_156 : decode cX5_ofNumber 156 = .ok (.getfield 13, 3) := by decide +kernel
theorem dX5_ofNumber_159 : decode cX5_ofNumber 159 = .ok (.iload_n 2, 1) := by decide +kernel
theorem dX5_ofNumber_160 : decode cX5_ofNumber 160 = .ok (.iload_n 3, 1) := by decide +kernel
theorem dX5_ofNumber_161 : decode cX5_ofNumber 161 = .ok (.iastore, 1) := by decide +kernel
theorem dX5_ofNumber_162 : decode cX5_ofNumber 162 = .ok (.return_, 1) := by decide +kernel
theorem dX5_signed_0 : decode cX5_signed 0 = .ok (.iload_n 0, 1) := by decide +kernel
theorem dX5_signed_1 : decode cX5_signed 1 = .ok (.bipush 127, 2) := by decide +kernel
theorem dX5_signed_3 : decode cX5_signed 3 = .ok (.if_icmp .le 11, 3) := by decide +kernel
theorem dX5_signed_6 : decode cX5_signed 6 = .ok (.iload_n 0, 1) := by decide +kernel
theorem dX5_signed_7 : decode cX5_signed 7 = .ok (.sipush 256, 3) := by decide +kernel
theorem dX5_signed_10 : decode cX5_signed 10 = .ok (.isub, 1) := by decide +kernel
theorem dX5_signed_11 : decode cX5_signed 11 = .ok (.goto 4, 3) := by decide +kernel
theorem dX5_signed_14 : decode cX5_signed 14 = .ok (.iload_n 0, 1) := by decide +kernel
theorem dX5_signed_15 : decode cX5_signed 15 = .ok (.ireturn, 1) := by decide +kernel
set_option maxRecDepth 20000 in
theorem ggX5_product_X5_flag : GoodIn wsX5_product wsX5_flag := goodIn_r _ [6, 7, 12, 13, 14, 15, 16, 17, 18, 19] (by decide +kernel) (by decide +kernel)
set_option maxRecDepth 20000 in
theorem gX5_product_X5_flag : GoodIn wsX5_product (wsV RX5 74 RX5 yX5_flag wsX5_flag) := goodIn_app (goodIn_of _ (by decide +kernel)) ggX5_product_X5_flag
set_option maxRecDepth 20000 in
theorem ggX5_product_X5_setPair : GoodIn wsX5_product wsX5_setPair := goodIn_r _ [11, 7, 12, 13, 14, 15, 16, 17, 18, 19] (by decide +kernel) (by decide +kernel)
set_option maxRecDepth 20000 in
theorem gX5_product_X5_setPair : GoodIn wsX5_product (wsV RX5 106 RX5 yX5_setPair wsX5_setPair) := goodIn_app (goodIn_of _ (by decide +kernel)) ggX5_product_X5_setPair
theorem dX5_product_0 : decode cX5_product 0 = .ok (.iload_n 1, 1) := by decide +kernel
theorem dX5_product_1 : decode cX5_product 1 = .ok (.ldc 27, 2) := by decide +kernel
theorem dX5_product_3 : decode cX5_product 3 = .ok (.iand, 1) := by decide +kernel
theorem dX5_product_4 : decode cX5_product 4 = .ok (.istore_n 3, 1) := by decide +kernel
theorem dX5_product_5 : decode cX5_product 5 = .ok (.aload_n 0, 1) := by decide +kernel
theorem dX5_product_6 : decode cX5_product 6 = .ok (.iconst 1, 1) := by decide +kernel
theorem dX5_product_7 : decode cX5_product 7 = .ok (.iload_n 3, 1) := by decide +kernel
theorem dX5_product_8 : decode cX5_product 8 = .ok (.sipush 32767, 3) := by decide +kernel
theorem dX5_product_11 : decode cX5_product 11 = .ok (.if_icmp .le 7, 3) := by decide +kernel
theorem dX5_product_14 : decode cX5_product 14 = .ok (.iconst 1, 1) := by decide +kernel
theorem dX5_product_15 : decode cX5_product 15 = .ok (.goto 4, 3) := by decide +kernel
theorem dX5_product_18 : decode cX5_product 18 = .ok (.iconst 0, 1) := by decide +kernel
theorem dX5_product_19 : decode cX5_product 19 = .ok (.invokevirtual 74, 3) := by decide +kernel
theorem dX5_product_22 : decode cX5_product 22 = .ok (.iload_n 2, 1) := by decide +kernel
theorem dX5_product_23 : decode cX5_product 23 = .ok (.ifCond .eq 12, 3) := by decide +kernel
theorem dX5_product_26 : decode cX5_product 26 = .ok (.iload_n 3, 1) := by decide +kernel
theorem dX5_product_27 : decode cX5_product 27 = .ok (.iconst 1, 1) := by decide +kernel
theorem dX5_product_28 : decode cX5_product 28 = .ok (.ishl, 1) := by decide +kernel
theorem dX5_product_29 : decode cX5_product 29 = .ok (.ldc 27, 2) := by decide +kernel
theorem dX5_product_31 : decode cX5_product 31 = .ok (.iand, 1) := by decide +kernel
theorem dX5_product_32 : decode cX5_product 32 = .ok (.goto 4, 3) := by decide +kernel
theorem dX5_product_35 : decode cX5_product 35 = .ok (.iload_n 3, 1) := by decide +kernel
theorem dX5_product_36 : decode cX5_product 36 = .ok (.istore_n 3, 1) := by decide +kernel
theorem dX5_product_37 : decode cX5_product 37 = .ok (.aload_n 0, 1) := by decide +kernel
theorem dX5_product_38 : decode cX5_product 38 = .ok (.iconst 2, 1) := by decide +kernel
theorem dX5_product_39 : decode cX5_product 39 = .ok (.iload_n 3, 1) := by decide +kernel
theorem dX5_product_40 : decode cX5_product 40 = .ok (.ifCond .ne 7, 3) := by decide +kernel
theorem dX5_product_43 : decode cX5_product 43 = .ok (.iconst 1, 1) := by decide +kernel
theorem dX5_product_44 : decode cX5_product 44 = .ok (.goto 4, 3) := by decide +kernel
theorem dX5_product_47 : decode cX5_product 47 = .ok (.iconst 0, 1) := by decide +kernel
theorem dX5_product_48 : decode cX5_product 48 = .ok (.invokevirtual 74, 3) := by decide +kernel
theorem dX5_product_51 : decode cX5_product 51 = .ok (.aload_n 0, 1) := by decide +kernel
theorem dX5_product_52 : decode cX5_product 52 = .ok (.iconst 0, 1) := by decide +kernel
theorem dX5_product_53 : decode cX5_product 53 = .ok (.iload_n 3, 1) := by decide +kernel
theorem dX5_product_54 : decode cX5_product 54 = .ok (.invokevirtual 106, 3) := by decide +kernel
theorem dX5_product_57 : decode cX5_product 57 = .ok (.return_, 1) := by decide +kernel
set_option maxRecDepth 20000 in
theorem ggX5_products_X5_signed : GoodIn wsX5_products wsX5_signed := goodIn_r _ [5] (by decide +kernel) (by decide +kernel)
set_option maxRecDepth 20000 in
theorem gX5_products_X5_signed : GoodIn wsX5_products (va_wsS RX5 110 yX5_signed wsX5_signed) := goodIn_app (goodIn_of _ (by decide +kernel)) ggX5_products_X5_signed
set_option maxRecDepth 20000 in
theorem ggX5_products_X5_product : GoodIn wsX5_products wsX5_product := goodIn_r _ [9, 10, 11, 12, 13, 4, 14, 1, 15, 16, 17, 18, 19, 20, 21, 22, 23, 24, 25, 26] (by decide +kernel) (by decide +kernel)
set_option maxRecDepth 20000 in
theorem gX5_products_X5_product : GoodIn wsX5_products (wsV RX5 113 RX5 yX5_product wsX5_product) := goodIn_app (goodIn_of _ (by decide +kernel)) ggX5_products_X5_product
theorem dX5_products_0 : decode cX5_products 0 = .ok (.iload_n 1, 1) := by decide +kernel
theorem dX5_products_1 : decode cX5_products 1 = .ok (.bipush 8, 2) := by decide +kernel
theorem dX5_products_3 : decode cX5_products 3 = .ok (.ishr, 1) := by decide +kernel
theorem dX5_products_4 : decode cX5_products 4 = .ok (.iconst 2, 1) := by decide +kernel
theorem dX5_products_5 : decode cX5_products 5 = .ok (.if_icmp .ne 42, 3) := by decide +kernel
theorem dX5_products_8 : decode cX5_products 8 = .ok (.aload_n 0, 1) := by decide +kernel
theorem dX5_products_9 : decode cX5_products 9 = .ok (.aload_n 0, 1) := by decide +kernel
theorem dX5_products_10 : decode cX5_products 10 = .ok (.getfield 13, 3) := by decide +kernel
theorem dX5_products_13 : decode cX5_products 13 = .ok (.bipush 16, 2) := by decide +kernel
theorem dX5_products_15 : decode cX5_products 15 = .ok (.iload_n 1, 1) := by decide +kernel
theorem dX5_products_16 : decode cX5_products 16 = .ok (.iconst 4, 1) := by decide +kernel
theorem dX5_products_17 : decode cX5_products 17 = .ok (.ishr, 1) := by decide +kernel
theorem dX5_products_18 : decode cX5_products 18 = .ok (.bipush 15, 2) := by decide +kernel
theorem dX5_products_20 : decode cX5_products 20 = .ok (.iand, 1) := by decide +kernel
theorem dX5_products_21 : decode cX5_products 21 = .ok (.iadd, 1) := by decide +kernel
theorem dX5_products_22 : decode cX5_products 22 = .ok (.iaload, 1) := by decide +kernel
theorem dX5_products_23 : decode cX5_products 23 = .ok (.invokestatic 110, 3) := by decide +kernel
theorem dX5_products_26 : decode cX5_products 26 = .ok (.aload_n 0, 1) := by decide +kernel
theorem dX5_products_27 : decode cX5_products 27 = .ok (.getfield 13, 3) := by decide +kernel
theorem dX5_products_30 : decode cX5_products 30 = .ok (.bipush 16, 2) := by decide +kernel
theorem dX5_products_32 : decode cX5_products 32 = .ok (.iload_n 1, 1) := by decide +kernel
theorem dX5_products_33 : decode cX5_products 33 = .ok (.bipush 15, 2) := by decide +kernel
theorem dX5_products_35 : decode cX5_products 35 = .ok (.iand, 1) := by decide +kernel
theorem dX5_products_36 : decode cX5_products 36 = .ok (.iadd, 1) := by decide +kernel
theorem dX5_products_37 : decode cX5_products 37 = .ok (.iaload, 1) := by decide +kernel
theorem dX5_products_38 : decode cX5_products 38 = .ok (.invokestatic 110, 3) := by decide +kernel
theorem dX5_products_41 : decode cX5_products 41 = .ok (.imul, 1) := by decide +kernel
theorem dX5_products_42 : decode cX5_products 42 = .ok (.iconst 0, 1) := by decide +kernel
theorem dX5_products_43 : decode cX5_products 43 = .ok (.invokevirtual 113, 3) := by decide +kernel
theorem dX5_products_46 : decode cX5_products 46 = .ok (.return_, 1) := by decide +kernel
theorem dX5_products_47 : decode cX5_products 47 = .ok (.aload_n 0, 1) := by decide +kernel
theorem dX5_products_48 : decode cX5_products 48 = .ok (.getfield 13, 3) := by decide +kernel
theorem dX5_products_51 : decode cX5_products 51 = .ok (.bipush 16, 2) := by decide +kernel
theorem dX5_products_53 : decode cX5_products 53 = .ok (.iload_n 1, 1) := by decide +kernel
theorem dX5_products_54 : decode cX5_products 54 = .ok (.iconst 4, 1) := by decide +kernel
theorem dX5_products_55 : decode cX5_products 55 = .ok (.ishr, 1) := by decide +kernel
theorem dX5_products_56 : decode cX5_products 56 = .ok (.bipush 7, 2) := by decide +kernel
theorem dX5_products_58 : decode cX5_products 58 = .ok (.iand, 1) := by decide +kernel
theorem dX5_products_59 : decode cX5_products 59 = .ok (.iadd, 1) := by decide +kernel
theorem dX5_products_60 : decode cX5_products 60 = .ok (.iaload, 1) := by decide +kernel
theorem dX5_products_61 : decode cX5_products 61 = .ok (.istore_n 2, 1) := by decide +kernel
theorem dX5_products_62 : decode cX5_products 62 = .ok (.aload_n 0, 1) := by decide +kernel
theorem dX5_products_63 : decode cX5_products 63 = .ok (.getfield 13, 3) := by decide +kernel
theorem dX5_products_66 : decode cX5_products 66 = .ok (.bipush 16, 2) := by decide +kernel
theorem dX5_products_68 : decode cX5_products 68 = .ok (.iload_n 1, 1) := by decide +kernel
theorem dX5_products_69 : decode cX5_products 69 = .ok (.bipush 7, 2) := by decide +kernel
theorem dX5_products_71 : decode cX5_products 71 = .ok (.iand, 1) := by decide +kernel
theorem dX5_products_72 : decode cX5_products 72 = .ok (.iadd, 1) := by decide +kernel
theorem dX5_products_73 : decode cX5_products 73 = .ok (.iaload, 1) := by decide +kernel
theorem dX5_products_74 : decode cX5_products 74 = .ok (.istore_n 3, 1) := by decide +kernel
theorem dX5_products_75 : decode cX5_products 75 = .ok (.iload_n 1, 1) := by decide +kernel
theorem dX5_products_76 : decode cX5_products 76 = .ok (.sipush 136, 3) := by decide +kernel
theorem dX5_products_79 : decode cX5_products 79 = .ok (.iand, 1) := by decide +kernel
theorem dX5_products_80 : decode cX5_products 80 = .ok (.lookupswitch 78 #[(0, 36), (8, 50), (128, 61)], 36) := by decide +kernel
theorem dX5_products_116 : decode cX5_products 116 = .ok (.aload_n 0, 1) := by decide +kernel
theorem dX5_products_117 : decode cX5_products 117 = .ok (.iload_n 2, 1) := by decide +kernel
theorem dX5_products_118 : decode cX5_products 118 = .ok (.invokestatic 110, 3) := by decide +kernel
theorem dX5_products_121 : decode cX5_products 121 = .ok (.iload_n 3, 1) := by decide +kernel
theorem dX5_products_122 : decode cX5_products 122 = .ok (.imul, 1) := by decide +kernel
theorem dX5_products_123 : decode cX5_products 123 = .ok (.iconst 0, 1) := by decide +kernel
theorem dX5_products_124 : decode cX5_products 124 = .ok (.invokevirtual 113, 3) := by decide +kernel
theorem dX5_products_127 : decode cX5_products 127 = .ok (.goto 42, 3) := by decide +kernel
theorem dX5_products_130 : decode cX5_products 130 = .ok (.aload_n 0, 1) := by decide +kernel
theorem dX5_products_131 : decode cX5_products 131 = .ok (.iload_n 2, 1) := by decide +kernel
theorem dX5_products_132 : decode cX5_products 132 = .ok (.iload_n 3, 1) := by decide +kernel
theorem dX5_products_133 : decode cX5_products 133 = .ok (.imul, 1) := by decide +kernel
theorem dX5_products_134 : decode cX5_products 134 = .ok (.iconst 1, 1) := by decide +kernel
theorem dX5_products_135 : decode cX5_products 135 = .ok (.invokevirtual 113, 3) := by decide +kernel
theorem dX5_products_138 : decode cX5_products 138 = .ok (.goto 31, 3) := by decide +kernel
theorem dX5_products_141 : decode cX5_products 141 = .ok (.aload_n 0, 1) := by decide +kernel
theorem dX5_products_142 : decode cX5_products 142 = .ok (.iload_n 2, 1) := by decide +kernel
theorem dX5_products_143 : decode cX5_products 143 = .ok (.invokestatic 110, 3) := by decide +kernel
theorem dX5_products_146 : decode cX5_products 146 = .ok (.iload_n 3, 1) := by decide +kernel
theorem dX5_products_147 : decode cX5_products 147 = .ok (.invokestatic 110, 3) := by decide +kernel
theorem dX5_products_150 : decode cX5_products 150 = .ok (.imul, 1) := by decide +kernel
theorem dX5_products_151 : decode cX5_products 151 = .ok (.iconst 1, 1) := by decide +kernel
theorem dX5_products_152 : decode cX5_products 152 = .ok (.invokevirtual 113, 3) := by decide +kernel
theorem dX5_products_155 : decode cX5_products 155 = .ok (.goto 14, 3) := by decide +kernel
theorem dX5_products_158 : decode cX5_products 158 = .ok (.aload_n 0, 1) := by decide +kernel
theorem dX5_products_159 : decode cX5_products 159 = .ok (.iload_n 2, 1) := by decide +kernel
theorem dX5_products_160 : decode cX5_products 160 = .ok (.invokestatic 110, 3) := by decide +kernel
theorem dX5_products_163 : decode cX5_products 163 = .ok (.iload_n 3, 1) := by decide +kernel
theorem dX5_products_164 : decode cX5_products 164 = .ok (.imul, 1) := by decide +kernel
theorem dX5_products_165 : decode cX5_products 165 = .ok (.iconst 1, 1) := by decide +kernel
theorem dX5_products_166 : decode cX5_products 166 = .ok (.invokevirtual 113, 3) := by decide +kernel
theorem dX5_products_169 : decode cX5_products 169 = .ok (.return_, 1) := by decide +kernel
set_option maxRecDepth 20000 in
theorem ggX5_right_X5_flag : GoodIn wsX5_right wsX5_flag := goodIn_r _ [5, 6, 11, 12, 13, 14, 15, 16, 17, 18] (by decide +kernel) (by decide +kernel)
set_option maxRecDepth 20000 in
theorem gX5_right_X5_flag : GoodIn wsX5_right (wsV RX5 74 RX5 yX5_flag wsX5_flag) := goodIn_app (goodIn_of _ (by decide +kernel)) ggX5_right_X5_flag
set_option maxRecDepth 20000 in
theorem ggX5_right_X5_signs : GoodIn wsX5_right wsX5_signs := goodIn_r _ [10, 1, 2, 3, 4, 5, 6, 11, 12, 13, 14, 15, 16, 17, 18] (by decide +kernel) (by decide +kernel)
set_option maxRecDepth 20000 in
theorem gX5_right_X5_signs : GoodIn wsX5_right (wsV RX5 78 RX5 yX5_signs wsX5_signs) := goodIn_app (goodIn_of _ (by decide +kernel)) ggX5_right_X5_signs
theorem dX5_right_0 : decode cX5_right 0 = .ok (.iload_n 1, 1) := by decide +kernel
theorem dX5_right_1 : decode cX5_right 1 = .ok (.iconst 1, 1) := by decide +kernel
theorem dX5_right_2 : decode cX5_right 2 = .ok (.ishr, 1) := by decide +kernel
theorem dX5_right_3 : decode cX5_right 3 = .ok (.iload_n 2, 1) := by decide +kernel
theorem dX5_right_4 : decode cX5_right 4 = .ok (.ior, 1) := by decide +kernel
theorem dX5_right_5 : decode cX5_right 5 = .ok (.istore_n 3, 1) := by decide +kernel
theorem dX5_right_6 : decode cX5_right 6 = .ok (.iload_n 1, 1) := by decide +kernel
theorem dX5_right_7 : decode cX5_right 7 = .ok (.iconst 1, 1) := by decide +kernel
theorem dX5_right_8 : decode cX5_right 8 = .ok (.iand, 1) := by decide +kernel
theorem dX5_right_9 : decode cX5_right 9 = .ok (.iconst 1, 1) := by decide +kernel
theorem dX5_right_10 : decode cX5_right 10 = .ok (.if_icmp .ne 7, 3) := by decide +kernel
theorem dX5_right_13 : decode cX5_right 13 = .ok (.iconst 1, 1) := by decide +kernel
theorem dX5_right_14 : decode cX5_right 14 = .ok (.goto 4, 3) := by decide +kernel
theorem dX5_right_17 : decode cX5_right 17 = .ok (.iconst 0, 1) := by decide +kernel
theorem dX5_right_18 : decode cX5_right 18 = .ok (.istore 4, 2) := by decide +kernel
theorem dX5_right_20 : decode cX5_right 20 = .ok (.aload_n 0, 1) := by decide +kernel
theorem dX5_right_21 : decode cX5_right 21 = .ok (.iconst 1, 1) := by decide +kernel
theorem dX5_right_22 : decode cX5_right 22 = .ok (.iload 4, 2) := by decide +kernel
theorem dX5_right_24 : decode cX5_right 24 = .ok (.invokevirtual 74, 3) := by decide +kernel
theorem dX5_right_27 : decode cX5_right 27 = .ok (.aload_n 0, 1) := by decide +kernel
theorem dX5_right_28 : decode cX5_right 28 = .ok (.iload_n 3, 1) := by decide +kernel
theorem dX5_right_29 : decode cX5_right 29 = .ok (.iload_n 3, 1) := by decide +kernel
theorem dX5_right_30 : decode cX5_right 30 = .ok (.bipush 127, 2) := by decide +kernel
theorem dX5_right_32 : decode cX5_right 32 = .ok (.if_icmp .le 7, 3) := by decide +kernel
theorem dX5_right_35 : decode cX5_right 35 = .ok (.iconst 1, 1) := by decide +kernel
theorem dX5_right_36 : decode cX5_right 36 = .ok (.goto 4, 3) := by decide +kernel
theorem dX5_right_39 : decode cX5_right 39 = .ok (.iconst 0, 1) := by decide +kernel
theorem dX5_right_40 : decode cX5_right 40 = .ok (.iload 4, 2) := by decide +kernel
theorem dX5_right_42 : decode cX5_right 42 = .ok (.if_icmp .eq 7, 3) := by decide +kernel
theorem dX5_right_45 : decode cX5_right 45 = .ok (.iconst 1, 1) := by decide +kernel
theorem dX5_right_46 : decode cX5_right 46 = .ok (.goto 4, 3) := by decide +kernel
theorem dX5_right_49 : decode cX5_right 49 = .ok (.iconst 0, 1) := by decide +kernel
theorem dX5_right_50 : decode cX5_right 50 = .ok (.invokevirtual 78, 3) := by decide +kernel
theorem dX5_right_53 : decode cX5_right 53 = .ok (.iload_n 3, 1) := by decide +kernel
theorem dX5_right_54 : decode cX5_right 54 = .ok (.ireturn, 1) := by decide +kernel
set_option maxRecDepth 20000 in
theorem ggX5_ofOne_X5_dOf : GoodIn wsX5_ofOne wsX5_dOf := goodIn_r _ [5] (by decide +kernel) (by decide +kernel)
set_option maxRecDepth 20000 in
theorem gX5_ofOne_X5_dOf : GoodIn wsX5_ofOne (va_wsS RX5 53 yX5_dOf wsX5_dOf) := goodIn_app (goodIn_of _ (by decide +kernel)) ggX5_ofOne_X5_dOf
set_option maxRecDepth 20000 in
theorem ggX5_ofOne_X5_logic : GoodIn wsX5_ofOne wsX5_logic := goodIn_r _ [9, 10, 11, 12, 4, 13, 14, 15, 16, 17, 1, 34, 35, 36, 37, 38, 39, 40, 41] (by decide +kernel) (by decide +kernel)
set_option maxRecDepth 20000 in
theorem gX5_ofOne_X5_logic : GoodIn wsX5_ofOne (wsV RX5 103 RX5 yX5_logic wsX5_logic) := goodIn_app (goodIn_of _ (by decide +kernel)) ggX5_ofOne_X5_logic
set_option maxRecDepth 20000 in
theorem ggX5_ofOne_X5_flag : GoodIn wsX5_ofOne wsX5_flag := goodIn_r _ [17, 1, 34, 35, 36, 37, 38, 39, 40, 41] (by decide +kernel) (by decide +kernel)
set_option maxRecDepth 20000 in
theorem gX5_ofOne_X5_flag : GoodIn wsX5_ofOne (wsV RX5 74 RX5 yX5_flag wsX5_flag) := goodIn_app (goodIn_of _ (by decide +kernel)) ggX5_ofOne_X5_flag
set_option maxRecDepth 20000 in
theorem ggX5_ofOne_X5_subtract : GoodIn wsX5_ofOne wsX5_subtract := goodIn_r _ [21, 22, 23, 24, 4, 25, 1, 14, 15, 16, 17, 10, 11, 12, 13, 34, 35, 36, 37, 38, 39, 40, 41] (by decide +kernel) (by decide +kernel)
set_option maxRecDepth 20000 in
theorem gX5_ofOne_X5_subtract : GoodIn wsX5_ofOne (wsV RX5 91 RX5 yX5_subtract wsX5_subtract) := goodIn_app (goodIn_of _ (by decide +kernel)) ggX5_ofOne_X5_subtract
set_option maxRecDepth 20000 in
theorem ggX5_ofOne_X5_signs : GoodIn wsX5_ofOne wsX5_signs := goodIn_r _ [13, 14, 15, 16, 4, 17, 1, 34, 35, 36, 37, 38, 39, 40, 41] (by decide +kernel) (by decide +kernel)
set_option maxRecDepth 20000 in
theorem gX5_ofOne_X5_signs : GoodIn wsX5_ofOne (wsV RX5 78 RX5 yX5_signs wsX5_signs) := goodIn_app (goodIn_of _ (by decide +kernel)) ggX5_ofOne_X5_signs
set_option maxRecDepth 20000 in
theorem ggX5_ofOne_X5_right : GoodIn wsX5_ofOne wsX5_right := goodIn_r _ [29, 14, 15, 16, 4, 17, 1, 10, 11, 12, 13, 34, 35, 36, 37, 38, 39, 40, 41] (by decide +kernel) (by decide +kernel)
set_option maxRecDepth 20000 in
theorem gX5_ofOne_X5_right : GoodIn wsX5_ofOne (wsV RX5 116 RX5 yX5_right wsX5_right) := goodIn_app (goodIn_of _ (by decide +kernel)) ggX5_ofOne_X5_right
set_option maxRecDepth 20000 in
theorem ggX5_ofOne_X5_carry : GoodIn wsX5_ofOne wsX5_carry := goodIn_r _ [33, 22, 23, 24, 4, 25, 1, 34, 35, 36, 37, 38, 39, 40, 41] (by decide +kernel) (by decide +kernel)
set_option maxRecDepth 20000 in
theorem gX5_ofOne_X5_carry : GoodIn wsX5_ofOne (wsV RX5 87 RX5 yX5_carry wsX5_carry) := goodIn_app (goodIn_of _ (by decide +kernel)) ggX5_ofOne_X5_carry
theorem dX5_ofOne_0 : decode cX5_ofOne 0 = .ok (.iload_n 1, 1) := by decide +kernel
theorem dX5_ofOne_1 : decode cX5_ofOne 1 = .ok (.invokestatic 53, 3) := by decide +kernel
theorem dX5_ofOne_4 : decode cX5_ofOne 4 = .ok (.istore_n 2, 1) := by decide +kernel
theorem dX5_ofOne_5 : decode cX5_ofOne 5 = .ok (.aload_n 0, 1) := by decide +kernel
theorem dX5_ofOne_6 : decode cX5_ofOne 6 = .ok (.getfield 13, 3) := by decide +kernel
theorem dX5_ofOne_9 : decode cX5_ofOne 9 = .ok (.iload_n 2, 1) := by decide +kernel
theorem dX5_ofOne_10 : decode cX5_ofOne 10 = .ok (.iaload, 1) := by decide +kernel
theorem dX5_ofOne_11 : decode cX5_ofOne 11 = .ok (.istore_n 3, 1) := by decide +kernel
theorem dX5_ofOne_12 : decode cX5_ofOne 12 = .ok (.iload_n 3, 1) := by decide +kernel
theorem dX5_ofOne_13 : decode cX5_ofOne 13 = .ok (.istore 4, 2) := by decide +kernel
theorem dX5_ofOne_15 : decode cX5_ofOne 15 = .ok (.iload_n 1, 1) := by decide +kernel
theorem dX5_ofOne_16 : decode cX5_ofOne 16 = .ok (.bipush 15, 2) := by decide +kernel
theorem dX5_ofOne_18 : decode cX5_ofOne 18 = .ok (.iand, 1) := by decide +kernel
theorem dX5_ofOne_19 : decode cX5_ofOne 19 = .ok (.tableswitch 168 0 7 #[45, 65, 78, 94, 168, 125, 140, 151], 45) := by decide +kernel
theorem dX5_ofOne_64 : decode cX5_ofOne 64 = .ok (.aload_n 0, 1) := by decide +kernel
theorem dX5_ofOne_65 : decode cX5_ofOne 65 = .ok (.sipush 255, 3) := by decide +kernel
theorem dX5_ofOne_68 : decode cX5_ofOne 68 = .ok (.iload_n 3, 1) := by decide +kernel
theorem dX5_ofOne_69 : decode cX5_ofOne 69 = .ok (.isub, 1) := by decide +kernel
theorem dX5_ofOne_70 : decode cX5_ofOne 70 = .ok (.invokevirtual 103, 3) := by decide +kernel
theorem dX5_ofOne_73 : decode cX5_ofOne 73 = .ok (.istore 4, 2) := by decide +kernel
theorem dX5_ofOne_75 : decode cX5_ofOne 75 = .ok (.aload_n 0, 1) := by decide +kernel
theorem dX5_ofOne_76 : decode cX5_ofOne 76 = .ok (.iconst 1, 1) := by decide +kernel
theorem dX5_ofOne_77 : decode cX5_ofOne 77 = .ok (.iconst 1, 1) := by decide +kernel
theorem dX5_ofOne_78 : decode cX5_ofOne 78 = .ok (.invokevirtual 74, 3) := by decide +kernel
theorem dX5_ofOne_81 : decode cX5_ofOne 81 = .ok (.goto 133, 3) := by decide +kernel
theorem dX5_ofOne_84 : decode cX5_ofOne 84 = .ok (.aload_n 0, 1) := by decide +kernel
theorem dX5_ofOne_85 : decode cX5_ofOne 85 = .ok (.iconst 0, 1) := by decide +kernel
theorem dX5_ofOne_86 : decode cX5_ofOne 86 = .ok (.iload_n 3, 1) := by decide +kernel
theorem dX5_ofOne_87 : decode cX5_ofOne 87 = .ok (.iconst 0, 1) := by decide +kernel
theorem dX5_ofOne_88 : decode cX5_ofOne 88 = .ok (.iconst 0, 1) := by decide +kernel
theorem dX5_ofOne_89 : decode cX5_ofOne 89 = .ok (.invokevirtual 91, 3) := by decide +kernel
theorem dX5_ofOne_92 : decode cX5_ofOne 92 = .ok (.istore 4, 2) := by decide +kernel
theorem dX5_ofOne_94 : decode cX5_ofOne 94 = .ok (.goto 120, 3) := by decide +kernel
theorem dX5_ofOne_97 : decode cX5_ofOne 97 = .ok (.iload_n 3, 1) := by decide +kernel
theorem dX5_ofOne_98 : decode cX5_ofOne 98 = .ok (.iconst 4, 1) := by decide +kernel
theorem dX5_ofOne_99 : decode cX5_ofOne 99 = .ok (.ishr, 1) := by decide +kernel
theorem dX5_ofOne_100 : decode cX5_ofOne 100 = .ok (.iload_n 3, 1) := by decide +kernel
theorem dX5_ofOne_101 : decode cX5_ofOne 101 = .ok (.iconst 4, 1) := by decide +kernel
theorem dX5_ofOne_102 : decode cX5_ofOne 102 = .ok (.ishl, 1) := by decide +kernel
theorem dX5_ofOne_103 : decode cX5_ofOne 103 = .ok (.sipush 240, 3) := by decide +kernel
theorem dX5_ofOne_106 : decode cX5_ofOne 106 = .ok (.iand, 1) := by decide +kernel
theorem dX5_ofOne_107 : decode cX5_ofOne 107 = .ok (.ior, 1) := by decide +kernel
theorem dX5_ofOne_108 : decode cX5_ofOne 108 = .ok (.istore 4, 2) := by decide +kernel
theorem dX5_ofOne_110 : decode cX5_ofOne 110 = .ok (.goto 104, 3) := by decide +kernel
theorem dX5_ofOne_113 : decode cX5_ofOne 113 = .ok (.iload_n 3, 1) := by decide +kernel
theorem dX5_ofOne_114 : decode cX5_ofOne 114 = .ok (.iconst 1, 1) := by decide +kernel
theorem dX5_ofOne_115 : decode cX5_ofOne 115 = .ok (.iadd, 1) := by decide +kernel
theorem dX5_ofOne_116 : decode cX5_ofOne 116 = .ok (.sipush 255, 3) := by decide +kernel
theorem dX5_ofOne_119 : decode cX5_ofOne 119 = .ok (.iand, 1) := by decide +kernel
theorem dX5_ofOne_120 : decode cX5_ofOne 120 = .ok (.istore 4, 2) := by decide +kernel
theorem dX5_ofOne_122 : decode cX5_ofOne 122 = .ok (.aload_n 0, 1) := by decide +kernel
theorem dX5_ofOne_123 : decode cX5_ofOne 123 = .ok (.iload 4, 2) := by decide +kernel
theorem dX5_ofOne_125 : decode cX5_ofOne 125 = .ok (.iload 4, 2) := by decide +kernel
theorem dX5_ofOne_127 : decode cX5_ofOne 127 = .ok (.sipush 128, 3) := by decide +kernel
theorem dX5_ofOne_130 : decode cX5_ofOne 130 = .ok (.if_icmp .ne 7, 3) := by decide +kernel
theorem dX5_ofOne_133 : decode cX5_ofOne 133 = .ok (.iconst 1, 1) := by decide +kernel
theorem dX5_ofOne_134 : decode cX5_ofOne 134 = .ok (.goto 4, 3) := by decide +kernel
theorem dX5_ofOne_137 : decode cX5_ofOne 137 = .ok (.iconst 0, 1) := by decide +kernel
theorem dX5_ofOne_138 : decode cX5_ofOne 138 = .ok (.invokevirtual 78, 3) := by decide +kernel
theorem dX5_ofOne_141 : decode cX5_ofOne 141 = .ok (.goto 73, 3) := by decide +kernel
theorem dX5_ofOne_144 : decode cX5_ofOne 144 = .ok (.aload_n 0, 1) := by decide +kernel
theorem dX5_ofOne_145 : decode cX5_ofOne 145 = .ok (.iload_n 3, 1) := by decide +kernel
theorem dX5_ofOne_146 : decode cX5_ofOne 146 = .ok (.iload_n 3, 1) := by decide +kernel
theorem dX5_ofOne_147 : decode cX5_ofOne 147 = .ok (.sipush 128, 3) := by decide +kernel
theorem dX5_ofOne_150 : decode cX5_ofOne 150 = .ok (.iand, 1) := by decide +kernel
theorem dX5_ofOne_151 : decode cX5_ofOne 151 = .ok (.invokevirtual 116, 3) := by decide +kernel
theorem dX5_ofOne_154 : decode cX5_ofOne 154 = .ok (.istore 4, 2) := by decide +kernel
theorem dX5_ofOne_156 : decode cX5_ofOne 156 = .ok (.goto 58, 3) := by decide +kernel
theorem dX5_ofOne_159 : decode cX5_ofOne 159 = .ok (.aload_n 0, 1) := by decide +kernel
theorem dX5_ofOne_160 : decode cX5_ofOne 160 = .ok (.iload_n 3, 1) := by decide +kernel
theorem dX5_ofOne_161 : decode cX5_ofOne 161 = .ok (.iconst 0, 1) := by decide +kernel
theorem dX5_ofOne_162 : decode cX5_ofOne 162 = .ok (.invokevirtual 116, 3) := by decide +kernel
theorem dX5_ofOne_165 : decode cX5_ofOne 165 = .ok (.istore 4, 2) := by decide +kernel
theorem dX5_ofOne_167 : decode cX5_ofOne 167 = .ok (.goto 47, 3) := by decide +kernel
theorem dX5_ofOne_170 : decode cX5_ofOne 170 = .ok (.aload_n 0, 1) := by decide +kernel
theorem dX5_ofOne_171 : decode cX5_ofOne 171 = .ok (.iload_n 3, 1) := by decide +kernel
theorem dX5_ofOne_172 : decode cX5_ofOne 172 = .ok (.aload_n 0, 1) := by decide +kernel
theorem dX5_ofOne_173 : decode cX5_ofOne 173 = .ok (.invokevirtual 87, 3) := by decide +kernel
theorem dX5_ofOne_176 : decode cX5_ofOne 176 = .ok (.bipush 7, 2) := by decide +kernel
theorem dX5_ofOne_178 : decode cX5_ofOne 178 = .ok (.ishl, 1) := by decide +kernel
theorem dX5_ofOne_179 : decode cX5_ofOne 179 = .ok (.invokevirtual 116, 3) := by decide +kernel
theorem dX5_ofOne_182 : decode cX5_ofOne 182 = .ok (.istore 4, 2) := by decide +kernel
theorem dX5_ofOne_184 : decode cX5_ofOne 184 = .ok (.goto 30, 3) := by decide +kernel
theorem dX5_ofOne_187 : decode cX5_ofOne 187 = .ok (.iload_n 3, 1) := by decide +kernel
theorem dX5_ofOne_188 : decode cX5_ofOne 188 = .ok (.iconst 1, 1) := by decide +kernel
theorem dX5_ofOne_189 : decode cX5_ofOne 189 = .ok (.isub, 1) := by decide +kernel
theorem dX5_ofOne_190 : decode cX5_ofOne 190 = .ok (.sipush 255, 3) := by decide +kernel
theorem dX5_ofOne_193 : decode cX5_ofOne 193 = .ok (.iand, 1) := by decide +kernel
theorem dX5_ofOne_194 : decode cX5_ofOne 194 = .ok (.istore 4, 2) := by decide +kernel
theorem dX5_ofOne_196 : decode cX5_ofOne 196 = .ok (.aload_n 0, 1) := by decide +kernel
theorem dX5_ofOne_197 : decode cX5_ofOne 197 = .ok (.iload 4, 2) := by decide +kernel
theorem dX5_ofOne_199 : decode cX5_ofOne 199 = .ok (.iload 4, 2) := by decide +kernel
theorem dX5_ofOne_201 : decode cX5_ofOne 201 = .ok (.bipush 127, 2) := by decide +kernel
theorem dX5_ofOne_203 : decode cX5_ofOne 203 = .ok (.if_icmp .ne 7, 3) := by decide +kernel
theorem dX5_ofOne_206 : decode cX5_ofOne 206 = .ok (.iconst 1, 1) := by decide +kernel
theorem dX5_ofOne_207 : decode cX5_ofOne 207 = .ok (.goto 4, 3) := by decide +kernel
theorem dX5_ofOne_210 : decode cX5_ofOne 210 = .ok (.iconst 0, 1) := by decide +kernel
theorem dX5_ofOne_211 : decode cX5_ofOne 211 = .ok (.invokevirtual 78, 3) := by decide +kernel
theorem dX5_ofOne_214 : decode cX5_ofOne 214 = .ok (.aload_n 0, 1) := by decide +kernel
theorem dX5_ofOne_215 : decode cX5_ofOne 215 = .ok (.getfield 13, 3) := by decide +kernel
theorem dX5_ofOne_218 : decode cX5_ofOne 218 = .ok (.iload_n 2, 1) := by decide +kernel
theorem dX5_ofOne_219 : decode cX5_ofOne 219 = .ok (.iload 4, 2) := by decide +kernel
theorem dX5_ofOne_221 : decode cX5_ofOne 221 = .ok (.iastore, 1) := by decide +kernel
theorem dX5_ofOne_222 : decode cX5_ofOne 222 = .ok (.return_, 1) := by decide +kernel
set_option maxRecDepth 20000 in
theorem ggX5_ofPair_X5_pair : GoodIn wsX5_ofPair wsX5_pair := goodIn_r _ [7, 8, 17, 18, 19, 20, 21, 22, 23, 24] (by decide +kernel) (by decide +kernel)
set_option maxRecDepth 20000 in
theorem gX5_ofPair_X5_pair : GoodIn wsX5_ofPair (wsV RX5 28 RX5 yX5_pair wsX5_pair) := goodIn_app (goodIn_of _ (by decide +kernel)) ggX5_ofPair_X5_pair
set_option maxRecDepth 20000 in
theorem ggX5_ofPair_X5_setPair : GoodIn wsX5_ofPair wsX5_setPair := goodIn_r _ [12, 8, 17, 18, 19, 20, 21, 22, 23, 24] (by decide +kernel) (by decide +kernel)
set_option maxRecDepth 20000 in
theorem gX5_ofPair_X5_setPair : GoodIn wsX5_ofPair (wsV RX5 106 RX5 yX5_setPair wsX5_setPair) := goodIn_app (goodIn_of _ (by decide +kernel)) ggX5_ofPair_X5_setPair
set_option maxRecDepth 20000 in
theorem ggX5_ofPair_X5_flag : GoodIn wsX5_ofPair wsX5_flag := goodIn_r _ [16, 8, 17, 18, 19, 20, 21, 22, 23, 24] (by decide +kernel) (by decide +kernel)
set_option maxRecDepth 20000 in
theorem gX5_ofPair_X5_flag : GoodIn wsX5_ofPair (wsV RX5 74 RX5 yX5_flag wsX5_flag) := goodIn_app (goodIn_of _ (by decide +kernel)) ggX5_ofPair_X5_flag
theorem dX5_ofPair_0 : decode cX5_ofPair 0 = .ok (.bipush 24, 2) := by decide +kernel
theorem dX5_ofPair_2 : decode cX5_ofPair 2 = .ok (.iconst 2, 1) := by decide +kernel
theorem dX5_ofPair_3 : decode cX5_ofPair 3 = .ok (.iload_n 1, 1) := by decide +kernel
theorem dX5_ofPair_4 : decode cX5_ofPair 4 = .ok (.iconst 4, 1) := by decide +kernel
theorem dX5_ofPair_5 : decode cX5_ofPair 5 = .ok (.ishr, 1) := by decide +kernel
theorem dX5_ofPair_6 : decode cX5_ofPair 6 = .ok (.iconst 3, 1) := by decide +kernel
theorem dX5_ofPair_7 : decode cX5_ofPair 7 = .ok (.iand, 1) := by decide +kernel
theorem dX5_ofPair_8 : decode cX5_ofPair 8 = .ok (.imul, 1) := by decide +kernel
theorem dX5_ofPair_9 : decode cX5_ofPair 9 = .ok (.iadd, 1) := by decide +kernel
theorem dX5_ofPair_10 : decode cX5_ofPair 10 = .ok (.istore_n 2, 1) := by decide +kernel
theorem dX5_ofPair_11 : decode cX5_ofPair 11 = .ok (.iload_n 1, 1) := by decide +kernel
theorem dX5_ofPair_12 : decode cX5_ofPair 12 = .ok (.iconst 2, 1) := by decide +kernel
theorem dX5_ofPair_13 : decode cX5_ofPair 13 = .ok (.ishr, 1) := by decide +kernel
theorem dX5_ofPair_14 : decode cX5_ofPair 14 = .ok (.bipush 48, 2) := by decide +kernel
theorem dX5_ofPair_16 : decode cX5_ofPair 16 = .ok (.iand, 1) := by decide +kernel
theorem dX5_ofPair_17 : decode cX5_ofPair 17 = .ok (.iload_n 1, 1) := by decide +kernel
theorem dX5_ofPair_18 : decode cX5_ofPair 18 = .ok (.bipush 15, 2) := by decide +kernel
theorem dX5_ofPair_20 : decode cX5_ofPair 20 = .ok (.iand, 1) := by decide +kernel
theorem dX5_ofPair_21 : decode cX5_ofPair 21 = .ok (.ior, 1) := by decide +kernel
theorem dX5_ofPair_22 : decode cX5_ofPair 22 = .ok (.istore_n 3, 1) := by decide +kernel
theorem dX5_ofPair_23 : decode cX5_ofPair 23 = .ok (.aload_n 0, 1) := by decide +kernel
theorem dX5_ofPair_24 : decode cX5_ofPair 24 = .ok (.iload_n 2, 1) := by decide +kernel
theorem dX5_ofPair_25 : decode cX5_ofPair 25 = .ok (.invokevirtual 28, 3) := by decide +kernel
theorem dX5_ofPair_28 : decode cX5_ofPair 28 = .ok (.istore 4, 2) := by decide +kernel
theorem dX5_ofPair_30 : decode cX5_ofPair 30 = .ok (.iload_n 1, 1) := by decide +kernel
theorem dX5_ofPair_31 : decode cX5_ofPair 31 = .ok (.sipush 256, 3) := by decide +kernel
theorem dX5_ofPair_34 : decode cX5_ofPair 34 = .ok (.iand, 1) := by decide +kernel
theorem dX5_ofPair_35 : decode cX5_ofPair 35 = .ok (.ifCond .eq 7, 3) := by decide +kernel
theorem dX5_ofPair_38 : decode cX5_ofPair 38 = .ok (.iconst 1, 1) := by decide +kernel
theorem dX5_ofPair_39 : decode cX5_ofPair 39 = .ok (.goto 4, 3) := by decide +kernel
theorem dX5_ofPair_42 : decode cX5_ofPair 42 = .ok (.iconst 0, 1) := by decide +kernel
theorem dX5_ofPair_43 : decode cX5_ofPair 43 = .ok (.istore 5, 2) := by decide +kernel
theorem dX5_ofPair_45 : decode cX5_ofPair 45 = .ok (.iload 5, 2) := by decide +kernel
theorem dX5_ofPair_47 : decode cX5_ofPair 47 = .ok (.ifCond .eq 10, 3) := by decide +kernel
theorem dX5_ofPair_50 : decode cX5_ofPair 50 = .ok (.iload 4, 2) := by decide +kernel
theorem dX5_ofPair_52 : decode cX5_ofPair 52 = .ok (.iload_n 3, 1) := by decide +kernel
theorem dX5_ofPair_53 : decode cX5_ofPair 53 = .ok (.isub, 1) := by decide +kernel
theorem dX5_ofPair_54 : decode cX5_ofPair 54 = .ok (.goto 7, 3) := by decide +kernel
theorem dX5_ofPair_57 : decode cX5_ofPair 57 = .ok (.iload 4, 2) := by decide +kernel
theorem dX5_ofPair_59 : decode cX5_ofPair 59 = .ok (.iload_n 3, 1) := by decide +kernel
theorem dX5_ofPair_60 : decode cX5_ofPair 60 = .ok (.iadd, 1) := by decide +kernel
theorem dX5_ofPair_61 : decode cX5_ofPair 61 = .ok (.ldc 27, 2) := by decide +kernel
theorem dX5_ofPair_63 : decode cX5_ofPair 63 = .ok (.iand, 1) := by decide +kernel
theorem dX5_ofPair_64 : decode cX5_ofPair 64 = .ok (.istore 6, 2) := by decide +kernel
theorem dX5_ofPair_66 : decode cX5_ofPair 66 = .ok (.iload 4, 2) := by decide +kernel
theorem dX5_ofPair_68 : decode cX5_ofPair 68 = .ok (.ldc 120, 2) := by decide +kernel
theorem dX5_ofPair_70 : decode cX5_ofPair 70 = .ok (.if_icmp .ge 15, 3) := by decide +kernel
theorem dX5_ofPair_73 : decode cX5_ofPair 73 = .ok (.iload 6, 2) := by decide +kernel
theorem dX5_ofPair_75 : decode cX5_ofPair 75 = .ok (.sipush 32767, 3) := by decide +kernel
theorem dX5_ofPair_78 : decode cX5_ofPair 78 = .ok (.if_icmp .le 7, 3) := by decide +kernel
theorem dX5_ofPair_81 : decode cX5_ofPair 81 = .ok (.iconst 1, 1) := by decide +kernel
theorem dX5_ofPair_82 : decode cX5_ofPair 82 = .ok (.goto 4, 3) := by decide +kernel
theorem dX5_ofPair_85 : decode cX5_ofPair 85 = .ok (.iconst 0, 1) := by decide +kernel
theorem dX5_ofPair_86 : decode cX5_ofPair 86 = .ok (.istore 7, 2) := by decide +kernel
theorem dX5_ofPair_88 : decode cX5_ofPair 88 = .ok (.iload 4, 2) := by decide +kernel
theorem dX5_ofPair_90 : decode cX5_ofPair 90 = .ok (.sipush 32767, 3) := by decide +kernel
theorem dX5_ofPair_93 : decode cX5_ofPair 93 = .ok (.if_icmp .le 14, 3) := by decide +kernel
theorem dX5_ofPair_96 : decode cX5_ofPair 96 = .ok (.iload 6, 2) := by decide +kernel
theorem dX5_ofPair_98 : decode cX5_ofPair 98 = .ok (.ldc 120, 2) := by decide +kernel
theorem dX5_ofPair_100 : decode cX5_ofPair 100 = .ok (.if_icmp .ge 7, 3) := by decide +kernel
theorem dX5_ofPair_103 : decode cX5_ofPair 103 = .ok (.iconst 1, 1) := by decide +kernel
theorem dX5_ofPair_104 : decode cX5_ofPair 104 = .ok (.goto 4, 3) := by decide +kernel
theorem dX5_ofPair_107 : decode cX5_ofPair 107 = .ok (.iconst 0, 1) := by decide +kernel
theorem dX5_ofPair_108 : decode cX5_ofPair 108 = .ok (.istore 8, 2) := by decide +kernel
theorem dX5_ofPair_110 : decode cX5_ofPair 110 = .ok (.aload_n 0, 1) := by decide +kernel
theorem dX5_ofPair_111 : decode cX5_ofPair 111 = .ok (.iload_n 2, 1) := by decide +kernel
theorem dX5_ofPair_112 : decode cX5_ofPair 112 = .ok (.iload 6, 2) := by decide +kernel
theorem dX5_ofPair_114 : decode cX5_ofPair 114 = .ok (.invokevirtual 106, 3) := by decide +kernel
theorem dX5_ofPair_117 : decode cX5_ofPair 117 = .ok (.aload_n 0, 1) := by decide +kernel
theorem dX5_ofPair_118 : decode cX5_ofPair 118 = .ok (.iconst 2, 1) := by decide +kernel
theorem dX5_ofPair_119 : decode cX5_ofPair 119 = .ok (.iload 6, 2) := by decide +kernel
theorem dX5_ofPair_121 : decode cX5_ofPair 121 = .ok (.ifCond .ne 7, 3) := by decide +kernel
theorem dX5_ofPair_124 : decode cX5_ofPair 124 = .ok (.iconst 1, 1) := by decide +kernel
theorem dX5_ofPair_125 : decode cX5_ofPair 125 = .ok (.goto 4, 3) := by decide +kernel
theorem dX5_ofPair_128 : decode cX5_ofPair 128 = .ok (.iconst 0, 1) := by decide +kernel
theorem dX5_ofPair_129 : decode cX5_ofPair 129 = .ok (.invokevirtual 74, 3) := by decide +kernel
theorem dX5_ofPair_132 : decode cX5_ofPair 132 = .ok (.aload_n 0, 1) := by decide +kernel
theorem dX5_ofPair_133 : decode cX5_ofPair 133 = .ok (.iconst 4, 1) := by decide +kernel
theorem dX5_ofPair_134 : decode cX5_ofPair 134 = .ok (.iload 6, 2) := by decide +kernel
theorem dX5_ofPair_136 : decode cX5_ofPair 136 = .ok (.sipush 32767, 3) := by decide +kernel
theorem dX5_ofPair_139 : decode cX5_ofPair 139 = .ok (.if_icmp .le 7, 3) := by decide +kernel
theorem dX5_ofPair_142 : decode cX5_ofPair 142 = .ok (.iconst 1, 1) := by decide +kernel
theorem dX5_ofPair_143 : decode cX5_ofPair 143 = .ok (.goto 4, 3) := by decide +kernel
theorem dX5_ofPair_146 : decode cX5_ofPair 146 = .ok (.iconst 0, 1) := by decide +kernel
theorem dX5_ofPair_147 : decode cX5_ofPair 147 = .ok (.invokevirtual 74, 3) := by decide +kernel
theorem dX5_ofPair_150 : decode cX5_ofPair 150 = .ok (.aload_n 0, 1) := by decide +kernel
theorem dX5_ofPair_151 : decode cX5_ofPair 151 = .ok (.bipush 8, 2) := by decide +kernel
theorem dX5_ofPair_153 : decode cX5_ofPair 153 = .ok (.iload 5, 2) := by decide +kernel
theorem dX5_ofPair_155 : decode cX5_ofPair 155 = .ok (.ifCond .eq 8, 3) := by decide +kernel
theorem dX5_ofPair_158 : decode cX5_ofPair 158 = .ok (.iload 8, 2) := by decide +kernel
theorem dX5_ofPair_160 : decode cX5_ofPair 160 = .ok (.goto 5, 3) := by decide +kernel
theorem dX5_ofPair_163 : decode cX5_ofPair 163 = .ok (.iload 7, 2) := by decide +kernel
theorem dX5_ofPair_165 : decode cX5_ofPair 165 = .ok (.invokevirtual 74, 3) := by decide +kernel
theorem dX5_ofPair_168 : decode cX5_ofPair 168 = .ok (.aload_n 0, 1) := by decide +kernel
theorem dX5_ofPair_169 : decode cX5_ofPair 169 = .ok (.iconst 1, 1) := by decide +kernel
theorem dX5_ofPair_170 : decode cX5_ofPair 170 = .ok (.iload 5, 2) := by decide +kernel
theorem dX5_ofPair_172 : decode cX5_ofPair 172 = .ok (.ifCond .eq 8, 3) := by decide +kernel
theorem dX5_ofPair_175 : decode cX5_ofPair 175 = .ok (.iload 7, 2) := by decide +kernel
theorem dX5_ofPair_177 : decode cX5_ofPair 177 = .ok (.goto 5, 3) := by decide +kernel
theorem dX5_ofPair_180 : decode cX5_ofPair 180 = .ok (.iload 8, 2) := by decide +kernel
theorem dX5_ofPair_182 : decode cX5_ofPair 182 = .ok (.invokevirtual 74, 3) := by decide +kernel
theorem dX5_ofPair_185 : decode cX5_ofPair 185 = .ok (.aload_n 0, 1) := by decide +kernel
theorem dX5_ofPair_186 : decode cX5_ofPair 186 = .ok (.bipush 16, 2) := by decide +kernel
theorem dX5_ofPair_188 : decode cX5_ofPair 188 = .ok (.iload 6, 2) := by decide +kernel
theorem dX5_ofPair_190 : decode cX5_ofPair 190 = .ok (.sipush 32767, 3) := by decide +kernel
theorem dX5_ofPair_193 : decode cX5_ofPair 193 = .ok (.if_icmp .le 7, 3) := by decide +kernel
theorem dX5_ofPair_196 : decode cX5_ofPair 196 = .ok (.iconst 1, 1) := by decide +kernel
theorem dX5_ofPair_197 : decode cX5_ofPair 197 = .ok (.goto 4, 3) := by decide +kernel
theorem dX5_ofPair_200 : decode cX5_ofPair 200 = .ok (.iconst 0, 1) := by decide +kernel
theorem dX5_ofPair_201 : decode cX5_ofPair 201 = .ok (.iload 5, 2) := by decide +kernel
theorem dX5_ofPair_203 : decode cX5_ofPair 203 = .ok (.ifCond .eq 8, 3) := by decide +kernel
theorem dX5_ofPair_206 : decode cX5_ofPair 206 = .ok (.iload 8, 2) := by decide +kernel
theorem dX5_ofPair_208 : decode cX5_ofPair 208 = .ok (.goto 5, 3) := by decide +kernel
theorem dX5_ofPair_211 : decode cX5_ofPair 211 = .ok (.iload 7, 2) := by decide +kernel
theorem dX5_ofPair_213 : decode cX5_ofPair 213 = .ok (.if_icmp .eq 7, 3) := by decide +kernel
theorem dX5_ofPair_216 : decode cX5_ofPair 216 = .ok (.iconst 1, 1) := by decide +kernel
theorem dX5_ofPair_217 : decode cX5_ofPair 217 = .ok (.goto 4, 3) := by decide +kernel
theorem dX5_ofPair_220 : decode cX5_ofPair 220 = .ok (.iconst 0, 1) := by decide +kernel
theorem dX5_ofPair_221 : decode cX5_ofPair 221 = .ok (.invokevirtual 74, 3) := by decide +kernel
theorem dX5_ofPair_224 : decode cX5_ofPair 224 = .ok (.return_, 1) := by decide +kernel
theorem dX5_isFar_0 : decode cX5_isFar 0 = .ok (.iload_n 0, 1) := by decide +kernel
theorem dX5_isFar_1 : decode cX5_isFar 1 = .ok (.sipush 1023, 3) := by decide +kernel
theorem dX5_isFar_4 : decode cX5_isFar 4 = .ok (.if_icmp .le 7, 3) := by decide +kernel
theorem dX5_isFar_7 : decode cX5_isFar 7 = .ok (.iconst 1, 1) := by decide +kernel
theorem dX5_isFar_8 : decode cX5_isFar 8 = .ok (.goto 4, 3) := by decide +kernel
theorem dX5_isFar_11 : decode cX5_isFar 11 = .ok (.iconst 0, 1) := by decide +kernel
theorem dX5_isFar_12 : decode cX5_isFar 12 = .ok (.ireturn, 1) := by decide +kernel
set_option maxRecDepth 20000 in
theorem ggX5_pushes_X5_pair : GoodIn wsX5_pushes wsX5_pair := goodIn_r _ [7, 1, 12, 13, 14, 15, 16, 17, 18, 19] (by decide +kernel) (by decide +kernel)
set_option maxRecDepth 20000 in
theorem gX5_pushes_X5_pair : GoodIn wsX5_pushes (wsV RX5 28 RX5 yX5_pair wsX5_pair) := goodIn_app (goodIn_of _ (by decide +kernel)) ggX5_pushes_X5_pair
set_option maxRecDepth 20000 in
theorem ggX5_pushes_X5_setPair : GoodIn wsX5_pushes wsX5_setPair := goodIn_r _ [11, 1, 12, 13, 14, 15, 16, 17, 18, 19] (by decide +kernel) (by decide +kernel)
set_option maxRecDepth 20000 in
theorem gX5_pushes_X5_setPair : GoodIn wsX5_pushes (wsV RX5 106 RX5 yX5_setPair wsX5_setPair) := goodIn_app (goodIn_of _ (by decide +kernel)) ggX5_pushes_X5_setPair
theorem dX5_pushes_0 : decode cX5_pushes 0 = .ok (.aload_n 0, 1) := by decide +kernel
theorem dX5_pushes_1 : decode cX5_pushes 1 = .ok (.bipush 93, 2) := by decide +kernel
theorem dX5_pushes_3 : decode cX5_pushes 3 = .ok (.invokevirtual 28, 3) := by decide +kernel
theorem dX5_pushes_6 : decode cX5_pushes 6 = .ok (.istore_n 2, 1) := by decide +kernel
theorem dX5_pushes_7 : decode cX5_pushes 7 = .ok (.aload_n 0, 1) := by decide +kernel
theorem dX5_pushes_8 : decode cX5_pushes 8 = .ok (.getfield 13, 3) := by decide +kernel
theorem dX5_pushes_11 : decode cX5_pushes 11 = .ok (.iload_n 2, 1) := by decide +kernel
theorem dX5_pushes_12 : decode cX5_pushes 12 = .ok (.iload_n 1, 1) := by decide +kernel
theorem dX5_pushes_13 : decode cX5_pushes 13 = .ok (.iastore, 1) := by decide +kernel
theorem dX5_pushes_14 : decode cX5_pushes 14 = .ok (.aload_n 0, 1) := by decide +kernel
theorem dX5_pushes_15 : decode cX5_pushes 15 = .ok (.bipush 93, 2) := by decide +kernel
theorem dX5_pushes_17 : decode cX5_pushes 17 = .ok (.iload_n 2, 1) := by decide +kernel
theorem dX5_pushes_18 : decode cX5_pushes 18 = .ok (.iconst 1, 1) := by decide +kernel
theorem dX5_pushes_19 : decode cX5_pushes 19 = .ok (.isub, 1) := by decide +kernel
theorem dX5_pushes_20 : decode cX5_pushes 20 = .ok (.ldc 27, 2) := by decide +kernel
theorem dX5_pushes_22 : decode cX5_pushes 22 = .ok (.iand, 1) := by decide +kernel
theorem dX5_pushes_23 : decode cX5_pushes 23 = .ok (.invokevirtual 106, 3) := by decide +kernel
theorem dX5_pushes_26 : decode cX5_pushes 26 = .ok (.return_, 1) := by decide +kernel
set_option maxRecDepth 20000 in
theorem ggX5_pops_X5_pair : GoodIn wsX5_pops wsX5_pair := goodIn_r _ [7, 2, 12, 13, 14, 15, 16, 17, 18, 19] (by decide +kernel) (by decide +kernel)
set_option maxRecDepth 20000 in
theorem gX5_pops_X5_pair : GoodIn wsX5_pops (wsV RX5 28 RX5 yX5_pair wsX5_pair) := goodIn_app (goodIn_of _ (by decide +kernel)) ggX5_pops_X5_pair
set_option maxRecDepth 20000 in
theorem ggX5_pops_X5_setPair : GoodIn wsX5_pops wsX5_setPair := goodIn_r _ [11, 2, 12, 13, 14, 15, 16, 17, 18, 19] (by decide +kernel) (by decide +kernel)
set_option maxRecDepth 20000 in
theorem gX5_pops_X5_setPair : GoodIn wsX5_pops (wsV RX5 106 RX5 yX5_setPair wsX5_setPair) := goodIn_app (goodIn_of _ (by decide +kernel)) ggX5_pops_X5_setPair
theorem dX5_pops_0 : decode cX5_pops 0 = .ok (.aload_n 0, 1) := by decide +kernel
theorem dX5_pops_1 : decode cX5_pops 1 = .ok (.bipush 93, 2) := by decide +kernel
theorem dX5_pops_3 : decode cX5_pops 3 = .ok (.invokevirtual 28, 3) := by decide +kernel
theorem dX5_pops_6 : decode cX5_pops 6 = .ok (.iconst 1, 1) := by decide +kernel
theorem dX5_pops_7 : decode cX5_pops 7 = .ok (.iadd, 1) := by decide +kernel
theorem dX5_pops_8 : decode cX5_pops 8 = .ok (.ldc 27, 2) := by decide +kernel
theorem dX5_pops_10 : decode cX5_pops 10 = .ok (.iand, 1) := by decide +kernel
theorem dX5_pops_11 : decode cX5_pops 11 = .ok (.istore_n 1, 1) := by decide +kernel
theorem dX5_pops_12 : decode cX5_pops 12 = .ok (.aload_n 0, 1) := by decide +kernel
theorem dX5_pops_13 : decode cX5_pops 13 = .ok (.bipush 93, 2) := by decide +kernel
theorem dX5_pops_15 : decode cX5_pops 15 = .ok (.iload_n 1, 1) := by decide +kernel
theorem dX5_pops_16 : decode cX5_pops 16 = .ok (.invokevirtual 106, 3) := by decide +kernel
theorem dX5_pops_19 : decode cX5_pops 19 = .ok (.aload_n 0, 1) := by decide +kernel
theorem dX5_pops_20 : decode cX5_pops 20 = .ok (.getfield 13, 3) := by decide +kernel
theorem dX5_pops_23 : decode cX5_pops 23 = .ok (.iload_n 1, 1) := by decide +kernel
theorem dX5_pops_24 : decode cX5_pops 24 = .ok (.iaload, 1) := by decide +kernel
theorem dX5_pops_25 : decode cX5_pops 25 = .ok (.ireturn, 1) := by decide +kernel
set_option maxRecDepth 20000 in
theorem ggX5_canCall_X5_pair : GoodIn wsX5_canCall wsX5_pair := goodIn_r _ [6, 7, 11, 12, 13, 14, 15, 16, 17, 18] (by decide +kernel) (by decide +kernel)
set_option maxRecDepth 20000 in
theorem gX5_canCall_X5_pair : GoodIn wsX5_canCall (wsV RX5 28 RX5 yX5_pair wsX5_pair) := goodIn_app (goodIn_of _ (by decide +kernel)) ggX5_canCall_X5_pair
set_option maxRecDepth 20000 in
theorem ggX5_canCall_X5_isFar : GoodIn wsX5_canCall wsX5_isFar := goodIn_r _ [10] (by decide +kernel) (by decide +kernel)
set_option maxRecDepth 20000 in
theorem gX5_canCall_X5_isFar : GoodIn wsX5_canCall (va_wsS RX5 121 yX5_isFar wsX5_isFar) := goodIn_app (goodIn_of _ (by decide +kernel)) ggX5_canCall_X5_isFar
theorem dX5_canCall_0 : decode cX5_canCall 0 = .ok (.aload_n 0, 1) := by decide +kernel
theorem dX5_canCall_1 : decode cX5_canCall 1 = .ok (.bipush 93, 2) := by decide +kernel
theorem dX5_canCall_3 : decode cX5_canCall 3 = .ok (.invokevirtual 28, 3) := by decide +kernel
theorem dX5_canCall_6 : decode cX5_canCall 6 = .ok (.istore_n 1, 1) := by decide +kernel
theorem dX5_canCall_7 : decode cX5_canCall 7 = .ok (.iload_n 1, 1) := by decide +kernel
theorem dX5_canCall_8 : decode cX5_canCall 8 = .ok (.invokestatic 121, 3) := by decide +kernel
theorem dX5_canCall_11 : decode cX5_canCall 11 = .ok (.ifCond .ne 19, 3) := by decide +kernel
theorem dX5_canCall_14 : decode cX5_canCall 14 = .ok (.iload_n 1, 1) := by decide +kernel
theorem dX5_canCall_15 : decode cX5_canCall 15 = .ok (.iconst 1, 1) := by decide +kernel
theorem dX5_canCall_16 : decode cX5_canCall 16 = .ok (.isub, 1) := by decide +kernel
theorem dX5_canCall_17 : decode cX5_canCall 17 = .ok (.ldc 27, 2) := by decide +kernel
theorem dX5_canCall_19 : decode cX5_canCall 19 = .ok (.iand, 1) := by decide +kernel
theorem dX5_canCall_20 : decode cX5_canCall 20 = .ok (.invokestatic 121, 3) := by decide +kernel
theorem dX5_canCall_23 : decode cX5_canCall 23 = .ok (.ifCond .ne 7, 3) := by decide +kernel
theorem dX5_canCall_26 : decode cX5_canCall 26 = .ok (.iconst 1, 1) := by decide +kernel
theorem dX5_canCall_27 : decode cX5_canCall 27 = .ok (.goto 4, 3) := by decide +kernel
theorem dX5_canCall_30 : decode cX5_canCall 30 = .ok (.iconst 0, 1) := by decide +kernel
theorem dX5_canCall_31 : decode cX5_canCall 31 = .ok (.ireturn, 1) := by decide +kernel
set_option maxRecDepth 20000 in
theorem ggX5_calls_X5_pushes : GoodIn wsX5_calls wsX5_pushes := goodIn_r _ [6, 7, 8, 9, 10, 11, 5, 12, 13, 14, 15, 16, 17, 18, 19, 20, 21, 22, 23, 24] (by decide +kernel) (by decide +kernel)
set_option maxRecDepth 20000 in
theorem gX5_calls_X5_pushes : GoodIn wsX5_calls (wsV RX5 124 RX5 yX5_pushes wsX5_pushes) := goodIn_app (goodIn_of _ (by decide +kernel)) ggX5_calls_X5_pushes
theorem dX5_calls_0 : decode cX5_calls 0 = .ok (.aload_n 0, 1) := by decide +kernel
theorem dX5_calls_1 : decode cX5_calls 1 = .ok (.iload_n 1, 1) := by decide +kernel
theorem dX5_calls_2 : decode cX5_calls 2 = .ok (.sipush 255, 3) := by decide +kernel
theorem dX5_calls_5 : decode cX5_calls 5 = .ok (.iand, 1) := by decide +kernel
theorem dX5_calls_6 : decode cX5_calls 6 = .ok (.invokevirtual 124, 3) := by decide +kernel
theorem dX5_calls_9 : decode cX5_calls 9 = .ok (.aload_n 0, 1) := by decide +kernel
theorem dX5_calls_10 : decode cX5_calls 10 = .ok (.iload_n 1, 1) := by decide +kernel
theorem dX5_calls_11 : decode cX5_calls 11 = .ok (.bipush 8, 2) := by decide +kernel
theorem dX5_calls_13 : decode cX5_calls 13 = .ok (.ishr, 1) := by decide +kernel
theorem dX5_calls_14 : decode cX5_calls 14 = .ok (.invokevirtual 124, 3) := by decide +kernel
theorem dX5_calls_17 : decode cX5_calls 17 = .ok (.aload_n 0, 1) := by decide +kernel
theorem dX5_calls_18 : decode cX5_calls 18 = .ok (.iload_n 2, 1) := by decide +kernel
theorem dX5_calls_19 : decode cX5_calls 19 = .ok (.sipush 1023, 3) := by decide +kernel
theorem dX5_calls_22 : decode cX5_calls 22 = .ok (.iand, 1) := by decide +kernel
theorem dX5_calls_23 : decode cX5_calls 23 = .ok (.putfield 84, 3) := by decide +kernel
theorem dX5_calls_26 : decode cX5_calls 26 = .ok (.return_, 1) := by decide +kernel
theorem dX5_codeByte_0 : decode cX5_codeByte 0 = .ok (.aload_n 0, 1) := by decide +kernel
theorem dX5_codeByte_1 : decode cX5_codeByte 1 = .ok (.getfield 7, 3) := by decide +kernel
theorem dX5_codeByte_4 : decode cX5_codeByte 4 = .ok (.iload_n 1, 1) := by decide +kernel
theorem dX5_codeByte_5 : decode cX5_codeByte 5 = .ok (.iconst 1, 1) := by decide +kernel
theorem dX5_codeByte_6 : decode cX5_codeByte 6 = .ok (.ishr, 1) := by decide +kernel
theorem dX5_codeByte_7 : decode cX5_codeByte 7 = .ok (.sipush 1023, 3) := by decide +kernel
theorem dX5_codeByte_10 : decode cX5_codeByte 10 = .ok (.iand, 1) := by decide +kernel
theorem dX5_codeByte_11 : decode cX5_codeByte 11 = .ok (.iaload, 1) := by decide +kernel
theorem dX5_codeByte_12 : decode cX5_codeByte 12 = .ok (.istore_n 2, 1) := by decide +kernel
theorem dX5_codeByte_13 : decode cX5_codeByte 13 = .ok (.iload_n 1, 1) := by decide +kernel
theorem dX5_codeByte_14 : decode cX5_codeByte 14 = .ok (.iconst 1, 1) := by decide +kernel
theorem dX5_codeByte_15 : decode cX5_codeByte 15 = .ok (.iand, 1) := by decide +kernel
theorem dX5_codeByte_16 : decode cX5_codeByte 16 = .ok (.ifCond .ne 11, 3) := by decide +kernel
theorem dX5_codeByte_19 : decode cX5_codeByte 19 = .ok (.iload_n 2, 1) := by decide +kernel
theorem dX5_codeByte_20 : decode cX5_codeByte 20 = .ok (.sipush 255, 3) := by decide +kernel
theorem dX5_codeByte_23 : decode cX5_codeByte 23 = .ok (.iand, 1) := by decide +kernel
theorem dX5_codeByte_24 : decode cX5_codeByte 24 = .ok (.goto 7, 3) := by decide +kernel
theorem dX5_codeByte_27 : decode cX5_codeByte 27 = .ok (.iload_n 2, 1) := by decide +kernel
theorem dX5_codeByte_28 : decode cX5_codeByte 28 = .ok (.bipush 8, 2) := by decide +kernel
theorem dX5_codeByte_30 : decode cX5_codeByte 30 = .ok (.ishr, 1) := by decide +kernel
theorem dX5_codeByte_31 : decode cX5_codeByte 31 = .ok (.ireturn, 1) := by decide +kernel
set_option maxRecDepth 20000 in
theorem ggX5_ofStack_X5_dOf : GoodIn wsX5_ofStack wsX5_dOf := goodIn_r _ [6] (by decide +kernel) (by decide +kernel)
set_option maxRecDepth 20000 in
theorem gX5_ofStack_X5_dOf : GoodIn wsX5_ofStack (va_wsS RX5 53 yX5_dOf wsX5_dOf) := goodIn_app (goodIn_of _ (by decide +kernel)) ggX5_ofStack_X5_dOf
set_option maxRecDepth 20000 in
theorem ggX5_ofStack_X5_pair : GoodIn wsX5_ofStack wsX5_pair := goodIn_r _ [10, 2, 26, 27, 28, 29, 30, 31, 32, 33] (by decide +kernel) (by decide +kernel)
set_option maxRecDepth 20000 in
theorem gX5_ofStack_X5_pair : GoodIn wsX5_ofStack (wsV RX5 28 RX5 yX5_pair wsX5_pair) := goodIn_app (goodIn_of _ (by decide +kernel)) ggX5_ofStack_X5_pair
set_option maxRecDepth 20000 in
theorem ggX5_ofStack_X5_isFar : GoodIn wsX5_ofStack wsX5_isFar := goodIn_r _ [13] (by decide +kernel) (by decide +kernel)
set_option maxRecDepth 20000 in
theorem gX5_ofStack_X5_isFar : GoodIn wsX5_ofStack (va_wsS RX5 121 yX5_isFar wsX5_isFar) := goodIn_app (goodIn_of _ (by decide +kernel)) ggX5_ofStack_X5_isFar
set_option maxRecDepth 20000 in
theorem ggX5_ofStack_X5_pushes : GoodIn wsX5_ofStack wsX5_pushes := goodIn_r _ [17, 2, 1, 7, 8, 9, 5, 10, 18, 19, 20, 21, 26, 27, 28, 29, 30, 31, 32, 33] (by decide +kernel) (by decide +kernel)
set_option maxRecDepth 20000 in
theorem gX5_ofStack_X5_pushes : GoodIn wsX5_ofStack (wsV RX5 124 RX5 yX5_pushes wsX5_pushes) := goodIn_app (goodIn_of _ (by decide +kernel)) ggX5_ofStack_X5_pushes
set_option maxRecDepth 20000 in
theorem ggX5_ofStack_X5_pops : GoodIn wsX5_ofStack wsX5_pops := goodIn_r _ [25, 1, 2, 7, 8, 9, 5, 10, 18, 19, 20, 21, 26, 27, 28, 29, 30, 31, 32, 33] (by decide +kernel) (by decide +kernel)
set_option maxRecDepth 20000 in
theorem gX5_ofStack_X5_pops : GoodIn wsX5_ofStack (wsV RX5 128 RX5 yX5_pops wsX5_pops) := goodIn_app (goodIn_of _ (by decide +kernel)) ggX5_ofStack_X5_pops
theorem dX5_ofStack_0 : decode cX5_ofStack 0 = .ok (.iload_n 1, 1) := by decide +kernel
theorem dX5_ofStack_1 : decode cX5_ofStack 1 = .ok (.invokestatic 53, 3) := by decide +kernel
theorem dX5_ofStack_4 : decode cX5_ofStack 4 = .ok (.istore_n 2, 1) := by decide +kernel
theorem dX5_ofStack_5 : decode cX5_ofStack 5 = .ok (.iload_n 1, 1) := by decide +kernel
theorem dX5_ofStack_6 : decode cX5_ofStack 6 = .ok (.sipush 512, 3) := by decide +kernel
theorem dX5_ofStack_9 : decode cX5_ofStack 9 = .ok (.iand, 1) := by decide +kernel
theorem dX5_ofStack_10 : decode cX5_ofStack 10 = .ok (.ifCond .eq 7, 3) := by decide +kernel
theorem dX5_ofStack_13 : decode cX5_ofStack 13 = .ok (.iconst 1, 1) := by decide +kernel
theorem dX5_ofStack_14 : decode cX5_ofStack 14 = .ok (.goto 4, 3) := by decide +kernel
theorem dX5_ofStack_17 : decode cX5_ofStack 17 = .ok (.iconst 0, 1) := by decide +kernel
theorem dX5_ofStack_18 : decode cX5_ofStack 18 = .ok (.istore_n 3, 1) := by decide +kernel
theorem dX5_ofStack_19 : decode cX5_ofStack 19 = .ok (.iload_n 3, 1) := by decide +kernel
theorem dX5_ofStack_20 : decode cX5_ofStack 20 = .ok (.ifCond .eq 12, 3) := by decide +kernel
theorem dX5_ofStack_23 : decode cX5_ofStack 23 = .ok (.aload_n 0, 1) := by decide +kernel
theorem dX5_ofStack_24 : decode cX5_ofStack 24 = .ok (.bipush 93, 2) := by decide +kernel
theorem dX5_ofStack_26 : decode cX5_ofStack 26 = .ok (.invokevirtual 28, 3) := by decide +kernel
theorem dX5_ofStack_29 : decode cX5_ofStack 29 = .ok (.goto 14, 3) := by decide +kernel
theorem dX5_ofStack_32 : decode cX5_ofStack 32 = .ok (.aload_n 0, 1) := by decide +kernel
theorem dX5_ofStack_33 : decode cX5_ofStack 33 = .ok (.bipush 93, 2) := by decide +kernel
theorem dX5_ofStack_35 : decode cX5_ofStack 35 = .ok (.invokevirtual 28, 3) := by decide +kernel
theorem dX5_ofStack_38 : decode cX5_ofStack 38 = .ok (.iconst 1, 1) := by decide +kernel
theorem dX5_ofStack_39 : decode cX5_ofStack 39 = .ok (.iadd, 1) := by decide +kernel
theorem dX5_ofStack_40 : decode cX5_ofStack 40 = .ok (.ldc 27, 2) := by decide +kernel
theorem dX5_ofStack_42 : decode cX5_ofStack 42 = .ok (.iand, 1) := by decide +kernel
theorem dX5_ofStack_43 : decode cX5_ofStack 43 = .ok (.istore 4, 2) := by decide +kernel
theorem dX5_ofStack_45 : decode cX5_ofStack 45 = .ok (.iload 4, 2) := by decide +kernel
theorem dX5_ofStack_47 : decode cX5_ofStack 47 = .ok (.invokestatic 121, 3) := by decide +kernel
theorem dX5_ofStack_50 : decode cX5_ofStack 50 = .ok (.ifCond .eq 5, 3) := by decide +kernel
theorem dX5_ofStack_53 : decode cX5_ofStack 53 = .ok (.iconst 3, 1) := by decide +kernel
theorem dX5_ofStack_54 : decode cX5_ofStack 54 = .ok (.ireturn, 1) := by decide +kernel
theorem dX5_ofStack_55 : decode cX5_ofStack 55 = .ok (.iload_n 3, 1) := by decide +kernel
theorem dX5_ofStack_56 : decode cX5_ofStack 56 = .ok (.ifCond .eq 16, 3) := by decide +kernel
theorem dX5_ofStack_59 : decode cX5_ofStack 59 = .ok (.aload_n 0, 1) := by decide +kernel
theorem dX5_ofStack_60 : decode cX5_ofStack 60 = .ok (.aload_n 0, 1) := by decide +kernel
theorem dX5_ofStack_61 : decode cX5_ofStack 61 = .ok (.getfield 13, 3) := by decide +kernel
theorem dX5_ofStack_64 : decode cX5_ofStack 64 = .ok (.iload_n 2, 1) := by decide +kernel
theorem dX5_ofStack_65 : decode cX5_ofStack 65 = .ok (.iaload, 1) := by decide +kernel
theorem dX5_ofStack_66 : decode cX5_ofStack 66 = .ok (.invokevirtual 124, 3) := by decide +kernel
theorem dX5_ofStack_69 : decode cX5_ofStack 69 = .ok (.goto 17, 3) := by decide +kernel
theorem dX5_ofStack_72 : decode cX5_ofStack 72 = .ok (.aload_n 0, 1) := by decide +kernel
theorem dX5_ofStack_73 : decode cX5_ofStack 73 = .ok (.invokevirtual 128, 3) := by decide +kernel
theorem dX5_ofStack_76 : decode cX5_ofStack 76 = .ok (.istore 5, 2) := by decide +kernel
theorem dX5_ofStack_78 : decode cX5_ofStack 78 = .ok (.aload_n 0, 1) := by decide +kernel
theorem dX5_ofStack_79 : decode cX5_ofStack 79 = .ok (.getfield 13, 3) := by decide +kernel
theorem dX5_ofStack_82 : decode cX5_ofStack 82 = .ok (.iload_n 2, 1) := by decide +kernel
theorem dX5_ofStack_83 : decode cX5_ofStack 83 = .ok (.iload 5, 2) := by decide +kernel
theorem dX5_ofStack_85 : decode cX5_ofStack 85 = .ok (.iastore, 1) := by decide +kernel
theorem dX5_ofStack_86 : decode cX5_ofStack 86 = .ok (.iconst 0, 1) := by decide +kernel
theorem dX5_ofStack_87 : decode cX5_ofStack 87 = .ok (.ireturn, 1) := by decide +kernel
set_option maxRecDepth 20000 in
theorem ggX5_moves_X5_isFar : GoodIn wsX5_moves wsX5_isFar := goodIn_r _ [5] (by decide +kernel) (by decide +kernel)
set_option maxRecDepth 20000 in
theorem gX5_moves_X5_isFar : GoodIn wsX5_moves (va_wsS RX5 121 yX5_isFar wsX5_isFar) := goodIn_app (goodIn_of _ (by decide +kernel)) ggX5_moves_X5_isFar
theorem dX5_moves_0 : decode cX5_moves 0 = .ok (.iload_n 1, 1) := by decide +kernel
theorem dX5_moves_1 : decode cX5_moves 1 = .ok (.invokestatic 121, 3) := by decide +kernel
theorem dX5_moves_4 : decode cX5_moves 4 = .ok (.ifCond .eq 5, 3) := by decide +kernel
theorem dX5_moves_7 : decode cX5_moves 7 = .ok (.iconst 3, 1) := by decide +kernel
theorem dX5_moves_8 : decode cX5_moves 8 = .ok (.ireturn, 1) := by decide +kernel
theorem dX5_moves_9 : decode cX5_moves 9 = .ok (.iload_n 3, 1) := by decide +kernel
theorem dX5_moves_10 : decode cX5_moves 10 = .ok (.ifCond .eq 18, 3) := by decide +kernel
theorem dX5_moves_13 : decode cX5_moves 13 = .ok (.aload_n 0, 1) := by decide +kernel
theorem dX5_moves_14 : decode cX5_moves 14 = .ok (.getfield 13, 3) := by decide +kernel
theorem dX5_moves_17 : decode cX5_moves 17 = .ok (.iload_n 1, 1) := by decide +kernel
theorem dX5_moves_18 : decode cX5_moves 18 = .ok (.aload_n 0, 1) := by decide +kernel
theorem dX5_moves_19 : decode cX5_moves 19 = .ok (.getfield 13, 3) := by decide +kernel
theorem dX5_moves_22 : decode cX5_moves 22 = .ok (.iload_n 2, 1) := by decide +kernel
theorem dX5_moves_23 : decode cX5_moves 23 = .ok (.iaload, 1) := by decide +kernel
theorem dX5_moves_24 : decode cX5_moves 24 = .ok (.iastore, 1) := by decide +kernel
theorem dX5_moves_25 : decode cX5_moves 25 = .ok (.goto 15, 3) := by decide +kernel
theorem dX5_moves_28 : decode cX5_moves 28 = .ok (.aload_n 0, 1) := by decide +kernel
theorem dX5_moves_29 : decode cX5_moves 29 = .ok (.getfield 13, 3) := by decide +kernel
theorem dX5_moves_32 : decode cX5_moves 32 = .ok (.iload_n 2, 1) := by decide +kernel
theorem dX5_moves_33 : decode cX5_moves 33 = .ok (.aload_n 0, 1) := by decide +kernel
theorem dX5_moves_34 : decode cX5_moves 34 = .ok (.getfield 13, 3) := by decide +kernel
theorem dX5_moves_37 : decode cX5_moves 37 = .ok (.iload_n 1, 1) := by decide +kernel
theorem dX5_moves_38 : decode cX5_moves 38 = .ok (.iaload, 1) := by decide +kernel
theorem dX5_moves_39 : decode cX5_moves 39 = .ok (.iastore, 1) := by decide +kernel
theorem dX5_moves_40 : decode cX5_moves 40 = .ok (.iconst 0, 1) := by decide +kernel
theorem dX5_moves_41 : decode cX5_moves 41 = .ok (.ireturn, 1) := by decide +kernel
set_option maxRecDepth 20000 in
theorem ggX5_ofMemory_X5_dOf : GoodIn wsX5_ofMemory wsX5_dOf := goodIn_r _ [8] (by decide +kernel) (by decide +kernel)
set_option maxRecDepth 20000 in
theorem gX5_ofMemory_X5_dOf : GoodIn wsX5_ofMemory (va_wsS RX5 53 yX5_dOf wsX5_dOf) := goodIn_app (goodIn_of _ (by decide +kernel)) ggX5_ofMemory_X5_dOf
set_option maxRecDepth 20000 in
theorem ggX5_ofMemory_X5_ofStack : GoodIn wsX5_ofMemory wsX5_ofStack := goodIn_r _ [12, 4, 3, 5, 6, 7, 8, 13, 14, 15, 16, 17, 18, 19, 20, 21, 22, 23, 24, 25, 26, 27, 28, 29, 30, 31, 43, 44, 45, 46, 47, 48, 49, 50] (by decide +kernel) (by decide +kernel)
set_option maxRecDepth 20000 in
theorem gX5_ofMemory_X5_ofStack : GoodIn wsX5_ofMemory (wsV RX5 131 RX5 yX5_ofStack wsX5_ofStack) := goodIn_app (goodIn_of _ (by decide +kernel)) ggX5_ofMemory_X5_ofStack
set_option maxRecDepth 20000 in
theorem ggX5_ofMemory_X5_moves : GoodIn wsX5_ofMemory wsX5_moves := goodIn_r _ [35, 3, 17, 18, 7, 19, 43, 44, 45, 46, 47, 48, 49, 50] (by decide +kernel) (by decide +kernel)
set_option maxRecDepth 20000 in
theorem gX5_ofMemory_X5_moves : GoodIn wsX5_ofMemory (wsV RX5 134 RX5 yX5_moves wsX5_moves) := goodIn_app (goodIn_of _ (by decide +kernel)) ggX5_ofMemory_X5_moves
set_option maxRecDepth 20000 in
theorem ggX5_ofMemory_X5_pair : GoodIn wsX5_ofMemory wsX5_pair := goodIn_r _ [16, 3, 43, 44, 45, 46, 47, 48, 49, 50] (by decide +kernel) (by decide +kernel)
set_option maxRecDepth 20000 in
theorem gX5_ofMemory_X5_pair : GoodIn wsX5_ofMemory (wsV RX5 28 RX5 yX5_pair wsX5_pair) := goodIn_app (goodIn_of _ (by decide +kernel)) ggX5_ofMemory_X5_pair
set_option maxRecDepth 20000 in
theorem ggX5_ofMemory_X5_codeByte : GoodIn wsX5_ofMemory wsX5_codeByte := goodIn_r _ [39, 1, 43, 44, 45, 46, 47, 48, 49, 50] (by decide +kernel) (by decide +kernel)
set_option maxRecDepth 20000 in
theorem gX5_ofMemory_X5_codeByte : GoodIn wsX5_ofMemory (wsV RX5 138 RX5 yX5_codeByte wsX5_codeByte) := goodIn_app (goodIn_of _ (by decide +kernel)) ggX5_ofMemory_X5_codeByte
set_option maxRecDepth 20000 in
theorem ggX5_ofMemory_X5_setPair : GoodIn wsX5_ofMemory wsX5_setPair := goodIn_r _ [27, 3, 43, 44, 45, 46, 47, 48, 49, 50] (by decide +kernel) (by decide +kernel)
set_option maxRecDepth 20000 in
theorem gX5_ofMemory_X5_setPair : GoodIn wsX5_ofMemory (wsV RX5 106 RX5 yX5_setPair wsX5_setPair) := goodIn_app (goodIn_of _ (by decide +kernel)) ggX5_ofMemory_X5_setPair
set_option maxRecDepth 20000 in
theorem ggX5_ofMemory_X5_changes : GoodIn wsX5_ofMemory wsX5_changes := goodIn_r _ [42] (by decide +kernel) (by decide +kernel)
set_option maxRecDepth 20000 in
theorem gX5_ofMemory_X5_changes : GoodIn wsX5_ofMemory (va_wsS RX5 50 yX5_changes wsX5_changes) := goodIn_app (goodIn_of _ (by decide +kernel)) ggX5_ofMemory_X5_changes
set_option maxRecDepth 20000 in
theorem ggX5_ofMemory_X5_isFar : GoodIn wsX5_ofMemory wsX5_isFar := goodIn_r _ [19] (by decide +kernel) (by decide +kernel)
set_option maxRecDepth 20000 in
theorem gX5_ofMemory_X5_isFar : GoodIn wsX5_ofMemory (va_wsS RX5 121 yX5_isFar wsX5_isFar) := goodIn_app (goodIn_of _ (by decide +kernel)) ggX5_ofMemory_X5_isFar
theorem dX5_ofMemory_0 : decode cX5_ofMemory 0 = .ok (.iload_n 1, 1) := by decide +kernel
theorem dX5_ofMemory_1 : decode cX5_ofMemory 1 = .ok (.invokestatic 53, 3) := by decide +kernel
theorem dX5_ofMemory_4 : decode cX5_ofMemory 4 = .ok (.istore_n 2, 1) := by decide +kernel
theorem dX5_ofMemory_5 : decode cX5_ofMemory 5 = .ok (.iload_n 1, 1) := by decide +kernel
