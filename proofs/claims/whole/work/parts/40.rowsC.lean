theorem dX5_init_0 : decode cX5_init 0 = .ok (.aload_n 0, 1) := by decide +kernel
theorem dX5_init_1 : decode cX5_init 1 = .ok (.invokespecial 1, 3) := by decide +kernel
theorem dX5_init_4 : decode cX5_init 4 = .ok (.aload_n 0, 1) := by decide +kernel
theorem dX5_init_5 : decode cX5_init 5 = .ok (.sipush 1024, 3) := by decide +kernel
theorem dX5_init_8 : decode cX5_init 8 = .ok (.newarray .int, 2) := by decide +kernel
theorem dX5_init_10 : decode cX5_init 10 = .ok (.putfield 7, 3) := by decide +kernel
theorem dX5_init_13 : decode cX5_init 13 = .ok (.aload_n 0, 1) := by decide +kernel
theorem dX5_init_14 : decode cX5_init 14 = .ok (.sipush 1024, 3) := by decide +kernel
theorem dX5_init_17 : decode cX5_init 17 = .ok (.newarray .int, 2) := by decide +kernel
theorem dX5_init_19 : decode cX5_init 19 = .ok (.putfield 13, 3) := by decide +kernel
theorem dX5_init_22 : decode cX5_init 22 = .ok (.aload_n 0, 1) := by decide +kernel
theorem dX5_init_23 : decode cX5_init 23 = .ok (.bipush 7, 2) := by decide +kernel
theorem dX5_init_25 : decode cX5_init 25 = .ok (.newarray .int, 2) := by decide +kernel
theorem dX5_init_27 : decode cX5_init 27 = .ok (.putfield 16, 3) := by decide +kernel
theorem dX5_init_30 : decode cX5_init 30 = .ok (.aload_n 0, 1) := by decide +kernel
theorem dX5_init_31 : decode cX5_init 31 = .ok (.iconst 0, 1) := by decide +kernel
theorem dX5_init_32 : decode cX5_init 32 = .ok (.putfield 19, 3) := by decide +kernel
theorem dX5_init_35 : decode cX5_init 35 = .ok (.return_, 1) := by decide +kernel
theorem dX5_in_0 : decode cX5_in 0 = .ok (.iload_n 0, 1) := by decide +kernel
theorem dX5_in_1 : decode cX5_in 1 = .ok (.iload_n 1, 1) := by decide +kernel
theorem dX5_in_2 : decode cX5_in 2 = .ok (.if_icmp .lt 12, 3) := by decide +kernel
theorem dX5_in_5 : decode cX5_in 5 = .ok (.iload_n 0, 1) := by decide +kernel
theorem dX5_in_6 : decode cX5_in 6 = .ok (.iload_n 2, 1) := by decide +kernel
theorem dX5_in_7 : decode cX5_in 7 = .ok (.if_icmp .gt 7, 3) := by decide +kernel
theorem dX5_in_10 : decode cX5_in 10 = .ok (.iconst 1, 1) := by decide +kernel
theorem dX5_in_11 : decode cX5_in 11 = .ok (.goto 4, 3) := by decide +kernel
theorem dX5_in_14 : decode cX5_in 14 = .ok (.iconst 0, 1) := by decide +kernel
theorem dX5_in_15 : decode cX5_in 15 = .ok (.ireturn, 1) := by decide +kernel
set_option maxRecDepth 20000 in
theorem ggX5_code_X5_in : GoodIn wsX5_code wsX5_in := goodIn_r _ [6] (by decide +kernel) (by decide +kernel)
set_option maxRecDepth 20000 in
theorem gX5_code_X5_in : GoodIn wsX5_code (va_wsS RX5 23 yX5_in wsX5_in) := goodIn_app (goodIn_of _ (by decide +kernel)) ggX5_code_X5_in
theorem dX5_code_0 : decode cX5_code 0 = .ok (.iload_n 1, 1) := by decide +kernel
theorem dX5_code_1 : decode cX5_code 1 = .ok (.iconst 0, 1) := by decide +kernel
theorem dX5_code_2 : decode cX5_code 2 = .ok (.sipush 1023, 3) := by decide +kernel
theorem dX5_code_5 : decode cX5_code 5 = .ok (.invokestatic 23, 3) := by decide +kernel
theorem dX5_code_8 : decode cX5_code 8 = .ok (.ifCond .eq 13, 3) := by decide +kernel
theorem dX5_code_11 : decode cX5_code 11 = .ok (.iload_n 2, 1) := by decide +kernel
theorem dX5_code_12 : decode cX5_code 12 = .ok (.iconst 0, 1) := by decide +kernel
theorem dX5_code_13 : decode cX5_code 13 = .ok (.ldc 27, 2) := by decide +kernel
theorem dX5_code_15 : decode cX5_code 15 = .ok (.invokestatic 23, 3) := by decide +kernel
theorem dX5_code_18 : decode cX5_code 18 = .ok (.ifCond .ne 5, 3) := by decide +kernel
theorem dX5_code_21 : decode cX5_code 21 = .ok (.iconst (-1), 1) := by decide +kernel
theorem dX5_code_22 : decode cX5_code 22 = .ok (.ireturn, 1) := by decide +kernel
theorem dX5_code_23 : decode cX5_code 23 = .ok (.aload_n 0, 1) := by decide +kernel
theorem dX5_code_24 : decode cX5_code 24 = .ok (.getfield 7, 3) := by decide +kernel
theorem dX5_code_27 : decode cX5_code 27 = .ok (.iload_n 1, 1) := by decide +kernel
theorem dX5_code_28 : decode cX5_code 28 = .ok (.iaload, 1) := by decide +kernel
theorem dX5_code_29 : decode cX5_code 29 = .ok (.istore_n 3, 1) := by decide +kernel
theorem dX5_code_30 : decode cX5_code 30 = .ok (.aload_n 0, 1) := by decide +kernel
theorem dX5_code_31 : decode cX5_code 31 = .ok (.getfield 7, 3) := by decide +kernel
theorem dX5_code_34 : decode cX5_code 34 = .ok (.iload_n 1, 1) := by decide +kernel
theorem dX5_code_35 : decode cX5_code 35 = .ok (.iload_n 2, 1) := by decide +kernel
theorem dX5_code_36 : decode cX5_code 36 = .ok (.iastore, 1) := by decide +kernel
theorem dX5_code_37 : decode cX5_code 37 = .ok (.iload_n 3, 1) := by decide +kernel
theorem dX5_code_38 : decode cX5_code 38 = .ok (.ireturn, 1) := by decide +kernel
set_option maxRecDepth 20000 in
theorem ggX5_load_X5_in : GoodIn wsX5_load wsX5_in := goodIn_r _ [6] (by decide +kernel) (by decide +kernel)
set_option maxRecDepth 20000 in
theorem gX5_load_X5_in : GoodIn wsX5_load (va_wsS RX5 23 yX5_in wsX5_in) := goodIn_app (goodIn_of _ (by decide +kernel)) ggX5_load_X5_in
theorem dX5_load_0 : decode cX5_load 0 = .ok (.iload_n 1, 1) := by decide +kernel
theorem dX5_load_1 : decode cX5_load 1 = .ok (.iconst 0, 1) := by decide +kernel
theorem dX5_load_2 : decode cX5_load 2 = .ok (.sipush 1023, 3) := by decide +kernel
theorem dX5_load_5 : decode cX5_load 5 = .ok (.invokestatic 23, 3) := by decide +kernel
theorem dX5_load_8 : decode cX5_load 8 = .ok (.ifCond .ne 5, 3) := by decide +kernel
theorem dX5_load_11 : decode cX5_load 11 = .ok (.iconst (-1), 1) := by decide +kernel
theorem dX5_load_12 : decode cX5_load 12 = .ok (.ireturn, 1) := by decide +kernel
theorem dX5_load_13 : decode cX5_load 13 = .ok (.iconst 0, 1) := by decide +kernel
theorem dX5_load_14 : decode cX5_load 14 = .ok (.istore 4, 2) := by decide +kernel
theorem dX5_load_16 : decode cX5_load 16 = .ok (.iload 4, 2) := by decide +kernel
theorem dX5_load_18 : decode cX5_load 18 = .ok (.iconst 4, 1) := by decide +kernel
theorem dX5_load_19 : decode cX5_load 19 = .ok (.if_icmp .ge 36, 3) := by decide +kernel
theorem dX5_load_22 : decode cX5_load 22 = .ok (.aload_n 0, 1) := by decide +kernel
theorem dX5_load_23 : decode cX5_load 23 = .ok (.getfield 7, 3) := by decide +kernel
theorem dX5_load_26 : decode cX5_load 26 = .ok (.iload_n 1, 1) := by decide +kernel
theorem dX5_load_27 : decode cX5_load 27 = .ok (.iload 4, 2) := by decide +kernel
theorem dX5_load_29 : decode cX5_load 29 = .ok (.iadd, 1) := by decide +kernel
theorem dX5_load_30 : decode cX5_load 30 = .ok (.sipush 1023, 3) := by decide +kernel
theorem dX5_load_33 : decode cX5_load 33 = .ok (.iand, 1) := by decide +kernel
theorem dX5_load_34 : decode cX5_load 34 = .ok (.lload_n 2, 1) := by decide +kernel
theorem dX5_load_35 : decode cX5_load 35 = .ok (.bipush 48, 2) := by decide +kernel
theorem dX5_load_37 : decode cX5_load 37 = .ok (.bipush 16, 2) := by decide +kernel
theorem dX5_load_39 : decode cX5_load 39 = .ok (.iload 4, 2) := by decide +kernel
theorem dX5_load_41 : decode cX5_load 41 = .ok (.imul, 1) := by decide +kernel
theorem dX5_load_42 : decode cX5_load 42 = .ok (.isub, 1) := by decide +kernel
theorem dX5_load_43 : decode cX5_load 43 = .ok (.lshr, 1) := by decide +kernel
theorem dX5_load_44 : decode cX5_load 44 = .ok (.l2i, 1) := by decide +kernel
theorem dX5_load_45 : decode cX5_load 45 = .ok (.ldc 27, 2) := by decide +kernel
theorem dX5_load_47 : decode cX5_load 47 = .ok (.iand, 1) := by decide +kernel
theorem dX5_load_48 : decode cX5_load 48 = .ok (.iastore, 1) := by decide +kernel
theorem dX5_load_49 : decode cX5_load 49 = .ok (.iinc 4 1, 3) := by decide +kernel
theorem dX5_load_52 : decode cX5_load 52 = .ok (.goto (-36), 3) := by decide +kernel
theorem dX5_load_55 : decode cX5_load 55 = .ok (.iconst 1, 1) := by decide +kernel
theorem dX5_load_56 : decode cX5_load 56 = .ok (.ireturn, 1) := by decide +kernel
set_option maxRecDepth 20000 in
theorem ggX5_word_X5_in : GoodIn wsX5_word wsX5_in := goodIn_r _ [5] (by decide +kernel) (by decide +kernel)
set_option maxRecDepth 20000 in
theorem gX5_word_X5_in : GoodIn wsX5_word (va_wsS RX5 23 yX5_in wsX5_in) := goodIn_app (goodIn_of _ (by decide +kernel)) ggX5_word_X5_in
theorem dX5_word_0 : decode cX5_word 0 = .ok (.iload_n 1, 1) := by decide +kernel
theorem dX5_word_1 : decode cX5_word 1 = .ok (.iconst 0, 1) := by decide +kernel
theorem dX5_word_2 : decode cX5_word 2 = .ok (.sipush 1023, 3) := by decide +kernel
theorem dX5_word_5 : decode cX5_word 5 = .ok (.invokestatic 23, 3) := by decide +kernel
theorem dX5_word_8 : decode cX5_word 8 = .ok (.ifCond .eq 12, 3) := by decide +kernel
theorem dX5_word_11 : decode cX5_word 11 = .ok (.aload_n 0, 1) := by decide +kernel
theorem dX5_word_12 : decode cX5_word 12 = .ok (.getfield 7, 3) := by decide +kernel
theorem dX5_word_15 : decode cX5_word 15 = .ok (.iload_n 1, 1) := by decide +kernel
theorem dX5_word_16 : decode cX5_word 16 = .ok (.iaload, 1) := by decide +kernel
theorem dX5_word_17 : decode cX5_word 17 = .ok (.goto 4, 3) := by decide +kernel
theorem dX5_word_20 : decode cX5_word 20 = .ok (.iconst (-1), 1) := by decide +kernel
theorem dX5_word_21 : decode cX5_word 21 = .ok (.ireturn, 1) := by decide +kernel
set_option maxRecDepth 20000 in
theorem ggX5_put_X5_in : GoodIn wsX5_put wsX5_in := goodIn_r _ [5] (by decide +kernel) (by decide +kernel)
set_option maxRecDepth 20000 in
theorem gX5_put_X5_in : GoodIn wsX5_put (va_wsS RX5 23 yX5_in wsX5_in) := goodIn_app (goodIn_of _ (by decide +kernel)) ggX5_put_X5_in
theorem dX5_put_0 : decode cX5_put 0 = .ok (.iload_n 1, 1) := by decide +kernel
theorem dX5_put_1 : decode cX5_put 1 = .ok (.iconst 0, 1) := by decide +kernel
theorem dX5_put_2 : decode cX5_put 2 = .ok (.sipush 1023, 3) := by decide +kernel
theorem dX5_put_5 : decode cX5_put 5 = .ok (.invokestatic 23, 3) := by decide +kernel
theorem dX5_put_8 : decode cX5_put 8 = .ok (.ifCond .eq 14, 3) := by decide +kernel
theorem dX5_put_11 : decode cX5_put 11 = .ok (.iload_n 2, 1) := by decide +kernel
theorem dX5_put_12 : decode cX5_put 12 = .ok (.iconst 0, 1) := by decide +kernel
theorem dX5_put_13 : decode cX5_put 13 = .ok (.sipush 255, 3) := by decide +kernel
theorem dX5_put_16 : decode cX5_put 16 = .ok (.invokestatic 23, 3) := by decide +kernel
theorem dX5_put_19 : decode cX5_put 19 = .ok (.ifCond .ne 5, 3) := by decide +kernel
theorem dX5_put_22 : decode cX5_put 22 = .ok (.iconst (-1), 1) := by decide +kernel
theorem dX5_put_23 : decode cX5_put 23 = .ok (.ireturn, 1) := by decide +kernel
theorem dX5_put_24 : decode cX5_put 24 = .ok (.aload_n 0, 1) := by decide +kernel
theorem dX5_put_25 : decode cX5_put 25 = .ok (.getfield 13, 3) := by decide +kernel
theorem dX5_put_28 : decode cX5_put 28 = .ok (.iload_n 1, 1) := by decide +kernel
theorem dX5_put_29 : decode cX5_put 29 = .ok (.iaload, 1) := by decide +kernel
theorem dX5_put_30 : decode cX5_put 30 = .ok (.istore_n 3, 1) := by decide +kernel
theorem dX5_put_31 : decode cX5_put 31 = .ok (.aload_n 0, 1) := by decide +kernel
theorem dX5_put_32 : decode cX5_put 32 = .ok (.getfield 13, 3) := by decide +kernel
theorem dX5_put_35 : decode cX5_put 35 = .ok (.iload_n 1, 1) := by decide +kernel
theorem dX5_put_36 : decode cX5_put 36 = .ok (.iload_n 2, 1) := by decide +kernel
theorem dX5_put_37 : decode cX5_put 37 = .ok (.iastore, 1) := by decide +kernel
theorem dX5_put_38 : decode cX5_put 38 = .ok (.iload_n 3, 1) := by decide +kernel
theorem dX5_put_39 : decode cX5_put 39 = .ok (.ireturn, 1) := by decide +kernel
set_option maxRecDepth 20000 in
theorem ggX5_data_X5_in : GoodIn wsX5_data wsX5_in := goodIn_r _ [5] (by decide +kernel) (by decide +kernel)
set_option maxRecDepth 20000 in
theorem gX5_data_X5_in : GoodIn wsX5_data (va_wsS RX5 23 yX5_in wsX5_in) := goodIn_app (goodIn_of _ (by decide +kernel)) ggX5_data_X5_in
theorem dX5_data_0 : decode cX5_data 0 = .ok (.iload_n 1, 1) := by decide +kernel
theorem dX5_data_1 : decode cX5_data 1 = .ok (.iconst 0, 1) := by decide +kernel
theorem dX5_data_2 : decode cX5_data 2 = .ok (.sipush 1023, 3) := by decide +kernel
theorem dX5_data_5 : decode cX5_data 5 = .ok (.invokestatic 23, 3) := by decide +kernel
theorem dX5_data_8 : decode cX5_data 8 = .ok (.ifCond .eq 12, 3) := by decide +kernel
theorem dX5_data_11 : decode cX5_data 11 = .ok (.aload_n 0, 1) := by decide +kernel
theorem dX5_data_12 : decode cX5_data 12 = .ok (.getfield 13, 3) := by decide +kernel
theorem dX5_data_15 : decode cX5_data 15 = .ok (.iload_n 1, 1) := by decide +kernel
theorem dX5_data_16 : decode cX5_data 16 = .ok (.iaload, 1) := by decide +kernel
theorem dX5_data_17 : decode cX5_data 17 = .ok (.goto 4, 3) := by decide +kernel
theorem dX5_data_20 : decode cX5_data 20 = .ok (.iconst (-1), 1) := by decide +kernel
theorem dX5_data_21 : decode cX5_data 21 = .ok (.ireturn, 1) := by decide +kernel
theorem dX5_pair_0 : decode cX5_pair 0 = .ok (.aload_n 0, 1) := by decide +kernel
theorem dX5_pair_1 : decode cX5_pair 1 = .ok (.getfield 13, 3) := by decide +kernel
theorem dX5_pair_4 : decode cX5_pair 4 = .ok (.iload_n 1, 1) := by decide +kernel
theorem dX5_pair_5 : decode cX5_pair 5 = .ok (.iaload, 1) := by decide +kernel
theorem dX5_pair_6 : decode cX5_pair 6 = .ok (.aload_n 0, 1) := by decide +kernel
theorem dX5_pair_7 : decode cX5_pair 7 = .ok (.getfield 13, 3) := by decide +kernel
theorem dX5_pair_10 : decode cX5_pair 10 = .ok (.iload_n 1, 1) := by decide +kernel
theorem dX5_pair_11 : decode cX5_pair 11 = .ok (.iconst 1, 1) := by decide +kernel
theorem dX5_pair_12 : decode cX5_pair 12 = .ok (.iadd, 1) := by decide +kernel
theorem dX5_pair_13 : decode cX5_pair 13 = .ok (.iaload, 1) := by decide +kernel
theorem dX5_pair_14 : decode cX5_pair 14 = .ok (.bipush 8, 2) := by decide +kernel
theorem dX5_pair_16 : decode cX5_pair 16 = .ok (.ishl, 1) := by decide +kernel
theorem dX5_pair_17 : decode cX5_pair 17 = .ok (.ior, 1) := by decide +kernel
theorem dX5_pair_18 : decode cX5_pair 18 = .ok (.ireturn, 1) := by decide +kernel
theorem dX5_setPair_0 : decode cX5_setPair 0 = .ok (.aload_n 0, 1) := by decide +kernel
theorem dX5_setPair_1 : decode cX5_setPair 1 = .ok (.getfield 13, 3) := by decide +kernel
theorem dX5_setPair_4 : decode cX5_setPair 4 = .ok (.iload_n 1, 1) := by decide +kernel
theorem dX5_setPair_5 : decode cX5_setPair 5 = .ok (.iload_n 2, 1) := by decide +kernel
theorem dX5_setPair_6 : decode cX5_setPair 6 = .ok (.sipush 255, 3) := by decide +kernel
theorem dX5_setPair_9 : decode cX5_setPair 9 = .ok (.iand, 1) := by decide +kernel
theorem dX5_setPair_10 : decode cX5_setPair 10 = .ok (.iastore, 1) := by decide +kernel
theorem dX5_setPair_11 : decode cX5_setPair 11 = .ok (.aload_n 0, 1) := by decide +kernel
theorem dX5_setPair_12 : decode cX5_setPair 12 = .ok (.getfield 13, 3) := by decide +kernel
theorem dX5_setPair_15 : decode cX5_setPair 15 = .ok (.iload_n 1, 1) := by decide +kernel
theorem dX5_setPair_16 : decode cX5_setPair 16 = .ok (.iconst 1, 1) := by decide +kernel
theorem dX5_setPair_17 : decode cX5_setPair 17 = .ok (.iadd, 1) := by decide +kernel
theorem dX5_setPair_18 : decode cX5_setPair 18 = .ok (.iload_n 2, 1) := by decide +kernel
theorem dX5_setPair_19 : decode cX5_setPair 19 = .ok (.bipush 8, 2) := by decide +kernel
theorem dX5_setPair_21 : decode cX5_setPair 21 = .ok (.ishr, 1) := by decide +kernel
theorem dX5_setPair_22 : decode cX5_setPair 22 = .ok (.sipush 255, 3) := by decide +kernel
theorem dX5_setPair_25 : decode cX5_setPair 25 = .ok (.iand, 1) := by decide +kernel
theorem dX5_setPair_26 : decode cX5_setPair 26 = .ok (.iastore, 1) := by decide +kernel
theorem dX5_setPair_27 : decode cX5_setPair 27 = .ok (.return_, 1) := by decide +kernel
set_option maxRecDepth 20000 in
theorem ggX5_told_X5_pair : GoodIn wsX5_told wsX5_pair := goodIn_r _ [9, 2, 10, 11, 12, 13, 14, 15, 16, 17] (by decide +kernel) (by decide +kernel)
set_option maxRecDepth 20000 in
theorem gX5_told_X5_pair : GoodIn wsX5_told (wsV RX5 28 RX5 yX5_pair wsX5_pair) := goodIn_app (goodIn_of _ (by decide +kernel)) ggX5_told_X5_pair
theorem dX5_told_0 : decode cX5_told 0 = .ok (.iload_n 1, 1) := by decide +kernel
theorem dX5_told_1 : decode cX5_told 1 = .ok (.tableswitch 106 0 7 #[47, 52, 59, 67, 74, 81, 88, 101], 47) := by decide +kernel
theorem dX5_told_48 : decode cX5_told 48 = .ok (.aload_n 0, 1) := by decide +kernel
theorem dX5_told_49 : decode cX5_told 49 = .ok (.getfield 19, 3) := by decide +kernel
theorem dX5_told_52 : decode cX5_told 52 = .ok (.ireturn, 1) := by decide +kernel
theorem dX5_told_53 : decode cX5_told 53 = .ok (.aload_n 0, 1) := by decide +kernel
theorem dX5_told_54 : decode cX5_told 54 = .ok (.bipush 93, 2) := by decide +kernel
theorem dX5_told_56 : decode cX5_told 56 = .ok (.invokevirtual 28, 3) := by decide +kernel
theorem dX5_told_59 : decode cX5_told 59 = .ok (.ireturn, 1) := by decide +kernel
theorem dX5_told_60 : decode cX5_told 60 = .ok (.aload_n 0, 1) := by decide +kernel
theorem dX5_told_61 : decode cX5_told 61 = .ok (.getfield 13, 3) := by decide +kernel
theorem dX5_told_64 : decode cX5_told 64 = .ok (.bipush 95, 2) := by decide +kernel
theorem dX5_told_66 : decode cX5_told 66 = .ok (.iaload, 1) := by decide +kernel
theorem dX5_told_67 : decode cX5_told 67 = .ok (.ireturn, 1) := by decide +kernel
theorem dX5_told_68 : decode cX5_told 68 = .ok (.aload_n 0, 1) := by decide +kernel
theorem dX5_told_69 : decode cX5_told 69 = .ok (.bipush 26, 2) := by decide +kernel
theorem dX5_told_71 : decode cX5_told 71 = .ok (.invokevirtual 28, 3) := by decide +kernel
theorem dX5_told_74 : decode cX5_told 74 = .ok (.ireturn, 1) := by decide +kernel
theorem dX5_told_75 : decode cX5_told 75 = .ok (.aload_n 0, 1) := by decide +kernel
theorem dX5_told_76 : decode cX5_told 76 = .ok (.bipush 28, 2) := by decide +kernel
theorem dX5_told_78 : decode cX5_told 78 = .ok (.invokevirtual 28, 3) := by decide +kernel
theorem dX5_told_81 : decode cX5_told 81 = .ok (.ireturn, 1) := by decide +kernel
theorem dX5_told_82 : decode cX5_told 82 = .ok (.aload_n 0, 1) := by decide +kernel
theorem dX5_told_83 : decode cX5_told 83 = .ok (.bipush 30, 2) := by decide +kernel
theorem dX5_told_85 : decode cX5_told 85 = .ok (.invokevirtual 28, 3) := by decide +kernel
theorem dX5_told_88 : decode cX5_told 88 = .ok (.ireturn, 1) := by decide +kernel
theorem dX5_told_89 : decode cX5_told 89 = .ok (.aload_n 0, 1) := by decide +kernel
theorem dX5_told_90 : decode cX5_told 90 = .ok (.getfield 32, 3) := by decide +kernel
theorem dX5_told_93 : decode cX5_told 93 = .ok (.ifCond .eq 7, 3) := by decide +kernel
theorem dX5_told_96 : decode cX5_told 96 = .ok (.iconst 1, 1) := by decide +kernel
theorem dX5_told_97 : decode cX5_told 97 = .ok (.goto 4, 3) := by decide +kernel
theorem dX5_told_100 : decode cX5_told 100 = .ok (.iconst 0, 1) := by decide +kernel
theorem dX5_told_101 : decode cX5_told 101 = .ok (.ireturn, 1) := by decide +kernel
theorem dX5_told_102 : decode cX5_told 102 = .ok (.aload_n 0, 1) := by decide +kernel
theorem dX5_told_103 : decode cX5_told 103 = .ok (.getfield 36, 3) := by decide +kernel
theorem dX5_told_106 : decode cX5_told 106 = .ok (.ireturn, 1) := by decide +kernel
theorem dX5_told_107 : decode cX5_told 107 = .ok (.iconst (-1), 1) := by decide +kernel
theorem dX5_told_108 : decode cX5_told 108 = .ok (.ireturn, 1) := by decide +kernel
set_option maxRecDepth 20000 in
theorem ggX5_go_X5_in : GoodIn wsX5_go wsX5_in := goodIn_r _ [5] (by decide +kernel) (by decide +kernel)
set_option maxRecDepth 20000 in
theorem gX5_go_X5_in : GoodIn wsX5_go (va_wsS RX5 23 yX5_in wsX5_in) := goodIn_app (goodIn_of _ (by decide +kernel)) ggX5_go_X5_in
theorem dX5_go_0 : decode cX5_go 0 = .ok (.iload_n 1, 1) := by decide +kernel
theorem dX5_go_1 : decode cX5_go 1 = .ok (.iconst 0, 1) := by decide +kernel
theorem dX5_go_2 : decode cX5_go 2 = .ok (.sipush 1023, 3) := by decide +kernel
theorem dX5_go_5 : decode cX5_go 5 = .ok (.invokestatic 23, 3) := by decide +kernel
theorem dX5_go_8 : decode cX5_go 8 = .ok (.ifCond .ne 5, 3) := by decide +kernel
theorem dX5_go_11 : decode cX5_go 11 = .ok (.iconst (-1), 1) := by decide +kernel
theorem dX5_go_12 : decode cX5_go 12 = .ok (.ireturn, 1) := by decide +kernel
theorem dX5_go_13 : decode cX5_go 13 = .ok (.aload_n 0, 1) := by decide +kernel
theorem dX5_go_14 : decode cX5_go 14 = .ok (.getfield 19, 3) := by decide +kernel
theorem dX5_go_17 : decode cX5_go 17 = .ok (.istore_n 2, 1) := by decide +kernel
theorem dX5_go_18 : decode cX5_go 18 = .ok (.aload_n 0, 1) := by decide +kernel
theorem dX5_go_19 : decode cX5_go 19 = .ok (.iload_n 1, 1) := by decide +kernel
theorem dX5_go_20 : decode cX5_go 20 = .ok (.putfield 19, 3) := by decide +kernel
theorem dX5_go_23 : decode cX5_go 23 = .ok (.iload_n 2, 1) := by decide +kernel
theorem dX5_go_24 : decode cX5_go 24 = .ok (.ireturn, 1) := by decide +kernel
set_option maxRecDepth 20000 in
theorem ggX5_ask_X5_in : GoodIn wsX5_ask wsX5_in := goodIn_r _ [5] (by decide +kernel) (by decide +kernel)
set_option maxRecDepth 20000 in
theorem gX5_ask_X5_in : GoodIn wsX5_ask (va_wsS RX5 23 yX5_in wsX5_in) := goodIn_app (goodIn_of _ (by decide +kernel)) ggX5_ask_X5_in
theorem dX5_ask_0 : decode cX5_ask 0 = .ok (.iload_n 1, 1) := by decide +kernel
theorem dX5_ask_1 : decode cX5_ask 1 = .ok (.iconst 1, 1) := by decide +kernel
theorem dX5_ask_2 : decode cX5_ask 2 = .ok (.bipush 25, 2) := by decide +kernel
theorem dX5_ask_4 : decode cX5_ask 4 = .ok (.invokestatic 23, 3) := by decide +kernel
theorem dX5_ask_7 : decode cX5_ask 7 = .ok (.ifCond .ne 5, 3) := by decide +kernel
theorem dX5_ask_10 : decode cX5_ask 10 = .ok (.iconst (-1), 1) := by decide +kernel
theorem dX5_ask_11 : decode cX5_ask 11 = .ok (.ireturn, 1) := by decide +kernel
theorem dX5_ask_12 : decode cX5_ask 12 = .ok (.aload_n 0, 1) := by decide +kernel
theorem dX5_ask_13 : decode cX5_ask 13 = .ok (.getfield 36, 3) := by decide +kernel
theorem dX5_ask_16 : decode cX5_ask 16 = .ok (.iload_n 1, 1) := by decide +kernel
theorem dX5_ask_17 : decode cX5_ask 17 = .ok (.ishr, 1) := by decide +kernel
theorem dX5_ask_18 : decode cX5_ask 18 = .ok (.iconst 1, 1) := by decide +kernel
theorem dX5_ask_19 : decode cX5_ask 19 = .ok (.iand, 1) := by decide +kernel
theorem dX5_ask_20 : decode cX5_ask 20 = .ok (.iconst 1, 1) := by decide +kernel
theorem dX5_ask_21 : decode cX5_ask 21 = .ok (.if_icmp .ne 7, 3) := by decide +kernel
theorem dX5_ask_24 : decode cX5_ask 24 = .ok (.iconst 0, 1) := by decide +kernel
theorem dX5_ask_25 : decode cX5_ask 25 = .ok (.goto 4, 3) := by decide +kernel
theorem dX5_ask_28 : decode cX5_ask 28 = .ok (.iconst 1, 1) := by decide +kernel
theorem dX5_ask_29 : decode cX5_ask 29 = .ok (.istore_n 2, 1) := by decide +kernel
theorem dX5_ask_30 : decode cX5_ask 30 = .ok (.aload_n 0, 1) := by decide +kernel
theorem dX5_ask_31 : decode cX5_ask 31 = .ok (.dup, 1) := by decide +kernel
theorem dX5_ask_32 : decode cX5_ask 32 = .ok (.getfield 36, 3) := by decide +kernel
theorem dX5_ask_35 : decode cX5_ask 35 = .ok (.iconst 1, 1) := by decide +kernel
theorem dX5_ask_36 : decode cX5_ask 36 = .ok (.iload_n 1, 1) := by decide +kernel
theorem dX5_ask_37 : decode cX5_ask 37 = .ok (.ishl, 1) := by decide +kernel
theorem dX5_ask_38 : decode cX5_ask 38 = .ok (.ior, 1) := by decide +kernel
theorem dX5_ask_39 : decode cX5_ask 39 = .ok (.putfield 36, 3) := by decide +kernel
theorem dX5_ask_42 : decode cX5_ask 42 = .ok (.iload_n 2, 1) := by decide +kernel
theorem dX5_ask_43 : decode cX5_ask 43 = .ok (.ireturn, 1) := by decide +kernel
theorem dX5_isMemory_0 : decode cX5_isMemory 0 = .ok (.iload_n 0, 1) := by decide +kernel
theorem dX5_isMemory_1 : decode cX5_isMemory 1 = .ok (.ldc 39, 2) := by decide +kernel
theorem dX5_isMemory_3 : decode cX5_isMemory 3 = .ok (.iand, 1) := by decide +kernel
theorem dX5_isMemory_4 : decode cX5_isMemory 4 = .ok (.ldc 40, 2) := by decide +kernel
theorem dX5_isMemory_6 : decode cX5_isMemory 6 = .ok (.if_icmp .ne 7, 3) := by decide +kernel
theorem dX5_isMemory_9 : decode cX5_isMemory 9 = .ok (.iconst 1, 1) := by decide +kernel
theorem dX5_isMemory_10 : decode cX5_isMemory 10 = .ok (.goto 4, 3) := by decide +kernel
theorem dX5_isMemory_13 : decode cX5_isMemory 13 = .ok (.iconst 0, 1) := by decide +kernel
theorem dX5_isMemory_14 : decode cX5_isMemory 14 = .ok (.ireturn, 1) := by decide +kernel
theorem dX5_isOne_0 : decode cX5_isOne 0 = .ok (.iload_n 0, 1) := by decide +kernel
theorem dX5_isOne_1 : decode cX5_isOne 1 = .ok (.ldc 41, 2) := by decide +kernel
theorem dX5_isOne_3 : decode cX5_isOne 3 = .ok (.iand, 1) := by decide +kernel
theorem dX5_isOne_4 : decode cX5_isOne 4 = .ok (.ldc 42, 2) := by decide +kernel
theorem dX5_isOne_6 : decode cX5_isOne 6 = .ok (.if_icmp .ne 7, 3) := by decide +kernel
theorem dX5_isOne_9 : decode cX5_isOne 9 = .ok (.iconst 1, 1) := by decide +kernel
theorem dX5_isOne_10 : decode cX5_isOne 10 = .ok (.goto 4, 3) := by decide +kernel
theorem dX5_isOne_13 : decode cX5_isOne 13 = .ok (.iconst 0, 1) := by decide +kernel
theorem dX5_isOne_14 : decode cX5_isOne 14 = .ok (.ireturn, 1) := by decide +kernel
set_option maxRecDepth 20000 in
theorem ggX5_hasNext_X5_isMemory : GoodIn wsX5_hasNext wsX5_isMemory := goodIn_r _ [4, 5, 6] (by decide +kernel) (by decide +kernel)
set_option maxRecDepth 20000 in
theorem gX5_hasNext_X5_isMemory : GoodIn wsX5_hasNext (va_wsS RX5 43 yX5_isMemory wsX5_isMemory) := goodIn_app (goodIn_of _ (by decide +kernel)) ggX5_hasNext_X5_isMemory
set_option maxRecDepth 20000 in
theorem ggX5_hasNext_X5_isOne : GoodIn wsX5_hasNext wsX5_isOne := goodIn_r _ [9, 10, 11] (by decide +kernel) (by decide +kernel)
set_option maxRecDepth 20000 in
theorem gX5_hasNext_X5_isOne : GoodIn wsX5_hasNext (va_wsS RX5 47 yX5_isOne wsX5_isOne) := goodIn_app (goodIn_of _ (by decide +kernel)) ggX5_hasNext_X5_isOne
theorem dX5_hasNext_0 : decode cX5_hasNext 0 = .ok (.iload_n 0, 1) := by decide +kernel
theorem dX5_hasNext_1 : decode cX5_hasNext 1 = .ok (.invokestatic 43, 3) := by decide +kernel
theorem dX5_hasNext_4 : decode cX5_hasNext 4 = .ok (.ifCond .eq 10, 3) := by decide +kernel
theorem dX5_hasNext_7 : decode cX5_hasNext 7 = .ok (.iload_n 0, 1) := by decide +kernel
theorem dX5_hasNext_8 : decode cX5_hasNext 8 = .ok (.bipush 15, 2) := by decide +kernel
theorem dX5_hasNext_10 : decode cX5_hasNext 10 = .ok (.iand, 1) := by decide +kernel
theorem dX5_hasNext_11 : decode cX5_hasNext 11 = .ok (.ifCond .eq 19, 3) := by decide +kernel
theorem dX5_hasNext_14 : decode cX5_hasNext 14 = .ok (.iload_n 0, 1) := by decide +kernel
theorem dX5_hasNext_15 : decode cX5_hasNext 15 = .ok (.invokestatic 47, 3) := by decide +kernel
theorem dX5_hasNext_18 : decode cX5_hasNext 18 = .ok (.ifCond .eq 16, 3) := by decide +kernel
theorem dX5_hasNext_21 : decode cX5_hasNext 21 = .ok (.iload_n 0, 1) := by decide +kernel
theorem dX5_hasNext_22 : decode cX5_hasNext 22 = .ok (.bipush 15, 2) := by decide +kernel
theorem dX5_hasNext_24 : decode cX5_hasNext 24 = .ok (.iand, 1) := by decide +kernel
theorem dX5_hasNext_25 : decode cX5_hasNext 25 = .ok (.bipush 11, 2) := by decide +kernel
theorem dX5_hasNext_27 : decode cX5_hasNext 27 = .ok (.if_icmp .le 7, 3) := by decide +kernel
theorem dX5_hasNext_30 : decode cX5_hasNext 30 = .ok (.iconst 1, 1) := by decide +kernel
theorem dX5_hasNext_31 : decode cX5_hasNext 31 = .ok (.goto 4, 3) := by decide +kernel
theorem dX5_hasNext_34 : decode cX5_hasNext 34 = .ok (.iconst 0, 1) := by decide +kernel
theorem dX5_hasNext_35 : decode cX5_hasNext 35 = .ok (.ireturn, 1) := by decide +kernel
theorem dX5_dOf_0 : decode cX5_dOf 0 = .ok (.iload_n 0, 1) := by decide +kernel
theorem dX5_dOf_1 : decode cX5_dOf 1 = .ok (.iconst 4, 1) := by decide +kernel
theorem dX5_dOf_2 : decode cX5_dOf 2 = .ok (.ishr, 1) := by decide +kernel
theorem dX5_dOf_3 : decode cX5_dOf 3 = .ok (.bipush 31, 2) := by decide +kernel
theorem dX5_dOf_5 : decode cX5_dOf 5 = .ok (.iand, 1) := by decide +kernel
theorem dX5_dOf_6 : decode cX5_dOf 6 = .ok (.ireturn, 1) := by decide +kernel
theorem dX5_changes_0 : decode cX5_changes 0 = .ok (.iload_n 0, 1) := by decide +kernel
theorem dX5_changes_1 : decode cX5_changes 1 = .ok (.bipush 15, 2) := by decide +kernel
theorem dX5_changes_3 : decode cX5_changes 3 = .ok (.iand, 1) := by decide +kernel
theorem dX5_changes_4 : decode cX5_changes 4 = .ok (.tableswitch 81 1 14 #[72, 72, 81, 81, 72, 81, 81, 81, 75, 75, 81, 81, 78, 78], 72) := by decide +kernel
theorem dX5_changes_76 : decode cX5_changes 76 = .ok (.bipush 30, 2) := by decide +kernel
theorem dX5_changes_78 : decode cX5_changes 78 = .ok (.ireturn, 1) := by decide +kernel
theorem dX5_changes_79 : decode cX5_changes 79 = .ok (.bipush 28, 2) := by decide +kernel
theorem dX5_changes_81 : decode cX5_changes 81 = .ok (.ireturn, 1) := by decide +kernel
theorem dX5_changes_82 : decode cX5_changes 82 = .ok (.bipush 26, 2) := by decide +kernel
theorem dX5_changes_84 : decode cX5_changes 84 = .ok (.ireturn, 1) := by decide +kernel
theorem dX5_changes_85 : decode cX5_changes 85 = .ok (.iconst 0, 1) := by decide +kernel
theorem dX5_changes_86 : decode cX5_changes 86 = .ok (.ireturn, 1) := by decide +kernel
set_option maxRecDepth 20000 in
theorem ggX5_isBadMemory_X5_changes : GoodIn wsX5_isBadMemory wsX5_changes := goodIn_r _ [4] (by decide +kernel) (by decide +kernel)
set_option maxRecDepth 20000 in
theorem gX5_isBadMemory_X5_changes : GoodIn wsX5_isBadMemory (va_wsS RX5 50 yX5_changes wsX5_changes) := goodIn_app (goodIn_of _ (by decide +kernel)) ggX5_isBadMemory_X5_changes
set_option maxRecDepth 20000 in
theorem ggX5_isBadMemory_X5_dOf : GoodIn wsX5_isBadMemory wsX5_dOf := goodIn_r _ [7] (by decide +kernel) (by decide +kernel)
set_option maxRecDepth 20000 in
theorem gX5_isBadMemory_X5_dOf : GoodIn wsX5_isBadMemory (va_wsS RX5 53 yX5_dOf wsX5_dOf) := goodIn_app (goodIn_of _ (by decide +kernel)) ggX5_isBadMemory_X5_dOf
theorem dX5_isBadMemory_0 : decode cX5_isBadMemory 0 = .ok (.iload_n 0, 1) := by decide +kernel
theorem dX5_isBadMemory_1 : decode cX5_isBadMemory 1 = .ok (.bipush 15, 2) := by decide +kernel
theorem dX5_isBadMemory_3 : decode cX5_isBadMemory 3 = .ok (.iand, 1) := by decide +kernel
theorem dX5_isBadMemory_4 : decode cX5_isBadMemory 4 = .ok (.istore_n 1, 1) := by decide +kernel
theorem dX5_isBadMemory_5 : decode cX5_isBadMemory 5 = .ok (.iload_n 0, 1) := by decide +kernel
theorem dX5_isBadMemory_6 : decode cX5_isBadMemory 6 = .ok (.sipush 512, 3) := by decide +kernel
theorem dX5_isBadMemory_9 : decode cX5_isBadMemory 9 = .ok (.iand, 1) := by decide +kernel
theorem dX5_isBadMemory_10 : decode cX5_isBadMemory 10 = .ok (.ifCond .eq 7, 3) := by decide +kernel
theorem dX5_isBadMemory_13 : decode cX5_isBadMemory 13 = .ok (.iconst 1, 1) := by decide +kernel
theorem dX5_isBadMemory_14 : decode cX5_isBadMemory 14 = .ok (.goto 4, 3) := by decide +kernel
theorem dX5_isBadMemory_17 : decode cX5_isBadMemory 17 = .ok (.iconst 0, 1) := by decide +kernel
theorem dX5_isBadMemory_18 : decode cX5_isBadMemory 18 = .ok (.istore_n 2, 1) := by decide +kernel
theorem dX5_isBadMemory_19 : decode cX5_isBadMemory 19 = .ok (.iload_n 1, 1) := by decide +kernel
theorem dX5_isBadMemory_20 : decode cX5_isBadMemory 20 = .ok (.iconst 3, 1) := by decide +kernel
theorem dX5_isBadMemory_21 : decode cX5_isBadMemory 21 = .ok (.if_icmp .eq 41, 3) := by decide +kernel
theorem dX5_isBadMemory_24 : decode cX5_isBadMemory 24 = .ok (.iload_n 1, 1) := by decide +kernel
theorem dX5_isBadMemory_25 : decode cX5_isBadMemory 25 = .ok (.bipush 6, 2) := by decide +kernel
theorem dX5_isBadMemory_27 : decode cX5_isBadMemory 27 = .ok (.if_icmp .eq 35, 3) := by decide +kernel
theorem dX5_isBadMemory_30 : decode cX5_isBadMemory 30 = .ok (.iload_n 1, 1) := by decide +kernel
theorem dX5_isBadMemory_31 : decode cX5_isBadMemory 31 = .ok (.bipush 7, 2) := by decide +kernel
theorem dX5_isBadMemory_33 : decode cX5_isBadMemory 33 = .ok (.if_icmp .eq 29, 3) := by decide +kernel
theorem dX5_isBadMemory_36 : decode cX5_isBadMemory 36 = .ok (.iload_n 1, 1) := by decide +kernel
theorem dX5_isBadMemory_37 : decode cX5_isBadMemory 37 = .ok (.bipush 8, 2) := by decide +kernel
theorem dX5_isBadMemory_39 : decode cX5_isBadMemory 39 = .ok (.if_icmp .eq 23, 3) := by decide +kernel
theorem dX5_isBadMemory_42 : decode cX5_isBadMemory 42 = .ok (.iload_n 1, 1) := by decide +kernel
theorem dX5_isBadMemory_43 : decode cX5_isBadMemory 43 = .ok (.bipush 11, 2) := by decide +kernel
theorem dX5_isBadMemory_45 : decode cX5_isBadMemory 45 = .ok (.if_icmp .eq 17, 3) := by decide +kernel
theorem dX5_isBadMemory_48 : decode cX5_isBadMemory 48 = .ok (.iload_n 2, 1) := by decide +kernel
theorem dX5_isBadMemory_49 : decode cX5_isBadMemory 49 = .ok (.ifCond .eq 15, 3) := by decide +kernel
theorem dX5_isBadMemory_52 : decode cX5_isBadMemory 52 = .ok (.iload_n 1, 1) := by decide +kernel
theorem dX5_isBadMemory_53 : decode cX5_isBadMemory 53 = .ok (.iconst 4, 1) := by decide +kernel
theorem dX5_isBadMemory_54 : decode cX5_isBadMemory 54 = .ok (.if_icmp .eq 8, 3) := by decide +kernel
theorem dX5_isBadMemory_57 : decode cX5_isBadMemory 57 = .ok (.iload_n 1, 1) := by decide +kernel
theorem dX5_isBadMemory_58 : decode cX5_isBadMemory 58 = .ok (.iconst 5, 1) := by decide +kernel
theorem dX5_isBadMemory_59 : decode cX5_isBadMemory 59 = .ok (.if_icmp .ne 5, 3) := by decide +kernel
theorem dX5_isBadMemory_62 : decode cX5_isBadMemory 62 = .ok (.iconst 1, 1) := by decide +kernel
theorem dX5_isBadMemory_63 : decode cX5_isBadMemory 63 = .ok (.ireturn, 1) := by decide +kernel
theorem dX5_isBadMemory_64 : decode cX5_isBadMemory 64 = .ok (.iload_n 0, 1) := by decide +kernel
theorem dX5_isBadMemory_65 : decode cX5_isBadMemory 65 = .ok (.invokestatic 50, 3) := by decide +kernel
theorem dX5_isBadMemory_68 : decode cX5_isBadMemory 68 = .ok (.istore_n 3, 1) := by decide +kernel
theorem dX5_isBadMemory_69 : decode cX5_isBadMemory 69 = .ok (.iload_n 3, 1) := by decide +kernel
theorem dX5_isBadMemory_70 : decode cX5_isBadMemory 70 = .ok (.ifCond .le 25, 3) := by decide +kernel
theorem dX5_isBadMemory_73 : decode cX5_isBadMemory 73 = .ok (.iload_n 0, 1) := by decide +kernel
theorem dX5_isBadMemory_74 : decode cX5_isBadMemory 74 = .ok (.invokestatic 53, 3) := by decide +kernel
theorem dX5_isBadMemory_77 : decode cX5_isBadMemory 77 = .ok (.iload_n 3, 1) := by decide +kernel
theorem dX5_isBadMemory_78 : decode cX5_isBadMemory 78 = .ok (.if_icmp .eq 13, 3) := by decide +kernel
theorem dX5_isBadMemory_81 : decode cX5_isBadMemory 81 = .ok (.iload_n 0, 1) := by decide +kernel
theorem dX5_isBadMemory_82 : decode cX5_isBadMemory 82 = .ok (.invokestatic 53, 3) := by decide +kernel
theorem dX5_isBadMemory_85 : decode cX5_isBadMemory 85 = .ok (.iload_n 3, 1) := by decide +kernel
theorem dX5_isBadMemory_86 : decode cX5_isBadMemory 86 = .ok (.iconst 1, 1) := by decide +kernel
theorem dX5_isBadMemory_87 : decode cX5_isBadMemory 87 = .ok (.iadd, 1) := by decide +kernel
theorem dX5_isBadMemory_88 : decode cX5_isBadMemory 88 = .ok (.if_icmp .ne 7, 3) := by decide +kernel
theorem dX5_isBadMemory_91 : decode cX5_isBadMemory 91 = .ok (.iconst 1, 1) := by decide +kernel
theorem dX5_isBadMemory_92 : decode cX5_isBadMemory 92 = .ok (.goto 4, 3) := by decide +kernel
theorem dX5_isBadMemory_95 : decode cX5_isBadMemory 95 = .ok (.iconst 0, 1) := by decide +kernel
theorem dX5_isBadMemory_96 : decode cX5_isBadMemory 96 = .ok (.ireturn, 1) := by decide +kernel
theorem dX5_isBadOne_0 : decode cX5_isBadOne 0 = .ok (.iload_n 0, 1) := by decide +kernel
theorem dX5_isBadOne_1 : decode cX5_isBadOne 1 = .ok (.bipush 15, 2) := by decide +kernel
theorem dX5_isBadOne_3 : decode cX5_isBadOne 3 = .ok (.iand, 1) := by decide +kernel
theorem dX5_isBadOne_4 : decode cX5_isBadOne 4 = .ok (.istore_n 1, 1) := by decide +kernel
theorem dX5_isBadOne_5 : decode cX5_isBadOne 5 = .ok (.iload_n 1, 1) := by decide +kernel
theorem dX5_isBadOne_6 : decode cX5_isBadOne 6 = .ok (.iconst 4, 1) := by decide +kernel
theorem dX5_isBadOne_7 : decode cX5_isBadOne 7 = .ok (.if_icmp .eq 9, 3) := by decide +kernel
theorem dX5_isBadOne_10 : decode cX5_isBadOne 10 = .ok (.iload_n 1, 1) := by decide +kernel
theorem dX5_isBadOne_11 : decode cX5_isBadOne 11 = .ok (.bipush 11, 2) := by decide +kernel
theorem dX5_isBadOne_13 : decode cX5_isBadOne 13 = .ok (.if_icmp .ne 5, 3) := by decide +kernel
theorem dX5_isBadOne_16 : decode cX5_isBadOne 16 = .ok (.iconst 1, 1) := by decide +kernel
theorem dX5_isBadOne_17 : decode cX5_isBadOne 17 = .ok (.ireturn, 1) := by decide +kernel
theorem dX5_isBadOne_18 : decode cX5_isBadOne 18 = .ok (.iload_n 1, 1) := by decide +kernel
theorem dX5_isBadOne_19 : decode cX5_isBadOne 19 = .ok (.bipush 8, 2) := by decide +kernel
theorem dX5_isBadOne_21 : decode cX5_isBadOne 21 = .ok (.if_icmp .ne 35, 3) := by decide +kernel
theorem dX5_isBadOne_24 : decode cX5_isBadOne 24 = .ok (.iload_n 0, 1) := by decide +kernel
theorem dX5_isBadOne_25 : decode cX5_isBadOne 25 = .ok (.sipush 256, 3) := by decide +kernel
theorem dX5_isBadOne_28 : decode cX5_isBadOne 28 = .ok (.iand, 1) := by decide +kernel
theorem dX5_isBadOne_29 : decode cX5_isBadOne 29 = .ok (.ifCond .eq 25, 3) := by decide +kernel
theorem dX5_isBadOne_32 : decode cX5_isBadOne 32 = .ok (.iload_n 0, 1) := by decide +kernel
theorem dX5_isBadOne_33 : decode cX5_isBadOne 33 = .ok (.ldc 56, 2) := by decide +kernel
theorem dX5_isBadOne_35 : decode cX5_isBadOne 35 = .ok (.if_icmp .eq 19, 3) := by decide +kernel
theorem dX5_isBadOne_38 : decode cX5_isBadOne 38 = .ok (.iload_n 0, 1) := by decide +kernel
theorem dX5_isBadOne_39 : decode cX5_isBadOne 39 = .ok (.ldc 57, 2) := by decide +kernel
theorem dX5_isBadOne_41 : decode cX5_isBadOne 41 = .ok (.if_icmp .eq 13, 3) := by decide +kernel
theorem dX5_isBadOne_44 : decode cX5_isBadOne 44 = .ok (.iload_n 0, 1) := by decide +kernel
theorem dX5_isBadOne_45 : decode cX5_isBadOne 45 = .ok (.ldc 58, 2) := by decide +kernel
theorem dX5_isBadOne_47 : decode cX5_isBadOne 47 = .ok (.if_icmp .eq 7, 3) := by decide +kernel
theorem dX5_isBadOne_50 : decode cX5_isBadOne 50 = .ok (.iconst 1, 1) := by decide +kernel
theorem dX5_isBadOne_51 : decode cX5_isBadOne 51 = .ok (.goto 4, 3) := by decide +kernel
theorem dX5_isBadOne_54 : decode cX5_isBadOne 54 = .ok (.iconst 0, 1) := by decide +kernel
theorem dX5_isBadOne_55 : decode cX5_isBadOne 55 = .ok (.ireturn, 1) := by decide +kernel
theorem dX5_isBadOne_56 : decode cX5_isBadOne 56 = .ok (.iload_n 1, 1) := by decide +kernel
theorem dX5_isBadOne_57 : decode cX5_isBadOne 57 = .ok (.bipush 9, 2) := by decide +kernel
theorem dX5_isBadOne_59 : decode cX5_isBadOne 59 = .ok (.if_icmp .ne 19, 3) := by decide +kernel
theorem dX5_isBadOne_62 : decode cX5_isBadOne 62 = .ok (.iload_n 0, 1) := by decide +kernel
theorem dX5_isBadOne_63 : decode cX5_isBadOne 63 = .ok (.ldc 59, 2) := by decide +kernel
theorem dX5_isBadOne_65 : decode cX5_isBadOne 65 = .ok (.if_icmp .eq 13, 3) := by decide +kernel
theorem dX5_isBadOne_68 : decode cX5_isBadOne 68 = .ok (.iload_n 0, 1) := by decide +kernel
theorem dX5_isBadOne_69 : decode cX5_isBadOne 69 = .ok (.ldc 60, 2) := by decide +kernel
theorem dX5_isBadOne_71 : decode cX5_isBadOne 71 = .ok (.if_icmp .eq 7, 3) := by decide +kernel
theorem dX5_isBadOne_74 : decode cX5_isBadOne 74 = .ok (.iconst 1, 1) := by decide +kernel
theorem dX5_isBadOne_75 : decode cX5_isBadOne 75 = .ok (.goto 4, 3) := by decide +kernel
theorem dX5_isBadOne_78 : decode cX5_isBadOne 78 = .ok (.iconst 0, 1) := by decide +kernel
theorem dX5_isBadOne_79 : decode cX5_isBadOne 79 = .ok (.ireturn, 1) := by decide +kernel
set_option maxRecDepth 20000 in
theorem ggX5_isIllegal_X5_isMemory : GoodIn wsX5_isIllegal wsX5_isMemory := goodIn_r _ [5, 6, 7] (by decide +kernel) (by decide +kernel)
set_option maxRecDepth 20000 in
theorem gX5_isIllegal_X5_isMemory : GoodIn wsX5_isIllegal (va_wsS RX5 43 yX5_isMemory wsX5_isMemory) := goodIn_app (goodIn_of _ (by decide +kernel)) ggX5_isIllegal_X5_isMemory
set_option maxRecDepth 20000 in
theorem ggX5_isIllegal_X5_isBadMemory : GoodIn wsX5_isIllegal wsX5_isBadMemory := goodIn_r _ [10, 11, 12, 4, 13, 14, 15, 16] (by decide +kernel) (by decide +kernel)
set_option maxRecDepth 20000 in
theorem gX5_isIllegal_X5_isBadMemory : GoodIn wsX5_isIllegal (va_wsS RX5 61 yX5_isBadMemory wsX5_isBadMemory) := goodIn_app (goodIn_of _ (by decide +kernel)) ggX5_isIllegal_X5_isBadMemory
set_option maxRecDepth 20000 in
theorem ggX5_isIllegal_X5_isOne : GoodIn wsX5_isIllegal wsX5_isOne := goodIn_r _ [19, 20, 21] (by decide +kernel) (by decide +kernel)
set_option maxRecDepth 20000 in
theorem gX5_isIllegal_X5_isOne : GoodIn wsX5_isIllegal (va_wsS RX5 47 yX5_isOne wsX5_isOne) := goodIn_app (goodIn_of _ (by decide +kernel)) ggX5_isIllegal_X5_isOne
set_option maxRecDepth 20000 in
theorem ggX5_isIllegal_X5_isBadOne : GoodIn wsX5_isIllegal wsX5_isBadOne := goodIn_r _ [24, 25, 26, 27, 28, 29] (by decide +kernel) (by decide +kernel)
set_option maxRecDepth 20000 in
theorem gX5_isIllegal_X5_isBadOne : GoodIn wsX5_isIllegal (va_wsS RX5 64 yX5_isBadOne wsX5_isBadOne) := goodIn_app (goodIn_of _ (by decide +kernel)) ggX5_isIllegal_X5_isBadOne
theorem dX5_isIllegal_0 : decode cX5_isIllegal 0 = .ok (.iload_n 0, 1) := by decide +kernel
theorem dX5_isIllegal_1 : decode cX5_isIllegal 1 = .ok (.sipush 256, 3) := by decide +kernel
theorem dX5_isIllegal_4 : decode cX5_isIllegal 4 = .ok (.if_icmp .ge 13, 3) := by decide +kernel
theorem dX5_isIllegal_7 : decode cX5_isIllegal 7 = .ok (.iload_n 0, 1) := by decide +kernel
theorem dX5_isIllegal_8 : decode cX5_isIllegal 8 = .ok (.ifCond .eq 7, 3) := by decide +kernel
theorem dX5_isIllegal_11 : decode cX5_isIllegal 11 = .ok (.iconst 1, 1) := by decide +kernel
theorem dX5_isIllegal_12 : decode cX5_isIllegal 12 = .ok (.goto 4, 3) := by decide +kernel
theorem dX5_isIllegal_15 : decode cX5_isIllegal 15 = .ok (.iconst 0, 1) := by decide +kernel
theorem dX5_isIllegal_16 : decode cX5_isIllegal 16 = .ok (.ireturn, 1) := by decide +kernel
theorem dX5_isIllegal_17 : decode cX5_isIllegal 17 = .ok (.iload_n 0, 1) := by decide +kernel
theorem dX5_isIllegal_18 : decode cX5_isIllegal 18 = .ok (.invokestatic 43, 3) := by decide +kernel
theorem dX5_isIllegal_21 : decode cX5_isIllegal 21 = .ok (.ifCond .eq 8, 3) := by decide +kernel
theorem dX5_isIllegal_24 : decode cX5_isIllegal 24 = .ok (.iload_n 0, 1) := by decide +kernel
theorem dX5_isIllegal_25 : decode cX5_isIllegal 25 = .ok (.invokestatic 61, 3) := by decide +kernel
theorem dX5_isIllegal_28 : decode cX5_isIllegal 28 = .ok (.ireturn, 1) := by decide +kernel
theorem dX5_isIllegal_29 : decode cX5_isIllegal 29 = .ok (.iload_n 0, 1) := by decide +kernel
theorem dX5_isIllegal_30 : decode cX5_isIllegal 30 = .ok (.invokestatic 47, 3) := by decide +kernel
theorem dX5_isIllegal_33 : decode cX5_isIllegal 33 = .ok (.ifCond .eq 8, 3) := by decide +kernel
theorem dX5_isIllegal_36 : decode cX5_isIllegal 36 = .ok (.iload_n 0, 1) := by decide +kernel
theorem dX5_isIllegal_37 : decode cX5_isIllegal 37 = .ok (.invokestatic 64, 3) := by decide +kernel
theorem dX5_isIllegal_40 : decode cX5_isIllegal 40 = .ok (.ireturn, 1) := by decide +kernel
theorem dX5_isIllegal_41 : decode cX5_isIllegal 41 = .ok (.iload_n 0, 1) := by decide +kernel
theorem dX5_isIllegal_42 : decode cX5_isIllegal 42 = .ok (.ldc 67, 2) := by decide +kernel
theorem dX5_isIllegal_44 : decode cX5_isIllegal 44 = .ok (.iand, 1) := by decide +kernel
theorem dX5_isIllegal_45 : decode cX5_isIllegal 45 = .ok (.ldc 67, 2) := by decide +kernel
theorem dX5_isIllegal_47 : decode cX5_isIllegal 47 = .ok (.if_icmp .ne 7, 3) := by decide +kernel
theorem dX5_isIllegal_50 : decode cX5_isIllegal 50 = .ok (.iconst 1, 1) := by decide +kernel
theorem dX5_isIllegal_51 : decode cX5_isIllegal 51 = .ok (.goto 4, 3) := by decide +kernel
theorem dX5_isIllegal_54 : decode cX5_isIllegal 54 = .ok (.iconst 0, 1) := by decide +kernel
theorem dX5_isIllegal_55 : decode cX5_isIllegal 55 = .ok (.ireturn, 1) := by decide +kernel
set_option maxRecDepth 20000 in
theorem ggX5_reads_X5_in : GoodIn wsX5_reads wsX5_in := goodIn_r _ [5] (by decide +kernel) (by decide +kernel)
set_option maxRecDepth 20000 in
theorem gX5_reads_X5_in : GoodIn wsX5_reads (va_wsS RX5 23 yX5_in wsX5_in) := goodIn_app (goodIn_of _ (by decide +kernel)) ggX5_reads_X5_in
set_option maxRecDepth 20000 in
theorem ggX5_reads_X5_isIllegal : GoodIn wsX5_reads wsX5_isIllegal := goodIn_r _ [8, 9, 10, 11, 4, 12, 13, 14, 15, 16, 17, 18, 19, 20, 21, 22, 23, 24, 25, 26, 27, 28, 29, 30, 31, 32, 33, 34, 35, 36] (by decide +kernel) (by decide +kernel)
set_option maxRecDepth 20000 in
theorem gX5_reads_X5_isIllegal : GoodIn wsX5_reads (va_wsS RX5 68 yX5_isIllegal wsX5_isIllegal) := goodIn_app (goodIn_of _ (by decide +kernel)) ggX5_reads_X5_isIllegal
set_option maxRecDepth 20000 in
theorem ggX5_reads_X5_hasNext : GoodIn wsX5_reads wsX5_hasNext := goodIn_r _ [39, 10, 11, 4, 12, 13, 14, 24, 25, 26, 27, 28] (by decide +kernel) (by decide +kernel)
set_option maxRecDepth 20000 in
theorem gX5_reads_X5_hasNext : GoodIn wsX5_reads (va_wsS RX5 71 yX5_hasNext wsX5_hasNext) := goodIn_app (goodIn_of _ (by decide +kernel)) ggX5_reads_X5_hasNext
theorem dX5_reads_0 : decode cX5_reads 0 = .ok (.iload_n 1, 1) := by decide +kernel
theorem dX5_reads_1 : decode cX5_reads 1 = .ok (.iconst 0, 1) := by decide +kernel
theorem dX5_reads_2 : decode cX5_reads 2 = .ok (.ldc 27, 2) := by decide +kernel
theorem dX5_reads_4 : decode cX5_reads 4 = .ok (.invokestatic 23, 3) := by decide +kernel
theorem dX5_reads_7 : decode cX5_reads 7 = .ok (.ifCond .eq 12, 3) := by decide +kernel
theorem dX5_reads_10 : decode cX5_reads 10 = .ok (.iload_n 2, 1) := by decide +kernel
theorem dX5_reads_11 : decode cX5_reads 11 = .ok (.iconst 0, 1) := by decide +kernel
theorem dX5_reads_12 : decode cX5_reads 12 = .ok (.iconst 1, 1) := by decide +kernel
theorem dX5_reads_13 : decode cX5_reads 13 = .ok (.invokestatic 23, 3) := by decide +kernel
theorem dX5_reads_16 : decode cX5_reads 16 = .ok (.ifCond .ne 5, 3) := by decide +kernel
theorem dX5_reads_19 : decode cX5_reads 19 = .ok (.iconst (-1), 1) := by decide +kernel
theorem dX5_reads_20 : decode cX5_reads 20 = .ok (.ireturn, 1) := by decide +kernel
theorem dX5_reads_21 : decode cX5_reads 21 = .ok (.iload_n 2, 1) := by decide +kernel
theorem dX5_reads_22 : decode cX5_reads 22 = .ok (.ifCond .ne 13, 3) := by decide +kernel
theorem dX5_reads_25 : decode cX5_reads 25 = .ok (.iload_n 1, 1) := by decide +kernel
theorem dX5_reads_26 : decode cX5_reads 26 = .ok (.invokestatic 68, 3) := by decide +kernel
theorem dX5_reads_29 : decode cX5_reads 29 = .ok (.ifCond .eq 17, 3) := by decide +kernel
theorem dX5_reads_32 : decode cX5_reads 32 = .ok (.goto 10, 3) := by decide +kernel
theorem dX5_reads_35 : decode cX5_reads 35 = .ok (.iload_n 1, 1) := by decide +kernel
theorem dX5_reads_36 : decode cX5_reads 36 = .ok (.invokestatic 71, 3) := by decide +kernel
theorem dX5_reads_39 : decode cX5_reads 39 = .ok (.ifCond .eq 7, 3) := by decide +kernel
theorem dX5_reads_42 : decode cX5_reads 42 = .ok (.iconst 1, 1) := by decide +kernel
theorem dX5_reads_43 : decode cX5_reads 43 = .ok (.goto 4, 3) := by decide +kernel
theorem dX5_reads_46 : decode cX5_reads 46 = .ok (.iconst 0, 1) := by decide +kernel
theorem dX5_reads_47 : decode cX5_reads 47 = .ok (.ireturn, 1) := by decide +kernel
theorem dX5_has_0 : decode cX5_has 0 = .ok (.aload_n 0, 1) := by decide +kernel
theorem dX5_has_1 : decode cX5_has 1 = .ok (.getfield 13, 3) := by decide +kernel
theorem dX5_has_4 : decode cX5_has 4 = .ok (.bipush 95, 2) := by decide +kernel
theorem dX5_has_6 : decode cX5_has 6 = .ok (.iaload, 1) := by decide +kernel
theorem dX5_has_7 : decode cX5_has 7 = .ok (.iload_n 1, 1) := by decide +kernel
theorem dX5_has_8 : decode cX5_has 8 = .ok (.iand, 1) := by decide +kernel
theorem dX5_has_9 : decode cX5_has 9 = .ok (.ifCond .eq 7, 3) := by decide +kernel
theorem dX5_has_12 : decode cX5_has 12 = .ok (.iconst 1, 1) := by decide +kernel
theorem dX5_has_13 : decode cX5_has 13 = .ok (.goto 4, 3) := by decide +kernel
theorem dX5_has_16 : decode cX5_has 16 = .ok (.iconst 0, 1) := by decide +kernel
theorem dX5_has_17 : decode cX5_has 17 = .ok (.ireturn, 1) := by decide +kernel
theorem dX5_flag_0 : decode cX5_flag 0 = .ok (.aload_n 0, 1) := by decide +kernel
theorem dX5_flag_1 : decode cX5_flag 1 = .ok (.getfield 13, 3) := by decide +kernel
theorem dX5_flag_4 : decode cX5_flag 4 = .ok (.bipush 95, 2) := by decide +kernel
theorem dX5_flag_6 : decode cX5_flag 6 = .ok (.iload_n 2, 1) := by decide +kernel
theorem dX5_flag_7 : decode cX5_flag 7 = .ok (.ifCond .eq 15, 3) := by decide +kernel
theorem dX5_flag_10 : decode cX5_flag 10 = .ok (.aload_n 0, 1) := by decide +kernel
theorem dX5_flag_11 : decode cX5_flag 11 = .ok (.getfield 13, 3) := by decide +kernel
theorem dX5_flag_14 : decode cX5_flag 14 = .ok (.bipush 95, 2) := by decide +kernel
theorem dX5_flag_16 : decode cX5_flag 16 = .ok (.iaload, 1) := by decide +kernel
theorem dX5_flag_17 : decode cX5_flag 17 = .ok (.iload_n 1, 1) := by decide +kernel
theorem dX5_flag_18 : decode cX5_flag 18 = .ok (.ior, 1) := by decide +kernel
theorem dX5_flag_19 : decode cX5_flag 19 = .ok (.goto 14, 3) := by decide +kernel
theorem dX5_flag_22 : decode cX5_flag 22 = .ok (.aload_n 0, 1) := by decide +kernel
theorem dX5_flag_23 : decode cX5_flag 23 = .ok (.getfield 13, 3) := by decide +kernel
theorem dX5_flag_26 : decode cX5_flag 26 = .ok (.bipush 95, 2) := by decide +kernel
theorem dX5_flag_28 : decode cX5_flag 28 = .ok (.iaload, 1) := by decide +kernel
theorem dX5_flag_29 : decode cX5_flag 29 = .ok (.iload_n 1, 1) := by decide +kernel
theorem dX5_flag_30 : decode cX5_flag 30 = .ok (.iconst (-1), 1) := by decide +kernel
theorem dX5_flag_31 : decode cX5_flag 31 = .ok (.ixor, 1) := by decide +kernel
theorem dX5_flag_32 : decode cX5_flag 32 = .ok (.iand, 1) := by decide +kernel
theorem dX5_flag_33 : decode cX5_flag 33 = .ok (.iastore, 1) := by decide +kernel
theorem dX5_flag_34 : decode cX5_flag 34 = .ok (.return_, 1) := by decide +kernel
set_option maxRecDepth 20000 in
theorem ggX5_signs_X5_flag : GoodIn wsX5_signs wsX5_flag := goodIn_r _ [5, 6, 7, 8, 9, 10, 11, 12, 13, 14] (by decide +kernel) (by decide +kernel)
set_option maxRecDepth 20000 in
theorem gX5_signs_X5_flag : GoodIn wsX5_signs (wsV RX5 74 RX5 yX5_flag wsX5_flag) := goodIn_app (goodIn_of _ (by decide +kernel)) ggX5_signs_X5_flag
theorem dX5_signs_0 : decode cX5_signs 0 = .ok (.aload_n 0, 1) := by decide +kernel
theorem dX5_signs_1 : decode cX5_signs 1 = .ok (.iconst 2, 1) := by decide +kernel
theorem dX5_signs_2 : decode cX5_signs 2 = .ok (.iload_n 1, 1) := by decide +kernel
theorem dX5_signs_3 : decode cX5_signs 3 = .ok (.ifCond .ne 7, 3) := by decide +kernel
theorem dX5_signs_6 : decode cX5_signs 6 = .ok (.iconst 1, 1) := by decide +kernel
theorem dX5_signs_7 : decode cX5_signs 7 = .ok (.goto 4, 3) := by decide +kernel
theorem dX5_signs_10 : decode cX5_signs 10 = .ok (.iconst 0, 1) := by decide +kernel
theorem dX5_signs_11 : decode cX5_signs 11 = .ok (.invokevirtual 74, 3) := by decide +kernel
theorem dX5_signs_14 : decode cX5_signs 14 = .ok (.aload_n 0, 1) := by decide +kernel
theorem dX5_signs_15 : decode cX5_signs 15 = .ok (.iconst 4, 1) := by decide +kernel
theorem dX5_signs_16 : decode cX5_signs 16 = .ok (.iload_n 1, 1) := by decide +kernel
theorem dX5_signs_17 : decode cX5_signs 17 = .ok (.bipush 127, 2) := by decide +kernel
theorem dX5_signs_19 : decode cX5_signs 19 = .ok (.if_icmp .le 7, 3) := by decide +kernel
theorem dX5_signs_22 : decode cX5_signs 22 = .ok (.iconst 1, 1) := by decide +kernel
theorem dX5_signs_23 : decode cX5_signs 23 = .ok (.goto 4, 3) := by decide +kernel
theorem dX5_signs_26 : decode cX5_signs 26 = .ok (.iconst 0, 1) := by decide +kernel
theorem dX5_signs_27 : decode cX5_signs 27 = .ok (.invokevirtual 74, 3) := by decide +kernel
theorem dX5_signs_30 : decode cX5_signs 30 = .ok (.aload_n 0, 1) := by decide +kernel
theorem dX5_signs_31 : decode cX5_signs 31 = .ok (.bipush 8, 2) := by decide +kernel
theorem dX5_signs_33 : decode cX5_signs 33 = .ok (.iload_n 2, 1) := by decide +kernel
theorem dX5_signs_34 : decode cX5_signs 34 = .ok (.invokevirtual 74, 3) := by decide +kernel
theorem dX5_signs_37 : decode cX5_signs 37 = .ok (.aload_n 0, 1) := by decide +kernel
theorem dX5_signs_38 : decode cX5_signs 38 = .ok (.bipush 16, 2) := by decide +kernel
theorem dX5_signs_40 : decode cX5_signs 40 = .ok (.iload_n 1, 1) := by decide +kernel
theorem dX5_signs_41 : decode cX5_signs 41 = .ok (.bipush 127, 2) := by decide +kernel
theorem dX5_signs_43 : decode cX5_signs 43 = .ok (.if_icmp .le 7, 3) := by decide +kernel
theorem dX5_signs_46 : decode cX5_signs 46 = .ok (.iconst 1, 1) := by decide +kernel
theorem dX5_signs_47 : decode cX5_signs 47 = .ok (.goto 4, 3) := by decide +kernel
theorem dX5_signs_50 : decode cX5_signs 50 = .ok (.iconst 0, 1) := by decide +kernel
theorem dX5_signs_51 : decode cX5_signs 51 = .ok (.iload_n 2, 1) := by decide +kernel
theorem dX5_signs_52 : decode cX5_signs 52 = .ok (.if_icmp .eq 7, 3) := by decide +kernel
theorem dX5_signs_55 : decode cX5_signs 55 = .ok (.iconst 1, 1) := by decide +kernel
theorem dX5_signs_56 : decode cX5_signs 56 = .ok (.goto 4, 3) := by decide +kernel
theorem dX5_signs_59 : decode cX5_signs 59 = .ok (.iconst 0, 1) := by decide +kernel
theorem dX5_signs_60 : decode cX5_signs 60 = .ok (.invokevirtual 74, 3) := by decide +kernel
theorem dX5_signs_63 : decode cX5_signs 63 = .ok (.return_, 1) := by decide +kernel
set_option maxRecDepth 20000 in
theorem ggX5_add_X5_flag : GoodIn wsX5_add wsX5_flag := goodIn_r _ [5, 6, 11, 12, 13, 14, 15, 16, 17, 18] (by decide +kernel) (by decide +kernel)
set_option maxRecDepth 20000 in
theorem gX5_add_X5_flag : GoodIn wsX5_add (wsV RX5 74 RX5 yX5_flag wsX5_flag) := goodIn_app (goodIn_of _ (by decide +kernel)) ggX5_add_X5_flag
set_option maxRecDepth 20000 in
theorem ggX5_add_X5_signs : GoodIn wsX5_add wsX5_signs := goodIn_r _ [10, 1, 2, 3, 4, 5, 6, 11, 12, 13, 14, 15, 16, 17, 18] (by decide +kernel) (by decide +kernel)
set_option maxRecDepth 20000 in
theorem gX5_add_X5_signs : GoodIn wsX5_add (wsV RX5 78 RX5 yX5_signs wsX5_signs) := goodIn_app (goodIn_of _ (by decide +kernel)) ggX5_add_X5_signs
theorem dX5_add_0 : decode cX5_add 0 = .ok (.iload_n 1, 1) := by decide +kernel
theorem dX5_add_1 : decode cX5_add 1 = .ok (.iload_n 2, 1) := by decide +kernel
theorem dX5_add_2 : decode cX5_add 2 = .ok (.iadd, 1) := by decide +kernel
theorem dX5_add_3 : decode cX5_add 3 = .ok (.iload_n 3, 1) := by decide +kernel
theorem dX5_add_4 : decode cX5_add 4 = .ok (.iadd, 1) := by decide +kernel
theorem dX5_add_5 : decode cX5_add 5 = .ok (.sipush 255, 3) := by decide +kernel
theorem dX5_add_8 : decode cX5_add 8 = .ok (.iand, 1) := by decide +kernel
theorem dX5_add_9 : decode cX5_add 9 = .ok (.istore 4, 2) := by decide +kernel
theorem dX5_add_11 : decode cX5_add 11 = .ok (.aload_n 0, 1) := by decide +kernel
theorem dX5_add_12 : decode cX5_add 12 = .ok (.iconst 1, 1) := by decide +kernel
theorem dX5_add_13 : decode cX5_add 13 = .ok (.iload_n 1, 1) := by decide +kernel
theorem dX5_add_14 : decode cX5_add 14 = .ok (.iload_n 2, 1) := by decide +kernel
theorem dX5_add_15 : decode cX5_add 15 = .ok (.iadd, 1) := by decide +kernel
theorem dX5_add_16 : decode cX5_add 16 = .ok (.iload_n 3, 1) := by decide +kernel
theorem dX5_add_17 : decode cX5_add 17 = .ok (.iadd, 1) := by decide +kernel
theorem dX5_add_18 : decode cX5_add 18 = .ok (.sipush 255, 3) := by decide +kernel
theorem dX5_add_21 : decode cX5_add 21 = .ok (.if_icmp .le 7, 3) := by decide +kernel
theorem dX5_add_24 : decode cX5_add 24 = .ok (.iconst 1, 1) := by decide +kernel
theorem dX5_add_25 : decode cX5_add 25 = .ok (.goto 4, 3) := by decide +kernel
theorem dX5_add_28 : decode cX5_add 28 = .ok (.iconst 0, 1) := by decide +kernel
theorem dX5_add_29 : decode cX5_add 29 = .ok (.invokevirtual 74, 3) := by decide +kernel
theorem dX5_add_32 : decode cX5_add 32 = .ok (.aload_n 0, 1) := by decide +kernel
theorem dX5_add_33 : decode cX5_add 33 = .ok (.bipush 32, 2) := by decide +kernel
theorem dX5_add_35 : decode cX5_add 35 = .ok (.iload_n 1, 1) := by decide +kernel
theorem dX5_add_36 : decode cX5_add 36 = .ok (.bipush 15, 2) := by decide +kernel
theorem dX5_add_38 : decode cX5_add 38 = .ok (.iand, 1) := by decide +kernel
theorem dX5_add_39 : decode cX5_add 39 = .ok (.iload_n 2, 1) := by decide +kernel
theorem dX5_add_40 : decode cX5_add 40 = .ok (.bipush 15, 2) := by decide +kernel
theorem dX5_add_42 : decode cX5_add 42 = .ok (.iand, 1) := by decide +kernel
theorem dX5_add_43 : decode cX5_add 43 = .ok (.iadd, 1) := by decide +kernel
theorem dX5_add_44 : decode cX5_add 44 = .ok (.iload_n 3, 1) := by decide +kernel
theorem dX5_add_45 : decode cX5_add 45 = .ok (.iadd, 1) := by decide +kernel
theorem dX5_add_46 : decode cX5_add 46 = .ok (.bipush 15, 2) := by decide +kernel
theorem dX5_add_48 : decode cX5_add 48 = .ok (.if_icmp .le 7, 3) := by decide +kernel
theorem dX5_add_51 : decode cX5_add 51 = .ok (.iconst 1, 1) := by decide +kernel
theorem dX5_add_52 : decode cX5_add 52 = .ok (.goto 4, 3) := by decide +kernel
theorem dX5_add_55 : decode cX5_add 55 = .ok (.iconst 0, 1) := by decide +kernel
theorem dX5_add_56 : decode cX5_add 56 = .ok (.invokevirtual 74, 3) := by decide +kernel
theorem dX5_add_59 : decode cX5_add 59 = .ok (.aload_n 0, 1) := by decide +kernel
theorem dX5_add_60 : decode cX5_add 60 = .ok (.iload 4, 2) := by decide +kernel
theorem dX5_add_62 : decode cX5_add 62 = .ok (.iload_n 1, 1) := by decide +kernel
theorem dX5_add_63 : decode cX5_add 63 = .ok (.bipush 127, 2) := by decide +kernel
theorem dX5_add_65 : decode cX5_add 65 = .ok (.if_icmp .le 7, 3) := by decide +kernel
theorem dX5_add_68 : decode cX5_add 68 = .ok (.iconst 1, 1) := by decide +kernel
theorem dX5_add_69 : decode cX5_add 69 = .ok (.goto 4, 3) := by decide +kernel
theorem dX5_add_72 : decode cX5_add 72 = .ok (.iconst 0, 1) := by decide +kernel
theorem dX5_add_73 : decode cX5_add 73 = .ok (.iload_n 2, 1) := by decide +kernel
theorem dX5_add_74 : decode cX5_add 74 = .ok (.bipush 127, 2) := by decide +kernel
theorem dX5_add_76 : decode cX5_add 76 = .ok (.if_icmp .le 7, 3) := by decide +kernel
theorem dX5_add_79 : decode cX5_add 79 = .ok (.iconst 1, 1) := by decide +kernel
theorem dX5_add_80 : decode cX5_add 80 = .ok (.goto 4, 3) := by decide +kernel
theorem dX5_add_83 : decode cX5_add 83 = .ok (.iconst 0, 1) := by decide +kernel
theorem dX5_add_84 : decode cX5_add 84 = .ok (.if_icmp .ne 33, 3) := by decide +kernel
theorem dX5_add_87 : decode cX5_add 87 = .ok (.iload 4, 2) := by decide +kernel
theorem dX5_add_89 : decode cX5_add 89 = .ok (.bipush 127, 2) := by decide +kernel
theorem dX5_add_91 : decode cX5_add 91 = .ok (.if_icmp .le 7, 3) := by decide +kernel
theorem dX5_add_94 : decode cX5_add 94 = .ok (.iconst 1, 1) := by decide +kernel
theorem dX5_add_95 : decode cX5_add 95 = .ok (.goto 4, 3) := by decide +kernel
theorem dX5_add_98 : decode cX5_add 98 = .ok (.iconst 0, 1) := by decide +kernel
theorem dX5_add_99 : decode cX5_add 99 = .ok (.iload_n 1, 1) := by decide +kernel
theorem dX5_add_100 : decode cX5_add 100 = .ok (.bipush 127, 2) := by decide +kernel
theorem dX5_add_102 : decode cX5_add 102 = .ok (.if_icmp .le 7, 3) := by decide +kernel
theorem dX5_add_105 : decode cX5_add 105 = .ok (.iconst 1, 1) := by decide +kernel
theorem dX5_add_106 : decode cX5_add 106 = .ok (.goto 4, 3) := by decide +kernel
theorem dX5_add_109 : decode cX5_add 109 = .ok (.iconst 0, 1) := by decide +kernel
theorem dX5_add_110 : decode cX5_add 110 = .ok (.if_icmp .eq 7, 3) := by decide +kernel
theorem dX5_add_113 : decode cX5_add 113 = .ok (.iconst 1, 1) := by decide +kernel
theorem dX5_add_114 : decode cX5_add 114 = .ok (.goto 4, 3) := by decide +kernel
theorem dX5_add_117 : decode cX5_add 117 = .ok (.iconst 0, 1) := by decide +kernel
theorem dX5_add_118 : decode cX5_add 118 = .ok (.invokevirtual 78, 3) := by decide +kernel
theorem dX5_add_121 : decode cX5_add 121 = .ok (.iload 4, 2) := by decide +kernel
theorem dX5_add_123 : decode cX5_add 123 = .ok (.ireturn, 1) := by decide +kernel
set_option maxRecDepth 20000 in
theorem ggX5_subtract_X5_has : GoodIn wsX5_subtract wsX5_has := goodIn_r _ [5, 6, 15, 16, 17, 18, 19, 20, 21, 22] (by decide +kernel) (by decide +kernel)
set_option maxRecDepth 20000 in
theorem gX5_subtract_X5_has : GoodIn wsX5_subtract (wsV RX5 81 RX5 yX5_has wsX5_has) := goodIn_app (goodIn_of _ (by decide +kernel)) ggX5_subtract_X5_has
set_option maxRecDepth 20000 in
theorem ggX5_subtract_X5_flag : GoodIn wsX5_subtract wsX5_flag := goodIn_r _ [10, 6, 15, 16, 17, 18, 19, 20, 21, 22] (by decide +kernel) (by decide +kernel)
set_option maxRecDepth 20000 in
theorem gX5_subtract_X5_flag : GoodIn wsX5_subtract (wsV RX5 74 RX5 yX5_flag wsX5_flag) := goodIn_app (goodIn_of _ (by decide +kernel)) ggX5_subtract_X5_flag
set_option maxRecDepth 20000 in
theorem ggX5_subtract_X5_signs : GoodIn wsX5_subtract wsX5_signs := goodIn_r _ [14, 7, 8, 9, 4, 10, 6, 15, 16, 17, 18, 19, 20, 21, 22] (by decide +kernel) (by decide +kernel)
