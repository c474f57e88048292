set_option maxRecDepth 20000 in
theorem ggX4_init_X0_init : GoodIn wsX4_init wsX0_init := goodIn_r _ [21, 22, 2, 3, 4, 23, 37] (by decide +kernel) (by decide +kernel)
set_option maxRecDepth 20000 in
theorem gX4_init_X0_init : GoodIn wsX4_init (wsX0_init) := ggX4_init_X0_init
set_option maxRecDepth 20000 in
theorem ggX4_init_X2_init : GoodIn wsX4_init wsX2_init := goodIn_r _ [26, 27, 2, 3, 28, 38] (by decide +kernel) (by decide +kernel)
set_option maxRecDepth 20000 in
theorem gX4_init_X2_init : GoodIn wsX4_init (wsX2_init) := ggX4_init_X2_init
theorem dX4_init_0 : decode cX4_init 0 = .ok (.aload_n 0, 1) := by decide +kernel
theorem dX4_init_1 : decode cX4_init 1 = .ok (.invokespecial 1, 3) := by decide +kernel
theorem dX4_init_4 : decode cX4_init 4 = .ok (.aload_n 0, 1) := by decide +kernel
theorem dX4_init_5 : decode cX4_init 5 = .ok (.sipush 1024, 3) := by decide +kernel
theorem dX4_init_8 : decode cX4_init 8 = .ok (.newarray .int, 2) := by decide +kernel
theorem dX4_init_10 : decode cX4_init 10 = .ok (.putfield 9, 3) := by decide +kernel
theorem dX4_init_13 : decode cX4_init 13 = .ok (.aload_n 0, 1) := by decide +kernel
theorem dX4_init_14 : decode cX4_init 14 = .ok (.new 13, 3) := by decide +kernel
theorem dX4_init_17 : decode cX4_init 17 = .ok (.dup, 1) := by decide +kernel
theorem dX4_init_18 : decode cX4_init 18 = .ok (.invokespecial 15, 3) := by decide +kernel
theorem dX4_init_21 : decode cX4_init 21 = .ok (.putfield 16, 3) := by decide +kernel
theorem dX4_init_24 : decode cX4_init 24 = .ok (.aload_n 0, 1) := by decide +kernel
theorem dX4_init_25 : decode cX4_init 25 = .ok (.new 20, 3) := by decide +kernel
theorem dX4_init_28 : decode cX4_init 28 = .ok (.dup, 1) := by decide +kernel
theorem dX4_init_29 : decode cX4_init 29 = .ok (.aload_n 0, 1) := by decide +kernel
theorem dX4_init_30 : decode cX4_init 30 = .ok (.getfield 16, 3) := by decide +kernel
theorem dX4_init_33 : decode cX4_init 33 = .ok (.invokespecial 22, 3) := by decide +kernel
theorem dX4_init_36 : decode cX4_init 36 = .ok (.putfield 25, 3) := by decide +kernel
theorem dX4_init_39 : decode cX4_init 39 = .ok (.aload_n 0, 1) := by decide +kernel
theorem dX4_init_40 : decode cX4_init 40 = .ok (.bipush 7, 2) := by decide +kernel
theorem dX4_init_42 : decode cX4_init 42 = .ok (.newarray .int, 2) := by decide +kernel
theorem dX4_init_44 : decode cX4_init 44 = .ok (.putfield 29, 3) := by decide +kernel
theorem dX4_init_47 : decode cX4_init 47 = .ok (.aload_n 0, 1) := by decide +kernel
theorem dX4_init_48 : decode cX4_init 48 = .ok (.iconst 0, 1) := by decide +kernel
theorem dX4_init_49 : decode cX4_init 49 = .ok (.putfield 32, 3) := by decide +kernel
theorem dX4_init_52 : decode cX4_init 52 = .ok (.aload_n 0, 1) := by decide +kernel
theorem dX4_init_53 : decode cX4_init 53 = .ok (.iconst 0, 1) := by decide +kernel
theorem dX4_init_54 : decode cX4_init 54 = .ok (.putfield 36, 3) := by decide +kernel
theorem dX4_init_57 : decode cX4_init 57 = .ok (.aload_n 0, 1) := by decide +kernel
theorem dX4_init_58 : decode cX4_init 58 = .ok (.iconst 0, 1) := by decide +kernel
theorem dX4_init_59 : decode cX4_init 59 = .ok (.putfield 39, 3) := by decide +kernel
theorem dX4_init_62 : decode cX4_init 62 = .ok (.aload_n 0, 1) := by decide +kernel
theorem dX4_init_63 : decode cX4_init 63 = .ok (.iconst 0, 1) := by decide +kernel
theorem dX4_init_64 : decode cX4_init 64 = .ok (.putfield 42, 3) := by decide +kernel
theorem dX4_init_67 : decode cX4_init 67 = .ok (.return_, 1) := by decide +kernel
set_option maxRecDepth 20000 in
theorem ggX4_code_X4_within : GoodIn wsX4_code wsX4_within := goodIn_r _ [6] (by decide +kernel) (by decide +kernel)
set_option maxRecDepth 20000 in
theorem gX4_code_X4_within : GoodIn wsX4_code (va_wsS RX4 46 yX4_within wsX4_within) := goodIn_app (goodIn_of _ (by decide +kernel)) ggX4_code_X4_within
set_option maxRecDepth 20000 in
theorem ggX4_code_X4_cellAt : GoodIn wsX4_code wsX4_cellAt := goodIn_r _ [10, 2, 11, 12, 13, 14, 15, 16, 17, 18] (by decide +kernel) (by decide +kernel)
set_option maxRecDepth 20000 in
theorem gX4_code_X4_cellAt : GoodIn wsX4_code (wsV RX4 51 RX4 yX4_cellAt wsX4_cellAt) := goodIn_app (goodIn_of _ (by decide +kernel)) ggX4_code_X4_cellAt
theorem dX4_code_0 : decode cX4_code 0 = .ok (.iload_n 1, 1) := by decide +kernel
theorem dX4_code_1 : decode cX4_code 1 = .ok (.sipush 1023, 3) := by decide +kernel
theorem dX4_code_4 : decode cX4_code 4 = .ok (.invokestatic 46, 3) := by decide +kernel
theorem dX4_code_7 : decode cX4_code 7 = .ok (.ifCond .eq 12, 3) := by decide +kernel
theorem dX4_code_10 : decode cX4_code 10 = .ok (.iload_n 2, 1) := by decide +kernel
theorem dX4_code_11 : decode cX4_code 11 = .ok (.ldc 50, 2) := by decide +kernel
theorem dX4_code_13 : decode cX4_code 13 = .ok (.invokestatic 46, 3) := by decide +kernel
theorem dX4_code_16 : decode cX4_code 16 = .ok (.ifCond .ne 5, 3) := by decide +kernel
theorem dX4_code_19 : decode cX4_code 19 = .ok (.iconst (-1), 1) := by decide +kernel
theorem dX4_code_20 : decode cX4_code 20 = .ok (.ireturn, 1) := by decide +kernel
theorem dX4_code_21 : decode cX4_code 21 = .ok (.aload_n 0, 1) := by decide +kernel
theorem dX4_code_22 : decode cX4_code 22 = .ok (.iload_n 1, 1) := by decide +kernel
theorem dX4_code_23 : decode cX4_code 23 = .ok (.invokevirtual 51, 3) := by decide +kernel
theorem dX4_code_26 : decode cX4_code 26 = .ok (.istore_n 3, 1) := by decide +kernel
theorem dX4_code_27 : decode cX4_code 27 = .ok (.aload_n 0, 1) := by decide +kernel
theorem dX4_code_28 : decode cX4_code 28 = .ok (.getfield 9, 3) := by decide +kernel
theorem dX4_code_31 : decode cX4_code 31 = .ok (.iload_n 1, 1) := by decide +kernel
theorem dX4_code_32 : decode cX4_code 32 = .ok (.sipush 1023, 3) := by decide +kernel
theorem dX4_code_35 : decode cX4_code 35 = .ok (.iand, 1) := by decide +kernel
theorem dX4_code_36 : decode cX4_code 36 = .ok (.iload_n 2, 1) := by decide +kernel
theorem dX4_code_37 : decode cX4_code 37 = .ok (.iastore, 1) := by decide +kernel
theorem dX4_code_38 : decode cX4_code 38 = .ok (.iload_n 3, 1) := by decide +kernel
theorem dX4_code_39 : decode cX4_code 39 = .ok (.ireturn, 1) := by decide +kernel
set_option maxRecDepth 20000 in
theorem ggX4_load_X4_within : GoodIn wsX4_load wsX4_within := goodIn_r _ [6] (by decide +kernel) (by decide +kernel)
set_option maxRecDepth 20000 in
theorem gX4_load_X4_within : GoodIn wsX4_load (va_wsS RX4 46 yX4_within wsX4_within) := goodIn_app (goodIn_of _ (by decide +kernel)) ggX4_load_X4_within
theorem dX4_load_0 : decode cX4_load 0 = .ok (.iload_n 1, 1) := by decide +kernel
theorem dX4_load_1 : decode cX4_load 1 = .ok (.sipush 1023, 3) := by decide +kernel
theorem dX4_load_4 : decode cX4_load 4 = .ok (.invokestatic 46, 3) := by decide +kernel
theorem dX4_load_7 : decode cX4_load 7 = .ok (.ifCond .ne 5, 3) := by decide +kernel
theorem dX4_load_10 : decode cX4_load 10 = .ok (.iconst (-1), 1) := by decide +kernel
theorem dX4_load_11 : decode cX4_load 11 = .ok (.ireturn, 1) := by decide +kernel
theorem dX4_load_12 : decode cX4_load 12 = .ok (.iconst 0, 1) := by decide +kernel
theorem dX4_load_13 : decode cX4_load 13 = .ok (.istore 4, 2) := by decide +kernel
theorem dX4_load_15 : decode cX4_load 15 = .ok (.iload 4, 2) := by decide +kernel
theorem dX4_load_17 : decode cX4_load 17 = .ok (.iconst 4, 1) := by decide +kernel
theorem dX4_load_18 : decode cX4_load 18 = .ok (.if_icmp .ge 36, 3) := by decide +kernel
theorem dX4_load_21 : decode cX4_load 21 = .ok (.aload_n 0, 1) := by decide +kernel
theorem dX4_load_22 : decode cX4_load 22 = .ok (.getfield 9, 3) := by decide +kernel
theorem dX4_load_25 : decode cX4_load 25 = .ok (.iload_n 1, 1) := by decide +kernel
theorem dX4_load_26 : decode cX4_load 26 = .ok (.iload 4, 2) := by decide +kernel
theorem dX4_load_28 : decode cX4_load 28 = .ok (.iadd, 1) := by decide +kernel
theorem dX4_load_29 : decode cX4_load 29 = .ok (.sipush 1023, 3) := by decide +kernel
theorem dX4_load_32 : decode cX4_load 32 = .ok (.iand, 1) := by decide +kernel
theorem dX4_load_33 : decode cX4_load 33 = .ok (.lload_n 2, 1) := by decide +kernel
theorem dX4_load_34 : decode cX4_load 34 = .ok (.bipush 48, 2) := by decide +kernel
theorem dX4_load_36 : decode cX4_load 36 = .ok (.bipush 16, 2) := by decide +kernel
theorem dX4_load_38 : decode cX4_load 38 = .ok (.iload 4, 2) := by decide +kernel
theorem dX4_load_40 : decode cX4_load 40 = .ok (.imul, 1) := by decide +kernel
theorem dX4_load_41 : decode cX4_load 41 = .ok (.isub, 1) := by decide +kernel
theorem dX4_load_42 : decode cX4_load 42 = .ok (.lshr, 1) := by decide +kernel
theorem dX4_load_43 : decode cX4_load 43 = .ok (.l2i, 1) := by decide +kernel
theorem dX4_load_44 : decode cX4_load 44 = .ok (.ldc 50, 2) := by decide +kernel
theorem dX4_load_46 : decode cX4_load 46 = .ok (.iand, 1) := by decide +kernel
theorem dX4_load_47 : decode cX4_load 47 = .ok (.iastore, 1) := by decide +kernel
theorem dX4_load_48 : decode cX4_load 48 = .ok (.iinc 4 1, 3) := by decide +kernel
theorem dX4_load_51 : decode cX4_load 51 = .ok (.goto (-36), 3) := by decide +kernel
theorem dX4_load_54 : decode cX4_load 54 = .ok (.iconst 1, 1) := by decide +kernel
theorem dX4_load_55 : decode cX4_load 55 = .ok (.ireturn, 1) := by decide +kernel
set_option maxRecDepth 20000 in
theorem ggX4_word_X4_within : GoodIn wsX4_word wsX4_within := goodIn_r _ [4] (by decide +kernel) (by decide +kernel)
set_option maxRecDepth 20000 in
theorem gX4_word_X4_within : GoodIn wsX4_word (va_wsS RX4 46 yX4_within wsX4_within) := goodIn_app (goodIn_of _ (by decide +kernel)) ggX4_word_X4_within
set_option maxRecDepth 20000 in
theorem ggX4_word_X4_cellAt : GoodIn wsX4_word wsX4_cellAt := goodIn_r _ [8, 9, 10, 11, 12, 13, 14, 15, 16, 17] (by decide +kernel) (by decide +kernel)
set_option maxRecDepth 20000 in
theorem gX4_word_X4_cellAt : GoodIn wsX4_word (wsV RX4 51 RX4 yX4_cellAt wsX4_cellAt) := goodIn_app (goodIn_of _ (by decide +kernel)) ggX4_word_X4_cellAt
theorem dX4_word_0 : decode cX4_word 0 = .ok (.iload_n 1, 1) := by decide +kernel
theorem dX4_word_1 : decode cX4_word 1 = .ok (.sipush 1023, 3) := by decide +kernel
theorem dX4_word_4 : decode cX4_word 4 = .ok (.invokestatic 46, 3) := by decide +kernel
theorem dX4_word_7 : decode cX4_word 7 = .ok (.ifCond .eq 11, 3) := by decide +kernel
theorem dX4_word_10 : decode cX4_word 10 = .ok (.aload_n 0, 1) := by decide +kernel
theorem dX4_word_11 : decode cX4_word 11 = .ok (.iload_n 1, 1) := by decide +kernel
theorem dX4_word_12 : decode cX4_word 12 = .ok (.invokevirtual 51, 3) := by decide +kernel
theorem dX4_word_15 : decode cX4_word 15 = .ok (.goto 4, 3) := by decide +kernel
theorem dX4_word_18 : decode cX4_word 18 = .ok (.iconst (-1), 1) := by decide +kernel
theorem dX4_word_19 : decode cX4_word 19 = .ok (.ireturn, 1) := by decide +kernel
set_option maxRecDepth 20000 in
theorem ggX4_put_X4_within : GoodIn wsX4_put wsX4_within := goodIn_r _ [5] (by decide +kernel) (by decide +kernel)
set_option maxRecDepth 20000 in
theorem gX4_put_X4_within : GoodIn wsX4_put (va_wsS RX4 46 yX4_within wsX4_within) := goodIn_app (goodIn_of _ (by decide +kernel)) ggX4_put_X4_within
set_option maxRecDepth 20000 in
theorem ggX4_put_X0_get : GoodIn wsX4_put wsX0_get := goodIn_r _ [10, 11, 24] (by decide +kernel) (by decide +kernel)
set_option maxRecDepth 20000 in
theorem gX4_put_X0_get : GoodIn wsX4_put (wsV RX4 55 RX0 yX0_get wsX0_get) := goodIn_app (goodIn_of _ (by decide +kernel)) ggX4_put_X0_get
set_option maxRecDepth 20000 in
theorem ggX4_put_X0_set : GoodIn wsX4_put wsX0_set := goodIn_r _ [15, 11, 24] (by decide +kernel) (by decide +kernel)
set_option maxRecDepth 20000 in
theorem gX4_put_X0_set : GoodIn wsX4_put (wsV RX4 58 RX0 yX0_set wsX0_set) := goodIn_app (goodIn_of _ (by decide +kernel)) ggX4_put_X0_set
theorem dX4_put_0 : decode cX4_put 0 = .ok (.iload_n 1, 1) := by decide +kernel
theorem dX4_put_1 : decode cX4_put 1 = .ok (.sipush 1023, 3) := by decide +kernel
theorem dX4_put_4 : decode cX4_put 4 = .ok (.invokestatic 46, 3) := by decide +kernel
theorem dX4_put_7 : decode cX4_put 7 = .ok (.ifCond .eq 13, 3) := by decide +kernel
theorem dX4_put_10 : decode cX4_put 10 = .ok (.iload_n 2, 1) := by decide +kernel
theorem dX4_put_11 : decode cX4_put 11 = .ok (.sipush 255, 3) := by decide +kernel
theorem dX4_put_14 : decode cX4_put 14 = .ok (.invokestatic 46, 3) := by decide +kernel
theorem dX4_put_17 : decode cX4_put 17 = .ok (.ifCond .ne 5, 3) := by decide +kernel
theorem dX4_put_20 : decode cX4_put 20 = .ok (.iconst (-1), 1) := by decide +kernel
theorem dX4_put_21 : decode cX4_put 21 = .ok (.ireturn, 1) := by decide +kernel
theorem dX4_put_22 : decode cX4_put 22 = .ok (.aload_n 0, 1) := by decide +kernel
theorem dX4_put_23 : decode cX4_put 23 = .ok (.getfield 16, 3) := by decide +kernel
theorem dX4_put_26 : decode cX4_put 26 = .ok (.iload_n 1, 1) := by decide +kernel
theorem dX4_put_27 : decode cX4_put 27 = .ok (.invokevirtual 55, 3) := by decide +kernel
theorem dX4_put_30 : decode cX4_put 30 = .ok (.istore_n 3, 1) := by decide +kernel
theorem dX4_put_31 : decode cX4_put 31 = .ok (.aload_n 0, 1) := by decide +kernel
theorem dX4_put_32 : decode cX4_put 32 = .ok (.getfield 16, 3) := by decide +kernel
theorem dX4_put_35 : decode cX4_put 35 = .ok (.iload_n 1, 1) := by decide +kernel
theorem dX4_put_36 : decode cX4_put 36 = .ok (.iload_n 2, 1) := by decide +kernel
theorem dX4_put_37 : decode cX4_put 37 = .ok (.invokevirtual 58, 3) := by decide +kernel
theorem dX4_put_40 : decode cX4_put 40 = .ok (.iload_n 3, 1) := by decide +kernel
theorem dX4_put_41 : decode cX4_put 41 = .ok (.ireturn, 1) := by decide +kernel
set_option maxRecDepth 20000 in
theorem ggX4_data_X4_within : GoodIn wsX4_data wsX4_within := goodIn_r _ [5] (by decide +kernel) (by decide +kernel)
set_option maxRecDepth 20000 in
theorem gX4_data_X4_within : GoodIn wsX4_data (va_wsS RX4 46 yX4_within wsX4_within) := goodIn_app (goodIn_of _ (by decide +kernel)) ggX4_data_X4_within
set_option maxRecDepth 20000 in
theorem ggX4_data_X0_get : GoodIn wsX4_data wsX0_get := goodIn_r _ [10, 11, 20] (by decide +kernel) (by decide +kernel)
set_option maxRecDepth 20000 in
theorem gX4_data_X0_get : GoodIn wsX4_data (wsV RX4 55 RX0 yX0_get wsX0_get) := goodIn_app (goodIn_of _ (by decide +kernel)) ggX4_data_X0_get
theorem dX4_data_0 : decode cX4_data 0 = .ok (.iload_n 1, 1) := by decide +kernel
theorem dX4_data_1 : decode cX4_data 1 = .ok (.sipush 1023, 3) := by decide +kernel
theorem dX4_data_4 : decode cX4_data 4 = .ok (.invokestatic 46, 3) := by decide +kernel
theorem dX4_data_7 : decode cX4_data 7 = .ok (.ifCond .eq 14, 3) := by decide +kernel
theorem dX4_data_10 : decode cX4_data 10 = .ok (.aload_n 0, 1) := by decide +kernel
theorem dX4_data_11 : decode cX4_data 11 = .ok (.getfield 16, 3) := by decide +kernel
theorem dX4_data_14 : decode cX4_data 14 = .ok (.iload_n 1, 1) := by decide +kernel
theorem dX4_data_15 : decode cX4_data 15 = .ok (.invokevirtual 55, 3) := by decide +kernel
theorem dX4_data_18 : decode cX4_data 18 = .ok (.goto 4, 3) := by decide +kernel
theorem dX4_data_21 : decode cX4_data 21 = .ok (.iconst (-1), 1) := by decide +kernel
theorem dX4_data_22 : decode cX4_data 22 = .ok (.ireturn, 1) := by decide +kernel
set_option maxRecDepth 20000 in
theorem ggX4_told_X0_pair : GoodIn wsX4_told wsX0_pair := goodIn_r _ [9, 10, 23] (by decide +kernel) (by decide +kernel)
set_option maxRecDepth 20000 in
theorem gX4_told_X0_pair : GoodIn wsX4_told (wsV RX4 62 RX0 yX0_pair wsX0_pair) := goodIn_app (goodIn_of _ (by decide +kernel)) ggX4_told_X0_pair
set_option maxRecDepth 20000 in
theorem ggX4_told_X0_get : GoodIn wsX4_told wsX0_get := goodIn_r _ [14, 10, 23] (by decide +kernel) (by decide +kernel)
set_option maxRecDepth 20000 in
theorem gX4_told_X0_get : GoodIn wsX4_told (wsV RX4 55 RX0 yX0_get wsX0_get) := goodIn_app (goodIn_of _ (by decide +kernel)) ggX4_told_X0_get
theorem dX4_told_0 : decode cX4_told 0 = .ok (.iload_n 1, 1) := by decide +kernel
theorem dX4_told_1 : decode cX4_told 1 = .ok (.tableswitch 120 0 7 #[47, 52, 62, 72, 82, 92, 102, 115], 47) := by decide +kernel
theorem dX4_told_48 : decode cX4_told 48 = .ok (.aload_n 0, 1) := by decide +kernel
theorem dX4_told_49 : decode cX4_told 49 = .ok (.getfield 32, 3) := by decide +kernel
theorem dX4_told_52 : decode cX4_told 52 = .ok (.ireturn, 1) := by decide +kernel
theorem dX4_told_53 : decode cX4_told 53 = .ok (.aload_n 0, 1) := by decide +kernel
theorem dX4_told_54 : decode cX4_told 54 = .ok (.getfield 16, 3) := by decide +kernel
theorem dX4_told_57 : decode cX4_told 57 = .ok (.bipush 93, 2) := by decide +kernel
theorem dX4_told_59 : decode cX4_told 59 = .ok (.invokevirtual 62, 3) := by decide +kernel
theorem dX4_told_62 : decode cX4_told 62 = .ok (.ireturn, 1) := by decide +kernel
theorem dX4_told_63 : decode cX4_told 63 = .ok (.aload_n 0, 1) := by decide +kernel
theorem dX4_told_64 : decode cX4_told 64 = .ok (.getfield 16, 3) := by decide +kernel
theorem dX4_told_67 : decode cX4_told 67 = .ok (.bipush 95, 2) := by decide +kernel
theorem dX4_told_69 : decode cX4_told 69 = .ok (.invokevirtual 55, 3) := by decide +kernel
theorem dX4_told_72 : decode cX4_told 72 = .ok (.ireturn, 1) := by decide +kernel
theorem dX4_told_73 : decode cX4_told 73 = .ok (.aload_n 0, 1) := by decide +kernel
theorem dX4_told_74 : decode cX4_told 74 = .ok (.getfield 16, 3) := by decide +kernel
theorem dX4_told_77 : decode cX4_told 77 = .ok (.bipush 26, 2) := by decide +kernel
theorem dX4_told_79 : decode cX4_told 79 = .ok (.invokevirtual 62, 3) := by decide +kernel
theorem dX4_told_82 : decode cX4_told 82 = .ok (.ireturn, 1) := by decide +kernel
theorem dX4_told_83 : decode cX4_told 83 = .ok (.aload_n 0, 1) := by decide +kernel
theorem dX4_told_84 : decode cX4_told 84 = .ok (.getfield 16, 3) := by decide +kernel
theorem dX4_told_87 : decode cX4_told 87 = .ok (.bipush 28, 2) := by decide +kernel
theorem dX4_told_89 : decode cX4_told 89 = .ok (.invokevirtual 62, 3) := by decide +kernel
theorem dX4_told_92 : decode cX4_told 92 = .ok (.ireturn, 1) := by decide +kernel
theorem dX4_told_93 : decode cX4_told 93 = .ok (.aload_n 0, 1) := by decide +kernel
theorem dX4_told_94 : decode cX4_told 94 = .ok (.getfield 16, 3) := by decide +kernel
theorem dX4_told_97 : decode cX4_told 97 = .ok (.bipush 30, 2) := by decide +kernel
theorem dX4_told_99 : decode cX4_told 99 = .ok (.invokevirtual 62, 3) := by decide +kernel
theorem dX4_told_102 : decode cX4_told 102 = .ok (.ireturn, 1) := by decide +kernel
theorem dX4_told_103 : decode cX4_told 103 = .ok (.aload_n 0, 1) := by decide +kernel
theorem dX4_told_104 : decode cX4_told 104 = .ok (.getfield 42, 3) := by decide +kernel
theorem dX4_told_107 : decode cX4_told 107 = .ok (.ifCond .eq 7, 3) := by decide +kernel
theorem dX4_told_110 : decode cX4_told 110 = .ok (.iconst 1, 1) := by decide +kernel
theorem dX4_told_111 : decode cX4_told 111 = .ok (.goto 4, 3) := by decide +kernel
theorem dX4_told_114 : decode cX4_told 114 = .ok (.iconst 0, 1) := by decide +kernel
theorem dX4_told_115 : decode cX4_told 115 = .ok (.ireturn, 1) := by decide +kernel
theorem dX4_told_116 : decode cX4_told 116 = .ok (.aload_n 0, 1) := by decide +kernel
theorem dX4_told_117 : decode cX4_told 117 = .ok (.getfield 36, 3) := by decide +kernel
theorem dX4_told_120 : decode cX4_told 120 = .ok (.ireturn, 1) := by decide +kernel
theorem dX4_told_121 : decode cX4_told 121 = .ok (.iconst (-1), 1) := by decide +kernel
theorem dX4_told_122 : decode cX4_told 122 = .ok (.ireturn, 1) := by decide +kernel
set_option maxRecDepth 20000 in
theorem ggX4_go_X4_within : GoodIn wsX4_go wsX4_within := goodIn_r _ [5] (by decide +kernel) (by decide +kernel)
set_option maxRecDepth 20000 in
theorem gX4_go_X4_within : GoodIn wsX4_go (va_wsS RX4 46 yX4_within wsX4_within) := goodIn_app (goodIn_of _ (by decide +kernel)) ggX4_go_X4_within
theorem dX4_go_0 : decode cX4_go 0 = .ok (.iload_n 1, 1) := by decide +kernel
theorem dX4_go_1 : decode cX4_go 1 = .ok (.sipush 1023, 3) := by decide +kernel
theorem dX4_go_4 : decode cX4_go 4 = .ok (.invokestatic 46, 3) := by decide +kernel
theorem dX4_go_7 : decode cX4_go 7 = .ok (.ifCond .ne 5, 3) := by decide +kernel
theorem dX4_go_10 : decode cX4_go 10 = .ok (.iconst (-1), 1) := by decide +kernel
theorem dX4_go_11 : decode cX4_go 11 = .ok (.ireturn, 1) := by decide +kernel
theorem dX4_go_12 : decode cX4_go 12 = .ok (.aload_n 0, 1) := by decide +kernel
theorem dX4_go_13 : decode cX4_go 13 = .ok (.getfield 32, 3) := by decide +kernel
theorem dX4_go_16 : decode cX4_go 16 = .ok (.istore_n 2, 1) := by decide +kernel
theorem dX4_go_17 : decode cX4_go 17 = .ok (.aload_n 0, 1) := by decide +kernel
theorem dX4_go_18 : decode cX4_go 18 = .ok (.iload_n 1, 1) := by decide +kernel
theorem dX4_go_19 : decode cX4_go 19 = .ok (.putfield 32, 3) := by decide +kernel
theorem dX4_go_22 : decode cX4_go 22 = .ok (.iload_n 2, 1) := by decide +kernel
theorem dX4_go_23 : decode cX4_go 23 = .ok (.ireturn, 1) := by decide +kernel
theorem dX4_ask_0 : decode cX4_ask 0 = .ok (.iload_n 1, 1) := by decide +kernel
theorem dX4_ask_1 : decode cX4_ask 1 = .ok (.iconst 1, 1) := by decide +kernel
theorem dX4_ask_2 : decode cX4_ask 2 = .ok (.if_icmp .lt 9, 3) := by decide +kernel
theorem dX4_ask_5 : decode cX4_ask 5 = .ok (.iload_n 1, 1) := by decide +kernel
theorem dX4_ask_6 : decode cX4_ask 6 = .ok (.bipush 25, 2) := by decide +kernel
theorem dX4_ask_8 : decode cX4_ask 8 = .ok (.if_icmp .le 5, 3) := by decide +kernel
theorem dX4_ask_11 : decode cX4_ask 11 = .ok (.iconst (-1), 1) := by decide +kernel
theorem dX4_ask_12 : decode cX4_ask 12 = .ok (.ireturn, 1) := by decide +kernel
theorem dX4_ask_13 : decode cX4_ask 13 = .ok (.iconst 1, 1) := by decide +kernel
theorem dX4_ask_14 : decode cX4_ask 14 = .ok (.iload_n 1, 1) := by decide +kernel
theorem dX4_ask_15 : decode cX4_ask 15 = .ok (.ishl, 1) := by decide +kernel
theorem dX4_ask_16 : decode cX4_ask 16 = .ok (.istore_n 2, 1) := by decide +kernel
theorem dX4_ask_17 : decode cX4_ask 17 = .ok (.aload_n 0, 1) := by decide +kernel
theorem dX4_ask_18 : decode cX4_ask 18 = .ok (.getfield 36, 3) := by decide +kernel
theorem dX4_ask_21 : decode cX4_ask 21 = .ok (.iload_n 2, 1) := by decide +kernel
theorem dX4_ask_22 : decode cX4_ask 22 = .ok (.iand, 1) := by decide +kernel
theorem dX4_ask_23 : decode cX4_ask 23 = .ok (.ifCond .eq 5, 3) := by decide +kernel
theorem dX4_ask_26 : decode cX4_ask 26 = .ok (.iconst 0, 1) := by decide +kernel
theorem dX4_ask_27 : decode cX4_ask 27 = .ok (.ireturn, 1) := by decide +kernel
theorem dX4_ask_28 : decode cX4_ask 28 = .ok (.aload_n 0, 1) := by decide +kernel
theorem dX4_ask_29 : decode cX4_ask 29 = .ok (.dup, 1) := by decide +kernel
theorem dX4_ask_30 : decode cX4_ask 30 = .ok (.getfield 36, 3) := by decide +kernel
theorem dX4_ask_33 : decode cX4_ask 33 = .ok (.iload_n 2, 1) := by decide +kernel
theorem dX4_ask_34 : decode cX4_ask 34 = .ok (.ior, 1) := by decide +kernel
theorem dX4_ask_35 : decode cX4_ask 35 = .ok (.putfield 36, 3) := by decide +kernel
theorem dX4_ask_38 : decode cX4_ask 38 = .ok (.iconst 1, 1) := by decide +kernel
theorem dX4_ask_39 : decode cX4_ask 39 = .ok (.ireturn, 1) := by decide +kernel
theorem ggX4_step_X4_advance_h : GoodIn wsX4_step [Cond.code yX4_advance cX4_advance 2 (some .int)] := goodIn_r _ [5] (by decide +kernel) (by decide +kernel)
set_option maxRecDepth 20000 in
theorem ggX4_step_X4_advance_1 : GoodIn wsX4_step wsX4_advance_r1 := goodIn_r _ [6, 7, 8, 9, 10, 11, 12, 13, 14, 15, 16, 17, 18, 19, 20, 21, 22, 4, 23, 24, 25, 26, 27, 28] (by decide +kernel) (by decide +kernel)
set_option maxRecDepth 20000 in
theorem ggX4_step_X4_advance_2 : GoodIn wsX4_step wsX4_advance_r2 := goodIn_r _ [29, 30, 31, 32, 33, 34, 35, 36, 37, 38, 39, 40, 41, 42, 43, 44, 45, 46, 47, 48, 49, 50, 51, 52] (by decide +kernel) (by decide +kernel)
set_option maxRecDepth 20000 in
theorem ggX4_step_X4_advance_3 : GoodIn wsX4_step wsX4_advance_r3 := goodIn_r _ [53, 54, 55, 56, 57, 58, 59, 60, 61, 62, 63, 64, 65, 66, 67, 68, 69, 70, 71, 72, 73, 74, 75, 76] (by decide +kernel) (by decide +kernel)
set_option maxRecDepth 20000 in
theorem ggX4_step_X4_advance_4 : GoodIn wsX4_step wsX4_advance_r4 := goodIn_r _ [77, 78, 79, 80, 81, 82, 83, 84, 85, 86, 87, 88, 89, 90, 91, 92, 93, 94, 95, 96, 97, 98, 99, 100] (by decide +kernel) (by decide +kernel)
set_option maxRecDepth 20000 in
theorem ggX4_step_X4_advance_5 : GoodIn wsX4_step wsX4_advance_r5 := goodIn_r _ [101, 102, 103, 104, 105, 106, 107, 108, 109, 110, 111, 112, 113, 114, 115, 116, 117, 118, 119, 120, 121, 122, 123, 124] (by decide +kernel) (by decide +kernel)
set_option maxRecDepth 20000 in
theorem ggX4_step_X4_advance_6 : GoodIn wsX4_step wsX4_advance_r6 := goodIn_r _ [125, 126, 127, 128, 129, 130, 131, 132, 133, 134, 135, 136, 137, 138, 139, 140, 141, 142, 143, 144, 145, 146, 147, 148] (by decide +kernel) (by decide +kernel)
set_option maxRecDepth 20000 in
theorem ggX4_step_X4_advance_7 : GoodIn wsX4_step wsX4_advance_r7 := goodIn_r _ [149, 150, 151, 152, 153, 154, 155, 156, 157, 158, 159, 160, 161, 162, 163, 164, 165, 166, 167, 168, 169, 170, 171, 172] (by decide +kernel) (by decide +kernel)
set_option maxRecDepth 20000 in
theorem ggX4_step_X4_advance_8 : GoodIn wsX4_step wsX4_advance_r8 := goodIn_r _ [173, 174, 175, 176, 177, 178, 179, 180, 181, 182, 183, 184, 185, 186, 187, 188, 189, 190, 191, 192, 193, 194, 195, 196] (by decide +kernel) (by decide +kernel)
set_option maxRecDepth 20000 in
theorem ggX4_step_X4_advance_9 : GoodIn wsX4_step wsX4_advance_r9 := goodIn_r _ [197, 198, 199, 200, 201, 202, 203, 204, 205, 206, 207, 208, 209, 210, 211, 212, 213, 214, 215, 216, 217, 218, 219, 220] (by decide +kernel) (by decide +kernel)
set_option maxRecDepth 20000 in
theorem ggX4_step_X4_advance_10 : GoodIn wsX4_step wsX4_advance_r10 := goodIn_r _ [221, 222, 223, 224, 225, 226, 227, 228, 229, 230, 231, 232, 233, 234, 235, 236, 237, 238, 239, 240, 241, 242, 243, 244] (by decide +kernel) (by decide +kernel)
set_option maxRecDepth 20000 in
theorem ggX4_step_X4_advance_11 : GoodIn wsX4_step wsX4_advance_r11 := goodIn_r _ [245, 246, 247, 248, 249, 250, 251, 252, 253, 254, 255, 256, 257, 258, 259, 260, 261, 262, 263, 264, 265, 266, 267, 268] (by decide +kernel) (by decide +kernel)
set_option maxRecDepth 20000 in
theorem ggX4_step_X4_advance_12 : GoodIn wsX4_step wsX4_advance_r12 := goodIn_r _ [269, 270, 271, 272, 273, 274, 275, 276, 277, 278, 279, 280, 281, 282, 283, 284, 285, 286, 287, 288, 289, 290, 291, 292] (by decide +kernel) (by decide +kernel)
set_option maxRecDepth 20000 in
theorem ggX4_step_X4_advance_13 : GoodIn wsX4_step wsX4_advance_r13 := goodIn_r _ [293, 294, 295, 296, 297, 298, 299, 300, 301, 302, 303, 304, 305, 306, 307, 308, 309, 310, 311, 312, 313, 314, 315, 316] (by decide +kernel) (by decide +kernel)
set_option maxRecDepth 20000 in
theorem ggX4_step_X4_advance_14 : GoodIn wsX4_step wsX4_advance_r14 := goodIn_r _ [317] (by decide +kernel) (by decide +kernel)
set_option maxRecDepth 20000 in
theorem ggX4_step_X4_advance_15 : GoodIn wsX4_step wsX40 := goodIn_r _ [318, 319, 320, 321, 322, 323, 324, 325] (by decide +kernel) (by decide +kernel)
set_option maxRecDepth 20000 in
theorem ggX4_step_X4_advance_16 : GoodIn wsX4_step wsX00 := goodIn_r _ [326] (by decide +kernel) (by decide +kernel)
set_option maxRecDepth 20000 in
theorem ggX4_step_X4_advance_17 : GoodIn wsX4_step wsX20 := goodIn_r _ [327] (by decide +kernel) (by decide +kernel)
theorem ggX4_step_X4_advance : GoodIn wsX4_step wsX4_advance := goodIn_app (a := [Cond.code yX4_advance cX4_advance 2 (some .int)]) ggX4_step_X4_advance_h (goodIn_app (goodIn_app (goodIn_app (goodIn_app ggX4_step_X4_advance_1 (goodIn_app ggX4_step_X4_advance_2 (goodIn_app ggX4_step_X4_advance_3 (goodIn_app ggX4_step_X4_advance_4 (goodIn_app ggX4_step_X4_advance_5 (goodIn_app ggX4_step_X4_advance_6 (goodIn_app ggX4_step_X4_advance_7 (goodIn_app ggX4_step_X4_advance_8 (goodIn_app ggX4_step_X4_advance_9 (goodIn_app ggX4_step_X4_advance_10 (goodIn_app ggX4_step_X4_advance_11 (goodIn_app ggX4_step_X4_advance_12 (goodIn_app ggX4_step_X4_advance_13 ggX4_step_X4_advance_14))))))))))))) ggX4_step_X4_advance_15) ggX4_step_X4_advance_16) ggX4_step_X4_advance_17)
set_option maxRecDepth 20000 in
theorem gX4_step_X4_advance : GoodIn wsX4_step (wsV RX4 65 RX4 yX4_advance wsX4_advance) := goodIn_app (goodIn_of _ (by decide +kernel)) ggX4_step_X4_advance
theorem dX4_step_0 : decode cX4_step 0 = .ok (.aload_n 0, 1) := by decide +kernel
theorem dX4_step_1 : decode cX4_step 1 = .ok (.invokevirtual 65, 3) := by decide +kernel
theorem dX4_step_4 : decode cX4_step 4 = .ok (.ireturn, 1) := by decide +kernel
theorem ggX4_run_X4_advance_h : GoodIn wsX4_run [Cond.code yX4_advance cX4_advance 2 (some .int)] := goodIn_r _ [5] (by decide +kernel) (by decide +kernel)
set_option maxRecDepth 20000 in
theorem ggX4_run_X4_advance_1 : GoodIn wsX4_run wsX4_advance_r1 := goodIn_r _ [6, 7, 8, 9, 10, 11, 12, 13, 14, 15, 16, 17, 18, 19, 20, 21, 22, 4, 23, 24, 25, 26, 27, 28] (by decide +kernel) (by decide +kernel)
set_option maxRecDepth 20000 in
theorem ggX4_run_X4_advance_2 : GoodIn wsX4_run wsX4_advance_r2 := goodIn_r _ [29, 30, 31, 32, 33, 34, 35, 36, 37, 38, 39, 40, 41, 42, 43, 44, 45, 46, 47, 48, 49, 50, 51, 52] (by decide +kernel) (by decide +kernel)
set_option maxRecDepth 20000 in
theorem ggX4_run_X4_advance_3 : GoodIn wsX4_run wsX4_advance_r3 := goodIn_r _ [53, 54, 55, 56, 57, 58, 59, 60, 61, 62, 63, 64, 65, 66, 67, 68, 69, 70, 71, 72, 73, 74, 75, 76] (by decide +kernel) (by decide +kernel)
set_option maxRecDepth 20000 in
theorem ggX4_run_X4_advance_4 : GoodIn wsX4_run wsX4_advance_r4 := goodIn_r _ [77, 78, 79, 80, 81, 82, 83, 84, 85, 86, 87, 88, 89, 90, 91, 92, 93, 94, 95, 96, 97, 98, 99, 100] (by decide +kernel) (by decide +kernel)
set_option maxRecDepth 20000 in
theorem ggX4_run_X4_advance_5 : GoodIn wsX4_run wsX4_advance_r5 := goodIn_r _ [101, 102, 103, 104, 105, 106, 107, 108, 109, 110, 111, 112, 113, 114, 115, 116, 117, 118, 119, 120, 121, 122, 123, 124] (by decide +kernel) (by decide +kernel)
set_option maxRecDepth 20000 in
theorem ggX4_run_X4_advance_6 : GoodIn wsX4_run wsX4_advance_r6 := goodIn_r _ [125, 126, 127, 128, 129, 130, 131, 132, 133, 134, 135, 136, 137, 138, 139, 140, 141, 142, 143, 144, 145, 146, 147, 148] (by decide +kernel) (by decide +kernel)
set_option maxRecDepth 20000 in
theorem ggX4_run_X4_advance_7 : GoodIn wsX4_run wsX4_advance_r7 := goodIn_r _ [149, 150, 151, 152, 153, 154, 155, 156, 157, 158, 159, 160, 161, 162, 163, 164, 165, 166, 167, 168, 169, 170, 171, 172] (by decide +kernel) (by decide +kernel)
set_option maxRecDepth 20000 in
theorem ggX4_run_X4_advance_8 : GoodIn wsX4_run wsX4_advance_r8 := goodIn_r _ [173, 174, 175, 176, 177, 178, 179, 180, 181, 182, 183, 184, 185, 186, 187, 188, 189, 190, 191, 192, 193, 194, 195, 196] (by decide +kernel) (by decide +kernel)
set_option maxRecDepth 20000 in
theorem ggX4_run_X4_advance_9 : GoodIn wsX4_run wsX4_advance_r9 := goodIn_r _ [197, 198, 199, 200, 201, 202, 203, 204, 205, 206, 207, 208, 209, 210, 211, 212, 213, 214, 215, 216, 217, 218, 219, 220] (by decide +kernel) (by decide +kernel)
set_option maxRecDepth 20000 in
theorem ggX4_run_X4_advance_10 : GoodIn wsX4_run wsX4_advance_r10 := goodIn_r _ [221, 222, 223, 224, 225, 226, 227, 228, 229, 230, 231, 232, 233, 234, 235, 236, 237, 238, 239, 240, 241, 242, 243, 244] (by decide +kernel) (by decide +kernel)
set_option maxRecDepth 20000 in
theorem ggX4_run_X4_advance_11 : GoodIn wsX4_run wsX4_advance_r11 := goodIn_r _ [245, 246, 247, 248, 249, 250, 251, 252, 253, 254, 255, 256, 257, 258, 259, 260, 261, 262, 263, 264, 265, 266, 267, 268] (by decide +kernel) (by decide +kernel)
set_option maxRecDepth 20000 in
theorem ggX4_run_X4_advance_12 : GoodIn wsX4_run wsX4_advance_r12 := goodIn_r _ [269, 270, 271, 272, 273, 274, 275, 276, 277, 278, 279, 280, 281, 282, 283, 284, 285, 286, 287, 288, 289, 290, 291, 292] (by decide +kernel) (by decide +kernel)
set_option maxRecDepth 20000 in
theorem ggX4_run_X4_advance_13 : GoodIn wsX4_run wsX4_advance_r13 := goodIn_r _ [293, 294, 295, 296, 297, 298, 299, 300, 301, 302, 303, 304, 305, 306, 307, 308, 309, 310, 311, 312, 313, 314, 315, 316] (by decide +kernel) (by decide +kernel)
set_option maxRecDepth 20000 in
theorem ggX4_run_X4_advance_14 : GoodIn wsX4_run wsX4_advance_r14 := goodIn_r _ [317] (by decide +kernel) (by decide +kernel)
set_option maxRecDepth 20000 in
theorem ggX4_run_X4_advance_15 : GoodIn wsX4_run wsX40 := goodIn_r _ [318, 319, 320, 321, 322, 323, 324, 325] (by decide +kernel) (by decide +kernel)
set_option maxRecDepth 20000 in
theorem ggX4_run_X4_advance_16 : GoodIn wsX4_run wsX00 := goodIn_r _ [326] (by decide +kernel) (by decide +kernel)
set_option maxRecDepth 20000 in
theorem ggX4_run_X4_advance_17 : GoodIn wsX4_run wsX20 := goodIn_r _ [327] (by decide +kernel) (by decide +kernel)
theorem ggX4_run_X4_advance : GoodIn wsX4_run wsX4_advance := goodIn_app (a := [Cond.code yX4_advance cX4_advance 2 (some .int)]) ggX4_run_X4_advance_h (goodIn_app (goodIn_app (goodIn_app (goodIn_app ggX4_run_X4_advance_1 (goodIn_app ggX4_run_X4_advance_2 (goodIn_app ggX4_run_X4_advance_3 (goodIn_app ggX4_run_X4_advance_4 (goodIn_app ggX4_run_X4_advance_5 (goodIn_app ggX4_run_X4_advance_6 (goodIn_app ggX4_run_X4_advance_7 (goodIn_app ggX4_run_X4_advance_8 (goodIn_app ggX4_run_X4_advance_9 (goodIn_app ggX4_run_X4_advance_10 (goodIn_app ggX4_run_X4_advance_11 (goodIn_app ggX4_run_X4_advance_12 (goodIn_app ggX4_run_X4_advance_13 ggX4_run_X4_advance_14))))))))))))) ggX4_run_X4_advance_15) ggX4_run_X4_advance_16) ggX4_run_X4_advance_17)
set_option maxRecDepth 20000 in
theorem gX4_run_X4_advance : GoodIn wsX4_run (wsV RX4 65 RX4 yX4_advance wsX4_advance) := goodIn_app (goodIn_of _ (by decide +kernel)) ggX4_run_X4_advance
theorem dX4_run_0 : decode cX4_run 0 = .ok (.iload_n 1, 1) := by decide +kernel
theorem dX4_run_1 : decode cX4_run 1 = .ok (.iconst 1, 1) := by decide +kernel
theorem dX4_run_2 : decode cX4_run 2 = .ok (.if_icmp .lt 10, 3) := by decide +kernel
theorem dX4_run_5 : decode cX4_run 5 = .ok (.iload_n 1, 1) := by decide +kernel
theorem dX4_run_6 : decode cX4_run 6 = .ok (.sipush 3000, 3) := by decide +kernel
theorem dX4_run_9 : decode cX4_run 9 = .ok (.if_icmp .le 5, 3) := by decide +kernel
theorem dX4_run_12 : decode cX4_run 12 = .ok (.iconst (-1), 1) := by decide +kernel
theorem dX4_run_13 : decode cX4_run 13 = .ok (.ireturn, 1) := by decide +kernel
theorem dX4_run_14 : decode cX4_run 14 = .ok (.iconst 0, 1) := by decide +kernel
theorem dX4_run_15 : decode cX4_run 15 = .ok (.istore_n 2, 1) := by decide +kernel
theorem dX4_run_16 : decode cX4_run 16 = .ok (.iload_n 2, 1) := by decide +kernel
theorem dX4_run_17 : decode cX4_run 17 = .ok (.iload_n 1, 1) := by decide +kernel
theorem dX4_run_18 : decode cX4_run 18 = .ok (.if_icmp .ge 25, 3) := by decide +kernel
theorem dX4_run_21 : decode cX4_run 21 = .ok (.aload_n 0, 1) := by decide +kernel
theorem dX4_run_22 : decode cX4_run 22 = .ok (.invokevirtual 65, 3) := by decide +kernel
theorem dX4_run_25 : decode cX4_run 25 = .ok (.istore_n 3, 1) := by decide +kernel
theorem dX4_run_26 : decode cX4_run 26 = .ok (.iload_n 3, 1) := by decide +kernel
theorem dX4_run_27 : decode cX4_run 27 = .ok (.ifCond .eq 10, 3) := by decide +kernel
theorem dX4_run_30 : decode cX4_run 30 = .ok (.iload_n 3, 1) := by decide +kernel
theorem dX4_run_31 : decode cX4_run 31 = .ok (.iconst 1, 1) := by decide +kernel
theorem dX4_run_32 : decode cX4_run 32 = .ok (.if_icmp .eq 5, 3) := by decide +kernel
theorem dX4_run_35 : decode cX4_run 35 = .ok (.iload_n 2, 1) := by decide +kernel
theorem dX4_run_36 : decode cX4_run 36 = .ok (.ireturn, 1) := by decide +kernel
theorem dX4_run_37 : decode cX4_run 37 = .ok (.iinc 2 1, 3) := by decide +kernel
theorem dX4_run_40 : decode cX4_run 40 = .ok (.goto (-24), 3) := by decide +kernel
theorem dX4_run_43 : decode cX4_run 43 = .ok (.iload_n 1, 1) := by decide +kernel
theorem dX4_run_44 : decode cX4_run 44 = .ok (.ireturn, 1) := by decide +kernel
theorem dX4_ended_0 : decode cX4_ended 0 = .ok (.aload_n 0, 1) := by decide +kernel
theorem dX4_ended_1 : decode cX4_ended 1 = .ok (.getfield 39, 3) := by decide +kernel
theorem dX4_ended_4 : decode cX4_ended 4 = .ok (.ireturn, 1) := by decide +kernel
set_option maxRecDepth 20000 in
theorem ggX4_reads_X4_within : GoodIn wsX4_reads wsX4_within := goodIn_r _ [5] (by decide +kernel) (by decide +kernel)
set_option maxRecDepth 20000 in
theorem gX4_reads_X4_within : GoodIn wsX4_reads (va_wsS RX4 46 yX4_within wsX4_within) := goodIn_app (goodIn_of _ (by decide +kernel)) ggX4_reads_X4_within
set_option maxRecDepth 20000 in
theorem ggX4_reads_X3_groupOf : GoodIn wsX4_reads wsX3_groupOf := goodIn_r _ [9, 10, 11, 8, 12, 13, 14, 15, 16, 17, 18, 19, 20, 21, 22, 23, 24, 25, 26, 27, 28, 29, 30, 31, 32, 33, 34, 35, 36] (by decide +kernel) (by decide +kernel)
set_option maxRecDepth 20000 in
theorem gX4_reads_X3_groupOf : GoodIn wsX4_reads (va_wsS RX4 69 yX3_groupOf wsX3_groupOf) := goodIn_app (goodIn_of _ (by decide +kernel)) ggX4_reads_X3_groupOf
set_option maxRecDepth 20000 in
theorem ggX4_reads_X3_hasNext : GoodIn wsX4_reads wsX3_hasNext := goodIn_r _ [39, 40, 41, 42, 43] (by decide +kernel) (by decide +kernel)
set_option maxRecDepth 20000 in
theorem gX4_reads_X3_hasNext : GoodIn wsX4_reads (va_wsS RX4 74 yX3_hasNext wsX3_hasNext) := goodIn_app (goodIn_of _ (by decide +kernel)) ggX4_reads_X3_hasNext
theorem dX4_reads_0 : decode cX4_reads 0 = .ok (.iload_n 1, 1) := by decide +kernel
theorem dX4_reads_1 : decode cX4_reads 1 = .ok (.ldc 50, 2) := by decide +kernel
theorem dX4_reads_3 : decode cX4_reads 3 = .ok (.invokestatic 46, 3) := by decide +kernel
theorem dX4_reads_6 : decode cX4_reads 6 = .ok (.ifCond .ne 5, 3) := by decide +kernel
theorem dX4_reads_9 : decode cX4_reads 9 = .ok (.iconst (-1), 1) := by decide +kernel
theorem dX4_reads_10 : decode cX4_reads 10 = .ok (.ireturn, 1) := by decide +kernel
theorem dX4_reads_11 : decode cX4_reads 11 = .ok (.iload_n 2, 1) := by decide +kernel
theorem dX4_reads_12 : decode cX4_reads 12 = .ok (.lookupswitch 54 #[(0, 28), (1, 41)], 28) := by decide +kernel
theorem dX4_reads_40 : decode cX4_reads 40 = .ok (.iload_n 1, 1) := by decide +kernel
theorem dX4_reads_41 : decode cX4_reads 41 = .ok (.invokestatic 69, 3) := by decide +kernel
theorem dX4_reads_44 : decode cX4_reads 44 = .ok (.ifCond .ne 7, 3) := by decide +kernel
theorem dX4_reads_47 : decode cX4_reads 47 = .ok (.iconst 1, 1) := by decide +kernel
theorem dX4_reads_48 : decode cX4_reads 48 = .ok (.goto 4, 3) := by decide +kernel
theorem dX4_reads_51 : decode cX4_reads 51 = .ok (.iconst 0, 1) := by decide +kernel
theorem dX4_reads_52 : decode cX4_reads 52 = .ok (.ireturn, 1) := by decide +kernel
theorem dX4_reads_53 : decode cX4_reads 53 = .ok (.iload_n 1, 1) := by decide +kernel
theorem dX4_reads_54 : decode cX4_reads 54 = .ok (.invokestatic 74, 3) := by decide +kernel
theorem dX4_reads_57 : decode cX4_reads 57 = .ok (.ifCond .eq 7, 3) := by decide +kernel
theorem dX4_reads_60 : decode cX4_reads 60 = .ok (.iconst 1, 1) := by decide +kernel
theorem dX4_reads_61 : decode cX4_reads 61 = .ok (.goto 4, 3) := by decide +kernel
theorem dX4_reads_64 : decode cX4_reads 64 = .ok (.iconst 0, 1) := by decide +kernel
theorem dX4_reads_65 : decode cX4_reads 65 = .ok (.ireturn, 1) := by decide +kernel
theorem dX4_reads_66 : decode cX4_reads 66 = .ok (.iconst (-1), 1) := by decide +kernel
theorem dX4_reads_67 : decode cX4_reads 67 = .ok (.ireturn, 1) := by decide +kernel
set_option maxRecDepth 20000 in
theorem ggX4_digest_X0_get : GoodIn wsX4_digest wsX0_get := goodIn_r _ [7, 8, 17] (by decide +kernel) (by decide +kernel)
set_option maxRecDepth 20000 in
theorem gX4_digest_X0_get : GoodIn wsX4_digest (wsV RX4 55 RX0 yX0_get wsX0_get) := goodIn_app (goodIn_of _ (by decide +kernel)) ggX4_digest_X0_get
theorem dX4_digest_0 : decode cX4_digest 0 = .ok (.bipush 7, 2) := by decide +kernel
theorem dX4_digest_2 : decode cX4_digest 2 = .ok (.istore_n 1, 1) := by decide +kernel
theorem dX4_digest_3 : decode cX4_digest 3 = .ok (.iconst 0, 1) := by decide +kernel
theorem dX4_digest_4 : decode cX4_digest 4 = .ok (.istore_n 2, 1) := by decide +kernel
theorem dX4_digest_5 : decode cX4_digest 5 = .ok (.iload_n 2, 1) := by decide +kernel
theorem dX4_digest_6 : decode cX4_digest 6 = .ok (.sipush 1023, 3) := by decide +kernel
theorem dX4_digest_9 : decode cX4_digest 9 = .ok (.if_icmp .gt 23, 3) := by decide +kernel
theorem dX4_digest_12 : decode cX4_digest 12 = .ok (.bipush 31, 2) := by decide +kernel
theorem dX4_digest_14 : decode cX4_digest 14 = .ok (.iload_n 1, 1) := by decide +kernel
theorem dX4_digest_15 : decode cX4_digest 15 = .ok (.imul, 1) := by decide +kernel
theorem dX4_digest_16 : decode cX4_digest 16 = .ok (.aload_n 0, 1) := by decide +kernel
theorem dX4_digest_17 : decode cX4_digest 17 = .ok (.getfield 16, 3) := by decide +kernel
theorem dX4_digest_20 : decode cX4_digest 20 = .ok (.iload_n 2, 1) := by decide +kernel
theorem dX4_digest_21 : decode cX4_digest 21 = .ok (.invokevirtual 55, 3) := by decide +kernel
theorem dX4_digest_24 : decode cX4_digest 24 = .ok (.iadd, 1) := by decide +kernel
theorem dX4_digest_25 : decode cX4_digest 25 = .ok (.istore_n 1, 1) := by decide +kernel
theorem dX4_digest_26 : decode cX4_digest 26 = .ok (.iinc 2 1, 3) := by decide +kernel
theorem dX4_digest_29 : decode cX4_digest 29 = .ok (.goto (-24), 3) := by decide +kernel
theorem dX4_digest_32 : decode cX4_digest 32 = .ok (.bipush 31, 2) := by decide +kernel
theorem dX4_digest_34 : decode cX4_digest 34 = .ok (.iload_n 1, 1) := by decide +kernel
theorem dX4_digest_35 : decode cX4_digest 35 = .ok (.imul, 1) := by decide +kernel
theorem dX4_digest_36 : decode cX4_digest 36 = .ok (.aload_n 0, 1) := by decide +kernel
theorem dX4_digest_37 : decode cX4_digest 37 = .ok (.getfield 32, 3) := by decide +kernel
theorem dX4_digest_40 : decode cX4_digest 40 = .ok (.iadd, 1) := by decide +kernel
theorem dX4_digest_41 : decode cX4_digest 41 = .ok (.ireturn, 1) := by decide +kernel
theorem dX4_count_0 : decode cX4_count 0 = .ok (.iload_n 1, 1) := by decide +kernel
theorem dX4_count_1 : decode cX4_count 1 = .ok (.ifCond .lt 18, 3) := by decide +kernel
theorem dX4_count_4 : decode cX4_count 4 = .ok (.iload_n 1, 1) := by decide +kernel
theorem dX4_count_5 : decode cX4_count 5 = .ok (.bipush 7, 2) := by decide +kernel
theorem dX4_count_7 : decode cX4_count 7 = .ok (.if_icmp .ge 12, 3) := by decide +kernel
theorem dX4_count_10 : decode cX4_count 10 = .ok (.aload_n 0, 1) := by decide +kernel
theorem dX4_count_11 : decode cX4_count 11 = .ok (.getfield 29, 3) := by decide +kernel
theorem dX4_count_14 : decode cX4_count 14 = .ok (.iload_n 1, 1) := by decide +kernel
theorem dX4_count_15 : decode cX4_count 15 = .ok (.iaload, 1) := by decide +kernel
theorem dX4_count_16 : decode cX4_count 16 = .ok (.goto 4, 3) := by decide +kernel
theorem dX4_count_19 : decode cX4_count 19 = .ok (.iconst (-1), 1) := by decide +kernel
theorem dX4_count_20 : decode cX4_count 20 = .ok (.ireturn, 1) := by decide +kernel
theorem dX4_within_0 : decode cX4_within 0 = .ok (.iload_n 0, 1) := by decide +kernel
theorem dX4_within_1 : decode cX4_within 1 = .ok (.ifCond .lt 12, 3) := by decide +kernel
theorem dX4_within_4 : decode cX4_within 4 = .ok (.iload_n 0, 1) := by decide +kernel
theorem dX4_within_5 : decode cX4_within 5 = .ok (.iload_n 1, 1) := by decide +kernel
theorem dX4_within_6 : decode cX4_within 6 = .ok (.if_icmp .gt 7, 3) := by decide +kernel
theorem dX4_within_9 : decode cX4_within 9 = .ok (.iconst 1, 1) := by decide +kernel
theorem dX4_within_10 : decode cX4_within 10 = .ok (.goto 4, 3) := by decide +kernel
theorem dX4_within_13 : decode cX4_within 13 = .ok (.iconst 0, 1) := by decide +kernel
theorem dX4_within_14 : decode cX4_within 14 = .ok (.ireturn, 1) := by decide +kernel
theorem dX4_cellAt_0 : decode cX4_cellAt 0 = .ok (.aload_n 0, 1) := by decide +kernel
theorem dX4_cellAt_1 : decode cX4_cellAt 1 = .ok (.getfield 9, 3) := by decide +kernel
theorem dX4_cellAt_4 : decode cX4_cellAt 4 = .ok (.iload_n 1, 1) := by decide +kernel
theorem dX4_cellAt_5 : decode cX4_cellAt 5 = .ok (.sipush 1023, 3) := by decide +kernel
theorem dX4_cellAt_8 : decode cX4_cellAt 8 = .ok (.iand, 1) := by decide +kernel
theorem dX4_cellAt_9 : decode cX4_cellAt 9 = .ok (.iaload, 1) := by decide +kernel
theorem dX4_cellAt_10 : decode cX4_cellAt 10 = .ok (.ireturn, 1) := by decide +kernel
set_option maxRecDepth 20000 in
theorem ggX4_advance_X0_flag : GoodIn wsX4_advance wsX0_flag := goodIn_r _ [13, 14, 322] (by decide +kernel) (by decide +kernel)
set_option maxRecDepth 20000 in
theorem gX4_advance_X0_flag : GoodIn wsX4_advance (wsV RX4 80 RX0 yX0_flag wsX0_flag) := goodIn_app (goodIn_of _ (by decide +kernel)) ggX4_advance_X0_flag
set_option maxRecDepth 20000 in
theorem ggX4_advance_X4_enterLeast : GoodIn wsX4_advance wsX4_enterLeast := goodIn_r _ [19, 3, 5, 1, 20, 21, 22, 12, 23, 24, 25, 26, 27, 14, 28, 29, 30, 31, 32, 33, 34, 35, 36, 37, 38, 39, 40, 41, 42, 43, 44, 45, 46, 47, 48, 49, 50, 51, 52, 314, 315, 316, 317, 318, 319, 320, 321, 322] (by decide +kernel) (by decide +kernel)
set_option maxRecDepth 20000 in
theorem gX4_advance_X4_enterLeast : GoodIn wsX4_advance (wsV RX4 83 RX4 yX4_enterLeast wsX4_enterLeast) := goodIn_app (goodIn_of _ (by decide +kernel)) ggX4_advance_X4_enterLeast
set_option maxRecDepth 20000 in
theorem ggX4_advance_X4_cellAt : GoodIn wsX4_advance wsX4_cellAt := goodIn_r _ [56, 57, 314, 315, 316, 317, 318, 319, 320, 321] (by decide +kernel) (by decide +kernel)
set_option maxRecDepth 20000 in
theorem gX4_advance_X4_cellAt : GoodIn wsX4_advance (wsV RX4 51 RX4 yX4_cellAt wsX4_cellAt) := goodIn_app (goodIn_of _ (by decide +kernel)) ggX4_advance_X4_cellAt
theorem ggX4_advance_X4_perform_h : GoodIn wsX4_advance [Cond.code yX4_perform cX4_perform 2 (some .int)] := goodIn_r _ [61] (by decide +kernel) (by decide +kernel)
set_option maxRecDepth 20000 in
theorem ggX4_advance_X4_perform_1 : GoodIn wsX4_advance wsX4_perform_r1 := goodIn_r _ [62, 63, 64, 65, 66, 67, 68, 69, 70, 71, 72, 73, 74, 75, 76, 77, 78, 79, 80, 81, 82, 83, 84, 85] (by decide +kernel) (by decide +kernel)
set_option maxRecDepth 20000 in
theorem ggX4_advance_X4_perform_2 : GoodIn wsX4_advance wsX4_perform_r2 := goodIn_r _ [86, 87, 88, 89, 90, 91, 92, 93, 94, 95, 18, 96, 5, 97, 98, 99, 100, 3, 101, 25, 26, 12, 27, 14] (by decide +kernel) (by decide +kernel)
set_option maxRecDepth 20000 in
theorem ggX4_advance_X4_perform_3 : GoodIn wsX4_advance wsX4_perform_r3 := goodIn_r _ [102, 33, 34, 35, 103, 104, 105, 106, 107, 108, 109, 50, 51, 52, 110, 111, 112, 113, 114, 115, 116, 117, 118, 119] (by decide +kernel) (by decide +kernel)
set_option maxRecDepth 20000 in
theorem ggX4_advance_X4_perform_4 : GoodIn wsX4_advance wsX4_perform_r4 := goodIn_r _ [120, 121, 122, 123, 124, 125, 126, 127, 128, 129, 130, 131, 132, 133, 134, 135, 136, 137, 138, 139, 140, 141, 142, 143] (by decide +kernel) (by decide +kernel)
set_option maxRecDepth 20000 in
theorem ggX4_advance_X4_perform_5 : GoodIn wsX4_advance wsX4_perform_r5 := goodIn_r _ [144, 145, 9, 10, 11, 13, 146, 147, 148, 149, 150, 151, 152, 153, 154, 155, 156, 157, 158, 29, 30, 31, 159, 160] (by decide +kernel) (by decide +kernel)
set_option maxRecDepth 20000 in
theorem ggX4_advance_X4_perform_6 : GoodIn wsX4_advance wsX4_perform_r6 := goodIn_r _ [161, 162, 163, 164, 165, 166, 8, 53, 54, 55, 56, 57, 167, 168, 169, 170, 171, 172, 173, 174, 175, 176, 177, 178] (by decide +kernel) (by decide +kernel)
set_option maxRecDepth 20000 in
theorem ggX4_advance_X4_perform_7 : GoodIn wsX4_advance wsX4_perform_r7 := goodIn_r _ [179, 180, 181, 182, 183, 184, 185, 186, 187, 188, 189, 190, 191, 192, 193, 194, 195, 196, 197, 198, 199, 200, 201, 202] (by decide +kernel) (by decide +kernel)
set_option maxRecDepth 20000 in
theorem ggX4_advance_X4_perform_8 : GoodIn wsX4_advance wsX4_perform_r8 := goodIn_r _ [203, 204, 205, 206, 207, 208, 209, 41, 42, 43, 44, 45, 46, 47, 48, 49, 28, 210, 211, 212, 213, 214, 215, 216] (by decide +kernel) (by decide +kernel)
set_option maxRecDepth 20000 in
theorem ggX4_advance_X4_perform_9 : GoodIn wsX4_advance wsX4_perform_r9 := goodIn_r _ [217, 218, 219, 220, 221, 222, 223, 224, 225, 226, 227, 228, 229, 230, 231, 232, 233, 234, 235, 236, 237, 238, 239, 240] (by decide +kernel) (by decide +kernel)
set_option maxRecDepth 20000 in
theorem ggX4_advance_X4_perform_10 : GoodIn wsX4_advance wsX4_perform_r10 := goodIn_r _ [241, 242, 243, 244, 245, 246, 247, 24, 32, 248, 249, 250, 251, 252, 253, 254, 255, 256, 257, 258, 259, 260, 261, 262] (by decide +kernel) (by decide +kernel)
set_option maxRecDepth 20000 in
theorem ggX4_advance_X4_perform_11 : GoodIn wsX4_advance wsX4_perform_r11 := goodIn_r _ [263, 264, 265, 266, 267, 268, 269, 270, 271, 272, 273, 274, 275, 276, 277, 278, 279, 280, 281, 282, 283, 284, 285, 286] (by decide +kernel) (by decide +kernel)
set_option maxRecDepth 20000 in
theorem ggX4_advance_X4_perform_12 : GoodIn wsX4_advance wsX4_perform_r12 := goodIn_r _ [287, 288, 289, 290, 291, 292, 293, 294, 295, 296, 297, 20, 21, 22, 23, 298, 299, 300, 301, 302, 303, 304, 305, 306] (by decide +kernel) (by decide +kernel)
set_option maxRecDepth 20000 in
theorem ggX4_advance_X4_perform_13 : GoodIn wsX4_advance wsX4_perform_r13 := goodIn_r _ [307, 308, 309, 310, 311, 312, 313, 7] (by decide +kernel) (by decide +kernel)
set_option maxRecDepth 20000 in
theorem ggX4_advance_X4_perform_14 : GoodIn wsX4_advance wsX40 := goodIn_r _ [314, 315, 316, 317, 318, 319, 320, 321] (by decide +kernel) (by decide +kernel)
set_option maxRecDepth 20000 in
theorem ggX4_advance_X4_perform_15 : GoodIn wsX4_advance wsX00 := goodIn_r _ [322] (by decide +kernel) (by decide +kernel)
set_option maxRecDepth 20000 in
theorem ggX4_advance_X4_perform_16 : GoodIn wsX4_advance wsX20 := goodIn_r _ [323] (by decide +kernel) (by decide +kernel)
theorem ggX4_advance_X4_perform : GoodIn wsX4_advance wsX4_perform := goodIn_app (a := [Cond.code yX4_perform cX4_perform 2 (some .int)]) ggX4_advance_X4_perform_h (goodIn_app (goodIn_app (goodIn_app (goodIn_app ggX4_advance_X4_perform_1 (goodIn_app ggX4_advance_X4_perform_2 (goodIn_app ggX4_advance_X4_perform_3 (goodIn_app ggX4_advance_X4_perform_4 (goodIn_app ggX4_advance_X4_perform_5 (goodIn_app ggX4_advance_X4_perform_6 (goodIn_app ggX4_advance_X4_perform_7 (goodIn_app ggX4_advance_X4_perform_8 (goodIn_app ggX4_advance_X4_perform_9 (goodIn_app ggX4_advance_X4_perform_10 (goodIn_app ggX4_advance_X4_perform_11 (goodIn_app ggX4_advance_X4_perform_12 ggX4_advance_X4_perform_13)))))))))))) ggX4_advance_X4_perform_14) ggX4_advance_X4_perform_15) ggX4_advance_X4_perform_16)
set_option maxRecDepth 20000 in
theorem gX4_advance_X4_perform : GoodIn wsX4_advance (wsV RX4 86 RX4 yX4_perform wsX4_perform) := goodIn_app (goodIn_of _ (by decide +kernel)) ggX4_advance_X4_perform
theorem dX4_advance_0 : decode cX4_advance 0 = .ok (.aload_n 0, 1) := by decide +kernel
theorem dX4_advance_1 : decode cX4_advance 1 = .ok (.getfield 36, 3) := by decide +kernel
theorem dX4_advance_4 : decode cX4_advance 4 = .ok (.ifCond .eq 34, 3) := by decide +kernel
theorem dX4_advance_7 : decode cX4_advance 7 = .ok (.aload_n 0, 1) := by decide +kernel
theorem dX4_advance_8 : decode cX4_advance 8 = .ok (.getfield 42, 3) := by decide +kernel
theorem dX4_advance_11 : decode cX4_advance 11 = .ok (.ifCond .ne 27, 3) := by decide +kernel
theorem dX4_advance_14 : decode cX4_advance 14 = .ok (.aload_n 0, 1) := by decide +kernel
theorem dX4_advance_15 : decode cX4_advance 15 = .ok (.getfield 16, 3) := by decide +kernel
theorem dX4_advance_18 : decode cX4_advance 18 = .ok (.bipush 7, 2) := by decide +kernel
theorem dX4_advance_20 : decode cX4_advance 20 = .ok (.invokevirtual 80, 3) := by decide +kernel
theorem dX4_advance_23 : decode cX4_advance 23 = .ok (.iconst 1, 1) := by decide +kernel
theorem dX4_advance_24 : decode cX4_advance 24 = .ok (.if_icmp .ne 14, 3) := by decide +kernel
theorem dX4_advance_27 : decode cX4_advance 27 = .ok (.aload_n 0, 1) := by decide +kernel
theorem dX4_advance_28 : decode cX4_advance 28 = .ok (.aload_n 0, 1) := by decide +kernel
theorem dX4_advance_29 : decode cX4_advance 29 = .ok (.invokevirtual 83, 3) := by decide +kernel
theorem dX4_advance_32 : decode cX4_advance 32 = .ok (.putfield 39, 3) := by decide +kernel
theorem dX4_advance_35 : decode cX4_advance 35 = .ok (.goto 49, 3) := by decide +kernel
theorem dX4_advance_38 : decode cX4_advance 38 = .ok (.aload_n 0, 1) := by decide +kernel
theorem dX4_advance_39 : decode cX4_advance 39 = .ok (.aload_n 0, 1) := by decide +kernel
theorem dX4_advance_40 : decode cX4_advance 40 = .ok (.getfield 32, 3) := by decide +kernel
theorem dX4_advance_43 : decode cX4_advance 43 = .ok (.invokevirtual 51, 3) := by decide +kernel
theorem dX4_advance_46 : decode cX4_advance 46 = .ok (.istore_n 1, 1) := by decide +kernel
theorem dX4_advance_47 : decode cX4_advance 47 = .ok (.aload_n 0, 1) := by decide +kernel
theorem dX4_advance_48 : decode cX4_advance 48 = .ok (.aload_n 0, 1) := by decide +kernel
theorem dX4_advance_49 : decode cX4_advance 49 = .ok (.iload_n 1, 1) := by decide +kernel
theorem dX4_advance_50 : decode cX4_advance 50 = .ok (.invokevirtual 86, 3) := by decide +kernel
theorem dX4_advance_53 : decode cX4_advance 53 = .ok (.putfield 39, 3) := by decide +kernel
theorem dX4_advance_56 : decode cX4_advance 56 = .ok (.aload_n 0, 1) := by decide +kernel
theorem dX4_advance_57 : decode cX4_advance 57 = .ok (.getfield 39, 3) := by decide +kernel
theorem dX4_advance_60 : decode cX4_advance 60 = .ok (.ifCond .ne 24, 3) := by decide +kernel
theorem dX4_advance_63 : decode cX4_advance 63 = .ok (.aload_n 0, 1) := by decide +kernel
theorem dX4_advance_64 : decode cX4_advance 64 = .ok (.iload_n 1, 1) := by decide +kernel
theorem dX4_advance_65 : decode cX4_advance 65 = .ok (.ldc 89, 2) := by decide +kernel
theorem dX4_advance_67 : decode cX4_advance 67 = .ok (.if_icmp .eq 9, 3) := by decide +kernel
theorem dX4_advance_70 : decode cX4_advance 70 = .ok (.iload_n 1, 1) := by decide +kernel
theorem dX4_advance_71 : decode cX4_advance 71 = .ok (.ldc 90, 2) := by decide +kernel
theorem dX4_advance_73 : decode cX4_advance 73 = .ok (.if_icmp .ne 7, 3) := by decide +kernel
theorem dX4_advance_76 : decode cX4_advance 76 = .ok (.iconst 1, 1) := by decide +kernel
theorem dX4_advance_77 : decode cX4_advance 77 = .ok (.goto 4, 3) := by decide +kernel
theorem dX4_advance_80 : decode cX4_advance 80 = .ok (.iconst 0, 1) := by decide +kernel
theorem dX4_advance_81 : decode cX4_advance 81 = .ok (.putfield 42, 3) := by decide +kernel
theorem dX4_advance_84 : decode cX4_advance 84 = .ok (.aload_n 0, 1) := by decide +kernel
theorem dX4_advance_85 : decode cX4_advance 85 = .ok (.getfield 29, 3) := by decide +kernel
theorem dX4_advance_88 : decode cX4_advance 88 = .ok (.aload_n 0, 1) := by decide +kernel
theorem dX4_advance_89 : decode cX4_advance 89 = .ok (.getfield 39, 3) := by decide +kernel
theorem dX4_advance_92 : decode cX4_advance 92 = .ok (.iconst 3, 1) := by decide +kernel
theorem dX4_advance_93 : decode cX4_advance 93 = .ok (.iand, 1) := by decide +kernel
theorem dX4_advance_94 : decode cX4_advance 94 = .ok (.dup2, 1) := by decide +kernel
theorem dX4_advance_95 : decode cX4_advance 95 = .ok (.iaload, 1) := by decide +kernel
theorem dX4_advance_96 : decode cX4_advance 96 = .ok (.iconst 1, 1) := by decide +kernel
theorem dX4_advance_97 : decode cX4_advance 97 = .ok (.iadd, 1) := by decide +kernel
theorem dX4_advance_98 : decode cX4_advance 98 = .ok (.iastore, 1) := by decide +kernel
theorem dX4_advance_99 : decode cX4_advance 99 = .ok (.aload_n 0, 1) := by decide +kernel
theorem dX4_advance_100 : decode cX4_advance 100 = .ok (.getfield 39, 3) := by decide +kernel
theorem dX4_advance_103 : decode cX4_advance 103 = .ok (.ireturn, 1) := by decide +kernel
set_option maxRecDepth 20000 in
theorem ggX4_enterLeast_X0_stacks : GoodIn wsX4_enterLeast wsX0_stacks := goodIn_r _ [8, 9, 10, 11, 7, 12, 13, 14, 15, 16, 17, 18, 19, 20, 21, 47] (by decide +kernel) (by decide +kernel)
set_option maxRecDepth 20000 in
theorem gX4_enterLeast_X0_stacks : GoodIn wsX4_enterLeast (wsV RX4 91 RX0 yX0_stacks wsX0_stacks) := goodIn_app (goodIn_of _ (by decide +kernel)) ggX4_enterLeast_X0_stacks
set_option maxRecDepth 20000 in
theorem ggX4_enterLeast_J6_numberOfTrailingZeros_0f7a4 : GoodIn wsX4_enterLeast wsJ6_numberOfTrailingZeros_0f7a4 := goodIn_r _ [25, 26] (by decide +kernel) (by decide +kernel)
set_option maxRecDepth 20000 in
theorem gX4_enterLeast_J6_numberOfTrailingZeros_0f7a4 : GoodIn wsX4_enterLeast (va_wsS RX4 94 yJ6_numberOfTrailingZeros_0f7a4 wsJ6_numberOfTrailingZeros_0f7a4) := goodIn_app (goodIn_of _ (by decide +kernel)) ggX4_enterLeast_J6_numberOfTrailingZeros_0f7a4
set_option maxRecDepth 20000 in
theorem ggX4_enterLeast_X0_setFlag : GoodIn wsX4_enterLeast wsX0_setFlag := goodIn_r _ [30, 31, 32, 33, 7, 34, 35, 36, 37, 38, 13, 14, 15, 16, 17, 47] (by decide +kernel) (by decide +kernel)
set_option maxRecDepth 20000 in
theorem gX4_enterLeast_X0_setFlag : GoodIn wsX4_enterLeast (wsV RX4 99 RX0 yX0_setFlag wsX0_setFlag) := goodIn_app (goodIn_of _ (by decide +kernel)) ggX4_enterLeast_X0_setFlag
theorem dX4_enterLeast_0 : decode cX4_enterLeast 0 = .ok (.aload_n 0, 1) := by decide +kernel
theorem dX4_enterLeast_1 : decode cX4_enterLeast 1 = .ok (.getfield 16, 3) := by decide +kernel
theorem dX4_enterLeast_4 : decode cX4_enterLeast 4 = .ok (.aload_n 0, 1) := by decide +kernel
theorem dX4_enterLeast_5 : decode cX4_enterLeast 5 = .ok (.getfield 32, 3) := by decide +kernel
theorem dX4_enterLeast_8 : decode cX4_enterLeast 8 = .ok (.invokevirtual 91, 3) := by decide +kernel
theorem dX4_enterLeast_11 : decode cX4_enterLeast 11 = .ok (.ifCond .ne 5, 3) := by decide +kernel
theorem dX4_enterLeast_14 : decode cX4_enterLeast 14 = .ok (.iconst 3, 1) := by decide +kernel
theorem dX4_enterLeast_15 : decode cX4_enterLeast 15 = .ok (.ireturn, 1) := by decide +kernel
theorem dX4_enterLeast_16 : decode cX4_enterLeast 16 = .ok (.aload_n 0, 1) := by decide +kernel
theorem dX4_enterLeast_17 : decode cX4_enterLeast 17 = .ok (.iconst 2, 1) := by decide +kernel
theorem dX4_enterLeast_18 : decode cX4_enterLeast 18 = .ok (.aload_n 0, 1) := by decide +kernel
theorem dX4_enterLeast_19 : decode cX4_enterLeast 19 = .ok (.getfield 36, 3) := by decide +kernel
theorem dX4_enterLeast_22 : decode cX4_enterLeast 22 = .ok (.invokestatic 94, 3) := by decide +kernel
theorem dX4_enterLeast_25 : decode cX4_enterLeast 25 = .ok (.imul, 1) := by decide +kernel
theorem dX4_enterLeast_26 : decode cX4_enterLeast 26 = .ok (.sipush 1023, 3) := by decide +kernel
theorem dX4_enterLeast_29 : decode cX4_enterLeast 29 = .ok (.iand, 1) := by decide +kernel
theorem dX4_enterLeast_30 : decode cX4_enterLeast 30 = .ok (.putfield 32, 3) := by decide +kernel
theorem dX4_enterLeast_33 : decode cX4_enterLeast 33 = .ok (.aload_n 0, 1) := by decide +kernel
theorem dX4_enterLeast_34 : decode cX4_enterLeast 34 = .ok (.dup, 1) := by decide +kernel
theorem dX4_enterLeast_35 : decode cX4_enterLeast 35 = .ok (.getfield 36, 3) := by decide +kernel
theorem dX4_enterLeast_38 : decode cX4_enterLeast 38 = .ok (.aload_n 0, 1) := by decide +kernel
theorem dX4_enterLeast_39 : decode cX4_enterLeast 39 = .ok (.getfield 36, 3) := by decide +kernel
theorem dX4_enterLeast_42 : decode cX4_enterLeast 42 = .ok (.iconst 1, 1) := by decide +kernel
theorem dX4_enterLeast_43 : decode cX4_enterLeast 43 = .ok (.isub, 1) := by decide +kernel
theorem dX4_enterLeast_44 : decode cX4_enterLeast 44 = .ok (.iand, 1) := by decide +kernel
theorem dX4_enterLeast_45 : decode cX4_enterLeast 45 = .ok (.putfield 36, 3) := by decide +kernel
theorem dX4_enterLeast_48 : decode cX4_enterLeast 48 = .ok (.aload_n 0, 1) := by decide +kernel
theorem dX4_enterLeast_49 : decode cX4_enterLeast 49 = .ok (.getfield 16, 3) := by decide +kernel
theorem dX4_enterLeast_52 : decode cX4_enterLeast 52 = .ok (.bipush 7, 2) := by decide +kernel
theorem dX4_enterLeast_54 : decode cX4_enterLeast 54 = .ok (.iconst 0, 1) := by decide +kernel
theorem dX4_enterLeast_55 : decode cX4_enterLeast 55 = .ok (.invokevirtual 99, 3) := by decide +kernel
theorem dX4_enterLeast_58 : decode cX4_enterLeast 58 = .ok (.iconst 1, 1) := by decide +kernel
theorem dX4_enterLeast_59 : decode cX4_enterLeast 59 = .ok (.ireturn, 1) := by decide +kernel
set_option maxRecDepth 20000 in
theorem ggX4_perform_X3_groupOf : GoodIn wsX4_perform wsX3_groupOf := goodIn_r _ [4, 5, 6, 3, 7, 8, 9, 10, 11, 12, 13, 14, 15, 16, 17, 18, 19, 20, 21, 22, 23, 24, 25, 26, 27, 28, 29, 30, 31] (by decide +kernel) (by decide +kernel)
set_option maxRecDepth 20000 in
theorem gX4_perform_X3_groupOf : GoodIn wsX4_perform (va_wsS RX4 69 yX3_groupOf wsX3_groupOf) := goodIn_app (goodIn_of _ (by decide +kernel)) ggX4_perform_X3_groupOf
set_option maxRecDepth 20000 in
theorem ggX4_perform_X4_onward : GoodIn wsX4_perform wsX4_onward := goodIn_r _ [36, 37, 297, 298, 299, 300, 301, 302, 303, 304] (by decide +kernel) (by decide +kernel)
set_option maxRecDepth 20000 in
theorem gX4_perform_X4_onward : GoodIn wsX4_perform (wsV RX4 102 RX4 yX4_onward wsX4_onward) := goodIn_app (goodIn_of _ (by decide +kernel)) ggX4_perform_X4_onward
set_option maxRecDepth 20000 in
theorem ggX4_perform_X4_movePair : GoodIn wsX4_perform wsX4_movePair := goodIn_r _ [41, 42, 43, 44, 45, 46, 47, 48, 49, 50, 51, 52, 32, 33, 34, 35, 36, 37, 297, 298, 299, 300, 301, 302, 303, 304, 305] (by decide +kernel) (by decide +kernel)
set_option maxRecDepth 20000 in
theorem gX4_perform_X4_movePair : GoodIn wsX4_perform (wsV RX4 105 RX4 yX4_movePair wsX4_movePair) := goodIn_app (goodIn_of _ (by decide +kernel)) ggX4_perform_X4_movePair
theorem ggX4_perform_X4_multiply_h : GoodIn wsX4_perform [Cond.code yX4_multiply cX4_multiply 2 (some .int)] := goodIn_r _ [56] (by decide +kernel) (by decide +kernel)
set_option maxRecDepth 20000 in
theorem ggX4_perform_X4_multiply_1 : GoodIn wsX4_perform wsX4_multiply_r1 := goodIn_r _ [57, 42, 58, 15, 3, 16, 59, 60, 61, 46, 62, 48, 63, 64, 65, 66, 67, 68, 69, 70, 71, 72, 73, 74] (by decide +kernel) (by decide +kernel)
set_option maxRecDepth 20000 in
theorem ggX4_perform_X4_multiply_2 : GoodIn wsX4_perform wsX4_multiply_r2 := goodIn_r _ [75, 76, 77, 78, 50, 51, 52, 79, 80, 81, 82, 83, 84, 85, 86, 87, 88, 89, 35, 90, 91, 92, 93, 94] (by decide +kernel) (by decide +kernel)
set_option maxRecDepth 20000 in
theorem ggX4_perform_X4_multiply_3 : GoodIn wsX4_perform wsX4_multiply_r3 := goodIn_r _ [32, 33, 34, 36, 37] (by decide +kernel) (by decide +kernel)
set_option maxRecDepth 20000 in
theorem ggX4_perform_X4_multiply_4 : GoodIn wsX4_perform wsX40 := goodIn_r _ [297, 298, 299, 300, 301, 302, 303, 304] (by decide +kernel) (by decide +kernel)
set_option maxRecDepth 20000 in
theorem ggX4_perform_X4_multiply_5 : GoodIn wsX4_perform wsX00 := goodIn_r _ [305] (by decide +kernel) (by decide +kernel)
set_option maxRecDepth 20000 in
theorem ggX4_perform_X4_multiply_6 : GoodIn wsX4_perform wsX20 := goodIn_r _ [306] (by decide +kernel) (by decide +kernel)
theorem ggX4_perform_X4_multiply : GoodIn wsX4_perform wsX4_multiply := goodIn_app (a := [Cond.code yX4_multiply cX4_multiply 2 (some .int)]) ggX4_perform_X4_multiply_h (goodIn_app (goodIn_app (goodIn_app (goodIn_app ggX4_perform_X4_multiply_1 (goodIn_app ggX4_perform_X4_multiply_2 ggX4_perform_X4_multiply_3)) ggX4_perform_X4_multiply_4) ggX4_perform_X4_multiply_5) ggX4_perform_X4_multiply_6)
set_option maxRecDepth 20000 in
theorem gX4_perform_X4_multiply : GoodIn wsX4_perform (wsV RX4 108 RX4 yX4_multiply wsX4_multiply) := goodIn_app (goodIn_of _ (by decide +kernel)) ggX4_perform_X4_multiply
theorem ggX4_perform_X4_combine_h : GoodIn wsX4_perform [Cond.code yX4_combine cX4_combine 6 (some .int)] := goodIn_r _ [98] (by decide +kernel) (by decide +kernel)
set_option maxRecDepth 20000 in
theorem ggX4_perform_X4_combine_1 : GoodIn wsX4_perform wsX4_combine_r1 := goodIn_r _ [42, 57, 58, 15, 3, 16, 59, 60, 61, 46, 62, 48, 63, 64, 65, 99, 100, 101, 102, 103, 104, 105, 69, 106] (by decide +kernel) (by decide +kernel)
set_option maxRecDepth 20000 in
theorem ggX4_perform_X4_combine_2 : GoodIn wsX4_perform wsX4_combine_r2 := goodIn_r _ [75, 107, 108, 109, 110, 111, 112, 113, 114, 79, 80, 81, 82, 115, 116, 117, 118, 119, 120, 121, 122, 123, 124, 125] (by decide +kernel) (by decide +kernel)
set_option maxRecDepth 20000 in
theorem ggX4_perform_X4_combine_3 : GoodIn wsX4_perform wsX4_combine_r3 := goodIn_r _ [35, 126, 37, 127, 32, 33, 34, 36, 128, 129, 130, 131, 132, 133, 134, 135, 136, 137, 138, 139, 140, 141, 142, 143] (by decide +kernel) (by decide +kernel)
set_option maxRecDepth 20000 in
theorem ggX4_perform_X4_combine_4 : GoodIn wsX4_perform wsX4_combine_r4 := goodIn_r _ [144, 145, 146, 147] (by decide +kernel) (by decide +kernel)
set_option maxRecDepth 20000 in
theorem ggX4_perform_X4_combine_5 : GoodIn wsX4_perform wsX40 := goodIn_r _ [297, 298, 299, 300, 301, 302, 303, 304] (by decide +kernel) (by decide +kernel)
set_option maxRecDepth 20000 in
theorem ggX4_perform_X4_combine_6 : GoodIn wsX4_perform wsX00 := goodIn_r _ [305] (by decide +kernel) (by decide +kernel)
set_option maxRecDepth 20000 in
theorem ggX4_perform_X4_combine_7 : GoodIn wsX4_perform wsX20 := goodIn_r _ [306] (by decide +kernel) (by decide +kernel)
theorem ggX4_perform_X4_combine : GoodIn wsX4_perform wsX4_combine := goodIn_app (a := [Cond.code yX4_combine cX4_combine 6 (some .int)]) ggX4_perform_X4_combine_h (goodIn_app (goodIn_app (goodIn_app (goodIn_app ggX4_perform_X4_combine_1 (goodIn_app ggX4_perform_X4_combine_2 (goodIn_app ggX4_perform_X4_combine_3 ggX4_perform_X4_combine_4))) ggX4_perform_X4_combine_5) ggX4_perform_X4_combine_6) ggX4_perform_X4_combine_7)
set_option maxRecDepth 20000 in
theorem gX4_perform_X4_combine : GoodIn wsX4_perform (wsV RX4 111 RX4 yX4_combine wsX4_combine) := goodIn_app (goodIn_of _ (by decide +kernel)) ggX4_perform_X4_combine
set_option maxRecDepth 20000 in
theorem ggX4_perform_X4_combineWithNumber : GoodIn wsX4_perform wsX4_combineWithNumber := goodIn_r _ [151, 42, 57, 59, 60, 61, 46, 62, 48, 140, 141, 142, 69, 143, 108, 109, 110, 111, 75, 112, 113, 114, 79, 80, 81, 82, 99, 100, 101, 102, 103, 104, 105, 106, 107, 115, 116, 117, 118, 144, 145, 146, 147, 32, 33, 34, 35, 36, 37, 297, 298, 299, 300, 301, 302, 303, 304, 305, 306] (by decide +kernel) (by decide +kernel)
set_option maxRecDepth 20000 in
theorem gX4_perform_X4_combineWithNumber : GoodIn wsX4_perform (wsV RX4 114 RX4 yX4_combineWithNumber wsX4_combineWithNumber) := goodIn_app (goodIn_of _ (by decide +kernel)) ggX4_perform_X4_combineWithNumber
theorem ggX4_perform_X4_change_h : GoodIn wsX4_perform [Cond.code yX4_change cX4_change 4 (some .int)] := goodIn_r _ [155] (by decide +kernel) (by decide +kernel)
set_option maxRecDepth 20000 in
theorem ggX4_perform_X4_change_1 : GoodIn wsX4_perform wsX4_change_r1 := goodIn_r _ [42, 57, 58, 15, 3, 16, 59, 60, 61, 46, 62, 48, 156, 157, 158, 69, 159, 75, 112, 113, 114, 79, 80, 81] (by decide +kernel) (by decide +kernel)
set_option maxRecDepth 20000 in
theorem ggX4_perform_X4_change_2 : GoodIn wsX4_perform wsX4_change_r2 := goodIn_r _ [82, 115, 116, 117, 118, 140, 141, 142, 143, 108, 109, 110, 111, 160, 161, 162, 163, 164, 165, 166, 167, 99, 100, 101] (by decide +kernel) (by decide +kernel)
set_option maxRecDepth 20000 in
theorem ggX4_perform_X4_change_3 : GoodIn wsX4_perform wsX4_change_r3 := goodIn_r _ [102, 168, 169, 170, 171, 32, 33, 34, 35, 36, 37] (by decide +kernel) (by decide +kernel)
set_option maxRecDepth 20000 in
theorem ggX4_perform_X4_change_4 : GoodIn wsX4_perform wsX40 := goodIn_r _ [297, 298, 299, 300, 301, 302, 303, 304] (by decide +kernel) (by decide +kernel)
set_option maxRecDepth 20000 in
theorem ggX4_perform_X4_change_5 : GoodIn wsX4_perform wsX00 := goodIn_r _ [305] (by decide +kernel) (by decide +kernel)
set_option maxRecDepth 20000 in
theorem ggX4_perform_X4_change_6 : GoodIn wsX4_perform wsX20 := goodIn_r _ [306] (by decide +kernel) (by decide +kernel)
theorem ggX4_perform_X4_change : GoodIn wsX4_perform wsX4_change := goodIn_app (a := [Cond.code yX4_change cX4_change 4 (some .int)]) ggX4_perform_X4_change_h (goodIn_app (goodIn_app (goodIn_app (goodIn_app ggX4_perform_X4_change_1 (goodIn_app ggX4_perform_X4_change_2 ggX4_perform_X4_change_3)) ggX4_perform_X4_change_4) ggX4_perform_X4_change_5) ggX4_perform_X4_change_6)
set_option maxRecDepth 20000 in
theorem gX4_perform_X4_change : GoodIn wsX4_perform (wsV RX4 117 RX4 yX4_change wsX4_change) := goodIn_app (goodIn_of _ (by decide +kernel)) ggX4_perform_X4_change
set_option maxRecDepth 20000 in
theorem ggX4_perform_X4_setFlag : GoodIn wsX4_perform wsX4_setFlag := goodIn_r _ [175, 42, 176, 177, 178, 46, 179, 180, 181, 182, 183, 184, 60, 61, 62, 48, 185, 116, 117, 118, 32, 33, 34, 35, 36, 37, 297, 298, 299, 300, 301, 302, 303, 304, 305] (by decide +kernel) (by decide +kernel)
set_option maxRecDepth 20000 in
theorem gX4_perform_X4_setFlag : GoodIn wsX4_perform (wsV RX4 120 RX4 yX4_setFlag wsX4_setFlag) := goodIn_app (goodIn_of _ (by decide +kernel)) ggX4_perform_X4_setFlag
set_option maxRecDepth 20000 in
theorem ggX4_perform_X4_changePair : GoodIn wsX4_perform wsX4_changePair := goodIn_r _ [189, 42, 57, 43, 44, 45, 46, 47, 48, 190, 191, 192, 69, 193, 77, 194, 195, 196, 197, 76, 75, 112, 113, 114, 79, 80, 81, 82, 198, 199, 200, 201, 49, 50, 51, 52, 32, 33, 34, 35, 36, 37, 297, 298, 299, 300, 301, 302, 303, 304, 305, 306] (by decide +kernel) (by decide +kernel)
set_option maxRecDepth 20000 in
theorem gX4_perform_X4_changePair : GoodIn wsX4_perform (wsV RX4 122 RX4 yX4_changePair wsX4_changePair) := goodIn_app (goodIn_of _ (by decide +kernel)) ggX4_perform_X4_changePair
set_option maxRecDepth 20000 in
theorem ggX4_perform_X4_moveAtNext : GoodIn wsX4_perform wsX4_moveAtNext := goodIn_r _ [205, 37, 128, 129, 130, 35, 131, 132, 206, 207, 208, 209, 42, 58, 15, 3, 16, 59, 60, 61, 46, 62, 48, 115, 116, 117, 118, 32, 33, 34, 36, 297, 298, 299, 300, 301, 302, 303, 304, 305] (by decide +kernel) (by decide +kernel)
set_option maxRecDepth 20000 in
theorem gX4_perform_X4_moveAtNext : GoodIn wsX4_perform (wsV RX4 125 RX4 yX4_moveAtNext wsX4_moveAtNext) := goodIn_app (goodIn_of _ (by decide +kernel)) ggX4_perform_X4_moveAtNext
set_option maxRecDepth 20000 in
theorem ggX4_perform_X4_movePointed : GoodIn wsX4_perform wsX4_movePointed := goodIn_r _ [213, 42, 214, 215, 18, 3, 19, 43, 44, 45, 46, 47, 48, 49, 50, 51, 52, 206, 207, 208, 35, 209, 58, 15, 16, 59, 60, 61, 62, 115, 116, 117, 118, 32, 33, 34, 36, 37, 297, 298, 299, 300, 301, 302, 303, 304, 305] (by decide +kernel) (by decide +kernel)
set_option maxRecDepth 20000 in
theorem gX4_perform_X4_movePointed : GoodIn wsX4_perform (wsV RX4 128 RX4 yX4_movePointed wsX4_movePointed) := goodIn_app (goodIn_of _ (by decide +kernel)) ggX4_perform_X4_movePointed
set_option maxRecDepth 20000 in
theorem ggX4_perform_X4_moveStacked : GoodIn wsX4_perform wsX4_moveStacked := goodIn_r _ [219, 42, 214, 43, 44, 45, 46, 47, 48, 58, 15, 3, 16, 220, 221, 222, 223, 224, 225, 50, 51, 52, 184, 60, 61, 62, 115, 116, 117, 118, 59, 226, 227, 228, 229, 185, 32, 33, 34, 35, 36, 37, 297, 298, 299, 300, 301, 302, 303, 304, 305] (by decide +kernel) (by decide +kernel)
set_option maxRecDepth 20000 in
theorem gX4_perform_X4_moveStacked : GoodIn wsX4_perform (wsV RX4 131 RX4 yX4_moveStacked wsX4_moveStacked) := goodIn_app (goodIn_of _ (by decide +kernel)) ggX4_perform_X4_moveStacked
set_option maxRecDepth 20000 in
theorem ggX4_perform_X4_moveBeside : GoodIn wsX4_perform wsX4_moveBeside := goodIn_r _ [233, 42, 214, 43, 44, 45, 46, 47, 48, 206, 207, 208, 35, 209, 58, 15, 3, 16, 59, 60, 61, 62, 115, 116, 117, 118, 32, 33, 34, 36, 37, 297, 298, 299, 300, 301, 302, 303, 304, 305] (by decide +kernel) (by decide +kernel)
set_option maxRecDepth 20000 in
theorem gX4_perform_X4_moveBeside : GoodIn wsX4_perform (wsV RX4 134 RX4 yX4_moveBeside wsX4_moveBeside) := goodIn_app (goodIn_of _ (by decide +kernel)) ggX4_perform_X4_moveBeside
set_option maxRecDepth 20000 in
theorem ggX4_perform_X4_moveFromCode : GoodIn wsX4_perform wsX4_moveFromCode := goodIn_r _ [237, 42, 238, 43, 44, 45, 46, 47, 48, 128, 129, 130, 35, 131, 132, 58, 15, 3, 16, 115, 116, 117, 118, 49, 50, 51, 52, 32, 33, 34, 36, 37, 297, 298, 299, 300, 301, 302, 303, 304, 305] (by decide +kernel) (by decide +kernel)
set_option maxRecDepth 20000 in
theorem gX4_perform_X4_moveFromCode : GoodIn wsX4_perform (wsV RX4 137 RX4 yX4_moveFromCode wsX4_moveFromCode) := goodIn_app (goodIn_of _ (by decide +kernel)) ggX4_perform_X4_moveFromCode
set_option maxRecDepth 20000 in
theorem ggX4_perform_X4_movePort : GoodIn wsX4_perform wsX4_movePort := goodIn_r _ [242, 42, 58, 15, 3, 16, 59, 60, 61, 46, 62, 48, 115, 116, 117, 118, 32, 33, 34, 35, 36, 37, 297, 298, 299, 300, 301, 302, 303, 304, 305] (by decide +kernel) (by decide +kernel)
set_option maxRecDepth 20000 in
theorem gX4_perform_X4_movePort : GoodIn wsX4_perform (wsV RX4 140 RX4 yX4_movePort wsX4_movePort) := goodIn_app (goodIn_of _ (by decide +kernel)) ggX4_perform_X4_movePort
set_option maxRecDepth 20000 in
theorem ggX4_perform_X4_setPortBit : GoodIn wsX4_perform wsX4_setPortBit := goodIn_r _ [246, 42, 247, 181, 182, 46, 183, 184, 60, 61, 62, 48, 185, 116, 117, 118, 32, 33, 34, 35, 36, 37, 297, 298, 299, 300, 301, 302, 303, 304, 305] (by decide +kernel) (by decide +kernel)
set_option maxRecDepth 20000 in
theorem gX4_perform_X4_setPortBit : GoodIn wsX4_perform (wsV RX4 143 RX4 yX4_setPortBit wsX4_setPortBit) := goodIn_app (goodIn_of _ (by decide +kernel)) ggX4_perform_X4_setPortBit
set_option maxRecDepth 20000 in
theorem ggX4_perform_X4_skipByPort : GoodIn wsX4_perform wsX4_skipByPort := goodIn_r _ [251, 42, 252, 253, 254, 46, 255, 48, 123, 124, 125, 35, 126, 37, 127, 32, 33, 34, 36, 128, 129, 130, 131, 132, 133, 134, 3, 135, 136, 137, 138, 139, 297, 298, 299, 300, 301, 302, 303, 304, 305] (by decide +kernel) (by decide +kernel)
set_option maxRecDepth 20000 in
theorem gX4_perform_X4_skipByPort : GoodIn wsX4_perform (wsV RX4 146 RX4 yX4_skipByPort wsX4_skipByPort) := goodIn_app (goodIn_of _ (by decide +kernel)) ggX4_perform_X4_skipByPort
set_option maxRecDepth 20000 in
theorem ggX4_perform_X4_skipByBit : GoodIn wsX4_perform wsX4_skipByBit := goodIn_r _ [259, 42, 58, 15, 3, 16, 252, 253, 254, 46, 255, 48, 123, 124, 125, 35, 126, 37, 127, 32, 33, 34, 36, 128, 129, 130, 131, 132, 133, 134, 135, 136, 137, 138, 139, 297, 298, 299, 300, 301, 302, 303, 304, 305] (by decide +kernel) (by decide +kernel)
set_option maxRecDepth 20000 in
theorem gX4_perform_X4_skipByBit : GoodIn wsX4_perform (wsV RX4 149 RX4 yX4_skipByBit wsX4_skipByBit) := goodIn_app (goodIn_of _ (by decide +kernel)) ggX4_perform_X4_skipByBit
set_option maxRecDepth 20000 in
theorem ggX4_perform_X4_moveBit : GoodIn wsX4_perform wsX4_moveBit := goodIn_r _ [263, 42, 58, 15, 3, 16, 99, 100, 101, 46, 102, 48, 247, 181, 182, 183, 184, 60, 61, 62, 185, 116, 117, 118, 252, 253, 254, 255, 176, 177, 178, 179, 180, 32, 33, 34, 35, 36, 37, 297, 298, 299, 300, 301, 302, 303, 304, 305] (by decide +kernel) (by decide +kernel)
set_option maxRecDepth 20000 in
theorem gX4_perform_X4_moveBit : GoodIn wsX4_perform (wsV RX4 152 RX4 yX4_moveBit wsX4_moveBit) := goodIn_app (goodIn_of _ (by decide +kernel)) ggX4_perform_X4_moveBit
set_option maxRecDepth 20000 in
theorem ggX4_perform_X4_jumpNear : GoodIn wsX4_perform wsX4_jumpNear := goodIn_r _ [267, 37, 268, 269, 270, 35, 271, 272, 273, 274, 275, 42, 127, 276, 277, 278, 46, 279, 224, 44, 45, 47, 48, 185, 116, 117, 118, 225, 50, 51, 52, 297, 298, 299, 300, 301, 302, 303, 304, 305] (by decide +kernel) (by decide +kernel)
set_option maxRecDepth 20000 in
theorem gX4_perform_X4_jumpNear : GoodIn wsX4_perform (wsV RX4 155 RX4 yX4_jumpNear wsX4_jumpNear) := goodIn_app (goodIn_of _ (by decide +kernel)) ggX4_perform_X4_jumpNear
set_option maxRecDepth 20000 in
theorem ggX4_perform_X4_branch : GoodIn wsX4_perform wsX4_branch := goodIn_r _ [283, 42, 99, 100, 101, 46, 102, 48, 32, 33, 34, 35, 36, 37, 297, 298, 299, 300, 301, 302, 303, 304, 305] (by decide +kernel) (by decide +kernel)
set_option maxRecDepth 20000 in
theorem gX4_perform_X4_branch : GoodIn wsX4_perform (wsV RX4 158 RX4 yX4_branch wsX4_branch) := goodIn_app (goodIn_of _ (by decide +kernel)) ggX4_perform_X4_branch
set_option maxRecDepth 20000 in
theorem ggX4_perform_X4_jumpFar : GoodIn wsX4_perform wsX4_jumpFar := goodIn_r _ [287, 37, 128, 129, 130, 35, 131, 132, 268, 269, 270, 271, 272, 273, 274, 275, 42, 127, 276, 277, 278, 46, 279, 224, 44, 45, 47, 48, 185, 116, 117, 118, 225, 50, 51, 52, 297, 298, 299, 300, 301, 302, 303, 304, 305] (by decide +kernel) (by decide +kernel)
set_option maxRecDepth 20000 in
theorem gX4_perform_X4_jumpFar : GoodIn wsX4_perform (wsV RX4 161 RX4 yX4_jumpFar wsX4_jumpFar) := goodIn_app (goodIn_of _ (by decide +kernel)) ggX4_perform_X4_jumpFar
set_option maxRecDepth 20000 in
theorem ggX4_perform_X4_jumpToZ : GoodIn wsX4_perform wsX4_jumpToZ := goodIn_r _ [291, 42, 37, 43, 44, 45, 46, 47, 48, 268, 269, 270, 35, 271, 272, 273, 274, 275, 127, 276, 277, 278, 279, 224, 185, 116, 117, 118, 225, 50, 51, 52, 297, 298, 299, 300, 301, 302, 303, 304, 305] (by decide +kernel) (by decide +kernel)
set_option maxRecDepth 20000 in
theorem gX4_perform_X4_jumpToZ : GoodIn wsX4_perform (wsV RX4 164 RX4 yX4_jumpToZ wsX4_jumpToZ) := goodIn_app (goodIn_of _ (by decide +kernel)) ggX4_perform_X4_jumpToZ
set_option maxRecDepth 20000 in
theorem ggX4_perform_X4_comeBack : GoodIn wsX4_perform wsX4_comeBack := goodIn_r _ [295, 42, 214, 296, 43, 44, 45, 46, 47, 48, 220, 221, 222, 223, 224, 225, 50, 51, 52, 184, 60, 61, 62, 176, 177, 178, 179, 180, 181, 182, 183, 185, 116, 117, 118, 268, 269, 270, 35, 271, 37, 297, 298, 299, 300, 301, 302, 303, 304, 305] (by decide +kernel) (by decide +kernel)
set_option maxRecDepth 20000 in
theorem gX4_perform_X4_comeBack : GoodIn wsX4_perform (wsV RX4 167 RX4 yX4_comeBack wsX4_comeBack) := goodIn_app (goodIn_of _ (by decide +kernel)) ggX4_perform_X4_comeBack
theorem dX4_perform_0 : decode cX4_perform 0 = .ok (.iload_n 1, 1) := by decide +kernel
theorem dX4_perform_1 : decode cX4_perform 1 = .ok (.invokestatic 69, 3) := by decide +kernel
theorem dX4_perform_4 : decode cX4_perform 4 = .ok (.tableswitch 246 1 23 #[108, 114, 120, 126, 132, 138, 144, 150, 156, 162, 168, 174, 180, 186, 192, 198, 204, 210, 216, 222, 228, 234, 240], 108) := by decide +kernel
theorem dX4_perform_112 : decode cX4_perform 112 = .ok (.aload_n 0, 1) := by decide +kernel
theorem dX4_perform_113 : decode cX4_perform 113 = .ok (.iconst 1, 1) := by decide +kernel
theorem dX4_perform_114 : decode cX4_perform 114 = .ok (.invokevirtual 102, 3) := by decide +kernel
theorem dX4_perform_117 : decode cX4_perform 117 = .ok (.ireturn, 1) := by decide +kernel
theorem dX4_perform_118 : decode cX4_perform 118 = .ok (.aload_n 0, 1) := by decide +kernel
theorem dX4_perform_119 : decode cX4_perform 119 = .ok (.iload_n 1, 1) := by decide +kernel
theorem dX4_perform_120 : decode cX4_perform 120 = .ok (.invokevirtual 105, 3) := by decide +kernel
theorem dX4_perform_123 : decode cX4_perform 123 = .ok (.ireturn, 1) := by decide +kernel
theorem dX4_perform_124 : decode cX4_perform 124 = .ok (.aload_n 0, 1) := by decide +kernel
theorem dX4_perform_125 : decode cX4_perform 125 = .ok (.iload_n 1, 1) := by decide +kernel
theorem dX4_perform_126 : decode cX4_perform 126 = .ok (.invokevirtual 108, 3) := by decide +kernel
theorem dX4_perform_129 : decode cX4_perform 129 = .ok (.ireturn, 1) := by decide +kernel
theorem dX4_perform_130 : decode cX4_perform 130 = .ok (.aload_n 0, 1) := by decide +kernel
theorem dX4_perform_131 : decode cX4_perform 131 = .ok (.iload_n 1, 1) := by decide +kernel
theorem dX4_perform_132 : decode cX4_perform 132 = .ok (.invokevirtual 111, 3) := by decide +kernel
theorem dX4_perform_135 : decode cX4_perform 135 = .ok (.ireturn, 1) := by decide +kernel
theorem dX4_perform_136 : decode cX4_perform 136 = .ok (.aload_n 0, 1) := by decide +kernel
theorem dX4_perform_137 : decode cX4_perform 137 = .ok (.iload_n 1, 1) := by decide +kernel
theorem dX4_perform_138 : decode cX4_perform 138 = .ok (.invokevirtual 114, 3) := by decide +kernel
theorem dX4_perform_141 : decode cX4_perform 141 = .ok (.ireturn, 1) := by decide +kernel
theorem dX4_perform_142 : decode cX4_perform 142 = .ok (.aload_n 0, 1) := by decide +kernel
theorem dX4_perform_143 : decode cX4_perform 143 = .ok (.iload_n 1, 1) := by decide +kernel
theorem dX4_perform_144 : decode cX4_perform 144 = .ok (.invokevirtual 117, 3) := by decide +kernel
theorem dX4_perform_147 : decode cX4_perform 147 = .ok (.ireturn, 1) := by decide +kernel
theorem dX4_perform_148 : decode cX4_perform 148 = .ok (.aload_n 0, 1) := by decide +kernel
theorem dX4_perform_149 : decode cX4_perform 149 = .ok (.iload_n 1, 1) := by decide +kernel
theorem dX4_perform_150 : decode cX4_perform 150 = .ok (.invokevirtual 120, 3) := by decide +kernel
theorem dX4_perform_153 : decode cX4_perform 153 = .ok (.ireturn, 1) := by decide +kernel
theorem dX4_perform_154 : decode cX4_perform 154 = .ok (.aload_n 0, 1) := by decide +kernel
theorem dX4_perform_155 : decode cX4_perform 155 = .ok (.iload_n 1, 1) := by decide +kernel
theorem dX4_perform_156 : decode cX4_perform 156 = .ok (.invokevirtual 122, 3) := by decide +kernel
theorem dX4_perform_159 : decode cX4_perform 159 = .ok (.ireturn, 1) := by decide +kernel
theorem dX4_perform_160 : decode cX4_perform 160 = .ok (.aload_n 0, 1) := by decide +kernel
theorem dX4_perform_161 : decode cX4_perform 161 = .ok (.iload_n 1, 1) := by decide +kernel
theorem dX4_perform_162 : decode cX4_perform 162 = .ok (.invokevirtual 125, 3) := by decide +kernel
theorem dX4_perform_165 : decode cX4_perform 165 = .ok (.ireturn, 1) := by decide +kernel
theorem dX4_perform_166 : decode cX4_perform 166 = .ok (.aload_n 0, 1) := by decide +kernel
theorem dX4_perform_167 : decode cX4_perform 167 = .ok (.iload_n 1, 1) := by decide +kernel
theorem dX4_perform_168 : decode cX4_perform 168 = .ok (.invokevirtual 128, 3) := by decide +kernel
theorem dX4_perform_171 : decode cX4_perform 171 = .ok (.ireturn, 1) := by decide +kernel
theorem dX4_perform_172 : decode cX4_perform 172 = .ok (.aload_n 0, 1) := by decide +kernel
theorem dX4_perform_173 : decode cX4_perform 173 = .ok (.iload_n 1, 1) := by decide +kernel
theorem dX4_perform_174 : decode cX4_perform 174 = .ok (.invokevirtual 131, 3) := by decide +kernel
theorem dX4_perform_177 : decode cX4_perform 177 = .ok (.ireturn, 1) := by decide +kernel
theorem dX4_perform_178 : decode cX4_perform 178 = .ok (.aload_n 0, 1) := by decide +kernel
theorem dX4_perform_179 : decode cX4_perform 179 = .ok (.iload_n 1, 1) := by decide +kernel
theorem dX4_perform_180 : decode cX4_perform 180 = .ok (.invokevirtual 134, 3) := by decide +kernel
theorem dX4_perform_183 : decode cX4_perform 183 = .ok (.ireturn, 1) := by decide +kernel
theorem dX4_perform_184 : decode cX4_perform 184 = .ok (.aload_n 0, 1) := by decide +kernel
theorem dX4_perform_185 : decode cX4_perform 185 = .ok (.iload_n 1, 1) := by decide +kernel
theorem dX4_perform_186 : decode cX4_perform 186 = .ok (.invokevirtual 137, 3) := by decide +kernel
theorem dX4_perform_189 : decode cX4_perform 189 = .ok (.ireturn, 1) := by decide +kernel
theorem dX4_perform_190 : decode cX4_perform 190 = .ok (.aload_n 0, 1) := by decide +kernel
theorem dX4_perform_191 : decode cX4_perform 191 = .ok (.iload_n 1, 1) := by decide +kernel
theorem dX4_perform_192 : decode cX4_perform 192 = .ok (.invokevirtual 140, 3) := by decide +kernel
theorem dX4_perform_195 : decode cX4_perform 195 = .ok (.ireturn, 1) := by decide +kernel
theorem dX4_perform_196 : decode cX4_perform 196 = .ok (.aload_n 0, 1) := by decide +kernel
theorem dX4_perform_197 : decode cX4_perform 197 = .ok (.iload_n 1, 1) := by decide +kernel
theorem dX4_perform_198 : decode cX4_perform 198 = .ok (.invokevirtual 143, 3) := by decide +kernel
theorem dX4_perform_201 : decode cX4_perform 201 = .ok (.ireturn, 1) := by decide +kernel
theorem dX4_perform_202 : decode cX4_perform 202 = .ok (.aload_n 0, 1) := by decide +kernel
theorem dX4_perform_203 : decode cX4_perform 203 = .ok (.iload_n 1, 1) := by decide +kernel
theorem dX4_perform_204 : decode cX4_perform 204 = .ok (.invokevirtual 146, 3) := by decide +kernel
theorem dX4_perform_207 : decode cX4_perform 207 = .ok (.ireturn, 1) := by decide +kernel
theorem dX4_perform_208 : decode cX4_perform 208 = .ok (.aload_n 0, 1) := by decide +kernel
theorem dX4_perform_209 : decode cX4_perform 209 = .ok (.iload_n 1, 1) := by decide +kernel
theorem dX4_perform_210 : decode cX4_perform 210 = .ok (.invokevirtual 149, 3) := by decide +kernel
theorem dX4_perform_213 : decode cX4_perform 213 = .ok (.ireturn, 1) := by decide +kernel
theorem dX4_perform_214 : decode cX4_perform 214 = .ok (.aload_n 0, 1) := by decide +kernel
theorem dX4_perform_215 : decode cX4_perform 215 = .ok (.iload_n 1, 1) := by decide +kernel
theorem dX4_perform_216 : decode cX4_perform 216 = .ok (.invokevirtual 152, 3) := by decide +kernel
theorem dX4_perform_219 : decode cX4_perform 219 = .ok (.ireturn, 1) := by decide +kernel
theorem dX4_perform_220 : decode cX4_perform 220 = .ok (.aload_n 0, 1) := by decide +kernel
theorem dX4_perform_221 : decode cX4_perform 221 = .ok (.iload_n 1, 1) := by decide +kernel
theorem dX4_perform_222 : decode cX4_perform 222 = .ok (.invokevirtual 155, 3) := by decide +kernel
theorem dX4_perform_225 : decode cX4_perform 225 = .ok (.ireturn, 1) := by decide +kernel
theorem dX4_perform_226 : decode cX4_perform 226 = .ok (.aload_n 0, 1) := by decide +kernel
theorem dX4_perform_227 : decode cX4_perform 227 = .ok (.iload_n 1, 1) := by decide +kernel
theorem dX4_perform_228 : decode cX4_perform 228 = .ok (.invokevirtual 158, 3) := by decide +kernel
theorem dX4_perform_231 : decode cX4_perform 231 = .ok (.ireturn, 1) := by decide +kernel
theorem dX4_perform_232 : decode cX4_perform 232 = .ok (.aload_n 0, 1) := by decide +kernel
theorem dX4_perform_233 : decode cX4_perform 233 = .ok (.iload_n 1, 1) := by decide +kernel
theorem dX4_perform_234 : decode cX4_perform 234 = .ok (.invokevirtual 161, 3) := by decide +kernel
theorem dX4_perform_237 : decode cX4_perform 237 = .ok (.ireturn, 1) := by decide +kernel
theorem dX4_perform_238 : decode cX4_perform 238 = .ok (.aload_n 0, 1) := by decide +kernel
theorem dX4_perform_239 : decode cX4_perform 239 = .ok (.iload_n 1, 1) := by decide +kernel
theorem dX4_perform_240 : decode cX4_perform 240 = .ok (.invokevirtual 164, 3) := by decide +kernel
theorem dX4_perform_243 : decode cX4_perform 243 = .ok (.ireturn, 1) := by decide +kernel
theorem dX4_perform_244 : decode cX4_perform 244 = .ok (.aload_n 0, 1) := by decide +kernel
theorem dX4_perform_245 : decode cX4_perform 245 = .ok (.iload_n 1, 1) := by decide +kernel
theorem dX4_perform_246 : decode cX4_perform 246 = .ok (.invokevirtual 167, 3) := by decide +kernel
theorem dX4_perform_249 : decode cX4_perform 249 = .ok (.ireturn, 1) := by decide +kernel
theorem dX4_perform_250 : decode cX4_perform 250 = .ok (.iconst 2, 1) := by decide +kernel
theorem dX4_perform_251 : decode cX4_perform 251 = .ok (.ireturn, 1) := by decide +kernel
theorem dX4_onward_0 : decode cX4_onward 0 = .ok (.aload_n 0, 1) := by decide +kernel
theorem dX4_onward_1 : decode cX4_onward 1 = .ok (.aload_n 0, 1) := by decide +kernel
theorem dX4_onward_2 : decode cX4_onward 2 = .ok (.getfield 32, 3) := by decide +kernel
theorem dX4_onward_5 : decode cX4_onward 5 = .ok (.iload_n 1, 1) := by decide +kernel
theorem dX4_onward_6 : decode cX4_onward 6 = .ok (.iadd, 1) := by decide +kernel
theorem dX4_onward_7 : decode cX4_onward 7 = .ok (.sipush 1023, 3) := by decide +kernel
theorem dX4_onward_10 : decode cX4_onward 10 = .ok (.iand, 1) := by decide +kernel
theorem dX4_onward_11 : decode cX4_onward 11 = .ok (.putfield 32, 3) := by decide +kernel
theorem dX4_onward_14 : decode cX4_onward 14 = .ok (.iconst 0, 1) := by decide +kernel
theorem dX4_onward_15 : decode cX4_onward 15 = .ok (.ireturn, 1) := by decide +kernel
theorem dX4_jumpTo_0 : decode cX4_jumpTo 0 = .ok (.aload_n 0, 1) := by decide +kernel
theorem dX4_jumpTo_1 : decode cX4_jumpTo 1 = .ok (.iload_n 1, 1) := by decide +kernel
theorem dX4_jumpTo_2 : decode cX4_jumpTo 2 = .ok (.sipush 1023, 3) := by decide +kernel
theorem dX4_jumpTo_5 : decode cX4_jumpTo 5 = .ok (.iand, 1) := by decide +kernel
theorem dX4_jumpTo_6 : decode cX4_jumpTo 6 = .ok (.putfield 32, 3) := by decide +kernel
theorem dX4_jumpTo_9 : decode cX4_jumpTo 9 = .ok (.iconst 0, 1) := by decide +kernel
theorem dX4_jumpTo_10 : decode cX4_jumpTo 10 = .ok (.ireturn, 1) := by decide +kernel
set_option maxRecDepth 20000 in
theorem ggX4_callTo_X0_stacks : GoodIn wsX4_callTo wsX0_stacks := goodIn_r _ [8, 9, 10, 11, 7, 12, 13, 14, 15, 16, 17, 18, 19, 20, 21, 30] (by decide +kernel) (by decide +kernel)
set_option maxRecDepth 20000 in
theorem gX4_callTo_X0_stacks : GoodIn wsX4_callTo (wsV RX4 91 RX0 yX0_stacks wsX0_stacks) := goodIn_app (goodIn_of _ (by decide +kernel)) ggX4_callTo_X0_stacks
theorem dX4_callTo_0 : decode cX4_callTo 0 = .ok (.aload_n 0, 1) := by decide +kernel
theorem dX4_callTo_1 : decode cX4_callTo 1 = .ok (.getfield 16, 3) := by decide +kernel
theorem dX4_callTo_4 : decode cX4_callTo 4 = .ok (.iload_n 2, 1) := by decide +kernel
theorem dX4_callTo_5 : decode cX4_callTo 5 = .ok (.sipush 1023, 3) := by decide +kernel
theorem dX4_callTo_8 : decode cX4_callTo 8 = .ok (.iand, 1) := by decide +kernel
theorem dX4_callTo_9 : decode cX4_callTo 9 = .ok (.invokevirtual 91, 3) := by decide +kernel
theorem dX4_callTo_12 : decode cX4_callTo 12 = .ok (.ifCond .ne 5, 3) := by decide +kernel
theorem dX4_callTo_15 : decode cX4_callTo 15 = .ok (.iconst 3, 1) := by decide +kernel
theorem dX4_callTo_16 : decode cX4_callTo 16 = .ok (.ireturn, 1) := by decide +kernel
theorem dX4_callTo_17 : decode cX4_callTo 17 = .ok (.aload_n 0, 1) := by decide +kernel
theorem dX4_callTo_18 : decode cX4_callTo 18 = .ok (.getfield 29, 3) := by decide +kernel
theorem dX4_callTo_21 : decode cX4_callTo 21 = .ok (.bipush 6, 2) := by decide +kernel
theorem dX4_callTo_23 : decode cX4_callTo 23 = .ok (.dup2, 1) := by decide +kernel
theorem dX4_callTo_24 : decode cX4_callTo 24 = .ok (.iaload, 1) := by decide +kernel
theorem dX4_callTo_25 : decode cX4_callTo 25 = .ok (.iconst 1, 1) := by decide +kernel
