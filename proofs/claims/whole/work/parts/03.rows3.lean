theorem dX0_init_0 : decode cX0_init 0 = .ok (.aload_n 0, 1) := by decide +kernel
theorem dX0_init_1 : decode cX0_init 1 = .ok (.invokespecial 3, 3) := by decide +kernel
theorem dX0_init_4 : decode cX0_init 4 = .ok (.aload_n 0, 1) := by decide +kernel
theorem dX0_init_5 : decode cX0_init 5 = .ok (.sipush 1024, 3) := by decide +kernel
theorem dX0_init_8 : decode cX0_init 8 = .ok (.newarray .int, 2) := by decide +kernel
theorem dX0_init_10 : decode cX0_init 10 = .ok (.putfield 9, 3) := by decide +kernel
theorem dX0_init_13 : decode cX0_init 13 = .ok (.return_, 1) := by decide +kernel
theorem dX0_get_0 : decode cX0_get 0 = .ok (.aload_n 0, 1) := by decide +kernel
theorem dX0_get_1 : decode cX0_get 1 = .ok (.getfield 9, 3) := by decide +kernel
theorem dX0_get_4 : decode cX0_get 4 = .ok (.iload_n 1, 1) := by decide +kernel
theorem dX0_get_5 : decode cX0_get 5 = .ok (.sipush 1023, 3) := by decide +kernel
theorem dX0_get_8 : decode cX0_get 8 = .ok (.iand, 1) := by decide +kernel
theorem dX0_get_9 : decode cX0_get 9 = .ok (.iaload, 1) := by decide +kernel
theorem dX0_get_10 : decode cX0_get 10 = .ok (.ireturn, 1) := by decide +kernel
theorem dX0_set_0 : decode cX0_set 0 = .ok (.aload_n 0, 1) := by decide +kernel
theorem dX0_set_1 : decode cX0_set 1 = .ok (.getfield 9, 3) := by decide +kernel
theorem dX0_set_4 : decode cX0_set 4 = .ok (.iload_n 1, 1) := by decide +kernel
theorem dX0_set_5 : decode cX0_set 5 = .ok (.sipush 1023, 3) := by decide +kernel
theorem dX0_set_8 : decode cX0_set 8 = .ok (.iand, 1) := by decide +kernel
theorem dX0_set_9 : decode cX0_set 9 = .ok (.iload_n 2, 1) := by decide +kernel
theorem dX0_set_10 : decode cX0_set 10 = .ok (.sipush 255, 3) := by decide +kernel
theorem dX0_set_13 : decode cX0_set 13 = .ok (.iand, 1) := by decide +kernel
theorem dX0_set_14 : decode cX0_set 14 = .ok (.iastore, 1) := by decide +kernel
theorem dX0_set_15 : decode cX0_set 15 = .ok (.return_, 1) := by decide +kernel
theorem dX0_signed_0 : decode cX0_signed 0 = .ok (.aload_n 0, 1) := by decide +kernel
theorem dX0_signed_1 : decode cX0_signed 1 = .ok (.getfield 9, 3) := by decide +kernel
theorem dX0_signed_4 : decode cX0_signed 4 = .ok (.iload_n 1, 1) := by decide +kernel
theorem dX0_signed_5 : decode cX0_signed 5 = .ok (.sipush 1023, 3) := by decide +kernel
theorem dX0_signed_8 : decode cX0_signed 8 = .ok (.iand, 1) := by decide +kernel
theorem dX0_signed_9 : decode cX0_signed 9 = .ok (.iaload, 1) := by decide +kernel
theorem dX0_signed_10 : decode cX0_signed 10 = .ok (.i2b, 1) := by decide +kernel
theorem dX0_signed_11 : decode cX0_signed 11 = .ok (.ireturn, 1) := by decide +kernel
theorem dX0_pair_0 : decode cX0_pair 0 = .ok (.aload_n 0, 1) := by decide +kernel
theorem dX0_pair_1 : decode cX0_pair 1 = .ok (.getfield 9, 3) := by decide +kernel
theorem dX0_pair_4 : decode cX0_pair 4 = .ok (.iload_n 1, 1) := by decide +kernel
theorem dX0_pair_5 : decode cX0_pair 5 = .ok (.sipush 1023, 3) := by decide +kernel
theorem dX0_pair_8 : decode cX0_pair 8 = .ok (.iand, 1) := by decide +kernel
theorem dX0_pair_9 : decode cX0_pair 9 = .ok (.iaload, 1) := by decide +kernel
theorem dX0_pair_10 : decode cX0_pair 10 = .ok (.aload_n 0, 1) := by decide +kernel
theorem dX0_pair_11 : decode cX0_pair 11 = .ok (.getfield 9, 3) := by decide +kernel
theorem dX0_pair_14 : decode cX0_pair 14 = .ok (.iload_n 1, 1) := by decide +kernel
theorem dX0_pair_15 : decode cX0_pair 15 = .ok (.iconst 1, 1) := by decide +kernel
theorem dX0_pair_16 : decode cX0_pair 16 = .ok (.iadd, 1) := by decide +kernel
theorem dX0_pair_17 : decode cX0_pair 17 = .ok (.sipush 1023, 3) := by decide +kernel
theorem dX0_pair_20 : decode cX0_pair 20 = .ok (.iand, 1) := by decide +kernel
theorem dX0_pair_21 : decode cX0_pair 21 = .ok (.iaload, 1) := by decide +kernel
theorem dX0_pair_22 : decode cX0_pair 22 = .ok (.bipush 8, 2) := by decide +kernel
theorem dX0_pair_24 : decode cX0_pair 24 = .ok (.ishl, 1) := by decide +kernel
theorem dX0_pair_25 : decode cX0_pair 25 = .ok (.ior, 1) := by decide +kernel
theorem dX0_pair_26 : decode cX0_pair 26 = .ok (.ireturn, 1) := by decide +kernel
theorem dX0_setPair_0 : decode cX0_setPair 0 = .ok (.aload_n 0, 1) := by decide +kernel
theorem dX0_setPair_1 : decode cX0_setPair 1 = .ok (.getfield 9, 3) := by decide +kernel
theorem dX0_setPair_4 : decode cX0_setPair 4 = .ok (.iload_n 1, 1) := by decide +kernel
theorem dX0_setPair_5 : decode cX0_setPair 5 = .ok (.sipush 1023, 3) := by decide +kernel
theorem dX0_setPair_8 : decode cX0_setPair 8 = .ok (.iand, 1) := by decide +kernel
theorem dX0_setPair_9 : decode cX0_setPair 9 = .ok (.iload_n 2, 1) := by decide +kernel
theorem dX0_setPair_10 : decode cX0_setPair 10 = .ok (.sipush 255, 3) := by decide +kernel
theorem dX0_setPair_13 : decode cX0_setPair 13 = .ok (.iand, 1) := by decide +kernel
theorem dX0_setPair_14 : decode cX0_setPair 14 = .ok (.iastore, 1) := by decide +kernel
theorem dX0_setPair_15 : decode cX0_setPair 15 = .ok (.aload_n 0, 1) := by decide +kernel
theorem dX0_setPair_16 : decode cX0_setPair 16 = .ok (.getfield 9, 3) := by decide +kernel
theorem dX0_setPair_19 : decode cX0_setPair 19 = .ok (.iload_n 1, 1) := by decide +kernel
theorem dX0_setPair_20 : decode cX0_setPair 20 = .ok (.iconst 1, 1) := by decide +kernel
theorem dX0_setPair_21 : decode cX0_setPair 21 = .ok (.iadd, 1) := by decide +kernel
theorem dX0_setPair_22 : decode cX0_setPair 22 = .ok (.sipush 1023, 3) := by decide +kernel
theorem dX0_setPair_25 : decode cX0_setPair 25 = .ok (.iand, 1) := by decide +kernel
theorem dX0_setPair_26 : decode cX0_setPair 26 = .ok (.iload_n 2, 1) := by decide +kernel
theorem dX0_setPair_27 : decode cX0_setPair 27 = .ok (.bipush 8, 2) := by decide +kernel
theorem dX0_setPair_29 : decode cX0_setPair 29 = .ok (.ishr, 1) := by decide +kernel
theorem dX0_setPair_30 : decode cX0_setPair 30 = .ok (.sipush 255, 3) := by decide +kernel
theorem dX0_setPair_33 : decode cX0_setPair 33 = .ok (.iand, 1) := by decide +kernel
theorem dX0_setPair_34 : decode cX0_setPair 34 = .ok (.iastore, 1) := by decide +kernel
theorem dX0_setPair_35 : decode cX0_setPair 35 = .ok (.return_, 1) := by decide +kernel
theorem dX0_bit_0 : decode cX0_bit 0 = .ok (.aload_n 0, 1) := by decide +kernel
theorem dX0_bit_1 : decode cX0_bit 1 = .ok (.getfield 9, 3) := by decide +kernel
theorem dX0_bit_4 : decode cX0_bit 4 = .ok (.iload_n 1, 1) := by decide +kernel
theorem dX0_bit_5 : decode cX0_bit 5 = .ok (.sipush 1023, 3) := by decide +kernel
theorem dX0_bit_8 : decode cX0_bit 8 = .ok (.iand, 1) := by decide +kernel
theorem dX0_bit_9 : decode cX0_bit 9 = .ok (.iaload, 1) := by decide +kernel
theorem dX0_bit_10 : decode cX0_bit 10 = .ok (.iload_n 2, 1) := by decide +kernel
theorem dX0_bit_11 : decode cX0_bit 11 = .ok (.ishr, 1) := by decide +kernel
theorem dX0_bit_12 : decode cX0_bit 12 = .ok (.iconst 1, 1) := by decide +kernel
theorem dX0_bit_13 : decode cX0_bit 13 = .ok (.iand, 1) := by decide +kernel
theorem dX0_bit_14 : decode cX0_bit 14 = .ok (.ireturn, 1) := by decide +kernel
set_option maxRecDepth 20000 in
theorem ggX0_setBit_X0_get : GoodIn wsX0_setBit wsX0_get := goodIn_r _ [5, 6, 11] (by decide +kernel) (by decide +kernel)
set_option maxRecDepth 20000 in
theorem gX0_setBit_X0_get : GoodIn wsX0_setBit (wsV RX0 15 RX0 yX0_get wsX0_get) := goodIn_app (goodIn_of _ (by decide +kernel)) ggX0_setBit_X0_get
set_option maxRecDepth 20000 in
theorem ggX0_setBit_X0_set : GoodIn wsX0_setBit wsX0_set := goodIn_r _ [10, 6, 11] (by decide +kernel) (by decide +kernel)
set_option maxRecDepth 20000 in
theorem gX0_setBit_X0_set : GoodIn wsX0_setBit (wsV RX0 19 RX0 yX0_set wsX0_set) := goodIn_app (goodIn_of _ (by decide +kernel)) ggX0_setBit_X0_set
theorem dX0_setBit_0 : decode cX0_setBit 0 = .ok (.aload_n 0, 1) := by decide +kernel
theorem dX0_setBit_1 : decode cX0_setBit 1 = .ok (.iload_n 1, 1) := by decide +kernel
theorem dX0_setBit_2 : decode cX0_setBit 2 = .ok (.aload_n 0, 1) := by decide +kernel
theorem dX0_setBit_3 : decode cX0_setBit 3 = .ok (.iload_n 1, 1) := by decide +kernel
theorem dX0_setBit_4 : decode cX0_setBit 4 = .ok (.invokevirtual 15, 3) := by decide +kernel
theorem dX0_setBit_7 : decode cX0_setBit 7 = .ok (.iconst 1, 1) := by decide +kernel
theorem dX0_setBit_8 : decode cX0_setBit 8 = .ok (.iload_n 2, 1) := by decide +kernel
theorem dX0_setBit_9 : decode cX0_setBit 9 = .ok (.ishl, 1) := by decide +kernel
theorem dX0_setBit_10 : decode cX0_setBit 10 = .ok (.iconst (-1), 1) := by decide +kernel
theorem dX0_setBit_11 : decode cX0_setBit 11 = .ok (.ixor, 1) := by decide +kernel
theorem dX0_setBit_12 : decode cX0_setBit 12 = .ok (.iand, 1) := by decide +kernel
theorem dX0_setBit_13 : decode cX0_setBit 13 = .ok (.iload_n 3, 1) := by decide +kernel
theorem dX0_setBit_14 : decode cX0_setBit 14 = .ok (.iload_n 2, 1) := by decide +kernel
theorem dX0_setBit_15 : decode cX0_setBit 15 = .ok (.ishl, 1) := by decide +kernel
theorem dX0_setBit_16 : decode cX0_setBit 16 = .ok (.ior, 1) := by decide +kernel
theorem dX0_setBit_17 : decode cX0_setBit 17 = .ok (.invokevirtual 19, 3) := by decide +kernel
theorem dX0_setBit_20 : decode cX0_setBit 20 = .ok (.return_, 1) := by decide +kernel
theorem dX0_flag_0 : decode cX0_flag 0 = .ok (.aload_n 0, 1) := by decide +kernel
theorem dX0_flag_1 : decode cX0_flag 1 = .ok (.getfield 9, 3) := by decide +kernel
theorem dX0_flag_4 : decode cX0_flag 4 = .ok (.bipush 95, 2) := by decide +kernel
theorem dX0_flag_6 : decode cX0_flag 6 = .ok (.iaload, 1) := by decide +kernel
theorem dX0_flag_7 : decode cX0_flag 7 = .ok (.iload_n 1, 1) := by decide +kernel
theorem dX0_flag_8 : decode cX0_flag 8 = .ok (.ishr, 1) := by decide +kernel
theorem dX0_flag_9 : decode cX0_flag 9 = .ok (.iconst 1, 1) := by decide +kernel
theorem dX0_flag_10 : decode cX0_flag 10 = .ok (.iand, 1) := by decide +kernel
theorem dX0_flag_11 : decode cX0_flag 11 = .ok (.ireturn, 1) := by decide +kernel
set_option maxRecDepth 20000 in
theorem ggX0_setFlag_X0_setBit : GoodIn wsX0_setFlag wsX0_setBit := goodIn_r _ [5, 6, 7, 8, 4, 9, 10, 11, 12, 13, 14, 15] (by decide +kernel) (by decide +kernel)
set_option maxRecDepth 20000 in
theorem gX0_setFlag_X0_setBit : GoodIn wsX0_setFlag (wsV RX0 23 RX0 yX0_setBit wsX0_setBit) := goodIn_app (goodIn_of _ (by decide +kernel)) ggX0_setFlag_X0_setBit
theorem dX0_setFlag_0 : decode cX0_setFlag 0 = .ok (.aload_n 0, 1) := by decide +kernel
theorem dX0_setFlag_1 : decode cX0_setFlag 1 = .ok (.bipush 95, 2) := by decide +kernel
theorem dX0_setFlag_3 : decode cX0_setFlag 3 = .ok (.iload_n 1, 1) := by decide +kernel
theorem dX0_setFlag_4 : decode cX0_setFlag 4 = .ok (.iload_n 2, 1) := by decide +kernel
theorem dX0_setFlag_5 : decode cX0_setFlag 5 = .ok (.invokevirtual 23, 3) := by decide +kernel
theorem dX0_setFlag_8 : decode cX0_setFlag 8 = .ok (.return_, 1) := by decide +kernel
theorem dX0_setFlags_0 : decode cX0_setFlags 0 = .ok (.aload_n 0, 1) := by decide +kernel
theorem dX0_setFlags_1 : decode cX0_setFlags 1 = .ok (.getfield 9, 3) := by decide +kernel
theorem dX0_setFlags_4 : decode cX0_setFlags 4 = .ok (.bipush 95, 2) := by decide +kernel
theorem dX0_setFlags_6 : decode cX0_setFlags 6 = .ok (.aload_n 0, 1) := by decide +kernel
theorem dX0_setFlags_7 : decode cX0_setFlags 7 = .ok (.getfield 9, 3) := by decide +kernel
theorem dX0_setFlags_10 : decode cX0_setFlags 10 = .ok (.bipush 95, 2) := by decide +kernel
theorem dX0_setFlags_12 : decode cX0_setFlags 12 = .ok (.iaload, 1) := by decide +kernel
theorem dX0_setFlags_13 : decode cX0_setFlags 13 = .ok (.iload_n 1, 1) := by decide +kernel
theorem dX0_setFlags_14 : decode cX0_setFlags 14 = .ok (.iconst (-1), 1) := by decide +kernel
theorem dX0_setFlags_15 : decode cX0_setFlags 15 = .ok (.ixor, 1) := by decide +kernel
theorem dX0_setFlags_16 : decode cX0_setFlags 16 = .ok (.iand, 1) := by decide +kernel
theorem dX0_setFlags_17 : decode cX0_setFlags 17 = .ok (.iload_n 2, 1) := by decide +kernel
theorem dX0_setFlags_18 : decode cX0_setFlags 18 = .ok (.iload_n 1, 1) := by decide +kernel
theorem dX0_setFlags_19 : decode cX0_setFlags 19 = .ok (.iand, 1) := by decide +kernel
theorem dX0_setFlags_20 : decode cX0_setFlags 20 = .ok (.ior, 1) := by decide +kernel
theorem dX0_setFlags_21 : decode cX0_setFlags 21 = .ok (.iastore, 1) := by decide +kernel
theorem dX0_setFlags_22 : decode cX0_setFlags 22 = .ok (.return_, 1) := by decide +kernel
set_option maxRecDepth 20000 in
theorem ggX0_push_X0_pair : GoodIn wsX0_push wsX0_pair := goodIn_r _ [5, 6, 15] (by decide +kernel) (by decide +kernel)
set_option maxRecDepth 20000 in
theorem gX0_push_X0_pair : GoodIn wsX0_push (wsV RX0 27 RX0 yX0_pair wsX0_pair) := goodIn_app (goodIn_of _ (by decide +kernel)) ggX0_push_X0_pair
set_option maxRecDepth 20000 in
theorem ggX0_push_X0_set : GoodIn wsX0_push wsX0_set := goodIn_r _ [10, 6, 15] (by decide +kernel) (by decide +kernel)
set_option maxRecDepth 20000 in
theorem gX0_push_X0_set : GoodIn wsX0_push (wsV RX0 19 RX0 yX0_set wsX0_set) := goodIn_app (goodIn_of _ (by decide +kernel)) ggX0_push_X0_set
set_option maxRecDepth 20000 in
theorem ggX0_push_X0_setPair : GoodIn wsX0_push wsX0_setPair := goodIn_r _ [14, 6, 15] (by decide +kernel) (by decide +kernel)
set_option maxRecDepth 20000 in
theorem gX0_push_X0_setPair : GoodIn wsX0_push (wsV RX0 30 RX0 yX0_setPair wsX0_setPair) := goodIn_app (goodIn_of _ (by decide +kernel)) ggX0_push_X0_setPair
theorem dX0_push_0 : decode cX0_push 0 = .ok (.aload_n 0, 1) := by decide +kernel
theorem dX0_push_1 : decode cX0_push 1 = .ok (.bipush 93, 2) := by decide +kernel
theorem dX0_push_3 : decode cX0_push 3 = .ok (.invokevirtual 27, 3) := by decide +kernel
theorem dX0_push_6 : decode cX0_push 6 = .ok (.istore_n 2, 1) := by decide +kernel
theorem dX0_push_7 : decode cX0_push 7 = .ok (.aload_n 0, 1) := by decide +kernel
theorem dX0_push_8 : decode cX0_push 8 = .ok (.iload_n 2, 1) := by decide +kernel
theorem dX0_push_9 : decode cX0_push 9 = .ok (.iload_n 1, 1) := by decide +kernel
theorem dX0_push_10 : decode cX0_push 10 = .ok (.invokevirtual 19, 3) := by decide +kernel
theorem dX0_push_13 : decode cX0_push 13 = .ok (.aload_n 0, 1) := by decide +kernel
theorem dX0_push_14 : decode cX0_push 14 = .ok (.bipush 93, 2) := by decide +kernel
theorem dX0_push_16 : decode cX0_push 16 = .ok (.iload_n 2, 1) := by decide +kernel
theorem dX0_push_17 : decode cX0_push 17 = .ok (.iconst 1, 1) := by decide +kernel
theorem dX0_push_18 : decode cX0_push 18 = .ok (.isub, 1) := by decide +kernel
theorem dX0_push_19 : decode cX0_push 19 = .ok (.invokevirtual 30, 3) := by decide +kernel
theorem dX0_push_22 : decode cX0_push 22 = .ok (.return_, 1) := by decide +kernel
set_option maxRecDepth 20000 in
theorem ggX0_stacks_X0_pair : GoodIn wsX0_stacks wsX0_pair := goodIn_r _ [5, 6, 15] (by decide +kernel) (by decide +kernel)
set_option maxRecDepth 20000 in
theorem gX0_stacks_X0_pair : GoodIn wsX0_stacks (wsV RX0 27 RX0 yX0_pair wsX0_pair) := goodIn_app (goodIn_of _ (by decide +kernel)) ggX0_stacks_X0_pair
set_option maxRecDepth 20000 in
theorem ggX0_stacks_X0_set : GoodIn wsX0_stacks wsX0_set := goodIn_r _ [10, 6, 15] (by decide +kernel) (by decide +kernel)
set_option maxRecDepth 20000 in
theorem gX0_stacks_X0_set : GoodIn wsX0_stacks (wsV RX0 19 RX0 yX0_set wsX0_set) := goodIn_app (goodIn_of _ (by decide +kernel)) ggX0_stacks_X0_set
set_option maxRecDepth 20000 in
theorem ggX0_stacks_X0_setPair : GoodIn wsX0_stacks wsX0_setPair := goodIn_r _ [14, 6, 15] (by decide +kernel) (by decide +kernel)
set_option maxRecDepth 20000 in
theorem gX0_stacks_X0_setPair : GoodIn wsX0_stacks (wsV RX0 30 RX0 yX0_setPair wsX0_setPair) := goodIn_app (goodIn_of _ (by decide +kernel)) ggX0_stacks_X0_setPair
theorem dX0_stacks_0 : decode cX0_stacks 0 = .ok (.aload_n 0, 1) := by decide +kernel
theorem dX0_stacks_1 : decode cX0_stacks 1 = .ok (.bipush 93, 2) := by decide +kernel
theorem dX0_stacks_3 : decode cX0_stacks 3 = .ok (.invokevirtual 27, 3) := by decide +kernel
theorem dX0_stacks_6 : decode cX0_stacks 6 = .ok (.istore_n 2, 1) := by decide +kernel
theorem dX0_stacks_7 : decode cX0_stacks 7 = .ok (.iload_n 2, 1) := by decide +kernel
theorem dX0_stacks_8 : decode cX0_stacks 8 = .ok (.iconst 1, 1) := by decide +kernel
theorem dX0_stacks_9 : decode cX0_stacks 9 = .ok (.if_icmp .lt 10, 3) := by decide +kernel
theorem dX0_stacks_12 : decode cX0_stacks 12 = .ok (.iload_n 2, 1) := by decide +kernel
theorem dX0_stacks_13 : decode cX0_stacks 13 = .ok (.sipush 1023, 3) := by decide +kernel
theorem dX0_stacks_16 : decode cX0_stacks 16 = .ok (.if_icmp .le 5, 3) := by decide +kernel
theorem dX0_stacks_19 : decode cX0_stacks 19 = .ok (.iconst 0, 1) := by decide +kernel
theorem dX0_stacks_20 : decode cX0_stacks 20 = .ok (.ireturn, 1) := by decide +kernel
theorem dX0_stacks_21 : decode cX0_stacks 21 = .ok (.aload_n 0, 1) := by decide +kernel
theorem dX0_stacks_22 : decode cX0_stacks 22 = .ok (.iload_n 2, 1) := by decide +kernel
theorem dX0_stacks_23 : decode cX0_stacks 23 = .ok (.iload_n 1, 1) := by decide +kernel
theorem dX0_stacks_24 : decode cX0_stacks 24 = .ok (.invokevirtual 19, 3) := by decide +kernel
theorem dX0_stacks_27 : decode cX0_stacks 27 = .ok (.aload_n 0, 1) := by decide +kernel
theorem dX0_stacks_28 : decode cX0_stacks 28 = .ok (.iload_n 2, 1) := by decide +kernel
theorem dX0_stacks_29 : decode cX0_stacks 29 = .ok (.iconst 1, 1) := by decide +kernel
theorem dX0_stacks_30 : decode cX0_stacks 30 = .ok (.isub, 1) := by decide +kernel
theorem dX0_stacks_31 : decode cX0_stacks 31 = .ok (.iload_n 1, 1) := by decide +kernel
theorem dX0_stacks_32 : decode cX0_stacks 32 = .ok (.bipush 8, 2) := by decide +kernel
theorem dX0_stacks_34 : decode cX0_stacks 34 = .ok (.ishr, 1) := by decide +kernel
theorem dX0_stacks_35 : decode cX0_stacks 35 = .ok (.invokevirtual 19, 3) := by decide +kernel
theorem dX0_stacks_38 : decode cX0_stacks 38 = .ok (.aload_n 0, 1) := by decide +kernel
theorem dX0_stacks_39 : decode cX0_stacks 39 = .ok (.bipush 93, 2) := by decide +kernel
theorem dX0_stacks_41 : decode cX0_stacks 41 = .ok (.iload_n 2, 1) := by decide +kernel
theorem dX0_stacks_42 : decode cX0_stacks 42 = .ok (.iconst 2, 1) := by decide +kernel
theorem dX0_stacks_43 : decode cX0_stacks 43 = .ok (.isub, 1) := by decide +kernel
theorem dX0_stacks_44 : decode cX0_stacks 44 = .ok (.invokevirtual 30, 3) := by decide +kernel
theorem dX0_stacks_47 : decode cX0_stacks 47 = .ok (.iconst 1, 1) := by decide +kernel
theorem dX0_stacks_48 : decode cX0_stacks 48 = .ok (.ireturn, 1) := by decide +kernel
set_option maxRecDepth 20000 in
theorem ggX0_pull_X0_pair : GoodIn wsX0_pull wsX0_pair := goodIn_r _ [5, 6, 15] (by decide +kernel) (by decide +kernel)
set_option maxRecDepth 20000 in
theorem gX0_pull_X0_pair : GoodIn wsX0_pull (wsV RX0 27 RX0 yX0_pair wsX0_pair) := goodIn_app (goodIn_of _ (by decide +kernel)) ggX0_pull_X0_pair
set_option maxRecDepth 20000 in
theorem ggX0_pull_X0_setPair : GoodIn wsX0_pull wsX0_setPair := goodIn_r _ [10, 6, 15] (by decide +kernel) (by decide +kernel)
set_option maxRecDepth 20000 in
theorem gX0_pull_X0_setPair : GoodIn wsX0_pull (wsV RX0 30 RX0 yX0_setPair wsX0_setPair) := goodIn_app (goodIn_of _ (by decide +kernel)) ggX0_pull_X0_setPair
set_option maxRecDepth 20000 in
theorem ggX0_pull_X0_get : GoodIn wsX0_pull wsX0_get := goodIn_r _ [14, 6, 15] (by decide +kernel) (by decide +kernel)
set_option maxRecDepth 20000 in
theorem gX0_pull_X0_get : GoodIn wsX0_pull (wsV RX0 15 RX0 yX0_get wsX0_get) := goodIn_app (goodIn_of _ (by decide +kernel)) ggX0_pull_X0_get
theorem dX0_pull_0 : decode cX0_pull 0 = .ok (.aload_n 0, 1) := by decide +kernel
theorem dX0_pull_1 : decode cX0_pull 1 = .ok (.bipush 93, 2) := by decide +kernel
theorem dX0_pull_3 : decode cX0_pull 3 = .ok (.invokevirtual 27, 3) := by decide +kernel
theorem dX0_pull_6 : decode cX0_pull 6 = .ok (.iconst 1, 1) := by decide +kernel
theorem dX0_pull_7 : decode cX0_pull 7 = .ok (.iadd, 1) := by decide +kernel
theorem dX0_pull_8 : decode cX0_pull 8 = .ok (.istore_n 1, 1) := by decide +kernel
theorem dX0_pull_9 : decode cX0_pull 9 = .ok (.aload_n 0, 1) := by decide +kernel
theorem dX0_pull_10 : decode cX0_pull 10 = .ok (.bipush 93, 2) := by decide +kernel
theorem dX0_pull_12 : decode cX0_pull 12 = .ok (.iload_n 1, 1) := by decide +kernel
theorem dX0_pull_13 : decode cX0_pull 13 = .ok (.invokevirtual 30, 3) := by decide +kernel
theorem dX0_pull_16 : decode cX0_pull 16 = .ok (.aload_n 0, 1) := by decide +kernel
theorem dX0_pull_17 : decode cX0_pull 17 = .ok (.iload_n 1, 1) := by decide +kernel
theorem dX0_pull_18 : decode cX0_pull 18 = .ok (.invokevirtual 15, 3) := by decide +kernel
theorem dX0_pull_21 : decode cX0_pull 21 = .ok (.ireturn, 1) := by decide +kernel
theorem dX2_init_0 : decode cX2_init 0 = .ok (.aload_n 0, 1) := by decide +kernel
theorem dX2_init_1 : decode cX2_init 1 = .ok (.invokespecial 7, 3) := by decide +kernel
theorem dX2_init_4 : decode cX2_init 4 = .ok (.aload_n 0, 1) := by decide +kernel
theorem dX2_init_5 : decode cX2_init 5 = .ok (.aload_n 1, 1) := by decide +kernel
theorem dX2_init_6 : decode cX2_init 6 = .ok (.putfield 13, 3) := by decide +kernel
theorem dX2_init_9 : decode cX2_init 9 = .ok (.return_, 1) := by decide +kernel
set_option maxRecDepth 20000 in
theorem ggX2_sum_X2_signs : GoodIn wsX2_sum wsX2_signs := goodIn_r _ [5] (by decide +kernel) (by decide +kernel)
set_option maxRecDepth 20000 in
theorem gX2_sum_X2_signs : GoodIn wsX2_sum (va_wsS RX2 17 yX2_signs wsX2_signs) := goodIn_app (goodIn_of _ (by decide +kernel)) ggX2_sum_X2_signs
set_option maxRecDepth 20000 in
theorem ggX2_sum_X0_setFlags : GoodIn wsX2_sum wsX0_setFlags := goodIn_r _ [10, 11, 13] (by decide +kernel) (by decide +kernel)
set_option maxRecDepth 20000 in
theorem gX2_sum_X0_setFlags : GoodIn wsX2_sum (wsV RX2 21 RX0 yX0_setFlags wsX0_setFlags) := goodIn_app (goodIn_of _ (by decide +kernel)) ggX2_sum_X0_setFlags
theorem dX2_sum_0 : decode cX2_sum 0 = .ok (.iload_n 1, 1) := by decide +kernel
theorem dX2_sum_1 : decode cX2_sum 1 = .ok (.iload_n 2, 1) := by decide +kernel
theorem dX2_sum_2 : decode cX2_sum 2 = .ok (.iadd, 1) := by decide +kernel
theorem dX2_sum_3 : decode cX2_sum 3 = .ok (.iload_n 3, 1) := by decide +kernel
theorem dX2_sum_4 : decode cX2_sum 4 = .ok (.iadd, 1) := by decide +kernel
theorem dX2_sum_5 : decode cX2_sum 5 = .ok (.istore 4, 2) := by decide +kernel
theorem dX2_sum_7 : decode cX2_sum 7 = .ok (.iload 4, 2) := by decide +kernel
theorem dX2_sum_9 : decode cX2_sum 9 = .ok (.sipush 255, 3) := by decide +kernel
theorem dX2_sum_12 : decode cX2_sum 12 = .ok (.iand, 1) := by decide +kernel
theorem dX2_sum_13 : decode cX2_sum 13 = .ok (.istore 5, 2) := by decide +kernel
theorem dX2_sum_15 : decode cX2_sum 15 = .ok (.iload_n 1, 1) := by decide +kernel
theorem dX2_sum_16 : decode cX2_sum 16 = .ok (.bipush 15, 2) := by decide +kernel
theorem dX2_sum_18 : decode cX2_sum 18 = .ok (.iand, 1) := by decide +kernel
theorem dX2_sum_19 : decode cX2_sum 19 = .ok (.iload_n 2, 1) := by decide +kernel
theorem dX2_sum_20 : decode cX2_sum 20 = .ok (.bipush 15, 2) := by decide +kernel
theorem dX2_sum_22 : decode cX2_sum 22 = .ok (.iand, 1) := by decide +kernel
theorem dX2_sum_23 : decode cX2_sum 23 = .ok (.iadd, 1) := by decide +kernel
theorem dX2_sum_24 : decode cX2_sum 24 = .ok (.iload_n 3, 1) := by decide +kernel
theorem dX2_sum_25 : decode cX2_sum 25 = .ok (.iadd, 1) := by decide +kernel
theorem dX2_sum_26 : decode cX2_sum 26 = .ok (.istore 6, 2) := by decide +kernel
theorem dX2_sum_28 : decode cX2_sum 28 = .ok (.iload_n 1, 1) := by decide +kernel
theorem dX2_sum_29 : decode cX2_sum 29 = .ok (.iload 5, 2) := by decide +kernel
theorem dX2_sum_31 : decode cX2_sum 31 = .ok (.ixor, 1) := by decide +kernel
theorem dX2_sum_32 : decode cX2_sum 32 = .ok (.iload_n 2, 1) := by decide +kernel
theorem dX2_sum_33 : decode cX2_sum 33 = .ok (.iload 5, 2) := by decide +kernel
theorem dX2_sum_35 : decode cX2_sum 35 = .ok (.ixor, 1) := by decide +kernel
theorem dX2_sum_36 : decode cX2_sum 36 = .ok (.iand, 1) := by decide +kernel
theorem dX2_sum_37 : decode cX2_sum 37 = .ok (.sipush 128, 3) := by decide +kernel
theorem dX2_sum_40 : decode cX2_sum 40 = .ok (.iand, 1) := by decide +kernel
theorem dX2_sum_41 : decode cX2_sum 41 = .ok (.ifCond .eq 7, 3) := by decide +kernel
theorem dX2_sum_44 : decode cX2_sum 44 = .ok (.iconst 1, 1) := by decide +kernel
theorem dX2_sum_45 : decode cX2_sum 45 = .ok (.goto 4, 3) := by decide +kernel
theorem dX2_sum_48 : decode cX2_sum 48 = .ok (.iconst 0, 1) := by decide +kernel
theorem dX2_sum_49 : decode cX2_sum 49 = .ok (.istore 7, 2) := by decide +kernel
theorem dX2_sum_51 : decode cX2_sum 51 = .ok (.aload_n 0, 1) := by decide +kernel
theorem dX2_sum_52 : decode cX2_sum 52 = .ok (.getfield 13, 3) := by decide +kernel
theorem dX2_sum_55 : decode cX2_sum 55 = .ok (.bipush 63, 2) := by decide +kernel
theorem dX2_sum_57 : decode cX2_sum 57 = .ok (.iload 5, 2) := by decide +kernel
theorem dX2_sum_59 : decode cX2_sum 59 = .ok (.iload 7, 2) := by decide +kernel
theorem dX2_sum_61 : decode cX2_sum 61 = .ok (.invokestatic 17, 3) := by decide +kernel
theorem dX2_sum_64 : decode cX2_sum 64 = .ok (.iload 4, 2) := by decide +kernel
theorem dX2_sum_66 : decode cX2_sum 66 = .ok (.sipush 255, 3) := by decide +kernel
theorem dX2_sum_69 : decode cX2_sum 69 = .ok (.if_icmp .le 7, 3) := by decide +kernel
theorem dX2_sum_72 : decode cX2_sum 72 = .ok (.iconst 1, 1) := by decide +kernel
theorem dX2_sum_73 : decode cX2_sum 73 = .ok (.goto 4, 3) := by decide +kernel
theorem dX2_sum_76 : decode cX2_sum 76 = .ok (.iconst 0, 1) := by decide +kernel
theorem dX2_sum_77 : decode cX2_sum 77 = .ok (.ior, 1) := by decide +kernel
theorem dX2_sum_78 : decode cX2_sum 78 = .ok (.iload 6, 2) := by decide +kernel
theorem dX2_sum_80 : decode cX2_sum 80 = .ok (.bipush 15, 2) := by decide +kernel
theorem dX2_sum_82 : decode cX2_sum 82 = .ok (.if_icmp .le 8, 3) := by decide +kernel
theorem dX2_sum_85 : decode cX2_sum 85 = .ok (.bipush 32, 2) := by decide +kernel
theorem dX2_sum_87 : decode cX2_sum 87 = .ok (.goto 4, 3) := by decide +kernel
theorem dX2_sum_90 : decode cX2_sum 90 = .ok (.iconst 0, 1) := by decide +kernel
theorem dX2_sum_91 : decode cX2_sum 91 = .ok (.ior, 1) := by decide +kernel
theorem dX2_sum_92 : decode cX2_sum 92 = .ok (.invokevirtual 21, 3) := by decide +kernel
theorem dX2_sum_95 : decode cX2_sum 95 = .ok (.iload 5, 2) := by decide +kernel
theorem dX2_sum_97 : decode cX2_sum 97 = .ok (.ireturn, 1) := by decide +kernel
set_option maxRecDepth 20000 in
theorem ggX2_difference_X2_subtract : GoodIn wsX2_difference wsX2_subtract := goodIn_r _ [5, 6, 7, 8, 4, 9, 10, 11, 12, 13, 14, 15, 16, 17] (by decide +kernel) (by decide +kernel)
set_option maxRecDepth 20000 in
theorem gX2_difference_X2_subtract : GoodIn wsX2_difference (wsV RX2 27 RX2 yX2_subtract wsX2_subtract) := goodIn_app (goodIn_of _ (by decide +kernel)) ggX2_difference_X2_subtract
theorem dX2_difference_0 : decode cX2_difference 0 = .ok (.aload_n 0, 1) := by decide +kernel
theorem dX2_difference_1 : decode cX2_difference 1 = .ok (.iload_n 1, 1) := by decide +kernel
theorem dX2_difference_2 : decode cX2_difference 2 = .ok (.iload_n 2, 1) := by decide +kernel
theorem dX2_difference_3 : decode cX2_difference 3 = .ok (.iconst 0, 1) := by decide +kernel
theorem dX2_difference_4 : decode cX2_difference 4 = .ok (.bipush 30, 2) := by decide +kernel
theorem dX2_difference_6 : decode cX2_difference 6 = .ok (.invokevirtual 27, 3) := by decide +kernel
theorem dX2_difference_9 : decode cX2_difference 9 = .ok (.ireturn, 1) := by decide +kernel
set_option maxRecDepth 20000 in
theorem ggX2_differenceOn_X0_flag : GoodIn wsX2_differenceOn wsX0_flag := goodIn_r _ [6, 7, 21] (by decide +kernel) (by decide +kernel)
set_option maxRecDepth 20000 in
theorem gX2_differenceOn_X0_flag : GoodIn wsX2_differenceOn (wsV RX2 31 RX0 yX0_flag wsX0_flag) := goodIn_app (goodIn_of _ (by decide +kernel)) ggX2_differenceOn_X0_flag
set_option maxRecDepth 20000 in
theorem ggX2_differenceOn_X2_subtract : GoodIn wsX2_differenceOn wsX2_subtract := goodIn_r _ [12, 1, 13, 14, 11, 15, 16, 17, 18, 5, 19, 7, 20, 21] (by decide +kernel) (by decide +kernel)
set_option maxRecDepth 20000 in
theorem gX2_differenceOn_X2_subtract : GoodIn wsX2_differenceOn (wsV RX2 27 RX2 yX2_subtract wsX2_subtract) := goodIn_app (goodIn_of _ (by decide +kernel)) ggX2_differenceOn_X2_subtract
theorem dX2_differenceOn_0 : decode cX2_differenceOn 0 = .ok (.aload_n 0, 1) := by decide +kernel
theorem dX2_differenceOn_1 : decode cX2_differenceOn 1 = .ok (.getfield 13, 3) := by decide +kernel
theorem dX2_differenceOn_4 : decode cX2_differenceOn 4 = .ok (.iconst 1, 1) := by decide +kernel
theorem dX2_differenceOn_5 : decode cX2_differenceOn 5 = .ok (.invokevirtual 31, 3) := by decide +kernel
theorem dX2_differenceOn_8 : decode cX2_differenceOn 8 = .ok (.iconst 1, 1) := by decide +kernel
theorem dX2_differenceOn_9 : decode cX2_differenceOn 9 = .ok (.if_icmp .ne 8, 3) := by decide +kernel
theorem dX2_differenceOn_12 : decode cX2_differenceOn 12 = .ok (.bipush 30, 2) := by decide +kernel
theorem dX2_differenceOn_14 : decode cX2_differenceOn 14 = .ok (.goto 5, 3) := by decide +kernel
theorem dX2_differenceOn_17 : decode cX2_differenceOn 17 = .ok (.bipush 28, 2) := by decide +kernel
theorem dX2_differenceOn_19 : decode cX2_differenceOn 19 = .ok (.istore 4, 2) := by decide +kernel
theorem dX2_differenceOn_21 : decode cX2_differenceOn 21 = .ok (.aload_n 0, 1) := by decide +kernel
theorem dX2_differenceOn_22 : decode cX2_differenceOn 22 = .ok (.iload_n 1, 1) := by decide +kernel
theorem dX2_differenceOn_23 : decode cX2_differenceOn 23 = .ok (.iload_n 2, 1) := by decide +kernel
theorem dX2_differenceOn_24 : decode cX2_differenceOn 24 = .ok (.iload_n 3, 1) := by decide +kernel
theorem dX2_differenceOn_25 : decode cX2_differenceOn 25 = .ok (.iload 4, 2) := by decide +kernel
theorem dX2_differenceOn_27 : decode cX2_differenceOn 27 = .ok (.invokevirtual 27, 3) := by decide +kernel
theorem dX2_differenceOn_30 : decode cX2_differenceOn 30 = .ok (.ireturn, 1) := by decide +kernel
set_option maxRecDepth 20000 in
theorem ggX2_subtract_X2_signs : GoodIn wsX2_subtract wsX2_signs := goodIn_r _ [5] (by decide +kernel) (by decide +kernel)
set_option maxRecDepth 20000 in
theorem gX2_subtract_X2_signs : GoodIn wsX2_subtract (va_wsS RX2 17 yX2_signs wsX2_signs) := goodIn_app (goodIn_of _ (by decide +kernel)) ggX2_subtract_X2_signs
set_option maxRecDepth 20000 in
theorem ggX2_subtract_X0_setFlags : GoodIn wsX2_subtract wsX0_setFlags := goodIn_r _ [10, 11, 13] (by decide +kernel) (by decide +kernel)
set_option maxRecDepth 20000 in
theorem gX2_subtract_X0_setFlags : GoodIn wsX2_subtract (wsV RX2 21 RX0 yX0_setFlags wsX0_setFlags) := goodIn_app (goodIn_of _ (by decide +kernel)) ggX2_subtract_X0_setFlags
theorem dX2_subtract_0 : decode cX2_subtract 0 = .ok (.iload_n 1, 1) := by decide +kernel
theorem dX2_subtract_1 : decode cX2_subtract 1 = .ok (.iload_n 2, 1) := by decide +kernel
theorem dX2_subtract_2 : decode cX2_subtract 2 = .ok (.isub, 1) := by decide +kernel
theorem dX2_subtract_3 : decode cX2_subtract 3 = .ok (.iload_n 3, 1) := by decide +kernel
theorem dX2_subtract_4 : decode cX2_subtract 4 = .ok (.isub, 1) := by decide +kernel
theorem dX2_subtract_5 : decode cX2_subtract 5 = .ok (.istore 5, 2) := by decide +kernel
theorem dX2_subtract_7 : decode cX2_subtract 7 = .ok (.iload 5, 2) := by decide +kernel
theorem dX2_subtract_9 : decode cX2_subtract 9 = .ok (.sipush 255, 3) := by decide +kernel
theorem dX2_subtract_12 : decode cX2_subtract 12 = .ok (.iand, 1) := by decide +kernel
theorem dX2_subtract_13 : decode cX2_subtract 13 = .ok (.istore 6, 2) := by decide +kernel
theorem dX2_subtract_15 : decode cX2_subtract 15 = .ok (.iload_n 1, 1) := by decide +kernel
theorem dX2_subtract_16 : decode cX2_subtract 16 = .ok (.bipush 15, 2) := by decide +kernel
theorem dX2_subtract_18 : decode cX2_subtract 18 = .ok (.iand, 1) := by decide +kernel
theorem dX2_subtract_19 : decode cX2_subtract 19 = .ok (.iload_n 2, 1) := by decide +kernel
theorem dX2_subtract_20 : decode cX2_subtract 20 = .ok (.bipush 15, 2) := by decide +kernel
theorem dX2_subtract_22 : decode cX2_subtract 22 = .ok (.iand, 1) := by decide +kernel
theorem dX2_subtract_23 : decode cX2_subtract 23 = .ok (.isub, 1) := by decide +kernel
theorem dX2_subtract_24 : decode cX2_subtract 24 = .ok (.iload_n 3, 1) := by decide +kernel
theorem dX2_subtract_25 : decode cX2_subtract 25 = .ok (.isub, 1) := by decide +kernel
theorem dX2_subtract_26 : decode cX2_subtract 26 = .ok (.istore 7, 2) := by decide +kernel
theorem dX2_subtract_28 : decode cX2_subtract 28 = .ok (.iload_n 1, 1) := by decide +kernel
theorem dX2_subtract_29 : decode cX2_subtract 29 = .ok (.iload_n 2, 1) := by decide +kernel
theorem dX2_subtract_30 : decode cX2_subtract 30 = .ok (.ixor, 1) := by decide +kernel
theorem dX2_subtract_31 : decode cX2_subtract 31 = .ok (.iload_n 1, 1) := by decide +kernel
theorem dX2_subtract_32 : decode cX2_subtract 32 = .ok (.iload 6, 2) := by decide +kernel
theorem dX2_subtract_34 : decode cX2_subtract 34 = .ok (.ixor, 1) := by decide +kernel
theorem dX2_subtract_35 : decode cX2_subtract 35 = .ok (.iand, 1) := by decide +kernel
theorem dX2_subtract_36 : decode cX2_subtract 36 = .ok (.sipush 128, 3) := by decide +kernel
theorem dX2_subtract_39 : decode cX2_subtract 39 = .ok (.iand, 1) := by decide +kernel
theorem dX2_subtract_40 : decode cX2_subtract 40 = .ok (.ifCond .eq 7, 3) := by decide +kernel
theorem dX2_subtract_43 : decode cX2_subtract 43 = .ok (.iconst 1, 1) := by decide +kernel
theorem dX2_subtract_44 : decode cX2_subtract 44 = .ok (.goto 4, 3) := by decide +kernel
theorem dX2_subtract_47 : decode cX2_subtract 47 = .ok (.iconst 0, 1) := by decide +kernel
theorem dX2_subtract_48 : decode cX2_subtract 48 = .ok (.istore 8, 2) := by decide +kernel
theorem dX2_subtract_50 : decode cX2_subtract 50 = .ok (.aload_n 0, 1) := by decide +kernel
theorem dX2_subtract_51 : decode cX2_subtract 51 = .ok (.getfield 13, 3) := by decide +kernel
theorem dX2_subtract_54 : decode cX2_subtract 54 = .ok (.iload 4, 2) := by decide +kernel
theorem dX2_subtract_56 : decode cX2_subtract 56 = .ok (.iconst 1, 1) := by decide +kernel
theorem dX2_subtract_57 : decode cX2_subtract 57 = .ok (.ior, 1) := by decide +kernel
theorem dX2_subtract_58 : decode cX2_subtract 58 = .ok (.bipush 32, 2) := by decide +kernel
theorem dX2_subtract_60 : decode cX2_subtract 60 = .ok (.ior, 1) := by decide +kernel
theorem dX2_subtract_61 : decode cX2_subtract 61 = .ok (.iload 6, 2) := by decide +kernel
theorem dX2_subtract_63 : decode cX2_subtract 63 = .ok (.iload 8, 2) := by decide +kernel
theorem dX2_subtract_65 : decode cX2_subtract 65 = .ok (.invokestatic 17, 3) := by decide +kernel
theorem dX2_subtract_68 : decode cX2_subtract 68 = .ok (.iload 5, 2) := by decide +kernel
theorem dX2_subtract_70 : decode cX2_subtract 70 = .ok (.ifCond .ge 7, 3) := by decide +kernel
theorem dX2_subtract_73 : decode cX2_subtract 73 = .ok (.iconst 1, 1) := by decide +kernel
theorem dX2_subtract_74 : decode cX2_subtract 74 = .ok (.goto 4, 3) := by decide +kernel
theorem dX2_subtract_77 : decode cX2_subtract 77 = .ok (.iconst 0, 1) := by decide +kernel
theorem dX2_subtract_78 : decode cX2_subtract 78 = .ok (.ior, 1) := by decide +kernel
theorem dX2_subtract_79 : decode cX2_subtract 79 = .ok (.iload 7, 2) := by decide +kernel
theorem dX2_subtract_81 : decode cX2_subtract 81 = .ok (.ifCond .ge 8, 3) := by decide +kernel
theorem dX2_subtract_84 : decode cX2_subtract 84 = .ok (.bipush 32, 2) := by decide +kernel
theorem dX2_subtract_86 : decode cX2_subtract 86 = .ok (.goto 4, 3) := by decide +kernel
theorem dX2_subtract_89 : decode cX2_subtract 89 = .ok (.iconst 0, 1) := by decide +kernel
theorem dX2_subtract_90 : decode cX2_subtract 90 = .ok (.ior, 1) := by decide +kernel
theorem dX2_subtract_91 : decode cX2_subtract 91 = .ok (.invokevirtual 21, 3) := by decide +kernel
theorem dX2_subtract_94 : decode cX2_subtract 94 = .ok (.iload 6, 2) := by decide +kernel
theorem dX2_subtract_96 : decode cX2_subtract 96 = .ok (.ireturn, 1) := by decide +kernel
set_option maxRecDepth 20000 in
theorem ggX2_logic_X2_signs : GoodIn wsX2_logic wsX2_signs := goodIn_r _ [5] (by decide +kernel) (by decide +kernel)
set_option maxRecDepth 20000 in
theorem gX2_logic_X2_signs : GoodIn wsX2_logic (va_wsS RX2 17 yX2_signs wsX2_signs) := goodIn_app (goodIn_of _ (by decide +kernel)) ggX2_logic_X2_signs
set_option maxRecDepth 20000 in
theorem ggX2_logic_X0_setFlags : GoodIn wsX2_logic wsX0_setFlags := goodIn_r _ [10, 11, 13] (by decide +kernel) (by decide +kernel)
set_option maxRecDepth 20000 in
theorem gX2_logic_X0_setFlags : GoodIn wsX2_logic (wsV RX2 21 RX0 yX0_setFlags wsX0_setFlags) := goodIn_app (goodIn_of _ (by decide +kernel)) ggX2_logic_X0_setFlags
theorem dX2_logic_0 : decode cX2_logic 0 = .ok (.aload_n 0, 1) := by decide +kernel
theorem dX2_logic_1 : decode cX2_logic 1 = .ok (.getfield 13, 3) := by decide +kernel
theorem dX2_logic_4 : decode cX2_logic 4 = .ok (.bipush 30, 2) := by decide +kernel
theorem dX2_logic_6 : decode cX2_logic 6 = .ok (.iload_n 1, 1) := by decide +kernel
theorem dX2_logic_7 : decode cX2_logic 7 = .ok (.iconst 0, 1) := by decide +kernel
theorem dX2_logic_8 : decode cX2_logic 8 = .ok (.invokestatic 17, 3) := by decide +kernel
theorem dX2_logic_11 : decode cX2_logic 11 = .ok (.invokevirtual 21, 3) := by decide +kernel
theorem dX2_logic_14 : decode cX2_logic 14 = .ok (.iload_n 1, 1) := by decide +kernel
theorem dX2_logic_15 : decode cX2_logic 15 = .ok (.ireturn, 1) := by decide +kernel
set_option maxRecDepth 20000 in
theorem ggX2_inverse_X2_signs : GoodIn wsX2_inverse wsX2_signs := goodIn_r _ [5] (by decide +kernel) (by decide +kernel)
set_option maxRecDepth 20000 in
theorem gX2_inverse_X2_signs : GoodIn wsX2_inverse (va_wsS RX2 17 yX2_signs wsX2_signs) := goodIn_app (goodIn_of _ (by decide +kernel)) ggX2_inverse_X2_signs
set_option maxRecDepth 20000 in
theorem ggX2_inverse_X0_setFlags : GoodIn wsX2_inverse wsX0_setFlags := goodIn_r _ [10, 11, 13] (by decide +kernel) (by decide +kernel)
set_option maxRecDepth 20000 in
theorem gX2_inverse_X0_setFlags : GoodIn wsX2_inverse (wsV RX2 21 RX0 yX0_setFlags wsX0_setFlags) := goodIn_app (goodIn_of _ (by decide +kernel)) ggX2_inverse_X0_setFlags
theorem dX2_inverse_0 : decode cX2_inverse 0 = .ok (.sipush 255, 3) := by decide +kernel
theorem dX2_inverse_3 : decode cX2_inverse 3 = .ok (.iload_n 1, 1) := by decide +kernel
theorem dX2_inverse_4 : decode cX2_inverse 4 = .ok (.isub, 1) := by decide +kernel
theorem dX2_inverse_5 : decode cX2_inverse 5 = .ok (.istore_n 2, 1) := by decide +kernel
theorem dX2_inverse_6 : decode cX2_inverse 6 = .ok (.aload_n 0, 1) := by decide +kernel
theorem dX2_inverse_7 : decode cX2_inverse 7 = .ok (.getfield 13, 3) := by decide +kernel
theorem dX2_inverse_10 : decode cX2_inverse 10 = .ok (.bipush 31, 2) := by decide +kernel
theorem dX2_inverse_12 : decode cX2_inverse 12 = .ok (.iload_n 2, 1) := by decide +kernel
theorem dX2_inverse_13 : decode cX2_inverse 13 = .ok (.iconst 0, 1) := by decide +kernel
theorem dX2_inverse_14 : decode cX2_inverse 14 = .ok (.invokestatic 17, 3) := by decide +kernel
theorem dX2_inverse_17 : decode cX2_inverse 17 = .ok (.iconst 1, 1) := by decide +kernel
theorem dX2_inverse_18 : decode cX2_inverse 18 = .ok (.ior, 1) := by decide +kernel
theorem dX2_inverse_19 : decode cX2_inverse 19 = .ok (.invokevirtual 21, 3) := by decide +kernel
theorem dX2_inverse_22 : decode cX2_inverse 22 = .ok (.iload_n 2, 1) := by decide +kernel
theorem dX2_inverse_23 : decode cX2_inverse 23 = .ok (.ireturn, 1) := by decide +kernel
set_option maxRecDepth 20000 in
theorem ggX2_more_X2_signs : GoodIn wsX2_more wsX2_signs := goodIn_r _ [5] (by decide +kernel) (by decide +kernel)
set_option maxRecDepth 20000 in
theorem gX2_more_X2_signs : GoodIn wsX2_more (va_wsS RX2 17 yX2_signs wsX2_signs) := goodIn_app (goodIn_of _ (by decide +kernel)) ggX2_more_X2_signs
set_option maxRecDepth 20000 in
theorem ggX2_more_X0_setFlags : GoodIn wsX2_more wsX0_setFlags := goodIn_r _ [10, 11, 13] (by decide +kernel) (by decide +kernel)
set_option maxRecDepth 20000 in
theorem gX2_more_X0_setFlags : GoodIn wsX2_more (wsV RX2 21 RX0 yX0_setFlags wsX0_setFlags) := goodIn_app (goodIn_of _ (by decide +kernel)) ggX2_more_X0_setFlags
theorem dX2_more_0 : decode cX2_more 0 = .ok (.iload_n 1, 1) := by decide +kernel
theorem dX2_more_1 : decode cX2_more 1 = .ok (.iconst 1, 1) := by decide +kernel
theorem dX2_more_2 : decode cX2_more 2 = .ok (.iadd, 1) := by decide +kernel
theorem dX2_more_3 : decode cX2_more 3 = .ok (.sipush 255, 3) := by decide +kernel
theorem dX2_more_6 : decode cX2_more 6 = .ok (.iand, 1) := by decide +kernel
theorem dX2_more_7 : decode cX2_more 7 = .ok (.istore_n 2, 1) := by decide +kernel
theorem dX2_more_8 : decode cX2_more 8 = .ok (.aload_n 0, 1) := by decide +kernel
theorem dX2_more_9 : decode cX2_more 9 = .ok (.getfield 13, 3) := by decide +kernel
theorem dX2_more_12 : decode cX2_more 12 = .ok (.bipush 30, 2) := by decide +kernel
theorem dX2_more_14 : decode cX2_more 14 = .ok (.iload_n 2, 1) := by decide +kernel
theorem dX2_more_15 : decode cX2_more 15 = .ok (.iload_n 2, 1) := by decide +kernel
theorem dX2_more_16 : decode cX2_more 16 = .ok (.sipush 128, 3) := by decide +kernel
theorem dX2_more_19 : decode cX2_more 19 = .ok (.if_icmp .ne 7, 3) := by decide +kernel
theorem dX2_more_22 : decode cX2_more 22 = .ok (.iconst 1, 1) := by decide +kernel
theorem dX2_more_23 : decode cX2_more 23 = .ok (.goto 4, 3) := by decide +kernel
theorem dX2_more_26 : decode cX2_more 26 = .ok (.iconst 0, 1) := by decide +kernel
theorem dX2_more_27 : decode cX2_more 27 = .ok (.invokestatic 17, 3) := by decide +kernel
theorem dX2_more_30 : decode cX2_more 30 = .ok (.invokevirtual 21, 3) := by decide +kernel
theorem dX2_more_33 : decode cX2_more 33 = .ok (.iload_n 2, 1) := by decide +kernel
theorem dX2_more_34 : decode cX2_more 34 = .ok (.ireturn, 1) := by decide +kernel
set_option maxRecDepth 20000 in
theorem ggX2_less_X2_signs : GoodIn wsX2_less wsX2_signs := goodIn_r _ [5] (by decide +kernel) (by decide +kernel)
set_option maxRecDepth 20000 in
theorem gX2_less_X2_signs : GoodIn wsX2_less (va_wsS RX2 17 yX2_signs wsX2_signs) := goodIn_app (goodIn_of _ (by decide +kernel)) ggX2_less_X2_signs
set_option maxRecDepth 20000 in
theorem ggX2_less_X0_setFlags : GoodIn wsX2_less wsX0_setFlags := goodIn_r _ [10, 11, 13] (by decide +kernel) (by decide +kernel)
set_option maxRecDepth 20000 in
theorem gX2_less_X0_setFlags : GoodIn wsX2_less (wsV RX2 21 RX0 yX0_setFlags wsX0_setFlags) := goodIn_app (goodIn_of _ (by decide +kernel)) ggX2_less_X0_setFlags
theorem dX2_less_0 : decode cX2_less 0 = .ok (.iload_n 1, 1) := by decide +kernel
theorem dX2_less_1 : decode cX2_less 1 = .ok (.iconst 1, 1) := by decide +kernel
theorem dX2_less_2 : decode cX2_less 2 = .ok (.isub, 1) := by decide +kernel
theorem dX2_less_3 : decode cX2_less 3 = .ok (.sipush 255, 3) := by decide +kernel
theorem dX2_less_6 : decode cX2_less 6 = .ok (.iand, 1) := by decide +kernel
theorem dX2_less_7 : decode cX2_less 7 = .ok (.istore_n 2, 1) := by decide +kernel
theorem dX2_less_8 : decode cX2_less 8 = .ok (.aload_n 0, 1) := by decide +kernel
theorem dX2_less_9 : decode cX2_less 9 = .ok (.getfield 13, 3) := by decide +kernel
theorem dX2_less_12 : decode cX2_less 12 = .ok (.bipush 30, 2) := by decide +kernel
theorem dX2_less_14 : decode cX2_less 14 = .ok (.iload_n 2, 1) := by decide +kernel
theorem dX2_less_15 : decode cX2_less 15 = .ok (.iload_n 2, 1) := by decide +kernel
theorem dX2_less_16 : decode cX2_less 16 = .ok (.bipush 127, 2) := by decide +kernel
theorem dX2_less_18 : decode cX2_less 18 = .ok (.if_icmp .ne 7, 3) := by decide +kernel
theorem dX2_less_21 : decode cX2_less 21 = .ok (.iconst 1, 1) := by decide +kernel
theorem dX2_less_22 : decode cX2_less 22 = .ok (.goto 4, 3) := by decide +kernel
theorem dX2_less_25 : decode cX2_less 25 = .ok (.iconst 0, 1) := by decide +kernel
theorem dX2_less_26 : decode cX2_less 26 = .ok (.invokestatic 17, 3) := by decide +kernel
theorem dX2_less_29 : decode cX2_less 29 = .ok (.invokevirtual 21, 3) := by decide +kernel
theorem dX2_less_32 : decode cX2_less 32 = .ok (.iload_n 2, 1) := by decide +kernel
theorem dX2_less_33 : decode cX2_less 33 = .ok (.ireturn, 1) := by decide +kernel
set_option maxRecDepth 20000 in
theorem ggX2_right_X2_signs : GoodIn wsX2_right wsX2_signs := goodIn_r _ [5] (by decide +kernel) (by decide +kernel)
set_option maxRecDepth 20000 in
theorem gX2_right_X2_signs : GoodIn wsX2_right (va_wsS RX2 17 yX2_signs wsX2_signs) := goodIn_app (goodIn_of _ (by decide +kernel)) ggX2_right_X2_signs
set_option maxRecDepth 20000 in
theorem ggX2_right_X0_setFlags : GoodIn wsX2_right wsX0_setFlags := goodIn_r _ [10, 11, 13] (by decide +kernel) (by decide +kernel)
set_option maxRecDepth 20000 in
theorem gX2_right_X0_setFlags : GoodIn wsX2_right (wsV RX2 21 RX0 yX0_setFlags wsX0_setFlags) := goodIn_app (goodIn_of _ (by decide +kernel)) ggX2_right_X0_setFlags
theorem dX2_right_0 : decode cX2_right 0 = .ok (.iload_n 1, 1) := by decide +kernel
theorem dX2_right_1 : decode cX2_right 1 = .ok (.iconst 1, 1) := by decide +kernel
theorem dX2_right_2 : decode cX2_right 2 = .ok (.ishr, 1) := by decide +kernel
theorem dX2_right_3 : decode cX2_right 3 = .ok (.iload_n 2, 1) := by decide +kernel
theorem dX2_right_4 : decode cX2_right 4 = .ok (.bipush 7, 2) := by decide +kernel
theorem dX2_right_6 : decode cX2_right 6 = .ok (.ishl, 1) := by decide +kernel
theorem dX2_right_7 : decode cX2_right 7 = .ok (.ior, 1) := by decide +kernel
theorem dX2_right_8 : decode cX2_right 8 = .ok (.istore_n 3, 1) := by decide +kernel
theorem dX2_right_9 : decode cX2_right 9 = .ok (.iload_n 1, 1) := by decide +kernel
theorem dX2_right_10 : decode cX2_right 10 = .ok (.iconst 1, 1) := by decide +kernel
theorem dX2_right_11 : decode cX2_right 11 = .ok (.iand, 1) := by decide +kernel
theorem dX2_right_12 : decode cX2_right 12 = .ok (.istore 4, 2) := by decide +kernel
theorem dX2_right_14 : decode cX2_right 14 = .ok (.aload_n 0, 1) := by decide +kernel
theorem dX2_right_15 : decode cX2_right 15 = .ok (.getfield 13, 3) := by decide +kernel
theorem dX2_right_18 : decode cX2_right 18 = .ok (.bipush 31, 2) := by decide +kernel
theorem dX2_right_20 : decode cX2_right 20 = .ok (.iload_n 3, 1) := by decide +kernel
theorem dX2_right_21 : decode cX2_right 21 = .ok (.iload_n 2, 1) := by decide +kernel
theorem dX2_right_22 : decode cX2_right 22 = .ok (.iload 4, 2) := by decide +kernel
theorem dX2_right_24 : decode cX2_right 24 = .ok (.if_icmp .eq 7, 3) := by decide +kernel
theorem dX2_right_27 : decode cX2_right 27 = .ok (.iconst 1, 1) := by decide +kernel
theorem dX2_right_28 : decode cX2_right 28 = .ok (.goto 4, 3) := by decide +kernel
theorem dX2_right_31 : decode cX2_right 31 = .ok (.iconst 0, 1) := by decide +kernel
theorem dX2_right_32 : decode cX2_right 32 = .ok (.invokestatic 17, 3) := by decide +kernel
theorem dX2_right_35 : decode cX2_right 35 = .ok (.iload 4, 2) := by decide +kernel
theorem dX2_right_37 : decode cX2_right 37 = .ok (.iconst 1, 1) := by decide +kernel
theorem dX2_right_38 : decode cX2_right 38 = .ok (.if_icmp .ne 7, 3) := by decide +kernel
theorem dX2_right_41 : decode cX2_right 41 = .ok (.iconst 1, 1) := by decide +kernel
theorem dX2_right_42 : decode cX2_right 42 = .ok (.goto 4, 3) := by decide +kernel
theorem dX2_right_45 : decode cX2_right 45 = .ok (.iconst 0, 1) := by decide +kernel
theorem dX2_right_46 : decode cX2_right 46 = .ok (.ior, 1) := by decide +kernel
theorem dX2_right_47 : decode cX2_right 47 = .ok (.invokevirtual 21, 3) := by decide +kernel
theorem dX2_right_50 : decode cX2_right 50 = .ok (.iload_n 3, 1) := by decide +kernel
theorem dX2_right_51 : decode cX2_right 51 = .ok (.ireturn, 1) := by decide +kernel
set_option maxRecDepth 20000 in
theorem ggX2_pairMore_X2_pairFlags : GoodIn wsX2_pairMore wsX2_pairFlags := goodIn_r _ [6, 7, 8, 9, 10, 5, 11, 12, 13, 14, 15, 16, 17, 18, 19] (by decide +kernel) (by decide +kernel)
set_option maxRecDepth 20000 in
theorem gX2_pairMore_X2_pairFlags : GoodIn wsX2_pairMore (wsV RX2 36 RX2 yX2_pairFlags wsX2_pairFlags) := goodIn_app (goodIn_of _ (by decide +kernel)) ggX2_pairMore_X2_pairFlags
theorem dX2_pairMore_0 : decode cX2_pairMore 0 = .ok (.iload_n 1, 1) := by decide +kernel
theorem dX2_pairMore_1 : decode cX2_pairMore 1 = .ok (.iload_n 2, 1) := by decide +kernel
theorem dX2_pairMore_2 : decode cX2_pairMore 2 = .ok (.iadd, 1) := by decide +kernel
theorem dX2_pairMore_3 : decode cX2_pairMore 3 = .ok (.ldc 35, 2) := by decide +kernel
theorem dX2_pairMore_5 : decode cX2_pairMore 5 = .ok (.iand, 1) := by decide +kernel
theorem dX2_pairMore_6 : decode cX2_pairMore 6 = .ok (.istore_n 3, 1) := by decide +kernel
theorem dX2_pairMore_7 : decode cX2_pairMore 7 = .ok (.aload_n 0, 1) := by decide +kernel
theorem dX2_pairMore_8 : decode cX2_pairMore 8 = .ok (.iload_n 3, 1) := by decide +kernel
theorem dX2_pairMore_9 : decode cX2_pairMore 9 = .ok (.iload_n 1, 1) := by decide +kernel
theorem dX2_pairMore_10 : decode cX2_pairMore 10 = .ok (.iconst (-1), 1) := by decide +kernel
theorem dX2_pairMore_11 : decode cX2_pairMore 11 = .ok (.ixor, 1) := by decide +kernel
theorem dX2_pairMore_12 : decode cX2_pairMore 12 = .ok (.iload_n 3, 1) := by decide +kernel
theorem dX2_pairMore_13 : decode cX2_pairMore 13 = .ok (.iand, 1) := by decide +kernel
theorem dX2_pairMore_14 : decode cX2_pairMore 14 = .ok (.iload_n 1, 1) := by decide +kernel
theorem dX2_pairMore_15 : decode cX2_pairMore 15 = .ok (.iload_n 3, 1) := by decide +kernel
theorem dX2_pairMore_16 : decode cX2_pairMore 16 = .ok (.iconst (-1), 1) := by decide +kernel
theorem dX2_pairMore_17 : decode cX2_pairMore 17 = .ok (.ixor, 1) := by decide +kernel
theorem dX2_pairMore_18 : decode cX2_pairMore 18 = .ok (.iand, 1) := by decide +kernel
theorem dX2_pairMore_19 : decode cX2_pairMore 19 = .ok (.invokevirtual 36, 3) := by decide +kernel
theorem dX2_pairMore_22 : decode cX2_pairMore 22 = .ok (.iload_n 3, 1) := by decide +kernel
theorem dX2_pairMore_23 : decode cX2_pairMore 23 = .ok (.ireturn, 1) := by decide +kernel
set_option maxRecDepth 20000 in
theorem ggX2_pairLess_X2_pairFlags : GoodIn wsX2_pairLess wsX2_pairFlags := goodIn_r _ [6, 7, 8, 9, 10, 5, 11, 12, 13, 14, 15, 16, 17, 18, 19] (by decide +kernel) (by decide +kernel)
set_option maxRecDepth 20000 in
theorem gX2_pairLess_X2_pairFlags : GoodIn wsX2_pairLess (wsV RX2 36 RX2 yX2_pairFlags wsX2_pairFlags) := goodIn_app (goodIn_of _ (by decide +kernel)) ggX2_pairLess_X2_pairFlags
theorem dX2_pairLess_0 : decode cX2_pairLess 0 = .ok (.iload_n 1, 1) := by decide +kernel
theorem dX2_pairLess_1 : decode cX2_pairLess 1 = .ok (.iload_n 2, 1) := by decide +kernel
theorem dX2_pairLess_2 : decode cX2_pairLess 2 = .ok (.isub, 1) := by decide +kernel
theorem dX2_pairLess_3 : decode cX2_pairLess 3 = .ok (.ldc 35, 2) := by decide +kernel
theorem dX2_pairLess_5 : decode cX2_pairLess 5 = .ok (.iand, 1) := by decide +kernel
theorem dX2_pairLess_6 : decode cX2_pairLess 6 = .ok (.istore_n 3, 1) := by decide +kernel
theorem dX2_pairLess_7 : decode cX2_pairLess 7 = .ok (.aload_n 0, 1) := by decide +kernel
theorem dX2_pairLess_8 : decode cX2_pairLess 8 = .ok (.iload_n 3, 1) := by decide +kernel
theorem dX2_pairLess_9 : decode cX2_pairLess 9 = .ok (.iload_n 1, 1) := by decide +kernel
theorem dX2_pairLess_10 : decode cX2_pairLess 10 = .ok (.iload_n 3, 1) := by decide +kernel
theorem dX2_pairLess_11 : decode cX2_pairLess 11 = .ok (.iconst (-1), 1) := by decide +kernel
theorem dX2_pairLess_12 : decode cX2_pairLess 12 = .ok (.ixor, 1) := by decide +kernel
theorem dX2_pairLess_13 : decode cX2_pairLess 13 = .ok (.iand, 1) := by decide +kernel
theorem dX2_pairLess_14 : decode cX2_pairLess 14 = .ok (.iload_n 1, 1) := by decide +kernel
theorem dX2_pairLess_15 : decode cX2_pairLess 15 = .ok (.iconst (-1), 1) := by decide +kernel
theorem dX2_pairLess_16 : decode cX2_pairLess 16 = .ok (.ixor, 1) := by decide +kernel
theorem dX2_pairLess_17 : decode cX2_pairLess 17 = .ok (.iload_n 3, 1) := by decide +kernel
theorem dX2_pairLess_18 : decode cX2_pairLess 18 = .ok (.iand, 1) := by decide +kernel
theorem dX2_pairLess_19 : decode cX2_pairLess 19 = .ok (.invokevirtual 36, 3) := by decide +kernel
theorem dX2_pairLess_22 : decode cX2_pairLess 22 = .ok (.iload_n 3, 1) := by decide +kernel
theorem dX2_pairLess_23 : decode cX2_pairLess 23 = .ok (.ireturn, 1) := by decide +kernel
set_option maxRecDepth 20000 in
theorem ggX2_pairFlags_X2_signs : GoodIn wsX2_pairFlags wsX2_signs := goodIn_r _ [6] (by decide +kernel) (by decide +kernel)
set_option maxRecDepth 20000 in
theorem gX2_pairFlags_X2_signs : GoodIn wsX2_pairFlags (va_wsS RX2 17 yX2_signs wsX2_signs) := goodIn_app (goodIn_of _ (by decide +kernel)) ggX2_pairFlags_X2_signs
set_option maxRecDepth 20000 in
theorem ggX2_pairFlags_X0_setFlags : GoodIn wsX2_pairFlags wsX0_setFlags := goodIn_r _ [11, 12, 14] (by decide +kernel) (by decide +kernel)
set_option maxRecDepth 20000 in
theorem gX2_pairFlags_X0_setFlags : GoodIn wsX2_pairFlags (wsV RX2 21 RX0 yX0_setFlags wsX0_setFlags) := goodIn_app (goodIn_of _ (by decide +kernel)) ggX2_pairFlags_X0_setFlags
theorem dX2_pairFlags_0 : decode cX2_pairFlags 0 = .ok (.iload_n 1, 1) := by decide +kernel
theorem dX2_pairFlags_1 : decode cX2_pairFlags 1 = .ok (.bipush 8, 2) := by decide +kernel
theorem dX2_pairFlags_3 : decode cX2_pairFlags 3 = .ok (.ishr, 1) := by decide +kernel
theorem dX2_pairFlags_4 : decode cX2_pairFlags 4 = .ok (.iload_n 2, 1) := by decide +kernel
theorem dX2_pairFlags_5 : decode cX2_pairFlags 5 = .ok (.ldc 40, 2) := by decide +kernel
theorem dX2_pairFlags_7 : decode cX2_pairFlags 7 = .ok (.iand, 1) := by decide +kernel
theorem dX2_pairFlags_8 : decode cX2_pairFlags 8 = .ok (.ifCond .eq 7, 3) := by decide +kernel
theorem dX2_pairFlags_11 : decode cX2_pairFlags 11 = .ok (.iconst 1, 1) := by decide +kernel
theorem dX2_pairFlags_12 : decode cX2_pairFlags 12 = .ok (.goto 4, 3) := by decide +kernel
theorem dX2_pairFlags_15 : decode cX2_pairFlags 15 = .ok (.iconst 0, 1) := by decide +kernel
theorem dX2_pairFlags_16 : decode cX2_pairFlags 16 = .ok (.invokestatic 17, 3) := by decide +kernel
theorem dX2_pairFlags_19 : decode cX2_pairFlags 19 = .ok (.bipush (-3), 2) := by decide +kernel
theorem dX2_pairFlags_21 : decode cX2_pairFlags 21 = .ok (.iand, 1) := by decide +kernel
theorem dX2_pairFlags_22 : decode cX2_pairFlags 22 = .ok (.istore 4, 2) := by decide +kernel
theorem dX2_pairFlags_24 : decode cX2_pairFlags 24 = .ok (.aload_n 0, 1) := by decide +kernel
theorem dX2_pairFlags_25 : decode cX2_pairFlags 25 = .ok (.getfield 13, 3) := by decide +kernel
theorem dX2_pairFlags_28 : decode cX2_pairFlags 28 = .ok (.bipush 31, 2) := by decide +kernel
theorem dX2_pairFlags_30 : decode cX2_pairFlags 30 = .ok (.iload 4, 2) := by decide +kernel
theorem dX2_pairFlags_32 : decode cX2_pairFlags 32 = .ok (.iload_n 1, 1) := by decide +kernel
theorem dX2_pairFlags_33 : decode cX2_pairFlags 33 = .ok (.ifCond .ne 7, 3) := by decide +kernel
theorem dX2_pairFlags_36 : decode cX2_pairFlags 36 = .ok (.iconst 2, 1) := by decide +kernel
theorem dX2_pairFlags_37 : decode cX2_pairFlags 37 = .ok (.goto 4, 3) := by decide +kernel
theorem dX2_pairFlags_40 : decode cX2_pairFlags 40 = .ok (.iconst 0, 1) := by decide +kernel
theorem dX2_pairFlags_41 : decode cX2_pairFlags 41 = .ok (.ior, 1) := by decide +kernel
theorem dX2_pairFlags_42 : decode cX2_pairFlags 42 = .ok (.iload_n 3, 1) := by decide +kernel
theorem dX2_pairFlags_43 : decode cX2_pairFlags 43 = .ok (.ldc 40, 2) := by decide +kernel
theorem dX2_pairFlags_45 : decode cX2_pairFlags 45 = .ok (.iand, 1) := by decide +kernel
theorem dX2_pairFlags_46 : decode cX2_pairFlags 46 = .ok (.ifCond .eq 7, 3) := by decide +kernel
theorem dX2_pairFlags_49 : decode cX2_pairFlags 49 = .ok (.iconst 1, 1) := by decide +kernel
theorem dX2_pairFlags_50 : decode cX2_pairFlags 50 = .ok (.goto 4, 3) := by decide +kernel
theorem dX2_pairFlags_53 : decode cX2_pairFlags 53 = .ok (.iconst 0, 1) := by decide +kernel
theorem dX2_pairFlags_54 : decode cX2_pairFlags 54 = .ok (.ior, 1) := by decide +kernel
theorem dX2_pairFlags_55 : decode cX2_pairFlags 55 = .ok (.invokevirtual 21, 3) := by decide +kernel
theorem dX2_pairFlags_58 : decode cX2_pairFlags 58 = .ok (.return_, 1) := by decide +kernel
set_option maxRecDepth 20000 in
theorem ggX2_product_X2_keepProduct : GoodIn wsX2_product wsX2_keepProduct := goodIn_r _ [5, 6, 7, 8, 9, 10, 11, 12, 13, 14, 15, 16, 17, 18, 19, 20] (by decide +kernel) (by decide +kernel)
set_option maxRecDepth 20000 in
theorem gX2_product_X2_keepProduct : GoodIn wsX2_product (wsV RX2 41 RX2 yX2_keepProduct wsX2_keepProduct) := goodIn_app (goodIn_of _ (by decide +kernel)) ggX2_product_X2_keepProduct
theorem dX2_product_0 : decode cX2_product 0 = .ok (.aload_n 0, 1) := by decide +kernel
theorem dX2_product_1 : decode cX2_product 1 = .ok (.iload_n 1, 1) := by decide +kernel
theorem dX2_product_2 : decode cX2_product 2 = .ok (.iload_n 1, 1) := by decide +kernel
theorem dX2_product_3 : decode cX2_product 3 = .ok (.invokevirtual 41, 3) := by decide +kernel
theorem dX2_product_6 : decode cX2_product 6 = .ok (.return_, 1) := by decide +kernel
set_option maxRecDepth 20000 in
theorem ggX2_fraction_X2_keepProduct : GoodIn wsX2_fraction wsX2_keepProduct := goodIn_r _ [5, 6, 7, 8, 9, 10, 11, 12, 13, 14, 15, 16, 17, 18, 19, 20] (by decide +kernel) (by decide +kernel)
set_option maxRecDepth 20000 in
theorem gX2_fraction_X2_keepProduct : GoodIn wsX2_fraction (wsV RX2 41 RX2 yX2_keepProduct wsX2_keepProduct) := goodIn_app (goodIn_of _ (by decide +kernel)) ggX2_fraction_X2_keepProduct
theorem dX2_fraction_0 : decode cX2_fraction 0 = .ok (.aload_n 0, 1) := by decide +kernel
theorem dX2_fraction_1 : decode cX2_fraction 1 = .ok (.iload_n 1, 1) := by decide +kernel
theorem dX2_fraction_2 : decode cX2_fraction 2 = .ok (.iload_n 1, 1) := by decide +kernel
theorem dX2_fraction_3 : decode cX2_fraction 3 = .ok (.iconst 1, 1) := by decide +kernel
theorem dX2_fraction_4 : decode cX2_fraction 4 = .ok (.ishl, 1) := by decide +kernel
theorem dX2_fraction_5 : decode cX2_fraction 5 = .ok (.invokevirtual 41, 3) := by decide +kernel
theorem dX2_fraction_8 : decode cX2_fraction 8 = .ok (.return_, 1) := by decide +kernel
set_option maxRecDepth 20000 in
theorem ggX2_keepProduct_X0_setPair : GoodIn wsX2_keepProduct wsX0_setPair := goodIn_r _ [8, 9, 15] (by decide +kernel) (by decide +kernel)
set_option maxRecDepth 20000 in
theorem gX2_keepProduct_X0_setPair : GoodIn wsX2_keepProduct (wsV RX2 44 RX0 yX0_setPair wsX0_setPair) := goodIn_app (goodIn_of _ (by decide +kernel)) ggX2_keepProduct_X0_setPair
set_option maxRecDepth 20000 in
theorem ggX2_keepProduct_X0_setFlags : GoodIn wsX2_keepProduct wsX0_setFlags := goodIn_r _ [13, 9, 15] (by decide +kernel) (by decide +kernel)
set_option maxRecDepth 20000 in
theorem gX2_keepProduct_X0_setFlags : GoodIn wsX2_keepProduct (wsV RX2 21 RX0 yX0_setFlags wsX0_setFlags) := goodIn_app (goodIn_of _ (by decide +kernel)) ggX2_keepProduct_X0_setFlags
theorem dX2_keepProduct_0 : decode cX2_keepProduct 0 = .ok (.aload_n 0, 1) := by decide +kernel
theorem dX2_keepProduct_1 : decode cX2_keepProduct 1 = .ok (.getfield 13, 3) := by decide +kernel
theorem dX2_keepProduct_4 : decode cX2_keepProduct 4 = .ok (.iconst 0, 1) := by decide +kernel
theorem dX2_keepProduct_5 : decode cX2_keepProduct 5 = .ok (.iload_n 2, 1) := by decide +kernel
theorem dX2_keepProduct_6 : decode cX2_keepProduct 6 = .ok (.invokevirtual 44, 3) := by decide +kernel
theorem dX2_keepProduct_9 : decode cX2_keepProduct 9 = .ok (.aload_n 0, 1) := by decide +kernel
theorem dX2_keepProduct_10 : decode cX2_keepProduct 10 = .ok (.getfield 13, 3) := by decide +kernel
theorem dX2_keepProduct_13 : decode cX2_keepProduct 13 = .ok (.iconst 3, 1) := by decide +kernel
theorem dX2_keepProduct_14 : decode cX2_keepProduct 14 = .ok (.iload_n 1, 1) := by decide +kernel
theorem dX2_keepProduct_15 : decode cX2_keepProduct 15 = .ok (.ldc 40, 2) := by decide +kernel
theorem dX2_keepProduct_17 : decode cX2_keepProduct 17 = .ok (.iand, 1) := by decide +kernel
theorem dX2_keepProduct_18 : decode cX2_keepProduct 18 = .ok (.ifCond .eq 7, 3) := by decide +kernel
theorem dX2_keepProduct_21 : decode cX2_keepProduct 21 = .ok (.iconst 1, 1) := by decide +kernel
theorem dX2_keepProduct_22 : decode cX2_keepProduct 22 = .ok (.goto 4, 3) := by decide +kernel
theorem dX2_keepProduct_25 : decode cX2_keepProduct 25 = .ok (.iconst 0, 1) := by decide +kernel
theorem dX2_keepProduct_26 : decode cX2_keepProduct 26 = .ok (.iload_n 2, 1) := by decide +kernel
theorem dX2_keepProduct_27 : decode cX2_keepProduct 27 = .ok (.ldc 35, 2) := by decide +kernel
theorem dX2_keepProduct_29 : decode cX2_keepProduct 29 = .ok (.iand, 1) := by decide +kernel
theorem dX2_keepProduct_30 : decode cX2_keepProduct 30 = .ok (.ifCond .ne 7, 3) := by decide +kernel
theorem dX2_keepProduct_33 : decode cX2_keepProduct 33 = .ok (.iconst 2, 1) := by decide +kernel
theorem dX2_keepProduct_34 : decode cX2_keepProduct 34 = .ok (.goto 4, 3) := by decide +kernel
theorem dX2_keepProduct_37 : decode cX2_keepProduct 37 = .ok (.iconst 0, 1) := by decide +kernel
theorem dX2_keepProduct_38 : decode cX2_keepProduct 38 = .ok (.ior, 1) := by decide +kernel
theorem dX2_keepProduct_39 : decode cX2_keepProduct 39 = .ok (.invokevirtual 21, 3) := by decide +kernel
theorem dX2_keepProduct_42 : decode cX2_keepProduct 42 = .ok (.return_, 1) := by decide +kernel
theorem dX2_signs_0 : decode cX2_signs 0 = .ok (.iload_n 0, 1) := by decide +kernel
theorem dX2_signs_1 : decode cX2_signs 1 = .ok (.bipush 7, 2) := by decide +kernel
theorem dX2_signs_3 : decode cX2_signs 3 = .ok (.ishr, 1) := by decide +kernel
theorem dX2_signs_4 : decode cX2_signs 4 = .ok (.iconst 1, 1) := by decide +kernel
theorem dX2_signs_5 : decode cX2_signs 5 = .ok (.iand, 1) := by decide +kernel
theorem dX2_signs_6 : decode cX2_signs 6 = .ok (.istore_n 2, 1) := by decide +kernel
theorem dX2_signs_7 : decode cX2_signs 7 = .ok (.iload_n 1, 1) := by decide +kernel
theorem dX2_signs_8 : decode cX2_signs 8 = .ok (.ifCond .eq 7, 3) := by decide +kernel
theorem dX2_signs_11 : decode cX2_signs 11 = .ok (.iconst 1, 1) := by decide +kernel
theorem dX2_signs_12 : decode cX2_signs 12 = .ok (.goto 4, 3) := by decide +kernel
theorem dX2_signs_15 : decode cX2_signs 15 = .ok (.iconst 0, 1) := by decide +kernel
theorem dX2_signs_16 : decode cX2_signs 16 = .ok (.istore_n 3, 1) := by decide +kernel
theorem dX2_signs_17 : decode cX2_signs 17 = .ok (.iload_n 0, 1) := by decide +kernel
theorem dX2_signs_18 : decode cX2_signs 18 = .ok (.ifCond .ne 7, 3) := by decide +kernel
theorem dX2_signs_21 : decode cX2_signs 21 = .ok (.iconst 2, 1) := by decide +kernel
theorem dX2_signs_22 : decode cX2_signs 22 = .ok (.goto 4, 3) := by decide +kernel
theorem dX2_signs_25 : decode cX2_signs 25 = .ok (.iconst 0, 1) := by decide +kernel
theorem dX2_signs_26 : decode cX2_signs 26 = .ok (.iload_n 2, 1) := by decide +kernel
theorem dX2_signs_27 : decode cX2_signs 27 = .ok (.iconst 2, 1) := by decide +kernel
theorem dX2_signs_28 : decode cX2_signs 28 = .ok (.ishl, 1) := by decide +kernel
theorem dX2_signs_29 : decode cX2_signs 29 = .ok (.ior, 1) := by decide +kernel
theorem dX2_signs_30 : decode cX2_signs 30 = .ok (.iload_n 3, 1) := by decide +kernel
theorem dX2_signs_31 : decode cX2_signs 31 = .ok (.iconst 3, 1) := by decide +kernel
theorem dX2_signs_32 : decode cX2_signs 32 = .ok (.ishl, 1) := by decide +kernel
theorem dX2_signs_33 : decode cX2_signs 33 = .ok (.ior, 1) := by decide +kernel
theorem dX2_signs_34 : decode cX2_signs 34 = .ok (.iload_n 2, 1) := by decide +kernel
theorem dX2_signs_35 : decode cX2_signs 35 = .ok (.iload_n 3, 1) := by decide +kernel
theorem dX2_signs_36 : decode cX2_signs 36 = .ok (.ixor, 1) := by decide +kernel
theorem dX2_signs_37 : decode cX2_signs 37 = .ok (.iconst 4, 1) := by decide +kernel
theorem dX2_signs_38 : decode cX2_signs 38 = .ok (.ishl, 1) := by decide +kernel
theorem dX2_signs_39 : decode cX2_signs 39 = .ok (.ior, 1) := by decide +kernel
theorem dX2_signs_40 : decode cX2_signs 40 = .ok (.ireturn, 1) := by decide +kernel
theorem dX3_d_0 : decode cX3_d 0 = .ok (.iload_n 0, 1) := by decide +kernel
theorem dX3_d_1 : decode cX3_d 1 = .ok (.iconst 4, 1) := by decide +kernel
theorem dX3_d_2 : decode cX3_d 2 = .ok (.ishr, 1) := by decide +kernel
theorem dX3_d_3 : decode cX3_d 3 = .ok (.bipush 31, 2) := by decide +kernel
theorem dX3_d_5 : decode cX3_d 5 = .ok (.iand, 1) := by decide +kernel
theorem dX3_d_6 : decode cX3_d 6 = .ok (.ireturn, 1) := by decide +kernel
theorem dX3_r_0 : decode cX3_r 0 = .ok (.iload_n 0, 1) := by decide +kernel
theorem dX3_r_1 : decode cX3_r 1 = .ok (.iconst 5, 1) := by decide +kernel
theorem dX3_r_2 : decode cX3_r 2 = .ok (.ishr, 1) := by decide +kernel
theorem dX3_r_3 : decode cX3_r 3 = .ok (.bipush 16, 2) := by decide +kernel
theorem dX3_r_5 : decode cX3_r 5 = .ok (.iand, 1) := by decide +kernel
theorem dX3_r_6 : decode cX3_r 6 = .ok (.iload_n 0, 1) := by decide +kernel
theorem dX3_r_7 : decode cX3_r 7 = .ok (.bipush 15, 2) := by decide +kernel
theorem dX3_r_9 : decode cX3_r 9 = .ok (.iand, 1) := by decide +kernel
theorem dX3_r_10 : decode cX3_r 10 = .ok (.ior, 1) := by decide +kernel
theorem dX3_r_11 : decode cX3_r 11 = .ok (.ireturn, 1) := by decide +kernel
theorem dX3_pointer_0 : decode cX3_pointer 0 = .ok (.iload_n 0, 1) := by decide +kernel
theorem dX3_pointer_1 : decode cX3_pointer 1 = .ok (.iconst 2, 1) := by decide +kernel
theorem dX3_pointer_2 : decode cX3_pointer 2 = .ok (.ishr, 1) := by decide +kernel
theorem dX3_pointer_3 : decode cX3_pointer 3 = .ok (.iconst 3, 1) := by decide +kernel
theorem dX3_pointer_4 : decode cX3_pointer 4 = .ok (.iand, 1) := by decide +kernel
theorem dX3_pointer_5 : decode cX3_pointer 5 = .ok (.lookupswitch 33 #[(0, 27), (2, 30)], 27) := by decide +kernel
theorem dX3_pointer_32 : decode cX3_pointer 32 = .ok (.bipush 30, 2) := by decide +kernel
theorem dX3_pointer_34 : decode cX3_pointer 34 = .ok (.ireturn, 1) := by decide +kernel
theorem dX3_pointer_35 : decode cX3_pointer 35 = .ok (.bipush 28, 2) := by decide +kernel
theorem dX3_pointer_37 : decode cX3_pointer 37 = .ok (.ireturn, 1) := by decide +kernel
theorem dX3_pointer_38 : decode cX3_pointer 38 = .ok (.bipush 26, 2) := by decide +kernel
theorem dX3_pointer_40 : decode cX3_pointer 40 = .ok (.ireturn, 1) := by decide +kernel
theorem dX3_hasNext_0 : decode cX3_hasNext 0 = .ok (.iload_n 0, 1) := by decide +kernel
theorem dX3_hasNext_1 : decode cX3_hasNext 1 = .ok (.ldc 9, 2) := by decide +kernel
theorem dX3_hasNext_3 : decode cX3_hasNext 3 = .ok (.iand, 1) := by decide +kernel
theorem dX3_hasNext_4 : decode cX3_hasNext 4 = .ok (.ldc 10, 2) := by decide +kernel
theorem dX3_hasNext_6 : decode cX3_hasNext 6 = .ok (.if_icmp .eq 12, 3) := by decide +kernel
theorem dX3_hasNext_9 : decode cX3_hasNext 9 = .ok (.iload_n 0, 1) := by decide +kernel
theorem dX3_hasNext_10 : decode cX3_hasNext 10 = .ok (.ldc 11, 2) := by decide +kernel
theorem dX3_hasNext_12 : decode cX3_hasNext 12 = .ok (.iand, 1) := by decide +kernel
theorem dX3_hasNext_13 : decode cX3_hasNext 13 = .ok (.ldc 12, 2) := by decide +kernel
theorem dX3_hasNext_15 : decode cX3_hasNext 15 = .ok (.if_icmp .ne 7, 3) := by decide +kernel
theorem dX3_hasNext_18 : decode cX3_hasNext 18 = .ok (.iconst 1, 1) := by decide +kernel
theorem dX3_hasNext_19 : decode cX3_hasNext 19 = .ok (.goto 4, 3) := by decide +kernel
theorem dX3_hasNext_22 : decode cX3_hasNext 22 = .ok (.iconst 0, 1) := by decide +kernel
theorem dX3_hasNext_23 : decode cX3_hasNext 23 = .ok (.ireturn, 1) := by decide +kernel
set_option maxRecDepth 20000 in
theorem ggX3_groupOf_X3_lowGroupOf : GoodIn wsX3_groupOf wsX3_lowGroupOf := goodIn_r _ [4] (by decide +kernel) (by decide +kernel)
set_option maxRecDepth 20000 in
theorem gX3_groupOf_X3_lowGroupOf : GoodIn wsX3_groupOf (va_wsS RX3 13 yX3_lowGroupOf wsX3_lowGroupOf) := goodIn_app (goodIn_of _ (by decide +kernel)) ggX3_groupOf_X3_lowGroupOf
set_option maxRecDepth 20000 in
theorem ggX3_groupOf_X3_mixedGroupOf : GoodIn wsX3_groupOf wsX3_mixedGroupOf := goodIn_r _ [7, 8, 9, 3, 10, 11, 12, 13, 14, 15, 16, 17, 18, 19, 20, 21, 22, 23, 24, 25] (by decide +kernel) (by decide +kernel)
set_option maxRecDepth 20000 in
theorem gX3_groupOf_X3_mixedGroupOf : GoodIn wsX3_groupOf (va_wsS RX3 19 yX3_mixedGroupOf wsX3_mixedGroupOf) := goodIn_app (goodIn_of _ (by decide +kernel)) ggX3_groupOf_X3_mixedGroupOf
set_option maxRecDepth 20000 in
theorem ggX3_groupOf_X3_highGroupOf : GoodIn wsX3_groupOf wsX3_highGroupOf := goodIn_r _ [28] (by decide +kernel) (by decide +kernel)
set_option maxRecDepth 20000 in
theorem gX3_groupOf_X3_highGroupOf : GoodIn wsX3_groupOf (va_wsS RX3 22 yX3_highGroupOf wsX3_highGroupOf) := goodIn_app (goodIn_of _ (by decide +kernel)) ggX3_groupOf_X3_highGroupOf
theorem dX3_groupOf_0 : decode cX3_groupOf 0 = .ok (.iload_n 0, 1) := by decide +kernel
theorem dX3_groupOf_1 : decode cX3_groupOf 1 = .ok (.bipush 12, 2) := by decide +kernel
theorem dX3_groupOf_3 : decode cX3_groupOf 3 = .ok (.ishr, 1) := by decide +kernel
theorem dX3_groupOf_4 : decode cX3_groupOf 4 = .ok (.tableswitch 106 0 15 #[80, 85, 85, 106, 106, 106, 106, 106, 87, 90, 87, 95, 98, 98, 106, 101], 80) := by decide +kernel
theorem dX3_groupOf_84 : decode cX3_groupOf 84 = .ok (.iload_n 0, 1) := by decide +kernel
theorem dX3_groupOf_85 : decode cX3_groupOf 85 = .ok (.invokestatic 13, 3) := by decide +kernel
theorem dX3_groupOf_88 : decode cX3_groupOf 88 = .ok (.ireturn, 1) := by decide +kernel
theorem dX3_groupOf_89 : decode cX3_groupOf 89 = .ok (.iconst 4, 1) := by decide +kernel
theorem dX3_groupOf_90 : decode cX3_groupOf 90 = .ok (.ireturn, 1) := by decide +kernel
theorem dX3_groupOf_91 : decode cX3_groupOf 91 = .ok (.bipush 12, 2) := by decide +kernel
theorem dX3_groupOf_93 : decode cX3_groupOf 93 = .ok (.ireturn, 1) := by decide +kernel
theorem dX3_groupOf_94 : decode cX3_groupOf 94 = .ok (.iload_n 0, 1) := by decide +kernel
theorem dX3_groupOf_95 : decode cX3_groupOf 95 = .ok (.invokestatic 19, 3) := by decide +kernel
theorem dX3_groupOf_98 : decode cX3_groupOf 98 = .ok (.ireturn, 1) := by decide +kernel
theorem dX3_groupOf_99 : decode cX3_groupOf 99 = .ok (.bipush 14, 2) := by decide +kernel
theorem dX3_groupOf_101 : decode cX3_groupOf 101 = .ok (.ireturn, 1) := by decide +kernel
theorem dX3_groupOf_102 : decode cX3_groupOf 102 = .ok (.bipush 19, 2) := by decide +kernel
theorem dX3_groupOf_104 : decode cX3_groupOf 104 = .ok (.ireturn, 1) := by decide +kernel
theorem dX3_groupOf_105 : decode cX3_groupOf 105 = .ok (.iload_n 0, 1) := by decide +kernel
theorem dX3_groupOf_106 : decode cX3_groupOf 106 = .ok (.invokestatic 22, 3) := by decide +kernel
theorem dX3_groupOf_109 : decode cX3_groupOf 109 = .ok (.ireturn, 1) := by decide +kernel
theorem dX3_groupOf_110 : decode cX3_groupOf 110 = .ok (.iconst 5, 1) := by decide +kernel
theorem dX3_groupOf_111 : decode cX3_groupOf 111 = .ok (.ireturn, 1) := by decide +kernel
theorem dX3_lowGroupOf_0 : decode cX3_lowGroupOf 0 = .ok (.iload_n 0, 1) := by decide +kernel
theorem dX3_lowGroupOf_1 : decode cX3_lowGroupOf 1 = .ok (.ifCond .ne 5, 3) := by decide +kernel
theorem dX3_lowGroupOf_4 : decode cX3_lowGroupOf 4 = .ok (.iconst 1, 1) := by decide +kernel
theorem dX3_lowGroupOf_5 : decode cX3_lowGroupOf 5 = .ok (.ireturn, 1) := by decide +kernel
theorem dX3_lowGroupOf_6 : decode cX3_lowGroupOf 6 = .ok (.iload_n 0, 1) := by decide +kernel
theorem dX3_lowGroupOf_7 : decode cX3_lowGroupOf 7 = .ok (.bipush 8, 2) := by decide +kernel
theorem dX3_lowGroupOf_9 : decode cX3_lowGroupOf 9 = .ok (.ishr, 1) := by decide +kernel
theorem dX3_lowGroupOf_10 : decode cX3_lowGroupOf 10 = .ok (.tableswitch 36 0 3 #[30, 32, 34, 34], 30) := by decide +kernel
theorem dX3_lowGroupOf_40 : decode cX3_lowGroupOf 40 = .ok (.iconst 0, 1) := by decide +kernel
theorem dX3_lowGroupOf_41 : decode cX3_lowGroupOf 41 = .ok (.ireturn, 1) := by decide +kernel
theorem dX3_lowGroupOf_42 : decode cX3_lowGroupOf 42 = .ok (.iconst 2, 1) := by decide +kernel
theorem dX3_lowGroupOf_43 : decode cX3_lowGroupOf 43 = .ok (.ireturn, 1) := by decide +kernel
theorem dX3_lowGroupOf_44 : decode cX3_lowGroupOf 44 = .ok (.iconst 3, 1) := by decide +kernel
theorem dX3_lowGroupOf_45 : decode cX3_lowGroupOf 45 = .ok (.ireturn, 1) := by decide +kernel
theorem dX3_lowGroupOf_46 : decode cX3_lowGroupOf 46 = .ok (.iconst 4, 1) := by decide +kernel
theorem dX3_lowGroupOf_47 : decode cX3_lowGroupOf 47 = .ok (.ireturn, 1) := by decide +kernel
set_option maxRecDepth 20000 in
theorem ggX3_mixedGroupOf_X3_memoryGroupOf : GoodIn wsX3_mixedGroupOf wsX3_memoryGroupOf := goodIn_r _ [4, 5, 6, 3, 7, 8, 9, 10, 11, 12, 13] (by decide +kernel) (by decide +kernel)
set_option maxRecDepth 20000 in
theorem gX3_mixedGroupOf_X3_memoryGroupOf : GoodIn wsX3_mixedGroupOf (va_wsS RX3 25 yX3_memoryGroupOf wsX3_memoryGroupOf) := goodIn_app (goodIn_of _ (by decide +kernel)) ggX3_mixedGroupOf_X3_memoryGroupOf
set_option maxRecDepth 20000 in
theorem ggX3_mixedGroupOf_X3_singleGroupOf : GoodIn wsX3_mixedGroupOf wsX3_singleGroupOf := goodIn_r _ [16, 17, 18, 3, 19] (by decide +kernel) (by decide +kernel)
set_option maxRecDepth 20000 in
theorem gX3_mixedGroupOf_X3_singleGroupOf : GoodIn wsX3_mixedGroupOf (va_wsS RX3 28 yX3_singleGroupOf wsX3_singleGroupOf) := goodIn_app (goodIn_of _ (by decide +kernel)) ggX3_mixedGroupOf_X3_singleGroupOf
theorem dX3_mixedGroupOf_0 : decode cX3_mixedGroupOf 0 = .ok (.iload_n 0, 1) := by decide +kernel
theorem dX3_mixedGroupOf_1 : decode cX3_mixedGroupOf 1 = .ok (.bipush 8, 2) := by decide +kernel
theorem dX3_mixedGroupOf_3 : decode cX3_mixedGroupOf 3 = .ok (.ishr, 1) := by decide +kernel
theorem dX3_mixedGroupOf_4 : decode cX3_mixedGroupOf 4 = .ok (.bipush 15, 2) := by decide +kernel
theorem dX3_mixedGroupOf_6 : decode cX3_mixedGroupOf 6 = .ok (.iand, 1) := by decide +kernel
theorem dX3_mixedGroupOf_7 : decode cX3_mixedGroupOf 7 = .ok (.tableswitch 80 0 11 #[61, 61, 61, 61, 66, 66, 71, 71, 74, 77, 74, 77], 61) := by decide +kernel
theorem dX3_mixedGroupOf_68 : decode cX3_mixedGroupOf 68 = .ok (.iload_n 0, 1) := by decide +kernel
theorem dX3_mixedGroupOf_69 : decode cX3_mixedGroupOf 69 = .ok (.invokestatic 25, 3) := by decide +kernel
theorem dX3_mixedGroupOf_72 : decode cX3_mixedGroupOf 72 = .ok (.ireturn, 1) := by decide +kernel
theorem dX3_mixedGroupOf_73 : decode cX3_mixedGroupOf 73 = .ok (.iload_n 0, 1) := by decide +kernel
theorem dX3_mixedGroupOf_74 : decode cX3_mixedGroupOf 74 = .ok (.invokestatic 28, 3) := by decide +kernel
theorem dX3_mixedGroupOf_77 : decode cX3_mixedGroupOf 77 = .ok (.ireturn, 1) := by decide +kernel
theorem dX3_mixedGroupOf_78 : decode cX3_mixedGroupOf 78 = .ok (.bipush 8, 2) := by decide +kernel
theorem dX3_mixedGroupOf_80 : decode cX3_mixedGroupOf 80 = .ok (.ireturn, 1) := by decide +kernel
theorem dX3_mixedGroupOf_81 : decode cX3_mixedGroupOf 81 = .ok (.bipush 15, 2) := by decide +kernel
theorem dX3_mixedGroupOf_83 : decode cX3_mixedGroupOf 83 = .ok (.ireturn, 1) := by decide +kernel
theorem dX3_mixedGroupOf_84 : decode cX3_mixedGroupOf 84 = .ok (.bipush 16, 2) := by decide +kernel
theorem dX3_mixedGroupOf_86 : decode cX3_mixedGroupOf 86 = .ok (.ireturn, 1) := by decide +kernel
theorem dX3_mixedGroupOf_87 : decode cX3_mixedGroupOf 87 = .ok (.iconst 3, 1) := by decide +kernel
theorem dX3_mixedGroupOf_88 : decode cX3_mixedGroupOf 88 = .ok (.ireturn, 1) := by decide +kernel
set_option maxRecDepth 20000 in
theorem ggX3_memoryGroupOf_X3_d : GoodIn wsX3_memoryGroupOf wsX3_d := goodIn_r _ [4] (by decide +kernel) (by decide +kernel)
set_option maxRecDepth 20000 in
theorem gX3_memoryGroupOf_X3_d : GoodIn wsX3_memoryGroupOf (va_wsS RX3 31 yX3_d wsX3_d) := goodIn_app (goodIn_of _ (by decide +kernel)) ggX3_memoryGroupOf_X3_d
set_option maxRecDepth 20000 in
theorem ggX3_memoryGroupOf_X3_pointer : GoodIn wsX3_memoryGroupOf wsX3_pointer := goodIn_r _ [7] (by decide +kernel) (by decide +kernel)
set_option maxRecDepth 20000 in
theorem gX3_memoryGroupOf_X3_pointer : GoodIn wsX3_memoryGroupOf (va_wsS RX3 34 yX3_pointer wsX3_pointer) := goodIn_app (goodIn_of _ (by decide +kernel)) ggX3_memoryGroupOf_X3_pointer
set_option maxRecDepth 20000 in
theorem ggX3_memoryGroupOf_X3_isOneOf : GoodIn wsX3_memoryGroupOf wsX3_isOneOf := goodIn_r _ [10] (by decide +kernel) (by decide +kernel)
set_option maxRecDepth 20000 in
theorem gX3_memoryGroupOf_X3_isOneOf : GoodIn wsX3_memoryGroupOf (va_wsS RX3 37 yX3_isOneOf wsX3_isOneOf) := goodIn_app (goodIn_of _ (by decide +kernel)) ggX3_memoryGroupOf_X3_isOneOf
theorem dX3_memoryGroupOf_0 : decode cX3_memoryGroupOf 0 = .ok (.iload_n 0, 1) := by decide +kernel
theorem dX3_memoryGroupOf_1 : decode cX3_memoryGroupOf 1 = .ok (.bipush 15, 2) := by decide +kernel
theorem dX3_memoryGroupOf_3 : decode cX3_memoryGroupOf 3 = .ok (.iand, 1) := by decide +kernel
theorem dX3_memoryGroupOf_4 : decode cX3_memoryGroupOf 4 = .ok (.tableswitch 152 0 15 #[80, 83, 83, 152, 104, 119, 152, 152, 152, 83, 83, 152, 146, 83, 83, 149], 80) := by decide +kernel
theorem dX3_memoryGroupOf_84 : decode cX3_memoryGroupOf 84 = .ok (.bipush 9, 2) := by decide +kernel
theorem dX3_memoryGroupOf_86 : decode cX3_memoryGroupOf 86 = .ok (.ireturn, 1) := by decide +kernel
theorem dX3_memoryGroupOf_87 : decode cX3_memoryGroupOf 87 = .ok (.iload_n 0, 1) := by decide +kernel
theorem dX3_memoryGroupOf_88 : decode cX3_memoryGroupOf 88 = .ok (.invokestatic 31, 3) := by decide +kernel
theorem dX3_memoryGroupOf_91 : decode cX3_memoryGroupOf 91 = .ok (.iload_n 0, 1) := by decide +kernel
theorem dX3_memoryGroupOf_92 : decode cX3_memoryGroupOf 92 = .ok (.invokestatic 34, 3) := by decide +kernel
theorem dX3_memoryGroupOf_95 : decode cX3_memoryGroupOf 95 = .ok (.invokestatic 37, 3) := by decide +kernel
theorem dX3_memoryGroupOf_98 : decode cX3_memoryGroupOf 98 = .ok (.ifCond .eq 7, 3) := by decide +kernel
theorem dX3_memoryGroupOf_101 : decode cX3_memoryGroupOf 101 = .ok (.iconst 0, 1) := by decide +kernel
theorem dX3_memoryGroupOf_102 : decode cX3_memoryGroupOf 102 = .ok (.goto 5, 3) := by decide +kernel
theorem dX3_memoryGroupOf_105 : decode cX3_memoryGroupOf 105 = .ok (.bipush 10, 2) := by decide +kernel
theorem dX3_memoryGroupOf_107 : decode cX3_memoryGroupOf 107 = .ok (.ireturn, 1) := by decide +kernel
theorem dX3_memoryGroupOf_108 : decode cX3_memoryGroupOf 108 = .ok (.iload_n 0, 1) := by decide +kernel
theorem dX3_memoryGroupOf_109 : decode cX3_memoryGroupOf 109 = .ok (.sipush 512, 3) := by decide +kernel
theorem dX3_memoryGroupOf_112 : decode cX3_memoryGroupOf 112 = .ok (.iand, 1) := by decide +kernel
theorem dX3_memoryGroupOf_113 : decode cX3_memoryGroupOf 113 = .ok (.ifCond .ne 8, 3) := by decide +kernel
theorem dX3_memoryGroupOf_116 : decode cX3_memoryGroupOf 116 = .ok (.bipush 13, 2) := by decide +kernel
theorem dX3_memoryGroupOf_118 : decode cX3_memoryGroupOf 118 = .ok (.goto 4, 3) := by decide +kernel
theorem dX3_memoryGroupOf_121 : decode cX3_memoryGroupOf 121 = .ok (.iconst 0, 1) := by decide +kernel
theorem dX3_memoryGroupOf_122 : decode cX3_memoryGroupOf 122 = .ok (.ireturn, 1) := by decide +kernel
theorem dX3_memoryGroupOf_123 : decode cX3_memoryGroupOf 123 = .ok (.iload_n 0, 1) := by decide +kernel
theorem dX3_memoryGroupOf_124 : decode cX3_memoryGroupOf 124 = .ok (.sipush 512, 3) := by decide +kernel
theorem dX3_memoryGroupOf_127 : decode cX3_memoryGroupOf 127 = .ok (.iand, 1) := by decide +kernel
theorem dX3_memoryGroupOf_128 : decode cX3_memoryGroupOf 128 = .ok (.ifCond .ne 20, 3) := by decide +kernel
theorem dX3_memoryGroupOf_131 : decode cX3_memoryGroupOf 131 = .ok (.iload_n 0, 1) := by decide +kernel
theorem dX3_memoryGroupOf_132 : decode cX3_memoryGroupOf 132 = .ok (.invokestatic 31, 3) := by decide +kernel
theorem dX3_memoryGroupOf_135 : decode cX3_memoryGroupOf 135 = .ok (.bipush 30, 2) := by decide +kernel
theorem dX3_memoryGroupOf_137 : decode cX3_memoryGroupOf 137 = .ok (.invokestatic 37, 3) := by decide +kernel
theorem dX3_memoryGroupOf_140 : decode cX3_memoryGroupOf 140 = .ok (.ifCond .ne 8, 3) := by decide +kernel
theorem dX3_memoryGroupOf_143 : decode cX3_memoryGroupOf 143 = .ok (.bipush 13, 2) := by decide +kernel
theorem dX3_memoryGroupOf_145 : decode cX3_memoryGroupOf 145 = .ok (.goto 4, 3) := by decide +kernel
theorem dX3_memoryGroupOf_148 : decode cX3_memoryGroupOf 148 = .ok (.iconst 0, 1) := by decide +kernel
theorem dX3_memoryGroupOf_149 : decode cX3_memoryGroupOf 149 = .ok (.ireturn, 1) := by decide +kernel
theorem dX3_memoryGroupOf_150 : decode cX3_memoryGroupOf 150 = .ok (.bipush 10, 2) := by decide +kernel
theorem dX3_memoryGroupOf_152 : decode cX3_memoryGroupOf 152 = .ok (.ireturn, 1) := by decide +kernel
theorem dX3_memoryGroupOf_153 : decode cX3_memoryGroupOf 153 = .ok (.bipush 11, 2) := by decide +kernel
theorem dX3_memoryGroupOf_155 : decode cX3_memoryGroupOf 155 = .ok (.ireturn, 1) := by decide +kernel
theorem dX3_memoryGroupOf_156 : decode cX3_memoryGroupOf 156 = .ok (.iconst 0, 1) := by decide +kernel
theorem dX3_memoryGroupOf_157 : decode cX3_memoryGroupOf 157 = .ok (.ireturn, 1) := by decide +kernel
theorem dX3_isOneOf_0 : decode cX3_isOneOf 0 = .ok (.iload_n 0, 1) := by decide +kernel
theorem dX3_isOneOf_1 : decode cX3_isOneOf 1 = .ok (.bipush 30, 2) := by decide +kernel
theorem dX3_isOneOf_3 : decode cX3_isOneOf 3 = .ok (.iand, 1) := by decide +kernel
theorem dX3_isOneOf_4 : decode cX3_isOneOf 4 = .ok (.iload_n 1, 1) := by decide +kernel
theorem dX3_isOneOf_5 : decode cX3_isOneOf 5 = .ok (.if_icmp .ne 7, 3) := by decide +kernel
theorem dX3_isOneOf_8 : decode cX3_isOneOf 8 = .ok (.iconst 1, 1) := by decide +kernel
theorem dX3_isOneOf_9 : decode cX3_isOneOf 9 = .ok (.goto 4, 3) := by decide +kernel
theorem dX3_isOneOf_12 : decode cX3_isOneOf 12 = .ok (.iconst 0, 1) := by decide +kernel
theorem dX3_isOneOf_13 : decode cX3_isOneOf 13 = .ok (.ireturn, 1) := by decide +kernel
set_option maxRecDepth 20000 in
theorem ggX3_singleGroupOf_X3_flagGroupOf : GoodIn wsX3_singleGroupOf wsX3_flagGroupOf := goodIn_r _ [4] (by decide +kernel) (by decide +kernel)
set_option maxRecDepth 20000 in
theorem gX3_singleGroupOf_X3_flagGroupOf : GoodIn wsX3_singleGroupOf (va_wsS RX3 41 yX3_flagGroupOf wsX3_flagGroupOf) := goodIn_app (goodIn_of _ (by decide +kernel)) ggX3_singleGroupOf_X3_flagGroupOf
theorem dX3_singleGroupOf_0 : decode cX3_singleGroupOf 0 = .ok (.iload_n 0, 1) := by decide +kernel
theorem dX3_singleGroupOf_1 : decode cX3_singleGroupOf 1 = .ok (.bipush 15, 2) := by decide +kernel
theorem dX3_singleGroupOf_3 : decode cX3_singleGroupOf 3 = .ok (.iand, 1) := by decide +kernel
theorem dX3_singleGroupOf_4 : decode cX3_singleGroupOf 4 = .ok (.tableswitch 89 4 15 #[64, 89, 89, 89, 66, 71, 89, 64, 86, 86, 86, 86], 64) := by decide +kernel
theorem dX3_singleGroupOf_68 : decode cX3_singleGroupOf 68 = .ok (.iconst 0, 1) := by decide +kernel
theorem dX3_singleGroupOf_69 : decode cX3_singleGroupOf 69 = .ok (.ireturn, 1) := by decide +kernel
theorem dX3_singleGroupOf_70 : decode cX3_singleGroupOf 70 = .ok (.iload_n 0, 1) := by decide +kernel
theorem dX3_singleGroupOf_71 : decode cX3_singleGroupOf 71 = .ok (.invokestatic 41, 3) := by decide +kernel
theorem dX3_singleGroupOf_74 : decode cX3_singleGroupOf 74 = .ok (.ireturn, 1) := by decide +kernel
theorem dX3_singleGroupOf_75 : decode cX3_singleGroupOf 75 = .ok (.iload_n 0, 1) := by decide +kernel
theorem dX3_singleGroupOf_76 : decode cX3_singleGroupOf 76 = .ok (.sipush 240, 3) := by decide +kernel
theorem dX3_singleGroupOf_79 : decode cX3_singleGroupOf 79 = .ok (.iand, 1) := by decide +kernel
theorem dX3_singleGroupOf_80 : decode cX3_singleGroupOf 80 = .ok (.ifCond .ne 8, 3) := by decide +kernel
theorem dX3_singleGroupOf_83 : decode cX3_singleGroupOf 83 = .ok (.bipush 22, 2) := by decide +kernel
theorem dX3_singleGroupOf_85 : decode cX3_singleGroupOf 85 = .ok (.goto 4, 3) := by decide +kernel
theorem dX3_singleGroupOf_88 : decode cX3_singleGroupOf 88 = .ok (.iconst 0, 1) := by decide +kernel
theorem dX3_singleGroupOf_89 : decode cX3_singleGroupOf 89 = .ok (.ireturn, 1) := by decide +kernel
theorem dX3_singleGroupOf_90 : decode cX3_singleGroupOf 90 = .ok (.bipush 21, 2) := by decide +kernel
theorem dX3_singleGroupOf_92 : decode cX3_singleGroupOf 92 = .ok (.ireturn, 1) := by decide +kernel
theorem dX3_singleGroupOf_93 : decode cX3_singleGroupOf 93 = .ok (.bipush 6, 2) := by decide +kernel
theorem dX3_singleGroupOf_95 : decode cX3_singleGroupOf 95 = .ok (.ireturn, 1) := by decide +kernel
theorem dX3_flagGroupOf_0 : decode cX3_flagGroupOf 0 = .ok (.iload_n 0, 1) := by decide +kernel
theorem dX3_flagGroupOf_1 : decode cX3_flagGroupOf 1 = .ok (.sipush 256, 3) := by decide +kernel
theorem dX3_flagGroupOf_4 : decode cX3_flagGroupOf 4 = .ok (.iand, 1) := by decide +kernel
theorem dX3_flagGroupOf_5 : decode cX3_flagGroupOf 5 = .ok (.ifCond .ne 6, 3) := by decide +kernel
theorem dX3_flagGroupOf_8 : decode cX3_flagGroupOf 8 = .ok (.bipush 7, 2) := by decide +kernel
theorem dX3_flagGroupOf_10 : decode cX3_flagGroupOf 10 = .ok (.ireturn, 1) := by decide +kernel
theorem dX3_flagGroupOf_11 : decode cX3_flagGroupOf 11 = .ok (.iload_n 0, 1) := by decide +kernel
theorem dX3_flagGroupOf_12 : decode cX3_flagGroupOf 12 = .ok (.sipush 240, 3) := by decide +kernel
theorem dX3_flagGroupOf_15 : decode cX3_flagGroupOf 15 = .ok (.iand, 1) := by decide +kernel
theorem dX3_flagGroupOf_16 : decode cX3_flagGroupOf 16 = .ok (.lookupswitch 42 #[(0, 36), (16, 36), (192, 39)], 36) := by decide +kernel
theorem dX3_flagGroupOf_52 : decode cX3_flagGroupOf 52 = .ok (.bipush 23, 2) := by decide +kernel
theorem dX3_flagGroupOf_54 : decode cX3_flagGroupOf 54 = .ok (.ireturn, 1) := by decide +kernel
theorem dX3_flagGroupOf_55 : decode cX3_flagGroupOf 55 = .ok (.bipush 13, 2) := by decide +kernel
theorem dX3_flagGroupOf_57 : decode cX3_flagGroupOf 57 = .ok (.ireturn, 1) := by decide +kernel
theorem dX3_flagGroupOf_58 : decode cX3_flagGroupOf 58 = .ok (.iconst 0, 1) := by decide +kernel
theorem dX3_flagGroupOf_59 : decode cX3_flagGroupOf 59 = .ok (.ireturn, 1) := by decide +kernel
theorem dX3_highGroupOf_0 : decode cX3_highGroupOf 0 = .ok (.iload_n 0, 1) := by decide +kernel
theorem dX3_highGroupOf_1 : decode cX3_highGroupOf 1 = .ok (.sipush 2048, 3) := by decide +kernel
theorem dX3_highGroupOf_4 : decode cX3_highGroupOf 4 = .ok (.iand, 1) := by decide +kernel
theorem dX3_highGroupOf_5 : decode cX3_highGroupOf 5 = .ok (.ifCond .ne 6, 3) := by decide +kernel
theorem dX3_highGroupOf_8 : decode cX3_highGroupOf 8 = .ok (.bipush 20, 2) := by decide +kernel
theorem dX3_highGroupOf_10 : decode cX3_highGroupOf 10 = .ok (.ireturn, 1) := by decide +kernel
theorem dX3_highGroupOf_11 : decode cX3_highGroupOf 11 = .ok (.iload_n 0, 1) := by decide +kernel
theorem dX3_highGroupOf_12 : decode cX3_highGroupOf 12 = .ok (.bipush 8, 2) := by decide +kernel
theorem dX3_highGroupOf_14 : decode cX3_highGroupOf 14 = .ok (.iand, 1) := by decide +kernel
theorem dX3_highGroupOf_15 : decode cX3_highGroupOf 15 = .ok (.ifCond .eq 5, 3) := by decide +kernel
theorem dX3_highGroupOf_18 : decode cX3_highGroupOf 18 = .ok (.iconst 0, 1) := by decide +kernel
theorem dX3_highGroupOf_19 : decode cX3_highGroupOf 19 = .ok (.ireturn, 1) := by decide +kernel
theorem dX3_highGroupOf_20 : decode cX3_highGroupOf 20 = .ok (.iload_n 0, 1) := by decide +kernel
theorem dX3_highGroupOf_21 : decode cX3_highGroupOf 21 = .ok (.sipush 1024, 3) := by decide +kernel
theorem dX3_highGroupOf_24 : decode cX3_highGroupOf 24 = .ok (.iand, 1) := by decide +kernel
theorem dX3_highGroupOf_25 : decode cX3_highGroupOf 25 = .ok (.ifCond .ne 8, 3) := by decide +kernel
theorem dX3_highGroupOf_28 : decode cX3_highGroupOf 28 = .ok (.bipush 18, 2) := by decide +kernel
theorem dX3_highGroupOf_30 : decode cX3_highGroupOf 30 = .ok (.goto 5, 3) := by decide +kernel
theorem dX3_highGroupOf_33 : decode cX3_highGroupOf 33 = .ok (.bipush 17, 2) := by decide +kernel
theorem dX3_highGroupOf_35 : decode cX3_highGroupOf 35 = .ok (.ireturn, 1) := by decide +kernel
set_option maxRecDepth 20000 in
theorem ggX4_init_X0_init : GoodIn wsX4_init wsX0_init := goodIn_r _ [21, 22, 2, 3, 4, 23, 37] (by decide +kernel) (by decide +kernel)
set_option maxRecDepth 20000 in
theorem gX4_init_X0_init : GoodIn wsX4_init (wsX0_init) := ggX4_init_X0_init
set_option maxRecDepth 20000 in
theorem ggX4_init_X2_init : GoodIn wsX4_init wsX2_init := goodIn_r _ [26, 27, 2, 3, 28, 38] (by decide +kernel) (by decide +kernel)
set_option maxRecDepth 20000 in
theorem gX4_init_X2_init : GoodIn wsX4_init (wsX2_init) := ggX4_init_X2_init
theorem dX4_init_0 : decode cX4_init 0 = .ok (.aload_n 0, 1) := by decide +kernel
theorem dX4_init_1 : decode cX4_init 1 = .ok (.invokespecial 1, 3) := by decide +kernel
theorem dX4_init_4 : decode cX4_init 4 = .ok (.aload_n 0, 1) := by decide +kernel
theorem dX4_init_5 : decode cX4_init 5 = .ok (.sipush 1024, 3) := by decide +kernel
theorem dX4_init_8 : decode cX4_init 8 = .ok (.newarray .int, 2) := by decide +kernel
theorem dX4_init_10 : decode cX4_init 10 = .ok (.putfield 9, 3) := by decide +kernel
theorem dX4_init_13 : decode cX4_init 13 = .ok (.aload_n 0, 1) := by decide +kernel
theorem dX4_init_14 : decode cX4_init 14 = .ok (.new 13, 3) := by decide +kernel
theorem dX4_init_17 : decode cX4_init 17 = .ok (.dup, 1) := by decide +kernel
theorem dX4_init_18 : decode cX4_init 18 = .ok (.invokespecial 15, 3) := by decide +kernel
theorem dX4_init_21 : decode cX4_init 21 = .ok (.putfield 16, 3) := by decide +kernel
theorem dX4_init_24 : decode cX4_init 24 = .ok (.aload_n 0, 1) := by decide +kernel
theorem dX4_init_25 : decode cX4_init 25 = .ok (.new 20, 3) := by decide +kernel
theorem dX4_init_28 : decode cX4_init 28 = .ok (.dup, 1) := by decide +kernel
theorem dX4_init_29 : decode cX4_init 29 = .ok (.aload_n 0, 1) := by decide +kernel
theorem dX4_init_30 : decode cX4_init 30 = .ok (.getfield 16, 3) := by decide +kernel
theorem dX4_init_33 : decode cX4_init 33 = .ok (.invokespecial 22, 3) := by decide +kernel
theorem dX4_init_36 : decode cX4_init 36 = .ok (.putfield 25, 3) := by decide +kernel
theorem dX4_init_39 : decode cX4_init 39 = .ok (.aload_n 0, 1) := by decide +kernel
theorem dX4_init_40 : decode cX4_init 40 = .ok (.bipush 7, 2) := by decide +kernel
theorem dX4_init_42 : decode cX4_init 42 = .ok (.newarray .int, 2) := by decide +kernel
theorem dX4_init_44 : decode cX4_init 44 = .ok (.putfield 29, 3) := by decide +kernel
theorem dX4_init_47 : decode cX4_init 47 = .ok (.aload_n 0, 1) := by decide +kernel
theorem dX4_init_48 : decode cX4_init 48 = .ok (.iconst 0, 1) := by decide +kernel
theorem dX4_init_49 : decode cX4_init 49 = .ok (.putfield 32, 3) := by decide +kernel
theorem dX4_init_52 : decode cX4_init 52 = .ok (.aload_n 0, 1) := by decide +kernel
theorem dX4_init_53 : decode cX4_init 53 = .ok (.iconst 0, 1) := by decide +kernel
theorem dX4_init_54 : decode cX4_init 54 = .ok (.putfield 36, 3) := by decide +kernel
theorem dX4_init_57 : decode cX4_init 57 = .ok (.aload_n 0, 1) := by decide +kernel
theorem dX4_init_58 : decode cX4_init 58 = .ok (.iconst 0, 1) := by decide +kernel
theorem dX4_init_59 : decode cX4_init 59 = .ok (.putfield 39, 3) := by decide +kernel
theorem dX4_init_62 : decode cX4_init 62 = .ok (.aload_n 0, 1) := by decide +kernel
theorem dX4_init_63 : decode cX4_init 63 = .ok (.iconst 0, 1) := by decide +kernel
theorem dX4_init_64 : decode cX4_init 64 = .ok (.putfield 42, 3) := by decide +kernel
theorem dX4_init_67 : decode cX4_init 67 = .ok (.return_, 1) := by decide +kernel
set_option maxRecDepth 20000 in
theorem ggX4_code_X4_within : GoodIn wsX4_code wsX4_within := goodIn_r _ [6] (by decide +kernel) (by decide +kernel)
set_option maxRecDepth 20000 in
theorem gX4_code_X4_within : GoodIn wsX4_code (va_wsS RX4 46 yX4_within wsX4_within) := goodIn_app (goodIn_of _ (by decide +kernel)) ggX4_code_X4_within
set_option maxRecDepth 20000 in
theorem ggX4_code_X4_cellAt : GoodIn wsX4_code wsX4_cellAt := goodIn_r _ [10, 2, 11, 12, 13, 14, 15, 16, 17, 18] (by decide +kernel) (by decide +kernel)
set_option maxRecDepth 20000 in
theorem gX4_code_X4_cellAt : GoodIn wsX4_code (wsV RX4 51 RX4 yX4_cellAt wsX4_cellAt) := goodIn_app (goodIn_of _ (by decide +kernel)) ggX4_code_X4_cellAt
theorem dX4_code_0 : decode cX4_code 0 = .ok (.iload_n 1, 1) := by decide +kernel
theorem dX4_code_1 : decode cX4_code 1 = .ok (.sipush 1023, 3) := by decide +kernel
theorem dX4_code_4 : decode cX4_code 4 = .ok (.invokestatic 46, 3) := by decide +kernel
theorem dX4_code_7 : decode cX4_code 7 = .ok (.ifCond .eq 12, 3) := by decide +kernel
theorem dX4_code_10 : decode cX4_code 10 = .ok (.iload_n 2, 1) := by decide +kernel
theorem dX4_code_11 : decode cX4_code 11 = .ok (.ldc 50, 2) := by decide +kernel
theorem dX4_code_13 : decode cX4_code 13 = .ok (.invokestatic 46, 3) := by decide +kernel
theorem dX4_code_16 : decode cX4_code 16 = .ok (.ifCond .ne 5, 3) := by decide +kernel
theorem dX4_code_19 : decode cX4_code 19 = .ok (.iconst (-1), 1) := by decide +kernel
theorem dX4_code_20 : decode cX4_code 20 = .ok (.ireturn, 1) := by decide +kernel
theorem dX4_code_21 : decode cX4_code 21 = .ok (.aload_n 0, 1) := by decide +kernel
theorem dX4_code_22 : decode cX4_code 22 = .ok (.iload_n 1, 1) := by decide +kernel
theorem dX4_code_23 : decode cX4_code 23 = .ok (.invokevirtual 51, 3) := by decide +kernel
theorem dX4_code_26 : decode cX4_code 26 = .ok (.istore_n 3, 1) := by decide +kernel
theorem dX4_code_27 : decode cX4_code 27 = .ok (.aload_n 0, 1) := by decide +kernel
theorem dX4_code_28 : decode cX4_code 28 = .ok (.getfield 9, 3) := by decide +kernel
theorem dX4_code_31 : decode cX4_code 31 = .ok (.iload_n 1, 1) := by decide +kernel
theorem dX4_code_32 : decode cX4_code 32 = .ok (.sipush 1023, 3) := by decide +kernel
theorem dX4_code_35 : decode cX4_code 35 = .ok (.iand, 1) := by decide +kernel
theorem dX4_code_36 : decode cX4_code 36 = .ok (.iload_n 2, 1) := by decide +kernel
theorem dX4_code_37 : decode cX4_code 37 = .ok (.iastore, 1) := by decide +kernel
theorem dX4_code_38 : decode cX4_code 38 = .ok (.iload_n 3, 1) := by decide +kernel
theorem dX4_code_39 : decode cX4_code 39 = .ok (.ireturn, 1) := by decide +kernel
set_option maxRecDepth 20000 in
theorem ggX4_load_X4_within : GoodIn wsX4_load wsX4_within := goodIn_r _ [6] (by decide +kernel) (by decide +kernel)
set_option maxRecDepth 20000 in
theorem gX4_load_X4_within : GoodIn wsX4_load (va_wsS RX4 46 yX4_within wsX4_within) := goodIn_app (goodIn_of _ (by decide +kernel)) ggX4_load_X4_within
theorem dX4_load_0 : decode cX4_load 0 = .ok (.iload_n 1, 1) := by decide +kernel
theorem dX4_load_1 : decode cX4_load 1 = .ok (.sipush 1023, 3) := by decide +kernel
theorem dX4_load_4 : decode cX4_load 4 = .ok (.invokestatic 46, 3) := by decide +kernel
theorem dX4_load_7 : decode cX4_load 7 = .ok (.ifCond .ne 5, 3) := by decide +kernel
theorem dX4_load_10 : decode cX4_load 10 = .ok (.iconst (-1), 1) := by decide +kernel
theorem dX4_load_11 : decode cX4_load 11 = .ok (.ireturn, 1) := by decide +kernel
theorem dX4_load_12 : decode cX4_load 12 = .ok (.iconst 0, 1) := by decide +kernel
theorem dX4_load_13 : decode cX4_load 13 = .ok (.istore 4, 2) := by decide +kernel
theorem dX4_load_15 : decode cX4_load 15 = .ok (.iload 4, 2) := by decide +kernel
theorem dX4_load_17 : decode cX4_load 17 = .ok (.iconst 4, 1) := by decide +kernel
theorem dX4_load_18 : decode cX4_load 18 = .ok (.if_icmp .ge 36, 3) := by decide +kernel
theorem dX4_load_21 : decode cX4_load 21 = .ok (.aload_n 0, 1) := by decide +kernel
theorem dX4_load_22 : decode cX4_load 22 = .ok (.getfield 9, 3) := by decide +kernel
theorem dX4_load_25 : decode cX4_load 25 = .ok (.iload_n 1, 1) := by decide +kernel
theorem dX4_load_26 : decode cX4_load 26 = .ok (.iload 4, 2) := by decide +kernel
theorem dX4_load_28 : decode cX4_load 28 = .ok (.iadd, 1) := by decide +kernel
theorem dX4_load_29 : decode cX4_load 29 = .ok (.sipush 1023, 3) := by decide +kernel
theorem dX4_load_32 : decode cX4_load 32 = .ok (.iand, 1) := by decide +kernel
theorem dX4_load_33 : decode cX4_load 33 = .ok (.lload_n 2, 1) := by decide +kernel
theorem dX4_load_34 : decode cX4_load 34 = .ok (.bipush 48, 2) := by decide +kernel
theorem dX4_load_36 : decode cX4_load 36 = .ok (.bipush 16, 2) := by decide +kernel
theorem dX4_load_38 : decode cX4_load 38 = .ok (.iload 4, 2) := by decide +kernel
theorem dX4_load_40 : decode cX4_load 40 = .ok (.imul, 1) := by decide +kernel
theorem dX4_load_41 : decode cX4_load 41 = .ok (.isub, 1) := by decide +kernel
theorem dX4_load_42 : decode cX4_load 42 = .ok (.lshr, 1) := by decide +kernel
theorem dX4_load_43 : decode cX4_load 43 = .ok (.l2i, 1) := by decide +kernel
theorem dX4_load_44 : decode cX4_load 44 = .ok (.ldc 50, 2) := by decide +kernel
theorem dX4_load_46 : decode cX4_load 46 = .ok (.iand, 1) := by decide +kernel
theorem dX4_load_47 : decode cX4_load 47 = .ok (.iastore, 1) := by decide +kernel
theorem dX4_load_48 : decode cX4_load 48 = .ok (.iinc 4 1, 3) := by decide +kernel
theorem dX4_load_51 : decode cX4_load 51 = .ok (.goto (-36), 3) := by decide +kernel
theorem dX4_load_54 : decode cX4_load 54 = .ok (.iconst 1, 1) := by decide +kernel
theorem dX4_load_55 : decode cX4_load 55 = .ok (.ireturn, 1) := by decide +kernel
set_option maxRecDepth 20000 in
theorem ggX4_word_X4_within : GoodIn wsX4_word wsX4_within := goodIn_r _ [4] (by decide +kernel) (by decide +kernel)
set_option maxRecDepth 20000 in
theorem gX4_word_X4_within : GoodIn wsX4_word (va_wsS RX4 46 yX4_within wsX4_within) := goodIn_app (goodIn_of _ (by decide +kernel)) ggX4_word_X4_within
set_option maxRecDepth 20000 in
theorem ggX4_word_X4_cellAt : GoodIn wsX4_word wsX4_cellAt := goodIn_r _ [8, 9, 10, 11, 12, 13, 14, 15, 16, 17] (by decide +kernel) (by decide +kernel)
set_option maxRecDepth 20000 in
theorem gX4_word_X4_cellAt : GoodIn wsX4_word (wsV RX4 51 RX4 yX4_cellAt wsX4_cellAt) := goodIn_app (goodIn_of _ (by decide +kernel)) ggX4_word_X4_cellAt
theorem dX4_word_0 : decode cX4_word 0 = .ok (.iload_n 1, 1) := by decide +kernel
theorem dX4_word_1 : decode cX4_word 1 = .ok (.sipush 1023, 3) := by decide +kernel
theorem dX4_word_4 : decode cX4_word 4 = .ok (.invokestatic 46, 3) := by decide +kernel
theorem dX4_word_7 : decode cX4_word 7 = .ok (.ifCond .eq 11, 3) := by decide +kernel
theorem dX4_word_10 : decode cX4_word 10 = .ok (.aload_n 0, 1) := by decide +kernel
theorem dX4_word_11 : decode cX4_word 11 = .ok (.iload_n 1, 1) := by decide +kernel
theorem dX4_word_12 : decode cX4_word 12 = .ok (.invokevirtual 51, 3) := by decide +kernel
theorem dX4_word_15 : decode cX4_word 15 = .ok (.goto 4, 3) := by decide +kernel
theorem dX4_word_18 : decode cX4_word 18 = .ok (.iconst (-1), 1) := by decide +kernel
theorem dX4_word_19 : decode cX4_word 19 = .ok (.ireturn, 1) := by decide +kernel
set_option maxRecDepth 20000 in
theorem ggX4_put_X4_within : GoodIn wsX4_put wsX4_within := goodIn_r _ [5] (by decide +kernel) (by decide +kernel)
set_option maxRecDepth 20000 in
theorem gX4_put_X4_within : GoodIn wsX4_put (va_wsS RX4 46 yX4_within wsX4_within) := goodIn_app (goodIn_of _ (by decide +kernel)) ggX4_put_X4_within
set_option maxRecDepth 20000 in
theorem ggX4_put_X0_get : GoodIn wsX4_put wsX0_get := goodIn_r _ [10, 11, 24] (by decide +kernel) (by decide +kernel)
set_option maxRecDepth 20000 in
theorem gX4_put_X0_get : GoodIn wsX4_put (wsV RX4 55 RX0 yX0_get wsX0_get) := goodIn_app (goodIn_of _ (by decide +kernel)) ggX4_put_X0_get
set_option maxRecDepth 20000 in
theorem ggX4_put_X0_set : GoodIn wsX4_put wsX0_set := goodIn_r _ [15, 11, 24] (by decide +kernel) (by decide +kernel)
set_option maxRecDepth 20000 in
theorem gX4_put_X0_set : GoodIn wsX4_put (wsV RX4 58 RX0 yX0_set wsX0_set) := goodIn_app (goodIn_of _ (by decide +kernel)) ggX4_put_X0_set
theorem dX4_put_0 : decode cX4_put 0 = .ok (.iload_n 1, 1) := by decide +kernel
theorem dX4_put_1 : decode cX4_put 1 = .ok (.sipush 1023, 3) := by decide +kernel
theorem dX4_put_4 : decode cX4_put 4 = .ok (.invokestatic 46, 3) := by decide +kernel
theorem dX4_put_7 : decode cX4_put 7 = .ok (.ifCond .eq 13, 3) := by decide +kernel
theorem dX4_put_10 : decode cX4_put 10 = .ok (.iload_n 2, 1) := by decide +kernel
theorem dX4_put_11 : decode cX4_put 11 = .ok (.sipush 255, 3) := by decide +kernel
theorem dX4_put_14 : decode cX4_put 14 = .ok (.invokestatic 46, 3) := by decide +kernel
theorem dX4_put_17 : decode cX4_put 17 = .ok (.ifCond .ne 5, 3) := by decide +kernel
theorem dX4_put_20 : decode cX4_put 20 = .ok (.iconst (-1), 1) := by decide +kernel
theorem dX4_put_21 : decode cX4_put 21 = .ok (.ireturn, 1) := by decide +kernel
theorem dX4_put_22 : decode cX4_put 22 = .ok (.aload_n 0, 1) := by decide +kernel
theorem dX4_put_23 : decode cX4_put 23 = .ok (.getfield 16, 3) := by decide +kernel
theorem dX4_put_26 : decode cX4_put 26 = .ok (.iload_n 1, 1) := by decide +kernel
theorem dX4_put_27 : decode cX4_put 27 = .ok (.invokevirtual 55, 3) := by decide +kernel
theorem dX4_put_30 : decode cX4_put 30 = .ok (.istore_n 3, 1) := by decide +kernel
theorem dX4_put_31 : decode cX4_put 31 = .ok (.aload_n 0, 1) := by decide +kernel
theorem dX4_put_32 : decode cX4_put 32 = .ok (.getfield 16, 3) := by decide +kernel
theorem dX4_put_35 : decode cX4_put 35 = .ok (.iload_n 1, 1) := by decide +kernel
theorem dX4_put_36 : decode cX4_put 36 = .ok (.iload_n 2, 1) := by decide +kernel
theorem dX4_put_37 : decode cX4_put 37 = .ok (.invokevirtual 58, 3) := by decide +kernel
theorem dX4_put_40 : decode cX4_put 40 = .ok (.iload_n 3, 1) := by decide +kernel
theorem dX4_put_41 : decode cX4_put 41 = .ok (.ireturn, 1) := by decide +kernel
set_option maxRecDepth 20000 in
theorem ggX4_data_X4_within : GoodIn wsX4_data wsX4_within := goodIn_r _ [5] (by decide +kernel) (by decide +kernel)
set_option maxRecDepth 20000 in
theorem gX4_data_X4_within : GoodIn wsX4_data (va_wsS RX4 46 yX4_within wsX4_within) := goodIn_app (goodIn_of _ (by decide +kernel)) ggX4_data_X4_within
set_option maxRecDepth 20000 in
theorem ggX4_data_X0_get : GoodIn wsX4_data wsX0_get := goodIn_r _ [10, 11, 20] (by decide +kernel) (by decide +kernel)
set_option maxRecDepth 20000 in
theorem gX4_data_X0_get : GoodIn wsX4_data (wsV RX4 55 RX0 yX0_get wsX0_get) := goodIn_app (goodIn_of _ (by decide +kernel)) ggX4_data_X0_get
theorem dX4_data_0 : decode cX4_data 0 = .ok (.iload_n 1, 1) := by decide +kernel
theorem dX4_data_1 : decode cX4_data 1 = .ok (.sipush 1023, 3) := by decide +kernel
theorem dX4_data_4 : decode cX4_data 4 = .ok (.invokestatic 46, 3) := by decide +kernel
theorem dX4_data_7 : decode cX4_data 7 = .ok (.ifCond .eq 14, 3) := by decide +kernel
theorem dX4_data_10 : decode cX4_data 10 = .ok (.aload_n 0, 1) := by decide +kernel
theorem dX4_data_11 : decode cX4_data 11 = .ok (.getfield 16, 3) := by decide +kernel
theorem dX4_data_14 : decode cX4_data 14 = .ok (.iload_n 1, 1) := by decide +kernel
theorem dX4_data_15 : decode cX4_data 15 = .ok (.invokevirtual 55, 3) := by decide +kernel
theorem dX4_data_18 : decode cX4_data 18 = .ok (.goto 4, 3) := by decide +kernel
theorem dX4_data_21 : decode cX4_data 21 = .ok (.iconst (-1), 1) := by decide +kernel
theorem dX4_data_22 : decode cX4_data 22 = .ok (.ireturn, 1) := by decide +kernel
set_option maxRecDepth 20000 in
theorem ggX4_told_X0_pair : GoodIn wsX4_told wsX0_pair := goodIn_r _ [9, 10, 23] (by decide +kernel) (by decide +kernel)
set_option maxRecDepth 20000 in
theorem gX4_told_X0_pair : GoodIn wsX4_told (wsV RX4 62 RX0 yX0_pair wsX0_pair) := goodIn_app (goodIn_of _ (by decide +kernel)) ggX4_told_X0_pair
set_option maxRecDepth 20000 in
theorem ggX4_told_X0_get : GoodIn wsX4_told wsX0_get := goodIn_r _ [14, 10, 23] (by decide +kernel) (by decide +kernel)
set_option maxRecDepth 20000 in
theorem gX4_told_X0_get : GoodIn wsX4_told (wsV RX4 55 RX0 yX0_get wsX0_get) := goodIn_app (goodIn_of _ (by decide +kernel)) ggX4_told_X0_get
theorem dX4_told_0 : decode cX4_told 0 = .ok (.iload_n 1, 1) := by decide +kernel
theorem dX4_told_1 : decode cX4_told 1 = .ok (.tableswitch 120 0 7 #[47, 52, 62, 72, 82, 92, 102, 115], 47) := by decide +kernel
theorem dX4_told_48 : decode cX4_told 48 = .ok (.aload_n 0, 1) := by decide +kernel
theorem dX4_told_49 : decode cX4_told 49 = .ok (.getfield 32, 3) := by decide +kernel
theorem dX4_told_52 : decode cX4_told 52 = .ok (.ireturn, 1) := by decide +kernel
theorem dX4_told_53 : decode cX4_told 53 = .ok (.aload_n 0, 1) := by decide +kernel
theorem dX4_told_54 : decode cX4_told 54 = .ok (.getfield 16, 3) := by decide +kernel
theorem dX4_told_57 : decode cX4_told 57 = .ok (.bipush 93, 2) := by decide +kernel
theorem dX4_told_59 : decode cX4_told 59 = .ok (.invokevirtual 62, 3) := by decide +kernel
theorem dX4_told_62 : decode cX4_told 62 = .ok (.ireturn, 1) := by decide +kernel
theorem dX4_told_63 : decode cX4_told 63 = .ok (.aload_n 0, 1) := by decide +kernel
theorem dX4_told_64 : decode cX4_told 64 = .ok (.getfield 16, 3) := by decide +kernel
theorem dX4_told_67 : decode cX4_told 67 = .ok (.bipush 95, 2) := by decide +kernel
theorem dX4_told_69 : decode cX4_told 69 = .ok (.invokevirtual 55, 3) := by decide +kernel
theorem dX4_told_72 : decode cX4_told 72 = .ok (.ireturn, 1) := by decide +kernel
theorem dX4_told_73 : decode cX4_told 73 = .ok (.aload_n 0, 1) := by decide +kernel
theorem dX4_told_74 : decode cX4_told 74 = .ok (.getfield 16, 3) := by decide +kernel
theorem dX4_told_77 : decode cX4_told 77 = .ok (.bipush 26, 2) := by decide +kernel
theorem dX4_told_79 : decode cX4_told 79 = .ok (.invokevirtual 62, 3) := by decide +kernel
theorem dX4_told_82 : decode cX4_told 82 = .ok (.ireturn, 1) := by decide +kernel
theorem dX4_told_83 : decode cX4_told 83 = .ok (.aload_n 0, 1) := by decide +kernel
theorem dX4_told_84 : decode cX4_told 84 = .ok (.getfield 16, 3) := by decide +kernel
theorem dX4_told_87 : decode cX4_told 87 = .ok (.bipush 28, 2) := by decide +kernel
theorem dX4_told_89 : decode cX4_told 89 = .ok (.invokevirtual 62, 3) := by decide +kernel
theorem dX4_told_92 : decode cX4_told 92 = .ok (.ireturn, 1) := by decide +kernel
theorem dX4_told_93 : decode cX4_told 93 = .ok (.aload_n 0, 1) := by decide +kernel
theorem dX4_told_94 : decode cX4_told 94 = .ok (.getfield 16, 3) := by decide +kernel
theorem dX4_told_97 : decode cX4_told 97 = .ok (.bipush 30, 2) := by decide +kernel
theorem dX4_told_99 : decode cX4_told 99 = .ok (.invokevirtual 62, 3) := by decide +kernel
theorem dX4_told_102 : decode cX4_told 102 = .ok (.ireturn, 1) := by decide +kernel
theorem dX4_told_103 : decode cX4_told 103 = .ok (.aload_n 0, 1) := by decide +kernel
theorem dX4_told_104 : decode cX4_told 104 = .ok (.getfield 42, 3) := by decide +kernel
theorem dX4_told_107 : decode cX4_told 107 = .ok (.ifCond .eq 7, 3) := by decide +kernel
theorem dX4_told_110 : decode cX4_told 110 = .ok (.iconst 1, 1) := by decide +kernel
theorem dX4_told_111 : decode cX4_told 111 = .ok (.goto 4, 3) := by decide +kernel
theorem dX4_told_114 : decode cX4_told 114 = .ok (.iconst 0, 1) := by decide +kernel
theorem dX4_told_115 : decode cX4_told 115 = .ok (.ireturn, 1) := by decide +kernel
theorem dX4_told_116 : decode cX4_told 116 = .ok (.aload_n 0, 1) := by decide +kernel
theorem dX4_told_117 : decode cX4_told 117 = .ok (.getfield 36, 3) := by decide +kernel
theorem dX4_told_120 : decode cX4_told 120 = .ok (.ireturn, 1) := by decide +kernel
theorem dX4_told_121 : decode cX4_told 121 = .ok (.iconst (-1), 1) := by decide +kernel
theorem dX4_told_122 : decode cX4_told 122 = .ok (.ireturn, 1) := by decide +kernel
set_option maxRecDepth 20000 in
theorem ggX4_go_X4_within : GoodIn wsX4_go wsX4_within := goodIn_r _ [5] (by decide +kernel) (by decide +kernel)
set_option maxRecDepth 20000 in
theorem gX4_go_X4_within : GoodIn wsX4_go (va_wsS RX4 46 yX4_within wsX4_within) := goodIn_app (goodIn_of _ (by decide +kernel)) ggX4_go_X4_within
theorem dX4_go_0 : decode cX4_go 0 = .ok (.iload_n 1, 1) := by decide +kernel
theorem dX4_go_1 : decode cX4_go 1 = .ok (.sipush 1023, 3) := by decide +kernel
theorem dX4_go_4 : decode cX4_go 4 = .ok (.invokestatic 46, 3) := by decide +kernel
theorem dX4_go_7 : decode cX4_go 7 = .ok (.ifCond .ne 5, 3) := by decide +kernel
theorem dX4_go_10 : decode cX4_go 10 = .ok (.iconst (-1), 1) := by decide +kernel
theorem dX4_go_11 : decode cX4_go 11 = .ok (.ireturn, 1) := by decide +kernel
theorem dX4_go_12 : decode cX4_go 12 = .ok (.aload_n 0, 1) := by decide +kernel
theorem dX4_go_13 : decode cX4_go 13 = .ok (.getfield 32, 3) := by decide +kernel
theorem dX4_go_16 : decode cX4_go 16 = .ok (.istore_n 2, 1) := by decide +kernel
theorem dX4_go_17 : decode cX4_go 17 = .ok (.aload_n 0, 1) := by decide +kernel
theorem dX4_go_18 : decode cX4_go 18 = .ok (.iload_n 1, 1) := by decide +kernel
theorem dX4_go_19 : decode cX4_go 19 = .ok (.putfield 32, 3) := by decide +kernel
theorem dX4_go_22 : decode cX4_go 22 = .ok (.iload_n 2, 1) := by decide +kernel
theorem dX4_go_23 : decode cX4_go 23 = .ok (.ireturn, 1) := by decide +kernel
theorem dX4_ask_0 : decode cX4_ask 0 = .ok (.iload_n 1, 1) := by decide +kernel
theorem dX4_ask_1 : decode cX4_ask 1 = .ok (.iconst 1, 1) := by decide +kernel
theorem dX4_ask_2 : decode cX4_ask 2 = .ok (.if_icmp .lt 9, 3) := by decide +kernel
theorem dX4_ask_5 : decode cX4_ask 5 = .ok (.iload_n 1, 1) := by decide +kernel
theorem dX4_ask_6 : decode cX4_ask 6 = .ok (.bipush 25, 2) := by decide +kernel
theorem dX4_ask_8 : decode cX4_ask 8 = .ok (.if_icmp .le 5, 3) := by decide +kernel
theorem dX4_ask_11 : decode cX4_ask 11 = .ok (.iconst (-1), 1) := by decide +kernel
theorem dX4_ask_12 : decode cX4_ask 12 = .ok (.ireturn, 1) := by decide +kernel
theorem dX4_ask_13 : decode cX4_ask 13 = .ok (.iconst 1, 1) := by decide +kernel
theorem dX4_ask_14 : decode cX4_ask 14 = .ok (.iload_n 1, 1) := by decide +kernel
theorem dX4_ask_15 : decode cX4_ask 15 = .ok (.ishl, 1) := by decide +kernel
theorem dX4_ask_16 : decode cX4_ask 16 = .ok (.istore_n 2, 1) := by decide +kernel
theorem dX4_ask_17 : decode cX4_ask 17 = .ok (.aload_n 0, 1) := by decide +kernel
theorem dX4_ask_18 : decode cX4_ask 18 = .ok (.getfield 36, 3) := by decide +kernel
theorem dX4_ask_21 : decode cX4_ask 21 = .ok (.iload_n 2, 1) := by decide +kernel
theorem dX4_ask_22 : decode cX4_ask 22 = .ok (.iand, 1) := by decide +kernel
theorem dX4_ask_23 : decode cX4_ask 23 = .ok (.ifCond .eq 5, 3) := by decide +kernel
theorem dX4_ask_26 : decode cX4_ask 26 = .ok (.iconst 0, 1) := by decide +kernel
theorem dX4_ask_27 : decode cX4_ask 27 = .ok (.ireturn, 1) := by decide +kernel
theorem dX4_ask_28 : decode cX4_ask 28 = .ok (.aload_n 0, 1) := by decide +kernel
theorem dX4_ask_29 : decode cX4_ask 29 = .ok (.dup, 1) := by decide +kernel
theorem dX4_ask_30 : decode cX4_ask 30 = .ok (.getfield 36, 3) := by decide +kernel
theorem dX4_ask_33 : decode cX4_ask 33 = .ok (.iload_n 2, 1) := by decide +kernel
theorem dX4_ask_34 : decode cX4_ask 34 = .ok (.ior, 1) := by decide +kernel
theorem dX4_ask_35 : decode cX4_ask 35 = .ok (.putfield 36, 3) := by decide +kernel
theorem dX4_ask_38 : decode cX4_ask 38 = .ok (.iconst 1, 1) := by decide +kernel
theorem dX4_ask_39 : decode cX4_ask 39 = .ok (.ireturn, 1) := by decide +kernel
set_option maxRecDepth 20000 in
theorem ggX4_step_X4_advance : GoodIn wsX4_step wsX4_advance := goodIn_r _ [5, 6, 7, 8, 9, 10, 11, 12, 13, 14, 15, 16, 17, 18, 19, 20, 21, 22, 4, 23, 24, 25, 26, 27, 28, 29, 30, 31, 32, 33, 34, 35, 36, 37, 38, 39, 40, 41, 42, 43, 44, 45, 46, 47, 48, 49, 50, 51, 52, 53, 54, 55, 56, 57, 58, 59, 60, 61, 62, 63, 64, 65, 66, 67, 68, 69, 70, 71, 72, 73, 74, 75, 76, 77, 78, 79, 80, 81, 82, 83, 84, 85, 86, 87, 88, 89, 90, 91, 92, 93, 94, 95, 96, 97, 98, 99, 100, 101, 102, 103, 104, 105, 106, 107, 108, 109, 110, 111, 112, 113, 114, 115, 116, 117, 118, 119, 120, 121, 122, 123, 124, 125, 126, 127, 128, 129, 130, 131, 132, 133, 134, 135, 136, 137, 138, 139, 140, 141, 142, 143, 144, 145, 146, 147, 148, 149, 150, 151, 152, 153, 154, 155, 156, 157, 158, 159, 160, 161, 162, 163, 164, 165, 166, 167, 168, 169, 170, 171, 172, 173, 174, 175, 176, 177, 178, 179, 180, 181, 182, 183, 184, 185, 186, 187, 188, 189, 190, 191, 192, 193, 194, 195, 196, 197, 198, 199, 200, 201, 202, 203, 204, 205, 206, 207, 208, 209, 210, 211, 212, 213, 214, 215, 216, 217, 218, 219, 220, 221, 222, 223, 224, 225, 226, 227, 228, 229, 230, 231, 232, 233, 234, 235, 236, 237, 238, 239, 240, 241, 242, 243, 244, 245, 246, 247, 248, 249, 250, 251, 252, 253, 254, 255, 256, 257, 258, 259, 260, 261, 262, 263, 264, 265, 266, 267, 268, 269, 270, 271, 272, 273, 274, 275, 276, 277, 278, 279, 280, 281, 282, 283, 284, 285, 286, 287, 288, 289, 290, 291, 292, 293, 294, 295, 296, 297, 298, 299, 300, 301, 302, 303, 304, 305, 306, 307, 308, 309, 310, 311, 312, 313, 314, 315, 316, 317, 318, 319, 320, 321, 322, 323, 324, 325, 326, 327] (by decide +kernel) (by decide +kernel)
set_option maxRecDepth 20000 in
theorem gX4_step_X4_advance : GoodIn wsX4_step (wsV RX4 65 RX4 yX4_advance wsX4_advance) := goodIn_app (goodIn_of _ (by decide +kernel)) ggX4_step_X4_advance
theorem dX4_step_0 : decode cX4_step 0 = .ok (.aload_n 0, 1) := by decide +kernel
theorem dX4_step_1 : decode cX4_step 1 = .ok (.invokevirtual 65, 3) := by decide +kernel
theorem dX4_step_4 : decode cX4_step 4 = .ok (.ireturn, 1) := by decide +kernel
set_option maxRecDepth 20000 in
theorem ggX4_run_X4_advance : GoodIn wsX4_run wsX4_advance := goodIn_r _ [5, 6, 7, 8, 9, 10, 11, 12, 13, 14, 15, 16, 17, 18, 19, 20, 21, 22, 4, 23, 24, 25, 26, 27, 28, 29, 30, 31, 32, 33, 34, 35, 36, 37, 38, 39, 40, 41, 42, 43, 44, 45, 46, 47, 48, 49, 50, 51, 52, 53, 54, 55, 56, 57, 58, 59, 60, 61, 62, 63, 64, 65, 66, 67, 68, 69, 70, 71, 72, 73, 74, 75, 76, 77, 78, 79, 80, 81, 82, 83, 84, 85, 86, 87, 88, 89, 90, 91, 92, 93, 94, 95, 96, 97, 98, 99, 100, 101, 102, 103, 104, 105, 106, 107, 108, 109, 110, 111, 112, 113, 114, 115, 116, 117, 118, 119, 120, 121, 122, 123, 124, 125, 126, 127, 128, 129, 130, 131, 132, 133, 134, 135, 136, 137, 138, 139, 140, 141, 142, 143, 144, 145, 146, 147, 148, 149, 150, 151, 152, 153, 154, 155, 156, 157, 158, 159, 160, 161, 162, 163, 164, 165, 166, 167, 168, 169, 170, 171, 172, 173, 174, 175, 176, 177, 178, 179, 180, 181, 182, 183, 184, 185, 186, 187, 188, 189, 190, 191, 192, 193, 194, 195, 196, 197, 198, 199, 200, 201, 202, 203, 204, 205, 206, 207, 208, 209, 210, 211, 212, 213, 214, 215, 216, 217, 218, 219, 220, 221, 222, 223, 224, 225, 226, 227, 228, 229, 230, 231, 232, 233, 234, 235, 236, 237, 238, 239, 240, 241, 242, 243, 244, 245, 246, 247, 248, 249, 250, 251, 252, 253, 254, 255, 256, 257, 258, 259, 260, 261, 262, 263, 264, 265, 266, 267, 268, 269, 270, 271, 272, 273, 274, 275, 276, 277, 278, 279, 280, 281, 282, 283, 284, 285, 286, 287, 288, 289, 290, 291, 292, 293, 294, 295, 296, 297, 298, 299, 300, 301, 302, 303, 304, 305, 306, 307, 308, 309, 310, 311, 312, 313, 314, 315, 316, 317, 318, 319, 320, 321, 322, 323, 324, 325, 326, 327] (by decide +kernel) (by decide +kernel)
set_option maxRecDepth 20000 in
theorem gX4_run_X4_advance : GoodIn wsX4_run (wsV RX4 65 RX4 yX4_advance wsX4_advance) := goodIn_app (goodIn_of _ (by decide +kernel)) ggX4_run_X4_advance
theorem dX4_run_0 : decode cX4_run 0 = .ok (.iload_n 1, 1) := by decide +kernel
theorem dX4_run_1 : decode cX4_run 1 = .ok (.iconst 1, 1) := by decide +kernel
theorem dX4_run_2 : decode cX4_run 2 = .ok (.if_icmp .lt 10, 3) := by decide +kernel
theorem dX4_run_5 : decode cX4_run 5 = .ok (.iload_n 1, 1) := by decide +kernel
theorem dX4_run_6 : decode cX4_run 6 = .ok (.sipush 3000, 3) := by decide +kernel
theorem dX4_run_9 : decode cX4_run 9 = .ok (.if_icmp .le 5, 3) := by decide +kernel
theorem dX4_run_12 : decode cX4_run 12 = .ok (.iconst (-1), 1) := by decide +kernel
theorem dX4_run_13 : decode cX4_run 13 = .ok (.ireturn, 1) := by decide +kernel
theorem dX4_run_14 : decode cX4_run 14 = .ok (.iconst 0, 1) := by decide +kernel
theorem dX4_run_15 : decode cX4_run 15 = .ok (.istore_n 2, 1) := by decide +kernel
theorem dX4_run_16 : decode cX4_run 16 = .ok (.iload_n 2, 1) := by decide +kernel
theorem dX4_run_17 : decode cX4_run 17 = .ok (.iload_n 1, 1) := by decide +kernel
theorem dX4_run_18 : decode cX4_run 18 = .ok (.if_icmp .ge 25, 3) := by decide +kernel
theorem dX4_run_21 : decode cX4_run 21 = .ok (.aload_n 0, 1) := by decide +kernel
theorem dX4_run_22 : decode cX4_run 22 = .ok (.invokevirtual 65, 3) := by decide +kernel
theorem dX4_run_25 : decode cX4_run 25 = .ok (.istore_n 3, 1) := by decide +kernel
theorem dX4_run_26 : decode cX4_run 26 = .ok (.iload_n 3, 1) := by decide +kernel
theorem dX4_run_27 : decode cX4_run 27 = .ok (.ifCond .eq 10, 3) := by decide +kernel
theorem dX4_run_30 : decode cX4_run 30 = .ok (.iload_n 3, 1) := by decide +kernel
theorem dX4_run_31 : decode cX4_run 31 = .ok (.iconst 1, 1) := by decide +kernel
theorem dX4_run_32 : decode cX4_run 32 = .ok (.if_icmp .eq 5, 3) := by decide +kernel
theorem dX4_run_35 : decode cX4_run 35 = .ok (.iload_n 2, 1) := by decide +kernel
theorem dX4_run_36 : decode cX4_run 36 = .ok (.ireturn, 1) := by decide +kernel
theorem dX4_run_37 : decode cX4_run 37 = .ok (.iinc 2 1, 3) := by decide +kernel
theorem dX4_run_40 : decode cX4_run 40 = .ok (.goto (-24), 3) := by decide +kernel
theorem dX4_run_43 : decode cX4_run 43 = .ok (.iload_n 1, 1) := by decide +kernel
theorem dX4_run_44 : decode cX4_run 44 = .ok (.ireturn, 1) := by decide +kernel
theorem dX4_ended_0 : decode cX4_ended 0 = .ok (.aload_n 0, 1) := by decide +kernel
theorem dX4_ended_1 : decode cX4_ended 1 = .ok (.getfield 39, 3) := by decide +kernel
theorem dX4_ended_4 : decode cX4_ended 4 = .ok (.ireturn, 1) := by decide +kernel
set_option maxRecDepth 20000 in
theorem ggX4_reads_X4_within : GoodIn wsX4_reads wsX4_within := goodIn_r _ [5] (by decide +kernel) (by decide +kernel)
set_option maxRecDepth 20000 in
theorem gX4_reads_X4_within : GoodIn wsX4_reads (va_wsS RX4 46 yX4_within wsX4_within) := goodIn_app (goodIn_of _ (by decide +kernel)) ggX4_reads_X4_within
set_option maxRecDepth 20000 in
theorem ggX4_reads_X3_groupOf : GoodIn wsX4_reads wsX3_groupOf := goodIn_r _ [9, 10, 11, 8, 12, 13, 14, 15, 16, 17, 18, 19, 20, 21, 22, 23, 24, 25, 26, 27, 28, 29, 30, 31, 32, 33, 34, 35, 36] (by decide +kernel) (by decide +kernel)
set_option maxRecDepth 20000 in
theorem gX4_reads_X3_groupOf : GoodIn wsX4_reads (va_wsS RX4 69 yX3_groupOf wsX3_groupOf) := goodIn_app (goodIn_of _ (by decide +kernel)) ggX4_reads_X3_groupOf
set_option maxRecDepth 20000 in
theorem ggX4_reads_X3_hasNext : GoodIn wsX4_reads wsX3_hasNext := goodIn_r _ [39, 40, 41, 42, 43] (by decide +kernel) (by decide +kernel)
set_option maxRecDepth 20000 in
theorem gX4_reads_X3_hasNext : GoodIn wsX4_reads (va_wsS RX4 74 yX3_hasNext wsX3_hasNext) := goodIn_app (goodIn_of _ (by decide +kernel)) ggX4_reads_X3_hasNext
theorem dX4_reads_0 : decode cX4_reads 0 = .ok (.iload_n 1, 1) := by decide +kernel
theorem dX4_reads_1 : decode cX4_reads 1 = .ok (.ldc 50, 2) := by decide +kernel
theorem dX4_reads_3 : decode cX4_reads 3 = .ok (.invokestatic 46, 3) := by decide +kernel
theorem dX4_reads_6 : decode cX4_reads 6 = .ok (.ifCond .ne 5, 3) := by decide +kernel
theorem dX4_reads_9 : decode cX4_reads 9 = .ok (.iconst (-1), 1) := by decide +kernel
theorem dX4_reads_10 : decode cX4_reads 10 = .ok (.ireturn, 1) := by decide +kernel
theorem dX4_reads_11 : decode cX4_reads 11 = .ok (.iload_n 2, 1) := by decide +kernel
theorem dX4_reads_12 : decode cX4_reads 12 = .ok (.lookupswitch 54 #[(0, 28), (1, 41)], 28) := by decide +kernel
theorem dX4_reads_40 : decode cX4_reads 40 = .ok (.iload_n 1, 1) := by decide +kernel
theorem dX4_reads_41 : decode cX4_reads 41 = .ok (.invokestatic 69, 3) := by decide +kernel
theorem dX4_reads_44 : decode cX4_reads 44 = .ok (.ifCond .ne 7, 3) := by decide +kernel
theorem dX4_reads_47 : decode cX4_reads 47 = .ok (.iconst 1, 1) := by decide +kernel
theorem dX4_reads_48 : decode cX4_reads 48 = .ok (.goto 4, 3) := by decide +kernel
theorem dX4_reads_51 : decode cX4_reads 51 = .ok (.iconst 0, 1) := by decide +kernel
theorem dX4_reads_52 : decode cX4_reads 52 = .ok (.ireturn, 1) := by decide +kernel
theorem dX4_reads_53 : decode cX4_reads 53 = .ok (.iload_n 1, 1) := by decide +kernel
theorem dX4_reads_54 : decode cX4_reads 54 = .ok (.invokestatic 74, 3) := by decide +kernel
theorem dX4_reads_57 : decode cX4_reads 57 = .ok (.ifCond .eq 7, 3) := by decide +kernel
theorem dX4_reads_60 : decode cX4_reads 60 = .ok (.iconst 1, 1) := by decide +kernel
theorem dX4_reads_61 : decode cX4_reads 61 = .ok (.goto 4, 3) := by decide +kernel
theorem dX4_reads_64 : decode cX4_reads 64 = .ok (.iconst 0, 1) := by decide +kernel
theorem dX4_reads_65 : decode cX4_reads 65 = .ok (.ireturn, 1) := by decide +kernel
theorem dX4_reads_66 : decode cX4_reads 66 = .ok (.iconst (-1), 1) := by decide +kernel
theorem dX4_reads_67 : decode cX4_reads 67 = .ok (.ireturn, 1) := by decide +kernel
set_option maxRecDepth 20000 in
theorem ggX4_digest_X0_get : GoodIn wsX4_digest wsX0_get := goodIn_r _ [7, 8, 17] (by decide +kernel) (by decide +kernel)
set_option maxRecDepth 20000 in
theorem gX4_digest_X0_get : GoodIn wsX4_digest (wsV RX4 55 RX0 yX0_get wsX0_get) := goodIn_app (goodIn_of _ (by decide +kernel)) ggX4_digest_X0_get
theorem dX4_digest_0 : decode cX4_digest 0 = .ok (.bipush 7, 2) := by decide +kernel
theorem dX4_digest_2 : decode cX4_digest 2 = .ok (.istore_n 1, 1) := by decide +kernel
theorem dX4_digest_3 : decode cX4_digest 3 = .ok (.iconst 0, 1) := by decide +kernel
theorem dX4_digest_4 : decode cX4_digest 4 = .ok (.istore_n 2, 1) := by decide +kernel
theorem dX4_digest_5 : decode cX4_digest 5 = .ok (.iload_n 2, 1) := by decide +kernel
theorem dX4_digest_6 : decode cX4_digest 6 = .ok (.sipush 1023, 3) := by decide +kernel
theorem dX4_digest_9 : decode cX4_digest 9 = .ok (.if_icmp .gt 23, 3) := by decide +kernel
theorem dX4_digest_12 : decode cX4_digest 12 = .ok (.bipush 31, 2) := by decide +kernel
theorem dX4_digest_14 : decode cX4_digest 14 = .ok (.iload_n 1, 1) := by decide +kernel
theorem dX4_digest_15 : decode cX4_digest 15 = .ok (.imul, 1) := by decide +kernel
theorem dX4_digest_16 : decode cX4_digest 16 = .ok (.aload_n 0, 1) := by decide +kernel
theorem dX4_digest_17 : decode cX4_digest 17 = .ok (.getfield 16, 3) := by decide +kernel
theorem dX4_digest_20 : decode cX4_digest 20 = .ok (.iload_n 2, 1) := by decide +kernel
theorem dX4_digest_21 : decode cX4_digest 21 = .ok (.invokevirtual 55, 3) := by decide +kernel
theorem dX4_digest_24 : decode cX4_digest 24 = .ok (.iadd, 1) := by decide +kernel
theorem dX4_digest_25 : decode cX4_digest 25 = .ok (.istore_n 1, 1) := by decide +kernel
theorem dX4_digest_26 : decode cX4_digest 26 = .ok (.iinc 2 1, 3) := by decide +kernel
theorem dX4_digest_29 : decode cX4_digest 29 = .ok (.goto (-24), 3) := by decide +kernel
theorem dX4_digest_32 : decode cX4_digest 32 = .ok (.bipush 31, 2) := by decide +kernel
theorem dX4_digest_34 : decode cX4_digest 34 = .ok (.iload_n 1, 1) := by decide +kernel
theorem dX4_digest_35 : decode cX4_digest 35 = .ok (.imul, 1) := by decide +kernel
theorem dX4_digest_36 : decode cX4_digest 36 = .ok (.aload_n 0, 1) := by decide +kernel
theorem dX4_digest_37 : decode cX4_digest 37 = .ok (.getfield 32, 3) := by decide +kernel
theorem dX4_digest_40 : decode cX4_digest 40 = .ok (.iadd, 1) := by decide +kernel
theorem dX4_digest_41 : decode cX4_digest 41 = .ok (.ireturn, 1) := by decide +kernel
theorem dX4_count_0 : decode cX4_count 0 = .ok (.iload_n 1, 1) := by decide +kernel
theorem dX4_count_1 : decode cX4_count 1 = .ok (.ifCond .lt 18, 3) := by decide +kernel
theorem dX4_count_4 : decode cX4_count 4 = .ok (.iload_n 1, 1) := by decide +kernel
theorem dX4_count_5 : decode cX4_count 5 = .ok (.bipush 7, 2) := by decide +kernel
theorem dX4_count_7 : decode cX4_count 7 = .ok (.if_icmp .ge 12, 3) := by decide +kernel
theorem dX4_count_10 : decode cX4_count 10 = .ok (.aload_n 0, 1) := by decide +kernel
theorem dX4_count_11 : decode cX4_count 11 = .ok (.getfield 29, 3) := by decide +kernel
theorem dX4_count_14 : decode cX4_count 14 = .ok (.iload_n 1, 1) := by decide +kernel
theorem dX4_count_15 : decode cX4_count 15 = .ok (.iaload, 1) := by decide +kernel
theorem dX4_count_16 : decode cX4_count 16 = .ok (.goto 4, 3) := by decide +kernel
theorem dX4_count_19 : decode cX4_count 19 = .ok (.iconst (-1), 1) := by decide +kernel
theorem dX4_count_20 : decode cX4_count 20 = .ok (.ireturn, 1) := by decide +kernel
theorem dX4_within_0 : decode cX4_within 0 = .ok (.iload_n 0, 1) := by decide +kernel
theorem dX4_within_1 : decode cX4_within 1 = .ok (.ifCond .lt 12, 3) := by decide +kernel
theorem dX4_within_4 : decode cX4_within 4 = .ok (.iload_n 0, 1) := by decide +kernel
theorem dX4_within_5 : decode cX4_within 5 = .ok (.iload_n 1, 1) := by decide +kernel
theorem dX4_within_6 : decode cX4_within 6 = .ok (.if_icmp .gt 7, 3) := by decide +kernel
theorem dX4_within_9 : decode cX4_within 9 = .ok (.iconst 1, 1) := by decide +kernel
theorem dX4_within_10 : decode cX4_within 10 = .ok (.goto 4, 3) := by decide +kernel
theorem dX4_within_13 : decode cX4_within 13 = .ok (.iconst 0, 1) := by decide +kernel
theorem dX4_within_14 : decode cX4_within 14 = .ok (.ireturn, 1) := by decide +kernel
theorem dX4_cellAt_0 : decode cX4_cellAt 0 = .ok (.aload_n 0, 1) := by decide +kernel
theorem dX4_cellAt_1 : decode cX4_cellAt 1 = .ok (.getfield 9, 3) := by decide +kernel
theorem dX4_cellAt_4 : decode cX4_cellAt 4 = .ok (.iload_n 1, 1) := by decide +kernel
theorem dX4_cellAt_5 : decode cX4_cellAt 5 = .ok (.sipush 1023, 3) := by decide +kernel
theorem dX4_cellAt_8 : decode cX4_cellAt 8 = .ok (.iand, 1) := by decide +kernel
theorem dX4_cellAt_9 : decode cX4_cellAt 9 = .ok (.iaload, 1) := by decide +kernel
theorem dX4_cellAt_10 : decode cX4_cellAt 10 = .ok (.ireturn, 1) := by decide +kernel
set_option maxRecDepth 20000 in
theorem ggX4_advance_X0_flag : GoodIn wsX4_advance wsX0_flag := goodIn_r _ [13, 14, 322] (by decide +kernel) (by decide +kernel)
set_option maxRecDepth 20000 in
theorem gX4_advance_X0_flag : GoodIn wsX4_advance (wsV RX4 80 RX0 yX0_flag wsX0_flag) := goodIn_app (goodIn_of _ (by decide +kernel)) ggX4_advance_X0_flag
set_option maxRecDepth 20000 in
theorem ggX4_advance_X4_enterLeast : GoodIn wsX4_advance wsX4_enterLeast := goodIn_r _ [19, 3, 5, 1, 20, 21, 22, 12, 23, 24, 25, 26, 27, 14, 28, 29, 30, 31, 32, 33, 34, 35, 36, 37, 38, 39, 40, 41, 42, 43, 44, 45, 46, 47, 48, 49, 50, 51, 52, 314, 315, 316, 317, 318, 319, 320, 321, 322] (by decide +kernel) (by decide +kernel)
set_option maxRecDepth 20000 in
theorem gX4_advance_X4_enterLeast : GoodIn wsX4_advance (wsV RX4 83 RX4 yX4_enterLeast wsX4_enterLeast) := goodIn_app (goodIn_of _ (by decide +kernel)) ggX4_advance_X4_enterLeast
set_option maxRecDepth 20000 in
theorem ggX4_advance_X4_cellAt : GoodIn wsX4_advance wsX4_cellAt := goodIn_r _ [56, 57, 314, 315, 316, 317, 318, 319, 320, 321] (by decide +kernel) (by decide +kernel)
set_option maxRecDepth 20000 in
theorem gX4_advance_X4_cellAt : GoodIn wsX4_advance (wsV RX4 51 RX4 yX4_cellAt wsX4_cellAt) := goodIn_app (goodIn_of _ (by decide +kernel)) ggX4_advance_X4_cellAt
set_option maxRecDepth 20000 in
theorem ggX4_advance_X4_perform : GoodIn wsX4_advance wsX4_perform := goodIn_r _ [61, 62, 63, 64, 65, 66, 67, 68, 69, 70, 71, 72, 73, 74, 75, 76, 77, 78, 79, 80, 81, 82, 83, 84, 85, 86, 87, 88, 89, 90, 91, 92, 93, 94, 95, 18, 96, 5, 97, 98, 99, 100, 3, 101, 25, 26, 12, 27, 14, 102, 33, 34, 35, 103, 104, 105, 106, 107, 108, 109, 50, 51, 52, 110, 111, 112, 113, 114, 115, 116, 117, 118, 119, 120, 121, 122, 123, 124, 125, 126, 127, 128, 129, 130, 131, 132, 133, 134, 135, 136, 137, 138, 139, 140, 141, 142, 143, 144, 145, 9, 10, 11, 13, 146, 147, 148, 149, 150, 151, 152, 153, 154, 155, 156, 157, 158, 29, 30, 31, 159, 160, 161, 162, 163, 164, 165, 166, 8, 53, 54, 55, 56, 57, 167, 168, 169, 170, 171, 172, 173, 174, 175, 176, 177, 178, 179, 180, 181, 182, 183, 184, 185, 186, 187, 188, 189, 190, 191, 192, 193, 194, 195, 196, 197, 198, 199, 200, 201, 202, 203, 204, 205, 206, 207, 208, 209, 41, 42, 43, 44, 45, 46, 47, 48, 49, 28, 210, 211, 212, 213, 214, 215, 216, 217, 218, 219, 220, 221, 222, 223, 224, 225, 226, 227, 228, 229, 230, 231, 232, 233, 234, 235, 236, 237, 238, 239, 240, 241, 242, 243, 244, 245, 246, 247, 24, 32, 248, 249, 250, 251, 252, 253, 254, 255, 256, 257, 258, 259, 260, 261, 262, 263, 264, 265, 266, 267, 268, 269, 270, 271, 272, 273, 274, 275, 276, 277, 278, 279, 280, 281, 282, 283, 284, 285, 286, 287, 288, 289, 290, 291, 292, 293, 294, 295, 296, 297, 20, 21, 22, 23, 298, 299, 300, 301, 302, 303, 304, 305, 306, 307, 308, 309, 310, 311, 312, 313, 7, 314, 315, 316, 317, 318, 319, 320, 321, 322, 323] (by decide +kernel) (by decide +kernel)
set_option maxRecDepth 20000 in
theorem gX4_advance_X4_perform : GoodIn wsX4_advance (wsV RX4 86 RX4 yX4_perform wsX4_perform) := goodIn_app (goodIn_of _ (by decide +kernel)) ggX4_advance_X4_perform
theorem dX4_advance_0 : decode cX4_advance 0 = .ok (.aload_n 0, 1) := by decide +kernel
theorem dX4_advance_1 : decode cX4_advance 1 = .ok (.getfield 36, 3) := by decide +kernel
theorem dX4_advance_4 : decode cX4_advance 4 = .ok (.ifCond .eq 34, 3) := by decide +kernel
theorem dX4_advance_7 : decode cX4_advance 7 = .ok (.aload_n 0, 1) := by decide +kernel
theorem dX4_advance_8 : decode cX4_advance 8 = .ok (.getfield 42, 3) := by decide +kernel
theorem dX4_advance_11 : decode cX4_advance 11 = .ok (.ifCond .ne 27, 3) := by decide +kernel
theorem dX4_advance_14 : decode cX4_advance 14 = .ok (.aload_n 0, 1) := by decide +kernel
theorem dX4_advance_15 : decode cX4_advance 15 = .ok (.getfield 16, 3) := by decide +kernel
theorem dX4_advance_18 : decode cX4_advance 18 = .ok (.bipush 7, 2) := by decide +kernel
theorem dX4_advance_20 : decode cX4_advance 20 = .ok (.invokevirtual 80, 3) := by decide +kernel
theorem dX4_advance_23 : decode cX4_advance 23 = .ok (.iconst 1, 1) := by decide +kernel
theorem dX4_advance_24 : decode cX4_advance 24 = .ok (.if_icmp .ne 14, 3) := by decide +kernel
theorem dX4_advance_27 : decode cX4_advance 27 = .ok (.aload_n 0, 1) := by decide +kernel
theorem dX4_advance_28 : decode cX4_advance 28 = .ok (.aload_n 0, 1) := by decide +kernel
theorem dX4_advance_29 : decode cX4_advance 29 = .ok (.invokevirtual 83, 3) := by decide +kernel
theorem dX4_advance_32 : decode cX4_advance 32 = .ok (.putfield 39, 3) := by decide +kernel
theorem dX4_advance_35 : decode cX4_advance 35 = .ok (.goto 49, 3) := by decide +kernel
theorem dX4_advance_38 : decode cX4_advance 38 = .ok (.aload_n 0, 1) := by decide +kernel
theorem dX4_advance_39 : decode cX4_advance 39 = .ok (.aload_n 0, 1) := by decide +kernel
theorem dX4_advance_40 : decode cX4_advance 40 = .ok (.getfield 32, 3) := by decide +kernel
theorem dX4_advance_43 : decode cX4_advance 43 = .ok (.invokevirtual 51, 3) := by decide +kernel
theorem dX4_advance_46 : decode cX4_advance 46 = .ok (.istore_n 1, 1) := by decide +kernel
theorem dX4_advance_47 : decode cX4_advance 47 = .ok (.aload_n 0, 1) := by decide +kernel
theorem dX4_advance_48 : decode cX4_advance 48 = .ok (.aload_n 0, 1) := by decide +kernel
theorem dX4_advance_49 : decode cX4_advance 49 = .ok (.iload_n 1, 1) := by decide +kernel
theorem dX4_advance_50 : decode cX4_advance 50 = .ok (.invokevirtual 86, 3) := by decide +kernel
theorem dX4_advance_53 : decode cX4_advance 53 = .ok (.putfield 39, 3) := by decide +kernel
theorem dX4_advance_56 : decode cX4_advance 56 = .ok (.aload_n 0, 1) := by decide +kernel
theorem dX4_advance_57 : decode cX4_advance 57 = .ok (.getfield 39, 3) := by decide +kernel
theorem dX4_advance_60 : decode cX4_advance 60 = .ok (.ifCond .ne 24, 3) := by decide +kernel
theorem dX4_advance_63 : decode cX4_advance 63 = .ok (.aload_n 0, 1) := by decide +kernel
theorem dX4_advance_64 : decode cX4_advance 64 = .ok (.iload_n 1, 1) := by decide +kernel
theorem dX4_advance_65 : decode cX4_advance 65 = .ok (.ldc 89, 2) := by decide +kernel
theorem dX4_advance_67 : decode cX4_advance 67 = .ok (.if_icmp .eq 9, 3) := by decide +kernel
theorem dX4_advance_70 : decode cX4_advance 70 = .ok (.iload_n 1, 1) := by decide +kernel
theorem dX4_advance_71 : decode cX4_advance 71 = .ok (.ldc 90, 2) := by decide +kernel
theorem dX4_advance_73 : decode cX4_advance 73 = .ok (.if_icmp .ne 7, 3) := by decide +kernel
theorem dX4_advance_76 : decode cX4_advance 76 = .ok (.iconst 1, 1) := by decide +kernel
theorem dX4_advance_77 : decode cX4_advance 77 = .ok (.goto 4, 3) := by decide +kernel
theorem dX4_advance_80 : decode cX4_advance 80 = .ok (.iconst 0, 1) := by decide +kernel
theorem dX4_advance_81 : decode cX4_advance 81 = .ok (.putfield 42, 3) := by decide +kernel
theorem dX4_advance_84 : decode cX4_advance 84 = .ok (.aload_n 0, 1) := by decide +kernel
theorem dX4_advance_85 : decode cX4_advance 85 = .ok (.getfield 29, 3) := by decide +kernel
theorem dX4_advance_88 : decode cX4_advance 88 = .ok (.aload_n 0, 1) := by decide +kernel
theorem dX4_advance_89 : decode cX4_advance 89 = .ok (.getfield 39, 3) := by decide +kernel
theorem dX4_advance_92 : decode cX4_advance 92 = .ok (.iconst 3, 1) := by decide +kernel
theorem dX4_advance_93 : decode cX4_advance 93 = .ok (.iand, 1) := by decide +kernel
theorem dX4_advance_94 : decode cX4_advance 94 = .ok (.dup2, 1) := by decide +kernel
theorem dX4_advance_95 : decode cX4_advance 95 = .ok (.iaload, 1) := by decide +kernel
theorem dX4_advance_96 : decode cX4_advance 96 = .ok (.iconst 1, 1) := by decide +kernel
theorem dX4_advance_97 : decode cX4_advance 97 = .ok (.iadd, 1) := by decide +kernel
theorem dX4_advance_98 : decode cX4_advance 98 = .ok (.iastore, 1) := by decide +kernel
theorem dX4_advance_99 : decode cX4_advance 99 = .ok (.aload_n 0, 1) := by decide +kernel
theorem dX4_advance_100 : decode cX4_advance 100 = .ok (.getfield 39, 3) := by decide +kernel
theorem dX4_advance_103 : decode cX4_advance 103 = .ok (.ireturn, 1) := by decide +kernel
set_option maxRecDepth 20000 in
theorem ggX4_enterLeast_X0_stacks : GoodIn wsX4_enterLeast wsX0_stacks := goodIn_r _ [8, 9, 10, 11, 7, 12, 13, 14, 15, 16, 17, 18, 19, 20, 21, 47] (by decide +kernel) (by decide +kernel)
set_option maxRecDepth 20000 in
theorem gX4_enterLeast_X0_stacks : GoodIn wsX4_enterLeast (wsV RX4 91 RX0 yX0_stacks wsX0_stacks) := goodIn_app (goodIn_of _ (by decide +kernel)) ggX4_enterLeast_X0_stacks
set_option maxRecDepth 20000 in
theorem ggX4_enterLeast_J6_numberOfTrailingZeros_0f7a4 : GoodIn wsX4_enterLeast wsJ6_numberOfTrailingZeros_0f7a4 := goodIn_r _ [25, 26] (by decide +kernel) (by decide +kernel)
set_option maxRecDepth 20000 in
theorem gX4_enterLeast_J6_numberOfTrailingZeros_0f7a4 : GoodIn wsX4_enterLeast (va_wsS RX4 94 yJ6_numberOfTrailingZeros_0f7a4 wsJ6_numberOfTrailingZeros_0f7a4) := goodIn_app (goodIn_of _ (by decide +kernel)) ggX4_enterLeast_J6_numberOfTrailingZeros_0f7a4
set_option maxRecDepth 20000 in
theorem ggX4_enterLeast_X0_setFlag : GoodIn wsX4_enterLeast wsX0_setFlag := goodIn_r _ [30, 31, 32, 33, 7, 34, 35, 36, 37, 38, 13, 14, 15, 16, 17, 47] (by decide +kernel) (by decide +kernel)
set_option maxRecDepth 20000 in
theorem gX4_enterLeast_X0_setFlag : GoodIn wsX4_enterLeast (wsV RX4 99 RX0 yX0_setFlag wsX0_setFlag) := goodIn_app (goodIn_of _ (by decide +kernel)) ggX4_enterLeast_X0_setFlag
theorem dX4_enterLeast_0 : decode cX4_enterLeast 0 = .ok (.aload_n 0, 1) := by decide +kernel
theorem dX4_enterLeast_1 : decode cX4_enterLeast 1 = .ok (.getfield 16, 3) := by decide +kernel
theorem dX4_enterLeast_4 : decode cX4_enterLeast 4 = .ok (.aload_n 0, 1) := by decide +kernel
theorem dX4_enterLeast_5 : decode cX4_enterLeast 5 = .ok (.getfield 32, 3) := by decide +kernel
theorem dX4_enterLeast_8 : decode cX4_enterLeast 8 = .ok (.invokevirtual 91, 3) := by decide +kernel
theorem dX4_enterLeast_11 : decode cX4_enterLeast 11 = .ok (.ifCond .ne 5, 3) := by decide +kernel
theorem dX4_enterLeast_14 : decode cX4_enterLeast 14 = .ok (.iconst 3, 1) := by decide +kernel
theorem dX4_enterLeast_15 : decode cX4_enterLeast 15 = .ok (.ireturn, 1) := by decide +kernel
theorem dX4_enterLeast_16 : decode cX4_enterLeast 16 = .ok (.aload_n 0, 1) := by decide +kernel
theorem dX4_enterLeast_17 : decode cX4_enterLeast 17 = .ok (.iconst 2, 1) := by decide +kernel
theorem dX4_enterLeast_18 : decode cX4_enterLeast 18 = .ok (.aload_n 0, 1) := by decide +kernel
theorem dX4_enterLeast_19 : decode cX4_enterLeast 19 = .ok (.getfield 36, 3) := by decide +kernel
theorem dX4_enterLeast_22 : decode cX4_enterLeast 22 = .ok (.invokestatic 94, 3) := by decide +kernel
theorem dX4_enterLeast_25 : decode cX4_enterLeast 25 = .ok (.imul, 1) := by decide +kernel
theorem dX4_enterLeast_26 : decode cX4_enterLeast 26 = .ok (.sipush 1023, 3) := by decide +kernel
theorem dX4_enterLeast_29 : decode cX4_enterLeast 29 = .ok (.iand, 1) := by decide +kernel
theorem dX4_enterLeast_30 : decode cX4_enterLeast 30 = .ok (.putfield 32, 3) := by decide +kernel
theorem dX4_enterLeast_33 : decode cX4_enterLeast 33 = .ok (.aload_n 0, 1) := by decide +kernel
theorem dX4_enterLeast_34 : decode cX4_enterLeast 34 = .ok (.dup, 1) := by decide +kernel
theorem dX4_enterLeast_35 : decode cX4_enterLeast 35 = .ok (.getfield 36, 3) := by decide +kernel
theorem dX4_enterLeast_38 : decode cX4_enterLeast 38 = .ok (.aload_n 0, 1) := by decide +kernel
theorem dX4_enterLeast_39 : decode cX4_enterLeast 39 = .ok (.getfield 36, 3) := by decide +kernel
theorem dX4_enterLeast_42 : decode cX4_enterLeast 42 = .ok (.iconst 1, 1) := by decide +kernel
theorem dX4_enterLeast_43 : decode cX4_enterLeast 43 = .ok (.isub, 1) := by decide +kernel
theorem dX4_enterLeast_44 : decode cX4_enterLeast 44 = .ok (.iand, 1) := by decide +kernel
theorem dX4_enterLeast_45 : decode cX4_enterLeast 45 = .ok (.putfield 36, 3) := by decide +kernel
theorem dX4_enterLeast_48 : decode cX4_enterLeast 48 = .ok (.aload_n 0, 1) := by decide +kernel
theorem dX4_enterLeast_49 : decode cX4_enterLeast 49 = .ok (.getfield 16, 3) := by decide +kernel
theorem dX4_enterLeast_52 : decode cX4_enterLeast 52 = .ok (.bipush 7, 2) := by decide +kernel
theorem dX4_enterLeast_54 : decode cX4_enterLeast 54 = .ok (.iconst 0, 1) := by decide +kernel
theorem dX4_enterLeast_55 : decode cX4_enterLeast 55 = .ok (.invokevirtual 99, 3) := by decide +kernel
theorem dX4_enterLeast_58 : decode cX4_enterLeast 58 = .ok (.iconst 1, 1) := by decide +kernel
theorem dX4_enterLeast_59 : decode cX4_enterLeast 59 = .ok (.ireturn, 1) := by decide +kernel
set_option maxRecDepth 20000 in
theorem ggX4_perform_X3_groupOf : GoodIn wsX4_perform wsX3_groupOf := goodIn_r _ [4, 5, 6, 3, 7, 8, 9, 10, 11, 12, 13, 14, 15, 16, 17, 18, 19, 20, 21, 22, 23, 24, 25, 26, 27, 28, 29, 30, 31] (by decide +kernel) (by decide +kernel)
set_option maxRecDepth 20000 in
theorem gX4_perform_X3_groupOf : GoodIn wsX4_perform (va_wsS RX4 69 yX3_groupOf wsX3_groupOf) := goodIn_app (goodIn_of _ (by decide +kernel)) ggX4_perform_X3_groupOf
set_option maxRecDepth 20000 in
theorem ggX4_perform_X4_onward : GoodIn wsX4_perform wsX4_onward := goodIn_r _ [36, 37, 297, 298, 299, 300, 301, 302, 303, 304] (by decide +kernel) (by decide +kernel)
set_option maxRecDepth 20000 in
theorem gX4_perform_X4_onward : GoodIn wsX4_perform (wsV RX4 102 RX4 yX4_onward wsX4_onward) := goodIn_app (goodIn_of _ (by decide +kernel)) ggX4_perform_X4_onward
set_option maxRecDepth 20000 in
theorem ggX4_perform_X4_movePair : GoodIn wsX4_perform wsX4_movePair := goodIn_r _ [41, 42, 43, 44, 45, 46, 47, 48, 49, 50, 51, 52, 32, 33, 34, 35, 36, 37, 297, 298, 299, 300, 301, 302, 303, 304, 305] (by decide +kernel) (by decide +kernel)
set_option maxRecDepth 20000 in
theorem gX4_perform_X4_movePair : GoodIn wsX4_perform (wsV RX4 105 RX4 yX4_movePair wsX4_movePair) := goodIn_app (goodIn_of _ (by decide +kernel)) ggX4_perform_X4_movePair
set_option maxRecDepth 20000 in
theorem ggX4_perform_X4_multiply : GoodIn wsX4_perform wsX4_multiply := goodIn_r _ [56, 57, 42, 58, 15, 3, 16, 59, 60, 61, 46, 62, 48, 63, 64, 65, 66, 67, 68, 69, 70, 71, 72, 73, 74, 75, 76, 77, 78, 50, 51, 52, 79, 80, 81, 82, 83, 84, 85, 86, 87, 88, 89, 35, 90, 91, 92, 93, 94, 32, 33, 34, 36, 37, 297, 298, 299, 300, 301, 302, 303, 304, 305, 306] (by decide +kernel) (by decide +kernel)
set_option maxRecDepth 20000 in
theorem gX4_perform_X4_multiply : GoodIn wsX4_perform (wsV RX4 108 RX4 yX4_multiply wsX4_multiply) := goodIn_app (goodIn_of _ (by decide +kernel)) ggX4_perform_X4_multiply
set_option maxRecDepth 20000 in
theorem ggX4_perform_X4_combine : GoodIn wsX4_perform wsX4_combine := goodIn_r _ [98, 42, 57, 58, 15, 3, 16, 59, 60, 61, 46, 62, 48, 63, 64, 65, 99, 100, 101, 102, 103, 104, 105, 69, 106, 75, 107, 108, 109, 110, 111, 112, 113, 114, 79, 80, 81, 82, 115, 116, 117, 118, 119, 120, 121, 122, 123, 124, 125, 35, 126, 37, 127, 32, 33, 34, 36, 128, 129, 130, 131, 132, 133, 134, 135, 136, 137, 138, 139, 140, 141, 142, 143, 144, 145, 146, 147, 297, 298, 299, 300, 301, 302, 303, 304, 305, 306] (by decide +kernel) (by decide +kernel)
set_option maxRecDepth 20000 in
theorem gX4_perform_X4_combine : GoodIn wsX4_perform (wsV RX4 111 RX4 yX4_combine wsX4_combine) := goodIn_app (goodIn_of _ (by decide +kernel)) ggX4_perform_X4_combine
set_option maxRecDepth 20000 in
theorem ggX4_perform_X4_combineWithNumber : GoodIn wsX4_perform wsX4_combineWithNumber := goodIn_r _ [151, 42, 57, 59, 60, 61, 46, 62, 48, 140, 141, 142, 69, 143, 108, 109, 110, 111, 75, 112, 113, 114, 79, 80, 81, 82, 99, 100, 101, 102, 103, 104, 105, 106, 107, 115, 116, 117, 118, 144, 145, 146, 147, 32, 33, 34, 35, 36, 37, 297, 298, 299, 300, 301, 302, 303, 304, 305, 306] (by decide +kernel) (by decide +kernel)
set_option maxRecDepth 20000 in
theorem gX4_perform_X4_combineWithNumber : GoodIn wsX4_perform (wsV RX4 114 RX4 yX4_combineWithNumber wsX4_combineWithNumber) := goodIn_app (goodIn_of _ (by decide +kernel)) ggX4_perform_X4_combineWithNumber
set_option maxRecDepth 20000 in
theorem ggX4_perform_X4_change : GoodIn wsX4_perform wsX4_change := goodIn_r _ [155, 42, 57, 58, 15, 3, 16, 59, 60, 61, 46, 62, 48, 156, 157, 158, 69, 159, 75, 112, 113, 114, 79, 80, 81, 82, 115, 116, 117, 118, 140, 141, 142, 143, 108, 109, 110, 111, 160, 161, 162, 163, 164, 165, 166, 167, 99, 100, 101, 102, 168, 169, 170, 171, 32, 33, 34, 35, 36, 37, 297, 298, 299, 300, 301, 302, 303, 304, 305, 306] (by decide +kernel) (by decide +kernel)
set_option maxRecDepth 20000 in
theorem gX4_perform_X4_change : GoodIn wsX4_perform (wsV RX4 117 RX4 yX4_change wsX4_change) := goodIn_app (goodIn_of _ (by decide +kernel)) ggX4_perform_X4_change
set_option maxRecDepth 20000 in
theorem ggX4_perform_X4_setFlag : GoodIn wsX4_perform wsX4_setFlag := goodIn_r _ [175, 42, 176, 177, 178, 46, 179, 180, 181, 182, 183, 184, 60, 61, 62, 48, 185, 116, 117, 118, 32, 33, 34, 35, 36, 37, 297, 298, 299, 300, 301, 302, 303, 304, 305] (by decide +kernel) (by decide +kernel)
set_option maxRecDepth 20000 in
theorem gX4_perform_X4_setFlag : GoodIn wsX4_perform (wsV RX4 120 RX4 yX4_setFlag wsX4_setFlag) := goodIn_app (goodIn_of _ (by decide +kernel)) ggX4_perform_X4_setFlag
set_option maxRecDepth 20000 in
theorem ggX4_perform_X4_changePair : GoodIn wsX4_perform wsX4_changePair := goodIn_r _ [189, 42, 57, 43, 44, 45, 46, 47, 48, 190, 191, 192, 69, 193, 77, 194, 195, 196, 197, 76, 75, 112, 113, 114, 79, 80, 81, 82, 198, 199, 200, 201, 49, 50, 51, 52, 32, 33, 34, 35, 36, 37, 297, 298, 299, 300, 301, 302, 303, 304, 305, 306] (by decide +kernel) (by decide +kernel)
set_option maxRecDepth 20000 in
theorem gX4_perform_X4_changePair : GoodIn wsX4_perform (wsV RX4 122 RX4 yX4_changePair wsX4_changePair) := goodIn_app (goodIn_of _ (by decide +kernel)) ggX4_perform_X4_changePair
set_option maxRecDepth 20000 in
theorem ggX4_perform_X4_moveAtNext : GoodIn wsX4_perform wsX4_moveAtNext := goodIn_r _ [205, 37, 128, 129, 130, 35, 131, 132, 206, 207, 208, 209, 42, 58, 15, 3, 16, 59, 60, 61, 46, 62, 48, 115, 116, 117, 118, 32, 33, 34, 36, 297, 298, 299, 300, 301, 302, 303, 304, 305] (by decide +kernel) (by decide +kernel)
set_option maxRecDepth 20000 in
theorem gX4_perform_X4_moveAtNext : GoodIn wsX4_perform (wsV RX4 125 RX4 yX4_moveAtNext wsX4_moveAtNext) := goodIn_app (goodIn_of _ (by decide +kernel)) ggX4_perform_X4_moveAtNext
set_option maxRecDepth 20000 in
theorem ggX4_perform_X4_movePointed : GoodIn wsX4_perform wsX4_movePointed := goodIn_r _ [213, 42, 214, 215, 18, 3, 19, 43, 44, 45, 46, 47, 48, 49, 50, 51, 52, 206, 207, 208, 35, 209, 58, 15, 16, 59, 60, 61, 62, 115, 116, 117, 118, 32, 33, 34, 36, 37, 297, 298, 299, 300, 301, 302, 303, 304, 305] (by decide +kernel) (by decide +kernel)
set_option maxRecDepth 20000 in
theorem gX4_perform_X4_movePointed : GoodIn wsX4_perform (wsV RX4 128 RX4 yX4_movePointed wsX4_movePointed) := goodIn_app (goodIn_of _ (by decide +kernel)) ggX4_perform_X4_movePointed
set_option maxRecDepth 20000 in
theorem ggX4_perform_X4_moveStacked : GoodIn wsX4_perform wsX4_moveStacked := goodIn_r _ [219, 42, 214, 43, 44, 45, 46, 47, 48, 58, 15, 3, 16, 220, 221, 222, 223, 224, 225, 50, 51, 52, 184, 60, 61, 62, 115, 116, 117, 118, 59, 226, 227, 228, 229, 185, 32, 33, 34, 35, 36, 37, 297, 298, 299, 300, 301, 302, 303, 304, 305] (by decide +kernel) (by decide +kernel)
set_option maxRecDepth 20000 in
theorem gX4_perform_X4_moveStacked : GoodIn wsX4_perform (wsV RX4 131 RX4 yX4_moveStacked wsX4_moveStacked) := goodIn_app (goodIn_of _ (by decide +kernel)) ggX4_perform_X4_moveStacked
set_option maxRecDepth 20000 in
theorem ggX4_perform_X4_moveBeside : GoodIn wsX4_perform wsX4_moveBeside := goodIn_r _ [233, 42, 214, 43, 44, 45, 46, 47, 48, 206, 207, 208, 35, 209, 58, 15, 3, 16, 59, 60, 61, 62, 115, 116, 117, 118, 32, 33, 34, 36, 37, 297, 298, 299, 300, 301, 302, 303, 304, 305] (by decide +kernel) (by decide +kernel)
set_option maxRecDepth 20000 in
theorem gX4_perform_X4_moveBeside : GoodIn wsX4_perform (wsV RX4 134 RX4 yX4_moveBeside wsX4_moveBeside) := goodIn_app (goodIn_of _ (by decide +kernel)) ggX4_perform_X4_moveBeside
set_option maxRecDepth 20000 in
theorem ggX4_perform_X4_moveFromCode : GoodIn wsX4_perform wsX4_moveFromCode := goodIn_r _ [237, 42, 238, 43, 44, 45, 46, 47, 48, 128, 129, 130, 35, 131, 132, 58, 15, 3, 16, 115, 116, 117, 118, 49, 50, 51, 52, 32, 33, 34, 36, 37, 297, 298, 299, 300, 301, 302, 303, 304, 305] (by decide +kernel) (by decide +kernel)
set_option maxRecDepth 20000 in
theorem gX4_perform_X4_moveFromCode : GoodIn wsX4_perform (wsV RX4 137 RX4 yX4_moveFromCode wsX4_moveFromCode) := goodIn_app (goodIn_of _ (by decide +kernel)) ggX4_perform_X4_moveFromCode
set_option maxRecDepth 20000 in
theorem ggX4_perform_X4_movePort : GoodIn wsX4_perform wsX4_movePort := goodIn_r _ [242, 42, 58, 15, 3, 16, 59, 60, 61, 46, 62, 48, 115, 116, 117, 118, 32, 33, 34, 35, 36, 37, 297, 298, 299, 300, 301, 302, 303, 304, 305] (by decide +kernel) (by decide +kernel)
set_option maxRecDepth 20000 in
theorem gX4_perform_X4_movePort : GoodIn wsX4_perform (wsV RX4 140 RX4 yX4_movePort wsX4_movePort) := goodIn_app (goodIn_of _ (by decide +kernel)) ggX4_perform_X4_movePort
set_option maxRecDepth 20000 in
theorem ggX4_perform_X4_setPortBit : GoodIn wsX4_perform wsX4_setPortBit := goodIn_r _ [246, 42, 247, 181, 182, 46, 183, 184, 60, 61, 62, 48, 185, 116, 117, 118, 32, 33, 34, 35, 36, 37, 297, 298, 299, 300, 301, 302, 303, 304, 305] (by decide +kernel) (by decide +kernel)
set_option maxRecDepth 20000 in
theorem gX4_perform_X4_setPortBit : GoodIn wsX4_perform (wsV RX4 143 RX4 yX4_setPortBit wsX4_setPortBit) := goodIn_app (goodIn_of _ (by decide +kernel)) ggX4_perform_X4_setPortBit
set_option maxRecDepth 20000 in
theorem ggX4_perform_X4_skipByPort : GoodIn wsX4_perform wsX4_skipByPort := goodIn_r _ [251, 42, 252, 253, 254, 46, 255, 48, 123, 124, 125, 35, 126, 37, 127, 32, 33, 34, 36, 128, 129, 130, 131, 132, 133, 134, 3, 135, 136, 137, 138, 139, 297, 298, 299, 300, 301, 302, 303, 304, 305] (by decide +kernel) (by decide +kernel)
set_option maxRecDepth 20000 in
theorem gX4_perform_X4_skipByPort : GoodIn wsX4_perform (wsV RX4 146 RX4 yX4_skipByPort wsX4_skipByPort) := goodIn_app (goodIn_of _ (by decide +kernel)) ggX4_perform_X4_skipByPort
set_option maxRecDepth 20000 in
theorem ggX4_perform_X4_skipByBit : GoodIn wsX4_perform wsX4_skipByBit := goodIn_r _ [259, 42, 58, 15, 3, 16, 252, 253, 254, 46, 255, 48, 123, 124, 125, 35, 126, 37, 127, 32, 33, 34, 36, 128, 129, 130, 131, 132, 133, 134, 135, 136, 137, 138, 139, 297, 298, 299, 300, 301, 302, 303, 304, 305] (by decide +kernel) (by decide +kernel)
set_option maxRecDepth 20000 in
theorem gX4_perform_X4_skipByBit : GoodIn wsX4_perform (wsV RX4 149 RX4 yX4_skipByBit wsX4_skipByBit) := goodIn_app (goodIn_of _ (by decide +kernel)) ggX4_perform_X4_skipByBit
set_option maxRecDepth 20000 in
theorem ggX4_perform_X4_moveBit : GoodIn wsX4_perform wsX4_moveBit := goodIn_r _ [263, 42, 58, 15, 3, 16, 99, 100, 101, 46, 102, 48, 247, 181, 182, 183, 184, 60, 61, 62, 185, 116, 117, 118, 252, 253, 254, 255, 176, 177, 178, 179, 180, 32, 33, 34, 35, 36, 37, 297, 298, 299, 300, 301, 302, 303, 304, 305] (by decide +kernel) (by decide +kernel)
set_option maxRecDepth 20000 in
theorem gX4_perform_X4_moveBit : GoodIn wsX4_perform (wsV RX4 152 RX4 yX4_moveBit wsX4_moveBit) := goodIn_app (goodIn_of _ (by decide +kernel)) ggX4_perform_X4_moveBit
set_option maxRecDepth 20000 in
theorem ggX4_perform_X4_jumpNear : GoodIn wsX4_perform wsX4_jumpNear := goodIn_r _ [267, 37, 268, 269, 270, 35, 271, 272, 273, 274, 275, 42, 127, 276, 277, 278, 46, 279, 224, 44, 45, 47, 48, 185, 116, 117, 118, 225, 50, 51, 52, 297, 298, 299, 300, 301, 302, 303, 304, 305] (by decide +kernel) (by decide +kernel)
set_option maxRecDepth 20000 in
theorem gX4_perform_X4_jumpNear : GoodIn wsX4_perform (wsV RX4 155 RX4 yX4_jumpNear wsX4_jumpNear) := goodIn_app (goodIn_of _ (by decide +kernel)) ggX4_perform_X4_jumpNear
set_option maxRecDepth 20000 in
theorem ggX4_perform_X4_branch : GoodIn wsX4_perform wsX4_branch := goodIn_r _ [283, 42, 99, 100, 101, 46, 102, 48, 32, 33, 34, 35, 36, 37, 297, 298, 299, 300, 301, 302, 303, 304, 305] (by decide +kernel) (by decide +kernel)
set_option maxRecDepth 20000 in
theorem gX4_perform_X4_branch : GoodIn wsX4_perform (wsV RX4 158 RX4 yX4_branch wsX4_branch) := goodIn_app (goodIn_of _ (by decide +kernel)) ggX4_perform_X4_branch
set_option maxRecDepth 20000 in
theorem ggX4_perform_X4_jumpFar : GoodIn wsX4_perform wsX4_jumpFar := goodIn_r _ [287, 37, 128, 129, 130, 35, 131, 132, 268, 269, 270, 271, 272, 273, 274, 275, 42, 127, 276, 277, 278, 46, 279, 224, 44, 45, 47, 48, 185, 116, 117, 118, 225, 50, 51, 52, 297, 298, 299, 300, 301, 302, 303, 304, 305] (by decide +kernel) (by decide +kernel)
set_option maxRecDepth 20000 in
theorem gX4_perform_X4_jumpFar : GoodIn wsX4_perform (wsV RX4 161 RX4 yX4_jumpFar wsX4_jumpFar) := goodIn_app (goodIn_of _ (by decide +kernel)) ggX4_perform_X4_jumpFar
set_option maxRecDepth 20000 in
theorem ggX4_perform_X4_jumpToZ : GoodIn wsX4_perform wsX4_jumpToZ := goodIn_r _ [291, 42, 37, 43, 44, 45, 46, 47, 48, 268, 269, 270, 35, 271, 272, 273, 274, 275, 127, 276, 277, 278, 279, 224, 185, 116, 117, 118, 225, 50, 51, 52, 297, 298, 299, 300, 301, 302, 303, 304, 305] (by decide +kernel) (by decide +kernel)
set_option maxRecDepth 20000 in
theorem gX4_perform_X4_jumpToZ : GoodIn wsX4_perform (wsV RX4 164 RX4 yX4_jumpToZ wsX4_jumpToZ) := goodIn_app (goodIn_of _ (by decide +kernel)) ggX4_perform_X4_jumpToZ
set_option maxRecDepth 20000 in
theorem ggX4_perform_X4_comeBack : GoodIn wsX4_perform wsX4_comeBack := goodIn_r _ [295, 42, 214, 296, 43, 44, 45, 46, 47, 48, 220, 221, 222, 223, 224, 225, 50, 51, 52, 184, 60, 61, 62, 176, 177, 178, 179, 180, 181, 182, 183, 185, 116, 117, 118, 268, 269, 270, 35, 271, 37, 297, 298, 299, 300, 301, 302, 303, 304, 305] (by decide +kernel) (by decide +kernel)
set_option maxRecDepth 20000 in
theorem gX4_perform_X4_comeBack : GoodIn wsX4_perform (wsV RX4 167 RX4 yX4_comeBack wsX4_comeBack) := goodIn_app (goodIn_of _ (by decide +kernel)) ggX4_perform_X4_comeBack
theorem dX4_perform_0 : decode cX4_perform 0 = .ok (.iload_n 1, 1) := by decide +kernel
theorem dX4_perform_1 : decode cX4_perform 1 = .ok (.invokestatic 69, 3) := by decide +kernel
theorem dX4_perform_4 : decode cX4_perform 4 = .ok (.tableswitch 246 1 23 #[108, 114, 120, 126, 132, 138, 144, 150, 156, 162, 168, 174, 180, 186, 192, 198, 204, 210, 216, 222, 228, 234, 240], 108) := by decide +kernel
theorem dX4_perform_112 : decode cX4_perform 112 = .ok (.aload_n 0, 1) := by decide +kernel
theorem dX4_perform_113 : decode cX4_perform 113 = .ok (.iconst 1, 1) := by decide +kernel
theorem dX4_perform_114 : decode cX4_perform 114 = .ok (.invokevirtual 102, 3) := by decide +kernel
theorem dX4_perform_117 : decode cX4_perform 117 = .ok (.ireturn, 1) := by decide +kernel
theorem dX4_perform_118 : decode cX4_perform 118 = .ok (.aload_n 0, 1) := by decide +kernel
theorem dX4_perform_119 : decode cX4_perform 119 = .ok (.iload_n 1, 1) := by decide +kernel
theorem dX4_perform_120 : decode cX4_perform 120 = .ok (.invokevirtual 105, 3) := by decide +kernel
theorem dX4_perform_123 : decode cX4_perform 123 = .ok (.ireturn, 1) := by decide +kernel
theorem dX4_perform_124 : decode cX4_perform 124 = .ok (.aload_n 0, 1) := by decide +kernel
theorem dX4_perform_125 : decode cX4_perform 125 = .ok (.iload_n 1, 1) := by decide +kernel
theorem dX4_perform_126 : decode cX4_perform 126 = .ok (.invokevirtual 108, 3) := by decide +kernel
theorem dX4_perform_129 : decode cX4_perform 129 = .ok (.ireturn, 1) := by decide +kernel
theorem dX4_perform_130 : decode cX4_perform 130 = .ok (.aload_n 0, 1) := by decide +kernel
theorem dX4_perform_131 : decode cX4_perform 131 = .ok (.iload_n 1, 1) := by decide +kernel
theorem dX4_perform_132 : decode cX4_perform 132 = .ok (.invokevirtual 111, 3) := by decide +kernel
theorem dX4_perform_135 : decode cX4_perform 135 = .ok (.ireturn, 1) := by decide +kernel
theorem dX4_perform_136 : decode cX4_perform 136 = .ok (.aload_n 0, 1) := by decide +kernel
theorem dX4_perform_137 : decode cX4_perform 137 = .ok (.iload_n 1, 1) := by decide +kernel
theorem dX4_perform_138 : decode cX4_perform 138 = .ok (.invokevirtual 114, 3) := by decide +kernel
theorem dX4_perform_141 : decode cX4_perform 141 = .ok (.ireturn, 1) := by decide +kernel
theorem dX4_perform_142 : decode cX4_perform 142 = .ok (.aload_n 0, 1) := by decide +kernel
theorem dX4_perform_143 : decode cX4_perform 143 = .ok (.iload_n 1, 1) := by decide +kernel
theorem dX4_perform_144 : decode cX4_perform 144 = .ok (.invokevirtual 117, 3) := by decide +kernel
theorem dX4_perform_147 : decode cX4_perform 147 = .ok (.ireturn, 1) := by decide +kernel
theorem dX4_perform_148 : decode cX4_perform 148 = .ok (.aload_n 0, 1) := by decide +kernel
theorem dX4_perform_149 : decode cX4_perform 149 = .ok (.iload_n 1, 1) := by decide +kernel
theorem dX4_perform_150 : decode cX4_perform 150 = .ok (.invokevirtual 120, 3) := by decide +kernel
theorem dX4_perform_153 : decode cX4_perform 153 = .ok (.ireturn, 1) := by decide +kernel
theorem dX4_perform_154 : decode cX4_perform 154 = .ok (.aload_n 0, 1) := by decide +kernel
theorem dX4_perform_155 : decode cX4_perform 155 = .ok (.iload_n 1, 1) := by decide +kernel
theorem dX4_perform_156 : decode cX4_perform 156 = .ok (.invokevirtual 122, 3) := by decide +kernel
theorem dX4_perform_159 : decode cX4_perform 159 = .ok (.ireturn, 1) := by decide +kernel
theorem dX4_perform_160 : decode cX4_perform 160 = .ok (.aload_n 0, 1) := by decide +kernel
theorem dX4_perform_161 : decode cX4_perform 161 = .ok (.iload_n 1, 1) := by decide +kernel
theorem dX4_perform_162 : decode cX4_perform 162 = .ok (.invokevirtual 125, 3) := by decide +kernel
theorem dX4_perform_165 : decode cX4_perform 165 = .ok (.ireturn, 1) := by decide +kernel
theorem dX4_perform_166 : decode cX4_perform 166 = .ok (.aload_n 0, 1) := by decide +kernel
theorem dX4_perform_167 : decode cX4_perform 167 = .ok (.iload_n 1, 1) := by decide +kernel
theorem dX4_perform_168 : decode cX4_perform 168 = .ok (.invokevirtual 128, 3) := by decide +kernel
theorem dX4_perform_171 : decode cX4_perform 171 = .ok (.ireturn, 1) := by decide +kernel
theorem dX4_perform_172 : decode cX4_perform 172 = .ok (.aload_n 0, 1) := by decide +kernel
theorem dX4_perform_173 : decode cX4_perform 173 = .ok (.iload_n 1, 1) := by decide +kernel
theorem dX4_perform_174 : decode cX4_perform 174 = .ok (.invokevirtual 131, 3) := by decide +kernel
theorem dX4_perform_177 : decode cX4_perform 177 = .ok (.ireturn, 1) := by decide +kernel
theorem dX4_perform_178 : decode cX4_perform 178 = .ok (.aload_n 0, 1) := by decide +kernel
theorem dX4_perform_179 : decode cX4_perform 179 = .ok (.iload_n 1, 1) := by decide +kernel
theorem dX4_perform_180 : decode cX4_perform 180 = .ok (.invokevirtual 134, 3) := by decide +kernel
theorem dX4_perform_183 : decode cX4_perform 183 = .ok (.ireturn, 1) := by decide +kernel
theorem dX4_perform_184 : decode cX4_perform 184 = .ok (.aload_n 0, 1) := by decide +kernel
theorem dX4_perform_185 : decode cX4_perform 185 = .ok (.iload_n 1, 1) := by decide +kernel
theorem dX4_perform_186 : decode cX4_perform 186 = .ok (.invokevirtual 137, 3) := by decide +kernel
theorem dX4_perform_189 : decode cX4_perform 189 = .ok (.ireturn, 1) := by decide +kernel
theorem dX4_perform_190 : decode cX4_perform 190 = .ok (.aload_n 0, 1) := by decide +kernel
theorem dX4_perform_191 : decode cX4_perform 191 = .ok (.iload_n 1, 1) := by decide +kernel
theorem dX4_perform_192 : decode cX4_perform 192 = .ok (.invokevirtual 140, 3) := by decide +kernel
theorem dX4_perform_195 : decode cX4_perform 195 = .ok (.ireturn, 1) := by decide +kernel
theorem dX4_perform_196 : decode cX4_perform 196 = .ok (.aload_n 0, 1) := by decide +kernel
theorem dX4_perform_197 : decode cX4_perform 197 = .ok (.iload_n 1, 1) := by decide +kernel
theorem dX4_perform_198 : decode cX4_perform 198 = .ok (.invokevirtual 143, 3) := by decide +kernel
theorem dX4_perform_201 : decode cX4_perform 201 = .ok (.ireturn, 1) := by decide +kernel
theorem dX4_perform_202 : decode cX4_perform 202 = .ok (.aload_n 0, 1) := by decide +kernel
theorem dX4_perform_203 : decode cX4_perform 203 = .ok (.iload_n 1, 1) := by decide +kernel
theorem dX4_perform_204 : decode cX4_perform 204 = .ok (.invokevirtual 146, 3) := by decide +kernel
theorem dX4_perform_207 : decode cX4_perform 207 = .ok (.ireturn, 1) := by decide +kernel
theorem dX4_perform_208 : decode cX4_perform 208 = .ok (.aload_n 0, 1) := by decide +kernel
theorem dX4_perform_209 : decode cX4_perform 209 = .ok (.iload_n 1, 1) := by decide +kernel
theorem dX4_perform_210 : decode cX4_perform 210 = .ok (.invokevirtual 149, 3) := by decide +kernel
theorem dX4_perform_213 : decode cX4_perform 213 = .ok (.ireturn, 1) := by decide +kernel
theorem dX4_perform_214 : decode cX4_perform 214 = .ok (.aload_n 0, 1) := by decide +kernel
theorem dX4_perform_215 : decode cX4_perform 215 = .ok (.iload_n 1, 1) := by decide +kernel
theorem dX4_perform_216 : decode cX4_perform 216 = .ok (.invokevirtual 152, 3) := by decide +kernel
theorem dX4_perform_219 : decode cX4_perform 219 = .ok (.ireturn, 1) := by decide +kernel
theorem dX4_perform_220 : decode cX4_perform 220 = .ok (.aload_n 0, 1) := by decide +kernel
theorem dX4_perform_221 : decode cX4_perform 221 = .ok (.iload_n 1, 1) := by decide +kernel
theorem dX4_perform_222 : decode cX4_perform 222 = .ok (.invokevirtual 155, 3) := by decide +kernel
theorem dX4_perform_225 : decode cX4_perform 225 = .ok (.ireturn, 1) := by decide +kernel
theorem dX4_perform_226 : decode cX4_perform 226 = .ok (.aload_n 0, 1) := by decide +kernel
theorem dX4_perform_227 : decode cX4_perform 227 = .ok (.iload_n 1, 1) := by decide +kernel
theorem dX4_perform_228 : decode cX4_perform 228 = .ok (.invokevirtual 158, 3) := by decide +kernel
theorem dX4_perform_231 : decode cX4_perform 231 = .ok (.ireturn, 1) := by decide +kernel
theorem dX4_perform_232 : decode cX4_perform 232 = .ok (.aload_n 0, 1) := by decide +kernel
theorem dX4_perform_233 : decode cX4_perform 233 = .ok (.iload_n 1, 1) := by decide +kernel
theorem dX4_perform_234 : decode cX4_perform 234 = .ok (.invokevirtual 161, 3) := by decide +kernel
theorem dX4_perform_237 : decode cX4_perform 237 = .ok (.ireturn, 1) := by decide +kernel
theorem dX4_perform_238 : decode cX4_perform 238 = .ok (.aload_n 0, 1) := by decide +kernel
theorem dX4_perform_239 : decode cX4_perform 239 = .ok (.iload_n 1, 1) := by decide +kernel
theorem dX4_perform_240 : decode cX4_perform 240 = .ok (.invokevirtual 164, 3) := by decide +kernel
theorem dX4_perform_243 : decode cX4_perform 243 = .ok (.ireturn, 1) := by decide +kernel
theorem dX4_perform_244 : decode cX4_perform 244 = .ok (.aload_n 0, 1) := by decide +kernel
theorem dX4_perform_245 : decode cX4_perform 245 = .ok (.iload_n 1, 1) := by decide +kernel
theorem dX4_perform_246 : decode cX4_perform 246 = .ok (.invokevirtual 167, 3) := by decide +kernel
theorem dX4_perform_249 : decode cX4_perform 249 = .ok (.ireturn, 1) := by decide +kernel
theorem dX4_perform_250 : decode cX4_perform 250 = .ok (.iconst 2, 1) := by decide +kernel
theorem dX4_perform_251 : decode cX4_perform 251 = .ok (.ireturn, 1) := by decide +kernel
theorem dX4_onward_0 : decode cX4_onward 0 = .ok (.aload_n 0, 1) := by decide +kernel
theorem dX4_onward_1 : decode cX4_onward 1 = .ok (.aload_n 0, 1) := by decide +kernel
theorem dX4_onward_2 : decode cX4_onward 2 = .ok (.getfield 32, 3) := by decide +kernel
theorem dX4_onward_5 : decode cX4_onward 5 = .ok (.iload_n 1, 1) := by decide +kernel
