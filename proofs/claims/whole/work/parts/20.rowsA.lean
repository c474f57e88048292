theorem dX0_init_0 : decode cX0_init 0 = .ok (.aload_n 0, 1) := by decide +kernel
theorem dX0_init_1 : decode cX0_init 1 = .ok (.invokespecial 3, 3) := by decide +kernel
theorem dX0_init_4 : decode cX0_init 4 = .ok (.aload_n 0, 1) := by decide +kernel
theorem dX0_init_5 : decode cX0_init 5 = .ok (.sipush 1024, 3) := by decide +kernel
theorem dX0_init_8 : decode cX0_init 8 = .ok (.newarray .int, 2) := by decide +kernel
theorem dX0_init_10 : decode cX0_init 10 = .ok (.putfield 9, 3) := by decide +kernel
theorem dX0_init_13 : decode cX0_init 13 = .ok (.return_, 1) := by decide +kernel
theorem dX0_get_0 : decode cX0_get 0 = .ok (.aload_n 0, 1) := by decide +kernel
theorem dX0_get_1 : decode cX0_get 1 = .ok (.getfield 9, 3) := by decide +kernel
theorem dX0_get_4 : decode cX0_get 4 = .ok (.iload_n 1, 1) := by decide +kernel
theorem dX0_get_5 : decode cX0_get 5 = .ok (.sipush 1023, 3) := by decide +kernel
theorem dX0_get_8 : decode cX0_get 8 = .ok (.iand, 1) := by decide +kernel
theorem dX0_get_9 : decode cX0_get 9 = .ok (.iaload, 1) := by decide +kernel
theorem dX0_get_10 : decode cX0_get 10 = .ok (.ireturn, 1) := by decide +kernel
theorem dX0_set_0 : decode cX0_set 0 = .ok (.aload_n 0, 1) := by decide +kernel
theorem dX0_set_1 : decode cX0_set 1 = .ok (.getfield 9, 3) := by decide +kernel
theorem dX0_set_4 : decode cX0_set 4 = .ok (.iload_n 1, 1) := by decide +kernel
theorem dX0_set_5 : decode cX0_set 5 = .ok (.sipush 1023, 3) := by decide +kernel
theorem dX0_set_8 : decode cX0_set 8 = .ok (.iand, 1) := by decide +kernel
theorem dX0_set_9 : decode cX0_set 9 = .ok (.iload_n 2, 1) := by decide +kernel
theorem dX0_set_10 : decode cX0_set 10 = .ok (.sipush 255, 3) := by decide +kernel
theorem dX0_set_13 : decode cX0_set 13 = .ok (.iand, 1) := by decide +kernel
theorem dX0_set_14 : decode cX0_set 14 = .ok (.iastore, 1) := by decide +kernel
theorem dX0_set_15 : decode cX0_set 15 = .ok (.return_, 1) := by decide +kernel
theorem dX0_signed_0 : decode cX0_signed 0 = .ok (.aload_n 0, 1) := by decide +kernel
theorem dX0_signed_1 : decode cX0_signed 1 = .ok (.getfield 9, 3) := by decide +kernel
theorem dX0_signed_4 : decode cX0_signed 4 = .ok (.iload_n 1, 1) := by decide +kernel
theorem dX0_signed_5 : decode cX0_signed 5 = .ok (.sipush 1023, 3) := by decide +kernel
theorem dX0_signed_8 : decode cX0_signed 8 = .ok (.iand, 1) := by decide +kernel
theorem dX0_signed_9 : decode cX0_signed 9 = .ok (.iaload, 1) := by decide +kernel
theorem dX0_signed_10 : decode cX0_signed 10 = .ok (.i2b, 1) := by decide +kernel
theorem dX0_signed_11 : decode cX0_signed 11 = .ok (.ireturn, 1) := by decide +kernel
theorem dX0_pair_0 : decode cX0_pair 0 = .ok (.aload_n 0, 1) := by decide +kernel
theorem dX0_pair_1 : decode cX0_pair 1 = .ok (.getfield 9, 3) := by decide +kernel
theorem dX0_pair_4 : decode cX0_pair 4 = .ok (.iload_n 1, 1) := by decide +kernel
theorem dX0_pair_5 : decode cX0_pair 5 = .ok (.sipush 1023, 3) := by decide +kernel
theorem dX0_pair_8 : decode cX0_pair 8 = .ok (.iand, 1) := by decide +kernel
theorem dX0_pair_9 : decode cX0_pair 9 = .ok (.iaload, 1) := by decide +kernel
theorem dX0_pair_10 : decode cX0_pair 10 = .ok (.aload_n 0, 1) := by decide +kernel
theorem dX0_pair_11 : decode cX0_pair 11 = .ok (.getfield 9, 3) := by decide +kernel
theorem dX0_pair_14 : decode cX0_pair 14 = .ok (.iload_n 1, 1) := by decide +kernel
theorem dX0_pair_15 : decode cX0_pair 15 = .ok (.iconst 1, 1) := by decide +kernel
theorem dX0_pair_16 : decode cX0_pair 16 = .ok (.iadd, 1) := by decide +kernel
theorem dX0_pair_17 : decode cX0_pair 17 = .ok (.sipush 1023, 3) := by decide +kernel
theorem dX0_pair_20 : decode cX0_pair 20 = .ok (.iand, 1) := by decide +kernel
theorem dX0_pair_21 : decode cX0_pair 21 = .ok (.iaload, 1) := by decide +kernel
theorem dX0_pair_22 : decode cX0_pair 22 = .ok (.bipush 8, 2) := by decide +kernel
theorem dX0_pair_24 : decode cX0_pair 24 = .ok (.ishl, 1) := by decide +kernel
theorem dX0_pair_25 : decode cX0_pair 25 = .ok (.ior, 1) := by decide +kernel
theorem dX0_pair_26 : decode cX0_pair 26 = .ok (.ireturn, 1) := by decide +kernel
theorem dX0_setPair_0 : decode cX0_setPair 0 = .ok (.aload_n 0, 1) := by decide +kernel
theorem dX0_setPair_1 : decode cX0_setPair 1 = .ok (.getfield 9, 3) := by decide +kernel
theorem dX0_setPair_4 : decode cX0_setPair 4 = .ok (.iload_n 1, 1) := by decide +kernel
theorem dX0_setPair_5 : decode cX0_setPair 5 = .ok (.sipush 1023, 3) := by decide +kernel
theorem dX0_setPair_8 : decode cX0_setPair 8 = .ok (.iand, 1) := by decide +kernel
theorem dX0_setPair_9 : decode cX0_setPair 9 = .ok (.iload_n 2, 1) := by decide +kernel
theorem dX0_setPair_10 : decode cX0_setPair 10 = .ok (.sipush 255, 3) := by decide +kernel
theorem dX0_setPair_13 : decode cX0_setPair 13 = .ok (.iand, 1) := by decide +kernel
theorem dX0_setPair_14 : decode cX0_setPair 14 = .ok (.iastore, 1) := by decide +kernel
theorem dX0_setPair_15 : decode cX0_setPair 15 = .ok (.aload_n 0, 1) := by decide +kernel
theorem dX0_setPair_16 : decode cX0_setPair 16 = .ok (.getfield 9, 3) := by decide +kernel
theorem dX0_setPair_19 : decode cX0_setPair 19 = .ok (.iload_n 1, 1) := by decide +kernel
theorem dX0_setPair_20 : decode cX0_setPair 20 = .ok (.iconst 1, 1) := by decide +kernel
theorem dX0_setPair_21 : decode cX0_setPair 21 = .ok (.iadd, 1) := by decide +kernel
theorem dX0_setPair_22 : decode cX0_setPair 22 = .ok (.sipush 1023, 3) := by decide +kernel
theorem dX0_setPair_25 : decode cX0_setPair 25 = .ok (.iand, 1) := by decide +kernel
theorem dX0_setPair_26 : decode cX0_setPair 26 = .ok (.iload_n 2, 1) := by decide +kernel
theorem dX0_setPair_27 : decode cX0_setPair 27 = .ok (.bipush 8, 2) := by decide +kernel
theorem dX0_setPair_29 : decode cX0_setPair 29 = .ok (.ishr, 1) := by decide +kernel
theorem dX0_setPair_30 : decode cX0_setPair 30 = .ok (.sipush 255, 3) := by decide +kernel
theorem dX0_setPair_33 : decode cX0_setPair 33 = .ok (.iand, 1) := by decide +kernel
theorem dX0_setPair_34 : decode cX0_setPair 34 = .ok (.iastore, 1) := by decide +kernel
theorem dX0_setPair_35 : decode cX0_setPair 35 = .ok (.return_, 1) := by decide +kernel
theorem dX0_bit_0 : decode cX0_bit 0 = .ok (.aload_n 0, 1) := by decide +kernel
theorem dX0_bit_1 : decode cX0_bit 1 = .ok (.getfield 9, 3) := by decide +kernel
theorem dX0_bit_4 : decode cX0_bit 4 = .ok (.iload_n 1, 1) := by decide +kernel
theorem dX0_bit_5 : decode cX0_bit 5 = .ok (.sipush 1023, 3) := by decide +kernel
theorem dX0_bit_8 : decode cX0_bit 8 = .ok (.iand, 1) := by decide +kernel
theorem dX0_bit_9 : decode cX0_bit 9 = .ok (.iaload, 1) := by decide +kernel
theorem dX0_bit_10 : decode cX0_bit 10 = .ok (.iload_n 2, 1) := by decide +kernel
theorem dX0_bit_11 : decode cX0_bit 11 = .ok (.ishr, 1) := by decide +kernel
theorem dX0_bit_12 : decode cX0_bit 12 = .ok (.iconst 1, 1) := by decide +kernel
theorem dX0_bit_13 : decode cX0_bit 13 = .ok (.iand, 1) := by decide +kernel
theorem dX0_bit_14 : decode cX0_bit 14 = .ok (.ireturn, 1) := by decide +kernel
set_option maxRecDepth 20000 in
theorem ggX0_setBit_X0_get : GoodIn wsX0_setBit wsX0_get := goodIn_r _ [5, 6, 11] (by decide +kernel) (by decide +kernel)
set_option maxRecDepth 20000 in
theorem gX0_setBit_X0_get : GoodIn wsX0_setBit (wsV RX0 15 RX0 yX0_get wsX0_get) := goodIn_app (goodIn_of _ (by decide +kernel)) ggX0_setBit_X0_get
set_option maxRecDepth 20000 in
theorem ggX0_setBit_X0_set : GoodIn wsX0_setBit wsX0_set := goodIn_r _ [10, 6, 11] (by decide +kernel) (by decide +kernel)
set_option maxRecDepth 20000 in
theorem gX0_setBit_X0_set : GoodIn wsX0_setBit (wsV RX0 19 RX0 yX0_set wsX0_set) := goodIn_app (goodIn_of _ (by decide +kernel)) ggX0_setBit_X0_set
theorem dX0_setBit_0 : decode cX0_setBit 0 = .ok (.aload_n 0, 1) := by decide +kernel
theorem dX0_setBit_1 : decode cX0_setBit 1 = .ok (.iload_n 1, 1) := by decide +kernel
theorem dX0_setBit_2 : decode cX0_setBit 2 = .ok (.aload_n 0, 1) := by decide +kernel
theorem dX0_setBit_3 : decode cX0_setBit 3 = .ok (.iload_n 1, 1) := by decide +kernel
theorem dX0_setBit_4 : decode cX0_setBit 4 = .ok (.invokevirtual 15, 3) := by decide +kernel
theorem dX0_setBit_7 : decode cX0_setBit 7 = .ok (.iconst 1, 1) := by decide +kernel
theorem dX0_setBit_8 : decode cX0_setBit 8 = .ok (.iload_n 2, 1) := by decide +kernel
theorem dX0_setBit_9 : decode cX0_setBit 9 = .ok (.ishl, 1) := by decide +kernel
theorem dX0_setBit_10 : decode cX0_setBit 10 = .ok (.iconst (-1), 1) := by decide +kernel
theorem dX0_setBit_11 : decode cX0_setBit 11 = .ok (.ixor, 1) := by decide +kernel
theorem dX0_setBit_12 : decode cX0_setBit 12 = .ok (.iand, 1) := by decide +kernel
theorem dX0_setBit_13 : decode cX0_setBit 13 = .ok (.iload_n 3, 1) := by decide +kernel
theorem dX0_setBit_14 : decode cX0_setBit 14 = .ok (.iload_n 2, 1) := by decide +kernel
theorem dX0_setBit_15 : decode cX0_setBit 15 = .ok (.ishl, 1) := by decide +kernel
theorem dX0_setBit_16 : decode cX0_setBit 16 = .ok (.ior, 1) := by decide +kernel
theorem dX0_setBit_17 : decode cX0_setBit 17 = .ok (.invokevirtual 19, 3) := by decide +kernel
theorem dX0_setBit_20 : decode cX0_setBit 20 = .ok (.return_, 1) := by decide +kernel
theorem dX0_flag_0 : decode cX0_flag 0 = .ok (.aload_n 0, 1) := by decide +kernel
theorem dX0_flag_1 : decode cX0_flag 1 = .ok (.getfield 9, 3) := by decide +kernel
theorem dX0_flag_4 : decode cX0_flag 4 = .ok (.bipush 95, 2) := by decide +kernel
theorem dX0_flag_6 : decode cX0_flag 6 = .ok (.iaload, 1) := by decide +kernel
theorem dX0_flag_7 : decode cX0_flag 7 = .ok (.iload_n 1, 1) := by decide +kernel
theorem dX0_flag_8 : decode cX0_flag 8 = .ok (.ishr, 1) := by decide +kernel
theorem dX0_flag_9 : decode cX0_flag 9 = .ok (.iconst 1, 1) := by decide +kernel
theorem dX0_flag_10 : decode cX0_flag 10 = .ok (.iand, 1) := by decide +kernel
theorem dX0_flag_11 : decode cX0_flag 11 = .ok (.ireturn, 1) := by decide +kernel
set_option maxRecDepth 20000 in
theorem ggX0_setFlag_X0_setBit : GoodIn wsX0_setFlag wsX0_setBit := goodIn_r _ [5, 6, 7, 8, 4, 9, 10, 11, 12, 13, 14, 15] (by decide +kernel) (by decide +kernel)
set_option maxRecDepth 20000 in
theorem gX0_setFlag_X0_setBit : GoodIn wsX0_setFlag (wsV RX0 23 RX0 yX0_setBit wsX0_setBit) := goodIn_app (goodIn_of _ (by decide +kernel)) ggX0_setFlag_X0_setBit
theorem dX0_setFlag_0 : decode cX0_setFlag 0 = .ok (.aload_n 0, 1) := by decide +kernel
theorem dX0_setFlag_1 : decode cX0_setFlag 1 = .ok (.bipush 95, 2) := by decide +kernel
theorem dX0_setFlag_3 : decode cX0_setFlag 3 = .ok (.iload_n 1, 1) := by decide +kernel
theorem dX0_setFlag_4 : decode cX0_setFlag 4 = .ok (.iload_n 2, 1) := by decide +kernel
theorem dX0_setFlag_5 : decode cX0_setFlag 5 = .ok (.invokevirtual 23, 3) := by decide +kernel
theorem dX0_setFlag_8 : decode cX0_setFlag 8 = .ok (.return_, 1) := by decide +kernel
theorem dX0_setFlags_0 : decode cX0_setFlags 0 = .ok (.aload_n 0, 1) := by decide +kernel
theorem dX0_setFlags_1 : decode cX0_setFlags 1 = .ok (.getfield 9, 3) := by decide +kernel
theorem dX0_setFlags_4 : decode cX0_setFlags 4 = .ok (.bipush 95, 2) := by decide +kernel
theorem dX0_setFlags_6 : decode cX0_setFlags 6 = .ok (.aload_n 0, 1) := by decide +kernel
theorem dX0_setFlags_7 : decode cX0_setFlags 7 = .ok (.getfield 9, 3) := by decide +kernel
theorem dX0_setFlags_10 : decode cX0_setFlags 10 = .ok (.bipush 95, 2) := by decide +kernel
theorem dX0_setFlags_12 : decode cX0_setFlags 12 = .ok (.iaload, 1) := by decide +kernel
theorem dX0_setFlags_13 : decode cX0_setFlags 13 = .ok (.iload_n 1, 1) := by decide +kernel
theorem dX0_setFlags_14 : decode cX0_setFlags 14 = .ok (.iconst (-1), 1) := by decide +kernel
theorem dX0_setFlags_15 : decode cX0_setFlags 15 = .ok (.ixor, 1) := by decide +kernel
theorem dX0_setFlags_16 : decode cX0_setFlags 16 = .ok (.iand, 1) := by decide +kernel
theorem dX0_setFlags_17 : decode cX0_setFlags 17 = .ok (.iload_n 2, 1) := by decide +kernel
theorem dX0_setFlags_18 : decode cX0_setFlags 18 = .ok (.iload_n 1, 1) := by decide +kernel
theorem dX0_setFlags_19 : decode cX0_setFlags 19 = .ok (.iand, 1) := by decide +kernel
theorem dX0_setFlags_20 : decode cX0_setFlags 20 = .ok (.ior, 1) := by decide +kernel
theorem dX0_setFlags_21 : decode cX0_setFlags 21 = .ok (.iastore, 1) := by decide +kernel
theorem dX0_setFlags_22 : decode cX0_setFlags 22 = .ok (.return_, 1) := by decide +kernel
set_option maxRecDepth 20000 in
theorem ggX0_push_X0_pair : GoodIn wsX0_push wsX0_pair := goodIn_r _ [5, 6, 15] (by decide +kernel) (by decide +kernel)
set_option maxRecDepth 20000 in
theorem gX0_push_X0_pair : GoodIn wsX0_push (wsV RX0 27 RX0 yX0_pair wsX0_pair) := goodIn_app (goodIn_of _ (by decide +kernel)) ggX0_push_X0_pair
set_option maxRecDepth 20000 in
theorem ggX0_push_X0_set : GoodIn wsX0_push wsX0_set := goodIn_r _ [10, 6, 15] (by decide +kernel) (by decide +kernel)
set_option maxRecDepth 20000 in
theorem gX0_push_X0_set : GoodIn wsX0_push (wsV RX0 19 RX0 yX0_set wsX0_set) := goodIn_app (goodIn_of _ (by decide +kernel)) ggX0_push_X0_set
set_option maxRecDepth 20000 in
theorem ggX0_push_X0_setPair : GoodIn wsX0_push wsX0_setPair := goodIn_r _ [14, 6, 15] (by decide +kernel) (by decide +kernel)
set_option maxRecDepth 20000 in
theorem gX0_push_X0_setPair : GoodIn wsX0_push (wsV RX0 30 RX0 yX0_setPair wsX0_setPair) := goodIn_app (goodIn_of _ (by decide +kernel)) ggX0_push_X0_setPair
theorem dX0_push_0 : decode cX0_push 0 = .ok (.aload_n 0, 1) := by decide +kernel
theorem dX0_push_1 : decode cX0_push 1 = .ok (.bipush 93, 2) := by decide +kernel
theorem dX0_push_3 : decode cX0_push 3 = .ok (.invokevirtual 27, 3) := by decide +kernel
theorem dX0_push_6 : decode cX0_push 6 = .ok (.istore_n 2, 1) := by decide +kernel
theorem dX0_push_7 : decode cX0_push 7 = .ok (.aload_n 0, 1) := by decide +kernel
theorem dX0_push_8 : decode cX0_push 8 = .ok (.iload_n 2, 1) := by decide +kernel
theorem dX0_push_9 : decode cX0_push 9 = .ok (.iload_n 1, 1) := by decide +kernel
theorem dX0_push_10 : decode cX0_push 10 = .ok (.invokevirtual 19, 3) := by decide +kernel
theorem dX0_push_13 : decode cX0_push 13 = .ok (.aload_n 0, 1) := by decide +kernel
theorem dX0_push_14 : decode cX0_push 14 = .ok (.bipush 93, 2) := by decide +kernel
theorem dX0_push_16 : decode cX0_push 16 = .ok (.iload_n 2, 1) := by decide +kernel
theorem dX0_push_17 : decode cX0_push 17 = .ok (.iconst 1, 1) := by decide +kernel
theorem dX0_push_18 : decode cX0_push 18 = .ok (.isub, 1) := by decide +kernel
theorem dX0_push_19 : decode cX0_push 19 = .ok (.invokevirtual 30, 3) := by decide +kernel
theorem dX0_push_22 : decode cX0_push 22 = .ok (.return_, 1) := by decide +kernel
set_option maxRecDepth 20000 in
theorem ggX0_stacks_X0_pair : GoodIn wsX0_stacks wsX0_pair := goodIn_r _ [5, 6, 15] (by decide +kernel) (by decide +kernel)
set_option maxRecDepth 20000 in
theorem gX0_stacks_X0_pair : GoodIn wsX0_stacks (wsV RX0 27 RX0 yX0_pair wsX0_pair) := goodIn_app (goodIn_of _ (by decide +kernel)) ggX0_stacks_X0_pair
set_option maxRecDepth 20000 in
theorem ggX0_stacks_X0_set : GoodIn wsX0_stacks wsX0_set := goodIn_r _ [10, 6, 15] (by decide +kernel) (by decide +kernel)
set_option maxRecDepth 20000 in
theorem gX0_stacks_X0_set : GoodIn wsX0_stacks (wsV RX0 19 RX0 yX0_set wsX0_set) := goodIn_app (goodIn_of _ (by decide +kernel)) ggX0_stacks_X0_set
set_option maxRecDepth 20000 in
theorem ggX0_stacks_X0_setPair : GoodIn wsX0_stacks wsX0_setPair := goodIn_r _ [14, 6, 15] (by decide +kernel) (by decide +kernel)
set_option maxRecDepth 20000 in
theorem gX0_stacks_X0_setPair : GoodIn wsX0_stacks (wsV RX0 30 RX0 yX0_setPair wsX0_setPair) := goodIn_app (goodIn_of _ (by decide +kernel)) ggX0_stacks_X0_setPair
theorem dX0_stacks_0 : decode cX0_stacks 0 = .ok (.aload_n 0, 1) := by decide +kernel
theorem dX0_stacks_1 : decode cX0_stacks 1 = .ok (.bipush 93, 2) := by decide +kernel
theorem dX0_stacks_3 : decode cX0_stacks 3 = .ok (.invokevirtual 27, 3) := by decide +kernel
theorem dX0_stacks_6 : decode cX0_stacks 6 = .ok (.istore_n 2, 1) := by decide +kernel
theorem dX0_stacks_7 : decode cX0_stacks 7 = .ok (.iload_n 2, 1) := by decide +kernel
theorem dX0_stacks_8 : decode cX0_stacks 8 = .ok (.iconst 1, 1) := by decide +kernel
theorem dX0_stacks_9 : decode cX0_stacks 9 = .ok (.if_icmp .lt 10, 3) := by decide +kernel
theorem dX0_stacks_12 : decode cX0_stacks 12 = .ok (.iload_n 2, 1) := by decide +kernel
theorem dX0_stacks_13 : decode cX0_stacks 13 = .ok (.sipush 1023, 3) := by decide +kernel
theorem dX0_stacks_16 : decode cX0_stacks 16 = .ok (.if_icmp .le 5, 3) := by decide +kernel
theorem dX0_stacks_19 : decode cX0_stacks 19 = .ok (.iconst 0, 1) := by decide +kernel
theorem dX0_stacks_20 : decode cX0_stacks 20 = .ok (.ireturn, 1) := by decide +kernel
theorem dX0_stacks_21 : decode cX0_stacks 21 = .ok (.aload_n 0, 1) := by decide +kernel
theorem dX0_stacks_22 : decode cX0_stacks 22 = .ok (.iload_n 2, 1) := by decide +kernel
theorem dX0_stacks_23 : decode cX0_stacks 23 = .ok (.iload_n 1, 1) := by decide +kernel
theorem dX0_stacks_24 : decode cX0_stacks 24 = .ok (.invokevirtual 19, 3) := by decide +kernel
theorem dX0_stacks_27 : decode cX0_stacks 27 = .ok (.aload_n 0, 1) := by decide +kernel
theorem dX0_stacks_28 : decode cX0_stacks 28 = .ok (.iload_n 2, 1) := by decide +kernel
theorem dX0_stacks_29 : decode cX0_stacks 29 = .ok (.iconst 1, 1) := by decide +kernel
theorem dX0_stacks_30 : decode cX0_stacks 30 = .ok (.isub, 1) := by decide +kernel
theorem dX0_stacks_31 : decode cX0_stacks 31 = .ok (.iload_n 1, 1) := by decide +kernel
theorem dX0_stacks_32 : decode cX0_stacks 32 = .ok (.bipush 8, 2) := by decide +kernel
theorem dX0_stacks_34 : decode cX0_stacks 34 = .ok (.ishr, 1) := by decide +kernel
theorem dX0_stacks_35 : decode cX0_stacks 35 = .ok (.invokevirtual 19, 3) := by decide +kernel
theorem dX0_stacks_38 : decode cX0_stacks 38 = .ok (.aload_n 0, 1) := by decide +kernel
theorem dX0_stacks_39 : decode cX0_stacks 39 = .ok (.bipush 93, 2) := by decide +kernel
theorem dX0_stacks_41 : decode cX0_stacks 41 = .ok (.iload_n 2, 1) := by decide +kernel
theorem dX0_stacks_42 : decode cX0_stacks 42 = .ok (.iconst 2, 1) := by decide +kernel
theorem dX0_stacks_43 : decode cX0_stacks 43 = .ok (.isub, 1) := by decide +kernel
theorem dX0_stacks_44 : decode cX0_stacks 44 = .ok (.invokevirtual 30, 3) := by decide +kernel
theorem dX0_stacks_47 : decode cX0_stacks 47 = .ok (.iconst 1, 1) := by decide +kernel
theorem dX0_stacks_48 : decode cX0_stacks 48 = .ok (.ireturn, 1) := by decide +kernel
set_option maxRecDepth 20000 in
theorem ggX0_pull_X0_pair : GoodIn wsX0_pull wsX0_pair := goodIn_r _ [5, 6, 15] (by decide +kernel) (by decide +kernel)
set_option maxRecDepth 20000 in
theorem gX0_pull_X0_pair : GoodIn wsX0_pull (wsV RX0 27 RX0 yX0_pair wsX0_pair) := goodIn_app (goodIn_of _ (by decide +kernel)) ggX0_pull_X0_pair
set_option maxRecDepth 20000 in
theorem ggX0_pull_X0_setPair : GoodIn wsX0_pull wsX0_setPair := goodIn_r _ [10, 6, 15] (by decide +kernel) (by decide +kernel)
set_option maxRecDepth 20000 in
theorem gX0_pull_X0_setPair : GoodIn wsX0_pull (wsV RX0 30 RX0 yX0_setPair wsX0_setPair) := goodIn_app (goodIn_of _ (by decide +kernel)) ggX0_pull_X0_setPair
set_option maxRecDepth 20000 in
theorem ggX0_pull_X0_get : GoodIn wsX0_pull wsX0_get := goodIn_r _ [14, 6, 15] (by decide +kernel) (by decide +kernel)
set_option maxRecDepth 20000 in
theorem gX0_pull_X0_get : GoodIn wsX0_pull (wsV RX0 15 RX0 yX0_get wsX0_get) := goodIn_app (goodIn_of _ (by decide +kernel)) ggX0_pull_X0_get
theorem dX0_pull_0 : decode cX0_pull 0 = .ok (.aload_n 0, 1) := by decide +kernel
theorem dX0_pull_1 : decode cX0_pull 1 = .ok (.bipush 93, 2) := by decide +kernel
theorem dX0_pull_3 : decode cX0_pull 3 = .ok (.invokevirtual 27, 3) := by decide +kernel
theorem dX0_pull_6 : decode cX0_pull 6 = .ok (.iconst 1, 1) := by decide +kernel
theorem dX0_pull_7 : decode cX0_pull 7 = .ok (.iadd, 1) := by decide +kernel
theorem dX0_pull_8 : decode cX0_pull 8 = .ok (.istore_n 1, 1) := by decide +kernel
theorem dX0_pull_9 : decode cX0_pull 9 = .ok (.aload_n 0, 1) := by decide +kernel
theorem dX0_pull_10 : decode cX0_pull 10 = .ok (.bipush 93, 2) := by decide +kernel
theorem dX0_pull_12 : decode cX0_pull 12 = .ok (.iload_n 1, 1) := by decide +kernel
theorem dX0_pull_13 : decode cX0_pull 13 = .ok (.invokevirtual 30, 3) := by decide +kernel
theorem dX0_pull_16 : decode cX0_pull 16 = .ok (.aload_n 0, 1) := by decide +kernel
theorem dX0_pull_17 : decode cX0_pull 17 = .ok (.iload_n 1, 1) := by decide +kernel
theorem dX0_pull_18 : decode cX0_pull 18 = .ok (.invokevirtual 15, 3) := by decide +kernel
theorem dX0_pull_21 : decode cX0_pull 21 = .ok (.ireturn, 1) := by decide +kernel
theorem dX2_init_0 : decode cX2_init 0 = .ok (.aload_n 0, 1) := by decide +kernel
theorem dX2_init_1 : decode cX2_init 1 = .ok (.invokespecial 7, 3) := by decide +kernel
theorem dX2_init_4 : decode cX2_init 4 = .ok (.aload_n 0, 1) := by decide +kernel
theorem dX2_init_5 : decode cX2_init 5 = .ok (.aload_n 1, 1) := by decide +kernel
theorem dX2_init_6 : decode cX2_init 6 = .ok (.putfield 13, 3) := by decide +kernel
theorem dX2_init_9 : decode cX2_init 9 = .ok (.return_, 1) := by decide +kernel
set_option maxRecDepth 20000 in
theorem ggX2_sum_X2_signs : GoodIn wsX2_sum wsX2_signs := goodIn_r _ [5] (by decide +kernel) (by decide +kernel)
set_option maxRecDepth 20000 in
theorem gX2_sum_X2_signs : GoodIn wsX2_sum (va_wsS RX2 17 yX2_signs wsX2_signs) := goodIn_app (goodIn_of _ (by decide +kernel)) ggX2_sum_X2_signs
set_option maxRecDepth 20000 in
theorem ggX2_sum_X0_setFlags : GoodIn wsX2_sum wsX0_setFlags := goodIn_r _ [10, 11, 13] (by decide +kernel) (by decide +kernel)
set_option maxRecDepth 20000 in
theorem gX2_sum_X0_setFlags : GoodIn wsX2_sum (wsV RX2 21 RX0 yX0_setFlags wsX0_setFlags) := goodIn_app (goodIn_of _ (by decide +kernel)) ggX2_sum_X0_setFlags
theorem dX2_sum_0 : decode cX2_sum 0 = .ok (.iload_n 1, 1) := by decide +kernel
theorem dX2_sum_1 : decode cX2_sum 1 = .ok (.iload_n 2, 1) := by decide +kernel
theorem dX2_sum_2 : decode cX2_sum 2 = .ok (.iadd, 1) := by decide +kernel
theorem dX2_sum_3 : decode cX2_sum 3 = .ok (.iload_n 3, 1) := by decide +kernel
theorem dX2_sum_4 : decode cX2_sum 4 = .ok (.iadd, 1) := by decide +kernel
theorem dX2_sum_5 : decode cX2_sum 5 = .ok (.istore 4, 2) := by decide +kernel
theorem dX2_sum_7 : decode cX2_sum 7 = .ok (.iload 4, 2) := by decide +kernel
theorem dX2_sum_9 : decode cX2_sum 9 = .ok (.sipush 255, 3) := by decide +kernel
theorem dX2_sum_12 : decode cX2_sum 12 = .ok (.iand, 1) := by decide +kernel
theorem dX2_sum_13 : decode cX2_sum 13 = .ok (.istore 5, 2) := by decide +kernel
theorem dX2_sum_15 : decode cX2_sum 15 = .ok (.iload_n 1, 1) := by decide +kernel
theorem dX2_sum_16 : decode cX2_sum 16 = .ok (.bipush 15, 2) := by decide +kernel
theorem dX2_sum_18 : decode cX2_sum 18 = .ok (.iand, 1) := by decide +kernel
theorem dX2_sum_19 : decode cX2_sum 19 = .ok (.iload_n 2, 1) := by decide +kernel
theorem dX2_sum_20 : decode cX2_sum 20 = .ok (.bipush 15, 2) := by decide +kernel
theorem dX2_sum_22 : decode cX2_sum 22 = .ok (.iand, 1) := by decide +kernel
theorem dX2_sum_23 : decode cX2_sum 23 = .ok (.iadd, 1) := by decide +kernel
theorem dX2_sum_24 : decode cX2_sum 24 = .ok (.iload_n 3, 1) := by decide +kernel
theorem dX2_sum_25 : decode cX2_sum 25 = .ok (.iadd, 1) := by decide +kernel
theorem dX2_sum_26 : decode cX2_sum 26 = .ok (.istore 6, 2) := by decide +kernel
theorem dX2_sum_28 : decode cX2_sum 28 = .ok (.iload_n 1, 1) := by decide +kernel
theorem dX2_sum_29 : decode cX2_sum 29 = .ok (.iload 5, 2) := by decide +kernel
theorem dX2_sum_31 : decode cX2_sum 31 = .ok (.ixor, 1) := by decide +kernel
theorem dX2_sum_32 : decode cX2_sum 32 = .ok (.iload_n 2, 1) := by decide +kernel
theorem dX2_sum_33 : decode cX2_sum 33 = .ok (.iload 5, 2) := by decide +kernel
theorem dX2_sum_35 : decode cX2_sum 35 = .ok (.ixor, 1) := by decide +kernel
theorem dX2_sum_36 : decode cX2_sum 36 = .ok (.iand, 1) := by decide +kernel
theorem dX2_sum_37 : decode cX2_sum 37 = .ok (.sipush 128, 3) := by decide +kernel
theorem dX2_sum_40 : decode cX2_sum 40 = .ok (.iand, 1) := by decide +kernel
theorem dX2_sum_41 : decode cX2_sum 41 = .ok (.ifCond .eq 7, 3) := by decide +kernel
theorem dX2_sum_44 : decode cX2_sum 44 = .ok (.iconst 1, 1) := by decide +kernel
theorem dX2_sum_45 : decode cX2_sum 45 = .ok (.goto 4, 3) := by decide +kernel
theorem dX2_sum_48 : decode cX2_sum 48 = .ok (.iconst 0, 1) := by decide +kernel
theorem dX2_sum_49 : decode cX2_sum 49 = .ok (.istore 7, 2) := by decide +kernel
theorem dX2_sum_51 : decode cX2_sum 51 = .ok (.aload_n 0, 1) := by decide +kernel
theorem dX2_sum_52 : decode cX2_sum 52 = .ok (.getfield 13, 3) := by decide +kernel
theorem dX2_sum_55 : decode cX2_sum 55 = .ok (.bipush 63, 2) := by decide +kernel
theorem dX2_sum_57 : decode cX2_sum 57 = .ok (.iload 5, 2) := by decide +kernel
theorem dX2_sum_59 : decode cX2_sum 59 = .ok (.iload 7, 2) := by decide +kernel
theorem dX2_sum_61 : decode cX2_sum 61 = .ok (.invokestatic 17, 3) := by decide +kernel
theorem dX2_sum_64 : decode cX2_sum 64 = .ok (.iload 4, 2) := by decide +kernel
theorem dX2_sum_66 : decode cX2_sum 66 = .ok (.sipush 255, 3) := by decide +kernel
theorem dX2_sum_69 : decode cX2_sum 69 = .ok (.if_icmp .le 7, 3) := by decide +kernel
theorem dX2_sum_72 : decode cX2_sum 72 = .ok (.iconst 1, 1) := by decide +kernel
theorem dX2_sum_73 : decode cX2_sum 73 = .ok (.goto 4, 3) := by decide +kernel
theorem dX2_sum_76 : decode cX2_sum 76 = .ok (.iconst 0, 1) := by decide +kernel
theorem dX2_sum_77 : decode cX2_sum 77 = .ok (.ior, 1) := by decide +kernel
theorem dX2_sum_78 : decode cX2_sum 78 = .ok (.iload 6, 2) := by decide +kernel
theorem dX2_sum_80 : decode cX2_sum 80 = .ok (.bipush 15, 2) := by decide +kernel
theorem dX2_sum_82 : decode cX2_sum 82 = .ok (.if_icmp .le 8, 3) := by decide +kernel
theorem dX2_sum_85 : decode cX2_sum 85 = .ok (.bipush 32, 2) := by decide +kernel
theorem dX2_sum_87 : decode cX2_sum 87 = .ok (.goto 4, 3) := by decide +kernel
theorem dX2_sum_90 : decode cX2_sum 90 = .ok (.iconst 0, 1) := by decide +kernel
theorem dX2_sum_91 : decode cX2_sum 91 = .ok (.ior, 1) := by decide +kernel
theorem dX2_sum_92 : decode cX2_sum 92 = .ok (.invokevirtual 21, 3) := by decide +kernel
theorem dX2_sum_95 : decode cX2_sum 95 = .ok (.iload 5, 2) := by decide +kernel
theorem dX2_sum_97 : decode cX2_sum 97 = .ok (.ireturn, 1) := by decide +kernel
set_option maxRecDepth 20000 in
theorem ggX2_difference_X2_subtract : GoodIn wsX2_difference wsX2_subtract := goodIn_r _ [5, 6, 7, 8, 4, 9, 10, 11, 12, 13, 14, 15, 16, 17] (by decide +kernel) (by decide +kernel)
set_option maxRecDepth 20000 in
theorem gX2_difference_X2_subtract : GoodIn wsX2_difference (wsV RX2 27 RX2 yX2_subtract wsX2_subtract) := goodIn_app (goodIn_of _ (by decide +kernel)) ggX2_difference_X2_subtract
theorem dX2_difference_0 : decode cX2_difference 0 = .ok (.aload_n 0, 1) := by decide +kernel
theorem dX2_difference_1 : decode cX2_difference 1 = .ok (.iload_n 1, 1) := by decide +kernel
theorem dX2_difference_2 : decode cX2_difference 2 = .ok (.iload_n 2, 1) := by decide +kernel
theorem dX2_difference_3 : decode cX2_difference 3 = .ok (.iconst 0, 1) := by decide +kernel
theorem dX2_difference_4 : decode cX2_difference 4 = .ok (.bipush 30, 2) := by decide +kernel
theorem dX2_difference_6 : decode cX2_difference 6 = .ok (.invokevirtual 27, 3) := by decide +kernel
theorem dX2_difference_9 : decode cX2_difference 9 = .ok (.ireturn, 1) := by decide +kernel
set_option maxRecDepth 20000 in
theorem ggX2_differenceOn_X0_flag : GoodIn wsX2_differenceOn wsX0_flag := goodIn_r _ [6, 7, 21] (by decide +kernel) (by decide +kernel)
set_option maxRecDepth 20000 in
theorem gX2_differenceOn_X0_flag : GoodIn wsX2_differenceOn (wsV RX2 31 RX0 yX0_flag wsX0_flag) := goodIn_app (goodIn_of _ (by decide +kernel)) ggX2_differenceOn_X0_flag
set_option maxRecDepth 20000 in
theorem ggX2_differenceOn_X2_subtract : GoodIn wsX2_differenceOn wsX2_subtract := goodIn_r _ [12, 1, 13, 14, 11, 15, 16, 17, 18, 5, 19, 7, 20, 21] (by decide +kernel) (by decide +kernel)
set_option maxRecDepth 20000 in
theorem gX2_differenceOn_X2_subtract : GoodIn wsX2_differenceOn (wsV RX2 27 RX2 yX2_subtract wsX2_subtract) := goodIn_app (goodIn_of _ (by decide +kernel)) ggX2_differenceOn_X2_subtract
theorem dX2_differenceOn_0 : decode cX2_differenceOn 0 = .ok (.aload_n 0, 1) := by decide +kernel
theorem dX2_differenceOn_1 : decode cX2_differenceOn 1 = .ok (.getfield 13, 3) := by decide +kernel
theorem dX2_differenceOn_4 : decode cX2_differenceOn 4 = .ok (.iconst 1, 1) := by decide +kernel
theorem dX2_differenceOn_5 : decode cX2_differenceOn 5 = .ok (.invokevirtual 31, 3) := by decide +kernel
theorem dX2_differenceOn_8 : decode cX2_differenceOn 8 = .ok (.iconst 1, 1) := by decide +kernel
theorem dX2_differenceOn_9 : decode cX2_differenceOn 9 = .ok (.if_icmp .ne 8, 3) := by decide +kernel
theorem dX2_differenceOn_12 : decode cX2_differenceOn 12 = .ok (.bipush 30, 2) := by decide +kernel
theorem dX2_differenceOn_14 : decode cX2_differenceOn 14 = .ok (.goto 5, 3) := by decide +kernel
theorem dX2_differenceOn_17 : decode cX2_differenceOn 17 = .ok (.bipush 28, 2) := by decide +kernel
theorem dX2_differenceOn_19 : decode cX2_differenceOn 19 = .ok (.istore 4, 2) := by decide +kernel
theorem dX2_differenceOn_21 : decode cX2_differenceOn 21 = .ok (.aload_n 0, 1) := by decide +kernel
theorem dX2_differenceOn_22 : decode cX2_differenceOn 22 = .ok (.iload_n 1, 1) := by decide +kernel
theorem dX2_differenceOn_23 : decode cX2_differenceOn 23 = .ok (.iload_n 2, 1) := by decide +kernel
theorem dX2_differenceOn_24 : decode cX2_differenceOn 24 = .ok (.iload_n 3, 1) := by decide +kernel
theorem dX2_differenceOn_25 : decode cX2_differenceOn 25 = .ok (.iload 4, 2) := by decide +kernel
theorem dX2_differenceOn_27 : decode cX2_differenceOn 27 = .ok (.invokevirtual 27, 3) := by decide +kernel
theorem dX2_differenceOn_30 : decode cX2_differenceOn 30 = .ok (.ireturn, 1) := by decide +kernel
set_option maxRecDepth 20000 in
theorem ggX2_subtract_X2_signs : GoodIn wsX2_subtract wsX2_signs := goodIn_r _ [5] (by decide +kernel) (by decide +kernel)
set_option maxRecDepth 20000 in
theorem gX2_subtract_X2_signs : GoodIn wsX2_subtract (va_wsS RX2 17 yX2_signs wsX2_signs) := goodIn_app (goodIn_of _ (by decide +kernel)) ggX2_subtract_X2_signs
set_option maxRecDepth 20000 in
theorem ggX2_subtract_X0_setFlags : GoodIn wsX2_subtract wsX0_setFlags := goodIn_r _ [10, 11, 13] (by decide +kernel) (by decide +kernel)
set_option maxRecDepth 20000 in
theorem gX2_subtract_X0_setFlags : GoodIn wsX2_subtract (wsV RX2 21 RX0 yX0_setFlags wsX0_setFlags) := goodIn_app (goodIn_of _ (by decide +kernel)) ggX2_subtract_X0_setFlags
theorem dX2_subtract_0 : decode cX2_subtract 0 = .ok (.iload_n 1, 1) := by decide +kernel
theorem dX2_subtract_1 : decode cX2_subtract 1 = .ok (.iload_n 2, 1) := by decide +kernel
theorem dX2_subtract_2 : decode cX2_subtract 2 = .ok (.isub, 1) := by decide +kernel
theorem dX2_subtract_3 : decode cX2_subtract 3 = .ok (.iload_n 3, 1) := by decide +kernel
theorem dX2_subtract_4 : decode cX2_subtract 4 = .ok (.isub, 1) := by decide +kernel
theorem dX2_subtract_5 : decode cX2_subtract 5 = .ok (.istore 5, 2) := by decide +kernel
theorem dX2_subtract_7 : decode cX2_subtract 7 = .ok (.iload 5, 2) := by decide +kernel
theorem dX2_subtract_9 : decode cX2_subtract 9 = .ok (.sipush 255, 3) := by decide +kernel
theorem dX2_subtract_12 : decode cX2_subtract 12 = .ok (.iand, 1) := by decide +kernel
theorem dX2_subtract_13 : decode cX2_subtract 13 = .ok (.istore 6, 2) := by decide +kernel
theorem dX2_subtract_15 : decode cX2_subtract 15 = .ok (.iload_n 1, 1) := by decide +kernel
theorem dX2_subtract_16 : decode cX2_subtract 16 = .ok (.bipush 15, 2) := by decide +kernel
theorem dX2_subtract_18 : decode cX2_subtract 18 = .ok (.iand, 1) := by decide +kernel
theorem dX2_subtract_19 : decode cX2_subtract 19 = .ok (.iload_n 2, 1) := by decide +kernel
theorem dX2_subtract_20 : decode cX2_subtract 20 = .ok (.bipush 15, 2) := by decide +kernel
theorem dX2_subtract_22 : decode cX2_subtract 22 = .ok (.iand, 1) := by decide +kernel
theorem dX2_subtract_23 : decode cX2_subtract 23 = .ok (.isub, 1) := by decide +kernel
theorem dX2_subtract_24 : decode cX2_subtract 24 = .ok (.iload_n 3, 1) := by decide +kernel
theorem dX2_subtract_25 : decode cX2_subtract 25 = .ok (.isub, 1) := by decide +kernel
theorem dX2_subtract_26 : decode cX2_subtract 26 = .ok (.istore 7, 2) := by decide +kernel
theorem dX2_subtract_28 : decode cX2_subtract 28 = .ok (.iload_n 1, 1) := by decide +kernel
theorem dX2_subtract_29 : decode cX2_subtract 29 = .ok (.iload_n 2, 1) := by decide +kernel
theorem dX2_subtract_30 : decode cX2_subtract 30 = .ok (.ixor, 1) := by decide +kernel
theorem dX2_subtract_31 : decode cX2_subtract 31 = .ok (.iload_n 1, 1) := by decide +kernel
theorem dX2_subtract_32 : decode cX2_subtract 32 = .ok (.iload 6, 2) := by decide +kernel
theorem dX2_subtract_34 : decode cX2_subtract 34 = .ok (.ixor, 1) := by decide +kernel
theorem dX2_subtract_35 : decode cX2_subtract 35 = .ok (.iand, 1) := by decide +kernel
theorem dX2_subtract_36 : decode cX2_subtract 36 = .ok (.sipush 128, 3) := by decide +kernel
theorem dX2_subtract_39 : decode cX2_subtract 39 = .ok (.iand, 1) := by decide +kernel
theorem dX2_subtract_40 : decode cX2_subtract 40 = .ok (.ifCond .eq 7, 3) := by decide +kernel
theorem dX2_subtract_43 : decode cX2_subtract 43 = .ok (.iconst 1, 1) := by decide +kernel
theorem dX2_subtract_44 : decode cX2_subtract 44 = .ok (.goto 4, 3) := by decide +kernel
theorem dX2_subtract_47 : decode cX2_subtract 47 = .ok (.iconst 0, 1) := by decide +kernel
theorem dX2_subtract_48 : decode cX2_subtract 48 = .ok (.istore 8, 2) := by decide +kernel
theorem dX2_subtract_50 : decode cX2_subtract 50 = .ok (.aload_n 0, 1) := by decide +kernel
theorem dX2_subtract_51 : decode cX2_subtract 51 = .ok (.getfield 13, 3) := by decide +kernel
theorem dX2_subtract_54 : decode cX2_subtract 54 = .ok (.iload 4, 2) := by decide +kernel
theorem dX2_subtract_56 : decode cX2_subtract 56 = .ok (.iconst 1, 1) := by decide +kernel
theorem dX2_subtract_57 : decode cX2_subtract 57 = .ok (.ior, 1) := by decide +kernel
theorem dX2_subtract_58 : decode cX2_subtract 58 = .ok (.bipush 32, 2) := by decide +kernel
theorem dX2_subtract_60 : decode cX2_subtract 60 = .ok (.ior, 1) := by decide +kernel
theorem dX2_subtract_61 : decode cX2_subtract 61 = .ok (.iload 6, 2) := by decide +kernel
theorem dX2_subtract_63 : decode cX2_subtract 63 = .ok (.iload 8, 2) := by decide +kernel
theorem dX2_subtract_65 : decode cX2_subtract 65 = .ok (.invokestatic 17, 3) := by decide +kernel
theorem dX2_subtract_68 : decode cX2_subtract 68 = .ok (.iload 5, 2) := by decide +kernel
theorem dX2_subtract_70 : decode cX2_subtract 70 = .ok (.ifCond .ge 7, 3) := by decide +kernel
theorem dX2_subtract_73 : decode cX2_subtract 73 = .ok (.iconst 1, 1) := by decide +kernel
theorem dX2_subtract_74 : decode cX2_subtract 74 = .ok (.goto 4, 3) := by decide +kernel
theorem dX2_subtract_77 : decode cX2_subtract 77 = .ok (.iconst 0, 1) := by decide +kernel
theorem dX2_subtract_78 : decode cX2_subtract 78 = .ok (.ior, 1) := by decide +kernel
theorem dX2_subtract_79 : decode cX2_subtract 79 = .ok (.iload 7, 2) := by decide +kernel
theorem dX2_subtract_81 : decode cX2_subtract 81 = .ok (.ifCond .ge 8, 3) := by decide +kernel
theorem dX2_subtract_84 : decode cX2_subtract 84 = .ok (.bipush 32, 2) := by decide +kernel
theorem dX2_subtract_86 : decode cX2_subtract 86 = .ok (.goto 4, 3) := by decide +kernel
theorem dX2_subtract_89 : decode cX2_subtract 89 = .ok (.iconst 0, 1) := by decide +kernel
theorem dX2_subtract_90 : decode cX2_subtract 90 = .ok (.ior, 1) := by decide +kernel
theorem dX2_subtract_91 : decode cX2_subtract 91 = .ok (.invokevirtual 21, 3) := by decide +kernel
theorem dX2_subtract_94 : decode cX2_subtract 94 = .ok (.iload 6, 2) := by decide +kernel
theorem dX2_subtract_96 : decode cX2_subtract 96 = .ok (.ireturn, 1) := by decide +kernel
set_option maxRecDepth 20000 in
theorem ggX2_logic_X2_signs : GoodIn wsX2_logic wsX2_signs := goodIn_r _ [5] (by decide +kernel) (by decide +kernel)
set_option maxRecDepth 20000 in
theorem gX2_logic_X2_signs : GoodIn wsX2_logic (va_wsS RX2 17 yX2_signs wsX2_signs) := goodIn_app (goodIn_of _ (by decide +kernel)) ggX2_logic_X2_signs
set_option maxRecDepth 20000 in
theorem ggX2_logic_X0_setFlags : GoodIn wsX2_logic wsX0_setFlags := goodIn_r _ [10, 11, 13] (by decide +kernel) (by decide +kernel)
set_option maxRecDepth 20000 in
theorem gX2_logic_X0_setFlags : GoodIn wsX2_logic (wsV RX2 21 RX0 yX0_setFlags wsX0_setFlags) := goodIn_app (goodIn_of _ (by decide +kernel)) ggX2_logic_X0_setFlags
theorem dX2_logic_0 : decode cX2_logic 0 = .ok (.aload_n 0, 1) := by decide +kernel
theorem dX2_logic_1 : decode cX2_logic 1 = .ok (.getfield 13, 3) := by decide +kernel
theorem dX2_logic_4 : decode cX2_logic 4 = .ok (.bipush 30, 2) := by decide +kernel
theorem dX2_logic_6 : decode cX2_logic 6 = .ok (.iload_n 1, 1) := by decide +kernel
theorem dX2_logic_7 : decode cX2_logic 7 = .ok (.iconst 0, 1) := by decide +kernel
theorem dX2_logic_8 : decode cX2_logic 8 = .ok (.invokestatic 17, 3) := by decide +kernel
theorem dX2_logic_11 : decode cX2_logic 11 = .ok (.invokevirtual 21, 3) := by decide +kernel
theorem dX2_logic_14 : decode cX2_logic 14 = .ok (.iload_n 1, 1) := by decide +kernel
theorem dX2_logic_15 : decode cX2_logic 15 = .ok (.ireturn, 1) := by decide +kernel
set_option maxRecDepth 20000 in
theorem ggX2_inverse_X2_signs : GoodIn wsX2_inverse wsX2_signs := goodIn_r _ [5] (by decide +kernel) (by decide +kernel)
set_option maxRecDepth 20000 in
theorem gX2_inverse_X2_signs : GoodIn wsX2_inverse (va_wsS RX2 17 yX2_signs wsX2_signs) := goodIn_app (goodIn_of _ (by decide +kernel)) ggX2_inverse_X2_signs
set_option maxRecDepth 20000 in
theorem ggX2_inverse_X0_setFlags : GoodIn wsX2_inverse wsX0_setFlags := goodIn_r _ [10, 11, 13] (by decide +kernel) (by decide +kernel)
set_option maxRecDepth 20000 in
theorem gX2_inverse_X0_setFlags : GoodIn wsX2_inverse (wsV RX2 21 RX0 yX0_setFlags wsX0_setFlags) := goodIn_app (goodIn_of _ (by decide +kernel)) ggX2_inverse_X0_setFlags
theorem dX2_inverse_0 : decode cX2_inverse 0 = .ok (.sipush 255, 3) := by decide +kernel
theorem dX2_inverse_3 : decode cX2_inverse 3 = .ok (.iload_n 1, 1) := by decide +kernel
theorem dX2_inverse_4 : decode cX2_inverse 4 = .ok (.isub, 1) := by decide +kernel
theorem dX2_inverse_5 : decode cX2_inverse 5 = .ok (.istore_n 2, 1) := by decide +kernel
theorem dX2_inverse_6 : decode cX2_inverse 6 = .ok (.aload_n 0, 1) := by decide +kernel
theorem dX2_inverse_7 : decode cX2_inverse 7 = .ok (.getfield 13, 3) := by decide +kernel
theorem dX2_inverse_10 : decode cX2_inverse 10 = .ok (.bipush 31, 2) := by decide +kernel
theorem dX2_inverse_12 : decode cX2_inverse 12 = .ok (.iload_n 2, 1) := by decide +kernel
theorem dX2_inverse_13 : decode cX2_inverse 13 = .ok (.iconst 0, 1) := by decide +kernel
theorem dX2_inverse_14 : decode cX2_inverse 14 = .ok (.invokestatic 17, 3) := by decide +kernel
theorem dX2_inverse_17 : decode cX2_inverse 17 = .ok (.iconst 1, 1) := by decide +kernel
theorem dX2_inverse_18 : decode cX2_inverse 18 = .ok (.ior, 1) := by decide +kernel
theorem dX2_inverse_19 : decode cX2_inverse 19 = .ok (.invokevirtual 21, 3) := by decide +kernel
theorem dX2_inverse_22 : decode cX2_inverse 22 = .ok (.iload_n 2, 1) := by decide +kernel
theorem dX2_inverse_23 : decode cX2_inverse 23 = .ok (.ireturn, 1) := by decide +kernel
set_option maxRecDepth 20000 in
theorem ggX2_more_X2_signs : GoodIn wsX2_more wsX2_signs := goodIn_r _ [5] (by decide +kernel) (by decide +kernel)
set_option maxRecDepth 20000 in
theorem gX2_more_X2_signs : GoodIn wsX2_more (va_wsS RX2 17 yX2_signs wsX2_signs) := goodIn_app (goodIn_of _ (by decide +kernel)) ggX2_more_X2_signs
set_option maxRecDepth 20000 in
theorem ggX2_more_X0_setFlags : GoodIn wsX2_more wsX0_setFlags := goodIn_r _ [10, 11, 13] (by decide +kernel) (by decide +kernel)
set_option maxRecDepth 20000 in
theorem gX2_more_X0_setFlags : GoodIn wsX2_more (wsV RX2 21 RX0 yX0_setFlags wsX0_setFlags) := goodIn_app (goodIn_of _ (by decide +kernel)) ggX2_more_X0_setFlags
theorem dX2_more_0 : decode cX2_more 0 = .ok (.iload_n 1, 1) := by decide +kernel
theorem dX2_more_1 : decode cX2_more 1 = .ok (.iconst 1, 1) := by decide +kernel
theorem dX2_more_2 : decode cX2_more 2 = .ok (.iadd, 1) := by decide +kernel
theorem dX2_more_3 : decode cX2_more 3 = .ok (.sipush 255, 3) := by decide +kernel
theorem dX2_more_6 : decode cX2_more 6 = .ok (.iand, 1) := by decide +kernel
theorem dX2_more_7 : decode cX2_more 7 = .ok (.istore_n 2, 1) := by decide +kernel
theorem dX2_more_8 : decode cX2_more 8 = .ok (.aload_n 0, 1) := by decide +kernel
theorem dX2_more_9 : decode cX2_more 9 = .ok (.getfield 13, 3) := by decide +kernel
theorem dX2_more_12 : decode cX2_more 12 = .ok (.bipush 30, 2) := by decide +kernel
theorem dX2_more_14 : decode cX2_more 14 = .ok (.iload_n 2, 1) := by decide +kernel
theorem dX2_more_15 : decode cX2_more 15 = .ok (.iload_n 2, 1) := by decide +kernel
theorem dX2_more_16 : decode cX2_more 16 = .ok (.sipush 128, 3) := by decide +kernel
theorem dX2_more_19 : decode cX2_more 19 = .ok (.if_icmp .ne 7, 3) := by decide +kernel
theorem dX2_more_22 : decode cX2_more 22 = .ok (.iconst 1, 1) := by decide +kernel
theorem dX2_more_23 : decode cX2_more 23 = .ok (.goto 4, 3) := by decide +kernel
theorem dX2_more_26 : decode cX2_more 26 = .ok (.iconst 0, 1) := by decide +kernel
theorem dX2_more_27 : decode cX2_more 27 = .ok (.invokestatic 17, 3) := by decide +kernel
theorem dX2_more_30 : decode cX2_more 30 = .ok (.invokevirtual 21, 3) := by decide +kernel
theorem dX2_more_33 : decode cX2_more 33 = .ok (.iload_n 2, 1) := by decide +kernel
theorem dX2_more_34 : decode cX2_more 34 = .ok (.ireturn, 1) := by decide +kernel
set_option maxRecDepth 20000 in
theorem ggX2_less_X2_signs : GoodIn wsX2_less wsX2_signs := goodIn_r _ [5] (by decide +kernel) (by decide +kernel)
set_option maxRecDepth 20000 in
theorem gX2_less_X2_signs : GoodIn wsX2_less (va_wsS RX2 17 yX2_signs wsX2_signs) := goodIn_app (goodIn_of _ (by decide +kernel)) ggX2_less_X2_signs
set_option maxRecDepth 20000 in
theorem ggX2_less_X0_setFlags : GoodIn wsX2_less wsX0_setFlags := goodIn_r _ [10, 11, 13] (by decide +kernel) (by decide +kernel)
set_option maxRecDepth 20000 in
theorem gX2_less_X0_setFlags : GoodIn wsX2_less (wsV RX2 21 RX0 yX0_setFlags wsX0_setFlags) := goodIn_app (goodIn_of _ (by decide +kernel)) ggX2_less_X0_setFlags
theorem dX2_less_0 : decode cX2_less 0 = .ok (.iload_n 1, 1) := by decide +kernel
theorem dX2_less_1 : decode cX2_less 1 = .ok (.iconst 1, 1) := by decide +kernel
theorem dX2_less_2 : decode cX2_less 2 = .ok (.isub, 1) := by decide +kernel
theorem dX2_less_3 : decode cX2_less 3 = .ok (.sipush 255, 3) := by decide +kernel
theorem dX2_less_6 : decode cX2_less 6 = .ok (.iand, 1) := by decide +kernel
theorem dX2_less_7 : decode cX2_less 7 = .ok (.istore_n 2, 1) := by decide +kernel
theorem dX2_less_8 : decode cX2_less 8 = .ok (.aload_n 0, 1) := by decide +kernel
theorem dX2_less_9 : decode cX2_less 9 = .ok (.getfield 13, 3) := by decide +kernel
theorem dX2_less_12 : decode cX2_less 12 = .ok (.bipush 30, 2) := by decide +kernel
theorem dX2_less_14 : decode cX2_less 14 = .ok (.iload_n 2, 1) := by decide +kernel
theorem dX2_less_15 : decode cX2_less 15 = .ok (.iload_n 2, 1) := by decide +kernel
theorem dX2_less_16 : decode cX2_less 16 = .ok (.bipush 127, 2) := by decide +kernel
theorem dX2_less_18 : decode cX2_less 18 = .ok (.if_icmp .ne 7, 3) := by decide +kernel
theorem dX2_less_21 : decode cX2_less 21 = .ok (.iconst 1, 1) := by decide +kernel
theorem dX2_less_22 : decode cX2_less 22 = .ok (.goto 4, 3) := by decide +kernel
theorem dX2_less_25 : decode cX2_less 25 = .ok (.iconst 0, 1) := by decide +kernel
theorem dX2_less_26 : decode cX2_less 26 = .ok (.invokestatic 17, 3) := by decide +kernel
theorem dX2_less_29 : decode cX2_less 29 = .ok (.invokevirtual 21, 3) := by decide +kernel
theorem dX2_less_32 : decode cX2_less 32 = .ok (.iload_n 2, 1) := by decide +kernel
theorem dX2_less_33 : decode cX2_less 33 = .ok (.ireturn, 1) := by decide +kernel
set_option maxRecDepth 20000 in
theorem ggX2_right_X2_signs : GoodIn wsX2_right wsX2_signs := goodIn_r _ [5] (by decide +kernel) (by decide +kernel)
set_option maxRecDepth 20000 in
theorem gX2_right_X2_signs : GoodIn wsX2_right (va_wsS RX2 17 yX2_signs wsX2_signs) := goodIn_app (goodIn_of _ (by decide +kernel)) ggX2_right_X2_signs
set_option maxRecDepth 20000 in
theorem ggX2_right_X0_setFlags : GoodIn wsX2_right wsX0_setFlags := goodIn_r _ [10, 11, 13] (by decide +kernel) (by decide +kernel)
set_option maxRecDepth 20000 in
theorem gX2_right_X0_setFlags : GoodIn wsX2_right (wsV RX2 21 RX0 yX0_setFlags wsX0_setFlags) := goodIn_app (goodIn_of _ (by decide +kernel)) ggX2_right_X0_setFlags
theorem dX2_right_0 : decode cX2_right 0 = .ok (.iload_n 1, 1) := by decide +kernel
theorem dX2_right_1 : decode cX2_right 1 = .ok (.iconst 1, 1) := by decide +kernel
theorem dX2_right_2 : decode cX2_right 2 = .ok (.ishr, 1) := by decide +kernel
theorem dX2_right_3 : decode cX2_right 3 = .ok (.iload_n 2, 1) := by decide +kernel
theorem dX2_right_4 : decode cX2_right 4 = .ok (.bipush 7, 2) := by decide +kernel
theorem dX2_right_6 : decode cX2_right 6 = .ok (.ishl, 1) := by decide +kernel
theorem dX2_right_7 : decode cX2_right 7 = .ok (.ior, 1) := by decide +kernel
theorem dX2_right_8 : decode cX2_right 8 = .ok (.istore_n 3, 1) := by decide +kernel
theorem dX2_right_9 : decode cX2_right 9 = .ok (.iload_n 1, 1) := by decide +kernel
theorem dX2_right_10 : decode cX2_right 10 = .ok (.iconst 1, 1) := by decide +kernel
theorem dX2_right_11 : decode cX2_right 11 = .ok (.iand, 1) := by decide +kernel
theorem dX2_right_12 : decode cX2_right 12 = .ok (.istore 4, 2) := by decide +kernel
theorem dX2_right_14 : decode cX2_right 14 = .ok (.aload_n 0, 1) := by decide +kernel
theorem dX2_right_15 : decode cX2_right 15 = .ok (.getfield 13, 3) := by decide +kernel
theorem dX2_right_18 : decode cX2_right 18 = .ok (.bipush 31, 2) := by decide +kernel
theorem dX2_right_20 : decode cX2_right 20 = .ok (.iload_n 3, 1) := by decide +kernel
theorem dX2_right_21 : decode cX2_right 21 = .ok (.iload_n 2, 1) := by decide +kernel
theorem dX2_right_22 : decode cX2_right 22 = .ok (.iload 4, 2) := by decide +kernel
theorem dX2_right_24 : decode cX2_right 24 = .ok (.if_icmp .eq 7, 3) := by decide +kernel
theorem dX2_right_27 : decode cX2_right 27 = .ok (.iconst 1, 1) := by decide +kernel
theorem dX2_right_28 : decode cX2_right 28 = .ok (.goto 4, 3) := by decide +kernel
theorem dX2_right_31 : decode cX2_right 31 = .ok (.iconst 0, 1) := by decide +kernel
theorem dX2_right_32 : decode cX2_right 32 = .ok (.invokestatic 17, 3) := by decide +kernel
theorem dX2_right_35 : decode cX2_right 35 = .ok (.iload 4, 2) := by decide +kernel
theorem dX2_right_37 : decode cX2_right 37 = .ok (.iconst 1, 1) := by decide +kernel
theorem dX2_right_38 : decode cX2_right 38 = .ok (.if_icmp .ne 7, 3) := by decide +kernel
theorem dX2_right_41 : decode cX2_right 41 = .ok (.iconst 1, 1) := by decide +kernel
theorem dX2_right_42 : decode cX2_right 42 = .ok (.goto 4, 3) := by decide +kernel
theorem dX2_right_45 : decode cX2_right 45 = .ok (.iconst 0, 1) := by decide +kernel
theorem dX2_right_46 : decode cX2_right 46 = .ok (.ior, 1) := by decide +kernel
theorem dX2_right_47 : decode cX2_right 47 = .ok (.invokevirtual 21, 3) := by decide +kernel
theorem dX2_right_50 : decode cX2_right 50 = .ok (.iload_n 3, 1) := by decide +kernel
theorem dX2_right_51 : decode cX2_right 51 = .ok (.ireturn, 1) := by decide +kernel
set_option maxRecDepth 20000 in
theorem ggX2_pairMore_X2_pairFlags : GoodIn wsX2_pairMore wsX2_pairFlags := goodIn_r _ [6, 7, 8, 9, 10, 5, 11, 12, 13, 14, 15, 16, 17, 18, 19] (by decide +kernel) (by decide +kernel)
set_option maxRecDepth 20000 in
theorem gX2_pairMore_X2_pairFlags : GoodIn wsX2_pairMore (wsV RX2 36 RX2 yX2_pairFlags wsX2_pairFlags) := goodIn_app (goodIn_of _ (by decide +kernel)) ggX2_pairMore_X2_pairFlags
theorem dX2_pairMore_0 : decode cX2_pairMore 0 = .ok (.iload_n 1, 1) := by decide +kernel
theorem dX2_pairMore_1 : decode cX2_pairMore 1 = .ok (.iload_n 2, 1) := by decide +kernel
theorem dX2_pairMore_2 : decode cX2_pairMore 2 = .ok (.iadd, 1) := by decide +kernel
theorem dX2_pairMore_3 : decode cX2_pairMore 3 = .ok (.ldc 35, 2) := by decide +kernel
theorem dX2_pairMore_5 : decode cX2_pairMore 5 = .ok (.iand, 1) := by decide +kernel
theorem dX2_pairMore_6 : decode cX2_pairMore 6 = .ok (.istore_n 3, 1) := by decide +kernel
theorem dX2_pairMore_7 : decode cX2_pairMore 7 = .ok (.aload_n 0, 1) := by decide +kernel
theorem dX2_pairMore_8 : decode cX2_pairMore 8 = .ok (.iload_n 3, 1) := by decide +kernel
theorem dX2_pairMore_9 : decode cX2_pairMore 9 = .ok (.iload_n 1, 1) := by decide +kernel
theorem dX2_pairMore_10 : decode cX2_pairMore 10 = .ok (.iconst (-1), 1) := by decide +kernel
theorem dX2_pairMore_11 : decode cX2_pairMore 11 = .ok (.ixor, 1) := by decide +kernel
theorem dX2_pairMore_12 : decode cX2_pairMore 12 = .ok (.iload_n 3, 1) := by decide +kernel
theorem dX2_pairMore_13 : decode cX2_pairMore 13 = .ok (.iand, 1) := by decide +kernel
theorem dX2_pairMore_14 : decode cX2_pairMore 14 = .ok (.iload_n 1, 1) := by decide +kernel
theorem dX2_pairMore_15 : decode cX2_pairMore 15 = .ok (.iload_n 3, 1) := by decide +kernel
theorem dX2_pairMore_16 : decode cX2_pairMore 16 = .ok (.iconst (-1), 1) := by decide +kernel
theorem dX2_pairMore_17 : decode cX2_pairMore 17 = .ok (.ixor, 1) := by decide +kernel
theorem dX2_pairMore_18 : decode cX2_pairMore 18 = .ok (.iand, 1) := by decide +kernel
theorem dX2_pairMore_19 : decode cX2_pairMore 19 = .ok (.invokevirtual 36, 3) := by decide +kernel
theorem dX2_pairMore_22 : decode cX2_pairMore 22 = .ok (.iload_n 3, 1) := by decide +kernel
theorem dX2_pairMore_23 : decode cX2_pairMore 23 = .ok (.ireturn, 1) := by decide +kernel
set_option maxRecDepth 20000 in
theorem ggX2_pairLess_X2_pairFlags : GoodIn wsX2_pairLess wsX2_pairFlags := goodIn_r _ [6, 7, 8, 9, 10, 5, 11, 12, 13, 14, 15, 16, 17, 18, 19] (by decide +kernel) (by decide +kernel)
set_option maxRecDepth 20000 in
theorem gX2_pairLess_X2_pairFlags : GoodIn wsX2_pairLess (wsV RX2 36 RX2 yX2_pairFlags wsX2_pairFlags) := goodIn_app (goodIn_of _ (by decide +kernel)) ggX2_pairLess_X2_pairFlags
theorem dX2_pairLess_0 : decode cX2_pairLess 0 = .ok (.iload_n 1, 1) := by decide +kernel
theorem dX2_pairLess_1 : decode cX2_pairLess 1 = .ok (.iload_n 2, 1) := by decide +kernel
theorem dX2_pairLess_2 : decode cX2_pairLess 2 = .ok (.isub, 1) := by decide +kernel
theorem dX2_pairLess_3 : decode cX2_pairLess 3 = .ok (.ldc 35, 2) := by decide +kernel
theorem dX2_pairLess_5 : decode cX2_pairLess 5 = .ok (.iand, 1) := by decide +kernel
theorem dX2_pairLess_6 : decode cX2_pairLess 6 = .ok (.istore_n 3, 1) := by decide +kernel
theorem dX2_pairLess_7 : decode cX2_pairLess 7 = .ok (.aload_n 0, 1) := by decide +kernel
theorem dX2_pairLess_8 : decode cX2_pairLess 8 = .ok (.iload_n 3, 1) := by decide +kernel
theorem dX2_pairLess_9 : decode cX2_pairLess 9 = .ok (.iload_n 1, 1) := by decide +kernel
theorem dX2_pairLess_10 : decode cX2_pairLess 10 = .ok (.iload_n 3, 1) := by decide +kernel
theorem dX2_pairLess_11 : decode cX2_pairLess 11 = .ok (.iconst (-1), 1) := by decide +kernel
theorem dX2_pairLess_12 : decode cX2_pairLess 12 = .ok (.ixor, 1) := by decide +kernel
theorem dX2_pairLess_13 : decode cX2_pairLess 13 = .ok (.iand, 1) := by decide +kernel
theorem dX2_pairLess_14 : decode cX2_pairLess 14 = .ok (.iload_n 1, 1) := by decide +kernel
theorem dX2_pairLess_15 : decode cX2_pairLess 15 = .ok (.iconst (-1), 1) := by decide +kernel
theorem dX2_pairLess_16 : decode cX2_pairLess 16 = .ok (.ixor, 1) := by decide +kernel
theorem dX2_pairLess_17 : decode cX2_pairLess 17 = .ok (.iload_n 3, 1) := by decide +kernel
theorem dX2_pairLess_18 : decode cX2_pairLess 18 = .ok (.iand, 1) := by decide +kernel
theorem dX2_pairLess_19 : decode cX2_pairLess 19 = .ok (.invokevirtual 36, 3) := by decide +kernel
theorem dX2_pairLess_22 : decode cX2_pairLess 22 = .ok (.iload_n 3, 1) := by decide +kernel
theorem dX2_pairLess_23 : decode cX2_pairLess 23 = .ok (.ireturn, 1) := by decide +kernel
set_option maxRecDepth 20000 in
theorem ggX2_pairFlags_X2_signs : GoodIn wsX2_pairFlags wsX2_signs := goodIn_r _ [6] (by decide +kernel) (by decide +kernel)
set_option maxRecDepth 20000 in
theorem gX2_pairFlags_X2_signs : GoodIn wsX2_pairFlags (va_wsS RX2 17 yX2_signs wsX2_signs) := goodIn_app (goodIn_of _ (by decide +kernel)) ggX2_pairFlags_X2_signs
set_option maxRecDepth 20000 in
theorem ggX2_pairFlags_X0_setFlags : GoodIn wsX2_pairFlags wsX0_setFlags := goodIn_r _ [11, 12, 14] (by decide +kernel) (by decide +kernel)
set_option maxRecDepth 20000 in
theorem gX2_pairFlags_X0_setFlags : GoodIn wsX2_pairFlags (wsV RX2 21 RX0 yX0_setFlags wsX0_setFlags) := goodIn_app (goodIn_of _ (by decide +kernel)) ggX2_pairFlags_X0_setFlags
theorem dX2_pairFlags_0 : decode cX2_pairFlags 0 = .ok (.iload_n 1, 1) := by decide +kernel
theorem dX2_pairFlags_1 : decode cX2_pairFlags 1 = .ok (.bipush 8, 2) := by decide +kernel
theorem dX2_pairFlags_3 : decode cX2_pairFlags 3 = .ok (.ishr, 1) := by decide +kernel
theorem dX2_pairFlags_4 : decode cX2_pairFlags 4 = .ok (.iload_n 2, 1) := by decide +kernel
theorem dX2_pairFlags_5 : decode cX2_pairFlags 5 = .ok (.ldc 40, 2) := by decide +kernel
theorem dX2_pairFlags_7 : decode cX2_pairFlags 7 = .ok (.iand, 1) := by decide +kernel
theorem dX2_pairFlags_8 : decode cX2_pairFlags 8 = .ok (.ifCond .eq 7, 3) := by decide +kernel
theorem dX2_pairFlags_11 : decode cX2_pairFlags 11 = .ok (.iconst 1, 1) := by decide +kernel
theorem dX2_pairFlags_12 : decode cX2_pairFlags 12 = .ok (.goto 4, 3) := by decide +kernel
theorem dX2_pairFlags_15 : decode cX2_pairFlags 15 = .ok (.iconst 0, 1) := by decide +kernel
theorem dX2_pairFlags_16 : decode cX2_pairFlags 16 = .ok (.invokestatic 17, 3) := by decide +kernel
theorem dX2_pairFlags_19 : decode cX2_pairFlags 19 = .ok (.bipush (-3), 2) := by decide +kernel
theorem dX2_pairFlags_21 : decode cX2_pairFlags 21 = .ok (.iand, 1) := by decide +kernel
theorem dX2_pairFlags_22 : decode cX2_pairFlags 22 = .ok (.istore 4, 2) := by decide +kernel
theorem dX2_pairFlags_24 : decode cX2_pairFlags 24 = .ok (.aload_n 0, 1) := by decide +kernel
theorem dX2_pairFlags_25 : decode cX2_pairFlags 25 = .ok (.getfield 13, 3) := by decide +kernel
theorem dX2_pairFlags_28 : decode cX2_pairFlags 28 = .ok (.bipush 31, 2) := by decide +kernel
theorem dX2_pairFlags_30 : decode cX2_pairFlags 30 = .ok (.iload 4, 2) := by decide +kernel
theorem dX2_pairFlags_32 : decode cX2_pairFlags 32 = .ok (.iload_n 1, 1) := by decide +kernel
theorem dX2_pairFlags_33 : decode cX2_pairFlags 33 = .ok (.ifCond .ne 7, 3) := by decide +kernel
theorem dX2_pairFlags_36 : decode cX2_pairFlags 36 = .ok (.iconst 2, 1) := by decide +kernel
theorem dX2_pairFlags_37 : decode cX2_pairFlags 37 = .ok (.goto 4, 3) := by decide +kernel
theorem dX2_pairFlags_40 : decode cX2_pairFlags 40 = .ok (.iconst 0, 1) := by decide +kernel
theorem dX2_pairFlags_41 : decode cX2_pairFlags 41 = .ok (.ior, 1) := by decide +kernel
theorem dX2_pairFlags_42 : decode cX2_pairFlags 42 = .ok (.iload_n 3, 1) := by decide +kernel
theorem dX2_pairFlags_43 : decode cX2_pairFlags 43 = .ok (.ldc 40, 2) := by decide +kernel
theorem dX2_pairFlags_45 : decode cX2_pairFlags 45 = .ok (.iand, 1) := by decide +kernel
theorem dX2_pairFlags_46 : decode cX2_pairFlags 46 = .ok (.ifCond .eq 7, 3) := by decide +kernel
theorem dX2_pairFlags_49 : decode cX2_pairFlags 49 = .ok (.iconst 1, 1) := by decide +kernel
theorem dX2_pairFlags_50 : decode cX2_pairFlags 50 = .ok (.goto 4, 3) := by decide +kernel
theorem dX2_pairFlags_53 : decode cX2_pairFlags 53 = .ok (.iconst 0, 1) := by decide +kernel
theorem dX2_pairFlags_54 : decode cX2_pairFlags 54 = .ok (.ior, 1) := by decide +kernel
theorem dX2_pairFlags_55 : decode cX2_pairFlags 55 = .ok (.invokevirtual 21, 3) := by decide +kernel
theorem dX2_pairFlags_58 : decode cX2_pairFlags 58 = .ok (.return_, 1) := by decide +kernel
set_option maxRecDepth 20000 in
theorem ggX2_product_X2_keepProduct : GoodIn wsX2_product wsX2_keepProduct := goodIn_r _ [5, 6, 7, 8, 9, 10, 11, 12, 13, 14, 15, 16, 17, 18, 19, 20] (by decide +kernel) (by decide +kernel)
set_option maxRecDepth 20000 in
theorem gX2_product_X2_keepProduct : GoodIn wsX2_product (wsV RX2 41 RX2 yX2_keepProduct wsX2_keepProduct) := goodIn_app (goodIn_of _ (by decide +kernel)) ggX2_product_X2_keepProduct
theorem dX2_product_0 : decode cX2_product 0 = .ok (.aload_n 0, 1) := by decide +kernel
theorem dX2_product_1 : decode cX2_product 1 = .ok (.iload_n 1, 1) := by decide +kernel
theorem dX2_product_2 : decode cX2_product 2 = .ok (.iload_n 1, 1) := by decide +kernel
theorem dX2_product_3 : decode cX2_product 3 = .ok (.invokevirtual 41, 3) := by decide +kernel
theorem dX2_product_6 : decode cX2_product 6 = .ok (.return_, 1) := by decide +kernel
set_option maxRecDepth 20000 in
theorem ggX2_fraction_X2_keepProduct : GoodIn wsX2_fraction wsX2_keepProduct := goodIn_r _ [5, 6, 7, 8, 9, 10, 11, 12, 13, 14, 15, 16, 17, 18, 19, 20] (by decide +kernel) (by decide +kernel)
set_option maxRecDepth 20000 in
theorem gX2_fraction_X2_keepProduct : GoodIn wsX2_fraction (wsV RX2 41 RX2 yX2_keepProduct wsX2_keepProduct) := goodIn_app (goodIn_of _ (by decide +kernel)) ggX2_fraction_X2_keepProduct
theorem dX2_fraction_0 : decode cX2_fraction 0 = .ok (.aload_n 0, 1) := by decide +kernel
theorem dX2_fraction_1 : decode cX2_fraction 1 = .ok (.iload_n 1, 1) := by decide +kernel
theorem dX2_fraction_2 : decode cX2_fraction 2 = .ok (.iload_n 1, 1) := by decide +kernel
theorem dX2_fraction_3 : decode cX2_fraction 3 = .ok (.iconst 1, 1) := by decide +kernel
theorem dX2_fraction_4 : decode cX2_fraction 4 = .ok (.ishl, 1) := by decide +kernel
theorem dX2_fraction_5 : decode cX2_fraction 5 = .ok (.invokevirtual 41, 3) := by decide +kernel
theorem dX2_fraction_8 : decode cX2_fraction 8 = .ok (.return_, 1) := by decide +kernel
set_option maxRecDepth 20000 in
theorem ggX2_keepProduct_X0_setPair : GoodIn wsX2_keepProduct wsX0_setPair := goodIn_r _ [8, 9, 15] (by decide +kernel) (by decide +kernel)
set_option maxRecDepth 20000 in
theorem gX2_keepProduct_X0_setPair : GoodIn wsX2_keepProduct (wsV RX2 44 RX0 yX0_setPair wsX0_setPair) := goodIn_app (goodIn_of _ (by decide +kernel)) ggX2_keepProduct_X0_setPair
set_option maxRecDepth 20000 in
theorem ggX2_keepProduct_X0_setFlags : GoodIn wsX2_keepProduct wsX0_setFlags := goodIn_r _ [13, 9, 15] (by decide +kernel) (by decide +kernel)
set_option maxRecDepth 20000 in
theorem gX2_keepProduct_X0_setFlags : GoodIn wsX2_keepProduct (wsV RX2 21 RX0 yX0_setFlags wsX0_setFlags) := goodIn_app (goodIn_of _ (by decide +kernel)) ggX2_keepProduct_X0_setFlags
theorem dX2_keepProduct_0 : decode cX2_keepProduct 0 = .ok (.aload_n 0, 1) := by decide +kernel
theorem dX2_keepProduct_1 : decode cX2_keepProduct 1 = .ok (.getfield 13, 3) := by decide +kernel
theorem dX2_keepProduct_4 : decode cX2_keepProduct 4 = .ok (.iconst 0, 1) := by decide +kernel
theorem dX2_keepProduct_5 : decode cX2_keepProduct 5 = .ok (.iload_n 2, 1) := by decide +kernel
theorem dX2_keepProduct_6 : decode cX2_keepProduct 6 = .ok (.invokevirtual 44, 3) := by decide +kernel
theorem dX2_keepProduct_9 : decode cX2_keepProduct 9 = .ok (.aload_n 0, 1) := by decide +kernel
theorem dX2_keepProduct_10 : decode cX2_keepProduct 10 = .ok (.getfield 13, 3) := by decide +kernel
theorem dX2_keepProduct_13 : decode cX2_keepProduct 13 = .ok (.iconst 3, 1) := by decide +kernel
theorem dX2_keepProduct_14 : decode cX2_keepProduct 14 = .ok (.iload_n 1, 1) := by decide +kernel
theorem dX2_keepProduct_15 : decode cX2_keepProduct 15 = .ok (.ldc 40, 2) := by decide +kernel
theorem dX2_keepProduct_17 : decode cX2_keepProduct 17 = .ok (.iand, 1) := by decide +kernel
theorem dX2_keepProduct_18 : decode cX2_keepProduct 18 = .ok (.ifCond .eq 7, 3) := by decide +kernel
theorem dX2_keepProduct_21 : decode cX2_keepProduct 21 = .ok (.iconst 1, 1) := by decide +kernel
theorem dX2_keepProduct_22 : decode cX2_keepProduct 22 = .ok (.goto 4, 3) := by decide +kernel
theorem dX2_keepProduct_25 : decode cX2_keepProduct 25 = .ok (.iconst 0, 1) := by decide +kernel
theorem dX2_keepProduct_26 : decode cX2_keepProduct 26 = .ok (.iload_n 2, 1) := by decide +kernel
theorem dX2_keepProduct_27 : decode cX2_keepProduct 27 = .ok (.ldc 35, 2) := by decide +kernel
theorem dX2_keepProduct_29 : decode cX2_keepProduct 29 = .ok (.iand, 1) := by decide +kernel
theorem dX2_keepProduct_30 : decode cX2_keepProduct 30 = .ok (.ifCond .ne 7, 3) := by decide +kernel
theorem dX2_keepProduct_33 : decode cX2_keepProduct 33 = .ok (.iconst 2, 1) := by decide +kernel
theorem dX2_keepProduct_34 : decode cX2_keepProduct 34 = .ok (.goto 4, 3) := by decide +kernel
theorem dX2_keepProduct_37 : decode cX2_keepProduct 37 = .ok (.iconst 0, 1) := by decide +kernel
theorem dX2_keepProduct_38 : decode cX2_keepProduct 38 = .ok (.ior, 1) := by decide +kernel
theorem dX2_keepProduct_39 : decode cX2_keepProduct 39 = .ok (.invokevirtual 21, 3) := by decide +kernel
theorem dX2_keepProduct_42 : decode cX2_keepProduct 42 = .ok (.return_, 1) := by decide +kernel
theorem dX2_signs_0 : decode cX2_signs 0 = .ok (.iload_n 0, 1) := by decide +kernel
theorem dX2_signs_1 : decode cX2_signs 1 = .ok (.bipush 7, 2) := by decide +kernel
theorem dX2_signs_3 : decode cX2_signs 3 = .ok (.ishr, 1) := by decide +kernel
theorem dX2_signs_4 : decode cX2_signs 4 = .ok (.iconst 1, 1) := by decide +kernel
theorem dX2_signs_5 : decode cX2_signs 5 = .ok (.iand, 1) := by decide +kernel
theorem dX2_signs_6 : decode cX2_signs 6 = .ok (.istore_n 2, 1) := by decide +kernel
theorem dX2_signs_7 : decode cX2_signs 7 = .ok (.iload_n 1, 1) := by decide +kernel
theorem dX2_signs_8 : decode cX2_signs 8 = .ok (.ifCond .eq 7, 3) := by decide +kernel
theorem dX2_signs_11 : decode cX2_signs 11 = .ok (.iconst 1, 1) := by decide +kernel
theorem dX2_signs_12 : decode cX2_signs 12 = .ok (.goto 4, 3) := by decide +kernel
theorem dX2_signs_15 : decode cX2_signs 15 = .ok (.iconst 0, 1) := by decide +kernel
theorem dX2_signs_16 : decode cX2_signs 16 = .ok (.istore_n 3, 1) := by decide +kernel
theorem dX2_signs_17 : decode cX2_signs 17 = .ok (.iload_n 0, 1) := by decide +kernel
theorem dX2_signs_18 : decode cX2_signs 18 = .ok (.ifCond .ne 7, 3) := by decide +kernel
theorem dX2_signs_21 : decode cX2_signs 21 = .ok (.iconst 2, 1) := by decide +kernel
theorem dX2_signs_22 : decode cX2_signs 22 = .ok (.goto 4, 3) := by decide +kernel
theorem dX2_signs_25 : decode cX2_signs 25 = .ok (.iconst 0, 1) := by decide +kernel
theorem dX2_signs_26 : decode cX2_signs 26 = .ok (.iload_n 2, 1) := by decide +kernel
theorem dX2_signs_27 : decode cX2_signs 27 = .ok (.iconst 2, 1) := by decide +kernel
theorem dX2_signs_28 : decode cX2_signs 28 = .ok (.ishl, 1) := by decide +kernel
theorem dX2_signs_29 : decode cX2_signs 29 = .ok (.ior, 1) := by decide +kernel
theorem dX2_signs_30 : decode cX2_signs 30 = .ok (.iload_n 3, 1) := by decide +kernel
theorem dX2_signs_31 : decode cX2_signs 31 = .ok (.iconst 3, 1) := by decide +kernel
theorem dX2_signs_32 : decode cX2_signs 32 = .ok (.ishl, 1) := by decide +kernel
theorem dX2_signs_33 : decode cX2_signs 33 = .ok (.ior, 1) := by decide +kernel
theorem dX2_signs_34 : decode cX2_signs 34 = .ok (.iload_n 2, 1) := by decide +kernel
