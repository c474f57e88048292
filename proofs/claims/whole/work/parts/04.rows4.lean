theorem dX4_onward_6 : decode cX4_onward 6 = .ok (.iadd, 1) := by decide +kernel
theorem dX4_onward_7 : decode cX4_onward 7 = .ok (.sipush 1023, 3) := by decide +kernel
theorem dX4_onward_10 : decode cX4_onward 10 = .ok (.iand, 1) := by decide +kernel
theorem dX4_onward_11 : decode cX4_onward 11 = .ok (.putfield 32, 3) := by decide +kernel
theorem dX4_onward_14 : decode cX4_onward 14 = .ok (.iconst 0, 1) := by decide +kernel
theorem dX4_onward_15 : decode cX4_onward 15 = .ok (.ireturn, 1) := by decide +kernel
theorem dX4_jumpTo_0 : decode cX4_jumpTo 0 = .ok (.aload_n 0, 1) := by decide +kernel
theorem dX4_jumpTo_1 : decode cX4_jumpTo 1 = .ok (.iload_n 1, 1) := by decide +kernel
theorem dX4_jumpTo_2 : decode cX4_jumpTo 2 = .ok (.sipush 1023, 3) := by decide +kernel
theorem dX4_jumpTo_5 : decode cX4_jumpTo 5 = .ok (.iand, 1) := by decide +kernel
theorem dX4_jumpTo_6 : decode cX4_jumpTo 6 = .ok (.putfield 32, 3) := by decide +kernel
theorem dX4_jumpTo_9 : decode cX4_jumpTo 9 = .ok (.iconst 0, 1) := by decide +kernel
theorem dX4_jumpTo_10 : decode cX4_jumpTo 10 = .ok (.ireturn, 1) := by decide +kernel
set_option maxRecDepth 20000 in
theorem ggX4_callTo_X0_stacks : GoodIn wsX4_callTo wsX0_stacks := goodIn_r _ [8, 9, 10, 11, 7, 12, 13, 14, 15, 16, 17, 18, 19, 20, 21, 30] (by decide +kernel) (by decide +kernel)
set_option maxRecDepth 20000 in
theorem gX4_callTo_X0_stacks : GoodIn wsX4_callTo (wsV RX4 91 RX0 yX0_stacks wsX0_stacks) := goodIn_app (goodIn_of _ (by decide +kernel)) ggX4_callTo_X0_stacks
theorem dX4_callTo_0 : decode cX4_callTo 0 = .ok (.aload_n 0, 1) := by decide +kernel
theorem dX4_callTo_1 : decode cX4_callTo 1 = .ok (.getfield 16, 3) := by decide +kernel
theorem dX4_callTo_4 : decode cX4_callTo 4 = .ok (.iload_n 2, 1) := by decide +kernel
theorem dX4_callTo_5 : decode cX4_callTo 5 = .ok (.sipush 1023, 3) := by decide +kernel
theorem dX4_callTo_8 : decode cX4_callTo 8 = .ok (.iand, 1) := by decide +kernel
theorem dX4_callTo_9 : decode cX4_callTo 9 = .ok (.invokevirtual 91, 3) := by decide +kernel
theorem dX4_callTo_12 : decode cX4_callTo 12 = .ok (.ifCond .ne 5, 3) := by decide +kernel
theorem dX4_callTo_15 : decode cX4_callTo 15 = .ok (.iconst 3, 1) := by decide +kernel
theorem dX4_callTo_16 : decode cX4_callTo 16 = .ok (.ireturn, 1) := by decide +kernel
theorem dX4_callTo_17 : decode cX4_callTo 17 = .ok (.aload_n 0, 1) := by decide +kernel
theorem dX4_callTo_18 : decode cX4_callTo 18 = .ok (.getfield 29, 3) := by decide +kernel
theorem dX4_callTo_21 : decode cX4_callTo 21 = .ok (.bipush 6, 2) := by decide +kernel
theorem dX4_callTo_23 : decode cX4_callTo 23 = .ok (.dup2, 1) := by decide +kernel
theorem dX4_callTo_24 : decode cX4_callTo 24 = .ok (.iaload, 1) := by decide +kernel
theorem dX4_callTo_25 : decode cX4_callTo 25 = .ok (.iconst 1, 1) := by decide +kernel
theorem dX4_callTo_26 : decode cX4_callTo 26 = .ok (.iadd, 1) := by decide +kernel
theorem dX4_callTo_27 : decode cX4_callTo 27 = .ok (.iastore, 1) := by decide +kernel
theorem dX4_callTo_28 : decode cX4_callTo 28 = .ok (.aload_n 0, 1) := by decide +kernel
theorem dX4_callTo_29 : decode cX4_callTo 29 = .ok (.iload_n 1, 1) := by decide +kernel
theorem dX4_callTo_30 : decode cX4_callTo 30 = .ok (.sipush 1023, 3) := by decide +kernel
theorem dX4_callTo_33 : decode cX4_callTo 33 = .ok (.iand, 1) := by decide +kernel
theorem dX4_callTo_34 : decode cX4_callTo 34 = .ok (.putfield 32, 3) := by decide +kernel
theorem dX4_callTo_37 : decode cX4_callTo 37 = .ok (.iconst 0, 1) := by decide +kernel
theorem dX4_callTo_38 : decode cX4_callTo 38 = .ok (.ireturn, 1) := by decide +kernel
set_option maxRecDepth 20000 in
theorem ggX4_skip_X4_onward : GoodIn wsX4_skip wsX4_onward := goodIn_r _ [7, 1, 21, 22, 23, 24, 25, 26, 27, 28] (by decide +kernel) (by decide +kernel)
set_option maxRecDepth 20000 in
theorem gX4_skip_X4_onward : GoodIn wsX4_skip (wsV RX4 102 RX4 yX4_onward wsX4_onward) := goodIn_app (goodIn_of _ (by decide +kernel)) ggX4_skip_X4_onward
set_option maxRecDepth 20000 in
theorem ggX4_skip_X4_cellAt : GoodIn wsX4_skip wsX4_cellAt := goodIn_r _ [11, 12, 21, 22, 23, 24, 25, 26, 27, 28] (by decide +kernel) (by decide +kernel)
set_option maxRecDepth 20000 in
theorem gX4_skip_X4_cellAt : GoodIn wsX4_skip (wsV RX4 51 RX4 yX4_cellAt wsX4_cellAt) := goodIn_app (goodIn_of _ (by decide +kernel)) ggX4_skip_X4_cellAt
set_option maxRecDepth 20000 in
theorem ggX4_skip_X3_hasNext : GoodIn wsX4_skip wsX3_hasNext := goodIn_r _ [16, 17, 18, 19, 20] (by decide +kernel) (by decide +kernel)
set_option maxRecDepth 20000 in
theorem gX4_skip_X3_hasNext : GoodIn wsX4_skip (va_wsS RX4 74 yX3_hasNext wsX3_hasNext) := goodIn_app (goodIn_of _ (by decide +kernel)) ggX4_skip_X3_hasNext
theorem dX4_skip_0 : decode cX4_skip 0 = .ok (.iload_n 1, 1) := by decide +kernel
theorem dX4_skip_1 : decode cX4_skip 1 = .ok (.ifCond .ne 9, 3) := by decide +kernel
theorem dX4_skip_4 : decode cX4_skip 4 = .ok (.aload_n 0, 1) := by decide +kernel
theorem dX4_skip_5 : decode cX4_skip 5 = .ok (.iconst 1, 1) := by decide +kernel
theorem dX4_skip_6 : decode cX4_skip 6 = .ok (.invokevirtual 102, 3) := by decide +kernel
theorem dX4_skip_9 : decode cX4_skip 9 = .ok (.ireturn, 1) := by decide +kernel
theorem dX4_skip_10 : decode cX4_skip 10 = .ok (.aload_n 0, 1) := by decide +kernel
theorem dX4_skip_11 : decode cX4_skip 11 = .ok (.aload_n 0, 1) := by decide +kernel
theorem dX4_skip_12 : decode cX4_skip 12 = .ok (.getfield 32, 3) := by decide +kernel
theorem dX4_skip_15 : decode cX4_skip 15 = .ok (.iconst 1, 1) := by decide +kernel
theorem dX4_skip_16 : decode cX4_skip 16 = .ok (.iadd, 1) := by decide +kernel
theorem dX4_skip_17 : decode cX4_skip 17 = .ok (.invokevirtual 51, 3) := by decide +kernel
theorem dX4_skip_20 : decode cX4_skip 20 = .ok (.invokestatic 74, 3) := by decide +kernel
theorem dX4_skip_23 : decode cX4_skip 23 = .ok (.ifCond .eq 19, 3) := by decide +kernel
theorem dX4_skip_26 : decode cX4_skip 26 = .ok (.aload_n 0, 1) := by decide +kernel
theorem dX4_skip_27 : decode cX4_skip 27 = .ok (.getfield 29, 3) := by decide +kernel
theorem dX4_skip_30 : decode cX4_skip 30 = .ok (.iconst 5, 1) := by decide +kernel
theorem dX4_skip_31 : decode cX4_skip 31 = .ok (.dup2, 1) := by decide +kernel
theorem dX4_skip_32 : decode cX4_skip 32 = .ok (.iaload, 1) := by decide +kernel
theorem dX4_skip_33 : decode cX4_skip 33 = .ok (.iconst 1, 1) := by decide +kernel
theorem dX4_skip_34 : decode cX4_skip 34 = .ok (.iadd, 1) := by decide +kernel
theorem dX4_skip_35 : decode cX4_skip 35 = .ok (.iastore, 1) := by decide +kernel
theorem dX4_skip_36 : decode cX4_skip 36 = .ok (.aload_n 0, 1) := by decide +kernel
theorem dX4_skip_37 : decode cX4_skip 37 = .ok (.iconst 3, 1) := by decide +kernel
theorem dX4_skip_38 : decode cX4_skip 38 = .ok (.invokevirtual 102, 3) := by decide +kernel
theorem dX4_skip_41 : decode cX4_skip 41 = .ok (.ireturn, 1) := by decide +kernel
theorem dX4_skip_42 : decode cX4_skip 42 = .ok (.aload_n 0, 1) := by decide +kernel
theorem dX4_skip_43 : decode cX4_skip 43 = .ok (.getfield 29, 3) := by decide +kernel
theorem dX4_skip_46 : decode cX4_skip 46 = .ok (.iconst 4, 1) := by decide +kernel
theorem dX4_skip_47 : decode cX4_skip 47 = .ok (.dup2, 1) := by decide +kernel
theorem dX4_skip_48 : decode cX4_skip 48 = .ok (.iaload, 1) := by decide +kernel
theorem dX4_skip_49 : decode cX4_skip 49 = .ok (.iconst 1, 1) := by decide +kernel
theorem dX4_skip_50 : decode cX4_skip 50 = .ok (.iadd, 1) := by decide +kernel
theorem dX4_skip_51 : decode cX4_skip 51 = .ok (.iastore, 1) := by decide +kernel
theorem dX4_skip_52 : decode cX4_skip 52 = .ok (.aload_n 0, 1) := by decide +kernel
theorem dX4_skip_53 : decode cX4_skip 53 = .ok (.iconst 2, 1) := by decide +kernel
theorem dX4_skip_54 : decode cX4_skip 54 = .ok (.invokevirtual 102, 3) := by decide +kernel
theorem dX4_skip_57 : decode cX4_skip 57 = .ok (.ireturn, 1) := by decide +kernel
set_option maxRecDepth 20000 in
theorem ggX4_movePair_X0_pair : GoodIn wsX4_movePair wsX0_pair := goodIn_r _ [6, 7, 26] (by decide +kernel) (by decide +kernel)
set_option maxRecDepth 20000 in
theorem gX4_movePair_X0_pair : GoodIn wsX4_movePair (wsV RX4 62 RX0 yX0_pair wsX0_pair) := goodIn_app (goodIn_of _ (by decide +kernel)) ggX4_movePair_X0_pair
set_option maxRecDepth 20000 in
theorem ggX4_movePair_X0_setPair : GoodIn wsX4_movePair wsX0_setPair := goodIn_r _ [11, 7, 26] (by decide +kernel) (by decide +kernel)
set_option maxRecDepth 20000 in
theorem gX4_movePair_X0_setPair : GoodIn wsX4_movePair (wsV RX4 170 RX0 yX0_setPair wsX0_setPair) := goodIn_app (goodIn_of _ (by decide +kernel)) ggX4_movePair_X0_setPair
set_option maxRecDepth 20000 in
theorem ggX4_movePair_X4_onward : GoodIn wsX4_movePair wsX4_onward := goodIn_r _ [16, 17, 18, 19, 20, 21, 22, 23, 24, 25] (by decide +kernel) (by decide +kernel)
set_option maxRecDepth 20000 in
theorem gX4_movePair_X4_onward : GoodIn wsX4_movePair (wsV RX4 102 RX4 yX4_onward wsX4_onward) := goodIn_app (goodIn_of _ (by decide +kernel)) ggX4_movePair_X4_onward
theorem dX4_movePair_0 : decode cX4_movePair 0 = .ok (.aload_n 0, 1) := by decide +kernel
theorem dX4_movePair_1 : decode cX4_movePair 1 = .ok (.getfield 16, 3) := by decide +kernel
theorem dX4_movePair_4 : decode cX4_movePair 4 = .ok (.iconst 2, 1) := by decide +kernel
theorem dX4_movePair_5 : decode cX4_movePair 5 = .ok (.iload_n 1, 1) := by decide +kernel
theorem dX4_movePair_6 : decode cX4_movePair 6 = .ok (.iconst 4, 1) := by decide +kernel
theorem dX4_movePair_7 : decode cX4_movePair 7 = .ok (.ishr, 1) := by decide +kernel
theorem dX4_movePair_8 : decode cX4_movePair 8 = .ok (.bipush 15, 2) := by decide +kernel
theorem dX4_movePair_10 : decode cX4_movePair 10 = .ok (.iand, 1) := by decide +kernel
theorem dX4_movePair_11 : decode cX4_movePair 11 = .ok (.imul, 1) := by decide +kernel
theorem dX4_movePair_12 : decode cX4_movePair 12 = .ok (.aload_n 0, 1) := by decide +kernel
theorem dX4_movePair_13 : decode cX4_movePair 13 = .ok (.getfield 16, 3) := by decide +kernel
theorem dX4_movePair_16 : decode cX4_movePair 16 = .ok (.iconst 2, 1) := by decide +kernel
theorem dX4_movePair_17 : decode cX4_movePair 17 = .ok (.iload_n 1, 1) := by decide +kernel
theorem dX4_movePair_18 : decode cX4_movePair 18 = .ok (.bipush 15, 2) := by decide +kernel
theorem dX4_movePair_20 : decode cX4_movePair 20 = .ok (.iand, 1) := by decide +kernel
theorem dX4_movePair_21 : decode cX4_movePair 21 = .ok (.imul, 1) := by decide +kernel
theorem dX4_movePair_22 : decode cX4_movePair 22 = .ok (.invokevirtual 62, 3) := by decide +kernel
theorem dX4_movePair_25 : decode cX4_movePair 25 = .ok (.invokevirtual 170, 3) := by decide +kernel
theorem dX4_movePair_28 : decode cX4_movePair 28 = .ok (.aload_n 0, 1) := by decide +kernel
theorem dX4_movePair_29 : decode cX4_movePair 29 = .ok (.iconst 1, 1) := by decide +kernel
theorem dX4_movePair_30 : decode cX4_movePair 30 = .ok (.invokevirtual 102, 3) := by decide +kernel
theorem dX4_movePair_33 : decode cX4_movePair 33 = .ok (.ireturn, 1) := by decide +kernel
set_option maxRecDepth 20000 in
theorem ggX4_multiply_X3_d : GoodIn wsX4_multiply wsX3_d := goodIn_r _ [6] (by decide +kernel) (by decide +kernel)
set_option maxRecDepth 20000 in
theorem gX4_multiply_X3_d : GoodIn wsX4_multiply (va_wsS RX4 173 yX3_d wsX3_d) := goodIn_app (goodIn_of _ (by decide +kernel)) ggX4_multiply_X3_d
set_option maxRecDepth 20000 in
theorem ggX4_multiply_X0_get : GoodIn wsX4_multiply wsX0_get := goodIn_r _ [11, 12, 62] (by decide +kernel) (by decide +kernel)
set_option maxRecDepth 20000 in
theorem gX4_multiply_X0_get : GoodIn wsX4_multiply (wsV RX4 55 RX0 yX0_get wsX0_get) := goodIn_app (goodIn_of _ (by decide +kernel)) ggX4_multiply_X0_get
set_option maxRecDepth 20000 in
theorem ggX4_multiply_X3_r : GoodIn wsX4_multiply wsX3_r := goodIn_r _ [15] (by decide +kernel) (by decide +kernel)
set_option maxRecDepth 20000 in
theorem gX4_multiply_X3_r : GoodIn wsX4_multiply (va_wsS RX4 176 yX3_r wsX3_r) := goodIn_app (goodIn_of _ (by decide +kernel)) ggX4_multiply_X3_r
set_option maxRecDepth 20000 in
theorem ggX4_multiply_X2_product : GoodIn wsX4_multiply wsX2_product := goodIn_r _ [20, 21, 22, 23, 19, 24, 25, 26, 27, 28, 29, 30, 10, 31, 12, 32, 33, 34, 35, 63, 62] (by decide +kernel) (by decide +kernel)
set_option maxRecDepth 20000 in
theorem gX4_multiply_X2_product : GoodIn wsX4_multiply (wsV RX4 179 RX2 yX2_product wsX2_product) := goodIn_app (goodIn_of _ (by decide +kernel)) ggX4_multiply_X2_product
set_option maxRecDepth 20000 in
theorem ggX4_multiply_X0_signed : GoodIn wsX4_multiply wsX0_signed := goodIn_r _ [39, 12, 62] (by decide +kernel) (by decide +kernel)
set_option maxRecDepth 20000 in
theorem gX4_multiply_X0_signed : GoodIn wsX4_multiply (wsV RX4 183 RX0 yX0_signed wsX0_signed) := goodIn_app (goodIn_of _ (by decide +kernel)) ggX4_multiply_X0_signed
set_option maxRecDepth 20000 in
theorem ggX4_multiply_X4_multiplyFew : GoodIn wsX4_multiply wsX4_multiplyFew := goodIn_r _ [44, 1, 2, 36, 37, 38, 10, 39, 12, 7, 8, 9, 11, 16, 17, 18, 19, 20, 21, 22, 23, 24, 25, 26, 27, 28, 29, 30, 31, 32, 33, 34, 35, 45, 46, 47, 48, 54, 55, 56, 57, 58, 59, 60, 61, 62, 63] (by decide +kernel) (by decide +kernel)
set_option maxRecDepth 20000 in
theorem gX4_multiply_X4_multiplyFew : GoodIn wsX4_multiply (wsV RX4 186 RX4 yX4_multiplyFew wsX4_multiplyFew) := goodIn_app (goodIn_of _ (by decide +kernel)) ggX4_multiply_X4_multiplyFew
set_option maxRecDepth 20000 in
theorem ggX4_multiply_X4_onward : GoodIn wsX4_multiply wsX4_onward := goodIn_r _ [52, 53, 54, 55, 56, 57, 58, 59, 60, 61] (by decide +kernel) (by decide +kernel)
set_option maxRecDepth 20000 in
theorem gX4_multiply_X4_onward : GoodIn wsX4_multiply (wsV RX4 102 RX4 yX4_onward wsX4_onward) := goodIn_app (goodIn_of _ (by decide +kernel)) ggX4_multiply_X4_onward
theorem dX4_multiply_0 : decode cX4_multiply 0 = .ok (.iload_n 1, 1) := by decide +kernel
theorem dX4_multiply_1 : decode cX4_multiply 1 = .ok (.bipush 12, 2) := by decide +kernel
theorem dX4_multiply_3 : decode cX4_multiply 3 = .ok (.ishr, 1) := by decide +kernel
theorem dX4_multiply_4 : decode cX4_multiply 4 = .ok (.bipush 9, 2) := by decide +kernel
theorem dX4_multiply_6 : decode cX4_multiply 6 = .ok (.if_icmp .ne 36, 3) := by decide +kernel
theorem dX4_multiply_9 : decode cX4_multiply 9 = .ok (.aload_n 0, 1) := by decide +kernel
theorem dX4_multiply_10 : decode cX4_multiply 10 = .ok (.getfield 25, 3) := by decide +kernel
theorem dX4_multiply_13 : decode cX4_multiply 13 = .ok (.aload_n 0, 1) := by decide +kernel
theorem dX4_multiply_14 : decode cX4_multiply 14 = .ok (.getfield 16, 3) := by decide +kernel
theorem dX4_multiply_17 : decode cX4_multiply 17 = .ok (.iload_n 1, 1) := by decide +kernel
theorem dX4_multiply_18 : decode cX4_multiply 18 = .ok (.invokestatic 173, 3) := by decide +kernel
theorem dX4_multiply_21 : decode cX4_multiply 21 = .ok (.invokevirtual 55, 3) := by decide +kernel
theorem dX4_multiply_24 : decode cX4_multiply 24 = .ok (.aload_n 0, 1) := by decide +kernel
theorem dX4_multiply_25 : decode cX4_multiply 25 = .ok (.getfield 16, 3) := by decide +kernel
theorem dX4_multiply_28 : decode cX4_multiply 28 = .ok (.iload_n 1, 1) := by decide +kernel
theorem dX4_multiply_29 : decode cX4_multiply 29 = .ok (.invokestatic 176, 3) := by decide +kernel
theorem dX4_multiply_32 : decode cX4_multiply 32 = .ok (.invokevirtual 55, 3) := by decide +kernel
theorem dX4_multiply_35 : decode cX4_multiply 35 = .ok (.imul, 1) := by decide +kernel
theorem dX4_multiply_36 : decode cX4_multiply 36 = .ok (.invokevirtual 179, 3) := by decide +kernel
theorem dX4_multiply_39 : decode cX4_multiply 39 = .ok (.goto 73, 3) := by decide +kernel
theorem dX4_multiply_42 : decode cX4_multiply 42 = .ok (.iload_n 1, 1) := by decide +kernel
theorem dX4_multiply_43 : decode cX4_multiply 43 = .ok (.bipush 8, 2) := by decide +kernel
theorem dX4_multiply_45 : decode cX4_multiply 45 = .ok (.ishr, 1) := by decide +kernel
theorem dX4_multiply_46 : decode cX4_multiply 46 = .ok (.iconst 2, 1) := by decide +kernel
theorem dX4_multiply_47 : decode cX4_multiply 47 = .ok (.if_icmp .ne 44, 3) := by decide +kernel
theorem dX4_multiply_50 : decode cX4_multiply 50 = .ok (.aload_n 0, 1) := by decide +kernel
theorem dX4_multiply_51 : decode cX4_multiply 51 = .ok (.getfield 25, 3) := by decide +kernel
theorem dX4_multiply_54 : decode cX4_multiply 54 = .ok (.aload_n 0, 1) := by decide +kernel
theorem dX4_multiply_55 : decode cX4_multiply 55 = .ok (.getfield 16, 3) := by decide +kernel
theorem dX4_multiply_58 : decode cX4_multiply 58 = .ok (.bipush 16, 2) := by decide +kernel
theorem dX4_multiply_60 : decode cX4_multiply 60 = .ok (.iload_n 1, 1) := by decide +kernel
theorem dX4_multiply_61 : decode cX4_multiply 61 = .ok (.iconst 4, 1) := by decide +kernel
theorem dX4_multiply_62 : decode cX4_multiply 62 = .ok (.ishr, 1) := by decide +kernel
theorem dX4_multiply_63 : decode cX4_multiply 63 = .ok (.bipush 15, 2) := by decide +kernel
theorem dX4_multiply_65 : decode cX4_multiply 65 = .ok (.iand, 1) := by decide +kernel
theorem dX4_multiply_66 : decode cX4_multiply 66 = .ok (.iadd, 1) := by decide +kernel
theorem dX4_multiply_67 : decode cX4_multiply 67 = .ok (.invokevirtual 183, 3) := by decide +kernel
theorem dX4_multiply_70 : decode cX4_multiply 70 = .ok (.aload_n 0, 1) := by decide +kernel
theorem dX4_multiply_71 : decode cX4_multiply 71 = .ok (.getfield 16, 3) := by decide +kernel
theorem dX4_multiply_74 : decode cX4_multiply 74 = .ok (.bipush 16, 2) := by decide +kernel
theorem dX4_multiply_76 : decode cX4_multiply 76 = .ok (.iload_n 1, 1) := by decide +kernel
theorem dX4_multiply_77 : decode cX4_multiply 77 = .ok (.bipush 15, 2) := by decide +kernel
theorem dX4_multiply_79 : decode cX4_multiply 79 = .ok (.iand, 1) := by decide +kernel
theorem dX4_multiply_80 : decode cX4_multiply 80 = .ok (.iadd, 1) := by decide +kernel
theorem dX4_multiply_81 : decode cX4_multiply 81 = .ok (.invokevirtual 183, 3) := by decide +kernel
theorem dX4_multiply_84 : decode cX4_multiply 84 = .ok (.imul, 1) := by decide +kernel
theorem dX4_multiply_85 : decode cX4_multiply 85 = .ok (.invokevirtual 179, 3) := by decide +kernel
theorem dX4_multiply_88 : decode cX4_multiply 88 = .ok (.goto 24, 3) := by decide +kernel
theorem dX4_multiply_91 : decode cX4_multiply 91 = .ok (.aload_n 0, 1) := by decide +kernel
theorem dX4_multiply_92 : decode cX4_multiply 92 = .ok (.iload_n 1, 1) := by decide +kernel
theorem dX4_multiply_93 : decode cX4_multiply 93 = .ok (.bipush 16, 2) := by decide +kernel
theorem dX4_multiply_95 : decode cX4_multiply 95 = .ok (.iload_n 1, 1) := by decide +kernel
theorem dX4_multiply_96 : decode cX4_multiply 96 = .ok (.iconst 4, 1) := by decide +kernel
theorem dX4_multiply_97 : decode cX4_multiply 97 = .ok (.ishr, 1) := by decide +kernel
theorem dX4_multiply_98 : decode cX4_multiply 98 = .ok (.bipush 7, 2) := by decide +kernel
theorem dX4_multiply_100 : decode cX4_multiply 100 = .ok (.iand, 1) := by decide +kernel
theorem dX4_multiply_101 : decode cX4_multiply 101 = .ok (.iadd, 1) := by decide +kernel
theorem dX4_multiply_102 : decode cX4_multiply 102 = .ok (.bipush 16, 2) := by decide +kernel
theorem dX4_multiply_104 : decode cX4_multiply 104 = .ok (.iload_n 1, 1) := by decide +kernel
theorem dX4_multiply_105 : decode cX4_multiply 105 = .ok (.bipush 7, 2) := by decide +kernel
theorem dX4_multiply_107 : decode cX4_multiply 107 = .ok (.iand, 1) := by decide +kernel
theorem dX4_multiply_108 : decode cX4_multiply 108 = .ok (.iadd, 1) := by decide +kernel
theorem dX4_multiply_109 : decode cX4_multiply 109 = .ok (.invokevirtual 186, 3) := by decide +kernel
theorem dX4_multiply_112 : decode cX4_multiply 112 = .ok (.aload_n 0, 1) := by decide +kernel
theorem dX4_multiply_113 : decode cX4_multiply 113 = .ok (.iconst 1, 1) := by decide +kernel
theorem dX4_multiply_114 : decode cX4_multiply 114 = .ok (.invokevirtual 102, 3) := by decide +kernel
theorem dX4_multiply_117 : decode cX4_multiply 117 = .ok (.ireturn, 1) := by decide +kernel
set_option maxRecDepth 20000 in
theorem ggX4_multiplyFew_X0_signed : GoodIn wsX4_multiplyFew wsX0_signed := goodIn_r _ [7, 8, 45] (by decide +kernel) (by decide +kernel)
set_option maxRecDepth 20000 in
theorem gX4_multiplyFew_X0_signed : GoodIn wsX4_multiplyFew (wsV RX4 183 RX0 yX0_signed wsX0_signed) := goodIn_app (goodIn_of _ (by decide +kernel)) ggX4_multiplyFew_X0_signed
set_option maxRecDepth 20000 in
theorem ggX4_multiplyFew_X0_get : GoodIn wsX4_multiplyFew wsX0_get := goodIn_r _ [12, 8, 45] (by decide +kernel) (by decide +kernel)
set_option maxRecDepth 20000 in
theorem gX4_multiplyFew_X0_get : GoodIn wsX4_multiplyFew (wsV RX4 55 RX0 yX0_get wsX0_get) := goodIn_app (goodIn_of _ (by decide +kernel)) ggX4_multiplyFew_X0_get
set_option maxRecDepth 20000 in
theorem ggX4_multiplyFew_X2_product : GoodIn wsX4_multiplyFew wsX2_product := goodIn_r _ [17, 18, 19, 20, 16, 21, 22, 23, 24, 25, 26, 27, 6, 28, 8, 29, 30, 31, 32, 46, 45] (by decide +kernel) (by decide +kernel)
set_option maxRecDepth 20000 in
theorem gX4_multiplyFew_X2_product : GoodIn wsX4_multiplyFew (wsV RX4 179 RX2 yX2_product wsX2_product) := goodIn_app (goodIn_of _ (by decide +kernel)) ggX4_multiplyFew_X2_product
set_option maxRecDepth 20000 in
theorem ggX4_multiplyFew_X2_fraction : GoodIn wsX4_multiplyFew wsX2_fraction := goodIn_r _ [36, 18, 19, 20, 16, 21, 22, 23, 24, 25, 26, 27, 6, 28, 8, 29, 30, 31, 32, 46, 45] (by decide +kernel) (by decide +kernel)
set_option maxRecDepth 20000 in
theorem gX4_multiplyFew_X2_fraction : GoodIn wsX4_multiplyFew (wsV RX4 190 RX2 yX2_fraction wsX2_fraction) := goodIn_app (goodIn_of _ (by decide +kernel)) ggX4_multiplyFew_X2_fraction
theorem dX4_multiplyFew_0 : decode cX4_multiplyFew 0 = .ok (.iload_n 1, 1) := by decide +kernel
theorem dX4_multiplyFew_1 : decode cX4_multiplyFew 1 = .ok (.sipush 136, 3) := by decide +kernel
theorem dX4_multiplyFew_4 : decode cX4_multiplyFew 4 = .ok (.iand, 1) := by decide +kernel
theorem dX4_multiplyFew_5 : decode cX4_multiplyFew 5 = .ok (.lookupswitch 116 #[(0, 35), (8, 62), (128, 89)], 35) := by decide +kernel
theorem dX4_multiplyFew_40 : decode cX4_multiplyFew 40 = .ok (.aload_n 0, 1) := by decide +kernel
theorem dX4_multiplyFew_41 : decode cX4_multiplyFew 41 = .ok (.getfield 25, 3) := by decide +kernel
theorem dX4_multiplyFew_44 : decode cX4_multiplyFew 44 = .ok (.aload_n 0, 1) := by decide +kernel
theorem dX4_multiplyFew_45 : decode cX4_multiplyFew 45 = .ok (.getfield 16, 3) := by decide +kernel
theorem dX4_multiplyFew_48 : decode cX4_multiplyFew 48 = .ok (.iload_n 2, 1) := by decide +kernel
theorem dX4_multiplyFew_49 : decode cX4_multiplyFew 49 = .ok (.invokevirtual 183, 3) := by decide +kernel
theorem dX4_multiplyFew_52 : decode cX4_multiplyFew 52 = .ok (.aload_n 0, 1) := by decide +kernel
theorem dX4_multiplyFew_53 : decode cX4_multiplyFew 53 = .ok (.getfield 16, 3) := by decide +kernel
theorem dX4_multiplyFew_56 : decode cX4_multiplyFew 56 = .ok (.iload_n 3, 1) := by decide +kernel
theorem dX4_multiplyFew_57 : decode cX4_multiplyFew 57 = .ok (.invokevirtual 55, 3) := by decide +kernel
theorem dX4_multiplyFew_60 : decode cX4_multiplyFew 60 = .ok (.imul, 1) := by decide +kernel
theorem dX4_multiplyFew_61 : decode cX4_multiplyFew 61 = .ok (.invokevirtual 179, 3) := by decide +kernel
theorem dX4_multiplyFew_64 : decode cX4_multiplyFew 64 = .ok (.goto 81, 3) := by decide +kernel
theorem dX4_multiplyFew_67 : decode cX4_multiplyFew 67 = .ok (.aload_n 0, 1) := by decide +kernel
theorem dX4_multiplyFew_68 : decode cX4_multiplyFew 68 = .ok (.getfield 25, 3) := by decide +kernel
theorem dX4_multiplyFew_71 : decode cX4_multiplyFew 71 = .ok (.aload_n 0, 1) := by decide +kernel
theorem dX4_multiplyFew_72 : decode cX4_multiplyFew 72 = .ok (.getfield 16, 3) := by decide +kernel
theorem dX4_multiplyFew_75 : decode cX4_multiplyFew 75 = .ok (.iload_n 2, 1) := by decide +kernel
theorem dX4_multiplyFew_76 : decode cX4_multiplyFew 76 = .ok (.invokevirtual 55, 3) := by decide +kernel
theorem dX4_multiplyFew_79 : decode cX4_multiplyFew 79 = .ok (.aload_n 0, 1) := by decide +kernel
theorem dX4_multiplyFew_80 : decode cX4_multiplyFew 80 = .ok (.getfield 16, 3) := by decide +kernel
theorem dX4_multiplyFew_83 : decode cX4_multiplyFew 83 = .ok (.iload_n 3, 1) := by decide +kernel
theorem dX4_multiplyFew_84 : decode cX4_multiplyFew 84 = .ok (.invokevirtual 55, 3) := by decide +kernel
theorem dX4_multiplyFew_87 : decode cX4_multiplyFew 87 = .ok (.imul, 1) := by decide +kernel
theorem dX4_multiplyFew_88 : decode cX4_multiplyFew 88 = .ok (.invokevirtual 190, 3) := by decide +kernel
theorem dX4_multiplyFew_91 : decode cX4_multiplyFew 91 = .ok (.goto 54, 3) := by decide +kernel
theorem dX4_multiplyFew_94 : decode cX4_multiplyFew 94 = .ok (.aload_n 0, 1) := by decide +kernel
theorem dX4_multiplyFew_95 : decode cX4_multiplyFew 95 = .ok (.getfield 25, 3) := by decide +kernel
theorem dX4_multiplyFew_98 : decode cX4_multiplyFew 98 = .ok (.aload_n 0, 1) := by decide +kernel
theorem dX4_multiplyFew_99 : decode cX4_multiplyFew 99 = .ok (.getfield 16, 3) := by decide +kernel
theorem dX4_multiplyFew_102 : decode cX4_multiplyFew 102 = .ok (.iload_n 2, 1) := by decide +kernel
theorem dX4_multiplyFew_103 : decode cX4_multiplyFew 103 = .ok (.invokevirtual 183, 3) := by decide +kernel
theorem dX4_multiplyFew_106 : decode cX4_multiplyFew 106 = .ok (.aload_n 0, 1) := by decide +kernel
theorem dX4_multiplyFew_107 : decode cX4_multiplyFew 107 = .ok (.getfield 16, 3) := by decide +kernel
theorem dX4_multiplyFew_110 : decode cX4_multiplyFew 110 = .ok (.iload_n 3, 1) := by decide +kernel
theorem dX4_multiplyFew_111 : decode cX4_multiplyFew 111 = .ok (.invokevirtual 183, 3) := by decide +kernel
theorem dX4_multiplyFew_114 : decode cX4_multiplyFew 114 = .ok (.imul, 1) := by decide +kernel
theorem dX4_multiplyFew_115 : decode cX4_multiplyFew 115 = .ok (.invokevirtual 190, 3) := by decide +kernel
theorem dX4_multiplyFew_118 : decode cX4_multiplyFew 118 = .ok (.goto 27, 3) := by decide +kernel
theorem dX4_multiplyFew_121 : decode cX4_multiplyFew 121 = .ok (.aload_n 0, 1) := by decide +kernel
theorem dX4_multiplyFew_122 : decode cX4_multiplyFew 122 = .ok (.getfield 25, 3) := by decide +kernel
theorem dX4_multiplyFew_125 : decode cX4_multiplyFew 125 = .ok (.aload_n 0, 1) := by decide +kernel
theorem dX4_multiplyFew_126 : decode cX4_multiplyFew 126 = .ok (.getfield 16, 3) := by decide +kernel
theorem dX4_multiplyFew_129 : decode cX4_multiplyFew 129 = .ok (.iload_n 2, 1) := by decide +kernel
theorem dX4_multiplyFew_130 : decode cX4_multiplyFew 130 = .ok (.invokevirtual 183, 3) := by decide +kernel
theorem dX4_multiplyFew_133 : decode cX4_multiplyFew 133 = .ok (.aload_n 0, 1) := by decide +kernel
theorem dX4_multiplyFew_134 : decode cX4_multiplyFew 134 = .ok (.getfield 16, 3) := by decide +kernel
theorem dX4_multiplyFew_137 : decode cX4_multiplyFew 137 = .ok (.iload_n 3, 1) := by decide +kernel
theorem dX4_multiplyFew_138 : decode cX4_multiplyFew 138 = .ok (.invokevirtual 55, 3) := by decide +kernel
theorem dX4_multiplyFew_141 : decode cX4_multiplyFew 141 = .ok (.imul, 1) := by decide +kernel
theorem dX4_multiplyFew_142 : decode cX4_multiplyFew 142 = .ok (.invokevirtual 190, 3) := by decide +kernel
theorem dX4_multiplyFew_145 : decode cX4_multiplyFew 145 = .ok (.return_, 1) := by decide +kernel
set_option maxRecDepth 20000 in
theorem ggX4_combine_X3_d : GoodIn wsX4_combine wsX3_d := goodIn_r _ [6] (by decide +kernel) (by decide +kernel)
set_option maxRecDepth 20000 in
theorem gX4_combine_X3_d : GoodIn wsX4_combine (va_wsS RX4 173 yX3_d wsX3_d) := goodIn_app (goodIn_of _ (by decide +kernel)) ggX4_combine_X3_d
set_option maxRecDepth 20000 in
theorem ggX4_combine_X0_get : GoodIn wsX4_combine wsX0_get := goodIn_r _ [11, 12, 85] (by decide +kernel) (by decide +kernel)
set_option maxRecDepth 20000 in
theorem gX4_combine_X0_get : GoodIn wsX4_combine (wsV RX4 55 RX0 yX0_get wsX0_get) := goodIn_app (goodIn_of _ (by decide +kernel)) ggX4_combine_X0_get
set_option maxRecDepth 20000 in
theorem ggX4_combine_X3_r : GoodIn wsX4_combine wsX3_r := goodIn_r _ [15] (by decide +kernel) (by decide +kernel)
set_option maxRecDepth 20000 in
theorem gX4_combine_X3_r : GoodIn wsX4_combine (va_wsS RX4 176 yX3_r wsX3_r) := goodIn_app (goodIn_of _ (by decide +kernel)) ggX4_combine_X3_r
set_option maxRecDepth 20000 in
theorem ggX4_combine_X0_flag : GoodIn wsX4_combine wsX0_flag := goodIn_r _ [19, 12, 85] (by decide +kernel) (by decide +kernel)
set_option maxRecDepth 20000 in
theorem gX4_combine_X0_flag : GoodIn wsX4_combine (wsV RX4 80 RX0 yX0_flag wsX0_flag) := goodIn_app (goodIn_of _ (by decide +kernel)) ggX4_combine_X0_flag
set_option maxRecDepth 20000 in
theorem ggX4_combine_X2_differenceOn : GoodIn wsX4_combine wsX2_differenceOn := goodIn_r _ [24, 25, 26, 17, 18, 10, 19, 12, 27, 28, 29, 23, 30, 31, 32, 33, 34, 35, 36, 37, 86, 85] (by decide +kernel) (by decide +kernel)
set_option maxRecDepth 20000 in
theorem gX4_combine_X2_differenceOn : GoodIn wsX4_combine (wsV RX4 193 RX2 yX2_differenceOn wsX2_differenceOn) := goodIn_app (goodIn_of _ (by decide +kernel)) ggX4_combine_X2_differenceOn
set_option maxRecDepth 20000 in
theorem ggX4_combine_X0_set : GoodIn wsX4_combine wsX0_set := goodIn_r _ [41, 12, 85] (by decide +kernel) (by decide +kernel)
set_option maxRecDepth 20000 in
theorem gX4_combine_X0_set : GoodIn wsX4_combine (wsV RX4 58 RX0 yX0_set wsX0_set) := goodIn_app (goodIn_of _ (by decide +kernel)) ggX4_combine_X0_set
set_option maxRecDepth 20000 in
theorem ggX4_combine_X2_sum : GoodIn wsX4_combine wsX2_sum := goodIn_r _ [45, 25, 31, 32, 23, 33, 34, 35, 36, 10, 37, 12, 86, 85] (by decide +kernel) (by decide +kernel)
set_option maxRecDepth 20000 in
theorem gX4_combine_X2_sum : GoodIn wsX4_combine (wsV RX4 197 RX2 yX2_sum wsX2_sum) := goodIn_app (goodIn_of _ (by decide +kernel)) ggX4_combine_X2_sum
set_option maxRecDepth 20000 in
theorem ggX4_combine_X4_skip : GoodIn wsX4_combine wsX4_skip := goodIn_r _ [50, 51, 52, 53, 54, 55, 49, 56, 57, 58, 59, 60, 61, 62, 63, 5, 64, 65, 66, 67, 68, 77, 78, 79, 80, 81, 82, 83, 84] (by decide +kernel) (by decide +kernel)
set_option maxRecDepth 20000 in
theorem gX4_combine_X4_skip : GoodIn wsX4_combine (wsV RX4 200 RX4 yX4_skip wsX4_skip) := goodIn_app (goodIn_of _ (by decide +kernel)) ggX4_combine_X4_skip
set_option maxRecDepth 20000 in
theorem ggX4_combine_X2_difference : GoodIn wsX4_combine wsX2_difference := goodIn_r _ [72, 27, 28, 29, 23, 30, 25, 31, 32, 33, 34, 35, 36, 10, 37, 12, 86, 85] (by decide +kernel) (by decide +kernel)
set_option maxRecDepth 20000 in
theorem gX4_combine_X2_difference : GoodIn wsX4_combine (wsV RX4 204 RX2 yX2_difference wsX2_difference) := goodIn_app (goodIn_of _ (by decide +kernel)) ggX4_combine_X2_difference
set_option maxRecDepth 20000 in
theorem ggX4_combine_X2_logic : GoodIn wsX4_combine wsX2_logic := goodIn_r _ [76, 25, 31, 32, 23, 33, 34, 35, 36, 10, 37, 12, 86, 85] (by decide +kernel) (by decide +kernel)
set_option maxRecDepth 20000 in
theorem gX4_combine_X2_logic : GoodIn wsX4_combine (wsV RX4 208 RX2 yX2_logic wsX2_logic) := goodIn_app (goodIn_of _ (by decide +kernel)) ggX4_combine_X2_logic
set_option maxRecDepth 20000 in
theorem ggX4_combine_X4_onward : GoodIn wsX4_combine wsX4_onward := goodIn_r _ [56, 51, 77, 78, 79, 80, 81, 82, 83, 84] (by decide +kernel) (by decide +kernel)
set_option maxRecDepth 20000 in
theorem gX4_combine_X4_onward : GoodIn wsX4_combine (wsV RX4 102 RX4 yX4_onward wsX4_onward) := goodIn_app (goodIn_of _ (by decide +kernel)) ggX4_combine_X4_onward
theorem dX4_combine_0 : decode cX4_combine 0 = .ok (.iload_n 1, 1) := by decide +kernel
theorem dX4_combine_1 : decode cX4_combine 1 = .ok (.invokestatic 173, 3) := by decide +kernel
theorem dX4_combine_4 : decode cX4_combine 4 = .ok (.istore_n 2, 1) := by decide +kernel
theorem dX4_combine_5 : decode cX4_combine 5 = .ok (.aload_n 0, 1) := by decide +kernel
theorem dX4_combine_6 : decode cX4_combine 6 = .ok (.getfield 16, 3) := by decide +kernel
theorem dX4_combine_9 : decode cX4_combine 9 = .ok (.iload_n 2, 1) := by decide +kernel
theorem dX4_combine_10 : decode cX4_combine 10 = .ok (.invokevirtual 55, 3) := by decide +kernel
theorem dX4_combine_13 : decode cX4_combine 13 = .ok (.istore_n 3, 1) := by decide +kernel
theorem dX4_combine_14 : decode cX4_combine 14 = .ok (.aload_n 0, 1) := by decide +kernel
theorem dX4_combine_15 : decode cX4_combine 15 = .ok (.getfield 16, 3) := by decide +kernel
theorem dX4_combine_18 : decode cX4_combine 18 = .ok (.iload_n 1, 1) := by decide +kernel
theorem dX4_combine_19 : decode cX4_combine 19 = .ok (.invokestatic 176, 3) := by decide +kernel
theorem dX4_combine_22 : decode cX4_combine 22 = .ok (.invokevirtual 55, 3) := by decide +kernel
theorem dX4_combine_25 : decode cX4_combine 25 = .ok (.istore 4, 2) := by decide +kernel
theorem dX4_combine_27 : decode cX4_combine 27 = .ok (.aload_n 0, 1) := by decide +kernel
theorem dX4_combine_28 : decode cX4_combine 28 = .ok (.getfield 16, 3) := by decide +kernel
theorem dX4_combine_31 : decode cX4_combine 31 = .ok (.iconst 0, 1) := by decide +kernel
theorem dX4_combine_32 : decode cX4_combine 32 = .ok (.invokevirtual 80, 3) := by decide +kernel
theorem dX4_combine_35 : decode cX4_combine 35 = .ok (.istore 5, 2) := by decide +kernel
theorem dX4_combine_37 : decode cX4_combine 37 = .ok (.iload_n 1, 1) := by decide +kernel
theorem dX4_combine_38 : decode cX4_combine 38 = .ok (.bipush 10, 2) := by decide +kernel
theorem dX4_combine_40 : decode cX4_combine 40 = .ok (.ishr, 1) := by decide +kernel
theorem dX4_combine_41 : decode cX4_combine 41 = .ok (.tableswitch 256 1 10 #[55, 71, 94, 116, 132, 146, 167, 190, 212, 234], 55) := by decide +kernel
theorem dX4_combine_96 : decode cX4_combine 96 = .ok (.aload_n 0, 1) := by decide +kernel
theorem dX4_combine_97 : decode cX4_combine 97 = .ok (.getfield 25, 3) := by decide +kernel
theorem dX4_combine_100 : decode cX4_combine 100 = .ok (.iload_n 3, 1) := by decide +kernel
theorem dX4_combine_101 : decode cX4_combine 101 = .ok (.iload 4, 2) := by decide +kernel
theorem dX4_combine_103 : decode cX4_combine 103 = .ok (.iload 5, 2) := by decide +kernel
theorem dX4_combine_105 : decode cX4_combine 105 = .ok (.invokevirtual 193, 3) := by decide +kernel
theorem dX4_combine_108 : decode cX4_combine 108 = .ok (.pop, 1) := by decide +kernel
theorem dX4_combine_109 : decode cX4_combine 109 = .ok (.goto 198, 3) := by decide +kernel
theorem dX4_combine_112 : decode cX4_combine 112 = .ok (.aload_n 0, 1) := by decide +kernel
theorem dX4_combine_113 : decode cX4_combine 113 = .ok (.getfield 16, 3) := by decide +kernel
theorem dX4_combine_116 : decode cX4_combine 116 = .ok (.iload_n 2, 1) := by decide +kernel
theorem dX4_combine_117 : decode cX4_combine 117 = .ok (.aload_n 0, 1) := by decide +kernel
theorem dX4_combine_118 : decode cX4_combine 118 = .ok (.getfield 25, 3) := by decide +kernel
theorem dX4_combine_121 : decode cX4_combine 121 = .ok (.iload_n 3, 1) := by decide +kernel
theorem dX4_combine_122 : decode cX4_combine 122 = .ok (.iload 4, 2) := by decide +kernel
theorem dX4_combine_124 : decode cX4_combine 124 = .ok (.iload 5, 2) := by decide +kernel
theorem dX4_combine_126 : decode cX4_combine 126 = .ok (.invokevirtual 193, 3) := by decide +kernel
theorem dX4_combine_129 : decode cX4_combine 129 = .ok (.invokevirtual 58, 3) := by decide +kernel
theorem dX4_combine_132 : decode cX4_combine 132 = .ok (.goto 175, 3) := by decide +kernel
theorem dX4_combine_135 : decode cX4_combine 135 = .ok (.aload_n 0, 1) := by decide +kernel
theorem dX4_combine_136 : decode cX4_combine 136 = .ok (.getfield 16, 3) := by decide +kernel
theorem dX4_combine_139 : decode cX4_combine 139 = .ok (.iload_n 2, 1) := by decide +kernel
theorem dX4_combine_140 : decode cX4_combine 140 = .ok (.aload_n 0, 1) := by decide +kernel
theorem dX4_combine_141 : decode cX4_combine 141 = .ok (.getfield 25, 3) := by decide +kernel
theorem dX4_combine_144 : decode cX4_combine 144 = .ok (.iload_n 3, 1) := by decide +kernel
theorem dX4_combine_145 : decode cX4_combine 145 = .ok (.iload 4, 2) := by decide +kernel
theorem dX4_combine_147 : decode cX4_combine 147 = .ok (.iconst 0, 1) := by decide +kernel
theorem dX4_combine_148 : decode cX4_combine 148 = .ok (.invokevirtual 197, 3) := by decide +kernel
theorem dX4_combine_151 : decode cX4_combine 151 = .ok (.invokevirtual 58, 3) := by decide +kernel
theorem dX4_combine_154 : decode cX4_combine 154 = .ok (.goto 153, 3) := by decide +kernel
theorem dX4_combine_157 : decode cX4_combine 157 = .ok (.aload_n 0, 1) := by decide +kernel
theorem dX4_combine_158 : decode cX4_combine 158 = .ok (.iload_n 3, 1) := by decide +kernel
theorem dX4_combine_159 : decode cX4_combine 159 = .ok (.iload 4, 2) := by decide +kernel
theorem dX4_combine_161 : decode cX4_combine 161 = .ok (.if_icmp .ne 7, 3) := by decide +kernel
theorem dX4_combine_164 : decode cX4_combine 164 = .ok (.iconst 1, 1) := by decide +kernel
theorem dX4_combine_165 : decode cX4_combine 165 = .ok (.goto 4, 3) := by decide +kernel
theorem dX4_combine_168 : decode cX4_combine 168 = .ok (.iconst 0, 1) := by decide +kernel
theorem dX4_combine_169 : decode cX4_combine 169 = .ok (.invokevirtual 200, 3) := by decide +kernel
theorem dX4_combine_172 : decode cX4_combine 172 = .ok (.ireturn, 1) := by decide +kernel
theorem dX4_combine_173 : decode cX4_combine 173 = .ok (.aload_n 0, 1) := by decide +kernel
theorem dX4_combine_174 : decode cX4_combine 174 = .ok (.getfield 25, 3) := by decide +kernel
theorem dX4_combine_177 : decode cX4_combine 177 = .ok (.iload_n 3, 1) := by decide +kernel
theorem dX4_combine_178 : decode cX4_combine 178 = .ok (.iload 4, 2) := by decide +kernel
theorem dX4_combine_180 : decode cX4_combine 180 = .ok (.invokevirtual 204, 3) := by decide +kernel
theorem dX4_combine_183 : decode cX4_combine 183 = .ok (.pop, 1) := by decide +kernel
theorem dX4_combine_184 : decode cX4_combine 184 = .ok (.goto 123, 3) := by decide +kernel
theorem dX4_combine_187 : decode cX4_combine 187 = .ok (.aload_n 0, 1) := by decide +kernel
theorem dX4_combine_188 : decode cX4_combine 188 = .ok (.getfield 16, 3) := by decide +kernel
theorem dX4_combine_191 : decode cX4_combine 191 = .ok (.iload_n 2, 1) := by decide +kernel
theorem dX4_combine_192 : decode cX4_combine 192 = .ok (.aload_n 0, 1) := by decide +kernel
theorem dX4_combine_193 : decode cX4_combine 193 = .ok (.getfield 25, 3) := by decide +kernel
theorem dX4_combine_196 : decode cX4_combine 196 = .ok (.iload_n 3, 1) := by decide +kernel
theorem dX4_combine_197 : decode cX4_combine 197 = .ok (.iload 4, 2) := by decide +kernel
theorem dX4_combine_199 : decode cX4_combine 199 = .ok (.invokevirtual 204, 3) := by decide +kernel
theorem dX4_combine_202 : decode cX4_combine 202 = .ok (.invokevirtual 58, 3) := by decide +kernel
theorem dX4_combine_205 : decode cX4_combine 205 = .ok (.goto 102, 3) := by decide +kernel
theorem dX4_combine_208 : decode cX4_combine 208 = .ok (.aload_n 0, 1) := by decide +kernel
theorem dX4_combine_209 : decode cX4_combine 209 = .ok (.getfield 16, 3) := by decide +kernel
theorem dX4_combine_212 : decode cX4_combine 212 = .ok (.iload_n 2, 1) := by decide +kernel
theorem dX4_combine_213 : decode cX4_combine 213 = .ok (.aload_n 0, 1) := by decide +kernel
theorem dX4_combine_214 : decode cX4_combine 214 = .ok (.getfield 25, 3) := by decide +kernel
theorem dX4_combine_217 : decode cX4_combine 217 = .ok (.iload_n 3, 1) := by decide +kernel
theorem dX4_combine_218 : decode cX4_combine 218 = .ok (.iload 4, 2) := by decide +kernel
theorem dX4_combine_220 : decode cX4_combine 220 = .ok (.iload 5, 2) := by decide +kernel
theorem dX4_combine_222 : decode cX4_combine 222 = .ok (.invokevirtual 197, 3) := by decide +kernel
theorem dX4_combine_225 : decode cX4_combine 225 = .ok (.invokevirtual 58, 3) := by decide +kernel
theorem dX4_combine_228 : decode cX4_combine 228 = .ok (.goto 79, 3) := by decide +kernel
theorem dX4_combine_231 : decode cX4_combine 231 = .ok (.aload_n 0, 1) := by decide +kernel
theorem dX4_combine_232 : decode cX4_combine 232 = .ok (.getfield 16, 3) := by decide +kernel
theorem dX4_combine_235 : decode cX4_combine 235 = .ok (.iload_n 2, 1) := by decide +kernel
theorem dX4_combine_236 : decode cX4_combine 236 = .ok (.aload_n 0, 1) := by decide +kernel
theorem dX4_combine_237 : decode cX4_combine 237 = .ok (.getfield 25, 3) := by decide +kernel
theorem dX4_combine_240 : decode cX4_combine 240 = .ok (.iload_n 3, 1) := by decide +kernel
theorem dX4_combine_241 : decode cX4_combine 241 = .ok (.iload 4, 2) := by decide +kernel
theorem dX4_combine_243 : decode cX4_combine 243 = .ok (.iand, 1) := by decide +kernel
theorem dX4_combine_244 : decode cX4_combine 244 = .ok (.invokevirtual 208, 3) := by decide +kernel
theorem dX4_combine_247 : decode cX4_combine 247 = .ok (.invokevirtual 58, 3) := by decide +kernel
theorem dX4_combine_250 : decode cX4_combine 250 = .ok (.goto 57, 3) := by decide +kernel
theorem dX4_combine_253 : decode cX4_combine 253 = .ok (.aload_n 0, 1) := by decide +kernel
theorem dX4_combine_254 : decode cX4_combine 254 = .ok (.getfield 16, 3) := by decide +kernel
theorem dX4_combine_257 : decode cX4_combine 257 = .ok (.iload_n 2, 1) := by decide +kernel
theorem dX4_combine_258 : decode cX4_combine 258 = .ok (.aload_n 0, 1) := by decide +kernel
theorem dX4_combine_259 : decode cX4_combine 259 = .ok (.getfield 25, 3) := by decide +kernel
theorem dX4_combine_262 : decode cX4_combine 262 = .ok (.iload_n 3, 1) := by decide +kernel
theorem dX4_combine_263 : decode cX4_combine 263 = .ok (.iload 4, 2) := by decide +kernel
theorem dX4_combine_265 : decode cX4_combine 265 = .ok (.ixor, 1) := by decide +kernel
theorem dX4_combine_266 : decode cX4_combine 266 = .ok (.invokevirtual 208, 3) := by decide +kernel
theorem dX4_combine_269 : decode cX4_combine 269 = .ok (.invokevirtual 58, 3) := by decide +kernel
theorem dX4_combine_272 : decode cX4_combine 272 = .ok (.goto 35, 3) := by decide +kernel
theorem dX4_combine_275 : decode cX4_combine 275 = .ok (.aload_n 0, 1) := by decide +kernel
theorem dX4_combine_276 : decode cX4_combine 276 = .ok (.getfield 16, 3) := by decide +kernel
theorem dX4_combine_279 : decode cX4_combine 279 = .ok (.iload_n 2, 1) := by decide +kernel
theorem dX4_combine_280 : decode cX4_combine 280 = .ok (.aload_n 0, 1) := by decide +kernel
theorem dX4_combine_281 : decode cX4_combine 281 = .ok (.getfield 25, 3) := by decide +kernel
theorem dX4_combine_284 : decode cX4_combine 284 = .ok (.iload_n 3, 1) := by decide +kernel
theorem dX4_combine_285 : decode cX4_combine 285 = .ok (.iload 4, 2) := by decide +kernel
theorem dX4_combine_287 : decode cX4_combine 287 = .ok (.ior, 1) := by decide +kernel
theorem dX4_combine_288 : decode cX4_combine 288 = .ok (.invokevirtual 208, 3) := by decide +kernel
theorem dX4_combine_291 : decode cX4_combine 291 = .ok (.invokevirtual 58, 3) := by decide +kernel
theorem dX4_combine_294 : decode cX4_combine 294 = .ok (.goto 13, 3) := by decide +kernel
theorem dX4_combine_297 : decode cX4_combine 297 = .ok (.aload_n 0, 1) := by decide +kernel
theorem dX4_combine_298 : decode cX4_combine 298 = .ok (.getfield 16, 3) := by decide +kernel
theorem dX4_combine_301 : decode cX4_combine 301 = .ok (.iload_n 2, 1) := by decide +kernel
theorem dX4_combine_302 : decode cX4_combine 302 = .ok (.iload 4, 2) := by decide +kernel
theorem dX4_combine_304 : decode cX4_combine 304 = .ok (.invokevirtual 58, 3) := by decide +kernel
theorem dX4_combine_307 : decode cX4_combine 307 = .ok (.aload_n 0, 1) := by decide +kernel
theorem dX4_combine_308 : decode cX4_combine 308 = .ok (.iconst 1, 1) := by decide +kernel
theorem dX4_combine_309 : decode cX4_combine 309 = .ok (.invokevirtual 102, 3) := by decide +kernel
theorem dX4_combine_312 : decode cX4_combine 312 = .ok (.ireturn, 1) := by decide +kernel
set_option maxRecDepth 20000 in
theorem ggX4_combineWithNumber_X0_get : GoodIn wsX4_combineWithNumber wsX0_get := goodIn_r _ [7, 8, 57] (by decide +kernel) (by decide +kernel)
set_option maxRecDepth 20000 in
theorem gX4_combineWithNumber_X0_get : GoodIn wsX4_combineWithNumber (wsV RX4 55 RX0 yX0_get wsX0_get) := goodIn_app (goodIn_of _ (by decide +kernel)) ggX4_combineWithNumber_X0_get
set_option maxRecDepth 20000 in
theorem ggX4_combineWithNumber_X2_difference : GoodIn wsX4_combineWithNumber wsX2_difference := goodIn_r _ [13, 14, 15, 16, 12, 17, 18, 19, 20, 21, 22, 23, 24, 6, 25, 8, 58, 57] (by decide +kernel) (by decide +kernel)
set_option maxRecDepth 20000 in
theorem gX4_combineWithNumber_X2_difference : GoodIn wsX4_combineWithNumber (wsV RX4 204 RX2 yX2_difference wsX2_difference) := goodIn_app (goodIn_of _ (by decide +kernel)) ggX4_combineWithNumber_X2_difference
set_option maxRecDepth 20000 in
theorem ggX4_combineWithNumber_X0_flag : GoodIn wsX4_combineWithNumber wsX0_flag := goodIn_r _ [29, 8, 57] (by decide +kernel) (by decide +kernel)
set_option maxRecDepth 20000 in
theorem gX4_combineWithNumber_X0_flag : GoodIn wsX4_combineWithNumber (wsV RX4 80 RX0 yX0_flag wsX0_flag) := goodIn_app (goodIn_of _ (by decide +kernel)) ggX4_combineWithNumber_X0_flag
set_option maxRecDepth 20000 in
theorem ggX4_combineWithNumber_X2_differenceOn : GoodIn wsX4_combineWithNumber wsX2_differenceOn := goodIn_r _ [33, 18, 34, 27, 28, 6, 29, 8, 14, 15, 16, 12, 17, 19, 20, 21, 22, 23, 24, 25, 58, 57] (by decide +kernel) (by decide +kernel)
set_option maxRecDepth 20000 in
theorem gX4_combineWithNumber_X2_differenceOn : GoodIn wsX4_combineWithNumber (wsV RX4 193 RX2 yX2_differenceOn wsX2_differenceOn) := goodIn_app (goodIn_of _ (by decide +kernel)) ggX4_combineWithNumber_X2_differenceOn
set_option maxRecDepth 20000 in
theorem ggX4_combineWithNumber_X0_set : GoodIn wsX4_combineWithNumber wsX0_set := goodIn_r _ [38, 8, 57] (by decide +kernel) (by decide +kernel)
set_option maxRecDepth 20000 in
theorem gX4_combineWithNumber_X0_set : GoodIn wsX4_combineWithNumber (wsV RX4 58 RX0 yX0_set wsX0_set) := goodIn_app (goodIn_of _ (by decide +kernel)) ggX4_combineWithNumber_X0_set
set_option maxRecDepth 20000 in
theorem ggX4_combineWithNumber_X2_logic : GoodIn wsX4_combineWithNumber wsX2_logic := goodIn_r _ [42, 18, 19, 20, 12, 21, 22, 23, 24, 6, 25, 8, 58, 57] (by decide +kernel) (by decide +kernel)
set_option maxRecDepth 20000 in
theorem gX4_combineWithNumber_X2_logic : GoodIn wsX4_combineWithNumber (wsV RX4 208 RX2 yX2_logic wsX2_logic) := goodIn_app (goodIn_of _ (by decide +kernel)) ggX4_combineWithNumber_X2_logic
set_option maxRecDepth 20000 in
theorem ggX4_combineWithNumber_X4_onward : GoodIn wsX4_combineWithNumber wsX4_onward := goodIn_r _ [47, 48, 49, 50, 51, 52, 53, 54, 55, 56] (by decide +kernel) (by decide +kernel)
set_option maxRecDepth 20000 in
theorem gX4_combineWithNumber_X4_onward : GoodIn wsX4_combineWithNumber (wsV RX4 102 RX4 yX4_onward wsX4_onward) := goodIn_app (goodIn_of _ (by decide +kernel)) ggX4_combineWithNumber_X4_onward
theorem dX4_combineWithNumber_0 : decode cX4_combineWithNumber 0 = .ok (.bipush 16, 2) := by decide +kernel
theorem dX4_combineWithNumber_2 : decode cX4_combineWithNumber 2 = .ok (.iload_n 1, 1) := by decide +kernel
theorem dX4_combineWithNumber_3 : decode cX4_combineWithNumber 3 = .ok (.iconst 4, 1) := by decide +kernel
theorem dX4_combineWithNumber_4 : decode cX4_combineWithNumber 4 = .ok (.ishr, 1) := by decide +kernel
theorem dX4_combineWithNumber_5 : decode cX4_combineWithNumber 5 = .ok (.bipush 15, 2) := by decide +kernel
theorem dX4_combineWithNumber_7 : decode cX4_combineWithNumber 7 = .ok (.iand, 1) := by decide +kernel
theorem dX4_combineWithNumber_8 : decode cX4_combineWithNumber 8 = .ok (.iadd, 1) := by decide +kernel
theorem dX4_combineWithNumber_9 : decode cX4_combineWithNumber 9 = .ok (.istore_n 2, 1) := by decide +kernel
theorem dX4_combineWithNumber_10 : decode cX4_combineWithNumber 10 = .ok (.aload_n 0, 1) := by decide +kernel
theorem dX4_combineWithNumber_11 : decode cX4_combineWithNumber 11 = .ok (.getfield 16, 3) := by decide +kernel
theorem dX4_combineWithNumber_14 : decode cX4_combineWithNumber 14 = .ok (.iload_n 2, 1) := by decide +kernel
theorem dX4_combineWithNumber_15 : decode cX4_combineWithNumber 15 = .ok (.invokevirtual 55, 3) := by decide +kernel
theorem dX4_combineWithNumber_18 : decode cX4_combineWithNumber 18 = .ok (.istore_n 3, 1) := by decide +kernel
theorem dX4_combineWithNumber_19 : decode cX4_combineWithNumber 19 = .ok (.iload_n 1, 1) := by decide +kernel
theorem dX4_combineWithNumber_20 : decode cX4_combineWithNumber 20 = .ok (.iconst 4, 1) := by decide +kernel
theorem dX4_combineWithNumber_21 : decode cX4_combineWithNumber 21 = .ok (.ishr, 1) := by decide +kernel
theorem dX4_combineWithNumber_22 : decode cX4_combineWithNumber 22 = .ok (.sipush 240, 3) := by decide +kernel
theorem dX4_combineWithNumber_25 : decode cX4_combineWithNumber 25 = .ok (.iand, 1) := by decide +kernel
theorem dX4_combineWithNumber_26 : decode cX4_combineWithNumber 26 = .ok (.iload_n 1, 1) := by decide +kernel
theorem dX4_combineWithNumber_27 : decode cX4_combineWithNumber 27 = .ok (.bipush 15, 2) := by decide +kernel
theorem dX4_combineWithNumber_29 : decode cX4_combineWithNumber 29 = .ok (.iand, 1) := by decide +kernel
theorem dX4_combineWithNumber_30 : decode cX4_combineWithNumber 30 = .ok (.ior, 1) := by decide +kernel
theorem dX4_combineWithNumber_31 : decode cX4_combineWithNumber 31 = .ok (.istore 4, 2) := by decide +kernel
theorem dX4_combineWithNumber_33 : decode cX4_combineWithNumber 33 = .ok (.iload_n 1, 1) := by decide +kernel
theorem dX4_combineWithNumber_34 : decode cX4_combineWithNumber 34 = .ok (.bipush 12, 2) := by decide +kernel
theorem dX4_combineWithNumber_36 : decode cX4_combineWithNumber 36 = .ok (.ishr, 1) := by decide +kernel
theorem dX4_combineWithNumber_37 : decode cX4_combineWithNumber 37 = .ok (.tableswitch 143 3 7 #[35, 49, 78, 99, 121], 35) := by decide +kernel
theorem dX4_combineWithNumber_72 : decode cX4_combineWithNumber 72 = .ok (.aload_n 0, 1) := by decide +kernel
theorem dX4_combineWithNumber_73 : decode cX4_combineWithNumber 73 = .ok (.getfield 25, 3) := by decide +kernel
theorem dX4_combineWithNumber_76 : decode cX4_combineWithNumber 76 = .ok (.iload_n 3, 1) := by decide +kernel
theorem dX4_combineWithNumber_77 : decode cX4_combineWithNumber 77 = .ok (.iload 4, 2) := by decide +kernel
theorem dX4_combineWithNumber_79 : decode cX4_combineWithNumber 79 = .ok (.invokevirtual 204, 3) := by decide +kernel
theorem dX4_combineWithNumber_82 : decode cX4_combineWithNumber 82 = .ok (.pop, 1) := by decide +kernel
theorem dX4_combineWithNumber_83 : decode cX4_combineWithNumber 83 = .ok (.goto 107, 3) := by decide +kernel
theorem dX4_combineWithNumber_86 : decode cX4_combineWithNumber 86 = .ok (.aload_n 0, 1) := by decide +kernel
theorem dX4_combineWithNumber_87 : decode cX4_combineWithNumber 87 = .ok (.getfield 16, 3) := by decide +kernel
theorem dX4_combineWithNumber_90 : decode cX4_combineWithNumber 90 = .ok (.iload_n 2, 1) := by decide +kernel
theorem dX4_combineWithNumber_91 : decode cX4_combineWithNumber 91 = .ok (.aload_n 0, 1) := by decide +kernel
theorem dX4_combineWithNumber_92 : decode cX4_combineWithNumber 92 = .ok (.getfield 25, 3) := by decide +kernel
theorem dX4_combineWithNumber_95 : decode cX4_combineWithNumber 95 = .ok (.iload_n 3, 1) := by decide +kernel
theorem dX4_combineWithNumber_96 : decode cX4_combineWithNumber 96 = .ok (.iload 4, 2) := by decide +kernel
theorem dX4_combineWithNumber_98 : decode cX4_combineWithNumber 98 = .ok (.aload_n 0, 1) := by decide +kernel
theorem dX4_combineWithNumber_99 : decode cX4_combineWithNumber 99 = .ok (.getfield 16, 3) := by decide +kernel
theorem dX4_combineWithNumber_102 : decode cX4_combineWithNumber 102 = .ok (.iconst 0, 1) := by decide +kernel
theorem dX4_combineWithNumber_103 : decode cX4_combineWithNumber 103 = .ok (.invokevirtual 80, 3) := by decide +kernel
theorem dX4_combineWithNumber_106 : decode cX4_combineWithNumber 106 = .ok (.invokevirtual 193, 3) := by decide +kernel
theorem dX4_combineWithNumber_109 : decode cX4_combineWithNumber 109 = .ok (.invokevirtual 58, 3) := by decide +kernel
theorem dX4_combineWithNumber_112 : decode cX4_combineWithNumber 112 = .ok (.goto 78, 3) := by decide +kernel
theorem dX4_combineWithNumber_115 : decode cX4_combineWithNumber 115 = .ok (.aload_n 0, 1) := by decide +kernel
theorem dX4_combineWithNumber_116 : decode cX4_combineWithNumber 116 = .ok (.getfield 16, 3) := by decide +kernel
theorem dX4_combineWithNumber_119 : decode cX4_combineWithNumber 119 = .ok (.iload_n 2, 1) := by decide +kernel
theorem dX4_combineWithNumber_120 : decode cX4_combineWithNumber 120 = .ok (.aload_n 0, 1) := by decide +kernel
theorem dX4_combineWithNumber_121 : decode cX4_combineWithNumber 121 = .ok (.getfield 25, 3) := by decide +kernel
theorem dX4_combineWithNumber_124 : decode cX4_combineWithNumber 124 = .ok (.iload_n 3, 1) := by decide +kernel
theorem dX4_combineWithNumber_125 : decode cX4_combineWithNumber 125 = .ok (.iload 4, 2) := by decide +kernel
theorem dX4_combineWithNumber_127 : decode cX4_combineWithNumber 127 = .ok (.invokevirtual 204, 3) := by decide +kernel
theorem dX4_combineWithNumber_130 : decode cX4_combineWithNumber 130 = .ok (.invokevirtual 58, 3) := by decide +kernel
theorem dX4_combineWithNumber_133 : decode cX4_combineWithNumber 133 = .ok (.goto 57, 3) := by decide +kernel
theorem dX4_combineWithNumber_136 : decode cX4_combineWithNumber 136 = .ok (.aload_n 0, 1) := by decide +kernel
theorem dX4_combineWithNumber_137 : decode cX4_combineWithNumber 137 = .ok (.getfield 16, 3) := by decide +kernel
theorem dX4_combineWithNumber_140 : decode cX4_combineWithNumber 140 = .ok (.iload_n 2, 1) := by decide +kernel
theorem dX4_combineWithNumber_141 : decode cX4_combineWithNumber 141 = .ok (.aload_n 0, 1) := by decide +kernel
theorem dX4_combineWithNumber_142 : decode cX4_combineWithNumber 142 = .ok (.getfield 25, 3) := by decide +kernel
theorem dX4_combineWithNumber_145 : decode cX4_combineWithNumber 145 = .ok (.iload_n 3, 1) := by decide +kernel
theorem dX4_combineWithNumber_146 : decode cX4_combineWithNumber 146 = .ok (.iload 4, 2) := by decide +kernel
theorem dX4_combineWithNumber_148 : decode cX4_combineWithNumber 148 = .ok (.ior, 1) := by decide +kernel
theorem dX4_combineWithNumber_149 : decode cX4_combineWithNumber 149 = .ok (.invokevirtual 208, 3) := by decide +kernel
theorem dX4_combineWithNumber_152 : decode cX4_combineWithNumber 152 = .ok (.invokevirtual 58, 3) := by decide +kernel
theorem dX4_combineWithNumber_155 : decode cX4_combineWithNumber 155 = .ok (.goto 35, 3) := by decide +kernel
theorem dX4_combineWithNumber_158 : decode cX4_combineWithNumber 158 = .ok (.aload_n 0, 1) := by decide +kernel
theorem dX4_combineWithNumber_159 : decode cX4_combineWithNumber 159 = .ok (.getfield 16, 3) := by decide +kernel
theorem dX4_combineWithNumber_162 : decode cX4_combineWithNumber 162 = .ok (.iload_n 2, 1) := by decide +kernel
theorem dX4_combineWithNumber_163 : decode cX4_combineWithNumber 163 = .ok (.aload_n 0, 1) := by decide +kernel
theorem dX4_combineWithNumber_164 : decode cX4_combineWithNumber 164 = .ok (.getfield 25, 3) := by decide +kernel
theorem dX4_combineWithNumber_167 : decode cX4_combineWithNumber 167 = .ok (.iload_n 3, 1) := by decide +kernel
theorem dX4_combineWithNumber_168 : decode cX4_combineWithNumber 168 = .ok (.iload 4, 2) := by decide +kernel
theorem dX4_combineWithNumber_170 : decode cX4_combineWithNumber 170 = .ok (.iand, 1) := by decide +kernel
theorem dX4_combineWithNumber_171 : decode cX4_combineWithNumber 171 = .ok (.invokevirtual 208, 3) := by decide +kernel
theorem dX4_combineWithNumber_174 : decode cX4_combineWithNumber 174 = .ok (.invokevirtual 58, 3) := by decide +kernel
theorem dX4_combineWithNumber_177 : decode cX4_combineWithNumber 177 = .ok (.goto 13, 3) := by decide +kernel
theorem dX4_combineWithNumber_180 : decode cX4_combineWithNumber 180 = .ok (.aload_n 0, 1) := by decide +kernel
theorem dX4_combineWithNumber_181 : decode cX4_combineWithNumber 181 = .ok (.getfield 16, 3) := by decide +kernel
theorem dX4_combineWithNumber_184 : decode cX4_combineWithNumber 184 = .ok (.iload_n 2, 1) := by decide +kernel
theorem dX4_combineWithNumber_185 : decode cX4_combineWithNumber 185 = .ok (.iload 4, 2) := by decide +kernel
theorem dX4_combineWithNumber_187 : decode cX4_combineWithNumber 187 = .ok (.invokevirtual 58, 3) := by decide +kernel
theorem dX4_combineWithNumber_190 : decode cX4_combineWithNumber 190 = .ok (.aload_n 0, 1) := by decide +kernel
theorem dX4_combineWithNumber_191 : decode cX4_combineWithNumber 191 = .ok (.iconst 1, 1) := by decide +kernel
theorem dX4_combineWithNumber_192 : decode cX4_combineWithNumber 192 = .ok (.invokevirtual 102, 3) := by decide +kernel
theorem dX4_combineWithNumber_195 : decode cX4_combineWithNumber 195 = .ok (.ireturn, 1) := by decide +kernel
set_option maxRecDepth 20000 in
theorem ggX4_change_X3_d : GoodIn wsX4_change wsX3_d := goodIn_r _ [6] (by decide +kernel) (by decide +kernel)
set_option maxRecDepth 20000 in
theorem gX4_change_X3_d : GoodIn wsX4_change (va_wsS RX4 173 yX3_d wsX3_d) := goodIn_app (goodIn_of _ (by decide +kernel)) ggX4_change_X3_d
set_option maxRecDepth 20000 in
theorem ggX4_change_X0_get : GoodIn wsX4_change wsX0_get := goodIn_r _ [11, 12, 68] (by decide +kernel) (by decide +kernel)
set_option maxRecDepth 20000 in
theorem gX4_change_X0_get : GoodIn wsX4_change (wsV RX4 55 RX0 yX0_get wsX0_get) := goodIn_app (goodIn_of _ (by decide +kernel)) ggX4_change_X0_get
set_option maxRecDepth 20000 in
theorem ggX4_change_X2_inverse : GoodIn wsX4_change wsX2_inverse := goodIn_r _ [17, 18, 19, 20, 16, 21, 22, 23, 24, 10, 25, 12, 69, 68] (by decide +kernel) (by decide +kernel)
set_option maxRecDepth 20000 in
theorem gX4_change_X2_inverse : GoodIn wsX4_change (wsV RX4 211 RX2 yX2_inverse wsX2_inverse) := goodIn_app (goodIn_of _ (by decide +kernel)) ggX4_change_X2_inverse
set_option maxRecDepth 20000 in
theorem ggX4_change_X0_set : GoodIn wsX4_change wsX0_set := goodIn_r _ [29, 12, 68] (by decide +kernel) (by decide +kernel)
set_option maxRecDepth 20000 in
theorem gX4_change_X0_set : GoodIn wsX4_change (wsV RX4 58 RX0 yX0_set wsX0_set) := goodIn_app (goodIn_of _ (by decide +kernel)) ggX4_change_X0_set
set_option maxRecDepth 20000 in
theorem ggX4_change_X2_difference : GoodIn wsX4_change wsX2_difference := goodIn_r _ [33, 34, 35, 36, 16, 37, 18, 19, 20, 21, 22, 23, 24, 10, 25, 12, 69, 68] (by decide +kernel) (by decide +kernel)
set_option maxRecDepth 20000 in
theorem gX4_change_X2_difference : GoodIn wsX4_change (wsV RX4 204 RX2 yX2_difference wsX2_difference) := goodIn_app (goodIn_of _ (by decide +kernel)) ggX4_change_X2_difference
set_option maxRecDepth 20000 in
theorem ggX4_change_X2_more : GoodIn wsX4_change wsX2_more := goodIn_r _ [41, 18, 19, 20, 16, 21, 22, 23, 24, 10, 25, 12, 69, 68] (by decide +kernel) (by decide +kernel)
set_option maxRecDepth 20000 in
theorem gX4_change_X2_more : GoodIn wsX4_change (wsV RX4 214 RX2 yX2_more wsX2_more) := goodIn_app (goodIn_of _ (by decide +kernel)) ggX4_change_X2_more
set_option maxRecDepth 20000 in
theorem ggX4_change_X2_right : GoodIn wsX4_change wsX2_right := goodIn_r _ [45, 18, 19, 20, 16, 21, 22, 23, 24, 10, 25, 12, 69, 68] (by decide +kernel) (by decide +kernel)
set_option maxRecDepth 20000 in
theorem gX4_change_X2_right : GoodIn wsX4_change (wsV RX4 217 RX2 yX2_right wsX2_right) := goodIn_app (goodIn_of _ (by decide +kernel)) ggX4_change_X2_right
set_option maxRecDepth 20000 in
theorem ggX4_change_X0_flag : GoodIn wsX4_change wsX0_flag := goodIn_r _ [49, 12, 68] (by decide +kernel) (by decide +kernel)
set_option maxRecDepth 20000 in
theorem gX4_change_X0_flag : GoodIn wsX4_change (wsV RX4 80 RX0 yX0_flag wsX0_flag) := goodIn_app (goodIn_of _ (by decide +kernel)) ggX4_change_X0_flag
set_option maxRecDepth 20000 in
theorem ggX4_change_X2_less : GoodIn wsX4_change wsX2_less := goodIn_r _ [53, 18, 19, 20, 16, 21, 22, 23, 24, 10, 25, 12, 69, 68] (by decide +kernel) (by decide +kernel)
set_option maxRecDepth 20000 in
theorem gX4_change_X2_less : GoodIn wsX4_change (wsV RX4 220 RX2 yX2_less wsX2_less) := goodIn_app (goodIn_of _ (by decide +kernel)) ggX4_change_X2_less
set_option maxRecDepth 20000 in
theorem ggX4_change_X4_onward : GoodIn wsX4_change wsX4_onward := goodIn_r _ [58, 59, 60, 61, 62, 63, 64, 65, 66, 67] (by decide +kernel) (by decide +kernel)
set_option maxRecDepth 20000 in
theorem gX4_change_X4_onward : GoodIn wsX4_change (wsV RX4 102 RX4 yX4_onward wsX4_onward) := goodIn_app (goodIn_of _ (by decide +kernel)) ggX4_change_X4_onward
theorem dX4_change_0 : decode cX4_change 0 = .ok (.iload_n 1, 1) := by decide +kernel
theorem dX4_change_1 : decode cX4_change 1 = .ok (.invokestatic 173, 3) := by decide +kernel
theorem dX4_change_4 : decode cX4_change 4 = .ok (.istore_n 2, 1) := by decide +kernel
theorem dX4_change_5 : decode cX4_change 5 = .ok (.aload_n 0, 1) := by decide +kernel
theorem dX4_change_6 : decode cX4_change 6 = .ok (.getfield 16, 3) := by decide +kernel
theorem dX4_change_9 : decode cX4_change 9 = .ok (.iload_n 2, 1) := by decide +kernel
theorem dX4_change_10 : decode cX4_change 10 = .ok (.invokevirtual 55, 3) := by decide +kernel
theorem dX4_change_13 : decode cX4_change 13 = .ok (.istore_n 3, 1) := by decide +kernel
theorem dX4_change_14 : decode cX4_change 14 = .ok (.iload_n 1, 1) := by decide +kernel
theorem dX4_change_15 : decode cX4_change 15 = .ok (.bipush 15, 2) := by decide +kernel
theorem dX4_change_17 : decode cX4_change 17 = .ok (.iand, 1) := by decide +kernel
theorem dX4_change_18 : decode cX4_change 18 = .ok (.tableswitch 192 0 7 #[46, 65, 85, 103, 192, 122, 145, 165], 46) := by decide +kernel
theorem dX4_change_64 : decode cX4_change 64 = .ok (.aload_n 0, 1) := by decide +kernel
theorem dX4_change_65 : decode cX4_change 65 = .ok (.getfield 16, 3) := by decide +kernel
theorem dX4_change_68 : decode cX4_change 68 = .ok (.iload_n 2, 1) := by decide +kernel
theorem dX4_change_69 : decode cX4_change 69 = .ok (.aload_n 0, 1) := by decide +kernel
theorem dX4_change_70 : decode cX4_change 70 = .ok (.getfield 25, 3) := by decide +kernel
theorem dX4_change_73 : decode cX4_change 73 = .ok (.iload_n 3, 1) := by decide +kernel
theorem dX4_change_74 : decode cX4_change 74 = .ok (.invokevirtual 211, 3) := by decide +kernel
theorem dX4_change_77 : decode cX4_change 77 = .ok (.invokevirtual 58, 3) := by decide +kernel
theorem dX4_change_80 : decode cX4_change 80 = .ok (.goto 146, 3) := by decide +kernel
theorem dX4_change_83 : decode cX4_change 83 = .ok (.aload_n 0, 1) := by decide +kernel
theorem dX4_change_84 : decode cX4_change 84 = .ok (.getfield 16, 3) := by decide +kernel
theorem dX4_change_87 : decode cX4_change 87 = .ok (.iload_n 2, 1) := by decide +kernel
theorem dX4_change_88 : decode cX4_change 88 = .ok (.aload_n 0, 1) := by decide +kernel
theorem dX4_change_89 : decode cX4_change 89 = .ok (.getfield 25, 3) := by decide +kernel
theorem dX4_change_92 : decode cX4_change 92 = .ok (.iconst 0, 1) := by decide +kernel
theorem dX4_change_93 : decode cX4_change 93 = .ok (.iload_n 3, 1) := by decide +kernel
theorem dX4_change_94 : decode cX4_change 94 = .ok (.invokevirtual 204, 3) := by decide +kernel
theorem dX4_change_97 : decode cX4_change 97 = .ok (.invokevirtual 58, 3) := by decide +kernel
theorem dX4_change_100 : decode cX4_change 100 = .ok (.goto 126, 3) := by decide +kernel
theorem dX4_change_103 : decode cX4_change 103 = .ok (.aload_n 0, 1) := by decide +kernel
theorem dX4_change_104 : decode cX4_change 104 = .ok (.getfield 16, 3) := by decide +kernel
theorem dX4_change_107 : decode cX4_change 107 = .ok (.iload_n 2, 1) := by decide +kernel
theorem dX4_change_108 : decode cX4_change 108 = .ok (.iload_n 3, 1) := by decide +kernel
theorem dX4_change_109 : decode cX4_change 109 = .ok (.iconst 4, 1) := by decide +kernel
theorem dX4_change_110 : decode cX4_change 110 = .ok (.ishl, 1) := by decide +kernel
theorem dX4_change_111 : decode cX4_change 111 = .ok (.iload_n 3, 1) := by decide +kernel
theorem dX4_change_112 : decode cX4_change 112 = .ok (.iconst 4, 1) := by decide +kernel
theorem dX4_change_113 : decode cX4_change 113 = .ok (.ishr, 1) := by decide +kernel
theorem dX4_change_114 : decode cX4_change 114 = .ok (.ior, 1) := by decide +kernel
theorem dX4_change_115 : decode cX4_change 115 = .ok (.invokevirtual 58, 3) := by decide +kernel
theorem dX4_change_118 : decode cX4_change 118 = .ok (.goto 108, 3) := by decide +kernel
theorem dX4_change_121 : decode cX4_change 121 = .ok (.aload_n 0, 1) := by decide +kernel
theorem dX4_change_122 : decode cX4_change 122 = .ok (.getfield 16, 3) := by decide +kernel
theorem dX4_change_125 : decode cX4_change 125 = .ok (.iload_n 2, 1) := by decide +kernel
theorem dX4_change_126 : decode cX4_change 126 = .ok (.aload_n 0, 1) := by decide +kernel
theorem dX4_change_127 : decode cX4_change 127 = .ok (.getfield 25, 3) := by decide +kernel
theorem dX4_change_130 : decode cX4_change 130 = .ok (.iload_n 3, 1) := by decide +kernel
theorem dX4_change_131 : decode cX4_change 131 = .ok (.invokevirtual 214, 3) := by decide +kernel
theorem dX4_change_134 : decode cX4_change 134 = .ok (.invokevirtual 58, 3) := by decide +kernel
theorem dX4_change_137 : decode cX4_change 137 = .ok (.goto 89, 3) := by decide +kernel
theorem dX4_change_140 : decode cX4_change 140 = .ok (.aload_n 0, 1) := by decide +kernel
theorem dX4_change_141 : decode cX4_change 141 = .ok (.getfield 16, 3) := by decide +kernel
theorem dX4_change_144 : decode cX4_change 144 = .ok (.iload_n 2, 1) := by decide +kernel
theorem dX4_change_145 : decode cX4_change 145 = .ok (.aload_n 0, 1) := by decide +kernel
theorem dX4_change_146 : decode cX4_change 146 = .ok (.getfield 25, 3) := by decide +kernel
theorem dX4_change_149 : decode cX4_change 149 = .ok (.iload_n 3, 1) := by decide +kernel
theorem dX4_change_150 : decode cX4_change 150 = .ok (.iload_n 3, 1) := by decide +kernel
theorem dX4_change_151 : decode cX4_change 151 = .ok (.bipush 7, 2) := by decide +kernel
theorem dX4_change_153 : decode cX4_change 153 = .ok (.ishr, 1) := by decide +kernel
theorem dX4_change_154 : decode cX4_change 154 = .ok (.invokevirtual 217, 3) := by decide +kernel
theorem dX4_change_157 : decode cX4_change 157 = .ok (.invokevirtual 58, 3) := by decide +kernel
theorem dX4_change_160 : decode cX4_change 160 = .ok (.goto 66, 3) := by decide +kernel
theorem dX4_change_163 : decode cX4_change 163 = .ok (.aload_n 0, 1) := by decide +kernel
theorem dX4_change_164 : decode cX4_change 164 = .ok (.getfield 16, 3) := by decide +kernel
theorem dX4_change_167 : decode cX4_change 167 = .ok (.iload_n 2, 1) := by decide +kernel
theorem dX4_change_168 : decode cX4_change 168 = .ok (.aload_n 0, 1) := by decide +kernel
theorem dX4_change_169 : decode cX4_change 169 = .ok (.getfield 25, 3) := by decide +kernel
theorem dX4_change_172 : decode cX4_change 172 = .ok (.iload_n 3, 1) := by decide +kernel
theorem dX4_change_173 : decode cX4_change 173 = .ok (.iconst 0, 1) := by decide +kernel
theorem dX4_change_174 : decode cX4_change 174 = .ok (.invokevirtual 217, 3) := by decide +kernel
theorem dX4_change_177 : decode cX4_change 177 = .ok (.invokevirtual 58, 3) := by decide +kernel
theorem dX4_change_180 : decode cX4_change 180 = .ok (.goto 46, 3) := by decide +kernel
theorem dX4_change_183 : decode cX4_change 183 = .ok (.aload_n 0, 1) := by decide +kernel
theorem dX4_change_184 : decode cX4_change 184 = .ok (.getfield 16, 3) := by decide +kernel
theorem dX4_change_187 : decode cX4_change 187 = .ok (.iload_n 2, 1) := by decide +kernel
theorem dX4_change_188 : decode cX4_change 188 = .ok (.aload_n 0, 1) := by decide +kernel
theorem dX4_change_189 : decode cX4_change 189 = .ok (.getfield 25, 3) := by decide +kernel
theorem dX4_change_192 : decode cX4_change 192 = .ok (.iload_n 3, 1) := by decide +kernel
theorem dX4_change_193 : decode cX4_change 193 = .ok (.aload_n 0, 1) := by decide +kernel
theorem dX4_change_194 : decode cX4_change 194 = .ok (.getfield 16, 3) := by decide +kernel
theorem dX4_change_197 : decode cX4_change 197 = .ok (.iconst 0, 1) := by decide +kernel
theorem dX4_change_198 : decode cX4_change 198 = .ok (.invokevirtual 80, 3) := by decide +kernel
theorem dX4_change_201 : decode cX4_change 201 = .ok (.invokevirtual 217, 3) := by decide +kernel
theorem dX4_change_204 : decode cX4_change 204 = .ok (.invokevirtual 58, 3) := by decide +kernel
theorem dX4_change_207 : decode cX4_change 207 = .ok (.goto 19, 3) := by decide +kernel
theorem dX4_change_210 : decode cX4_change 210 = .ok (.aload_n 0, 1) := by decide +kernel
theorem dX4_change_211 : decode cX4_change 211 = .ok (.getfield 16, 3) := by decide +kernel
theorem dX4_change_214 : decode cX4_change 214 = .ok (.iload_n 2, 1) := by decide +kernel
theorem dX4_change_215 : decode cX4_change 215 = .ok (.aload_n 0, 1) := by decide +kernel
theorem dX4_change_216 : decode cX4_change 216 = .ok (.getfield 25, 3) := by decide +kernel
theorem dX4_change_219 : decode cX4_change 219 = .ok (.iload_n 3, 1) := by decide +kernel
theorem dX4_change_220 : decode cX4_change 220 = .ok (.invokevirtual 220, 3) := by decide +kernel
theorem dX4_change_223 : decode cX4_change 223 = .ok (.invokevirtual 58, 3) := by decide +kernel
theorem dX4_change_226 : decode cX4_change 226 = .ok (.aload_n 0, 1) := by decide +kernel
theorem dX4_change_227 : decode cX4_change 227 = .ok (.iconst 1, 1) := by decide +kernel
theorem dX4_change_228 : decode cX4_change 228 = .ok (.invokevirtual 102, 3) := by decide +kernel
theorem dX4_change_231 : decode cX4_change 231 = .ok (.ireturn, 1) := by decide +kernel
set_option maxRecDepth 20000 in
theorem ggX4_setFlag_X0_setFlag : GoodIn wsX4_setFlag wsX0_setFlag := goodIn_r _ [6, 7, 8, 9, 5, 10, 11, 12, 13, 14, 15, 16, 17, 18, 19, 34] (by decide +kernel) (by decide +kernel)
set_option maxRecDepth 20000 in
theorem gX4_setFlag_X0_setFlag : GoodIn wsX4_setFlag (wsV RX4 99 RX0 yX0_setFlag wsX0_setFlag) := goodIn_app (goodIn_of _ (by decide +kernel)) ggX4_setFlag_X0_setFlag
set_option maxRecDepth 20000 in
theorem ggX4_setFlag_X4_onward : GoodIn wsX4_setFlag wsX4_onward := goodIn_r _ [24, 25, 26, 27, 28, 29, 30, 31, 32, 33] (by decide +kernel) (by decide +kernel)
set_option maxRecDepth 20000 in
theorem gX4_setFlag_X4_onward : GoodIn wsX4_setFlag (wsV RX4 102 RX4 yX4_onward wsX4_onward) := goodIn_app (goodIn_of _ (by decide +kernel)) ggX4_setFlag_X4_onward
theorem dX4_setFlag_0 : decode cX4_setFlag 0 = .ok (.aload_n 0, 1) := by decide +kernel
theorem dX4_setFlag_1 : decode cX4_setFlag 1 = .ok (.getfield 16, 3) := by decide +kernel
theorem dX4_setFlag_4 : decode cX4_setFlag 4 = .ok (.iload_n 1, 1) := by decide +kernel
theorem dX4_setFlag_5 : decode cX4_setFlag 5 = .ok (.iconst 4, 1) := by decide +kernel
theorem dX4_setFlag_6 : decode cX4_setFlag 6 = .ok (.ishr, 1) := by decide +kernel
theorem dX4_setFlag_7 : decode cX4_setFlag 7 = .ok (.bipush 7, 2) := by decide +kernel
theorem dX4_setFlag_9 : decode cX4_setFlag 9 = .ok (.iand, 1) := by decide +kernel
theorem dX4_setFlag_10 : decode cX4_setFlag 10 = .ok (.iload_n 1, 1) := by decide +kernel
theorem dX4_setFlag_11 : decode cX4_setFlag 11 = .ok (.sipush 128, 3) := by decide +kernel
theorem dX4_setFlag_14 : decode cX4_setFlag 14 = .ok (.iand, 1) := by decide +kernel
theorem dX4_setFlag_15 : decode cX4_setFlag 15 = .ok (.ifCond .ne 7, 3) := by decide +kernel
theorem dX4_setFlag_18 : decode cX4_setFlag 18 = .ok (.iconst 1, 1) := by decide +kernel
theorem dX4_setFlag_19 : decode cX4_setFlag 19 = .ok (.goto 4, 3) := by decide +kernel
theorem dX4_setFlag_22 : decode cX4_setFlag 22 = .ok (.iconst 0, 1) := by decide +kernel
theorem dX4_setFlag_23 : decode cX4_setFlag 23 = .ok (.invokevirtual 99, 3) := by decide +kernel
theorem dX4_setFlag_26 : decode cX4_setFlag 26 = .ok (.aload_n 0, 1) := by decide +kernel
theorem dX4_setFlag_27 : decode cX4_setFlag 27 = .ok (.iconst 1, 1) := by decide +kernel
theorem dX4_setFlag_28 : decode cX4_setFlag 28 = .ok (.invokevirtual 102, 3) := by decide +kernel
theorem dX4_setFlag_31 : decode cX4_setFlag 31 = .ok (.ireturn, 1) := by decide +kernel
set_option maxRecDepth 20000 in
theorem ggX4_changePair_X0_pair : GoodIn wsX4_changePair wsX0_pair := goodIn_r _ [7, 8, 50] (by decide +kernel) (by decide +kernel)
set_option maxRecDepth 20000 in
theorem gX4_changePair_X0_pair : GoodIn wsX4_changePair (wsV RX4 62 RX0 yX0_pair wsX0_pair) := goodIn_app (goodIn_of _ (by decide +kernel)) ggX4_changePair_X0_pair
set_option maxRecDepth 20000 in
theorem ggX4_changePair_X2_pairMore : GoodIn wsX4_changePair wsX2_pairMore := goodIn_r _ [13, 14, 15, 16, 17, 12, 18, 19, 20, 21, 22, 23, 24, 25, 26, 6, 27, 8, 51, 50] (by decide +kernel) (by decide +kernel)
set_option maxRecDepth 20000 in
theorem gX4_changePair_X2_pairMore : GoodIn wsX4_changePair (wsV RX4 223 RX2 yX2_pairMore wsX2_pairMore) := goodIn_app (goodIn_of _ (by decide +kernel)) ggX4_changePair_X2_pairMore
set_option maxRecDepth 20000 in
theorem ggX4_changePair_X2_pairLess : GoodIn wsX4_changePair wsX2_pairLess := goodIn_r _ [31, 14, 15, 16, 17, 12, 18, 19, 20, 21, 22, 23, 24, 25, 26, 6, 27, 8, 51, 50] (by decide +kernel) (by decide +kernel)
set_option maxRecDepth 20000 in
theorem gX4_changePair_X2_pairLess : GoodIn wsX4_changePair (wsV RX4 226 RX2 yX2_pairLess wsX2_pairLess) := goodIn_app (goodIn_of _ (by decide +kernel)) ggX4_changePair_X2_pairLess
set_option maxRecDepth 20000 in
theorem ggX4_changePair_X0_setPair : GoodIn wsX4_changePair wsX0_setPair := goodIn_r _ [35, 8, 50] (by decide +kernel) (by decide +kernel)
set_option maxRecDepth 20000 in
theorem gX4_changePair_X0_setPair : GoodIn wsX4_changePair (wsV RX4 170 RX0 yX0_setPair wsX0_setPair) := goodIn_app (goodIn_of _ (by decide +kernel)) ggX4_changePair_X0_setPair
set_option maxRecDepth 20000 in
theorem ggX4_changePair_X4_onward : GoodIn wsX4_changePair wsX4_onward := goodIn_r _ [40, 41, 42, 43, 44, 45, 46, 47, 48, 49] (by decide +kernel) (by decide +kernel)
set_option maxRecDepth 20000 in
theorem gX4_changePair_X4_onward : GoodIn wsX4_changePair (wsV RX4 102 RX4 yX4_onward wsX4_onward) := goodIn_app (goodIn_of _ (by decide +kernel)) ggX4_changePair_X4_onward
theorem dX4_changePair_0 : decode cX4_changePair 0 = .ok (.bipush 24, 2) := by decide +kernel
theorem dX4_changePair_2 : decode cX4_changePair 2 = .ok (.iload_n 1, 1) := by decide +kernel
theorem dX4_changePair_3 : decode cX4_changePair 3 = .ok (.iconst 3, 1) := by decide +kernel
theorem dX4_changePair_4 : decode cX4_changePair 4 = .ok (.ishr, 1) := by decide +kernel
theorem dX4_changePair_5 : decode cX4_changePair 5 = .ok (.bipush 6, 2) := by decide +kernel
theorem dX4_changePair_7 : decode cX4_changePair 7 = .ok (.iand, 1) := by decide +kernel
theorem dX4_changePair_8 : decode cX4_changePair 8 = .ok (.iadd, 1) := by decide +kernel
theorem dX4_changePair_9 : decode cX4_changePair 9 = .ok (.istore_n 2, 1) := by decide +kernel
theorem dX4_changePair_10 : decode cX4_changePair 10 = .ok (.aload_n 0, 1) := by decide +kernel
theorem dX4_changePair_11 : decode cX4_changePair 11 = .ok (.getfield 16, 3) := by decide +kernel
theorem dX4_changePair_14 : decode cX4_changePair 14 = .ok (.iload_n 2, 1) := by decide +kernel
theorem dX4_changePair_15 : decode cX4_changePair 15 = .ok (.invokevirtual 62, 3) := by decide +kernel
theorem dX4_changePair_18 : decode cX4_changePair 18 = .ok (.istore_n 3, 1) := by decide +kernel
theorem dX4_changePair_19 : decode cX4_changePair 19 = .ok (.iload_n 1, 1) := by decide +kernel
theorem dX4_changePair_20 : decode cX4_changePair 20 = .ok (.iconst 2, 1) := by decide +kernel
theorem dX4_changePair_21 : decode cX4_changePair 21 = .ok (.ishr, 1) := by decide +kernel
theorem dX4_changePair_22 : decode cX4_changePair 22 = .ok (.bipush 48, 2) := by decide +kernel
theorem dX4_changePair_24 : decode cX4_changePair 24 = .ok (.iand, 1) := by decide +kernel
theorem dX4_changePair_25 : decode cX4_changePair 25 = .ok (.iload_n 1, 1) := by decide +kernel
theorem dX4_changePair_26 : decode cX4_changePair 26 = .ok (.bipush 15, 2) := by decide +kernel
theorem dX4_changePair_28 : decode cX4_changePair 28 = .ok (.iand, 1) := by decide +kernel
theorem dX4_changePair_29 : decode cX4_changePair 29 = .ok (.ior, 1) := by decide +kernel
theorem dX4_changePair_30 : decode cX4_changePair 30 = .ok (.istore 4, 2) := by decide +kernel
theorem dX4_changePair_32 : decode cX4_changePair 32 = .ok (.aload_n 0, 1) := by decide +kernel
theorem dX4_changePair_33 : decode cX4_changePair 33 = .ok (.getfield 16, 3) := by decide +kernel
theorem dX4_changePair_36 : decode cX4_changePair 36 = .ok (.iload_n 2, 1) := by decide +kernel
theorem dX4_changePair_37 : decode cX4_changePair 37 = .ok (.iload_n 1, 1) := by decide +kernel
theorem dX4_changePair_38 : decode cX4_changePair 38 = .ok (.sipush 256, 3) := by decide +kernel
theorem dX4_changePair_41 : decode cX4_changePair 41 = .ok (.iand, 1) := by decide +kernel
theorem dX4_changePair_42 : decode cX4_changePair 42 = .ok (.ifCond .ne 16, 3) := by decide +kernel
theorem dX4_changePair_45 : decode cX4_changePair 45 = .ok (.aload_n 0, 1) := by decide +kernel
theorem dX4_changePair_46 : decode cX4_changePair 46 = .ok (.getfield 25, 3) := by decide +kernel
theorem dX4_changePair_49 : decode cX4_changePair 49 = .ok (.iload_n 3, 1) := by decide +kernel
theorem dX4_changePair_50 : decode cX4_changePair 50 = .ok (.iload 4, 2) := by decide +kernel
theorem dX4_changePair_52 : decode cX4_changePair 52 = .ok (.invokevirtual 223, 3) := by decide +kernel
theorem dX4_changePair_55 : decode cX4_changePair 55 = .ok (.goto 13, 3) := by decide +kernel
theorem dX4_changePair_58 : decode cX4_changePair 58 = .ok (.aload_n 0, 1) := by decide +kernel
theorem dX4_changePair_59 : decode cX4_changePair 59 = .ok (.getfield 25, 3) := by decide +kernel
theorem dX4_changePair_62 : decode cX4_changePair 62 = .ok (.iload_n 3, 1) := by decide +kernel
theorem dX4_changePair_63 : decode cX4_changePair 63 = .ok (.iload 4, 2) := by decide +kernel
theorem dX4_changePair_65 : decode cX4_changePair 65 = .ok (.invokevirtual 226, 3) := by decide +kernel
theorem dX4_changePair_68 : decode cX4_changePair 68 = .ok (.invokevirtual 170, 3) := by decide +kernel
theorem dX4_changePair_71 : decode cX4_changePair 71 = .ok (.aload_n 0, 1) := by decide +kernel
theorem dX4_changePair_72 : decode cX4_changePair 72 = .ok (.iconst 1, 1) := by decide +kernel
theorem dX4_changePair_73 : decode cX4_changePair 73 = .ok (.invokevirtual 102, 3) := by decide +kernel
theorem dX4_changePair_76 : decode cX4_changePair 76 = .ok (.ireturn, 1) := by decide +kernel
set_option maxRecDepth 20000 in
theorem ggX4_transfer_X3_d : GoodIn wsX4_transfer wsX3_d := goodIn_r _ [5] (by decide +kernel) (by decide +kernel)
set_option maxRecDepth 20000 in
theorem gX4_transfer_X3_d : GoodIn wsX4_transfer (va_wsS RX4 173 yX3_d wsX3_d) := goodIn_app (goodIn_of _ (by decide +kernel)) ggX4_transfer_X3_d
set_option maxRecDepth 20000 in
theorem ggX4_transfer_X0_get : GoodIn wsX4_transfer wsX0_get := goodIn_r _ [10, 11, 24] (by decide +kernel) (by decide +kernel)
set_option maxRecDepth 20000 in
theorem gX4_transfer_X0_get : GoodIn wsX4_transfer (wsV RX4 55 RX0 yX0_get wsX0_get) := goodIn_app (goodIn_of _ (by decide +kernel)) ggX4_transfer_X0_get
set_option maxRecDepth 20000 in
theorem ggX4_transfer_X0_set : GoodIn wsX4_transfer wsX0_set := goodIn_r _ [15, 11, 24] (by decide +kernel) (by decide +kernel)
set_option maxRecDepth 20000 in
theorem gX4_transfer_X0_set : GoodIn wsX4_transfer (wsV RX4 58 RX0 yX0_set wsX0_set) := goodIn_app (goodIn_of _ (by decide +kernel)) ggX4_transfer_X0_set
theorem dX4_transfer_0 : decode cX4_transfer 0 = .ok (.iload_n 1, 1) := by decide +kernel
theorem dX4_transfer_1 : decode cX4_transfer 1 = .ok (.invokestatic 173, 3) := by decide +kernel
theorem dX4_transfer_4 : decode cX4_transfer 4 = .ok (.istore_n 3, 1) := by decide +kernel
theorem dX4_transfer_5 : decode cX4_transfer 5 = .ok (.iload_n 1, 1) := by decide +kernel
theorem dX4_transfer_6 : decode cX4_transfer 6 = .ok (.sipush 512, 3) := by decide +kernel
theorem dX4_transfer_9 : decode cX4_transfer 9 = .ok (.iand, 1) := by decide +kernel
theorem dX4_transfer_10 : decode cX4_transfer 10 = .ok (.ifCond .ne 22, 3) := by decide +kernel
theorem dX4_transfer_13 : decode cX4_transfer 13 = .ok (.aload_n 0, 1) := by decide +kernel
theorem dX4_transfer_14 : decode cX4_transfer 14 = .ok (.getfield 16, 3) := by decide +kernel
theorem dX4_transfer_17 : decode cX4_transfer 17 = .ok (.iload_n 3, 1) := by decide +kernel
theorem dX4_transfer_18 : decode cX4_transfer 18 = .ok (.aload_n 0, 1) := by decide +kernel
theorem dX4_transfer_19 : decode cX4_transfer 19 = .ok (.getfield 16, 3) := by decide +kernel
theorem dX4_transfer_22 : decode cX4_transfer 22 = .ok (.iload_n 2, 1) := by decide +kernel
theorem dX4_transfer_23 : decode cX4_transfer 23 = .ok (.invokevirtual 55, 3) := by decide +kernel
theorem dX4_transfer_26 : decode cX4_transfer 26 = .ok (.invokevirtual 58, 3) := by decide +kernel
theorem dX4_transfer_29 : decode cX4_transfer 29 = .ok (.goto 19, 3) := by decide +kernel
theorem dX4_transfer_32 : decode cX4_transfer 32 = .ok (.aload_n 0, 1) := by decide +kernel
theorem dX4_transfer_33 : decode cX4_transfer 33 = .ok (.getfield 16, 3) := by decide +kernel
theorem dX4_transfer_36 : decode cX4_transfer 36 = .ok (.iload_n 2, 1) := by decide +kernel
theorem dX4_transfer_37 : decode cX4_transfer 37 = .ok (.aload_n 0, 1) := by decide +kernel
theorem dX4_transfer_38 : decode cX4_transfer 38 = .ok (.getfield 16, 3) := by decide +kernel
theorem dX4_transfer_41 : decode cX4_transfer 41 = .ok (.iload_n 3, 1) := by decide +kernel
theorem dX4_transfer_42 : decode cX4_transfer 42 = .ok (.invokevirtual 55, 3) := by decide +kernel
theorem dX4_transfer_45 : decode cX4_transfer 45 = .ok (.invokevirtual 58, 3) := by decide +kernel
theorem dX4_transfer_48 : decode cX4_transfer 48 = .ok (.return_, 1) := by decide +kernel
set_option maxRecDepth 20000 in
theorem ggX4_moveAtNext_X4_cellAt : GoodIn wsX4_moveAtNext wsX4_cellAt := goodIn_r _ [6, 7, 31, 32, 33, 34, 35, 36, 37, 38] (by decide +kernel) (by decide +kernel)
set_option maxRecDepth 20000 in
theorem gX4_moveAtNext_X4_cellAt : GoodIn wsX4_moveAtNext (wsV RX4 51 RX4 yX4_cellAt wsX4_cellAt) := goodIn_app (goodIn_of _ (by decide +kernel)) ggX4_moveAtNext_X4_cellAt
set_option maxRecDepth 20000 in
theorem ggX4_moveAtNext_X4_transfer : GoodIn wsX4_moveAtNext wsX4_transfer := goodIn_r _ [11, 12, 13, 14, 15, 16, 17, 18, 19, 20, 21, 22, 23, 24, 25, 26, 31, 32, 33, 34, 35, 36, 37, 38, 39] (by decide +kernel) (by decide +kernel)
set_option maxRecDepth 20000 in
theorem gX4_moveAtNext_X4_transfer : GoodIn wsX4_moveAtNext (wsV RX4 229 RX4 yX4_transfer wsX4_transfer) := goodIn_app (goodIn_of _ (by decide +kernel)) ggX4_moveAtNext_X4_transfer
set_option maxRecDepth 20000 in
theorem ggX4_moveAtNext_X4_onward : GoodIn wsX4_moveAtNext wsX4_onward := goodIn_r _ [30, 1, 31, 32, 33, 34, 35, 36, 37, 38] (by decide +kernel) (by decide +kernel)
set_option maxRecDepth 20000 in
theorem gX4_moveAtNext_X4_onward : GoodIn wsX4_moveAtNext (wsV RX4 102 RX4 yX4_onward wsX4_onward) := goodIn_app (goodIn_of _ (by decide +kernel)) ggX4_moveAtNext_X4_onward
theorem dX4_moveAtNext_0 : decode cX4_moveAtNext 0 = .ok (.aload_n 0, 1) := by decide +kernel
theorem dX4_moveAtNext_1 : decode cX4_moveAtNext 1 = .ok (.aload_n 0, 1) := by decide +kernel
theorem dX4_moveAtNext_2 : decode cX4_moveAtNext 2 = .ok (.getfield 32, 3) := by decide +kernel
theorem dX4_moveAtNext_5 : decode cX4_moveAtNext 5 = .ok (.iconst 1, 1) := by decide +kernel
theorem dX4_moveAtNext_6 : decode cX4_moveAtNext 6 = .ok (.iadd, 1) := by decide +kernel
theorem dX4_moveAtNext_7 : decode cX4_moveAtNext 7 = .ok (.invokevirtual 51, 3) := by decide +kernel
theorem dX4_moveAtNext_10 : decode cX4_moveAtNext 10 = .ok (.istore_n 2, 1) := by decide +kernel
theorem dX4_moveAtNext_11 : decode cX4_moveAtNext 11 = .ok (.iload_n 2, 1) := by decide +kernel
theorem dX4_moveAtNext_12 : decode cX4_moveAtNext 12 = .ok (.sipush 1023, 3) := by decide +kernel
theorem dX4_moveAtNext_15 : decode cX4_moveAtNext 15 = .ok (.if_icmp .le 5, 3) := by decide +kernel
theorem dX4_moveAtNext_18 : decode cX4_moveAtNext 18 = .ok (.iconst 3, 1) := by decide +kernel
theorem dX4_moveAtNext_19 : decode cX4_moveAtNext 19 = .ok (.ireturn, 1) := by decide +kernel
theorem dX4_moveAtNext_20 : decode cX4_moveAtNext 20 = .ok (.aload_n 0, 1) := by decide +kernel
theorem dX4_moveAtNext_21 : decode cX4_moveAtNext 21 = .ok (.iload_n 1, 1) := by decide +kernel
theorem dX4_moveAtNext_22 : decode cX4_moveAtNext 22 = .ok (.iload_n 2, 1) := by decide +kernel
theorem dX4_moveAtNext_23 : decode cX4_moveAtNext 23 = .ok (.invokevirtual 229, 3) := by decide +kernel
theorem dX4_moveAtNext_26 : decode cX4_moveAtNext 26 = .ok (.aload_n 0, 1) := by decide +kernel
theorem dX4_moveAtNext_27 : decode cX4_moveAtNext 27 = .ok (.iconst 2, 1) := by decide +kernel
theorem dX4_moveAtNext_28 : decode cX4_moveAtNext 28 = .ok (.invokevirtual 102, 3) := by decide +kernel
theorem dX4_moveAtNext_31 : decode cX4_moveAtNext 31 = .ok (.ireturn, 1) := by decide +kernel
set_option maxRecDepth 20000 in
theorem ggX4_movePointed_X3_pointer : GoodIn wsX4_movePointed wsX3_pointer := goodIn_r _ [6] (by decide +kernel) (by decide +kernel)
set_option maxRecDepth 20000 in
theorem gX4_movePointed_X3_pointer : GoodIn wsX4_movePointed (va_wsS RX4 232 yX3_pointer wsX3_pointer) := goodIn_app (goodIn_of _ (by decide +kernel)) ggX4_movePointed_X3_pointer
set_option maxRecDepth 20000 in
theorem ggX4_movePointed_X0_pair : GoodIn wsX4_movePointed wsX0_pair := goodIn_r _ [11, 12, 46] (by decide +kernel) (by decide +kernel)
set_option maxRecDepth 20000 in
theorem gX4_movePointed_X0_pair : GoodIn wsX4_movePointed (wsV RX4 62 RX0 yX0_pair wsX0_pair) := goodIn_app (goodIn_of _ (by decide +kernel)) ggX4_movePointed_X0_pair
set_option maxRecDepth 20000 in
theorem ggX4_movePointed_X0_setPair : GoodIn wsX4_movePointed wsX0_setPair := goodIn_r _ [16, 12, 46] (by decide +kernel) (by decide +kernel)
set_option maxRecDepth 20000 in
theorem gX4_movePointed_X0_setPair : GoodIn wsX4_movePointed (wsV RX4 170 RX0 yX0_setPair wsX0_setPair) := goodIn_app (goodIn_of _ (by decide +kernel)) ggX4_movePointed_X0_setPair
set_option maxRecDepth 20000 in
theorem ggX4_movePointed_X4_transfer : GoodIn wsX4_movePointed wsX4_transfer := goodIn_r _ [21, 1, 22, 23, 5, 24, 25, 26, 27, 10, 28, 12, 29, 30, 31, 32, 38, 39, 40, 41, 42, 43, 44, 45, 46] (by decide +kernel) (by decide +kernel)
set_option maxRecDepth 20000 in
theorem gX4_movePointed_X4_transfer : GoodIn wsX4_movePointed (wsV RX4 229 RX4 yX4_transfer wsX4_transfer) := goodIn_app (goodIn_of _ (by decide +kernel)) ggX4_movePointed_X4_transfer
set_option maxRecDepth 20000 in
theorem ggX4_movePointed_X4_onward : GoodIn wsX4_movePointed wsX4_onward := goodIn_r _ [36, 37, 38, 39, 40, 41, 42, 43, 44, 45] (by decide +kernel) (by decide +kernel)
set_option maxRecDepth 20000 in
theorem gX4_movePointed_X4_onward : GoodIn wsX4_movePointed (wsV RX4 102 RX4 yX4_onward wsX4_onward) := goodIn_app (goodIn_of _ (by decide +kernel)) ggX4_movePointed_X4_onward
theorem dX4_movePointed_0 : decode cX4_movePointed 0 = .ok (.iload_n 1, 1) := by decide +kernel
theorem dX4_movePointed_1 : decode cX4_movePointed 1 = .ok (.invokestatic 232, 3) := by decide +kernel
theorem dX4_movePointed_4 : decode cX4_movePointed 4 = .ok (.istore_n 2, 1) := by decide +kernel
theorem dX4_movePointed_5 : decode cX4_movePointed 5 = .ok (.aload_n 0, 1) := by decide +kernel
theorem dX4_movePointed_6 : decode cX4_movePointed 6 = .ok (.getfield 16, 3) := by decide +kernel
theorem dX4_movePointed_9 : decode cX4_movePointed 9 = .ok (.iload_n 2, 1) := by decide +kernel
theorem dX4_movePointed_10 : decode cX4_movePointed 10 = .ok (.invokevirtual 62, 3) := by decide +kernel
theorem dX4_movePointed_13 : decode cX4_movePointed 13 = .ok (.istore_n 3, 1) := by decide +kernel
theorem dX4_movePointed_14 : decode cX4_movePointed 14 = .ok (.iload_n 1, 1) := by decide +kernel
theorem dX4_movePointed_15 : decode cX4_movePointed 15 = .ok (.iconst 3, 1) := by decide +kernel
theorem dX4_movePointed_16 : decode cX4_movePointed 16 = .ok (.iand, 1) := by decide +kernel
theorem dX4_movePointed_17 : decode cX4_movePointed 17 = .ok (.iconst 2, 1) := by decide +kernel
theorem dX4_movePointed_18 : decode cX4_movePointed 18 = .ok (.if_icmp .ne 7, 3) := by decide +kernel
theorem dX4_movePointed_21 : decode cX4_movePointed 21 = .ok (.iconst 1, 1) := by decide +kernel
theorem dX4_movePointed_22 : decode cX4_movePointed 22 = .ok (.goto 4, 3) := by decide +kernel
theorem dX4_movePointed_25 : decode cX4_movePointed 25 = .ok (.iconst 0, 1) := by decide +kernel
theorem dX4_movePointed_26 : decode cX4_movePointed 26 = .ok (.istore 4, 2) := by decide +kernel
theorem dX4_movePointed_28 : decode cX4_movePointed 28 = .ok (.iload_n 1, 1) := by decide +kernel
theorem dX4_movePointed_29 : decode cX4_movePointed 29 = .ok (.iconst 3, 1) := by decide +kernel
theorem dX4_movePointed_30 : decode cX4_movePointed 30 = .ok (.iand, 1) := by decide +kernel
theorem dX4_movePointed_31 : decode cX4_movePointed 31 = .ok (.iconst 1, 1) := by decide +kernel
theorem dX4_movePointed_32 : decode cX4_movePointed 32 = .ok (.if_icmp .ne 7, 3) := by decide +kernel
theorem dX4_movePointed_35 : decode cX4_movePointed 35 = .ok (.iconst 1, 1) := by decide +kernel
theorem dX4_movePointed_36 : decode cX4_movePointed 36 = .ok (.goto 4, 3) := by decide +kernel
theorem dX4_movePointed_39 : decode cX4_movePointed 39 = .ok (.iconst 0, 1) := by decide +kernel
theorem dX4_movePointed_40 : decode cX4_movePointed 40 = .ok (.istore 5, 2) := by decide +kernel
theorem dX4_movePointed_42 : decode cX4_movePointed 42 = .ok (.iload 4, 2) := by decide +kernel
theorem dX4_movePointed_44 : decode cX4_movePointed 44 = .ok (.ifCond .eq 12, 3) := by decide +kernel
theorem dX4_movePointed_47 : decode cX4_movePointed 47 = .ok (.iload_n 3, 1) := by decide +kernel
theorem dX4_movePointed_48 : decode cX4_movePointed 48 = .ok (.iconst 1, 1) := by decide +kernel
theorem dX4_movePointed_49 : decode cX4_movePointed 49 = .ok (.isub, 1) := by decide +kernel
theorem dX4_movePointed_50 : decode cX4_movePointed 50 = .ok (.ldc 50, 2) := by decide +kernel
theorem dX4_movePointed_52 : decode cX4_movePointed 52 = .ok (.iand, 1) := by decide +kernel
theorem dX4_movePointed_53 : decode cX4_movePointed 53 = .ok (.goto 4, 3) := by decide +kernel
theorem dX4_movePointed_56 : decode cX4_movePointed 56 = .ok (.iload_n 3, 1) := by decide +kernel
theorem dX4_movePointed_57 : decode cX4_movePointed 57 = .ok (.istore 6, 2) := by decide +kernel
theorem dX4_movePointed_59 : decode cX4_movePointed 59 = .ok (.iload 6, 2) := by decide +kernel
theorem dX4_movePointed_61 : decode cX4_movePointed 61 = .ok (.sipush 1023, 3) := by decide +kernel
theorem dX4_movePointed_64 : decode cX4_movePointed 64 = .ok (.if_icmp .le 5, 3) := by decide +kernel
theorem dX4_movePointed_67 : decode cX4_movePointed 67 = .ok (.iconst 3, 1) := by decide +kernel
theorem dX4_movePointed_68 : decode cX4_movePointed 68 = .ok (.ireturn, 1) := by decide +kernel
theorem dX4_movePointed_69 : decode cX4_movePointed 69 = .ok (.iload 4, 2) := by decide +kernel
theorem dX4_movePointed_71 : decode cX4_movePointed 71 = .ok (.ifCond .eq 13, 3) := by decide +kernel
theorem dX4_movePointed_74 : decode cX4_movePointed 74 = .ok (.aload_n 0, 1) := by decide +kernel
theorem dX4_movePointed_75 : decode cX4_movePointed 75 = .ok (.getfield 16, 3) := by decide +kernel
theorem dX4_movePointed_78 : decode cX4_movePointed 78 = .ok (.iload_n 2, 1) := by decide +kernel
theorem dX4_movePointed_79 : decode cX4_movePointed 79 = .ok (.iload 6, 2) := by decide +kernel
theorem dX4_movePointed_81 : decode cX4_movePointed 81 = .ok (.invokevirtual 170, 3) := by decide +kernel
theorem dX4_movePointed_84 : decode cX4_movePointed 84 = .ok (.aload_n 0, 1) := by decide +kernel
theorem dX4_movePointed_85 : decode cX4_movePointed 85 = .ok (.iload_n 1, 1) := by decide +kernel
theorem dX4_movePointed_86 : decode cX4_movePointed 86 = .ok (.iload 6, 2) := by decide +kernel
theorem dX4_movePointed_88 : decode cX4_movePointed 88 = .ok (.invokevirtual 229, 3) := by decide +kernel
theorem dX4_movePointed_91 : decode cX4_movePointed 91 = .ok (.iload 5, 2) := by decide +kernel
theorem dX4_movePointed_93 : decode cX4_movePointed 93 = .ok (.ifCond .eq 14, 3) := by decide +kernel
theorem dX4_movePointed_96 : decode cX4_movePointed 96 = .ok (.aload_n 0, 1) := by decide +kernel
theorem dX4_movePointed_97 : decode cX4_movePointed 97 = .ok (.getfield 16, 3) := by decide +kernel
theorem dX4_movePointed_100 : decode cX4_movePointed 100 = .ok (.iload_n 2, 1) := by decide +kernel
theorem dX4_movePointed_101 : decode cX4_movePointed 101 = .ok (.iload_n 3, 1) := by decide +kernel
theorem dX4_movePointed_102 : decode cX4_movePointed 102 = .ok (.iconst 1, 1) := by decide +kernel
theorem dX4_movePointed_103 : decode cX4_movePointed 103 = .ok (.iadd, 1) := by decide +kernel
theorem dX4_movePointed_104 : decode cX4_movePointed 104 = .ok (.invokevirtual 170, 3) := by decide +kernel
theorem dX4_movePointed_107 : decode cX4_movePointed 107 = .ok (.aload_n 0, 1) := by decide +kernel
theorem dX4_movePointed_108 : decode cX4_movePointed 108 = .ok (.iconst 1, 1) := by decide +kernel
theorem dX4_movePointed_109 : decode cX4_movePointed 109 = .ok (.invokevirtual 102, 3) := by decide +kernel
theorem dX4_movePointed_112 : decode cX4_movePointed 112 = .ok (.ireturn, 1) := by decide +kernel
set_option maxRecDepth 20000 in
theorem ggX4_moveStacked_X0_pair : GoodIn wsX4_moveStacked wsX0_pair := goodIn_r _ [7, 8, 50] (by decide +kernel) (by decide +kernel)
set_option maxRecDepth 20000 in
theorem gX4_moveStacked_X0_pair : GoodIn wsX4_moveStacked (wsV RX4 62 RX0 yX0_pair wsX0_pair) := goodIn_app (goodIn_of _ (by decide +kernel)) ggX4_moveStacked_X0_pair
set_option maxRecDepth 20000 in
theorem ggX4_moveStacked_X3_d : GoodIn wsX4_moveStacked wsX3_d := goodIn_r _ [12] (by decide +kernel) (by decide +kernel)
set_option maxRecDepth 20000 in
theorem gX4_moveStacked_X3_d : GoodIn wsX4_moveStacked (va_wsS RX4 173 yX3_d wsX3_d) := goodIn_app (goodIn_of _ (by decide +kernel)) ggX4_moveStacked_X3_d
set_option maxRecDepth 20000 in
theorem ggX4_moveStacked_X0_pull : GoodIn wsX4_moveStacked wsX0_pull := goodIn_r _ [16, 17, 4, 5, 6, 7, 8, 18, 19, 20, 21, 22, 23, 24, 25, 50] (by decide +kernel) (by decide +kernel)
set_option maxRecDepth 20000 in
theorem gX4_moveStacked_X0_pull : GoodIn wsX4_moveStacked (wsV RX4 235 RX0 yX0_pull wsX0_pull) := goodIn_app (goodIn_of _ (by decide +kernel)) ggX4_moveStacked_X0_pull
set_option maxRecDepth 20000 in
theorem ggX4_moveStacked_X0_set : GoodIn wsX4_moveStacked wsX0_set := goodIn_r _ [29, 8, 50] (by decide +kernel) (by decide +kernel)
set_option maxRecDepth 20000 in
theorem gX4_moveStacked_X0_set : GoodIn wsX4_moveStacked (wsV RX4 58 RX0 yX0_set wsX0_set) := goodIn_app (goodIn_of _ (by decide +kernel)) ggX4_moveStacked_X0_set
set_option maxRecDepth 20000 in
theorem ggX4_moveStacked_X0_get : GoodIn wsX4_moveStacked wsX0_get := goodIn_r _ [25, 8, 50] (by decide +kernel) (by decide +kernel)
set_option maxRecDepth 20000 in
theorem gX4_moveStacked_X0_get : GoodIn wsX4_moveStacked (wsV RX4 55 RX0 yX0_get wsX0_get) := goodIn_app (goodIn_of _ (by decide +kernel)) ggX4_moveStacked_X0_get
set_option maxRecDepth 20000 in
theorem ggX4_moveStacked_X0_push : GoodIn wsX4_moveStacked wsX0_push := goodIn_r _ [34, 17, 4, 5, 6, 7, 8, 35, 27, 28, 29, 18, 19, 20, 21, 50] (by decide +kernel) (by decide +kernel)
set_option maxRecDepth 20000 in
theorem gX4_moveStacked_X0_push : GoodIn wsX4_moveStacked (wsV RX4 238 RX0 yX0_push wsX0_push) := goodIn_app (goodIn_of _ (by decide +kernel)) ggX4_moveStacked_X0_push
set_option maxRecDepth 20000 in
theorem ggX4_moveStacked_X4_onward : GoodIn wsX4_moveStacked wsX4_onward := goodIn_r _ [40, 41, 42, 43, 44, 45, 46, 47, 48, 49] (by decide +kernel) (by decide +kernel)
set_option maxRecDepth 20000 in
theorem gX4_moveStacked_X4_onward : GoodIn wsX4_moveStacked (wsV RX4 102 RX4 yX4_onward wsX4_onward) := goodIn_app (goodIn_of _ (by decide +kernel)) ggX4_moveStacked_X4_onward
theorem dX4_moveStacked_0 : decode cX4_moveStacked 0 = .ok (.iload_n 1, 1) := by decide +kernel
theorem dX4_moveStacked_1 : decode cX4_moveStacked 1 = .ok (.sipush 512, 3) := by decide +kernel
theorem dX4_moveStacked_4 : decode cX4_moveStacked 4 = .ok (.iand, 1) := by decide +kernel
theorem dX4_moveStacked_5 : decode cX4_moveStacked 5 = .ok (.ifCond .ne 7, 3) := by decide +kernel
theorem dX4_moveStacked_8 : decode cX4_moveStacked 8 = .ok (.iconst 1, 1) := by decide +kernel
theorem dX4_moveStacked_9 : decode cX4_moveStacked 9 = .ok (.goto 4, 3) := by decide +kernel
theorem dX4_moveStacked_12 : decode cX4_moveStacked 12 = .ok (.iconst 0, 1) := by decide +kernel
theorem dX4_moveStacked_13 : decode cX4_moveStacked 13 = .ok (.istore_n 2, 1) := by decide +kernel
theorem dX4_moveStacked_14 : decode cX4_moveStacked 14 = .ok (.aload_n 0, 1) := by decide +kernel
theorem dX4_moveStacked_15 : decode cX4_moveStacked 15 = .ok (.getfield 16, 3) := by decide +kernel
theorem dX4_moveStacked_18 : decode cX4_moveStacked 18 = .ok (.bipush 93, 2) := by decide +kernel
theorem dX4_moveStacked_20 : decode cX4_moveStacked 20 = .ok (.invokevirtual 62, 3) := by decide +kernel
theorem dX4_moveStacked_23 : decode cX4_moveStacked 23 = .ok (.iload_n 2, 1) := by decide +kernel
theorem dX4_moveStacked_24 : decode cX4_moveStacked 24 = .ok (.ifCond .eq 7, 3) := by decide +kernel
theorem dX4_moveStacked_27 : decode cX4_moveStacked 27 = .ok (.iconst 1, 1) := by decide +kernel
theorem dX4_moveStacked_28 : decode cX4_moveStacked 28 = .ok (.goto 4, 3) := by decide +kernel
theorem dX4_moveStacked_31 : decode cX4_moveStacked 31 = .ok (.iconst 0, 1) := by decide +kernel
theorem dX4_moveStacked_32 : decode cX4_moveStacked 32 = .ok (.iadd, 1) := by decide +kernel
theorem dX4_moveStacked_33 : decode cX4_moveStacked 33 = .ok (.ldc 50, 2) := by decide +kernel
theorem dX4_moveStacked_35 : decode cX4_moveStacked 35 = .ok (.iand, 1) := by decide +kernel
theorem dX4_moveStacked_36 : decode cX4_moveStacked 36 = .ok (.istore_n 3, 1) := by decide +kernel
theorem dX4_moveStacked_37 : decode cX4_moveStacked 37 = .ok (.iload_n 3, 1) := by decide +kernel
theorem dX4_moveStacked_38 : decode cX4_moveStacked 38 = .ok (.sipush 1023, 3) := by decide +kernel
theorem dX4_moveStacked_41 : decode cX4_moveStacked 41 = .ok (.if_icmp .le 5, 3) := by decide +kernel
theorem dX4_moveStacked_44 : decode cX4_moveStacked 44 = .ok (.iconst 3, 1) := by decide +kernel
theorem dX4_moveStacked_45 : decode cX4_moveStacked 45 = .ok (.ireturn, 1) := by decide +kernel
theorem dX4_moveStacked_46 : decode cX4_moveStacked 46 = .ok (.iload_n 1, 1) := by decide +kernel
theorem dX4_moveStacked_47 : decode cX4_moveStacked 47 = .ok (.invokestatic 173, 3) := by decide +kernel
theorem dX4_moveStacked_50 : decode cX4_moveStacked 50 = .ok (.istore 4, 2) := by decide +kernel
theorem dX4_moveStacked_52 : decode cX4_moveStacked 52 = .ok (.iload_n 2, 1) := by decide +kernel
theorem dX4_moveStacked_53 : decode cX4_moveStacked 53 = .ok (.ifCond .eq 22, 3) := by decide +kernel
theorem dX4_moveStacked_56 : decode cX4_moveStacked 56 = .ok (.aload_n 0, 1) := by decide +kernel
theorem dX4_moveStacked_57 : decode cX4_moveStacked 57 = .ok (.getfield 16, 3) := by decide +kernel
theorem dX4_moveStacked_60 : decode cX4_moveStacked 60 = .ok (.iload 4, 2) := by decide +kernel
theorem dX4_moveStacked_62 : decode cX4_moveStacked 62 = .ok (.aload_n 0, 1) := by decide +kernel
theorem dX4_moveStacked_63 : decode cX4_moveStacked 63 = .ok (.getfield 16, 3) := by decide +kernel
theorem dX4_moveStacked_66 : decode cX4_moveStacked 66 = .ok (.invokevirtual 235, 3) := by decide +kernel
theorem dX4_moveStacked_69 : decode cX4_moveStacked 69 = .ok (.invokevirtual 58, 3) := by decide +kernel
theorem dX4_moveStacked_72 : decode cX4_moveStacked 72 = .ok (.goto 19, 3) := by decide +kernel
theorem dX4_moveStacked_75 : decode cX4_moveStacked 75 = .ok (.aload_n 0, 1) := by decide +kernel
theorem dX4_moveStacked_76 : decode cX4_moveStacked 76 = .ok (.getfield 16, 3) := by decide +kernel
theorem dX4_moveStacked_79 : decode cX4_moveStacked 79 = .ok (.aload_n 0, 1) := by decide +kernel
theorem dX4_moveStacked_80 : decode cX4_moveStacked 80 = .ok (.getfield 16, 3) := by decide +kernel
theorem dX4_moveStacked_83 : decode cX4_moveStacked 83 = .ok (.iload 4, 2) := by decide +kernel
theorem dX4_moveStacked_85 : decode cX4_moveStacked 85 = .ok (.invokevirtual 55, 3) := by decide +kernel
theorem dX4_moveStacked_88 : decode cX4_moveStacked 88 = .ok (.invokevirtual 238, 3) := by decide +kernel
theorem dX4_moveStacked_91 : decode cX4_moveStacked 91 = .ok (.aload_n 0, 1) := by decide +kernel
theorem dX4_moveStacked_92 : decode cX4_moveStacked 92 = .ok (.iconst 1, 1) := by decide +kernel
theorem dX4_moveStacked_93 : decode cX4_moveStacked 93 = .ok (.invokevirtual 102, 3) := by decide +kernel
theorem dX4_moveStacked_96 : decode cX4_moveStacked 96 = .ok (.ireturn, 1) := by decide +kernel
set_option maxRecDepth 20000 in
theorem ggX4_moveBeside_X0_pair : GoodIn wsX4_moveBeside wsX0_pair := goodIn_r _ [7, 8, 39] (by decide +kernel) (by decide +kernel)
set_option maxRecDepth 20000 in
theorem gX4_moveBeside_X0_pair : GoodIn wsX4_moveBeside (wsV RX4 62 RX0 yX0_pair wsX0_pair) := goodIn_app (goodIn_of _ (by decide +kernel)) ggX4_moveBeside_X0_pair
set_option maxRecDepth 20000 in
theorem ggX4_moveBeside_X4_transfer : GoodIn wsX4_moveBeside wsX4_transfer := goodIn_r _ [13, 1, 14, 15, 16, 17, 18, 19, 20, 6, 21, 8, 22, 23, 24, 25, 31, 32, 33, 34, 35, 36, 37, 38, 39] (by decide +kernel) (by decide +kernel)
set_option maxRecDepth 20000 in
theorem gX4_moveBeside_X4_transfer : GoodIn wsX4_moveBeside (wsV RX4 229 RX4 yX4_transfer wsX4_transfer) := goodIn_app (goodIn_of _ (by decide +kernel)) ggX4_moveBeside_X4_transfer
set_option maxRecDepth 20000 in
theorem ggX4_moveBeside_X4_onward : GoodIn wsX4_moveBeside wsX4_onward := goodIn_r _ [29, 30, 31, 32, 33, 34, 35, 36, 37, 38] (by decide +kernel) (by decide +kernel)
set_option maxRecDepth 20000 in
theorem gX4_moveBeside_X4_onward : GoodIn wsX4_moveBeside (wsV RX4 102 RX4 yX4_onward wsX4_onward) := goodIn_app (goodIn_of _ (by decide +kernel)) ggX4_moveBeside_X4_onward
theorem dX4_moveBeside_0 : decode cX4_moveBeside 0 = .ok (.iload_n 1, 1) := by decide +kernel
theorem dX4_moveBeside_1 : decode cX4_moveBeside 1 = .ok (.bipush 8, 2) := by decide +kernel
theorem dX4_moveBeside_3 : decode cX4_moveBeside 3 = .ok (.iand, 1) := by decide +kernel
theorem dX4_moveBeside_4 : decode cX4_moveBeside 4 = .ok (.ifCond .ne 8, 3) := by decide +kernel
theorem dX4_moveBeside_7 : decode cX4_moveBeside 7 = .ok (.bipush 30, 2) := by decide +kernel
theorem dX4_moveBeside_9 : decode cX4_moveBeside 9 = .ok (.goto 5, 3) := by decide +kernel
theorem dX4_moveBeside_12 : decode cX4_moveBeside 12 = .ok (.bipush 28, 2) := by decide +kernel
theorem dX4_moveBeside_14 : decode cX4_moveBeside 14 = .ok (.istore_n 2, 1) := by decide +kernel
theorem dX4_moveBeside_15 : decode cX4_moveBeside 15 = .ok (.iload_n 1, 1) := by decide +kernel
theorem dX4_moveBeside_16 : decode cX4_moveBeside 16 = .ok (.bipush 8, 2) := by decide +kernel
theorem dX4_moveBeside_18 : decode cX4_moveBeside 18 = .ok (.ishr, 1) := by decide +kernel
theorem dX4_moveBeside_19 : decode cX4_moveBeside 19 = .ok (.bipush 32, 2) := by decide +kernel
theorem dX4_moveBeside_21 : decode cX4_moveBeside 21 = .ok (.iand, 1) := by decide +kernel
theorem dX4_moveBeside_22 : decode cX4_moveBeside 22 = .ok (.iload_n 1, 1) := by decide +kernel
theorem dX4_moveBeside_23 : decode cX4_moveBeside 23 = .ok (.bipush 7, 2) := by decide +kernel
theorem dX4_moveBeside_25 : decode cX4_moveBeside 25 = .ok (.ishr, 1) := by decide +kernel
theorem dX4_moveBeside_26 : decode cX4_moveBeside 26 = .ok (.bipush 24, 2) := by decide +kernel
theorem dX4_moveBeside_28 : decode cX4_moveBeside 28 = .ok (.iand, 1) := by decide +kernel
theorem dX4_moveBeside_29 : decode cX4_moveBeside 29 = .ok (.ior, 1) := by decide +kernel
theorem dX4_moveBeside_30 : decode cX4_moveBeside 30 = .ok (.iload_n 1, 1) := by decide +kernel
theorem dX4_moveBeside_31 : decode cX4_moveBeside 31 = .ok (.bipush 7, 2) := by decide +kernel
theorem dX4_moveBeside_33 : decode cX4_moveBeside 33 = .ok (.iand, 1) := by decide +kernel
theorem dX4_moveBeside_34 : decode cX4_moveBeside 34 = .ok (.ior, 1) := by decide +kernel
theorem dX4_moveBeside_35 : decode cX4_moveBeside 35 = .ok (.istore_n 3, 1) := by decide +kernel
theorem dX4_moveBeside_36 : decode cX4_moveBeside 36 = .ok (.aload_n 0, 1) := by decide +kernel
theorem dX4_moveBeside_37 : decode cX4_moveBeside 37 = .ok (.getfield 16, 3) := by decide +kernel
theorem dX4_moveBeside_40 : decode cX4_moveBeside 40 = .ok (.iload_n 2, 1) := by decide +kernel
theorem dX4_moveBeside_41 : decode cX4_moveBeside 41 = .ok (.invokevirtual 62, 3) := by decide +kernel
theorem dX4_moveBeside_44 : decode cX4_moveBeside 44 = .ok (.iload_n 3, 1) := by decide +kernel
theorem dX4_moveBeside_45 : decode cX4_moveBeside 45 = .ok (.iadd, 1) := by decide +kernel
theorem dX4_moveBeside_46 : decode cX4_moveBeside 46 = .ok (.ldc 50, 2) := by decide +kernel
theorem dX4_moveBeside_48 : decode cX4_moveBeside 48 = .ok (.iand, 1) := by decide +kernel
theorem dX4_moveBeside_49 : decode cX4_moveBeside 49 = .ok (.istore 4, 2) := by decide +kernel
theorem dX4_moveBeside_51 : decode cX4_moveBeside 51 = .ok (.iload 4, 2) := by decide +kernel
theorem dX4_moveBeside_53 : decode cX4_moveBeside 53 = .ok (.sipush 1023, 3) := by decide +kernel
theorem dX4_moveBeside_56 : decode cX4_moveBeside 56 = .ok (.if_icmp .le 5, 3) := by decide +kernel
theorem dX4_moveBeside_59 : decode cX4_moveBeside 59 = .ok (.iconst 3, 1) := by decide +kernel
theorem dX4_moveBeside_60 : decode cX4_moveBeside 60 = .ok (.ireturn, 1) := by decide +kernel
theorem dX4_moveBeside_61 : decode cX4_moveBeside 61 = .ok (.aload_n 0, 1) := by decide +kernel
theorem dX4_moveBeside_62 : decode cX4_moveBeside 62 = .ok (.iload_n 1, 1) := by decide +kernel
theorem dX4_moveBeside_63 : decode cX4_moveBeside 63 = .ok (.iload 4, 2) := by decide +kernel
theorem dX4_moveBeside_65 : decode cX4_moveBeside 65 = .ok (.invokevirtual 229, 3) := by decide +kernel
theorem dX4_moveBeside_68 : decode cX4_moveBeside 68 = .ok (.aload_n 0, 1) := by decide +kernel
theorem dX4_moveBeside_69 : decode cX4_moveBeside 69 = .ok (.iconst 1, 1) := by decide +kernel
theorem dX4_moveBeside_70 : decode cX4_moveBeside 70 = .ok (.invokevirtual 102, 3) := by decide +kernel
theorem dX4_moveBeside_73 : decode cX4_moveBeside 73 = .ok (.ireturn, 1) := by decide +kernel
set_option maxRecDepth 20000 in
theorem ggX4_moveFromCode_X0_pair : GoodIn wsX4_moveFromCode wsX0_pair := goodIn_r _ [7, 8, 40] (by decide +kernel) (by decide +kernel)
set_option maxRecDepth 20000 in
theorem gX4_moveFromCode_X0_pair : GoodIn wsX4_moveFromCode (wsV RX4 62 RX0 yX0_pair wsX0_pair) := goodIn_app (goodIn_of _ (by decide +kernel)) ggX4_moveFromCode_X0_pair
set_option maxRecDepth 20000 in
theorem ggX4_moveFromCode_X4_cellAt : GoodIn wsX4_moveFromCode wsX4_cellAt := goodIn_r _ [13, 14, 32, 33, 34, 35, 36, 37, 38, 39] (by decide +kernel) (by decide +kernel)
set_option maxRecDepth 20000 in
theorem gX4_moveFromCode_X4_cellAt : GoodIn wsX4_moveFromCode (wsV RX4 51 RX4 yX4_cellAt wsX4_cellAt) := goodIn_app (goodIn_of _ (by decide +kernel)) ggX4_moveFromCode_X4_cellAt
set_option maxRecDepth 20000 in
theorem ggX4_moveFromCode_X3_d : GoodIn wsX4_moveFromCode wsX3_d := goodIn_r _ [18] (by decide +kernel) (by decide +kernel)
set_option maxRecDepth 20000 in
theorem gX4_moveFromCode_X3_d : GoodIn wsX4_moveFromCode (va_wsS RX4 173 yX3_d wsX3_d) := goodIn_app (goodIn_of _ (by decide +kernel)) ggX4_moveFromCode_X3_d
set_option maxRecDepth 20000 in
theorem ggX4_moveFromCode_X0_set : GoodIn wsX4_moveFromCode wsX0_set := goodIn_r _ [22, 8, 40] (by decide +kernel) (by decide +kernel)
set_option maxRecDepth 20000 in
theorem gX4_moveFromCode_X0_set : GoodIn wsX4_moveFromCode (wsV RX4 58 RX0 yX0_set wsX0_set) := goodIn_app (goodIn_of _ (by decide +kernel)) ggX4_moveFromCode_X0_set
set_option maxRecDepth 20000 in
theorem ggX4_moveFromCode_X0_setPair : GoodIn wsX4_moveFromCode wsX0_setPair := goodIn_r _ [26, 8, 40] (by decide +kernel) (by decide +kernel)
set_option maxRecDepth 20000 in
theorem gX4_moveFromCode_X0_setPair : GoodIn wsX4_moveFromCode (wsV RX4 170 RX0 yX0_setPair wsX0_setPair) := goodIn_app (goodIn_of _ (by decide +kernel)) ggX4_moveFromCode_X0_setPair
set_option maxRecDepth 20000 in
theorem ggX4_moveFromCode_X4_onward : GoodIn wsX4_moveFromCode wsX4_onward := goodIn_r _ [30, 31, 32, 33, 34, 35, 36, 37, 38, 39] (by decide +kernel) (by decide +kernel)
set_option maxRecDepth 20000 in
theorem gX4_moveFromCode_X4_onward : GoodIn wsX4_moveFromCode (wsV RX4 102 RX4 yX4_onward wsX4_onward) := goodIn_app (goodIn_of _ (by decide +kernel)) ggX4_moveFromCode_X4_onward
theorem dX4_moveFromCode_0 : decode cX4_moveFromCode 0 = .ok (.aload_n 0, 1) := by decide +kernel
theorem dX4_moveFromCode_1 : decode cX4_moveFromCode 1 = .ok (.getfield 16, 3) := by decide +kernel
theorem dX4_moveFromCode_4 : decode cX4_moveFromCode 4 = .ok (.bipush 30, 2) := by decide +kernel
theorem dX4_moveFromCode_6 : decode cX4_moveFromCode 6 = .ok (.invokevirtual 62, 3) := by decide +kernel
theorem dX4_moveFromCode_9 : decode cX4_moveFromCode 9 = .ok (.istore_n 2, 1) := by decide +kernel
theorem dX4_moveFromCode_10 : decode cX4_moveFromCode 10 = .ok (.aload_n 0, 1) := by decide +kernel
theorem dX4_moveFromCode_11 : decode cX4_moveFromCode 11 = .ok (.iload_n 2, 1) := by decide +kernel
theorem dX4_moveFromCode_12 : decode cX4_moveFromCode 12 = .ok (.iconst 1, 1) := by decide +kernel
theorem dX4_moveFromCode_13 : decode cX4_moveFromCode 13 = .ok (.ishr, 1) := by decide +kernel
theorem dX4_moveFromCode_14 : decode cX4_moveFromCode 14 = .ok (.invokevirtual 51, 3) := by decide +kernel
theorem dX4_moveFromCode_17 : decode cX4_moveFromCode 17 = .ok (.istore_n 3, 1) := by decide +kernel
theorem dX4_moveFromCode_18 : decode cX4_moveFromCode 18 = .ok (.aload_n 0, 1) := by decide +kernel
theorem dX4_moveFromCode_19 : decode cX4_moveFromCode 19 = .ok (.getfield 16, 3) := by decide +kernel
theorem dX4_moveFromCode_22 : decode cX4_moveFromCode 22 = .ok (.iload_n 1, 1) := by decide +kernel
theorem dX4_moveFromCode_23 : decode cX4_moveFromCode 23 = .ok (.ldc 241, 2) := by decide +kernel
theorem dX4_moveFromCode_25 : decode cX4_moveFromCode 25 = .ok (.if_icmp .ne 7, 3) := by decide +kernel
theorem dX4_moveFromCode_28 : decode cX4_moveFromCode 28 = .ok (.iconst 0, 1) := by decide +kernel
theorem dX4_moveFromCode_29 : decode cX4_moveFromCode 29 = .ok (.goto 7, 3) := by decide +kernel
theorem dX4_moveFromCode_32 : decode cX4_moveFromCode 32 = .ok (.iload_n 1, 1) := by decide +kernel
theorem dX4_moveFromCode_33 : decode cX4_moveFromCode 33 = .ok (.invokestatic 173, 3) := by decide +kernel
theorem dX4_moveFromCode_36 : decode cX4_moveFromCode 36 = .ok (.iload_n 2, 1) := by decide +kernel
theorem dX4_moveFromCode_37 : decode cX4_moveFromCode 37 = .ok (.iconst 1, 1) := by decide +kernel
theorem dX4_moveFromCode_38 : decode cX4_moveFromCode 38 = .ok (.iand, 1) := by decide +kernel
theorem dX4_moveFromCode_39 : decode cX4_moveFromCode 39 = .ok (.ifCond .ne 7, 3) := by decide +kernel
theorem dX4_moveFromCode_42 : decode cX4_moveFromCode 42 = .ok (.iload_n 3, 1) := by decide +kernel
theorem dX4_moveFromCode_43 : decode cX4_moveFromCode 43 = .ok (.goto 7, 3) := by decide +kernel
theorem dX4_moveFromCode_46 : decode cX4_moveFromCode 46 = .ok (.iload_n 3, 1) := by decide +kernel
theorem dX4_moveFromCode_47 : decode cX4_moveFromCode 47 = .ok (.bipush 8, 2) := by decide +kernel
theorem dX4_moveFromCode_49 : decode cX4_moveFromCode 49 = .ok (.ishr, 1) := by decide +kernel
theorem dX4_moveFromCode_50 : decode cX4_moveFromCode 50 = .ok (.invokevirtual 58, 3) := by decide +kernel
theorem dX4_moveFromCode_53 : decode cX4_moveFromCode 53 = .ok (.iload_n 1, 1) := by decide +kernel
theorem dX4_moveFromCode_54 : decode cX4_moveFromCode 54 = .ok (.iconst 1, 1) := by decide +kernel
theorem dX4_moveFromCode_55 : decode cX4_moveFromCode 55 = .ok (.iand, 1) := by decide +kernel
theorem dX4_moveFromCode_56 : decode cX4_moveFromCode 56 = .ok (.iconst 1, 1) := by decide +kernel
theorem dX4_moveFromCode_57 : decode cX4_moveFromCode 57 = .ok (.if_icmp .ne 15, 3) := by decide +kernel
theorem dX4_moveFromCode_60 : decode cX4_moveFromCode 60 = .ok (.aload_n 0, 1) := by decide +kernel
theorem dX4_moveFromCode_61 : decode cX4_moveFromCode 61 = .ok (.getfield 16, 3) := by decide +kernel
theorem dX4_moveFromCode_64 : decode cX4_moveFromCode 64 = .ok (.bipush 30, 2) := by decide +kernel
theorem dX4_moveFromCode_66 : decode cX4_moveFromCode 66 = .ok (.iload_n 2, 1) := by decide +kernel
theorem dX4_moveFromCode_67 : decode cX4_moveFromCode 67 = .ok (.iconst 1, 1) := by decide +kernel
theorem dX4_moveFromCode_68 : decode cX4_moveFromCode 68 = .ok (.iadd, 1) := by decide +kernel
theorem dX4_moveFromCode_69 : decode cX4_moveFromCode 69 = .ok (.invokevirtual 170, 3) := by decide +kernel
theorem dX4_moveFromCode_72 : decode cX4_moveFromCode 72 = .ok (.aload_n 0, 1) := by decide +kernel
theorem dX4_moveFromCode_73 : decode cX4_moveFromCode 73 = .ok (.iconst 1, 1) := by decide +kernel
theorem dX4_moveFromCode_74 : decode cX4_moveFromCode 74 = .ok (.invokevirtual 102, 3) := by decide +kernel
theorem dX4_moveFromCode_77 : decode cX4_moveFromCode 77 = .ok (.ireturn, 1) := by decide +kernel
set_option maxRecDepth 20000 in
theorem ggX4_movePort_X3_d : GoodIn wsX4_movePort wsX3_d := goodIn_r _ [5] (by decide +kernel) (by decide +kernel)
set_option maxRecDepth 20000 in
theorem gX4_movePort_X3_d : GoodIn wsX4_movePort (va_wsS RX4 173 yX3_d wsX3_d) := goodIn_app (goodIn_of _ (by decide +kernel)) ggX4_movePort_X3_d
set_option maxRecDepth 20000 in
theorem ggX4_movePort_X0_get : GoodIn wsX4_movePort wsX0_get := goodIn_r _ [10, 11, 30] (by decide +kernel) (by decide +kernel)
set_option maxRecDepth 20000 in
theorem gX4_movePort_X0_get : GoodIn wsX4_movePort (wsV RX4 55 RX0 yX0_get wsX0_get) := goodIn_app (goodIn_of _ (by decide +kernel)) ggX4_movePort_X0_get
set_option maxRecDepth 20000 in
theorem ggX4_movePort_X0_set : GoodIn wsX4_movePort wsX0_set := goodIn_r _ [15, 11, 30] (by decide +kernel) (by decide +kernel)
set_option maxRecDepth 20000 in
theorem gX4_movePort_X0_set : GoodIn wsX4_movePort (wsV RX4 58 RX0 yX0_set wsX0_set) := goodIn_app (goodIn_of _ (by decide +kernel)) ggX4_movePort_X0_set
set_option maxRecDepth 20000 in
theorem ggX4_movePort_X4_onward : GoodIn wsX4_movePort wsX4_onward := goodIn_r _ [20, 21, 22, 23, 24, 25, 26, 27, 28, 29] (by decide +kernel) (by decide +kernel)
set_option maxRecDepth 20000 in
theorem gX4_movePort_X4_onward : GoodIn wsX4_movePort (wsV RX4 102 RX4 yX4_onward wsX4_onward) := goodIn_app (goodIn_of _ (by decide +kernel)) ggX4_movePort_X4_onward
theorem dX4_movePort_0 : decode cX4_movePort 0 = .ok (.iload_n 1, 1) := by decide +kernel
theorem dX4_movePort_1 : decode cX4_movePort 1 = .ok (.invokestatic 173, 3) := by decide +kernel
theorem dX4_movePort_4 : decode cX4_movePort 4 = .ok (.istore_n 2, 1) := by decide +kernel
theorem dX4_movePort_5 : decode cX4_movePort 5 = .ok (.bipush 32, 2) := by decide +kernel
theorem dX4_movePort_7 : decode cX4_movePort 7 = .ok (.iload_n 1, 1) := by decide +kernel
theorem dX4_movePort_8 : decode cX4_movePort 8 = .ok (.iconst 5, 1) := by decide +kernel
theorem dX4_movePort_9 : decode cX4_movePort 9 = .ok (.ishr, 1) := by decide +kernel
theorem dX4_movePort_10 : decode cX4_movePort 10 = .ok (.bipush 48, 2) := by decide +kernel
theorem dX4_movePort_12 : decode cX4_movePort 12 = .ok (.iand, 1) := by decide +kernel
theorem dX4_movePort_13 : decode cX4_movePort 13 = .ok (.iload_n 1, 1) := by decide +kernel
theorem dX4_movePort_14 : decode cX4_movePort 14 = .ok (.bipush 15, 2) := by decide +kernel
theorem dX4_movePort_16 : decode cX4_movePort 16 = .ok (.iand, 1) := by decide +kernel
theorem dX4_movePort_17 : decode cX4_movePort 17 = .ok (.ior, 1) := by decide +kernel
theorem dX4_movePort_18 : decode cX4_movePort 18 = .ok (.iadd, 1) := by decide +kernel
theorem dX4_movePort_19 : decode cX4_movePort 19 = .ok (.istore_n 3, 1) := by decide +kernel
theorem dX4_movePort_20 : decode cX4_movePort 20 = .ok (.iload_n 1, 1) := by decide +kernel
theorem dX4_movePort_21 : decode cX4_movePort 21 = .ok (.sipush 2048, 3) := by decide +kernel
theorem dX4_movePort_24 : decode cX4_movePort 24 = .ok (.iand, 1) := by decide +kernel
theorem dX4_movePort_25 : decode cX4_movePort 25 = .ok (.ifCond .ne 22, 3) := by decide +kernel
theorem dX4_movePort_28 : decode cX4_movePort 28 = .ok (.aload_n 0, 1) := by decide +kernel
theorem dX4_movePort_29 : decode cX4_movePort 29 = .ok (.getfield 16, 3) := by decide +kernel
theorem dX4_movePort_32 : decode cX4_movePort 32 = .ok (.iload_n 2, 1) := by decide +kernel
theorem dX4_movePort_33 : decode cX4_movePort 33 = .ok (.aload_n 0, 1) := by decide +kernel
theorem dX4_movePort_34 : decode cX4_movePort 34 = .ok (.getfield 16, 3) := by decide +kernel
theorem dX4_movePort_37 : decode cX4_movePort 37 = .ok (.iload_n 3, 1) := by decide +kernel
theorem dX4_movePort_38 : decode cX4_movePort 38 = .ok (.invokevirtual 55, 3) := by decide +kernel
theorem dX4_movePort_41 : decode cX4_movePort 41 = .ok (.invokevirtual 58, 3) := by decide +kernel
theorem dX4_movePort_44 : decode cX4_movePort 44 = .ok (.goto 19, 3) := by decide +kernel
theorem dX4_movePort_47 : decode cX4_movePort 47 = .ok (.aload_n 0, 1) := by decide +kernel
theorem dX4_movePort_48 : decode cX4_movePort 48 = .ok (.getfield 16, 3) := by decide +kernel
theorem dX4_movePort_51 : decode cX4_movePort 51 = .ok (.iload_n 3, 1) := by decide +kernel
theorem dX4_movePort_52 : decode cX4_movePort 52 = .ok (.aload_n 0, 1) := by decide +kernel
theorem dX4_movePort_53 : decode cX4_movePort 53 = .ok (.getfield 16, 3) := by decide +kernel
theorem dX4_movePort_56 : decode cX4_movePort 56 = .ok (.iload_n 2, 1) := by decide +kernel
theorem dX4_movePort_57 : decode cX4_movePort 57 = .ok (.invokevirtual 55, 3) := by decide +kernel
theorem dX4_movePort_60 : decode cX4_movePort 60 = .ok (.invokevirtual 58, 3) := by decide +kernel
theorem dX4_movePort_63 : decode cX4_movePort 63 = .ok (.aload_n 0, 1) := by decide +kernel
theorem dX4_movePort_64 : decode cX4_movePort 64 = .ok (.iconst 1, 1) := by decide +kernel
theorem dX4_movePort_65 : decode cX4_movePort 65 = .ok (.invokevirtual 102, 3) := by decide +kernel
theorem dX4_movePort_68 : decode cX4_movePort 68 = .ok (.ireturn, 1) := by decide +kernel
set_option maxRecDepth 20000 in
theorem ggX4_setPortBit_X0_setBit : GoodIn wsX4_setPortBit wsX0_setBit := goodIn_r _ [6, 7, 8, 9, 5, 10, 11, 12, 13, 14, 15, 30] (by decide +kernel) (by decide +kernel)
set_option maxRecDepth 20000 in
theorem gX4_setPortBit_X0_setBit : GoodIn wsX4_setPortBit (wsV RX4 242 RX0 yX0_setBit wsX0_setBit) := goodIn_app (goodIn_of _ (by decide +kernel)) ggX4_setPortBit_X0_setBit
set_option maxRecDepth 20000 in
theorem ggX4_setPortBit_X4_onward : GoodIn wsX4_setPortBit wsX4_onward := goodIn_r _ [20, 21, 22, 23, 24, 25, 26, 27, 28, 29] (by decide +kernel) (by decide +kernel)
set_option maxRecDepth 20000 in
theorem gX4_setPortBit_X4_onward : GoodIn wsX4_setPortBit (wsV RX4 102 RX4 yX4_onward wsX4_onward) := goodIn_app (goodIn_of _ (by decide +kernel)) ggX4_setPortBit_X4_onward
theorem dX4_setPortBit_0 : decode cX4_setPortBit 0 = .ok (.aload_n 0, 1) := by decide +kernel
theorem dX4_setPortBit_1 : decode cX4_setPortBit 1 = .ok (.getfield 16, 3) := by decide +kernel
theorem dX4_setPortBit_4 : decode cX4_setPortBit 4 = .ok (.bipush 32, 2) := by decide +kernel
theorem dX4_setPortBit_6 : decode cX4_setPortBit 6 = .ok (.iload_n 1, 1) := by decide +kernel
theorem dX4_setPortBit_7 : decode cX4_setPortBit 7 = .ok (.iconst 3, 1) := by decide +kernel
theorem dX4_setPortBit_8 : decode cX4_setPortBit 8 = .ok (.ishr, 1) := by decide +kernel
theorem dX4_setPortBit_9 : decode cX4_setPortBit 9 = .ok (.bipush 31, 2) := by decide +kernel
theorem dX4_setPortBit_11 : decode cX4_setPortBit 11 = .ok (.iand, 1) := by decide +kernel
theorem dX4_setPortBit_12 : decode cX4_setPortBit 12 = .ok (.iadd, 1) := by decide +kernel
theorem dX4_setPortBit_13 : decode cX4_setPortBit 13 = .ok (.iload_n 1, 1) := by decide +kernel
theorem dX4_setPortBit_14 : decode cX4_setPortBit 14 = .ok (.bipush 7, 2) := by decide +kernel
theorem dX4_setPortBit_16 : decode cX4_setPortBit 16 = .ok (.iand, 1) := by decide +kernel
theorem dX4_setPortBit_17 : decode cX4_setPortBit 17 = .ok (.iload_n 1, 1) := by decide +kernel
theorem dX4_setPortBit_18 : decode cX4_setPortBit 18 = .ok (.bipush 9, 2) := by decide +kernel
theorem dX4_setPortBit_20 : decode cX4_setPortBit 20 = .ok (.ishr, 1) := by decide +kernel
theorem dX4_setPortBit_21 : decode cX4_setPortBit 21 = .ok (.iconst 1, 1) := by decide +kernel
theorem dX4_setPortBit_22 : decode cX4_setPortBit 22 = .ok (.iand, 1) := by decide +kernel
theorem dX4_setPortBit_23 : decode cX4_setPortBit 23 = .ok (.invokevirtual 242, 3) := by decide +kernel
theorem dX4_setPortBit_26 : decode cX4_setPortBit 26 = .ok (.aload_n 0, 1) := by decide +kernel
theorem dX4_setPortBit_27 : decode cX4_setPortBit 27 = .ok (.iconst 1, 1) := by decide +kernel
theorem dX4_setPortBit_28 : decode cX4_setPortBit 28 = .ok (.invokevirtual 102, 3) := by decide +kernel
theorem dX4_setPortBit_31 : decode cX4_setPortBit 31 = .ok (.ireturn, 1) := by decide +kernel
set_option maxRecDepth 20000 in
theorem ggX4_skipByPort_X0_bit : GoodIn wsX4_skipByPort wsX0_bit := goodIn_r _ [6, 7, 40] (by decide +kernel) (by decide +kernel)
set_option maxRecDepth 20000 in
theorem gX4_skipByPort_X0_bit : GoodIn wsX4_skipByPort (wsV RX4 245 RX0 yX0_bit wsX0_bit) := goodIn_app (goodIn_of _ (by decide +kernel)) ggX4_skipByPort_X0_bit
set_option maxRecDepth 20000 in
theorem ggX4_skipByPort_X4_skip : GoodIn wsX4_skipByPort wsX4_skip := goodIn_r _ [12, 13, 14, 15, 16, 17, 11, 18, 19, 20, 21, 22, 23, 24, 25, 26, 27, 28, 29, 30, 31, 32, 33, 34, 35, 36, 37, 38, 39] (by decide +kernel) (by decide +kernel)
set_option maxRecDepth 20000 in
theorem gX4_skipByPort_X4_skip : GoodIn wsX4_skipByPort (wsV RX4 200 RX4 yX4_skip wsX4_skip) := goodIn_app (goodIn_of _ (by decide +kernel)) ggX4_skipByPort_X4_skip
theorem dX4_skipByPort_0 : decode cX4_skipByPort 0 = .ok (.aload_n 0, 1) := by decide +kernel
theorem dX4_skipByPort_1 : decode cX4_skipByPort 1 = .ok (.aload_n 0, 1) := by decide +kernel
theorem dX4_skipByPort_2 : decode cX4_skipByPort 2 = .ok (.getfield 16, 3) := by decide +kernel
theorem dX4_skipByPort_5 : decode cX4_skipByPort 5 = .ok (.bipush 32, 2) := by decide +kernel
theorem dX4_skipByPort_7 : decode cX4_skipByPort 7 = .ok (.iload_n 1, 1) := by decide +kernel
theorem dX4_skipByPort_8 : decode cX4_skipByPort 8 = .ok (.iconst 3, 1) := by decide +kernel
theorem dX4_skipByPort_9 : decode cX4_skipByPort 9 = .ok (.ishr, 1) := by decide +kernel
theorem dX4_skipByPort_10 : decode cX4_skipByPort 10 = .ok (.bipush 31, 2) := by decide +kernel
theorem dX4_skipByPort_12 : decode cX4_skipByPort 12 = .ok (.iand, 1) := by decide +kernel
theorem dX4_skipByPort_13 : decode cX4_skipByPort 13 = .ok (.iadd, 1) := by decide +kernel
theorem dX4_skipByPort_14 : decode cX4_skipByPort 14 = .ok (.iload_n 1, 1) := by decide +kernel
theorem dX4_skipByPort_15 : decode cX4_skipByPort 15 = .ok (.bipush 7, 2) := by decide +kernel
theorem dX4_skipByPort_17 : decode cX4_skipByPort 17 = .ok (.iand, 1) := by decide +kernel
theorem dX4_skipByPort_18 : decode cX4_skipByPort 18 = .ok (.invokevirtual 245, 3) := by decide +kernel
theorem dX4_skipByPort_21 : decode cX4_skipByPort 21 = .ok (.iload_n 1, 1) := by decide +kernel
theorem dX4_skipByPort_22 : decode cX4_skipByPort 22 = .ok (.bipush 9, 2) := by decide +kernel
theorem dX4_skipByPort_24 : decode cX4_skipByPort 24 = .ok (.ishr, 1) := by decide +kernel
theorem dX4_skipByPort_25 : decode cX4_skipByPort 25 = .ok (.iconst 1, 1) := by decide +kernel
theorem dX4_skipByPort_26 : decode cX4_skipByPort 26 = .ok (.iand, 1) := by decide +kernel
theorem dX4_skipByPort_27 : decode cX4_skipByPort 27 = .ok (.if_icmp .ne 7, 3) := by decide +kernel
theorem dX4_skipByPort_30 : decode cX4_skipByPort 30 = .ok (.iconst 1, 1) := by decide +kernel
theorem dX4_skipByPort_31 : decode cX4_skipByPort 31 = .ok (.goto 4, 3) := by decide +kernel
theorem dX4_skipByPort_34 : decode cX4_skipByPort 34 = .ok (.iconst 0, 1) := by decide +kernel
theorem dX4_skipByPort_35 : decode cX4_skipByPort 35 = .ok (.invokevirtual 200, 3) := by decide +kernel
theorem dX4_skipByPort_38 : decode cX4_skipByPort 38 = .ok (.ireturn, 1) := by decide +kernel
set_option maxRecDepth 20000 in
theorem ggX4_skipByBit_X3_d : GoodIn wsX4_skipByBit wsX3_d := goodIn_r _ [5] (by decide +kernel) (by decide +kernel)
set_option maxRecDepth 20000 in
theorem gX4_skipByBit_X3_d : GoodIn wsX4_skipByBit (va_wsS RX4 173 yX3_d wsX3_d) := goodIn_app (goodIn_of _ (by decide +kernel)) ggX4_skipByBit_X3_d
set_option maxRecDepth 20000 in
theorem ggX4_skipByBit_X0_bit : GoodIn wsX4_skipByBit wsX0_bit := goodIn_r _ [10, 11, 43] (by decide +kernel) (by decide +kernel)
set_option maxRecDepth 20000 in
theorem gX4_skipByBit_X0_bit : GoodIn wsX4_skipByBit (wsV RX4 245 RX0 yX0_bit wsX0_bit) := goodIn_app (goodIn_of _ (by decide +kernel)) ggX4_skipByBit_X0_bit
set_option maxRecDepth 20000 in
theorem ggX4_skipByBit_X4_skip : GoodIn wsX4_skipByBit wsX4_skip := goodIn_r _ [16, 17, 18, 19, 20, 21, 15, 22, 23, 24, 25, 26, 27, 28, 29, 4, 30, 31, 32, 33, 34, 35, 36, 37, 38, 39, 40, 41, 42] (by decide +kernel) (by decide +kernel)
set_option maxRecDepth 20000 in
theorem gX4_skipByBit_X4_skip : GoodIn wsX4_skipByBit (wsV RX4 200 RX4 yX4_skip wsX4_skip) := goodIn_app (goodIn_of _ (by decide +kernel)) ggX4_skipByBit_X4_skip
theorem dX4_skipByBit_0 : decode cX4_skipByBit 0 = .ok (.aload_n 0, 1) := by decide +kernel
theorem dX4_skipByBit_1 : decode cX4_skipByBit 1 = .ok (.aload_n 0, 1) := by decide +kernel
theorem dX4_skipByBit_2 : decode cX4_skipByBit 2 = .ok (.getfield 16, 3) := by decide +kernel
theorem dX4_skipByBit_5 : decode cX4_skipByBit 5 = .ok (.iload_n 1, 1) := by decide +kernel
theorem dX4_skipByBit_6 : decode cX4_skipByBit 6 = .ok (.invokestatic 173, 3) := by decide +kernel
theorem dX4_skipByBit_9 : decode cX4_skipByBit 9 = .ok (.iload_n 1, 1) := by decide +kernel
theorem dX4_skipByBit_10 : decode cX4_skipByBit 10 = .ok (.bipush 7, 2) := by decide +kernel
theorem dX4_skipByBit_12 : decode cX4_skipByBit 12 = .ok (.iand, 1) := by decide +kernel
theorem dX4_skipByBit_13 : decode cX4_skipByBit 13 = .ok (.invokevirtual 245, 3) := by decide +kernel
theorem dX4_skipByBit_16 : decode cX4_skipByBit 16 = .ok (.iload_n 1, 1) := by decide +kernel
theorem dX4_skipByBit_17 : decode cX4_skipByBit 17 = .ok (.bipush 9, 2) := by decide +kernel
theorem dX4_skipByBit_19 : decode cX4_skipByBit 19 = .ok (.ishr, 1) := by decide +kernel
theorem dX4_skipByBit_20 : decode cX4_skipByBit 20 = .ok (.iconst 1, 1) := by decide +kernel
theorem dX4_skipByBit_21 : decode cX4_skipByBit 21 = .ok (.iand, 1) := by decide +kernel
theorem dX4_skipByBit_22 : decode cX4_skipByBit 22 = .ok (.if_icmp .ne 7, 3) := by decide +kernel
theorem dX4_skipByBit_25 : decode cX4_skipByBit 25 = .ok (.iconst 1, 1) := by decide +kernel
theorem dX4_skipByBit_26 : decode cX4_skipByBit 26 = .ok (.goto 4, 3) := by decide +kernel
theorem dX4_skipByBit_29 : decode cX4_skipByBit 29 = .ok (.iconst 0, 1) := by decide +kernel
theorem dX4_skipByBit_30 : decode cX4_skipByBit 30 = .ok (.invokevirtual 200, 3) := by decide +kernel
theorem dX4_skipByBit_33 : decode cX4_skipByBit 33 = .ok (.ireturn, 1) := by decide +kernel
set_option maxRecDepth 20000 in
theorem ggX4_moveBit_X3_d : GoodIn wsX4_moveBit wsX3_d := goodIn_r _ [5] (by decide +kernel) (by decide +kernel)
set_option maxRecDepth 20000 in
theorem gX4_moveBit_X3_d : GoodIn wsX4_moveBit (va_wsS RX4 173 yX3_d wsX3_d) := goodIn_app (goodIn_of _ (by decide +kernel)) ggX4_moveBit_X3_d
set_option maxRecDepth 20000 in
theorem ggX4_moveBit_X0_flag : GoodIn wsX4_moveBit wsX0_flag := goodIn_r _ [10, 11, 47] (by decide +kernel) (by decide +kernel)
set_option maxRecDepth 20000 in
theorem gX4_moveBit_X0_flag : GoodIn wsX4_moveBit (wsV RX4 80 RX0 yX0_flag wsX0_flag) := goodIn_app (goodIn_of _ (by decide +kernel)) ggX4_moveBit_X0_flag
set_option maxRecDepth 20000 in
theorem ggX4_moveBit_X0_setBit : GoodIn wsX4_moveBit wsX0_setBit := goodIn_r _ [15, 16, 17, 18, 9, 19, 11, 20, 21, 22, 23, 47] (by decide +kernel) (by decide +kernel)
set_option maxRecDepth 20000 in
theorem gX4_moveBit_X0_setBit : GoodIn wsX4_moveBit (wsV RX4 242 RX0 yX0_setBit wsX0_setBit) := goodIn_app (goodIn_of _ (by decide +kernel)) ggX4_moveBit_X0_setBit
set_option maxRecDepth 20000 in
theorem ggX4_moveBit_X0_bit : GoodIn wsX4_moveBit wsX0_bit := goodIn_r _ [27, 11, 47] (by decide +kernel) (by decide +kernel)
set_option maxRecDepth 20000 in
theorem gX4_moveBit_X0_bit : GoodIn wsX4_moveBit (wsV RX4 245 RX0 yX0_bit wsX0_bit) := goodIn_app (goodIn_of _ (by decide +kernel)) ggX4_moveBit_X0_bit
set_option maxRecDepth 20000 in
theorem ggX4_moveBit_X0_setFlag : GoodIn wsX4_moveBit wsX0_setFlag := goodIn_r _ [31, 32, 13, 14, 9, 15, 16, 17, 18, 19, 11, 20, 21, 22, 23, 47] (by decide +kernel) (by decide +kernel)
set_option maxRecDepth 20000 in
theorem gX4_moveBit_X0_setFlag : GoodIn wsX4_moveBit (wsV RX4 99 RX0 yX0_setFlag wsX0_setFlag) := goodIn_app (goodIn_of _ (by decide +kernel)) ggX4_moveBit_X0_setFlag
set_option maxRecDepth 20000 in
theorem ggX4_moveBit_X4_onward : GoodIn wsX4_moveBit wsX4_onward := goodIn_r _ [37, 38, 39, 40, 41, 42, 43, 44, 45, 46] (by decide +kernel) (by decide +kernel)
set_option maxRecDepth 20000 in
theorem gX4_moveBit_X4_onward : GoodIn wsX4_moveBit (wsV RX4 102 RX4 yX4_onward wsX4_onward) := goodIn_app (goodIn_of _ (by decide +kernel)) ggX4_moveBit_X4_onward
theorem dX4_moveBit_0 : decode cX4_moveBit 0 = .ok (.iload_n 1, 1) := by decide +kernel
theorem dX4_moveBit_1 : decode cX4_moveBit 1 = .ok (.invokestatic 173, 3) := by decide +kernel
theorem dX4_moveBit_4 : decode cX4_moveBit 4 = .ok (.istore_n 2, 1) := by decide +kernel
theorem dX4_moveBit_5 : decode cX4_moveBit 5 = .ok (.iload_n 1, 1) := by decide +kernel
theorem dX4_moveBit_6 : decode cX4_moveBit 6 = .ok (.sipush 512, 3) := by decide +kernel
theorem dX4_moveBit_9 : decode cX4_moveBit 9 = .ok (.iand, 1) := by decide +kernel
theorem dX4_moveBit_10 : decode cX4_moveBit 10 = .ok (.ifCond .ne 27, 3) := by decide +kernel
theorem dX4_moveBit_13 : decode cX4_moveBit 13 = .ok (.aload_n 0, 1) := by decide +kernel
theorem dX4_moveBit_14 : decode cX4_moveBit 14 = .ok (.getfield 16, 3) := by decide +kernel
theorem dX4_moveBit_17 : decode cX4_moveBit 17 = .ok (.iload_n 2, 1) := by decide +kernel
theorem dX4_moveBit_18 : decode cX4_moveBit 18 = .ok (.iload_n 1, 1) := by decide +kernel
theorem dX4_moveBit_19 : decode cX4_moveBit 19 = .ok (.bipush 7, 2) := by decide +kernel
theorem dX4_moveBit_21 : decode cX4_moveBit 21 = .ok (.iand, 1) := by decide +kernel
theorem dX4_moveBit_22 : decode cX4_moveBit 22 = .ok (.aload_n 0, 1) := by decide +kernel
theorem dX4_moveBit_23 : decode cX4_moveBit 23 = .ok (.getfield 16, 3) := by decide +kernel
theorem dX4_moveBit_26 : decode cX4_moveBit 26 = .ok (.bipush 6, 2) := by decide +kernel
theorem dX4_moveBit_28 : decode cX4_moveBit 28 = .ok (.invokevirtual 80, 3) := by decide +kernel
theorem dX4_moveBit_31 : decode cX4_moveBit 31 = .ok (.invokevirtual 242, 3) := by decide +kernel
theorem dX4_moveBit_34 : decode cX4_moveBit 34 = .ok (.goto 24, 3) := by decide +kernel
theorem dX4_moveBit_37 : decode cX4_moveBit 37 = .ok (.aload_n 0, 1) := by decide +kernel
theorem dX4_moveBit_38 : decode cX4_moveBit 38 = .ok (.getfield 16, 3) := by decide +kernel
theorem dX4_moveBit_41 : decode cX4_moveBit 41 = .ok (.bipush 6, 2) := by decide +kernel
theorem dX4_moveBit_43 : decode cX4_moveBit 43 = .ok (.aload_n 0, 1) := by decide +kernel
theorem dX4_moveBit_44 : decode cX4_moveBit 44 = .ok (.getfield 16, 3) := by decide +kernel
theorem dX4_moveBit_47 : decode cX4_moveBit 47 = .ok (.iload_n 2, 1) := by decide +kernel
theorem dX4_moveBit_48 : decode cX4_moveBit 48 = .ok (.iload_n 1, 1) := by decide +kernel
theorem dX4_moveBit_49 : decode cX4_moveBit 49 = .ok (.bipush 7, 2) := by decide +kernel
theorem dX4_moveBit_51 : decode cX4_moveBit 51 = .ok (.iand, 1) := by decide +kernel
theorem dX4_moveBit_52 : decode cX4_moveBit 52 = .ok (.invokevirtual 245, 3) := by decide +kernel
theorem dX4_moveBit_55 : decode cX4_moveBit 55 = .ok (.invokevirtual 99, 3) := by decide +kernel
theorem dX4_moveBit_58 : decode cX4_moveBit 58 = .ok (.aload_n 0, 1) := by decide +kernel
theorem dX4_moveBit_59 : decode cX4_moveBit 59 = .ok (.iconst 1, 1) := by decide +kernel
theorem dX4_moveBit_60 : decode cX4_moveBit 60 = .ok (.invokevirtual 102, 3) := by decide +kernel
theorem dX4_moveBit_63 : decode cX4_moveBit 63 = .ok (.ireturn, 1) := by decide +kernel
set_option maxRecDepth 20000 in
theorem ggX4_jumpNear_X4_jumpTo : GoodIn wsX4_jumpNear wsX4_jumpTo := goodIn_r _ [6, 1, 31, 32, 33, 34, 35, 36, 37, 38] (by decide +kernel) (by decide +kernel)
set_option maxRecDepth 20000 in
theorem gX4_jumpNear_X4_jumpTo : GoodIn wsX4_jumpNear (wsV RX4 248 RX4 yX4_jumpTo wsX4_jumpTo) := goodIn_app (goodIn_of _ (by decide +kernel)) ggX4_jumpNear_X4_jumpTo
set_option maxRecDepth 20000 in
theorem ggX4_jumpNear_X4_callTo : GoodIn wsX4_jumpNear wsX4_callTo := goodIn_r _ [10, 11, 12, 1, 13, 14, 15, 16, 17, 18, 19, 20, 21, 22, 23, 24, 25, 26, 27, 28, 29, 30, 31, 32, 33, 34, 35, 36, 37, 38, 39] (by decide +kernel) (by decide +kernel)
set_option maxRecDepth 20000 in
theorem gX4_jumpNear_X4_callTo : GoodIn wsX4_jumpNear (wsV RX4 251 RX4 yX4_callTo wsX4_callTo) := goodIn_app (goodIn_of _ (by decide +kernel)) ggX4_jumpNear_X4_callTo
theorem dX4_jumpNear_0 : decode cX4_jumpNear 0 = .ok (.iload_n 1, 1) := by decide +kernel
theorem dX4_jumpNear_1 : decode cX4_jumpNear 1 = .ok (.bipush 20, 2) := by decide +kernel
theorem dX4_jumpNear_3 : decode cX4_jumpNear 3 = .ok (.ishl, 1) := by decide +kernel
theorem dX4_jumpNear_4 : decode cX4_jumpNear 4 = .ok (.bipush 20, 2) := by decide +kernel
theorem dX4_jumpNear_6 : decode cX4_jumpNear 6 = .ok (.ishr, 1) := by decide +kernel
theorem dX4_jumpNear_7 : decode cX4_jumpNear 7 = .ok (.istore_n 2, 1) := by decide +kernel
theorem dX4_jumpNear_8 : decode cX4_jumpNear 8 = .ok (.aload_n 0, 1) := by decide +kernel
theorem dX4_jumpNear_9 : decode cX4_jumpNear 9 = .ok (.getfield 32, 3) := by decide +kernel
theorem dX4_jumpNear_12 : decode cX4_jumpNear 12 = .ok (.iconst 1, 1) := by decide +kernel
theorem dX4_jumpNear_13 : decode cX4_jumpNear 13 = .ok (.iadd, 1) := by decide +kernel
theorem dX4_jumpNear_14 : decode cX4_jumpNear 14 = .ok (.istore_n 3, 1) := by decide +kernel
theorem dX4_jumpNear_15 : decode cX4_jumpNear 15 = .ok (.iload_n 1, 1) := by decide +kernel
theorem dX4_jumpNear_16 : decode cX4_jumpNear 16 = .ok (.sipush 4096, 3) := by decide +kernel
theorem dX4_jumpNear_19 : decode cX4_jumpNear 19 = .ok (.iand, 1) := by decide +kernel
theorem dX4_jumpNear_20 : decode cX4_jumpNear 20 = .ok (.ifCond .ne 13, 3) := by decide +kernel
theorem dX4_jumpNear_23 : decode cX4_jumpNear 23 = .ok (.aload_n 0, 1) := by decide +kernel
theorem dX4_jumpNear_24 : decode cX4_jumpNear 24 = .ok (.iload_n 3, 1) := by decide +kernel
theorem dX4_jumpNear_25 : decode cX4_jumpNear 25 = .ok (.iload_n 2, 1) := by decide +kernel
theorem dX4_jumpNear_26 : decode cX4_jumpNear 26 = .ok (.iadd, 1) := by decide +kernel
theorem dX4_jumpNear_27 : decode cX4_jumpNear 27 = .ok (.invokevirtual 248, 3) := by decide +kernel
theorem dX4_jumpNear_30 : decode cX4_jumpNear 30 = .ok (.goto 11, 3) := by decide +kernel
theorem dX4_jumpNear_33 : decode cX4_jumpNear 33 = .ok (.aload_n 0, 1) := by decide +kernel
theorem dX4_jumpNear_34 : decode cX4_jumpNear 34 = .ok (.iload_n 3, 1) := by decide +kernel
theorem dX4_jumpNear_35 : decode cX4_jumpNear 35 = .ok (.iload_n 2, 1) := by decide +kernel
theorem dX4_jumpNear_36 : decode cX4_jumpNear 36 = .ok (.iadd, 1) := by decide +kernel
theorem dX4_jumpNear_37 : decode cX4_jumpNear 37 = .ok (.iload_n 3, 1) := by decide +kernel
theorem dX4_jumpNear_38 : decode cX4_jumpNear 38 = .ok (.invokevirtual 251, 3) := by decide +kernel
theorem dX4_jumpNear_41 : decode cX4_jumpNear 41 = .ok (.ireturn, 1) := by decide +kernel
set_option maxRecDepth 20000 in
theorem ggX4_branch_X0_flag : GoodIn wsX4_branch wsX0_flag := goodIn_r _ [6, 7, 22] (by decide +kernel) (by decide +kernel)
set_option maxRecDepth 20000 in
theorem gX4_branch_X0_flag : GoodIn wsX4_branch (wsV RX4 80 RX0 yX0_flag wsX0_flag) := goodIn_app (goodIn_of _ (by decide +kernel)) ggX4_branch_X0_flag
set_option maxRecDepth 20000 in
theorem ggX4_branch_X4_onward : GoodIn wsX4_branch wsX4_onward := goodIn_r _ [12, 13, 14, 15, 16, 17, 18, 19, 20, 21] (by decide +kernel) (by decide +kernel)
set_option maxRecDepth 20000 in
theorem gX4_branch_X4_onward : GoodIn wsX4_branch (wsV RX4 102 RX4 yX4_onward wsX4_onward) := goodIn_app (goodIn_of _ (by decide +kernel)) ggX4_branch_X4_onward
theorem dX4_branch_0 : decode cX4_branch 0 = .ok (.iload_n 1, 1) := by decide +kernel
theorem dX4_branch_1 : decode cX4_branch 1 = .ok (.bipush 22, 2) := by decide +kernel
theorem dX4_branch_3 : decode cX4_branch 3 = .ok (.ishl, 1) := by decide +kernel
theorem dX4_branch_4 : decode cX4_branch 4 = .ok (.bipush 25, 2) := by decide +kernel
theorem dX4_branch_6 : decode cX4_branch 6 = .ok (.ishr, 1) := by decide +kernel
theorem dX4_branch_7 : decode cX4_branch 7 = .ok (.istore_n 2, 1) := by decide +kernel
theorem dX4_branch_8 : decode cX4_branch 8 = .ok (.iload_n 1, 1) := by decide +kernel
theorem dX4_branch_9 : decode cX4_branch 9 = .ok (.sipush 1024, 3) := by decide +kernel
theorem dX4_branch_12 : decode cX4_branch 12 = .ok (.iand, 1) := by decide +kernel
theorem dX4_branch_13 : decode cX4_branch 13 = .ok (.ifCond .ne 7, 3) := by decide +kernel
theorem dX4_branch_16 : decode cX4_branch 16 = .ok (.iconst 1, 1) := by decide +kernel
theorem dX4_branch_17 : decode cX4_branch 17 = .ok (.goto 4, 3) := by decide +kernel
theorem dX4_branch_20 : decode cX4_branch 20 = .ok (.iconst 0, 1) := by decide +kernel
theorem dX4_branch_21 : decode cX4_branch 21 = .ok (.istore_n 3, 1) := by decide +kernel
theorem dX4_branch_22 : decode cX4_branch 22 = .ok (.aload_n 0, 1) := by decide +kernel
theorem dX4_branch_23 : decode cX4_branch 23 = .ok (.aload_n 0, 1) := by decide +kernel
theorem dX4_branch_24 : decode cX4_branch 24 = .ok (.getfield 16, 3) := by decide +kernel
theorem dX4_branch_27 : decode cX4_branch 27 = .ok (.iload_n 1, 1) := by decide +kernel
theorem dX4_branch_28 : decode cX4_branch 28 = .ok (.bipush 7, 2) := by decide +kernel
theorem dX4_branch_30 : decode cX4_branch 30 = .ok (.iand, 1) := by decide +kernel
theorem dX4_branch_31 : decode cX4_branch 31 = .ok (.invokevirtual 80, 3) := by decide +kernel
theorem dX4_branch_34 : decode cX4_branch 34 = .ok (.iload_n 3, 1) := by decide +kernel
theorem dX4_branch_35 : decode cX4_branch 35 = .ok (.if_icmp .ne 9, 3) := by decide +kernel
theorem dX4_branch_38 : decode cX4_branch 38 = .ok (.iconst 1, 1) := by decide +kernel
theorem dX4_branch_39 : decode cX4_branch 39 = .ok (.iload_n 2, 1) := by decide +kernel
theorem dX4_branch_40 : decode cX4_branch 40 = .ok (.iadd, 1) := by decide +kernel
theorem dX4_branch_41 : decode cX4_branch 41 = .ok (.goto 4, 3) := by decide +kernel
theorem dX4_branch_44 : decode cX4_branch 44 = .ok (.iconst 1, 1) := by decide +kernel
theorem dX4_branch_45 : decode cX4_branch 45 = .ok (.invokevirtual 102, 3) := by decide +kernel
theorem dX4_branch_48 : decode cX4_branch 48 = .ok (.ireturn, 1) := by decide +kernel
set_option maxRecDepth 20000 in
theorem ggX4_jumpFar_X4_cellAt : GoodIn wsX4_jumpFar wsX4_cellAt := goodIn_r _ [6, 7, 36, 37, 38, 39, 40, 41, 42, 43] (by decide +kernel) (by decide +kernel)
set_option maxRecDepth 20000 in
theorem gX4_jumpFar_X4_cellAt : GoodIn wsX4_jumpFar (wsV RX4 51 RX4 yX4_cellAt wsX4_cellAt) := goodIn_app (goodIn_of _ (by decide +kernel)) ggX4_jumpFar_X4_cellAt
set_option maxRecDepth 20000 in
theorem ggX4_jumpFar_X4_jumpTo : GoodIn wsX4_jumpFar wsX4_jumpTo := goodIn_r _ [11, 1, 36, 37, 38, 39, 40, 41, 42, 43] (by decide +kernel) (by decide +kernel)
set_option maxRecDepth 20000 in
theorem gX4_jumpFar_X4_jumpTo : GoodIn wsX4_jumpFar (wsV RX4 248 RX4 yX4_jumpTo wsX4_jumpTo) := goodIn_app (goodIn_of _ (by decide +kernel)) ggX4_jumpFar_X4_jumpTo
set_option maxRecDepth 20000 in
theorem ggX4_jumpFar_X4_callTo : GoodIn wsX4_jumpFar wsX4_callTo := goodIn_r _ [15, 16, 17, 1, 18, 19, 20, 21, 22, 23, 24, 25, 26, 27, 28, 29, 30, 31, 32, 33, 34, 35, 36, 37, 38, 39, 40, 41, 42, 43, 44] (by decide +kernel) (by decide +kernel)
set_option maxRecDepth 20000 in
theorem gX4_jumpFar_X4_callTo : GoodIn wsX4_jumpFar (wsV RX4 251 RX4 yX4_callTo wsX4_callTo) := goodIn_app (goodIn_of _ (by decide +kernel)) ggX4_jumpFar_X4_callTo
theorem dX4_jumpFar_0 : decode cX4_jumpFar 0 = .ok (.aload_n 0, 1) := by decide +kernel
theorem dX4_jumpFar_1 : decode cX4_jumpFar 1 = .ok (.aload_n 0, 1) := by decide +kernel
theorem dX4_jumpFar_2 : decode cX4_jumpFar 2 = .ok (.getfield 32, 3) := by decide +kernel
theorem dX4_jumpFar_5 : decode cX4_jumpFar 5 = .ok (.iconst 1, 1) := by decide +kernel
theorem dX4_jumpFar_6 : decode cX4_jumpFar 6 = .ok (.iadd, 1) := by decide +kernel
theorem dX4_jumpFar_7 : decode cX4_jumpFar 7 = .ok (.invokevirtual 51, 3) := by decide +kernel
theorem dX4_jumpFar_10 : decode cX4_jumpFar 10 = .ok (.istore_n 2, 1) := by decide +kernel
theorem dX4_jumpFar_11 : decode cX4_jumpFar 11 = .ok (.iload_n 1, 1) := by decide +kernel
theorem dX4_jumpFar_12 : decode cX4_jumpFar 12 = .ok (.iconst 2, 1) := by decide +kernel
theorem dX4_jumpFar_13 : decode cX4_jumpFar 13 = .ok (.iand, 1) := by decide +kernel
theorem dX4_jumpFar_14 : decode cX4_jumpFar 14 = .ok (.ifCond .ne 11, 3) := by decide +kernel
theorem dX4_jumpFar_17 : decode cX4_jumpFar 17 = .ok (.aload_n 0, 1) := by decide +kernel
theorem dX4_jumpFar_18 : decode cX4_jumpFar 18 = .ok (.iload_n 2, 1) := by decide +kernel
theorem dX4_jumpFar_19 : decode cX4_jumpFar 19 = .ok (.invokevirtual 248, 3) := by decide +kernel
theorem dX4_jumpFar_22 : decode cX4_jumpFar 22 = .ok (.goto 14, 3) := by decide +kernel
theorem dX4_jumpFar_25 : decode cX4_jumpFar 25 = .ok (.aload_n 0, 1) := by decide +kernel
theorem dX4_jumpFar_26 : decode cX4_jumpFar 26 = .ok (.iload_n 2, 1) := by decide +kernel
theorem dX4_jumpFar_27 : decode cX4_jumpFar 27 = .ok (.aload_n 0, 1) := by decide +kernel
theorem dX4_jumpFar_28 : decode cX4_jumpFar 28 = .ok (.getfield 32, 3) := by decide +kernel
theorem dX4_jumpFar_31 : decode cX4_jumpFar 31 = .ok (.iconst 2, 1) := by decide +kernel
theorem dX4_jumpFar_32 : decode cX4_jumpFar 32 = .ok (.iadd, 1) := by decide +kernel
theorem dX4_jumpFar_33 : decode cX4_jumpFar 33 = .ok (.invokevirtual 251, 3) := by decide +kernel
theorem dX4_jumpFar_36 : decode cX4_jumpFar 36 = .ok (.ireturn, 1) := by decide +kernel
set_option maxRecDepth 20000 in
theorem ggX4_jumpToZ_X0_pair : GoodIn wsX4_jumpToZ wsX0_pair := goodIn_r _ [7, 8, 40] (by decide +kernel) (by decide +kernel)
set_option maxRecDepth 20000 in
theorem gX4_jumpToZ_X0_pair : GoodIn wsX4_jumpToZ (wsV RX4 62 RX0 yX0_pair wsX0_pair) := goodIn_app (goodIn_of _ (by decide +kernel)) ggX4_jumpToZ_X0_pair
set_option maxRecDepth 20000 in
theorem ggX4_jumpToZ_X4_jumpTo : GoodIn wsX4_jumpToZ wsX4_jumpTo := goodIn_r _ [13, 2, 32, 33, 34, 35, 36, 37, 38, 39] (by decide +kernel) (by decide +kernel)
set_option maxRecDepth 20000 in
theorem gX4_jumpToZ_X4_jumpTo : GoodIn wsX4_jumpToZ (wsV RX4 248 RX4 yX4_jumpTo wsX4_jumpTo) := goodIn_app (goodIn_of _ (by decide +kernel)) ggX4_jumpToZ_X4_jumpTo
set_option maxRecDepth 20000 in
theorem ggX4_jumpToZ_X4_callTo : GoodIn wsX4_jumpToZ wsX4_callTo := goodIn_r _ [17, 1, 18, 2, 19, 20, 21, 6, 22, 23, 4, 5, 7, 8, 24, 25, 26, 27, 28, 29, 30, 31, 32, 33, 34, 35, 36, 37, 38, 39, 40] (by decide +kernel) (by decide +kernel)
set_option maxRecDepth 20000 in
theorem gX4_jumpToZ_X4_callTo : GoodIn wsX4_jumpToZ (wsV RX4 251 RX4 yX4_callTo wsX4_callTo) := goodIn_app (goodIn_of _ (by decide +kernel)) ggX4_jumpToZ_X4_callTo
theorem dX4_jumpToZ_0 : decode cX4_jumpToZ 0 = .ok (.aload_n 0, 1) := by decide +kernel
theorem dX4_jumpToZ_1 : decode cX4_jumpToZ 1 = .ok (.getfield 16, 3) := by decide +kernel
theorem dX4_jumpToZ_4 : decode cX4_jumpToZ 4 = .ok (.bipush 30, 2) := by decide +kernel
theorem dX4_jumpToZ_6 : decode cX4_jumpToZ 6 = .ok (.invokevirtual 62, 3) := by decide +kernel
theorem dX4_jumpToZ_9 : decode cX4_jumpToZ 9 = .ok (.istore_n 2, 1) := by decide +kernel
theorem dX4_jumpToZ_10 : decode cX4_jumpToZ 10 = .ok (.iload_n 1, 1) := by decide +kernel
theorem dX4_jumpToZ_11 : decode cX4_jumpToZ 11 = .ok (.sipush 256, 3) := by decide +kernel
theorem dX4_jumpToZ_14 : decode cX4_jumpToZ 14 = .ok (.iand, 1) := by decide +kernel
theorem dX4_jumpToZ_15 : decode cX4_jumpToZ 15 = .ok (.ifCond .ne 11, 3) := by decide +kernel
theorem dX4_jumpToZ_18 : decode cX4_jumpToZ 18 = .ok (.aload_n 0, 1) := by decide +kernel
theorem dX4_jumpToZ_19 : decode cX4_jumpToZ 19 = .ok (.iload_n 2, 1) := by decide +kernel
theorem dX4_jumpToZ_20 : decode cX4_jumpToZ 20 = .ok (.invokevirtual 248, 3) := by decide +kernel
theorem dX4_jumpToZ_23 : decode cX4_jumpToZ 23 = .ok (.goto 14, 3) := by decide +kernel
theorem dX4_jumpToZ_26 : decode cX4_jumpToZ 26 = .ok (.aload_n 0, 1) := by decide +kernel
theorem dX4_jumpToZ_27 : decode cX4_jumpToZ 27 = .ok (.iload_n 2, 1) := by decide +kernel
theorem dX4_jumpToZ_28 : decode cX4_jumpToZ 28 = .ok (.aload_n 0, 1) := by decide +kernel
theorem dX4_jumpToZ_29 : decode cX4_jumpToZ 29 = .ok (.getfield 32, 3) := by decide +kernel
theorem dX4_jumpToZ_32 : decode cX4_jumpToZ 32 = .ok (.iconst 1, 1) := by decide +kernel
theorem dX4_jumpToZ_33 : decode cX4_jumpToZ 33 = .ok (.iadd, 1) := by decide +kernel
theorem dX4_jumpToZ_34 : decode cX4_jumpToZ 34 = .ok (.invokevirtual 251, 3) := by decide +kernel
theorem dX4_jumpToZ_37 : decode cX4_jumpToZ 37 = .ok (.ireturn, 1) := by decide +kernel
set_option maxRecDepth 20000 in
theorem ggX4_comeBack_X0_pair : GoodIn wsX4_comeBack wsX0_pair := goodIn_r _ [8, 9, 49] (by decide +kernel) (by decide +kernel)
set_option maxRecDepth 20000 in
theorem gX4_comeBack_X0_pair : GoodIn wsX4_comeBack (wsV RX4 62 RX0 yX0_pair wsX0_pair) := goodIn_app (goodIn_of _ (by decide +kernel)) ggX4_comeBack_X0_pair
set_option maxRecDepth 20000 in
theorem ggX4_comeBack_X0_pull : GoodIn wsX4_comeBack wsX0_pull := goodIn_r _ [13, 14, 5, 6, 7, 8, 9, 15, 16, 17, 18, 19, 20, 21, 22, 49] (by decide +kernel) (by decide +kernel)
set_option maxRecDepth 20000 in
theorem gX4_comeBack_X0_pull : GoodIn wsX4_comeBack (wsV RX4 235 RX0 yX0_pull wsX0_pull) := goodIn_app (goodIn_of _ (by decide +kernel)) ggX4_comeBack_X0_pull
set_option maxRecDepth 20000 in
theorem ggX4_comeBack_X0_setFlag : GoodIn wsX4_comeBack wsX0_setFlag := goodIn_r _ [26, 27, 28, 29, 7, 30, 19, 20, 21, 22, 9, 31, 32, 33, 34, 49] (by decide +kernel) (by decide +kernel)
set_option maxRecDepth 20000 in
theorem gX4_comeBack_X0_setFlag : GoodIn wsX4_comeBack (wsV RX4 99 RX0 yX0_setFlag wsX0_setFlag) := goodIn_app (goodIn_of _ (by decide +kernel)) ggX4_comeBack_X0_setFlag
set_option maxRecDepth 20000 in
theorem ggX4_comeBack_X4_jumpTo : GoodIn wsX4_comeBack wsX4_jumpTo := goodIn_r _ [39, 40, 41, 42, 43, 44, 45, 46, 47, 48] (by decide +kernel) (by decide +kernel)
set_option maxRecDepth 20000 in
theorem gX4_comeBack_X4_jumpTo : GoodIn wsX4_comeBack (wsV RX4 248 RX4 yX4_jumpTo wsX4_jumpTo) := goodIn_app (goodIn_of _ (by decide +kernel)) ggX4_comeBack_X4_jumpTo
theorem dX4_comeBack_0 : decode cX4_comeBack 0 = .ok (.aload_n 0, 1) := by decide +kernel
theorem dX4_comeBack_1 : decode cX4_comeBack 1 = .ok (.getfield 16, 3) := by decide +kernel
theorem dX4_comeBack_4 : decode cX4_comeBack 4 = .ok (.bipush 93, 2) := by decide +kernel
theorem dX4_comeBack_6 : decode cX4_comeBack 6 = .ok (.invokevirtual 62, 3) := by decide +kernel
theorem dX4_comeBack_9 : decode cX4_comeBack 9 = .ok (.istore_n 2, 1) := by decide +kernel
theorem dX4_comeBack_10 : decode cX4_comeBack 10 = .ok (.iload_n 2, 1) := by decide +kernel
theorem dX4_comeBack_11 : decode cX4_comeBack 11 = .ok (.iconst 1, 1) := by decide +kernel
theorem dX4_comeBack_12 : decode cX4_comeBack 12 = .ok (.iadd, 1) := by decide +kernel
theorem dX4_comeBack_13 : decode cX4_comeBack 13 = .ok (.ldc 50, 2) := by decide +kernel
theorem dX4_comeBack_15 : decode cX4_comeBack 15 = .ok (.iand, 1) := by decide +kernel
theorem dX4_comeBack_16 : decode cX4_comeBack 16 = .ok (.sipush 1023, 3) := by decide +kernel
theorem dX4_comeBack_19 : decode cX4_comeBack 19 = .ok (.if_icmp .gt 15, 3) := by decide +kernel
theorem dX4_comeBack_22 : decode cX4_comeBack 22 = .ok (.iload_n 2, 1) := by decide +kernel
theorem dX4_comeBack_23 : decode cX4_comeBack 23 = .ok (.iconst 2, 1) := by decide +kernel
theorem dX4_comeBack_24 : decode cX4_comeBack 24 = .ok (.iadd, 1) := by decide +kernel
theorem dX4_comeBack_25 : decode cX4_comeBack 25 = .ok (.ldc 50, 2) := by decide +kernel
theorem dX4_comeBack_27 : decode cX4_comeBack 27 = .ok (.iand, 1) := by decide +kernel
theorem dX4_comeBack_28 : decode cX4_comeBack 28 = .ok (.sipush 1023, 3) := by decide +kernel
theorem dX4_comeBack_31 : decode cX4_comeBack 31 = .ok (.if_icmp .le 5, 3) := by decide +kernel
theorem dX4_comeBack_34 : decode cX4_comeBack 34 = .ok (.iconst 3, 1) := by decide +kernel
theorem dX4_comeBack_35 : decode cX4_comeBack 35 = .ok (.ireturn, 1) := by decide +kernel
theorem dX4_comeBack_36 : decode cX4_comeBack 36 = .ok (.aload_n 0, 1) := by decide +kernel
theorem dX4_comeBack_37 : decode cX4_comeBack 37 = .ok (.getfield 16, 3) := by decide +kernel
theorem dX4_comeBack_40 : decode cX4_comeBack 40 = .ok (.invokevirtual 235, 3) := by decide +kernel
theorem dX4_comeBack_43 : decode cX4_comeBack 43 = .ok (.istore_n 3, 1) := by decide +kernel
theorem dX4_comeBack_44 : decode cX4_comeBack 44 = .ok (.aload_n 0, 1) := by decide +kernel
theorem dX4_comeBack_45 : decode cX4_comeBack 45 = .ok (.getfield 16, 3) := by decide +kernel
theorem dX4_comeBack_48 : decode cX4_comeBack 48 = .ok (.invokevirtual 235, 3) := by decide +kernel
theorem dX4_comeBack_51 : decode cX4_comeBack 51 = .ok (.istore 4, 2) := by decide +kernel
theorem dX4_comeBack_53 : decode cX4_comeBack 53 = .ok (.iload_n 1, 1) := by decide +kernel
theorem dX4_comeBack_54 : decode cX4_comeBack 54 = .ok (.ldc 90, 2) := by decide +kernel
theorem dX4_comeBack_56 : decode cX4_comeBack 56 = .ok (.if_icmp .ne 13, 3) := by decide +kernel
theorem dX4_comeBack_59 : decode cX4_comeBack 59 = .ok (.aload_n 0, 1) := by decide +kernel
theorem dX4_comeBack_60 : decode cX4_comeBack 60 = .ok (.getfield 16, 3) := by decide +kernel
theorem dX4_comeBack_63 : decode cX4_comeBack 63 = .ok (.bipush 7, 2) := by decide +kernel
theorem dX4_comeBack_65 : decode cX4_comeBack 65 = .ok (.iconst 1, 1) := by decide +kernel
theorem dX4_comeBack_66 : decode cX4_comeBack 66 = .ok (.invokevirtual 99, 3) := by decide +kernel
theorem dX4_comeBack_69 : decode cX4_comeBack 69 = .ok (.aload_n 0, 1) := by decide +kernel
theorem dX4_comeBack_70 : decode cX4_comeBack 70 = .ok (.iload_n 3, 1) := by decide +kernel
theorem dX4_comeBack_71 : decode cX4_comeBack 71 = .ok (.bipush 8, 2) := by decide +kernel
theorem dX4_comeBack_73 : decode cX4_comeBack 73 = .ok (.ishl, 1) := by decide +kernel
theorem dX4_comeBack_74 : decode cX4_comeBack 74 = .ok (.iload 4, 2) := by decide +kernel
theorem dX4_comeBack_76 : decode cX4_comeBack 76 = .ok (.ior, 1) := by decide +kernel
theorem dX4_comeBack_77 : decode cX4_comeBack 77 = .ok (.invokevirtual 248, 3) := by decide +kernel
theorem dX4_comeBack_80 : decode cX4_comeBack 80 = .ok (.ireturn, 1) := by decide +kernel
theorem dX5_init_0 : decode cX5_init 0 = .ok (.aload_n 0, 1) := by decide +kernel
theorem dX5_init_1 : decode cX5_init 1 = .ok (.invokespecial 1, 3) := by decide +kernel
theorem dX5_init_4 : decode cX5_init 4 = .ok (.aload_n 0, 1) := by decide +kernel
theorem dX5_init_5 : decode cX5_init 5 = .ok (.sipush 1024, 3) := by decide +kernel
theorem dX5_init_8 : decode cX5_init 8 = .ok (.newarray .int, 2) := by decide +kernel
theorem dX5_init_10 : decode cX5_init 10 = .ok (.putfield 7, 3) := by decide +kernel
theorem dX5_init_13 : decode cX5_init 13 = .ok (.aload_n 0, 1) := by decide +kernel
theorem dX5_init_14 : decode cX5_init 14 = .ok (.sipush 1024, 3) := by decide +kernel
theorem dX5_init_17 : decode cX5_init 17 = .ok (.newarray .int, 2) := by decide +kernel
theorem dX5_init_19 : decode cX5_init 19 = .ok (.putfield 13, 3) := by decide +kernel
theorem dX5_init_22 : decode cX5_init 22 = .ok (.aload_n 0, 1) := by decide +kernel
theorem dX5_init_23 : decode cX5_init 23 = .ok (.bipush 7, 2) := by decide +kernel
theorem dX5_init_25 : decode cX5_init 25 = .ok (.newarray .int, 2) := by decide +kernel
theorem dX5_init_27 : decode cX5_init 27 = .ok (.putfield 16, 3) := by decide +kernel
theorem dX5_init_30 : decode cX5_init 30 = .ok (.aload_n 0, 1) := by decide +kernel
theorem dX5_init_31 : decode cX5_init 31 = .ok (.iconst 0, 1) := by decide +kernel
theorem dX5_init_32 : decode cX5_init 32 = .ok (.putfield 19, 3) := by decide +kernel
theorem dX5_init_35 : decode cX5_init 35 = .ok (.return_, 1) := by decide +kernel
theorem dX5_in_0 : decode cX5_in 0 = .ok (.iload_n 0, 1) := by decide +kernel
theorem dX5_in_1 : decode cX5_in 1 = .ok (.iload_n 1, 1) := by decide +kernel
theorem dX5_in_2 : decode cX5_in 2 = .ok (.if_icmp .lt 12, 3) := by decide +kernel
theorem dX5_in_5 : decode cX5_in 5 = .ok (.iload_n 0, 1) := by decide +kernel
theorem dX5_in_6 : decode cX5_in 6 = .ok (.iload_n 2, 1) := by decide +kernel
theorem dX5_in_7 : decode cX5_in 7 = .ok (.if_icmp .gt 7, 3) := by decide +kernel
theorem dX5_in_10 : decode cX5_in 10 = .ok (.iconst 1, 1) := by decide +kernel
theorem dX5_in_11 : decode cX5_in 11 = .ok (.goto 4, 3) := by decide +kernel
theorem dX5_in_14 : decode cX5_in 14 = .ok (.iconst 0, 1) := by decide +kernel
theorem dX5_in_15 : decode cX5_in 15 = .ok (.ireturn, 1) := by decide +kernel
set_option maxRecDepth 20000 in
theorem ggX5_code_X5_in : GoodIn wsX5_code wsX5_in := goodIn_r _ [6] (by decide +kernel) (by decide +kernel)
set_option maxRecDepth 20000 in
theorem gX5_code_X5_in : GoodIn wsX5_code (va_wsS RX5 23 yX5_in wsX5_in) := goodIn_app (goodIn_of _ (by decide +kernel)) ggX5_code_X5_in
theorem dX5_code_0 : decode cX5_code 0 = .ok (.iload_n 1, 1) := by decide +kernel
theorem dX5_code_1 : decode cX5_code 1 = .ok (.iconst 0, 1) := by decide +kernel
theorem dX5_code_2 : decode cX5_code 2 = .ok (.sipush 1023, 3) := by decide +kernel
theorem dX5_code_5 : decode cX5_code 5 = .ok (.invokestatic 23, 3) := by decide +kernel
theorem dX5_code_8 : decode cX5_code 8 = .ok (.ifCond .eq 13, 3) := by decide +kernel
theorem dX5_code_11 : decode cX5_code 11 = .ok (.iload_n 2, 1) := by decide +kernel
theorem dX5_code_12 : decode cX5_code 12 = .ok (.iconst 0, 1) := by decide +kernel
theorem dX5_code_13 : decode cX5_code 13 = .ok (.ldc 27, 2) := by decide +kernel
theorem dX5_code_15 : decode cX5_code 15 = .ok (.invokestatic 23, 3) := by decide +kernel
theorem dX5_code_18 : decode cX5_code 18 = .ok (.ifCond .ne 5, 3) := by decide +kernel
theorem dX5_code_21 : decode cX5_code 21 = .ok (.iconst (-1), 1) := by decide +kernel
theorem dX5_code_22 : decode cX5_code 22 = .ok (.ireturn, 1) := by decide +kernel
theorem dX5_code_23 : decode cX5_code 23 = .ok (.aload_n 0, 1) := by decide +kernel
theorem dX5_code_24 : decode cX5_code 24 = .ok (.getfield 7, 3) := by decide +kernel
theorem dX5_code_27 : decode cX5_code 27 = .ok (.iload_n 1, 1) := by decide +kernel
theorem dX5_code_28 : decode cX5_code 28 = .ok (.iaload, 1) := by decide +kernel
theorem dX5_code_29 : decode cX5_code 29 = .ok (.istore_n 3, 1) := by decide +kernel
theorem dX5_code_30 : decode cX5_code 30 = .ok (.aload_n 0, 1) := by decide +kernel
theorem dX5_code_31 : decode cX5_code 31 = .ok (.getfield 7, 3) := by decide +kernel
theorem dX5_code_34 : decode cX5_code 34 = .ok (.iload_n 1, 1) := by decide +kernel
theorem dX5_code_35 : decode cX5_code 35 = .ok (.iload_n 2, 1) := by decide +kernel
theorem dX5_code_36 : decode cX5_code 36 = .ok (.iastore, 1) := by decide +kernel
theorem dX5_code_37 : decode cX5_code 37 = .ok (.iload_n 3, 1) := by decide +kernel
theorem dX5_code_38 : decode cX5_code 38 = .ok (.ireturn, 1) := by decide +kernel
set_option maxRecDepth 20000 in
theorem ggX5_load_X5_in : GoodIn wsX5_load wsX5_in := goodIn_r _ [6] (by decide +kernel) (by decide +kernel)
set_option maxRecDepth 20000 in
theorem gX5_load_X5_in : GoodIn wsX5_load (va_wsS RX5 23 yX5_in wsX5_in) := goodIn_app (goodIn_of _ (by decide +kernel)) ggX5_load_X5_in
theorem dX5_load_0 : decode cX5_load 0 = .ok (.iload_n 1, 1) := by decide +kernel
theorem dX5_load_1 : decode cX5_load 1 = .ok (.iconst 0, 1) := by decide +kernel
theorem dX5_load_2 : decode cX5_load 2 = .ok (.sipush 1023, 3) := by decide +kernel
theorem dX5_load_5 : decode cX5_load 5 = .ok (.invokestatic 23, 3) := by decide +kernel
theorem dX5_load_8 : decode cX5_load 8 = .ok (.ifCond .ne 5, 3) := by decide +kernel
theorem dX5_load_11 : decode cX5_load 11 = .ok (.iconst (-1), 1) := by decide +kernel
theorem dX5_load_12 : decode cX5_load 12 = .ok (.ireturn, 1) := by decide +kernel
theorem dX5_load_13 : decode cX5_load 13 = .ok (.iconst 0, 1) := by decide +kernel
theorem dX5_load_14 : decode cX5_load 14 = .ok (.istore 4, 2) := by decide +kernel
theorem dX5_load_16 : decode cX5_load 16 = .ok (.iload 4, 2) := by decide +kernel
theorem dX5_load_18 : decode cX5_load 18 = .ok (.iconst 4, 1) := by decide +kernel
theorem dX5_load_19 : decode cX5_load 19 = .ok (.if_icmp .ge 36, 3) := by decide +kernel
theorem dX5_load_22 : decode cX5_load 22 = .ok (.aload_n 0, 1) := by decide +kernel
theorem dX5_load_23 : decode cX5_load 23 = .ok (.getfield 7, 3) := by decide +kernel
theorem dX5_load_26 : decode cX5_load 26 = .ok (.iload_n 1, 1) := by decide +kernel
theorem dX5_load_27 : decode cX5_load 27 = .ok (.iload 4, 2) := by decide +kernel
theorem dX5_load_29 : decode cX5_load 29 = .ok (.iadd, 1) := by decide +kernel
theorem dX5_load_30 : decode cX5_load 30 = .ok (.sipush 1023, 3) := by decide +kernel
theorem dX5_load_33 : decode cX5_load 33 = .ok (.iand, 1) := by decide +kernel
theorem dX5_load_34 : decode cX5_load 34 = .ok (.lload_n 2, 1) := by decide +kernel
theorem dX5_load_35 : decode cX5_load 35 = .ok (.bipush 48, 2) := by decide +kernel
theorem dX5_load_37 : decode cX5_load 37 = .ok (.bipush 16, 2) := by decide +kernel
theorem dX5_load_39 : decode cX5_load 39 = .ok (.iload 4, 2) := by decide +kernel
theorem dX5_load_41 : decode cX5_load 41 = .ok (.imul, 1) := by decide +kernel
theorem dX5_load_42 : decode cX5_load 42 = .ok (.isub, 1) := by decide +kernel
theorem dX5_load_43 : decode cX5_load 43 = .ok (.lshr, 1) := by decide +kernel
theorem dX5_load_44 : decode cX5_load 44 = .ok (.l2i, 1) := by decide +kernel
theorem dX5_load_45 : decode cX5_load 45 = .ok (.ldc 27, 2) := by decide +kernel
theorem dX5_load_47 : decode cX5_load 47 = .ok (.iand, 1) := by decide +kernel
theorem dX5_load_48 : decode cX5_load 48 = .ok (.iastore, 1) := by decide +kernel
theorem dX5_load_49 : decode cX5_load 49 = .ok (.iinc 4 1, 3) := by decide +kernel
theorem dX5_load_52 : decode cX5_load 52 = .ok (.goto (-36), 3) := by decide +kernel
theorem dX5_load_55 : decode cX5_load 55 = .ok (.iconst 1, 1) := by decide +kernel
theorem dX5_load_56 : decode cX5_load 56 = .ok (.ireturn, 1) := by decide +kernel
set_option maxRecDepth 20000 in
theorem ggX5_word_X5_in : GoodIn wsX5_word wsX5_in := goodIn_r _ [5] (by decide +kernel) (by decide +kernel)
set_option maxRecDepth 20000 in
theorem gX5_word_X5_in : GoodIn wsX5_word (va_wsS RX5 23 yX5_in wsX5_in) := goodIn_app (goodIn_of _ (by decide +kernel)) ggX5_word_X5_in
theorem dX5_word_0 : decode cX5_word 0 = .ok (.iload_n 1, 1) := by decide +kernel
theorem dX5_word_1 : decode cX5_word 1 = .ok (.iconst 0, 1) := by decide +kernel
theorem dX5_word_2 : decode cX5_word 2 = .ok (.sipush 1023, 3) := by decide +kernel
theorem dX5_word_5 : decode cX5_word 5 = .ok (.invokestatic 23, 3) := by decide +kernel
theorem dX5_word_8 : decode cX5_word 8 = .ok (.ifCond .eq 12, 3) := by decide +kernel
theorem dX5_word_11 : decode cX5_word 11 = .ok (.aload_n 0, 1) := by decide +kernel
theorem dX5_word_12 : decode cX5_word 12 = .ok (.getfield 7, 3) := by decide +kernel
theorem dX5_word_15 : decode cX5_word 15 = .ok (.iload_n 1, 1) := by decide +kernel
theorem dX5_word_16 : decode cX5_word 16 = .ok (.iaload, 1) := by decide +kernel
theorem dX5_word_17 : decode cX5_word 17 = .ok (.goto 4, 3) := by decide +kernel
theorem dX5_word_20 : decode cX5_word 20 = .ok (.iconst (-1), 1) := by decide +kernel
theorem dX5_word_21 : decode cX5_word 21 = .ok (.ireturn, 1) := by decide +kernel
set_option maxRecDepth 20000 in
theorem ggX5_put_X5_in : GoodIn wsX5_put wsX5_in := goodIn_r _ [5] (by decide +kernel) (by decide +kernel)
set_option maxRecDepth 20000 in
theorem gX5_put_X5_in : GoodIn wsX5_put (va_wsS RX5 23 yX5_in wsX5_in) := goodIn_app (goodIn_of _ (by decide +kernel)) ggX5_put_X5_in
