theorem dX4_callTo_26 : decode cX4_callTo 26 = .ok (.iadd, 1) := by decide +kernel
theorem dX4_callTo_27 : decode cX4_callTo 27 = .ok (.iastore, 1) := by decide +kernel
theorem dX4_callTo_28 : decode cX4_callTo 28 = .ok (.aload_n 0, 1) := by decide +kernel
theorem dX4_callTo_29 : decode cX4_callTo 29 = .ok (.iload_n 1, 1) := by decide +kernel
theorem dX4_callTo_30 : decode cX4_callTo 30 = .ok (.sipush 1023, 3) := by decide +kernel
theorem dX4_callTo_33 : decode cX4_callTo 33 = .ok (.iand, 1) := by decide +kernel
theorem dX4_callTo_34 : decode cX4_callTo 34 = .ok (.putfield 32, 3) := by decide +kernel
theorem dX4_callTo_37 : decode cX4_callTo 37 = .ok (.iconst 0, 1) := by decide +kernel
theorem dX4_callTo_38 : decode cX4_callTo 38 = .ok (.ireturn, 1) := by decide +kernel
set_option maxRecDepth 20000 in
theorem ggX4_skip_X4_onward : GoodIn wsX4_skip wsX4_onward := goodIn_r _ [7, 1, 21, 22, 23, 24, 25, 26, 27, 28] (by decide +kernel) (by decide +kernel)
set_option maxRecDepth 20000 in
theorem gX4_skip_X4_onward : GoodIn wsX4_skip (wsV RX4 102 RX4 yX4_onward wsX4_onward) := goodIn_app (goodIn_of _ (by decide +kernel)) ggX4_skip_X4_onward
set_option maxRecDepth 20000 in
theorem ggX4_skip_X4_cellAt : GoodIn wsX4_skip wsX4_cellAt := goodIn_r _ [11, 12, 21, 22, 23, 24, 25, 26, 27, 28] (by decide +kernel) (by decide +kernel)
set_option maxRecDepth 20000 in
theorem gX4_skip_X4_cellAt : GoodIn wsX4_skip (wsV RX4 51 RX4 yX4_cellAt wsX4_cellAt) := goodIn_app (goodIn_of _ (by decide +kernel)) ggX4_skip_X4_cellAt
set_option maxRecDepth 20000 in
theorem ggX4_skip_X3_hasNext : GoodIn wsX4_skip wsX3_hasNext := goodIn_r _ [16, 17, 18, 19, 20] (by decide +kernel) (by decide +kernel)
set_option maxRecDepth 20000 in
theorem gX4_skip_X3_hasNext : GoodIn wsX4_skip (va_wsS RX4 74 yX3_hasNext wsX3_hasNext) := goodIn_app (goodIn_of _ (by decide +kernel)) ggX4_skip_X3_hasNext
theorem dX4_skip_0 : decode cX4_skip 0 = .ok (.iload_n 1, 1) := by decide +kernel
theorem dX4_skip_1 : decode cX4_skip 1 = .ok (.ifCond .ne 9, 3) := by decide +kernel
theorem dX4_skip_4 : decode cX4_skip 4 = .ok (.aload_n 0, 1) := by decide +kernel
theorem dX4_skip_5 : decode cX4_skip 5 = .ok (.iconst 1, 1) := by decide +kernel
theorem dX4_skip_6 : decode cX4_skip 6 = .ok (.invokevirtual 102, 3) := by decide +kernel
theorem dX4_skip_9 : decode cX4_skip 9 = .ok (.ireturn, 1) := by decide +kernel
theorem dX4_skip_10 : decode cX4_skip 10 = .ok (.aload_n 0, 1) := by decide +kernel
theorem dX4_skip_11 : decode cX4_skip 11 = .ok (.aload_n 0, 1) := by decide +kernel
theorem dX4_skip_12 : decode cX4_skip 12 = .ok (.getfield 32, 3) := by decide +kernel
theorem dX4_skip_15 : decode cX4_skip 15 = .ok (.iconst 1, 1) := by decide +kernel
theorem dX4_skip_16 : decode cX4_skip 16 = .ok (.iadd, 1) := by decide +kernel
theorem dX4_skip_17 : decode cX4_skip 17 = .ok (.invokevirtual 51, 3) := by decide +kernel
theorem dX4_skip_20 : decode cX4_skip 20 = .ok (.invokestatic 74, 3) := by decide +kernel
theorem dX4_skip_23 : decode cX4_skip 23 = .ok (.ifCond .eq 19, 3) := by decide +kernel
theorem dX4_skip_26 : decode cX4_skip 26 = .ok (.aload_n 0, 1) := by decide +kernel
theorem dX4_skip_27 : decode cX4_skip 27 = .ok (.getfield 29, 3) := by decide +kernel
theorem dX4_skip_30 : decode cX4_skip 30 = .ok (.iconst 5, 1) := by decide +kernel
theorem dX4_skip_31 : decode cX4_skip 31 = .ok (.dup2, 1) := by decide +kernel
theorem dX4_skip_32 : decode cX4_skip 32 = .ok (.iaload, 1) := by decide +kernel
theorem dX4_skip_33 : decode cX4_skip 33 = .ok (.iconst 1, 1) := by decide +kernel
theorem dX4_skip_34 : decode cX4_skip 34 = .ok (.iadd, 1) := by decide +kernel
theorem dX4_skip_35 : decode cX4_skip 35 = .ok (.iastore, 1) := by decide +kernel
theorem dX4_skip_36 : decode cX4_skip 36 = .ok (.aload_n 0, 1) := by decide +kernel
theorem dX4_skip_37 : decode cX4_skip 37 = .ok (.iconst 3, 1) := by decide +kernel
theorem dX4_skip_38 : decode cX4_skip 38 = .ok (.invokevirtual 102, 3) := by decide +kernel
theorem dX4_skip_41 : decode cX4_skip 41 = .ok (.ireturn, 1) := by decide +kernel
theorem dX4_skip_42 : decode cX4_skip 42 = .ok (.aload_n 0, 1) := by decide +kernel
theorem dX4_skip_43 : decode cX4_skip 43 = .ok (.getfield 29, 3) := by decide +kernel
theorem dX4_skip_46 : decode cX4_skip 46 = .ok (.iconst 4, 1) := by decide +kernel
theorem dX4_skip_47 : decode cX4_skip 47 = .ok (.dup2, 1) := by decide +kernel
theorem dX4_skip_48 : decode cX4_skip 48 = .ok (.iaload, 1) := by decide +kernel
theorem dX4_skip_49 : decode cX4_skip 49 = .ok (.iconst 1, 1) := by decide +kernel
theorem dX4_skip_50 : decode cX4_skip 50 = .ok (.iadd, 1) := by decide +kernel
theorem dX4_skip_51 : decode cX4_skip 51 = .ok (.iastore, 1) := by decide +kernel
theorem dX4_skip_52 : decode cX4_skip 52 = .ok (.aload_n 0, 1) := by decide +kernel
theorem dX4_skip_53 : decode cX4_skip 53 = .ok (.iconst 2, 1) := by decide +kernel
theorem dX4_skip_54 : decode cX4_skip 54 = .ok (.invokevirtual 102, 3) := by decide +kernel
theorem dX4_skip_57 : decode cX4_skip 57 = .ok (.ireturn, 1) := by decide +kernel
set_option maxRecDepth 20000 in
theorem ggX4_movePair_X0_pair : GoodIn wsX4_movePair wsX0_pair := goodIn_r _ [6, 7, 26] (by decide +kernel) (by decide +kernel)
set_option maxRecDepth 20000 in
theorem gX4_movePair_X0_pair : GoodIn wsX4_movePair (wsV RX4 62 RX0 yX0_pair wsX0_pair) := goodIn_app (goodIn_of _ (by decide +kernel)) ggX4_movePair_X0_pair
set_option maxRecDepth 20000 in
theorem ggX4_movePair_X0_setPair : GoodIn wsX4_movePair wsX0_setPair := goodIn_r _ [11, 7, 26] (by decide +kernel) (by decide +kernel)
set_option maxRecDepth 20000 in
theorem gX4_movePair_X0_setPair : GoodIn wsX4_movePair (wsV RX4 170 RX0 yX0_setPair wsX0_setPair) := goodIn_app (goodIn_of _ (by decide +kernel)) ggX4_movePair_X0_setPair
set_option maxRecDepth 20000 in
theorem ggX4_movePair_X4_onward : GoodIn wsX4_movePair wsX4_onward := goodIn_r _ [16, 17, 18, 19, 20, 21, 22, 23, 24, 25] (by decide +kernel) (by decide +kernel)
set_option maxRecDepth 20000 in
theorem gX4_movePair_X4_onward : GoodIn wsX4_movePair (wsV RX4 102 RX4 yX4_onward wsX4_onward) := goodIn_app (goodIn_of _ (by decide +kernel)) ggX4_movePair_X4_onward
theorem dX4_movePair_0 : decode cX4_movePair 0 = .ok (.aload_n 0, 1) := by decide +kernel
theorem dX4_movePair_1 : decode cX4_movePair 1 = .ok (.getfield 16, 3) := by decide +kernel
theorem dX4_movePair_4 : decode cX4_movePair 4 = .ok (.iconst 2, 1) := by decide +kernel
theorem dX4_movePair_5 : decode cX4_movePair 5 = .ok (.iload_n 1, 1) := by decide +kernel
theorem dX4_movePair_6 : decode cX4_movePair 6 = .ok (.iconst 4, 1) := by decide +kernel
theorem dX4_movePair_7 : decode cX4_movePair 7 = .ok (.ishr, 1) := by decide +kernel
theorem dX4_movePair_8 : decode cX4_movePair 8 = .ok (.bipush 15, 2) := by decide +kernel
theorem dX4_movePair_10 : decode cX4_movePair 10 = .ok (.iand, 1) := by decide +kernel
theorem dX4_movePair_11 : decode cX4_movePair 11 = .ok (.imul, 1) := by decide +kernel
theorem dX4_movePair_12 : decode cX4_movePair 12 = .ok (.aload_n 0, 1) := by decide +kernel
theorem dX4_movePair_13 : decode cX4_movePair 13 = .ok (.getfield 16, 3) := by decide +kernel
theorem dX4_movePair_16 : decode cX4_movePair 16 = .ok (.iconst 2, 1) := by decide +kernel
theorem dX4_movePair_17 : decode cX4_movePair 17 = .ok (.iload_n 1, 1) := by decide +kernel
theorem dX4_movePair_18 : decode cX4_movePair 18 = .ok (.bipush 15, 2) := by decide +kernel
theorem dX4_movePair_20 : decode cX4_movePair 20 = .ok (.iand, 1) := by decide +kernel
theorem dX4_movePair_21 : decode cX4_movePair 21 = .ok (.imul, 1) := by decide +kernel
theorem dX4_movePair_22 : decode cX4_movePair 22 = .ok (.invokevirtual 62, 3) := by decide +kernel
theorem dX4_movePair_25 : decode cX4_movePair 25 = .ok (.invokevirtual 170, 3) := by decide +kernel
theorem dX4_movePair_28 : decode cX4_movePair 28 = .ok (.aload_n 0, 1) := by decide +kernel
theorem dX4_movePair_29 : decode cX4_movePair 29 = .ok (.iconst 1, 1) := by decide +kernel
theorem dX4_movePair_30 : decode cX4_movePair 30 = .ok (.invokevirtual 102, 3) := by decide +kernel
theorem dX4_movePair_33 : decode cX4_movePair 33 = .ok (.ireturn, 1) := by decide +kernel
set_option maxRecDepth 20000 in
theorem ggX4_multiply_X3_d : GoodIn wsX4_multiply wsX3_d := goodIn_r _ [6] (by decide +kernel) (by decide +kernel)
set_option maxRecDepth 20000 in
theorem gX4_multiply_X3_d : GoodIn wsX4_multiply (va_wsS RX4 173 yX3_d wsX3_d) := goodIn_app (goodIn_of _ (by decide +kernel)) ggX4_multiply_X3_d
set_option maxRecDepth 20000 in
theorem ggX4_multiply_X0_get : GoodIn wsX4_multiply wsX0_get := goodIn_r _ [11, 12, 62] (by decide +kernel) (by decide +kernel)
set_option maxRecDepth 20000 in
theorem gX4_multiply_X0_get : GoodIn wsX4_multiply (wsV RX4 55 RX0 yX0_get wsX0_get) := goodIn_app (goodIn_of _ (by decide +kernel)) ggX4_multiply_X0_get
set_option maxRecDepth 20000 in
theorem ggX4_multiply_X3_r : GoodIn wsX4_multiply wsX3_r := goodIn_r _ [15] (by decide +kernel) (by decide +kernel)
set_option maxRecDepth 20000 in
theorem gX4_multiply_X3_r : GoodIn wsX4_multiply (va_wsS RX4 176 yX3_r wsX3_r) := goodIn_app (goodIn_of _ (by decide +kernel)) ggX4_multiply_X3_r
set_option maxRecDepth 20000 in
theorem ggX4_multiply_X2_product : GoodIn wsX4_multiply wsX2_product := goodIn_r _ [20, 21, 22, 23, 19, 24, 25, 26, 27, 28, 29, 30, 10, 31, 12, 32, 33, 34, 35, 63, 62] (by decide +kernel) (by decide +kernel)
set_option maxRecDepth 20000 in
theorem gX4_multiply_X2_product : GoodIn wsX4_multiply (wsV RX4 179 RX2 yX2_product wsX2_product) := goodIn_app (goodIn_of _ (by decide +kernel)) ggX4_multiply_X2_product
set_option maxRecDepth 20000 in
theorem ggX4_multiply_X0_signed : GoodIn wsX4_multiply wsX0_signed := goodIn_r _ [39, 12, 62] (by decide +kernel) (by decide +kernel)
set_option maxRecDepth 20000 in
theorem gX4_multiply_X0_signed : GoodIn wsX4_multiply (wsV RX4 183 RX0 yX0_signed wsX0_signed) := goodIn_app (goodIn_of _ (by decide +kernel)) ggX4_multiply_X0_signed
set_option maxRecDepth 20000 in
theorem ggX4_multiply_X4_multiplyFew : GoodIn wsX4_multiply wsX4_multiplyFew := goodIn_r _ [44, 1, 2, 36, 37, 38, 10, 39, 12, 7, 8, 9, 11, 16, 17, 18, 19, 20, 21, 22, 23, 24, 25, 26, 27, 28, 29, 30, 31, 32, 33, 34, 35, 45, 46, 47, 48, 54, 55, 56, 57, 58, 59, 60, 61, 62, 63] (by decide +kernel) (by decide +kernel)
set_option maxRecDepth 20000 in
theorem gX4_multiply_X4_multiplyFew : GoodIn wsX4_multiply (wsV RX4 186 RX4 yX4_multiplyFew wsX4_multiplyFew) := goodIn_app (goodIn_of _ (by decide +kernel)) ggX4_multiply_X4_multiplyFew
set_option maxRecDepth 20000 in
theorem ggX4_multiply_X4_onward : GoodIn wsX4_multiply wsX4_onward := goodIn_r _ [52, 53, 54, 55, 56, 57, 58, 59, 60, 61] (by decide +kernel) (by decide +kernel)
set_option maxRecDepth 20000 in
theorem gX4_multiply_X4_onward : GoodIn wsX4_multiply (wsV RX4 102 RX4 yX4_onward wsX4_onward) := goodIn_app (goodIn_of _ (by decide +kernel)) ggX4_multiply_X4_onward
theorem dX4_multiply_0 : decode cX4_multiply 0 = .ok (.iload_n 1, 1) := by decide +kernel
theorem dX4_multiply_1 : decode cX4_multiply 1 = .ok (.bipush 12, 2) := by decide +kernel
theorem dX4_multiply_3 : decode cX4_multiply 3 = .ok (.ishr, 1) := by decide +kernel
theorem dX4_multiply_4 : decode cX4_multiply 4 = .ok (.bipush 9, 2) := by decide +kernel
theorem dX4_multiply_6 : decode cX4_multiply 6 = .ok (.if_icmp .ne 36, 3) := by decide +kernel
theorem dX4_multiply_9 : decode cX4_multiply 9 = .ok (.aload_n 0, 1) := by decide +kernel
theorem dX4_multiply_10 : decode cX4_multiply 10 = .ok (.getfield 25, 3) := by decide +kernel
theorem dX4_multiply_13 : decode cX4_multiply 13 = .ok (.aload_n 0, 1) := by decide +kernel
theorem dX4_multiply_14 : decode cX4_multiply 14 = .ok (.getfield 16, 3) := by decide +kernel
theorem dX4_multiply_17 : decode cX4_multiply 17 = .ok (.iload_n 1, 1) := by decide +kernel
theorem dX4_multiply_18 : decode cX4_multiply 18 = .ok (.invokestatic 173, 3) := by decide +kernel
theorem dX4_multiply_21 : decode cX4_multiply 21 = .ok (.invokevirtual 55, 3) := by decide +kernel
theorem dX4_multiply_24 : decode cX4_multiply 24 = .ok (.aload_n 0, 1) := by decide +kernel
theorem dX4_multiply_25 : decode cX4_multiply 25 = .ok (.getfield 16, 3) := by decide +kernel
theorem dX4_multiply_28 : decode cX4_multiply 28 = .ok (.iload_n 1, 1) := by decide +kernel
theorem dX4_multiply_29 : decode cX4_multiply 29 = .ok (.invokestatic 176, 3) := by decide +kernel
theorem dX4_multiply_32 : decode cX4_multiply 32 = .ok (.invokevirtual 55, 3) := by decide +kernel
theorem dX4_multiply_35 : decode cX4_multiply 35 = .ok (.imul, 1) := by decide +kernel
theorem dX4_multiply_36 : decode cX4_multiply 36 = .ok (.invokevirtual 179, 3) := by decide +kernel
theorem dX4_multiply_39 : decode cX4_multiply 39 = .ok (.goto 73, 3) := by decide +kernel
theorem dX4_multiply_42 : decode cX4_multiply 42 = .ok (.iload_n 1, 1) := by decide +kernel
theorem dX4_multiply_43 : decode cX4_multiply 43 = .ok (.bipush 8, 2) := by decide +kernel
theorem dX4_multiply_45 : decode cX4_multiply 45 = .ok (.ishr, 1) := by decide +kernel
theorem dX4_multiply_46 : decode cX4_multiply 46 = .ok (.iconst 2, 1) := by decide +kernel
theorem dX4_multiply_47 : decode cX4_multiply 47 = .ok (.if_icmp .ne 44, 3) := by decide +kernel
theorem dX4_multiply_50 : decode cX4_multiply 50 = .ok (.aload_n 0, 1) := by decide +kernel
theorem dX4_multiply_51 : decode cX4_multiply 51 = .ok (.getfield 25, 3) := by decide +kernel
theorem dX4_multiply_54 : decode cX4_multiply 54 = .ok (.aload_n 0, 1) := by decide +kernel
theorem dX4_multiply_55 : decode cX4_multiply 55 = .ok (.getfield 16, 3) := by decide +kernel
theorem dX4_multiply_58 : decode cX4_multiply 58 = .ok (.bipush 16, 2) := by decide +kernel
theorem dX4_multiply_60 : decode cX4_multiply 60 = .ok (.iload_n 1, 1) := by decide +kernel
theorem dX4_multiply_61 : decode cX4_multiply 61 = .ok (.iconst 4, 1) := by decide +kernel
theorem dX4_multiply_62 : decode cX4_multiply 62 = .ok (.ishr, 1) := by decide +kernel
theorem dX4_multiply_63 : decode cX4_multiply 63 = .ok (.bipush 15, 2) := by decide +kernel
theorem dX4_multiply_65 : decode cX4_multiply 65 = .ok (.iand, 1) := by decide +kernel
theorem dX4_multiply_66 : decode cX4_multiply 66 = .ok (.iadd, 1) := by decide +kernel
theorem dX4_multiply_67 : decode cX4_multiply 67 = .ok (.invokevirtual 183, 3) := by decide +kernel
theorem dX4_multiply_70 : decode cX4_multiply 70 = .ok (.aload_n 0, 1) := by decide +kernel
theorem dX4_multiply_71 : decode cX4_multiply 71 = .ok (.getfield 16, 3) := by decide +kernel
theorem dX4_multiply_74 : decode cX4_multiply 74 = .ok (.bipush 16, 2) := by decide +kernel
theorem dX4_multiply_76 : decode cX4_multiply 76 = .ok (.iload_n 1, 1) := by decide +kernel
theorem dX4_multiply_77 : decode cX4_multiply 77 = .ok (.bipush 15, 2) := by decide +kernel
theorem dX4_multiply_79 : decode cX4_multiply 79 = .ok (.iand, 1) := by decide +kernel
theorem dX4_multiply_80 : decode cX4_multiply 80 = .ok (.iadd, 1) := by decide +kernel
theorem dX4_multiply_81 : decode cX4_multiply 81 = .ok (.invokevirtual 183, 3) := by decide +kernel
theorem dX4_multiply_84 : decode cX4_multiply 84 = .ok (.imul, 1) := by decide +kernel
theorem dX4_multiply_85 : decode cX4_multiply 85 = .ok (.invokevirtual 179, 3) := by decide +kernel
theorem dX4_multiply_88 : decode cX4_multiply 88 = .ok (.goto 24, 3) := by decide +kernel
theorem dX4_multiply_91 : decode cX4_multiply 91 = .ok (.aload_n 0, 1) := by decide +kernel
theorem dX4_multiply_92 : decode cX4_multiply 92 = .ok (.iload_n 1, 1) := by decide +kernel
theorem dX4_multiply_93 : decode cX4_multiply 93 = .ok (.bipush 16, 2) := by decide +kernel
theorem dX4_multiply_95 : decode cX4_multiply 95 = .ok (.iload_n 1, 1) := by decide +kernel
theorem dX4_multiply_96 : decode cX4_multiply 96 = .ok (.iconst 4, 1) := by decide +kernel
theorem dX4_multiply_97 : decode cX4_multiply 97 = .ok (.ishr, 1) := by decide +kernel
theorem dX4_multiply_98 : decode cX4_multiply 98 = .ok (.bipush 7, 2) := by decide +kernel
theorem dX4_multiply_100 : decode cX4_multiply 100 = .ok (.iand, 1) := by decide +kernel
theorem dX4_multiply_101 : decode cX4_multiply 101 = .ok (.iadd, 1) := by decide +kernel
theorem dX4_multiply_102 : decode cX4_multiply 102 = .ok (.bipush 16, 2) := by decide +kernel
theorem dX4_multiply_104 : decode cX4_multiply 104 = .ok (.iload_n 1, 1) := by decide +kernel
theorem dX4_multiply_105 : decode cX4_multiply 105 = .ok (.bipush 7, 2) := by decide +kernel
theorem dX4_multiply_107 : decode cX4_multiply 107 = .ok (.iand, 1) := by decide +kernel
theorem dX4_multiply_108 : decode cX4_multiply 108 = .ok (.iadd, 1) := by decide +kernel
theorem dX4_multiply_109 : decode cX4_multiply 109 = .ok (.invokevirtual 186, 3) := by decide +kernel
theorem dX4_multiply_112 : decode cX4_multiply 112 = .ok (.aload_n 0, 1) := by decide +kernel
theorem dX4_multiply_113 : decode cX4_multiply 113 = .ok (.iconst 1, 1) := by decide +kernel
theorem dX4_multiply_114 : decode cX4_multiply 114 = .ok (.invokevirtual 102, 3) := by decide +kernel
theorem dX4_multiply_117 : decode cX4_multiply 117 = .ok (.ireturn, 1) := by decide +kernel
set_option maxRecDepth 20000 in
theorem ggX4_multiplyFew_X0_signed : GoodIn wsX4_multiplyFew wsX0_signed := goodIn_r _ [7, 8, 45] (by decide +kernel) (by decide +kernel)
set_option maxRecDepth 20000 in
theorem gX4_multiplyFew_X0_signed : GoodIn wsX4_multiplyFew (wsV RX4 183 RX0 yX0_signed wsX0_signed) := goodIn_app (goodIn_of _ (by decide +kernel)) ggX4_multiplyFew_X0_signed
set_option maxRecDepth 20000 in
theorem ggX4_multiplyFew_X0_get : GoodIn wsX4_multiplyFew wsX0_get := goodIn_r _ [12, 8, 45] (by decide +kernel) (by decide +kernel)
set_option maxRecDepth 20000 in
theorem gX4_multiplyFew_X0_get : GoodIn wsX4_multiplyFew (wsV RX4 55 RX0 yX0_get wsX0_get) := goodIn_app (goodIn_of _ (by decide +kernel)) ggX4_multiplyFew_X0_get
set_option maxRecDepth 20000 in
theorem ggX4_multiplyFew_X2_product : GoodIn wsX4_multiplyFew wsX2_product := goodIn_r _ [17, 18, 19, 20, 16, 21, 22, 23, 24, 25, 26, 27, 6, 28, 8, 29, 30, 31, 32, 46, 45] (by decide +kernel) (by decide +kernel)
set_option maxRecDepth 20000 in
theorem gX4_multiplyFew_X2_product : GoodIn wsX4_multiplyFew (wsV RX4 179 RX2 yX2_product wsX2_product) := goodIn_app (goodIn_of _ (by decide +kernel)) ggX4_multiplyFew_X2_product
set_option maxRecDepth 20000 in
theorem ggX4_multiplyFew_X2_fraction : GoodIn wsX4_multiplyFew wsX2_fraction := goodIn_r _ [36, 18, 19, 20, 16, 21, 22, 23, 24, 25, 26, 27, 6, 28, 8, 29, 30, 31, 32, 46, 45] (by decide +kernel) (by decide +kernel)
set_option maxRecDepth 20000 in
theorem gX4_multiplyFew_X2_fraction : GoodIn wsX4_multiplyFew (wsV RX4 190 RX2 yX2_fraction wsX2_fraction) := goodIn_app (goodIn_of _ (by decide +kernel)) ggX4_multiplyFew_X2_fraction
theorem dX4_multiplyFew_0 : decode cX4_multiplyFew 0 = .ok (.iload_n 1, 1) := by decide +kernel
theorem dX4_multiplyFew_1 : decode cX4_multiplyFew 1 = .ok (.sipush 136, 3) := by decide +kernel
theorem dX4_multiplyFew_4 : decode cX4_multiplyFew 4 = .ok (.iand, 1) := by decide +kernel
theorem dX4_multiplyFew_5 : decode cX4_multiplyFew 5 = .ok (.lookupswitch 116 #[(0, 35), (8, 62), (128, 89)], 35) := by decide +kernel
theorem dX4_multiplyFew_40 : decode cX4_multiplyFew 40 = .ok (.aload_n 0, 1) := by decide +kernel
theorem dX4_multiplyFew_41 : decode cX4_multiplyFew 41 = .ok (.getfield 25, 3) := by decide +kernel
theorem dX4_multiplyFew_44 : decode cX4_multiplyFew 44 = .ok (.aload_n 0, 1) := by decide +kernel
theorem dX4_multiplyFew_45 : decode cX4_multiplyFew 45 = .ok (.getfield 16, 3) := by decide +kernel
theorem dX4_multiplyFew_48 : decode cX4_multiplyFew 48 = .ok (.iload_n 2, 1) := by decide +kernel
theorem dX4_multiplyFew_49 : decode cX4_multiplyFew 49 = .ok (.invokevirtual 183, 3) := by decide +kernel
theorem dX4_multiplyFew_52 : decode cX4_multiplyFew 52 = .ok (.aload_n 0, 1) := by decide +kernel
theorem dX4_multiplyFew_53 : decode cX4_multiplyFew 53 = .ok (.getfield 16, 3) := by decide +kernel
theorem dX4_multiplyFew_56 : decode cX4_multiplyFew 56 = .ok (.iload_n 3, 1) := by decide +kernel
theorem dX4_multiplyFew_57 : decode cX4_multiplyFew 57 = .ok (.invokevirtual 55, 3) := by decide +kernel
theorem dX4_multiplyFew_60 : decode cX4_multiplyFew 60 = .ok (.imul, 1) := by decide +kernel
theorem dX4_multiplyFew_61 : decode cX4_multiplyFew 61 = .ok (.invokevirtual 179, 3) := by decide +kernel
theorem dX4_multiplyFew_64 : decode cX4_multiplyFew 64 = .ok (.goto 81, 3) := by decide +kernel
theorem dX4_multiplyFew_67 : decode cX4_multiplyFew 67 = .ok (.aload_n 0, 1) := by decide +kernel
theorem dX4_multiplyFew_68 : decode cX4_multiplyFew 68 = .ok (.getfield 25, 3) := by decide +kernel
theorem dX4_multiplyFew_71 : decode cX4_multiplyFew 71 = .ok (.aload_n 0, 1) := by decide +kernel
theorem dX4_multiplyFew_72 : decode cX4_multiplyFew 72 = .ok (.getfield 16, 3) := by decide +kernel
theorem dX4_multiplyFew_75 : decode cX4_multiplyFew 75 = .ok (.iload_n 2, 1) := by decide +kernel
theorem dX4_multiplyFew_76 : decode cX4_multiplyFew 76 = .ok (.invokevirtual 55, 3) := by decide +kernel
theorem dX4_multiplyFew_79 : decode cX4_multiplyFew 79 = .ok (.aload_n 0, 1) := by decide +kernel
theorem dX4_multiplyFew_80 : decode cX4_multiplyFew 80 = .ok (.getfield 16, 3) := by decide +kernel
theorem dX4_multiplyFew_83 : decode cX4_multiplyFew 83 = .ok (.iload_n 3, 1) := by decide +kernel
theorem dX4_multiplyFew_84 : decode cX4_multiplyFew 84 = .ok (.invokevirtual 55, 3) := by decide +kernel
theorem dX4_multiplyFew_87 : decode cX4_multiplyFew 87 = .ok (.imul, 1) := by decide +kernel
theorem dX4_multiplyFew_88 : decode cX4_multiplyFew 88 = .ok (.invokevirtual 190, 3) := by decide +kernel
theorem dX4_multiplyFew_91 : decode cX4_multiplyFew 91 = .ok (.goto 54, 3) := by decide +kernel
theorem dX4_multiplyFew_94 : decode cX4_multiplyFew 94 = .ok (.aload_n 0, 1) := by decide +kernel
theorem dX4_multiplyFew_95 : decode cX4_multiplyFew 95 = .ok (.getfield 25, 3) := by decide +kernel
theorem dX4_multiplyFew_98 : decode cX4_multiplyFew 98 = .ok (.aload_n 0, 1) := by decide +kernel
theorem dX4_multiplyFew_99 : decode cX4_multiplyFew 99 = .ok (.getfield 16, 3) := by decide +kernel
theorem dX4_multiplyFew_102 : decode cX4_multiplyFew 102 = .ok (.iload_n 2, 1) := by decide +kernel
theorem dX4_multiplyFew_103 : decode cX4_multiplyFew 103 = .ok (.invokevirtual 183, 3) := by decide +kernel
theorem dX4_multiplyFew_106 : decode cX4_multiplyFew 106 = .ok (.aload_n 0, 1) := by decide +kernel
theorem dX4_multiplyFew_107 : decode cX4_multiplyFew 107 = .ok (.getfield 16, 3) := by decide +kernel
theorem dX4_multiplyFew_110 : decode cX4_multiplyFew 110 = .ok (.iload_n 3, 1) := by decide +kernel
theorem dX4_multiplyFew_111 : decode cX4_multiplyFew 111 = .ok (.invokevirtual 183, 3) := by decide +kernel
theorem dX4_multiplyFew_114 : decode cX4_multiplyFew 114 = .ok (.imul, 1) := by decide +kernel
theorem dX4_multiplyFew_115 : decode cX4_multiplyFew 115 = .ok (.invokevirtual 190, 3) := by decide +kernel
theorem dX4_multiplyFew_118 : decode cX4_multiplyFew 118 = .ok (.goto 27, 3) := by decide +kernel
theorem dX4_multiplyFew_121 : decode cX4_multiplyFew 121 = .ok (.aload_n 0, 1) := by decide +kernel
theorem dX4_multiplyFew_122 : decode cX4_multiplyFew 122 = .ok (.getfield 25, 3) := by decide +kernel
theorem dX4_multiplyFew_125 : decode cX4_multiplyFew 125 = .ok (.aload_n 0, 1) := by decide +kernel
theorem dX4_multiplyFew_126 : decode cX4_multiplyFew 126 = .ok (.getfield 16, 3) := by decide +kernel
theorem dX4_multiplyFew_129 : decode cX4_multiplyFew 129 = .ok (.iload_n 2, 1) := by decide +kernel
theorem dX4_multiplyFew_130 : decode cX4_multiplyFew 130 = .ok (.invokevirtual 183, 3) := by decide +kernel
theorem dX4_multiplyFew_133 : decode cX4_multiplyFew 133 = .ok (.aload_n 0, 1) := by decide +kernel
theorem dX4_multiplyFew_134 : decode cX4_multiplyFew 134 = .ok (.getfield 16, 3) := by decide +kernel
theorem dX4_multiplyFew_137 : decode cX4_multiplyFew 137 = .ok (.iload_n 3, 1) := by decide +kernel
theorem dX4_multiplyFew_138 : decode cX4_multiplyFew 138 = .ok (.invokevirtual 55, 3) := by decide +kernel
theorem dX4_multiplyFew_141 : decode cX4_multiplyFew 141 = .ok (.imul, 1) := by decide +kernel
theorem dX4_multiplyFew_142 : decode cX4_multiplyFew 142 = .ok (.invokevirtual 190, 3) := by decide +kernel
theorem dX4_multiplyFew_145 : decode cX4_multiplyFew 145 = .ok (.return_, 1) := by decide +kernel
set_option maxRecDepth 20000 in
theorem ggX4_combine_X3_d : GoodIn wsX4_combine wsX3_d := goodIn_r _ [6] (by decide +kernel) (by decide +kernel)
set_option maxRecDepth 20000 in
theorem gX4_combine_X3_d : GoodIn wsX4_combine (va_wsS RX4 173 yX3_d wsX3_d) := goodIn_app (goodIn_of _ (by decide +kernel)) ggX4_combine_X3_d
set_option maxRecDepth 20000 in
theorem ggX4_combine_X0_get : GoodIn wsX4_combine wsX0_get := goodIn_r _ [11, 12, 85] (by decide +kernel) (by decide +kernel)
set_option maxRecDepth 20000 in
theorem gX4_combine_X0_get : GoodIn wsX4_combine (wsV RX4 55 RX0 yX0_get wsX0_get) := goodIn_app (goodIn_of _ (by decide +kernel)) ggX4_combine_X0_get
set_option maxRecDepth 20000 in
theorem ggX4_combine_X3_r : GoodIn wsX4_combine wsX3_r := goodIn_r _ [15] (by decide +kernel) (by decide +kernel)
set_option maxRecDepth 20000 in
theorem gX4_combine_X3_r : GoodIn wsX4_combine (va_wsS RX4 176 yX3_r wsX3_r) := goodIn_app (goodIn_of _ (by decide +kernel)) ggX4_combine_X3_r
set_option maxRecDepth 20000 in
theorem ggX4_combine_X0_flag : GoodIn wsX4_combine wsX0_flag := goodIn_r _ [19, 12, 85] (by decide +kernel) (by decide +kernel)
set_option maxRecDepth 20000 in
theorem gX4_combine_X0_flag : GoodIn wsX4_combine (wsV RX4 80 RX0 yX0_flag wsX0_flag) := goodIn_app (goodIn_of _ (by decide +kernel)) ggX4_combine_X0_flag
set_option maxRecDepth 20000 in
theorem ggX4_combine_X2_differenceOn : GoodIn wsX4_combine wsX2_differenceOn := goodIn_r _ [24, 25, 26, 17, 18, 10, 19, 12, 27, 28, 29, 23, 30, 31, 32, 33, 34, 35, 36, 37, 86, 85] (by decide +kernel) (by decide +kernel)
set_option maxRecDepth 20000 in
theorem gX4_combine_X2_differenceOn : GoodIn wsX4_combine (wsV RX4 193 RX2 yX2_differenceOn wsX2_differenceOn) := goodIn_app (goodIn_of _ (by decide +kernel)) ggX4_combine_X2_differenceOn
set_option maxRecDepth 20000 in
theorem ggX4_combine_X0_set : GoodIn wsX4_combine wsX0_set := goodIn_r _ [41, 12, 85] (by decide +kernel) (by decide +kernel)
set_option maxRecDepth 20000 in
theorem gX4_combine_X0_set : GoodIn wsX4_combine (wsV RX4 58 RX0 yX0_set wsX0_set) := goodIn_app (goodIn_of _ (by decide +kernel)) ggX4_combine_X0_set
set_option maxRecDepth 20000 in
theorem ggX4_combine_X2_sum : GoodIn wsX4_combine wsX2_sum := goodIn_r _ [45, 25, 31, 32, 23, 33, 34, 35, 36, 10, 37, 12, 86, 85] (by decide +kernel) (by decide +kernel)
set_option maxRecDepth 20000 in
theorem gX4_combine_X2_sum : GoodIn wsX4_combine (wsV RX4 197 RX2 yX2_sum wsX2_sum) := goodIn_app (goodIn_of _ (by decide +kernel)) ggX4_combine_X2_sum
set_option maxRecDepth 20000 in
theorem ggX4_combine_X4_skip : GoodIn wsX4_combine wsX4_skip := goodIn_r _ [50, 51, 52, 53, 54, 55, 49, 56, 57, 58, 59, 60, 61, 62, 63, 5, 64, 65, 66, 67, 68, 77, 78, 79, 80, 81, 82, 83, 84] (by decide +kernel) (by decide +kernel)
set_option maxRecDepth 20000 in
theorem gX4_combine_X4_skip : GoodIn wsX4_combine (wsV RX4 200 RX4 yX4_skip wsX4_skip) := goodIn_app (goodIn_of _ (by decide +kernel)) ggX4_combine_X4_skip
set_option maxRecDepth 20000 in
theorem ggX4_combine_X2_difference : GoodIn wsX4_combine wsX2_difference := goodIn_r _ [72, 27, 28, 29, 23, 30, 25, 31, 32, 33, 34, 35, 36, 10, 37, 12, 86, 85] (by decide +kernel) (by decide +kernel)
set_option maxRecDepth 20000 in
theorem gX4_combine_X2_difference : GoodIn wsX4_combine (wsV RX4 204 RX2 yX2_difference wsX2_difference) := goodIn_app (goodIn_of _ (by decide +kernel)) ggX4_combine_X2_difference
set_option maxRecDepth 20000 in
theorem ggX4_combine_X2_logic : GoodIn wsX4_combine wsX2_logic := goodIn_r _ [76, 25, 31, 32, 23, 33, 34, 35, 36, 10, 37, 12, 86, 85] (by decide +kernel) (by decide +kernel)
set_option maxRecDepth 20000 in
theorem gX4_combine_X2_logic : GoodIn wsX4_combine (wsV RX4 208 RX2 yX2_logic wsX2_logic) := goodIn_app (goodIn_of _ (by decide +kernel)) ggX4_combine_X2_logic
set_option maxRecDepth 20000 in
theorem ggX4_combine_X4_onward : GoodIn wsX4_combine wsX4_onward := goodIn_r _ [56, 51, 77, 78, 79, 80, 81, 82, 83, 84] (by decide +kernel) (by decide +kernel)
set_option maxRecDepth 20000 in
theorem gX4_combine_X4_onward : GoodIn wsX4_combine (wsV RX4 102 RX4 yX4_onward wsX4_onward) := goodIn_app (goodIn_of _ (by decide +kernel)) ggX4_combine_X4_onward
theorem dX4_combine_0 : decode cX4_combine 0 = .ok (.iload_n 1, 1) := by decide +kernel
theorem dX4_combine_1 : decode cX4_combine 1 = .ok (.invokestatic 173, 3) := by decide +kernel
theorem dX4_combine_4 : decode cX4_combine 4 = .ok (.istore_n 2, 1) := by decide +kernel
theorem dX4_combine_5 : decode cX4_combine 5 = .ok (.aload_n 0, 1) := by decide +kernel
theorem dX4_combine_6 : decode cX4_combine 6 = .ok (.getfield 16, 3) := by decide +kernel
theorem dX4_combine_9 : decode cX4_combine 9 = .ok (.iload_n 2, 1) := by decide +kernel
theorem dX4_combine_10 : decode cX4_combine 10 = .ok (.invokevirtual 55, 3) := by decide +kernel
theorem dX4_combine_13 : decode cX4_combine 13 = .ok (.istore_n 3, 1) := by decide +kernel
theorem dX4_combine_14 : decode cX4_combine 14 = .ok (.aload_n 0, 1) := by decide +kernel
theorem dX4_combine_15 : decode cX4_combine 15 = .ok (.getfield 16, 3) := by decide +kernel
theorem dX4_combine_18 : decode cX4_combine 18 = .ok (.iload_n 1, 1) := by decide +kernel
theorem dX4_combine_19 : decode cX4_combine 19 = .ok (.invokestatic 176, 3) := by decide +kernel
theorem dX4_combine_22 : decode cX4_combine 22 = .ok (.invokevirtual 55, 3) := by decide +kernel
theorem dX4_combine_25 : decode cX4_combine 25 = .ok (.istore 4, 2) := by decide +kernel
theorem dX4_combine_27 : decode cX4_combine 27 = .ok (.aload_n 0, 1) := by decide +kernel
theorem dX4_combine_28 : decode cX4_combine 28 = .ok (.getfield 16, 3) := by decide +kernel
theorem dX4_combine_31 : decode cX4_combine 31 = .ok (.iconst 0, 1) := by decide +kernel
theorem dX4_combine_32 : decode cX4_combine 32 = .ok (.invokevirtual 80, 3) := by decide +kernel
theorem dX4_combine_35 : decode cX4_combine 35 = .ok (.istore 5, 2) := by decide +kernel
theorem dX4_combine_37 : decode cX4_combine 37 = .ok (.iload_n 1, 1) := by decide +kernel
theorem dX4_combine_38 : decode cX4_combine 38 = .ok (.bipush 10, 2) := by decide +kernel
theorem dX4_combine_40 : decode cX4_combine 40 = .ok (.ishr, 1) := by decide +kernel
theorem dX4_combine_41 : decode cX4_combine 41 = .ok (.tableswitch 256 1 10 #[55, 71, 94, 116, 132, 146, 167, 190, 212, 234], 55) := by decide +kernel
theorem dX4_combine_96 : decode cX4_combine 96 = .ok (.aload_n 0, 1) := by decide +kernel
theorem dX4_combine_97 : decode cX4_combine 97 = .ok (.getfield 25, 3) := by decide +kernel
theorem dX4_combine_100 : decode cX4_combine 100 = .ok (.iload_n 3, 1) := by decide +kernel
theorem dX4_combine_101 : decode cX4_combine 101 = .ok (.iload 4, 2) := by decide +kernel
theorem dX4_combine_103 : decode cX4_combine 103 = .ok (.iload 5, 2) := by decide +kernel
theorem dX4_combine_105 : decode cX4_combine 105 = .ok (.invokevirtual 193, 3) := by decide +kernel
theorem dX4_combine_108 : decode cX4_combine 108 = .ok (.pop, 1) := by decide +kernel
theorem dX4_combine_109 : decode cX4_combine 109 = .ok (.goto 198, 3) := by decide +kernel
theorem dX4_combine_112 : decode cX4_combine 112 = .ok (.aload_n 0, 1) := by decide +kernel
theorem dX4_combine_113 : decode cX4_combine 113 = .ok (.getfield 16, 3) := by decide +kernel
theorem dX4_combine_116 : decode cX4_combine 116 = .ok (.iload_n 2, 1) := by decide +kernel
theorem dX4_combine_117 : decode cX4_combine 117 = .ok (.aload_n 0, 1) := by decide +kernel
theorem dX4_combine_118 : decode cX4_combine 118 = .ok (.getfield 25, 3) := by decide +kernel
theorem dX4_combine_121 : decode cX4_combine 121 = .ok (.iload_n 3, 1) := by decide +kernel
theorem dX4_combine_122 : decode cX4_combine 122 = .ok (.iload 4, 2) := by decide +kernel
theorem dX4_combine_124 : decode cX4_combine 124 = .ok (.iload 5, 2) := by decide +kernel
theorem dX4_combine_126 : decode cX4_combine 126 = .ok (.invokevirtual 193, 3) := by decide +kernel
theorem dX4_combine_129 : decode cX4_combine 129 = .ok (.invokevirtual 58, 3) := by decide +kernel
theorem dX4_combine_132 : decode cX4_combine 132 = .ok (.goto 175, 3) := by decide +kernel
theorem dX4_combine_135 : decode cX4_combine 135 = .ok (.aload_n 0, 1) := by decide +kernel
theorem dX4_combine_136 : decode cX4_combine 136 = .ok (.getfield 16, 3) := by decide +kernel
theorem dX4_combine_139 : decode cX4_combine 139 = .ok (.iload_n 2, 1) := by decide +kernel
theorem dX4_combine_140 : decode cX4_combine 140 = .ok (.aload_n 0, 1) := by decide +kernel
theorem dX4_combine_141 : decode cX4_combine 141 = .ok (.getfield 25, 3) := by decide +kernel
theorem dX4_combine_144 : decode cX4_combine 144 = .ok (.iload_n 3, 1) := by decide +kernel
theorem dX4_combine_145 : decode cX4_combine 145 = .ok (.iload 4, 2) := by decide +kernel
theorem dX4_combine_147 : decode cX4_combine 147 = .ok (.iconst 0, 1) := by decide +kernel
theorem dX4_combine_148 : decode cX4_combine 148 = .ok (.invokevirtual 197, 3) := by decide +kernel
theorem dX4_combine_151 : decode cX4_combine 151 = .ok (.invokevirtual 58, 3) := by decide +kernel
theorem dX4_combine_154 : decode cX4_combine 154 = .ok (.goto 153, 3) := by decide +kernel
theorem dX4_combine_157 : decode cX4_combine 157 = .ok (.aload_n 0, 1) := by decide +kernel
theorem dX4_combine_158 : decode cX4_combine 158 = .ok (.iload_n 3, 1) := by decide +kernel
theorem dX4_combine_159 : decode cX4_combine 159 = .ok (.iload 4, 2) := by decide +kernel
theorem dX4_combine_161 : decode cX4_combine 161 = .ok (.if_icmp .ne 7, 3) := by decide +kernel
theorem dX4_combine_164 : decode cX4_combine 164 = .ok (.iconst 1, 1) := by decide +kernel
theorem dX4_combine_165 : decode cX4_combine 165 = .ok (.goto 4, 3) := by decide +kernel
theorem dX4_combine_168 : decode cX4_combine 168 = .ok (.iconst 0, 1) := by decide +kernel
theorem dX4_combine_169 : decode cX4_combine 169 = .ok (.invokevirtual 200, 3) := by decide +kernel
theorem dX4_combine_172 : decode cX4_combine 172 = .ok (.ireturn, 1) := by decide +kernel
theorem dX4_combine_173 : decode cX4_combine 173 = .ok (.aload_n 0, 1) := by decide +kernel
theorem dX4_combine_174 : decode cX4_combine 174 = .ok (.getfield 25, 3) := by decide +kernel
theorem dX4_combine_177 : decode cX4_combine 177 = .ok (.iload_n 3, 1) := by decide +kernel
theorem dX4_combine_178 : decode cX4_combine 178 = .ok (.iload 4, 2) := by decide +kernel
theorem dX4_combine_180 : decode cX4_combine 180 = .ok (.invokevirtual 204, 3) := by decide +kernel
theorem dX4_combine_183 : decode cX4_combine 183 = .ok (.pop, 1) := by decide +kernel
theorem dX4_combine_184 : decode cX4_combine 184 = .ok (.goto 123, 3) := by decide +kernel
theorem dX4_combine_187 : decode cX4_combine 187 = .ok (.aload_n 0, 1) := by decide +kernel
theorem dX4_combine_188 : decode cX4_combine 188 = .ok (.getfield 16, 3) := by decide +kernel
theorem dX4_combine_191 : decode cX4_combine 191 = .ok (.iload_n 2, 1) := by decide +kernel
theorem dX4_combine_192 : decode cX4_combine 192 = .ok (.aload_n 0, 1) := by decide +kernel
theorem dX4_combine_193 : decode cX4_combine 193 = .ok (.getfield 25, 3) := by decide +kernel
theorem dX4_combine_196 : decode cX4_combine 196 = .ok (.iload_n 3, 1) := by decide +kernel
theorem dX4_combine_197 : decode cX4_combine 197 = .ok (.iload 4, 2) := by decide +kernel
theorem dX4_combine_199 : decode cX4_combine 199 = .ok (.invokevirtual 204, 3) := by decide +kernel
theorem dX4_combine_202 : decode cX4_combine 202 = .ok (.invokevirtual 58, 3) := by decide +kernel
theorem dX4_combine_205 : decode cX4_combine 205 = .ok (.goto 102, 3) := by decide +kernel
theorem dX4_combine_208 : decode cX4_combine 208 = .ok (.aload_n 0, 1) := by decide +kernel
theorem dX4_combine_209 : decode cX4_combine 209 = .ok (.getfield 16, 3) := by decide +kernel
theorem dX4_combine_212 : decode cX4_combine 212 = .ok (.iload_n 2, 1) := by decide +kernel
theorem dX4_combine_213 : decode cX4_combine 213 = .ok (.aload_n 0, 1) := by decide +kernel
theorem dX4_combine_214 : decode cX4_combine 214 = .ok (.getfield 25, 3) := by decide +kernel
theorem dX4_combine_217 : decode cX4_combine 217 = .ok (.iload_n 3, 1) := by decide +kernel
theorem dX4_combine_218 : decode cX4_combine 218 = .ok (.iload 4, 2) := by decide +kernel
theorem dX4_combine_220 : decode cX4_combine 220 = .ok (.iload 5, 2) := by decide +kernel
theorem dX4_combine_222 : decode cX4_combine 222 = .ok (.invokevirtual 197, 3) := by decide +kernel
theorem dX4_combine_225 : decode cX4_combine 225 = .ok (.invokevirtual 58, 3) := by decide +kernel
theorem dX4_combine_228 : decode cX4_combine 228 = .ok (.goto 79, 3) := by decide +kernel
theorem dX4_combine_231 : decode cX4_combine 231 = .ok (.aload_n 0, 1) := by decide +kernel
theorem dX4_combine_232 : decode cX4_combine 232 = .ok (.getfield 16, 3) := by decide +kernel
theorem dX4_combine_235 : decode cX4_combine 235 = .ok (.iload_n 2, 1) := by decide +kernel
theorem dX4_combine_236 : decode cX4_combine 236 = .ok (.aload_n 0, 1) := by decide +kernel
theorem dX4_combine_237 : decode cX4_combine 237 = .ok (.getfield 25, 3) := by decide +kernel
theorem dX4_combine_240 : decode cX4_combine 240 = .ok (.iload_n 3, 1) := by decide +kernel
theorem dX4_combine_241 : decode cX4_combine 241 = .ok (.iload 4, 2) := by decide +kernel
theorem dX4_combine_243 : decode cX4_combine 243 = .ok (.iand, 1) := by decide +kernel
theorem dX4_combine_244 : decode cX4_combine 244 = .ok (.invokevirtual 208, 3) := by decide +kernel
theorem dX4_combine_247 : decode cX4_combine 247 = .ok (.invokevirtual 58, 3) := by decide +kernel
theorem dX4_combine_250 : decode cX4_combine 250 = .ok (.goto 57, 3) := by decide +kernel
theorem dX4_combine_253 : decode cX4_combine 253 = .ok (.aload_n 0, 1) := by decide +kernel
theorem dX4_combine_254 : decode cX4_combine 254 = .ok (.getfield 16, 3) := by decide +kernel
theorem dX4_combine_257 : decode cX4_combine 257 = .ok (.iload_n 2, 1) := by decide +kernel
theorem dX4_combine_258 : decode cX4_combine 258 = .ok (.aload_n 0, 1) := by decide +kernel
theorem dX4_combine_259 : decode cX4_combine 259 = .ok (.getfield 25, 3) := by decide +kernel
theorem dX4_combine_262 : decode cX4_combine 262 = .ok (.iload_n 3, 1) := by decide +kernel
theorem dX4_combine_263 : decode cX4_combine 263 = .ok (.iload 4, 2) := by decide +kernel
theorem dX4_combine_265 : decode cX4_combine 265 = .ok (.ixor, 1) := by decide +kernel
theorem dX4_combine_266 : decode cX4_combine 266 = .ok (.invokevirtual 208, 3) := by decide +kernel
theorem dX4_combine_269 : decode cX4_combine 269 = .ok (.invokevirtual 58, 3) := by decide +kernel
theorem dX4_combine_272 : decode cX4_combine 272 = .ok (.goto 35, 3) := by decide +kernel
theorem dX4_combine_275 : decode cX4_combine 275 = .ok (.aload_n 0, 1) := by decide +kernel
theorem dX4_combine_276 : decode cX4_combine 276 = .ok (.getfield 16, 3) := by decide +kernel
theorem dX4_combine_279 : decode cX4_combine 279 = .ok (.iload_n 2, 1) := by decide +kernel
theorem dX4_combine_280 : decode cX4_combine 280 = .ok (.aload_n 0, 1) := by decide +kernel
theorem dX4_combine_281 : decode cX4_combine 281 = .ok (.getfield 25, 3) := by decide +kernel
theorem dX4_combine_284 : decode cX4_combine 284 = .ok (.iload_n 3, 1) := by decide +kernel
theorem dX4_combine_285 : decode cX4_combine 285 = .ok (.iload 4, 2) := by decide +kernel
theorem dX4_combine_287 : decode cX4_combine 287 = .ok (.ior, 1) := by decide +kernel
theorem dX4_combine_288 : decode cX4_combine 288 = .ok (.invokevirtual 208, 3) := by decide +kernel
theorem dX4_combine_291 : decode cX4_combine 291 = .ok (.invokevirtual 58, 3) := by decide +kernel
theorem dX4_combine_294 : decode cX4_combine 294 = .ok (.goto 13, 3) := by decide +kernel
theorem dX4_combine_297 : decode cX4_combine 297 = .ok (.aload_n 0, 1) := by decide +kernel
theorem dX4_combine_298 : decode cX4_combine 298 = .ok (.getfield 16, 3) := by decide +kernel
theorem dX4_combine_301 : decode cX4_combine 301 = .ok (.iload_n 2, 1) := by decide +kernel
theorem dX4_combine_302 : decode cX4_combine 302 = .ok (.iload 4, 2) := by decide +kernel
theorem dX4_combine_304 : decode cX4_combine 304 = .ok (.invokevirtual 58, 3) := by decide +kernel
theorem dX4_combine_307 : decode cX4_combine 307 = .ok (.aload_n 0, 1) := by decide +kernel
theorem dX4_combine_308 : decode cX4_combine 308 = .ok (.iconst 1, 1) := by decide +kernel
theorem dX4_combine_309 : decode cX4_combine 309 = .ok (.invokevirtual 102, 3) := by decide +kernel
theorem dX4_combine_312 : decode cX4_combine 312 = .ok (.ireturn, 1) := by decide +kernel
set_option maxRecDepth 20000 in
theorem ggX4_combineWithNumber_X0_get : GoodIn wsX4_combineWithNumber wsX0_get := goodIn_r _ [7, 8, 57] (by decide +kernel) (by decide +kernel)
set_option maxRecDepth 20000 in
theorem gX4_combineWithNumber_X0_get : GoodIn wsX4_combineWithNumber (wsV RX4 55 RX0 yX0_get wsX0_get) := goodIn_app (goodIn_of _ (by decide +kernel)) ggX4_combineWithNumber_X0_get
set_option maxRecDepth 20000 in
theorem ggX4_combineWithNumber_X2_difference : GoodIn wsX4_combineWithNumber wsX2_difference := goodIn_r _ [13, 14, 15, 16, 12, 17, 18, 19, 20, 21, 22, 23, 24, 6, 25, 8, 58, 57] (by decide +kernel) (by decide +kernel)
set_option maxRecDepth 20000 in
theorem gX4_combineWithNumber_X2_difference : GoodIn wsX4_combineWithNumber (wsV RX4 204 RX2 yX2_difference wsX2_difference) := goodIn_app (goodIn_of _ (by decide +kernel)) ggX4_combineWithNumber_X2_difference
set_option maxRecDepth 20000 in
theorem ggX4_combineWithNumber_X0_flag : GoodIn wsX4_combineWithNumber wsX0_flag := goodIn_r _ [29, 8, 57] (by decide +kernel) (by decide +kernel)
set_option maxRecDepth 20000 in
theorem gX4_combineWithNumber_X0_flag : GoodIn wsX4_combineWithNumber (wsV RX4 80 RX0 yX0_flag wsX0_flag) := goodIn_app (goodIn_of _ (by decide +kernel)) ggX4_combineWithNumber_X0_flag
set_option maxRecDepth 20000 in
theorem ggX4_combineWithNumber_X2_differenceOn : GoodIn wsX4_combineWithNumber wsX2_differenceOn := goodIn_r _ [33, 18, 34, 27, 28, 6, 29, 8, 14, 15, 16, 12, 17, 19, 20, 21, 22, 23, 24, 25, 58, 57] (by decide +kernel) (by decide +kernel)
set_option maxRecDepth 20000 in
theorem gX4_combineWithNumber_X2_differenceOn : GoodIn wsX4_combineWithNumber (wsV RX4 193 RX2 yX2_differenceOn wsX2_differenceOn) := goodIn_app (goodIn_of _ (by decide +kernel)) ggX4_combineWithNumber_X2_differenceOn
set_option maxRecDepth 20000 in
theorem ggX4_combineWithNumber_X0_set : GoodIn wsX4_combineWithNumber wsX0_set := goodIn_r _ [38, 8, 57] (by decide +kernel) (by decide +kernel)
set_option maxRecDepth 20000 in
theorem gX4_combineWithNumber_X0_set : GoodIn wsX4_combineWithNumber (wsV RX4 58 RX0 yX0_set wsX0_set) := goodIn_app (goodIn_of _ (by decide +kernel)) ggX4_combineWithNumber_X0_set
set_option maxRecDepth 20000 in
theorem ggX4_combineWithNumber_X2_logic : GoodIn wsX4_combineWithNumber wsX2_logic := goodIn_r _ [42, 18, 19, 20, 12, 21, 22, 23, 24, 6, 25, 8, 58, 57] (by decide +kernel) (by decide +kernel)
set_option maxRecDepth 20000 in
theorem gX4_combineWithNumber_X2_logic : GoodIn wsX4_combineWithNumber (wsV RX4 208 RX2 yX2_logic wsX2_logic) := goodIn_app (goodIn_of _ (by decide +kernel)) ggX4_combineWithNumber_X2_logic
set_option maxRecDepth 20000 in
theorem ggX4_combineWithNumber_X4_onward : GoodIn wsX4_combineWithNumber wsX4_onward := goodIn_r _ [47, 48, 49, 50, 51, 52, 53, 54, 55, 56] (by decide +kernel) (by decide +kernel)
set_option maxRecDepth 20000 in
theorem gX4_combineWithNumber_X4_onward : GoodIn wsX4_combineWithNumber (wsV RX4 102 RX4 yX4_onward wsX4_onward) := goodIn_app (goodIn_of _ (by decide +kernel)) ggX4_combineWithNumber_X4_onward
theorem dX4_combineWithNumber_0 : decode cX4_combineWithNumber 0 = .ok (.bipush 16, 2) := by decide +kernel
theorem dX4_combineWithNumber_2 : decode cX4_combineWithNumber 2 = .ok (.iload_n 1, 1) := by decide +kernel
theorem dX4_combineWithNumber_3 : decode cX4_combineWithNumber 3 = .ok (.iconst 4, 1) := by decide +kernel
theorem dX4_combineWithNumber_4 : decode cX4_combineWithNumber 4 = .ok (.ishr, 1) := by decide +kernel
theorem dX4_combineWithNumber_5 : decode cX4_combineWithNumber 5 = .ok (.bipush 15, 2) := by decide +kernel
theorem dX4_combineWithNumber_7 : decode cX4_combineWithNumber 7 = .ok (.iand, 1) := by decide +kernel
theorem dX4_combineWithNumber_8 : decode cX4_combineWithNumber 8 = .ok (.iadd, 1) := by decide +kernel
theorem dX4_combineWithNumber_9 : decode cX4_combineWithNumber 9 = .ok (.istore_n 2, 1) := by decide +kernel
theorem dX4_combineWithNumber_10 : decode cX4_combineWithNumber 10 = .ok (.aload_n 0, 1) := by decide +kernel
theorem dX4_combineWithNumber_11 : decode cX4_combineWithNumber 11 = .ok (.getfield 16, 3) := by decide +kernel
theorem dX4_combineWithNumber_14 : decode cX4_combineWithNumber 14 = .ok (.iload_n 2, 1) := by decide +kernel
theorem dX4_combineWithNumber_15 : decode cX4_combineWithNumber 15 = .ok (.invokevirtual 55, 3) := by decide +kernel
theorem dX4_combineWithNumber_18 : decode cX4_combineWithNumber 18 = .ok (.istore_n 3, 1) := by decide +kernel
theorem dX4_combineWithNumber_19 : decode cX4_combineWithNumber 19 = .ok (.iload_n 1, 1) := by decide +kernel
theorem dX4_combineWithNumber_20 : decode cX4_combineWithNumber 20 = .ok (.iconst 4, 1) := by decide +kernel
theorem dX4_combineWithNumber_21 : decode cX4_combineWithNumber 21 = .ok (.ishr, 1) := by decide +kernel
theorem dX4_combineWithNumber_22 : decode cX4_combineWithNumber 22 = .ok (.sipush 240, 3) := by decide +kernel
theorem dX4_combineWithNumber_25 : decode cX4_combineWithNumber 25 = .ok (.iand, 1) := by decide +kernel
theorem dX4_combineWithNumber_26 : decode cX4_combineWithNumber 26 = .ok (.iload_n 1, 1) := by decide +kernel
theorem dX4_combineWithNumber_27 : decode cX4_combineWithNumber 27 = .ok (.bipush 15, 2) := by decide +kernel
theorem dX4_combineWithNumber_29 : decode cX4_combineWithNumber 29 = .ok (.iand, 1) := by decide +kernel
theorem dX4_combineWithNumber_30 : decode cX4_combineWithNumber 30 = .ok (.ior, 1) := by decide +kernel
theorem dX4_combineWithNumber_31 : decode cX4_combineWithNumber 31 = .ok (.istore 4, 2) := by decide +kernel
theorem dX4_combineWithNumber_33 : decode cX4_combineWithNumber 33 = .ok (.iload_n 1, 1) := by decide +kernel
theorem dX4_combineWithNumber_34 : decode cX4_combineWithNumber 34 = .ok (.bipush 12, 2) := by decide +kernel
theorem dX4_combineWithNumber_36 : decode cX4_combineWithNumber 36 = .ok (.ishr, 1) := by decide +kernel
theorem dX4_combineWithNumber_37 : decode cX4_combineWithNumber 37 = .ok (.tableswitch 143 3 7 #[35, 49, 78, 99, 121], 35) := by decide +kernel
theorem dX4_combineWithNumber_72 : decode cX4_combineWithNumber 72 = .ok (.aload_n 0, 1) := by decide +kernel
theorem dX4_combineWithNumber_73 : decode cX4_combineWithNumber 73 = .ok (.getfield 25, 3) := by decide +kernel
theorem dX4_combineWithNumber_76 : decode cX4_combineWithNumber 76 = .ok (.iload_n 3, 1) := by decide +kernel
theorem dX4_combineWithNumber_77 : decode cX4_combineWithNumber 77 = .ok (.iload 4, 2) := by decide +kernel
theorem dX4_combineWithNumber_79 : decode cX4_combineWithNumber 79 = .ok (.invokevirtual 204, 3) := by decide +kernel
theorem dX4_combineWithNumber_82 : decode cX4_combineWithNumber 82 = .ok (.pop, 1) := by decide +kernel
theorem dX4_combineWithNumber_83 : decode cX4_combineWithNumber 83 = .ok (.goto 107, 3) := by decide +kernel
theorem dX4_combineWithNumber_86 : decode cX4_combineWithNumber 86 = .ok (.aload_n 0, 1) := by decide +kernel
theorem dX4_combineWithNumber_87 : decode cX4_combineWithNumber 87 = .ok (.getfield 16, 3) := by decide +kernel
theorem dX4_combineWithNumber_90 : decode cX4_combineWithNumber 90 = .ok (.iload_n 2, 1) := by decide +kernel
theorem dX4_combineWithNumber_91 : decode cX4_combineWithNumber 91 = .ok (.aload_n 0, 1) := by decide +kernel
theorem dX4_combineWithNumber_92 : decode cX4_combineWithNumber 92 = .ok (.getfield 25, 3) := by decide +kernel
theorem dX4_combineWithNumber_95 : decode cX4_combineWithNumber 95 = .ok (.iload_n 3, 1) := by decide +kernel
theorem dX4_combineWithNumber_96 : decode cX4_combineWithNumber 96 = .ok (.iload 4, 2) := by decide +kernel
theorem dX4_combineWithNumber_98 : decode cX4_combineWithNumber 98 = .ok (.aload_n 0, 1) := by decide +kernel
theorem dX4_combineWithNumber_99 : decode cX4_combineWithNumber 99 = .ok (.getfield 16, 3) := by decide +kernel
theorem dX4_combineWithNumber_102 : decode cX4_combineWithNumber 102 = .ok (.iconst 0, 1) := by decide +kernel
theorem dX4_combineWithNumber_103 : decode cX4_combineWithNumber 103 = .ok (.invokevirtual 80, 3) := by decide +kernel
theorem dX4_combineWithNumber_106 : decode cX4_combineWithNumber 106 = .ok (.invokevirtual 193, 3) := by decide +kernel
theorem dX4_combineWithNumber_109 : decode cX4_combineWithNumber 109 = .ok (.invokevirtual 58, 3) := by decide +kernel
theorem dX4_combineWithNumber_112 : decode cX4_combineWithNumber 112 = .ok (.goto 78, 3) := by decide +kernel
theorem dX4_combineWithNumber_115 : decode cX4_combineWithNumber 115 = .ok (.aload_n 0, 1) := by decide +kernel
theorem dX4_combineWithNumber_116 : decode cX4_combineWithNumber 116 = .ok (.getfield 16, 3) := by decide +kernel
theorem dX4_combineWithNumber_119 : decode cX4_combineWithNumber 119 = .ok (.iload_n 2, 1) := by decide +kernel
theorem dX4_combineWithNumber_120 : decode cX4_combineWithNumber 120 = .ok (.aload_n 0, 1) := by decide +kernel
theorem dX4_combineWithNumber_121 : decode cX4_combineWithNumber 121 = .ok (.getfield 25, 3) := by decide +kernel
theorem dX4_combineWithNumber_124 : decode cX4_combineWithNumber 124 = .ok (.iload_n 3, 1) := by decide +kernel
theorem dX4_combineWithNumber_125 : decode cX4_combineWithNumber 125 = .ok (.iload 4, 2) := by decide +kernel
theorem dX4_combineWithNumber_127 : decode cX4_combineWithNumber 127 = .ok (.invokevirtual 204, 3) := by decide +kernel
theorem dX4_combineWithNumber_130 : decode cX4_combineWithNumber 130 = .ok (.invokevirtual 58, 3) := by decide +kernel
theorem dX4_combineWithNumber_133 : decode cX4_combineWithNumber 133 = .ok (.goto 57, 3) := by decide +kernel
theorem dX4_combineWithNumber_136 : decode cX4_combineWithNumber 136 = .ok (.aload_n 0, 1) := by decide +kernel
theorem dX4_combineWithNumber_137 : decode cX4_combineWithNumber 137 = .ok (.getfield 16, 3) := by decide +kernel
theorem dX4_combineWithNumber_140 : decode cX4_combineWithNumber 140 = .ok (.iload_n 2, 1) := by decide +kernel
theorem dX4_combineWithNumber_141 : decode cX4_combineWithNumber 141 = .ok (.aload_n 0, 1) := by decide +kernel
theorem dX4_combineWithNumber_142 : decode cX4_combineWithNumber 142 = .ok (.getfield 25, 3) := by decide +kernel
theorem dX4_combineWithNumber_145 : decode cX4_combineWithNumber 145 = .ok (.iload_n 3, 1) := by decide +kernel
theorem dX4_combineWithNumber_146 : decode cX4_combineWithNumber 146 = .ok (.iload 4, 2) := by decide +kernel
theorem dX4_combineWithNumber_148 : decode cX4_combineWithNumber 148 = .ok (.ior, 1) := by decide +kernel
theorem dX4_combineWithNumber_149 : decode cX4_combineWithNumber 149 = .ok (.invokevirtual 208, 3) := by decide +kernel
theorem dX4_combineWithNumber_152 : decode cX4_combineWithNumber 152 = .ok (.invokevirtual 58, 3) := by decide +kernel
theorem dX4_combineWithNumber_155 : decode cX4_combineWithNumber 155 = .ok (.goto 35, 3) := by decide +kernel
theorem dX4_combineWithNumber_158 : decode cX4_combineWithNumber 158 = .ok (.aload_n 0, 1) := by decide +kernel
theorem dX4_combineWithNumber_159 : decode cX4_combineWithNumber 159 = .ok (.getfield 16, 3) := by decide +kernel
theorem dX4_combineWithNumber_162 : decode cX4_combineWithNumber 162 = .ok (.iload_n 2, 1) := by decide +kernel
theorem dX4_combineWithNumber_163 : decode cX4_combineWithNumber 163 = .ok (.aload_n 0, 1) := by decide +kernel
theorem dX4_combineWithNumber_164 : decode cX4_combineWithNumber 164 = .ok (.getfield 25, 3) := by decide +kernel
theorem dX4_combineWithNumber_167 : decode cX4_combineWithNumber 167 = .ok (.iload_n 3, 1) := by decide +kernel
theorem dX4_combineWithNumber_168 : decode cX4_combineWithNumber 168 = .ok (.iload 4, 2) := by decide +kernel
theorem dX4_combineWithNumber_170 : decode cX4_combineWithNumber 170 = .ok (.iand, 1) := by decide +kernel
theorem dX4_combineWithNumber_171 : decode cX4_combineWithNumber 171 = .ok (.invokevirtual 208, 3) := by decide +kernel
theorem dX4_combineWithNumber_174 : decode cX4_combineWithNumber 174 = .ok (.invokevirtual 58, 3) := by decide +kernel
theorem dX4_combineWithNumber_177 : decode cX4_combineWithNumber 177 = .ok (.goto 13, 3) := by decide +kernel
theorem dX4_combineWithNumber_180 : decode cX4_combineWithNumber 180 = .ok (.aload_n 0, 1) := by decide +kernel
theorem dX4_combineWithNumber_181 : decode cX4_combineWithNumber 181 = .ok (.getfield 16, 3) := by decide +kernel
theorem dX4_combineWithNumber_184 : decode cX4_combineWithNumber 184 = .ok (.iload_n 2, 1) := by decide +kernel
theorem dX4_combineWithNumber_185 : decode cX4_combineWithNumber 185 = .ok (.iload 4, 2) := by decide +kernel
theorem dX4_combineWithNumber_187 : decode cX4_combineWithNumber 187 = .ok (.invokevirtual 58, 3) := by decide +kernel
theorem dX4_combineWithNumber_190 : decode cX4_combineWithNumber 190 = .ok (.aload_n 0, 1) := by decide +kernel
theorem dX4_combineWithNumber_191 : decode cX4_combineWithNumber 191 = .ok (.iconst 1, 1) := by decide +kernel
theorem dX4_combineWithNumber_192 : decode cX4_combineWithNumber 192 = .ok (.invokevirtual 102, 3) := by decide +kernel
theorem dX4_combineWithNumber_195 : decode cX4_combineWithNumber 195 = .ok (.ireturn, 1) := by decide +kernel
set_option maxRecDepth 20000 in
theorem ggX4_change_X3_d : GoodIn wsX4_change wsX3_d := goodIn_r _ [6] (by decide +kernel) (by decide +kernel)
set_option maxRecDepth 20000 in
theorem gX4_change_X3_d : GoodIn wsX4_change (va_wsS RX4 173 yX3_d wsX3_d) := goodIn_app (goodIn_of _ (by decide +kernel)) ggX4_change_X3_d
set_option maxRecDepth 20000 in
theorem ggX4_change_X0_get : GoodIn wsX4_change wsX0_get := goodIn_r _ [11, 12, 68] (by decide +kernel) (by decide +kernel)
set_option maxRecDepth 20000 in
theorem gX4_change_X0_get : GoodIn wsX4_change (wsV RX4 55 RX0 yX0_get wsX0_get) := goodIn_app (goodIn_of _ (by decide +kernel)) ggX4_change_X0_get
set_option maxRecDepth 20000 in
theorem ggX4_change_X2_inverse : GoodIn wsX4_change wsX2_inverse := goodIn_r _ [17, 18, 19, 20, 16, 21, 22, 23, 24, 10, 25, 12, 69, 68] (by decide +kernel) (by decide +kernel)
set_option maxRecDepth 20000 in
theorem gX4_change_X2_inverse : GoodIn wsX4_change (wsV RX4 211 RX2 yX2_inverse wsX2_inverse) := goodIn_app (goodIn_of _ (by decide +kernel)) ggX4_change_X2_inverse
set_option maxRecDepth 20000 in
theorem ggX4_change_X0_set : GoodIn wsX4_change wsX0_set := goodIn_r _ [29, 12, 68] (by decide +kernel) (by decide +kernel)
set_option maxRecDepth 20000 in
theorem gX4_change_X0_set : GoodIn wsX4_change (wsV RX4 58 RX0 yX0_set wsX0_set) := goodIn_app (goodIn_of _ (by decide +kernel)) ggX4_change_X0_set
set_option maxRecDepth 20000 in
theorem ggX4_change_X2_difference : GoodIn wsX4_change wsX2_difference := goodIn_r _ [33, 34, 35, 36, 16, 37, 18, 19, 20, 21, 22, 23, 24, 10, 25, 12, 69, 68] (by decide +kernel) (by decide +kernel)
set_option maxRecDepth 20000 in
theorem gX4_change_X2_difference : GoodIn wsX4_change (wsV RX4 204 RX2 yX2_difference wsX2_difference) := goodIn_app (goodIn_of _ (by decide +kernel)) ggX4_change_X2_difference
set_option maxRecDepth 20000 in
theorem ggX4_change_X2_more : GoodIn wsX4_change wsX2_more := goodIn_r _ [41, 18, 19, 20, 16, 21, 22, 23, 24, 10, 25, 12, 69, 68] (by decide +kernel) (by decide +kernel)
set_option maxRecDepth 20000 in
theorem gX4_change_X2_more : GoodIn wsX4_change (wsV RX4 214 RX2 yX2_more wsX2_more) := goodIn_app (goodIn_of _ (by decide +kernel)) ggX4_change_X2_more
set_option maxRecDepth 20000 in
theorem ggX4_change_X2_right : GoodIn wsX4_change wsX2_right := goodIn_r _ [45, 18, 19, 20, 16, 21, 22, 23, 24, 10, 25, 12, 69, 68] (by decide +kernel) (by decide +kernel)
set_option maxRecDepth 20000 in
theorem gX4_change_X2_right : GoodIn wsX4_change (wsV RX4 217 RX2 yX2_right wsX2_right) := goodIn_app (goodIn_of _ (by decide +kernel)) ggX4_change_X2_right
set_option maxRecDepth 20000 in
theorem ggX4_change_X0_flag : GoodIn wsX4_change wsX0_flag := goodIn_r _ [49, 12, 68] (by decide +kernel) (by decide +kernel)
set_option maxRecDepth 20000 in
theorem gX4_change_X0_flag : GoodIn wsX4_change (wsV RX4 80 RX0 yX0_flag wsX0_flag) := goodIn_app (goodIn_of _ (by decide +kernel)) ggX4_change_X0_flag
set_option maxRecDepth 20000 in
theorem ggX4_change_X2_less : GoodIn wsX4_change wsX2_less := goodIn_r _ [53, 18, 19, 20, 16, 21, 22, 23, 24, 10, 25, 12, 69, 68] (by decide +kernel) (by decide +kernel)
set_option maxRecDepth 20000 in
theorem gX4_change_X2_less : GoodIn wsX4_change (wsV RX4 220 RX2 yX2_less wsX2_less) := goodIn_app (goodIn_of _ (by decide +kernel)) ggX4_change_X2_less
set_option maxRecDepth 20000 in
theorem ggX4_change_X4_onward : GoodIn wsX4_change wsX4_onward := goodIn_r _ [58, 59, 60, 61, 62, 63, 64, 65, 66, 67] (by decide +kernel) (by decide +kernel)
set_option maxRecDepth 20000 in
theorem gX4_change_X4_onward : GoodIn wsX4_change (wsV RX4 102 RX4 yX4_onward wsX4_onward) := goodIn_app (goodIn_of _ (by decide +kernel)) ggX4_change_X4_onward
theorem dX4_change_0 : decode cX4_change 0 = .ok (.iload_n 1, 1) := by decide +kernel
theorem dX4_change_1 : decode cX4_change 1 = .ok (.invokestatic 173, 3) := by decide +kernel
theorem dX4_change_4 : decode cX4_change 4 = .ok (.istore_n 2, 1) := by decide +kernel
theorem dX4_change_5 : decode cX4_change 5 = .ok (.aload_n 0, 1) := by decide +kernel
theorem dX4_change_6 : decode cX4_change 6 = .ok (.getfield 16, 3) := by decide +kernel
theorem dX4_change_9 : decode cX4_change 9 = .ok (.iload_n 2, 1) := by decide +kernel
theorem dX4_change_10 : decode cX4_change 10 = .ok (.invokevirtual 55, 3) := by decide +kernel
theorem dX4_change_13 : decode cX4_change 13 = .ok (.istore_n 3, 1) := by decide +kernel
theorem dX4_change_14 : decode cX4_change 14 = .ok (.iload_n 1, 1) := by decide +kernel
theorem dX4_change_15 : decode cX4_change 15 = .ok (.bipush 15, 2) := by decide +kernel
theorem dX4_change_17 : decode cX4_change 17 = .ok (.iand, 1) := by decide +kernel
theorem dX4_change_18 : decode cX4_change 18 = .ok (.tableswitch 192 0 7 #[46, 65, 85, 103, 192, 122, 145, 165], 46) := by decide +kernel
theorem dX4_change_64 : decode cX4_change 64 = .ok (.aload_n 0, 1) := by decide +kernel
theorem dX4_change_65 : decode cX4_change 65 = .ok (.getfield 16, 3) := by decide +kernel
theorem dX4_change_68 : decode cX4_change 68 = .ok (.iload_n 2, 1) := by decide +kernel
theorem dX4_change_69 : decode cX4_change 69 = .ok (.aload_n 0, 1) := by decide +kernel
theorem dX4_change_70 : decode cX4_change 70 = .ok (.getfield 25, 3) := by decide +kernel
theorem dX4_change_73 : decode cX4_change 73 = .ok (.iload_n 3, 1) := by decide +kernel
theorem dX4_change_74 : decode cX4_change 74 = .ok (.invokevirtual 211, 3) := by decide +kernel
theorem dX4_change_77 : decode cX4_change 77 = .ok (.invokevirtual 58, 3) := by decide +kernel
theorem dX4_change_80 : decode cX4_change 80 = .ok (.goto 146, 3) := by decide +kernel
theorem dX4_change_83 : decode cX4_change 83 = .ok (.aload_n 0, 1) := by decide +kernel
theorem dX4_change_84 : decode cX4_change 84 = .ok (.getfield 16, 3) := by decide +kernel
theorem dX4_change_87 : decode cX4_change 87 = .ok (.iload_n 2, 1) := by decide +kernel
theorem dX4_change_88 : decode cX4_change 88 = .ok (.aload_n 0, 1) := by decide +kernel
theorem dX4_change_89 : decode cX4_change 89 = .ok (.getfield 25, 3) := by decide +kernel
theorem dX4_change_92 : decode cX4_change 92 = .ok (.iconst 0, 1) := by decide +kernel
theorem dX4_change_93 : decode cX4_change 93 = .ok (.iload_n 3, 1) := by decide +kernel
theorem dX4_change_94 : decode cX4_change 94 = .ok (.invokevirtual 204, 3) := by decide +kernel
theorem dX4_change_97 : decode cX4_change 97 = .ok (.invokevirtual 58, 3) := by decide +kernel
theorem dX4_change_100 : decode cX4_change 100 = .ok (.goto 126, 3) := by decide +kernel
theorem dX4_change_103 : decode cX4_change 103 = .ok (.aload_n 0, 1) := by decide +kernel
theorem dX4_change_104 : decode cX4_change 104 = .ok (.getfield 16, 3) := by decide +kernel
theorem dX4_change_107 : decode cX4_change 107 = .ok (.iload_n 2, 1) := by decide +kernel
theorem dX4_change_108 : decode cX4_change 108 = .ok (.iload_n 3, 1) := by decide +kernel
theorem dX4_change_109 : decode cX4_change 109 = .ok (.iconst 4, 1) := by decide +kernel
theorem dX4_change_110 : decode cX4_change 110 = .ok (.ishl, 1) := by decide +kernel
theorem dX4_change_111 : decode cX4_change 111 = .ok (.iload_n 3, 1) := by decide +kernel
theorem dX4_change_112 : decode cX4_change 112 = .ok (.iconst 4, 1) := by decide +kernel
theorem dX4_change_113 : decode cX4_change 113 = .ok (.ishr, 1) := by decide +kernel
theorem dX4_change_114 : decode cX4_change 114 = .ok (.ior, 1) := by decide +kernel
theorem dX4_change_115 : decode cX4_change 115 = .ok (.invokevirtual 58, 3) := by decide +kernel
theorem dX4_change_118 : decode cX4_change 118 = .ok (.goto 108, 3) := by decide +kernel
theorem dX4_change_121 : decode cX4_change 121 = .ok (.aload_n 0, 1) := by decide +kernel
theorem dX4_change_122 : decode cX4_change 122 = .ok (.getfield 16, 3) := by decide +kernel
theorem dX4_change_125 : decode cX4_change 125 = .ok (.iload_n 2, 1) := by decide +kernel
theorem dX4_change_126 : decode cX4_change 126 = .ok (.aload_n 0, 1) := by decide +kernel
theorem dX4_change_127 : decode cX4_change 127 = .ok (.getfield 25, 3) := by decide +kernel
theorem dX4_change_130 : decode cX4_change 130 = .ok (.iload_n 3, 1) := by decide +kernel
theorem dX4_change_131 : decode cX4_change 131 = .ok (.invokevirtual 214, 3) := by decide +kernel
theorem dX4_change_134 : decode cX4_change 134 = .ok (.invokevirtual 58, 3) := by decide +kernel
theorem dX4_change_137 : decode cX4_change 137 = .ok (.goto 89, 3) := by decide +kernel
theorem dX4_change_140 : decode cX4_change 140 = .ok (.aload_n 0, 1) := by decide +kernel
theorem dX4_change_141 : decode cX4_change 141 = .ok (.getfield 16, 3) := by decide +kernel
theorem dX4_change_144 : decode cX4_change 144 = .ok (.iload_n 2, 1) := by decide +kernel
theorem dX4_change_145 : decode cX4_change 145 = .ok (.aload_n 0, 1) := by decide +kernel
theorem dX4_change_146 : decode cX4_change 146 = .ok (.getfield 25, 3) := by decide +kernel
theorem dX4_change_149 : decode cX4_change 149 = .ok (.iload_n 3, 1) := by decide +kernel
theorem dX4_change_150 : decode cX4_change 150 = .ok (.iload_n 3, 1) := by decide +kernel
theorem dX4_change_151 : decode cX4_change 151 = .ok (.bipush 7, 2) := by decide +kernel
theorem dX4_change_153 : decode cX4_change 153 = .ok (.ishr, 1) := by decide +kernel
theorem dX4_change_154 : decode cX4_change 154 = .ok (.invokevirtual 217, 3) := by decide +kernel
theorem dX4_change_157 : decode cX4_change 157 = .ok (.invokevirtual 58, 3) := by decide +kernel
theorem dX4_change_160 : decode cX4_change 160 = .ok (.goto 66, 3) := by decide +kernel
theorem dX4_change_163 : decode cX4_change 163 = .ok (.aload_n 0, 1) := by decide +kernel
theorem dX4_change_164 : decode cX4_change 164 = .ok (.getfield 16, 3) := by decide +kernel
theorem dX4_change_167 : decode cX4_change 167 = .ok (.iload_n 2, 1) := by decide +kernel
theorem dX4_change_168 : decode cX4_change 168 = .ok (.aload_n 0, 1) := by decide +kernel
theorem dX4_change_169 : decode cX4_change 169 = .ok (.getfield 25, 3) := by decide +kernel
theorem dX4_change_172 : decode cX4_change 172 = .ok (.iload_n 3, 1) := by decide +kernel
theorem dX4_change_173 : decode cX4_change 173 = .ok (.iconst 0, 1) := by decide +kernel
theorem dX4_change_174 : decode cX4_change 174 = .ok (.invokevirtual 217, 3) := by decide +kernel
theorem dX4_change_177 : decode cX4_change 177 = .ok (.invokevirtual 58, 3) := by decide +kernel
theorem dX4_change_180 : decode cX4_change 180 = .ok (.goto 46, 3) := by decide +kernel
theorem dX4_change_183 : decode cX4_change 183 = .ok (.aload_n 0, 1) := by decide +kernel
theorem dX4_change_184 : decode cX4_change 184 = .ok (.getfield 16, 3) := by decide +kernel
theorem dX4_change_187 : decode cX4_change 187 = .ok (.iload_n 2, 1) := by decide +kernel
theorem dX4_change_188 : decode cX4_change 188 = .ok (.aload_n 0, 1) := by decide +kernel
theorem dX4_change_189 : decode cX4_change 189 = .ok (.getfield 25, 3) := by decide +kernel
theorem dX4_change_192 : decode cX4_change 192 = .ok (.iload_n 3, 1) := by decide +kernel
theorem dX4_change_193 : decode cX4_change 193 = .ok (.aload_n 0, 1) := by decide +kernel
theorem dX4_change_194 : decode cX4_change 194 = .ok (.getfield 16, 3) := by decide +kernel
theorem dX4_change_197 : decode cX4_change 197 = .ok (.iconst 0, 1) := by decide +kernel
theorem dX4_change_198 : decode cX4_change 198 = .ok (.invokevirtual 80, 3) := by decide +kernel
theorem dX4_change_201 : decode cX4_change 201 = .ok (.invokevirtual 217, 3) := by decide +kernel
theorem dX4_change_204 : decode cX4_change 204 = .ok (.invokevirtual 58, 3) := by decide +kernel
theorem dX4_change_207 : decode cX4_change 207 = .ok (.goto 19, 3) := by decide +kernel
theorem dX4_change_210 : decode cX4_change 210 = .ok (.aload_n 0, 1) := by decide +kernel
theorem dX4_change_211 : decode cX4_change 211 = .ok (.getfield 16, 3) := by decide +kernel
theorem dX4_change_214 : decode cX4_change 214 = .ok (.iload_n 2, 1) := by decide +kernel
theorem dX4_change_215 : decode cX4_change 215 = .ok (.aload_n 0, 1) := by decide +kernel
theorem dX4_change_216 : decode cX4_change 216 = .ok (.getfield 25, 3) := by decide +kernel
theorem dX4_change_219 : decode cX4_change 219 = .ok (.iload_n 3, 1) := by decide +kernel
theorem dX4_change_220 : decode cX4_change 220 = .ok (.invokevirtual 220, 3) := by decide +kernel
theorem dX4_change_223 : decode cX4_change 223 = .ok (.invokevirtual 58, 3) := by decide +kernel
theorem dX4_change_226 : decode cX4_change 226 = .ok (.aload_n 0, 1) := by decide +kernel
theorem dX4_change_227 : decode cX4_change 227 = .ok (.iconst 1, 1) := by decide +kernel
theorem dX4_change_228 : decode cX4_change 228 = .ok (.invokevirtual 102, 3) := by decide +kernel
theorem dX4_change_231 : decode cX4_change 231 = .ok (.ireturn, 1) := by decide +kernel
set_option maxRecDepth 20000 in
theorem ggX4_setFlag_X0_setFlag : GoodIn wsX4_setFlag wsX0_setFlag := goodIn_r _ [6, 7, 8, 9, 5, 10, 11, 12, 13, 14, 15, 16, 17, 18, 19, 34] (by decide +kernel) (by decide +kernel)
set_option maxRecDepth 20000 in
theorem gX4_setFlag_X0_setFlag : GoodIn wsX4_setFlag (wsV RX4 99 RX0 yX0_setFlag wsX0_setFlag) := goodIn_app (goodIn_of _ (by decide +kernel)) ggX4_setFlag_X0_setFlag
set_option maxRecDepth 20000 in
theorem ggX4_setFlag_X4_onward : GoodIn wsX4_setFlag wsX4_onward := goodIn_r _ [24, 25, 26, 27, 28, 29, 30, 31, 32, 33] (by decide +kernel) (by decide +kernel)
set_option maxRecDepth 20000 in
theorem gX4_setFlag_X4_onward : GoodIn wsX4_setFlag (wsV RX4 102 RX4 yX4_onward wsX4_onward) := goodIn_app (goodIn_of _ (by decide +kernel)) ggX4_setFlag_X4_onward
theorem dX4_setFlag_0 : decode cX4_setFlag 0 = .ok (.aload_n 0, 1) := by decide +kernel
theorem dX4_setFlag_1 : decode cX4_setFlag 1 = .ok (.getfield 16, 3) := by decide +kernel
theorem dX4_setFlag_4 : decode cX4_setFlag 4 = .ok (.iload_n 1, 1) := by decide +kernel
theorem dX4_setFlag_5 : decode cX4_setFlag 5 = .ok (.iconst 4, 1) := by decide +kernel
theorem dX4_setFlag_6 : decode cX4_setFlag 6 = .ok (.ishr, 1) := by decide +kernel
theorem dX4_setFlag_7 : decode cX4_setFlag 7 = .ok (.bipush 7, 2) := by decide +kernel
theorem dX4_setFlag_9 : decode cX4_setFlag 9 = .ok (.iand, 1) := by decide +kernel
theorem dX4_setFlag_10 : decode cX4_setFlag 10 = .ok (.iload_n 1, 1) := by decide +kernel
theorem dX4_setFlag_11 : decode cX4_setFlag 11 = .ok (.sipush 128, 3) := by decide +kernel
theorem dX4_setFlag_14 : decode cX4_setFlag 14 = .ok (.iand, 1) := by decide +kernel
theorem dX4_setFlag_15 : decode cX4_setFlag 15 = .ok (.ifCond .ne 7, 3) := by decide +kernel
theorem dX4_setFlag_18 : decode cX4_setFlag 18 = .ok (.iconst 1, 1) := by decide +kernel
theorem dX4_setFlag_19 : decode cX4_setFlag 19 = .ok (.goto 4, 3) := by decide +kernel
theorem dX4_setFlag_22 : decode cX4_setFlag 22 = .ok (.iconst 0, 1) := by decide +kernel
theorem dX4_setFlag_23 : decode cX4_setFlag 23 = .ok (.invokevirtual 99, 3) := by decide +kernel
theorem dX4_setFlag_26 : decode cX4_setFlag 26 = .ok (.aload_n 0, 1) := by decide +kernel
theorem dX4_setFlag_27 : decode cX4_setFlag 27 = .ok (.iconst 1, 1) := by decide +kernel
theorem dX4_setFlag_28 : decode cX4_setFlag 28 = .ok (.invokevirtual 102, 3) := by decide +kernel
theorem dX4_setFlag_31 : decode cX4_setFlag 31 = .ok (.ireturn, 1) := by decide +kernel
set_option maxRecDepth 20000 in
theorem ggX4_changePair_X0_pair : GoodIn wsX4_changePair wsX0_pair := goodIn_r _ [7, 8, 50] (by decide +kernel) (by decide +kernel)
set_option maxRecDepth 20000 in
theorem gX4_changePair_X0_pair : GoodIn wsX4_changePair (wsV RX4 62 RX0 yX0_pair wsX0_pair) := goodIn_app (goodIn_of _ (by decide +kernel)) ggX4_changePair_X0_pair
set_option maxRecDepth 20000 in
theorem ggX4_changePair_X2_pairMore : GoodIn wsX4_changePair wsX2_pairMore := goodIn_r _ [13, 14, 15, 16, 17, 12, 18, 19, 20, 21, 22, 23, 24, 25, 26, 6, 27, 8, 51, 50] (by decide +kernel) (by decide +kernel)
set_option maxRecDepth 20000 in
theorem gX4_changePair_X2_pairMore : GoodIn wsX4_changePair (wsV RX4 223 RX2 yX2_pairMore wsX2_pairMore) := goodIn_app (goodIn_of _ (by decide +kernel)) ggX4_changePair_X2_pairMore
set_option maxRecDepth 20000 in
theorem ggX4_changePair_X2_pairLess : GoodIn wsX4_changePair wsX2_pairLess := goodIn_r _ [31, 14, 15, 16, 17, 12, 18, 19, 20, 21, 22, 23, 24, 25, 26, 6, 27, 8, 51, 50] (by decide +kernel) (by decide +kernel)
set_option maxRecDepth 20000 in
theorem gX4_changePair_X2_pairLess : GoodIn wsX4_changePair (wsV RX4 226 RX2 yX2_pairLess wsX2_pairLess) := goodIn_app (goodIn_of _ (by decide +kernel)) ggX4_changePair_X2_pairLess
set_option maxRecDepth 20000 in
theorem ggX4_changePair_X0_setPair : GoodIn wsX4_changePair wsX0_setPair := goodIn_r _ [35, 8, 50] (by decide +kernel) (by decide +kernel)
set_option maxRecDepth 20000 in
theorem gX4_changePair_X0_setPair : GoodIn wsX4_changePair (wsV RX4 170 RX0 yX0_setPair wsX0_setPair) := goodIn_app (goodIn_of _ (by decide +kernel)) ggX4_changePair_X0_setPair
set_option maxRecDepth 20000 in
theorem ggX4_changePair_X4_onward : GoodIn wsX4_changePair wsX4_onward := goodIn_r _ [40, 41, 42, 43, 44, 45, 46, 47, 48, 49] (by decide +kernel) (by decide +kernel)
set_option maxRecDepth 20000 in
theorem gX4_changePair_X4_onward : GoodIn wsX4_changePair (wsV RX4 102 RX4 yX4_onward wsX4_onward) := goodIn_app (goodIn_of _ (by decide +kernel)) ggX4_changePair_X4_onward
theorem dX4_changePair_0 : decode cX4_changePair 0 = .ok (.bipush 24, 2) := by decide +kernel
theorem dX4_changePair_2 : decode cX4_changePair 2 = .ok (.iload_n 1, 1) := by decide +kernel
theorem dX4_changePair_3 : decode cX4_changePair 3 = .ok (.iconst 3, 1) := by decide +kernel
theorem dX4_changePair_4 : decode cX4_changePair 4 = .ok (.ishr, 1) := by decide +kernel
theorem dX4_changePair_5 : decode cX4_changePair 5 = .ok (.bipush 6, 2) := by decide +kernel
theorem dX4_changePair_7 : decode cX4_changePair 7 = .ok (.iand, 1) := by decide +kernel
theorem dX4_changePair_8 : decode cX4_changePair 8 = .ok (.iadd, 1) := by decide +kernel
theorem dX4_changePair_9 : decode cX4_changePair 9 = .ok (.istore_n 2, 1) := by decide +kernel
theorem dX4_changePair_10 : decode cX4_changePair 10 = .ok (.aload_n 0, 1) := by decide +kernel
theorem dX4_changePair_11 : decode cX4_changePair 11 = .ok (.getfield 16, 3) := by decide +kernel
theorem dX4_changePair_14 : decode cX4_changePair 14 = .ok (.iload_n 2, 1) := by decide +kernel
theorem dX4_changePair_15 : decode cX4_changePair 15 = .ok (.invokevirtual 62, 3) := by decide +kernel
theorem dX4_changePair_18 : decode cX4_changePair 18 = .ok (.istore_n 3, 1) := by decide +kernel
theorem dX4_changePair_19 : decode cX4_changePair 19 = .ok (.iload_n 1, 1) := by decide +kernel
theorem dX4_changePair_20 : decode cX4_changePair 20 = .ok (.iconst 2, 1) := by decide +kernel
