theorem dX4_changePair_21 : decode cX4_changePair 21 = .ok (.ishr, 1) := by decide +kernel
theorem dX4_changePair_22 : decode cX4_changePair 22 = .ok (.bipush 48, 2) := by decide +kernel
theorem dX4_changePair_24 : decode cX4_changePair 24 = .ok (.iand, 1) := by decide +kernel
theorem dX4_changePair_25 : decode cX4_changePair 25 = .ok (.iload_n 1, 1) := by decide +kernel
theorem dX4_changePair_26 : decode cX4_changePair 26 = .ok (.bipush 15, 2) := by decide +kernel
theorem dX4_changePair_28 : decode cX4_changePair 28 = .ok (.iand, 1) := by decide +kernel
theorem dX4_changePair_29 : decode cX4_changePair 29 = .ok (.ior, 1) := by decide +kernel
theorem dX4_changePair_30 : decode cX4_changePair 30 = .ok (.istore 4, 2) := by decide +kernel
theorem dX4_changePair_32 : decode cX4_changePair 32 = .ok (.aload_n 0, 1) := by decide +kernel
theorem dX4_changePair_33 : decode cX4_changePair 33 = .ok (.getfield 16, 3) := by decide +kernel
theorem dX4_changePair_36 : decode cX4_changePair 36 = .ok (.iload_n 2, 1) := by decide +kernel
theorem dX4_changePair_37 : decode cX4_changePair 37 = .ok (.iload_n 1, 1) := by decide +kernel
theorem dX4_changePair_38 : decode cX4_changePair 38 = .ok (.sipush 256, 3) := by decide +kernel
theorem dX4_changePair_41 : decode cX4_changePair 41 = .ok (.iand, 1) := by decide +kernel
theorem dX4_changePair_42 : decode cX4_changePair 42 = .ok (.ifCond .ne 16, 3) := by decide +kernel
theorem dX4_changePair_45 : decode cX4_changePair 45 = .ok (.aload_n 0, 1) := by decide +kernel
theorem dX4_changePair_46 : decode cX4_changePair 46 = .ok (.getfield 25, 3) := by decide +kernel
theorem dX4_changePair_49 : decode cX4_changePair 49 = .ok (.iload_n 3, 1) := by decide +kernel
theorem dX4_changePair_50 : decode cX4_changePair 50 = .ok (.iload 4, 2) := by decide +kernel
theorem dX4_changePair_52 : decode cX4_changePair 52 = .ok (.invokevirtual 223, 3) := by decide +kernel
theorem dX4_changePair_55 : decode cX4_changePair 55 = .ok (.goto 13, 3) := by decide +kernel
theorem dX4_changePair_58 : decode cX4_changePair 58 = .ok (.aload_n 0, 1) := by decide +kernel
theorem dX4_changePair_59 : decode cX4_changePair 59 = .ok (.getfield 25, 3) := by decide +kernel
theorem dX4_changePair_62 : decode cX4_changePair 62 = .ok (.iload_n 3, 1) := by decide +kernel
theorem dX4_changePair_63 : decode cX4_changePair 63 = .ok (.iload 4, 2) := by decide +kernel
theorem dX4_changePair_65 : decode cX4_changePair 65 = .ok (.invokevirtual 226, 3) := by decide +kernel
theorem dX4_changePair_68 : decode cX4_changePair 68 = .ok (.invokevirtual 170, 3) := by decide +kernel
theorem dX4_changePair_71 : decode cX4_changePair 71 = .ok (.aload_n 0, 1) := by decide +kernel
theorem dX4_changePair_72 : decode cX4_changePair 72 = .ok (.iconst 1, 1) := by decide +kernel
theorem dX4_changePair_73 : decode cX4_changePair 73 = .ok (.invokevirtual 102, 3) := by decide +kernel
theorem dX4_changePair_76 : decode cX4_changePair 76 = .ok (.ireturn, 1) := by decide +kernel
set_option maxRecDepth 20000 in
theorem ggX4_transfer_X3_d : GoodIn wsX4_transfer wsX3_d := goodIn_r _ [5] (by decide +kernel) (by decide +kernel)
set_option maxRecDepth 20000 in
theorem gX4_transfer_X3_d : GoodIn wsX4_transfer (va_wsS RX4 173 yX3_d wsX3_d) := goodIn_app (goodIn_of _ (by decide +kernel)) ggX4_transfer_X3_d
set_option maxRecDepth 20000 in
theorem ggX4_transfer_X0_get : GoodIn wsX4_transfer wsX0_get := goodIn_r _ [10, 11, 24] (by decide +kernel) (by decide +kernel)
set_option maxRecDepth 20000 in
theorem gX4_transfer_X0_get : GoodIn wsX4_transfer (wsV RX4 55 RX0 yX0_get wsX0_get) := goodIn_app (goodIn_of _ (by decide +kernel)) ggX4_transfer_X0_get
set_option maxRecDepth 20000 in
theorem ggX4_transfer_X0_set : GoodIn wsX4_transfer wsX0_set := goodIn_r _ [15, 11, 24] (by decide +kernel) (by decide +kernel)
set_option maxRecDepth 20000 in
theorem gX4_transfer_X0_set : GoodIn wsX4_transfer (wsV RX4 58 RX0 yX0_set wsX0_set) := goodIn_app (goodIn_of _ (by decide +kernel)) ggX4_transfer_X0_set
theorem dX4_transfer_0 : decode cX4_transfer 0 = .ok (.iload_n 1, 1) := by decide +kernel
theorem dX4_transfer_1 : decode cX4_transfer 1 = .ok (.invokestatic 173, 3) := by decide +kernel
theorem dX4_transfer_4 : decode cX4_transfer 4 = .ok (.istore_n 3, 1) := by decide +kernel
theorem dX4_transfer_5 : decode cX4_transfer 5 = .ok (.iload_n 1, 1) := by decide +kernel
theorem dX4_transfer_6 : decode cX4_transfer 6 = .ok (.sipush 512, 3) := by decide +kernel
theorem dX4_transfer_9 : decode cX4_transfer 9 = .ok (.iand, 1) := by decide +kernel
theorem dX4_transfer_10 : decode cX4_transfer 10 = .ok (.ifCond .ne 22, 3) := by decide +kernel
theorem dX4_transfer_13 : decode cX4_transfer 13 = .ok (.aload_n 0, 1) := by decide +kernel
theorem dX4_transfer_14 : decode cX4_transfer 14 = .ok (.getfield 16, 3) := by decide +kernel
theorem dX4_transfer_17 : decode cX4_transfer 17 = .ok (.iload_n 3, 1) := by decide +kernel
theorem dX4_transfer_18 : decode cX4_transfer 18 = .ok (.aload_n 0, 1) := by decide +kernel
theorem dX4_transfer_19 : decode cX4_transfer 19 = .ok (.getfield 16, 3) := by decide +kernel
theorem dX4_transfer_22 : decode cX4_transfer 22 = .ok (.iload_n 2, 1) := by decide +kernel
theorem dX4_transfer_23 : decode cX4_transfer 23 = .ok (.invokevirtual 55, 3) := by decide +kernel
theorem dX4_transfer_26 : decode cX4_transfer 26 = .ok (.invokevirtual 58, 3) := by decide +kernel
theorem dX4_transfer_29 : decode cX4_transfer 29 = .ok (.goto 19, 3) := by decide +kernel
theorem dX4_transfer_32 : decode cX4_transfer 32 = .ok (.aload_n 0, 1) := by decide +kernel
theorem dX4_transfer_33 : decode cX4_transfer 33 = .ok (.getfield 16, 3) := by decide +kernel
theorem dX4_transfer_36 : decode cX4_transfer 36 = .ok (.iload_n 2, 1) := by decide +kernel
theorem dX4_transfer_37 : decode cX4_transfer 37 = .ok (.aload_n 0, 1) := by decide +kernel
theorem dX4_transfer_38 : decode cX4_transfer 38 = .ok (.getfield 16, 3) := by decide +kernel
theorem dX4_transfer_41 : decode cX4_transfer 41 = .ok (.iload_n 3, 1) := by decide +kernel
theorem dX4_transfer_42 : decode cX4_transfer 42 = .ok (.invokevirtual 55, 3) := by decide +kernel
theorem dX4_transfer_45 : decode cX4_transfer 45 = .ok (.invokevirtual 58, 3) := by decide +kernel
theorem dX4_transfer_48 : decode cX4_transfer 48 = .ok (.return_, 1) := by decide +kernel
set_option maxRecDepth 20000 in
theorem ggX4_moveAtNext_X4_cellAt : GoodIn wsX4_moveAtNext wsX4_cellAt := goodIn_r _ [6, 7, 31, 32, 33, 34, 35, 36, 37, 38] (by decide +kernel) (by decide +kernel)
set_option maxRecDepth 20000 in
theorem gX4_moveAtNext_X4_cellAt : GoodIn wsX4_moveAtNext (wsV RX4 51 RX4 yX4_cellAt wsX4_cellAt) := goodIn_app (goodIn_of _ (by decide +kernel)) ggX4_moveAtNext_X4_cellAt
set_option maxRecDepth 20000 in
theorem ggX4_moveAtNext_X4_transfer : GoodIn wsX4_moveAtNext wsX4_transfer := goodIn_r _ [11, 12, 13, 14, 15, 16, 17, 18, 19, 20, 21, 22, 23, 24, 25, 26, 31, 32, 33, 34, 35, 36, 37, 38, 39] (by decide +kernel) (by decide +kernel)
set_option maxRecDepth 20000 in
theorem gX4_moveAtNext_X4_transfer : GoodIn wsX4_moveAtNext (wsV RX4 229 RX4 yX4_transfer wsX4_transfer) := goodIn_app (goodIn_of _ (by decide +kernel)) ggX4_moveAtNext_X4_transfer
set_option maxRecDepth 20000 in
theorem ggX4_moveAtNext_X4_onward : GoodIn wsX4_moveAtNext wsX4_onward := goodIn_r _ [30, 1, 31, 32, 33, 34, 35, 36, 37, 38] (by decide +kernel) (by decide +kernel)
set_option maxRecDepth 20000 in
theorem gX4_moveAtNext_X4_onward : GoodIn wsX4_moveAtNext (wsV RX4 102 RX4 yX4_onward wsX4_onward) := goodIn_app (goodIn_of _ (by decide +kernel)) ggX4_moveAtNext_X4_onward
theorem dX4_moveAtNext_0 : decode cX4_moveAtNext 0 = .ok (.aload_n 0, 1) := by decide +kernel
theorem dX4_moveAtNext_1 : decode cX4_moveAtNext 1 = .ok (.aload_n 0, 1) := by decide +kernel
theorem dX4_moveAtNext_2 : decode cX4_moveAtNext 2 = .ok (.getfield 32, 3) := by decide +kernel
theorem dX4_moveAtNext_5 : decode cX4_moveAtNext 5 = .ok (.iconst 1, 1) := by decide +kernel
theorem dX4_moveAtNext_6 : decode cX4_moveAtNext 6 = .ok (.iadd, 1) := by decide +kernel
theorem dX4_moveAtNext_7 : decode cX4_moveAtNext 7 = .ok (.invokevirtual 51, 3) := by decide +kernel
theorem dX4_moveAtNext_10 : decode cX4_moveAtNext 10 = .ok (.istore_n 2, 1) := by decide +kernel
theorem dX4_moveAtNext_11 : decode cX4_moveAtNext 11 = .ok (.iload_n 2, 1) := by decide +kernel
theorem dX4_moveAtNext_12 : decode cX4_moveAtNext 12 = .ok (.sipush 1023, 3) := by decide +kernel
theorem dX4_moveAtNext_15 : decode cX4_moveAtNext 15 = .ok (.if_icmp .le 5, 3) := by decide +kernel
theorem dX4_moveAtNext_18 : decode cX4_moveAtNext 18 = .ok (.iconst 3, 1) := by decide +kernel
theorem dX4_moveAtNext_19 : decode cX4_moveAtNext 19 = .ok (.ireturn, 1) := by decide +kernel
theorem dX4_moveAtNext_20 : decode cX4_moveAtNext 20 = .ok (.aload_n 0, 1) := by decide +kernel
theorem dX4_moveAtNext_21 : decode cX4_moveAtNext 21 = .ok (.iload_n 1, 1) := by decide +kernel
theorem dX4_moveAtNext_22 : decode cX4_moveAtNext 22 = .ok (.iload_n 2, 1) := by decide +kernel
theorem dX4_moveAtNext_23 : decode cX4_moveAtNext 23 = .ok (.invokevirtual 229, 3) := by decide +kernel
theorem dX4_moveAtNext_26 : decode cX4_moveAtNext 26 = .ok (.aload_n 0, 1) := by decide +kernel
theorem dX4_moveAtNext_27 : decode cX4_moveAtNext 27 = .ok (.iconst 2, 1) := by decide +kernel
theorem dX4_moveAtNext_28 : decode cX4_moveAtNext 28 = .ok (.invokevirtual 102, 3) := by decide +kernel
theorem dX4_moveAtNext_31 : decode cX4_moveAtNext 31 = .ok (.ireturn, 1) := by decide +kernel
set_option maxRecDepth 20000 in
theorem ggX4_movePointed_X3_pointer : GoodIn wsX4_movePointed wsX3_pointer := goodIn_r _ [6] (by decide +kernel) (by decide +kernel)
set_option maxRecDepth 20000 in
theorem gX4_movePointed_X3_pointer : GoodIn wsX4_movePointed (va_wsS RX4 232 yX3_pointer wsX3_pointer) := goodIn_app (goodIn_of _ (by decide +kernel)) ggX4_movePointed_X3_pointer
set_option maxRecDepth 20000 in
theorem ggX4_movePointed_X0_pair : GoodIn wsX4_movePointed wsX0_pair := goodIn_r _ [11, 12, 46] (by decide +kernel) (by decide +kernel)
set_option maxRecDepth 20000 in
theorem gX4_movePointed_X0_pair : GoodIn wsX4_movePointed (wsV RX4 62 RX0 yX0_pair wsX0_pair) := goodIn_app (goodIn_of _ (by decide +kernel)) ggX4_movePointed_X0_pair
set_option maxRecDepth 20000 in
theorem ggX4_movePointed_X0_setPair : GoodIn wsX4_movePointed wsX0_setPair := goodIn_r _ [16, 12, 46] (by decide +kernel) (by decide +kernel)
set_option maxRecDepth 20000 in
theorem gX4_movePointed_X0_setPair : GoodIn wsX4_movePointed (wsV RX4 170 RX0 yX0_setPair wsX0_setPair) := goodIn_app (goodIn_of _ (by decide +kernel)) ggX4_movePointed_X0_setPair
set_option maxRecDepth 20000 in
theorem ggX4_movePointed_X4_transfer : GoodIn wsX4_movePointed wsX4_transfer := goodIn_r _ [21, 1, 22, 23, 5, 24, 25, 26, 27, 10, 28, 12, 29, 30, 31, 32, 38, 39, 40, 41, 42, 43, 44, 45, 46] (by decide +kernel) (by decide +kernel)
set_option maxRecDepth 20000 in
theorem gX4_movePointed_X4_transfer : GoodIn wsX4_movePointed (wsV RX4 229 RX4 yX4_transfer wsX4_transfer) := goodIn_app (goodIn_of _ (by decide +kernel)) ggX4_movePointed_X4_transfer
set_option maxRecDepth 20000 in
theorem ggX4_movePointed_X4_onward : GoodIn wsX4_movePointed wsX4_onward := goodIn_r _ [36, 37, 38, 39, 40, 41, 42, 43, 44, 45] (by decide +kernel) (by decide +kernel)
set_option maxRecDepth 20000 in
theorem gX4_movePointed_X4_onward : GoodIn wsX4_movePointed (wsV RX4 102 RX4 yX4_onward wsX4_onward) := goodIn_app (goodIn_of _ (by decide +kernel)) ggX4_movePointed_X4_onward
theorem dX4_movePointed_0 : decode cX4_movePointed 0 = .ok (.iload_n 1, 1) := by decide +kernel
theorem dX4_movePointed_1 : decode cX4_movePointed 1 = .ok (.invokestatic 232, 3) := by decide +kernel
theorem dX4_movePointed_4 : decode cX4_movePointed 4 = .ok (.istore_n 2, 1) := by decide +kernel
theorem dX4_movePointed_5 : decode cX4_movePointed 5 = .ok (.aload_n 0, 1) := by decide +kernel
theorem dX4_movePointed_6 : decode cX4_movePointed 6 = .ok (.getfield 16, 3) := by decide +kernel
theorem dX4_movePointed_9 : decode cX4_movePointed 9 = .ok (.iload_n 2, 1) := by decide +kernel
theorem dX4_movePointed_10 : decode cX4_movePointed 10 = .ok (.invokevirtual 62, 3) := by decide +kernel
theorem dX4_movePointed_13 : decode cX4_movePointed 13 = .ok (.istore_n 3, 1) := by decide +kernel
theorem dX4_movePointed_14 : decode cX4_movePointed 14 = .ok (.iload_n 1, 1) := by decide +kernel
theorem dX4_movePointed_15 : decode cX4_movePointed 15 = .ok (.iconst 3, 1) := by decide +kernel
theorem dX4_movePointed_16 : decode cX4_movePointed 16 = .ok (.iand, 1) := by decide +kernel
theorem dX4_movePointed_17 : decode cX4_movePointed 17 = .ok (.iconst 2, 1) := by decide +kernel
theorem dX4_movePointed_18 : decode cX4_movePointed 18 = .ok (.if_icmp .ne 7, 3) := by decide +kernel
theorem dX4_movePointed_21 : decode cX4_movePointed 21 = .ok (.iconst 1, 1) := by decide +kernel
theorem dX4_movePointed_22 : decode cX4_movePointed 22 = .ok (.goto 4, 3) := by decide +kernel
theorem dX4_movePointed_25 : decode cX4_movePointed 25 = .ok (.iconst 0, 1) := by decide +kernel
theorem dX4_movePointed_26 : decode cX4_movePointed 26 = .ok (.istore 4, 2) := by decide +kernel
theorem dX4_movePointed_28 : decode cX4_movePointed 28 = .ok (.iload_n 1, 1) := by decide +kernel
theorem dX4_movePointed_29 : decode cX4_movePointed 29 = .ok (.iconst 3, 1) := by decide +kernel
theorem dX4_movePointed_30 : decode cX4_movePointed 30 = .ok (.iand, 1) := by decide +kernel
theorem dX4_movePointed_31 : decode cX4_movePointed 31 = .ok (.iconst 1, 1) := by decide +kernel
theorem dX4_movePointed_32 : decode cX4_movePointed 32 = .ok (.if_icmp .ne 7, 3) := by decide +kernel
theorem dX4_movePointed_35 : decode cX4_movePointed 35 = .ok (.iconst 1, 1) := by decide +kernel
theorem dX4_movePointed_36 : decode cX4_movePointed 36 = .ok (.goto 4, 3) := by decide +kernel
theorem dX4_movePointed_39 : decode cX4_movePointed 39 = .ok (.iconst 0, 1) := by decide +kernel
theorem dX4_movePointed_40 : decode cX4_movePointed 40 = .ok (.istore 5, 2) := by decide +kernel
theorem dX4_movePointed_42 : decode cX4_movePointed 42 = .ok (.iload 4, 2) := by decide +kernel
theorem dX4_movePointed_44 : decode cX4_movePointed 44 = .ok (.ifCond .eq 12, 3) := by decide +kernel
theorem dX4_movePointed_47 : decode cX4_movePointed 47 = .ok (.iload_n 3, 1) := by decide +kernel
theorem dX4_movePointed_48 : decode cX4_movePointed 48 = .ok (.iconst 1, 1) := by decide +kernel
theorem dX4_movePointed_49 : decode cX4_movePointed 49 = .ok (.isub, 1) := by decide +kernel
theorem dX4_movePointed_50 : decode cX4_movePointed 50 = .ok (.ldc 50, 2) := by decide +kernel
theorem dX4_movePointed_52 : decode cX4_movePointed 52 = .ok (.iand, 1) := by decide +kernel
theorem dX4_movePointed_53 : decode cX4_movePointed 53 = .ok (.goto 4, 3) := by decide +kernel
theorem dX4_movePointed_56 : decode cX4_movePointed 56 = .ok (.iload_n 3, 1) := by decide +kernel
theorem dX4_movePointed_57 : decode cX4_movePointed 57 = .ok (.istore 6, 2) := by decide +kernel
theorem dX4_movePointed_59 : decode cX4_movePointed 59 = .ok (.iload 6, 2) := by decide +kernel
theorem dX4_movePointed_61 : decode cX4_movePointed 61 = .ok (.sipush 1023, 3) := by decide +kernel
theorem dX4_movePointed_64 : decode cX4_movePointed 64 = .ok (.if_icmp .le 5, 3) := by decide +kernel
theorem dX4_movePointed_67 : decode cX4_movePointed 67 = .ok (.iconst 3, 1) := by decide +kernel
theorem dX4_movePointed_68 : decode cX4_movePointed 68 = .ok (.ireturn, 1) := by decide +kernel
theorem dX4_movePointed_69 : decode cX4_movePointed 69 = .ok (.iload 4, 2) := by decide +kernel
theorem dX4_movePointed_71 : decode cX4_movePointed 71 = .ok (.ifCond .eq 13, 3) := by decide +kernel
theorem dX4_movePointed_74 : decode cX4_movePointed 74 = .ok (.aload_n 0, 1) := by decide +kernel
theorem dX4_movePointed_75 : decode cX4_movePointed 75 = .ok (.getfield 16, 3) := by decide +kernel
theorem dX4_movePointed_78 : decode cX4_movePointed 78 = .ok (.iload_n 2, 1) := by decide +kernel
theorem dX4_movePointed_79 : decode cX4_movePointed 79 = .ok (.iload 6, 2) := by decide +kernel
theorem dX4_movePointed_81 : decode cX4_movePointed 81 = .ok (.invokevirtual 170, 3) := by decide +kernel
theorem dX4_movePointed_84 : decode cX4_movePointed 84 = .ok (.aload_n 0, 1) := by decide +kernel
theorem dX4_movePointed_85 : decode cX4_movePointed 85 = .ok (.iload_n 1, 1) := by decide +kernel
theorem dX4_movePointed_86 : decode cX4_movePointed 86 = .ok (.iload 6, 2) := by decide +kernel
theorem dX4_movePointed_88 : decode cX4_movePointed 88 = .ok (.invokevirtual 229, 3) := by decide +kernel
theorem dX4_movePointed_91 : decode cX4_movePointed 91 = .ok (.iload 5, 2) := by decide +kernel
theorem dX4_movePointed_93 : decode cX4_movePointed 93 = .ok (.ifCond .eq 14, 3) := by decide +kernel
theorem dX4_movePointed_96 : decode cX4_movePointed 96 = .ok (.aload_n 0, 1) := by decide +kernel
theorem dX4_movePointed_97 : decode cX4_movePointed 97 = .ok (.getfield 16, 3) := by decide +kernel
theorem dX4_movePointed_100 : decode cX4_movePointed 100 = .ok (.iload_n 2, 1) := by decide +kernel
theorem dX4_movePointed_101 : decode cX4_movePointed 101 = .ok (.iload_n 3, 1) := by decide +kernel
theorem dX4_movePointed_102 : decode cX4_movePointed 102 = .ok (.iconst 1, 1) := by decide +kernel
theorem dX4_movePointed_103 : decode cX4_movePointed 103 = .ok (.iadd, 1) := by decide +kernel
theorem dX4_movePointed_104 : decode cX4_movePointed 104 = .ok (.invokevirtual 170, 3) := by decide +kernel
theorem dX4_movePointed_107 : decode cX4_movePointed 107 = .ok (.aload_n 0, 1) := by decide +kernel
theorem dX4_movePointed_108 : decode cX4_movePointed 108 = .ok (.iconst 1, 1) := by decide +kernel
theorem dX4_movePointed_109 : decode cX4_movePointed 109 = .ok (.invokevirtual 102, 3) := by decide +kernel
theorem dX4_movePointed_112 : decode cX4_movePointed 112 = .ok (.ireturn, 1) := by decide +kernel
set_option maxRecDepth 20000 in
theorem ggX4_moveStacked_X0_pair : GoodIn wsX4_moveStacked wsX0_pair := goodIn_r _ [7, 8, 50] (by decide +kernel) (by decide +kernel)
set_option maxRecDepth 20000 in
theorem gX4_moveStacked_X0_pair : GoodIn wsX4_moveStacked (wsV RX4 62 RX0 yX0_pair wsX0_pair) := goodIn_app (goodIn_of _ (by decide +kernel)) ggX4_moveStacked_X0_pair
set_option maxRecDepth 20000 in
theorem ggX4_moveStacked_X3_d : GoodIn wsX4_moveStacked wsX3_d := goodIn_r _ [12] (by decide +kernel) (by decide +kernel)
set_option maxRecDepth 20000 in
theorem gX4_moveStacked_X3_d : GoodIn wsX4_moveStacked (va_wsS RX4 173 yX3_d wsX3_d) := goodIn_app (goodIn_of _ (by decide +kernel)) ggX4_moveStacked_X3_d
set_option maxRecDepth 20000 in
theorem ggX4_moveStacked_X0_pull : GoodIn wsX4_moveStacked wsX0_pull := goodIn_r _ [16, 17, 4, 5, 6, 7, 8, 18, 19, 20, 21, 22, 23, 24, 25, 50] (by decide +kernel) (by decide +kernel)
set_option maxRecDepth 20000 in
theorem gX4_moveStacked_X0_pull : GoodIn wsX4_moveStacked (wsV RX4 235 RX0 yX0_pull wsX0_pull) := goodIn_app (goodIn_of _ (by decide +kernel)) ggX4_moveStacked_X0_pull
set_option maxRecDepth 20000 in
theorem ggX4_moveStacked_X0_set : GoodIn wsX4_moveStacked wsX0_set := goodIn_r _ [29, 8, 50] (by decide +kernel) (by decide +kernel)
set_option maxRecDepth 20000 in
theorem gX4_moveStacked_X0_set : GoodIn wsX4_moveStacked (wsV RX4 58 RX0 yX0_set wsX0_set) := goodIn_app (goodIn_of _ (by decide +kernel)) ggX4_moveStacked_X0_set
set_option maxRecDepth 20000 in
theorem ggX4_moveStacked_X0_get : GoodIn wsX4_moveStacked wsX0_get := goodIn_r _ [25, 8, 50] (by decide +kernel) (by decide +kernel)
set_option maxRecDepth 20000 in
theorem gX4_moveStacked_X0_get : GoodIn wsX4_moveStacked (wsV RX4 55 RX0 yX0_get wsX0_get) := goodIn_app (goodIn_of _ (by decide +kernel)) ggX4_moveStacked_X0_get
set_option maxRecDepth 20000 in
theorem ggX4_moveStacked_X0_push : GoodIn wsX4_moveStacked wsX0_push := goodIn_r _ [34, 17, 4, 5, 6, 7, 8, 35, 27, 28, 29, 18, 19, 20, 21, 50] (by decide +kernel) (by decide +kernel)
set_option maxRecDepth 20000 in
theorem gX4_moveStacked_X0_push : GoodIn wsX4_moveStacked (wsV RX4 238 RX0 yX0_push wsX0_push) := goodIn_app (goodIn_of _ (by decide +kernel)) ggX4_moveStacked_X0_push
set_option maxRecDepth 20000 in
theorem ggX4_moveStacked_X4_onward : GoodIn wsX4_moveStacked wsX4_onward := goodIn_r _ [40, 41, 42, 43, 44, 45, 46, 47, 48, 49] (by decide +kernel) (by decide +kernel)
set_option maxRecDepth 20000 in
theorem gX4_moveStacked_X4_onward : GoodIn wsX4_moveStacked (wsV RX4 102 RX4 yX4_onward wsX4_onward) := goodIn_app (goodIn_of _ (by decide +kernel)) ggX4_moveStacked_X4_onward
theorem dX4_moveStacked_0 : decode cX4_moveStacked 0 = .ok (.iload_n 1, 1) := by decide +kernel
theorem dX4_moveStacked_1 : decode cX4_moveStacked 1 = .ok (.sipush 512, 3) := by decide +kernel
theorem dX4_moveStacked_4 : decode cX4_moveStacked 4 = .ok (.iand, 1) := by decide +kernel
theorem dX4_moveStacked_5 : decode cX4_moveStacked 5 = .ok (.ifCond .ne 7, 3) := by decide +kernel
theorem dX4_moveStacked_8 : decode cX4_moveStacked 8 = .ok (.iconst 1, 1) := by decide +kernel
theorem dX4_moveStacked_9 : decode cX4_moveStacked 9 = .ok (.goto 4, 3) := by decide +kernel
theorem dX4_moveStacked_12 : decode cX4_moveStacked 12 = .ok (.iconst 0, 1) := by decide +kernel
theorem dX4_moveStacked_13 : decode cX4_moveStacked 13 = .ok (.istore_n 2, 1) := by decide +kernel
theorem dX4_moveStacked_14 : decode cX4_moveStacked 14 = .ok (.aload_n 0, 1) := by decide +kernel
theorem dX4_moveStacked_15 : decode cX4_moveStacked 15 = .ok (.getfield 16, 3) := by decide +kernel
theorem dX4_moveStacked_18 : decode cX4_moveStacked 18 = .ok (.bipush 93, 2) := by decide +kernel
theorem dX4_moveStacked_20 : decode cX4_moveStacked 20 = .ok (.invokevirtual 62, 3) := by decide +kernel
theorem dX4_moveStacked_23 : decode cX4_moveStacked 23 = .ok (.iload_n 2, 1) := by decide +kernel
theorem dX4_moveStacked_24 : decode cX4_moveStacked 24 = .ok (.ifCond .eq 7, 3) := by decide +kernel
theorem dX4_moveStacked_27 : decode cX4_moveStacked 27 = .ok (.iconst 1, 1) := by decide +kernel
theorem dX4_moveStacked_28 : decode cX4_moveStacked 28 = .ok (.goto 4, 3) := by decide +kernel
theorem dX4_moveStacked_31 : decode cX4_moveStacked 31 = .ok (.iconst 0, 1) := by decide +kernel
theorem dX4_moveStacked_32 : decode cX4_moveStacked 32 = .ok (.iadd, 1) := by decide +kernel
theorem dX4_moveStacked_33 : decode cX4_moveStacked 33 = .ok (.ldc 50, 2) := by decide +kernel
theorem dX4_moveStacked_35 : decode cX4_moveStacked 35 = .ok (.iand, 1) := by decide +kernel
theorem dX4_moveStacked_36 : decode cX4_moveStacked 36 = .ok (.istore_n 3, 1) := by decide +kernel
theorem dX4_moveStacked_37 : decode cX4_moveStacked 37 = .ok (.iload_n 3, 1) := by decide +kernel
theorem dX4_moveStacked_38 : decode cX4_moveStacked 38 = .ok (.sipush 1023, 3) := by decide +kernel
theorem dX4_moveStacked_41 : decode cX4_moveStacked 41 = .ok (.if_icmp .le 5, 3) := by decide +kernel
theorem dX4_moveStacked_44 : decode cX4_moveStacked 44 = .ok (.iconst 3, 1) := by decide +kernel
theorem dX4_moveStacked_45 : decode cX4_moveStacked 45 = .ok (.ireturn, 1) := by decide +kernel
theorem dX4_moveStacked_46 : decode cX4_moveStacked 46 = .ok (.iload_n 1, 1) := by decide +kernel
theorem dX4_moveStacked_47 : decode cX4_moveStacked 47 = .ok (.invokestatic 173, 3) := by decide +kernel
theorem dX4_moveStacked_50 : decode cX4_moveStacked 50 = .ok (.istore 4, 2) := by decide +kernel
theorem dX4_moveStacked_52 : decode cX4_moveStacked 52 = .ok (.iload_n 2, 1) := by decide +kernel
theorem dX4_moveStacked_53 : decode cX4_moveStacked 53 = .ok (.ifCond .eq 22, 3) := by decide +kernel
theorem dX4_moveStacked_56 : decode cX4_moveStacked 56 = .ok (.aload_n 0, 1) := by decide +kernel
theorem dX4_moveStacked_57 : decode cX4_moveStacked 57 = .ok (.getfield 16, 3) := by decide +kernel
theorem dX4_moveStacked_60 : decode cX4_moveStacked 60 = .ok (.iload 4, 2) := by decide +kernel
theorem dX4_moveStacked_62 : decode cX4_moveStacked 62 = .ok (.aload_n 0, 1) := by decide +kernel
theorem dX4_moveStacked_63 : decode cX4_moveStacked 63 = .ok (.getfield 16, 3) := by decide +kernel
theorem dX4_moveStacked_66 : decode cX4_moveStacked 66 = .ok (.invokevirtual 235, 3) := by decide +kernel
theorem dX4_moveStacked_69 : decode cX4_moveStacked 69 = .ok (.invokevirtual 58, 3) := by decide +kernel
theorem dX4_moveStacked_72 : decode cX4_moveStacked 72 = .ok (.goto 19, 3) := by decide +kernel
theorem dX4_moveStacked_75 : decode cX4_moveStacked 75 = .ok (.aload_n 0, 1) := by decide +kernel
theorem dX4_moveStacked_76 : decode cX4_moveStacked 76 = .ok (.getfield 16, 3) := by decide +kernel
theorem dX4_moveStacked_79 : decode cX4_moveStacked 79 = .ok (.aload_n 0, 1) := by decide +kernel
theorem dX4_moveStacked_80 : decode cX4_moveStacked 80 = .ok (.getfield 16, 3) := by decide +kernel
theorem dX4_moveStacked_83 : decode cX4_moveStacked 83 = .ok (.iload 4, 2) := by decide +kernel
theorem dX4_moveStacked_85 : decode cX4_moveStacked 85 = .ok (.invokevirtual 55, 3) := by decide +kernel
theorem dX4_moveStacked_88 : decode cX4_moveStacked 88 = .ok (.invokevirtual 238, 3) := by decide +kernel
theorem dX4_moveStacked_91 : decode cX4_moveStacked 91 = .ok (.aload_n 0, 1) := by decide +kernel
theorem dX4_moveStacked_92 : decode cX4_moveStacked 92 = .ok (.iconst 1, 1) := by decide +kernel
theorem dX4_moveStacked_93 : decode cX4_moveStacked 93 = .ok (.invokevirtual 102, 3) := by decide +kernel
theorem dX4_moveStacked_96 : decode cX4_moveStacked 96 = .ok (.ireturn, 1) := by decide +kernel
set_option maxRecDepth 20000 in
theorem ggX4_moveBeside_X0_pair : GoodIn wsX4_moveBeside wsX0_pair := goodIn_r _ [7, 8, 39] (by decide +kernel) (by decide +kernel)
set_option maxRecDepth 20000 in
theorem gX4_moveBeside_X0_pair : GoodIn wsX4_moveBeside (wsV RX4 62 RX0 yX0_pair wsX0_pair) := goodIn_app (goodIn_of _ (by decide +kernel)) ggX4_moveBeside_X0_pair
set_option maxRecDepth 20000 in
theorem ggX4_moveBeside_X4_transfer : GoodIn wsX4_moveBeside wsX4_transfer := goodIn_r _ [13, 1, 14, 15, 16, 17, 18, 19, 20, 6, 21, 8, 22, 23, 24, 25, 31, 32, 33, 34, 35, 36, 37, 38, 39] (by decide +kernel) (by decide +kernel)
set_option maxRecDepth 20000 in
theorem gX4_moveBeside_X4_transfer : GoodIn wsX4_moveBeside (wsV RX4 229 RX4 yX4_transfer wsX4_transfer) := goodIn_app (goodIn_of _ (by decide +kernel)) ggX4_moveBeside_X4_transfer
set_option maxRecDepth 20000 in
theorem ggX4_moveBeside_X4_onward : GoodIn wsX4_moveBeside wsX4_onward := goodIn_r _ [29, 30, 31, 32, 33, 34, 35, 36, 37, 38] (by decide +kernel) (by decide +kernel)
set_option maxRecDepth 20000 in
theorem gX4_moveBeside_X4_onward : GoodIn wsX4_moveBeside (wsV RX4 102 RX4 yX4_onward wsX4_onward) := goodIn_app (goodIn_of _ (by decide +kernel)) ggX4_moveBeside_X4_onward
theorem dX4_moveBeside_0 : decode cX4_moveBeside 0 = .ok (.iload_n 1, 1) := by decide +kernel
theorem dX4_moveBeside_1 : decode cX4_moveBeside 1 = .ok (.bipush 8, 2) := by decide +kernel
theorem dX4_moveBeside_3 : decode cX4_moveBeside 3 = .ok (.iand, 1) := by decide +kernel
theorem dX4_moveBeside_4 : decode cX4_moveBeside 4 = .ok (.ifCond .ne 8, 3) := by decide +kernel
theorem dX4_moveBeside_7 : decode cX4_moveBeside 7 = .ok (.bipush 30, 2) := by decide +kernel
theorem dX4_moveBeside_9 : decode cX4_moveBeside 9 = .ok (.goto 5, 3) := by decide +kernel
theorem dX4_moveBeside_12 : decode cX4_moveBeside 12 = .ok (.bipush 28, 2) := by decide +kernel
theorem dX4_moveBeside_14 : decode cX4_moveBeside 14 = .ok (.istore_n 2, 1) := by decide +kernel
theorem dX4_moveBeside_15 : decode cX4_moveBeside 15 = .ok (.iload_n 1, 1) := by decide +kernel
theorem dX4_moveBeside_16 : decode cX4_moveBeside 16 = .ok (.bipush 8, 2) := by decide +kernel
theorem dX4_moveBeside_18 : decode cX4_moveBeside 18 = .ok (.ishr, 1) := by decide +kernel
theorem dX4_moveBeside_19 : decode cX4_moveBeside 19 = .ok (.bipush 32, 2) := by decide +kernel
theorem dX4_moveBeside_21 : decode cX4_moveBeside 21 = .ok (.iand, 1) := by decide +kernel
theorem dX4_moveBeside_22 : decode cX4_moveBeside 22 = .ok (.iload_n 1, 1) := by decide +kernel
theorem dX4_moveBeside_23 : decode cX4_moveBeside 23 = .ok (.bipush 7, 2) := by decide +kernel
theorem dX4_moveBeside_25 : decode cX4_moveBeside 25 = .ok (.ishr, 1) := by decide +kernel
theorem dX4_moveBeside_26 : decode cX4_moveBeside 26 = .ok (.bipush 24, 2) := by decide +kernel
theorem dX4_moveBeside_28 : decode cX4_moveBeside 28 = .ok (.iand, 1) := by decide +kernel
theorem dX4_moveBeside_29 : decode cX4_moveBeside 29 = .ok (.ior, 1) := by decide +kernel
theorem dX4_moveBeside_30 : decode cX4_moveBeside 30 = .ok (.iload_n 1, 1) := by decide +kernel
theorem dX4_moveBeside_31 : decode cX4_moveBeside 31 = .ok (.bipush 7, 2) := by decide +kernel
theorem dX4_moveBeside_33 : decode cX4_moveBeside 33 = .ok (.iand, 1) := by decide +kernel
theorem dX4_moveBeside_34 : decode cX4_moveBeside 34 = .ok (.ior, 1) := by decide +kernel
theorem dX4_moveBeside_35 : decode cX4_moveBeside 35 = .ok (.istore_n 3, 1) := by decide +kernel
theorem dX4_moveBeside_36 : decode cX4_moveBeside 36 = .ok (.aload_n 0, 1) := by decide +kernel
theorem dX4_moveBeside_37 : decode cX4_moveBeside 37 = .ok (.getfield 16, 3) := by decide +kernel
theorem dX4_moveBeside_40 : decode cX4_moveBeside 40 = .ok (.iload_n 2, 1) := by decide +kernel
theorem dX4_moveBeside_41 : decode cX4_moveBeside 41 = .ok (.invokevirtual 62, 3) := by decide +kernel
theorem dX4_moveBeside_44 : decode cX4_moveBeside 44 = .ok (.iload_n 3, 1) := by decide +kernel
theorem dX4_moveBeside_45 : decode cX4_moveBeside 45 = .ok (.iadd, 1) := by decide +kernel
theorem dX4_moveBeside_46 : decode cX4_moveBeside 46 = .ok (.ldc 50, 2) := by decide +kernel
theorem dX4_moveBeside_48 : decode cX4_moveBeside 48 = .ok (.iand, 1) := by decide +kernel
theorem dX4_moveBeside_49 : decode cX4_moveBeside 49 = .ok (.istore 4, 2) := by decide +kernel
theorem dX4_moveBeside_51 : decode cX4_moveBeside 51 = .ok (.iload 4, 2) := by decide +kernel
theorem dX4_moveBeside_53 : decode cX4_moveBeside 53 = .ok (.sipush 1023, 3) := by decide +kernel
theorem dX4_moveBeside_56 : decode cX4_moveBeside 56 = .ok (.if_icmp .le 5, 3) := by decide +kernel
theorem dX4_moveBeside_59 : decode cX4_moveBeside 59 = .ok (.iconst 3, 1) := by decide +kernel
theorem dX4_moveBeside_60 : decode cX4_moveBeside 60 = .ok (.ireturn, 1) := by decide +kernel
theorem dX4_moveBeside_61 : decode cX4_moveBeside 61 = .ok (.aload_n 0, 1) := by decide +kernel
theorem dX4_moveBeside_62 : decode cX4_moveBeside 62 = .ok (.iload_n 1, 1) := by decide +kernel
theorem dX4_moveBeside_63 : decode cX4_moveBeside 63 = .ok (.iload 4, 2) := by decide +kernel
theorem dX4_moveBeside_65 : decode cX4_moveBeside 65 = .ok (.invokevirtual 229, 3) := by decide +kernel
theorem dX4_moveBeside_68 : decode cX4_moveBeside 68 = .ok (.aload_n 0, 1) := by decide +kernel
theorem dX4_moveBeside_69 : decode cX4_moveBeside 69 = .ok (.iconst 1, 1) := by decide +kernel
theorem dX4_moveBeside_70 : decode cX4_moveBeside 70 = .ok (.invokevirtual 102, 3) := by decide +kernel
theorem dX4_moveBeside_73 : decode cX4_moveBeside 73 = .ok (.ireturn, 1) := by decide +kernel
set_option maxRecDepth 20000 in
theorem ggX4_moveFromCode_X0_pair : GoodIn wsX4_moveFromCode wsX0_pair := goodIn_r _ [7, 8, 40] (by decide +kernel) (by decide +kernel)
set_option maxRecDepth 20000 in
theorem gX4_moveFromCode_X0_pair : GoodIn wsX4_moveFromCode (wsV RX4 62 RX0 yX0_pair wsX0_pair) := goodIn_app (goodIn_of _ (by decide +kernel)) ggX4_moveFromCode_X0_pair
set_option maxRecDepth 20000 in
theorem ggX4_moveFromCode_X4_cellAt : GoodIn wsX4_moveFromCode wsX4_cellAt := goodIn_r _ [13, 14, 32, 33, 34, 35, 36, 37, 38, 39] (by decide +kernel) (by decide +kernel)
set_option maxRecDepth 20000 in
theorem gX4_moveFromCode_X4_cellAt : GoodIn wsX4_moveFromCode (wsV RX4 51 RX4 yX4_cellAt wsX4_cellAt) := goodIn_app (goodIn_of _ (by decide +kernel)) ggX4_moveFromCode_X4_cellAt
set_option maxRecDepth 20000 in
theorem ggX4_moveFromCode_X3_d : GoodIn wsX4_moveFromCode wsX3_d := goodIn_r _ [18] (by decide +kernel) (by decide +kernel)
set_option maxRecDepth 20000 in
theorem gX4_moveFromCode_X3_d : GoodIn wsX4_moveFromCode (va_wsS RX4 173 yX3_d wsX3_d) := goodIn_app (goodIn_of _ (by decide +kernel)) ggX4_moveFromCode_X3_d
set_option maxRecDepth 20000 in
theorem ggX4_moveFromCode_X0_set : GoodIn wsX4_moveFromCode wsX0_set := goodIn_r _ [22, 8, 40] (by decide +kernel) (by decide +kernel)
set_option maxRecDepth 20000 in
theorem gX4_moveFromCode_X0_set : GoodIn wsX4_moveFromCode (wsV RX4 58 RX0 yX0_set wsX0_set) := goodIn_app (goodIn_of _ (by decide +kernel)) ggX4_moveFromCode_X0_set
set_option maxRecDepth 20000 in
theorem ggX4_moveFromCode_X0_setPair : GoodIn wsX4_moveFromCode wsX0_setPair := goodIn_r _ [26, 8, 40] (by decide +kernel) (by decide +kernel)
set_option maxRecDepth 20000 in
theorem gX4_moveFromCode_X0_setPair : GoodIn wsX4_moveFromCode (wsV RX4 170 RX0 yX0_setPair wsX0_setPair) := goodIn_app (goodIn_of _ (by decide +kernel)) ggX4_moveFromCode_X0_setPair
set_option maxRecDepth 20000 in
theorem ggX4_moveFromCode_X4_onward : GoodIn wsX4_moveFromCode wsX4_onward := goodIn_r _ [30, 31, 32, 33, 34, 35, 36, 37, 38, 39] (by decide +kernel) (by decide +kernel)
set_option maxRecDepth 20000 in
theorem gX4_moveFromCode_X4_onward : GoodIn wsX4_moveFromCode (wsV RX4 102 RX4 yX4_onward wsX4_onward) := goodIn_app (goodIn_of _ (by decide +kernel)) ggX4_moveFromCode_X4_onward
theorem dX4_moveFromCode_0 : decode cX4_moveFromCode 0 = .ok (.aload_n 0, 1) := by decide +kernel
theorem dX4_moveFromCode_1 : decode cX4_moveFromCode 1 = .ok (.getfield 16, 3) := by decide +kernel
theorem dX4_moveFromCode_4 : decode cX4_moveFromCode 4 = .ok (.bipush 30, 2) := by decide +kernel
theorem dX4_moveFromCode_6 : decode cX4_moveFromCode 6 = .ok (.invokevirtual 62, 3) := by decide +kernel
theorem dX4_moveFromCode_9 : decode cX4_moveFromCode 9 = .ok (.istore_n 2, 1) := by decide +kernel
theorem dX4_moveFromCode_10 : decode cX4_moveFromCode 10 = .ok (.aload_n 0, 1) := by decide +kernel
theorem dX4_moveFromCode_11 : decode cX4_moveFromCode 11 = .ok (.iload_n 2, 1) := by decide +kernel
theorem dX4_moveFromCode_12 : decode cX4_moveFromCode 12 = .ok (.iconst 1, 1) := by decide +kernel
theorem dX4_moveFromCode_13 : decode cX4_moveFromCode 13 = .ok (.ishr, 1) := by decide +kernel
theorem dX4_moveFromCode_14 : decode cX4_moveFromCode 14 = .ok (.invokevirtual 51, 3) := by decide +kernel
theorem dX4_moveFromCode_17 : decode cX4_moveFromCode 17 = .ok (.istore_n 3, 1) := by decide +kernel
theorem dX4_moveFromCode_18 : decode cX4_moveFromCode 18 = .ok (.aload_n 0, 1) := by decide +kernel
theorem dX4_moveFromCode_19 : decode cX4_moveFromCode 19 = .ok (.getfield 16, 3) := by decide +kernel
theorem dX4_moveFromCode_22 : decode cX4_moveFromCode 22 = .ok (.iload_n 1, 1) := by decide +kernel
theorem dX4_moveFromCode_23 : decode cX4_moveFromCode 23 = .ok (.ldc 241, 2) := by decide +kernel
theorem dX4_moveFromCode_25 : decode cX4_moveFromCode 25 = .ok (.if_icmp .ne 7, 3) := by decide +kernel
theorem dX4_moveFromCode_28 : decode cX4_moveFromCode 28 = .ok (.iconst 0, 1) := by decide +kernel
theorem dX4_moveFromCode_29 : decode cX4_moveFromCode 29 = .ok (.goto 7, 3) := by decide +kernel
theorem dX4_moveFromCode_32 : decode cX4_moveFromCode 32 = .ok (.iload_n 1, 1) := by decide +kernel
theorem dX4_moveFromCode_33 : decode cX4_moveFromCode 33 = .ok (.invokestatic 173, 3) := by decide +kernel
theorem dX4_moveFromCode_36 : decode cX4_moveFromCode 36 = .ok (.iload_n 2, 1) := by decide +kernel
theorem dX4_moveFromCode_37 : decode cX4_moveFromCode 37 = .ok (.iconst 1, 1) := by decide +kernel
theorem dX4_moveFromCode_38 : decode cX4_moveFromCode 38 = .ok (.iand, 1) := by decide +kernel
theorem dX4_moveFromCode_39 : decode cX4_moveFromCode 39 = .ok (.ifCond .ne 7, 3) := by decide +kernel
theorem dX4_moveFromCode_42 : decode cX4_moveFromCode 42 = .ok (.iload_n 3, 1) := by decide +kernel
theorem dX4_moveFromCode_43 : decode cX4_moveFromCode 43 = .ok (.goto 7, 3) := by decide +kernel
theorem dX4_moveFromCode_46 : decode cX4_moveFromCode 46 = .ok (.iload_n 3, 1) := by decide +kernel
theorem dX4_moveFromCode_47 : decode cX4_moveFromCode 47 = .ok (.bipush 8, 2) := by decide +kernel
theorem dX4_moveFromCode_49 : decode cX4_moveFromCode 49 = .ok (.ishr, 1) := by decide +kernel
theorem dX4_moveFromCode_50 : decode cX4_moveFromCode 50 = .ok (.invokevirtual 58, 3) := by decide +kernel
theorem dX4_moveFromCode_53 : decode cX4_moveFromCode 53 = .ok (.iload_n 1, 1) := by decide +kernel
theorem dX4_moveFromCode_54 : decode cX4_moveFromCode 54 = .ok (.iconst 1, 1) := by decide +kernel
theorem dX4_moveFromCode_55 : decode cX4_moveFromCode 55 = .ok (.iand, 1) := by decide +kernel
theorem dX4_moveFromCode_56 : decode cX4_moveFromCode 56 = .ok (.iconst 1, 1) := by decide +kernel
theorem dX4_moveFromCode_57 : decode cX4_moveFromCode 57 = .ok (.if_icmp .ne 15, 3) := by decide +kernel
theorem dX4_moveFromCode_60 : decode cX4_moveFromCode 60 = .ok (.aload_n 0, 1) := by decide +kernel
theorem dX4_moveFromCode_61 : decode cX4_moveFromCode 61 = .ok (.getfield 16, 3) := by decide +kernel
theorem dX4_moveFromCode_64 : decode cX4_moveFromCode 64 = .ok (.bipush 30, 2) := by decide +kernel
theorem dX4_moveFromCode_66 : decode cX4_moveFromCode 66 = .ok (.iload_n 2, 1) := by decide +kernel
theorem dX4_moveFromCode_67 : decode cX4_moveFromCode 67 = .ok (.iconst 1, 1) := by decide +kernel
theorem dX4_moveFromCode_68 : decode cX4_moveFromCode 68 = .ok (.iadd, 1) := by decide +kernel
theorem dX4_moveFromCode_69 : decode cX4_moveFromCode 69 = .ok (.invokevirtual 170, 3) := by decide +kernel
theorem dX4_moveFromCode_72 : decode cX4_moveFromCode 72 = .ok (.aload_n 0, 1) := by decide +kernel
theorem dX4_moveFromCode_73 : decode cX4_moveFromCode 73 = .ok (.iconst 1, 1) := by decide +kernel
theorem dX4_moveFromCode_74 : decode cX4_moveFromCode 74 = .ok (.invokevirtual 102, 3) := by decide +kernel
theorem dX4_moveFromCode_77 : decode cX4_moveFromCode 77 = .ok (.ireturn, 1) := by decide +kernel
set_option maxRecDepth 20000 in
theorem ggX4_movePort_X3_d : GoodIn wsX4_movePort wsX3_d := goodIn_r _ [5] (by decide +kernel) (by decide +kernel)
set_option maxRecDepth 20000 in
theorem gX4_movePort_X3_d : GoodIn wsX4_movePort (va_wsS RX4 173 yX3_d wsX3_d) := goodIn_app (goodIn_of _ (by decide +kernel)) ggX4_movePort_X3_d
set_option maxRecDepth 20000 in
theorem ggX4_movePort_X0_get : GoodIn wsX4_movePort wsX0_get := goodIn_r _ [10, 11, 30] (by decide +kernel) (by decide +kernel)
set_option maxRecDepth 20000 in
theorem gX4_movePort_X0_get : GoodIn wsX4_movePort (wsV RX4 55 RX0 yX0_get wsX0_get) := goodIn_app (goodIn_of _ (by decide +kernel)) ggX4_movePort_X0_get
set_option maxRecDepth 20000 in
theorem ggX4_movePort_X0_set : GoodIn wsX4_movePort wsX0_set := goodIn_r _ [15, 11, 30] (by decide +kernel) (by decide +kernel)
set_option maxRecDepth 20000 in
theorem gX4_movePort_X0_set : GoodIn wsX4_movePort (wsV RX4 58 RX0 yX0_set wsX0_set) := goodIn_app (goodIn_of _ (by decide +kernel)) ggX4_movePort_X0_set
set_option maxRecDepth 20000 in
theorem ggX4_movePort_X4_onward : GoodIn wsX4_movePort wsX4_onward := goodIn_r _ [20, 21, 22, 23, 24, 25, 26, 27, 28, 29] (by decide +kernel) (by decide +kernel)
set_option maxRecDepth 20000 in
theorem gX4_movePort_X4_onward : GoodIn wsX4_movePort (wsV RX4 102 RX4 yX4_onward wsX4_onward) := goodIn_app (goodIn_of _ (by decide +kernel)) ggX4_movePort_X4_onward
theorem dX4_movePort_0 : decode cX4_movePort 0 = .ok (.iload_n 1, 1) := by decide +kernel
theorem dX4_movePort_1 : decode cX4_movePort 1 = .ok (.invokestatic 173, 3) := by decide +kernel
theorem dX4_movePort_4 : decode cX4_movePort 4 = .ok (.istore_n 2, 1) := by decide +kernel
theorem dX4_movePort_5 : decode cX4_movePort 5 = .ok (.bipush 32, 2) := by decide +kernel
theorem dX4_movePort_7 : decode cX4_movePort 7 = .ok (.iload_n 1, 1) := by decide +kernel
theorem dX4_movePort_8 : decode cX4_movePort 8 = .ok (.iconst 5, 1) := by decide +kernel
theorem dX4_movePort_9 : decode cX4_movePort 9 = .ok (.ishr, 1) := by decide +kernel
theorem dX4_movePort_10 : decode cX4_movePort 10 = .ok (.bipush 48, 2) := by decide +kernel
theorem dX4_movePort_12 : decode cX4_movePort 12 = .ok (.iand, 1) := by decide +kernel
theorem dX4_movePort_13 : decode cX4_movePort 13 = .ok (.iload_n 1, 1) := by decide +kernel
theorem dX4_movePort_14 : decode cX4_movePort 14 = .ok (.bipush 15, 2) := by decide +kernel
theorem dX4_movePort_16 : decode cX4_movePort 16 = .ok (.iand, 1) := by decide +kernel
theorem dX4_movePort_17 : decode cX4_movePort 17 = .ok (.ior, 1) := by decide +kernel
theorem dX4_movePort_18 : decode cX4_movePort 18 = .ok (.iadd, 1) := by decide +kernel
theorem dX4_movePort_19 : decode cX4_movePort 19 = .ok (.istore_n 3, 1) := by decide +kernel
theorem dX4_movePort_20 : decode cX4_movePort 20 = .ok (.iload_n 1, 1) := by decide +kernel
theorem dX4_movePort_21 : decode cX4_movePort 21 = .ok (.sipush 2048, 3) := by decide +kernel
theorem dX4_movePort_24 : decode cX4_movePort 24 = .ok (.iand, 1) := by decide +kernel
theorem dX4_movePort_25 : decode cX4_movePort 25 = .ok (.ifCond .ne 22, 3) := by decide +kernel
theorem dX4_movePort_28 : decode cX4_movePort 28 = .ok (.aload_n 0, 1) := by decide +kernel
theorem dX4_movePort_29 : decode cX4_movePort 29 = .ok (.getfield 16, 3) := by decide +kernel
theorem dX4_movePort_32 : decode cX4_movePort 32 = .ok (.iload_n 2, 1) := by decide +kernel
theorem dX4_movePort_33 : decode cX4_movePort 33 = .ok (.aload_n 0, 1) := by decide +kernel
theorem dX4_movePort_34 : decode cX4_movePort 34 = .ok (.getfield 16, 3) := by decide +kernel
theorem dX4_movePort_37 : decode cX4_movePort 37 = .ok (.iload_n 3, 1) := by decide +kernel
theorem dX4_movePort_38 : decode cX4_movePort 38 = .ok (.invokevirtual 55, 3) := by decide +kernel
theorem dX4_movePort_41 : decode cX4_movePort 41 = .ok (.invokevirtual 58, 3) := by decide +kernel
theorem dX4_movePort_44 : decode cX4_movePort 44 = .ok (.goto 19, 3) := by decide +kernel
theorem dX4_movePort_47 : decode cX4_movePort 47 = .ok (.aload_n 0, 1) := by decide +kernel
theorem dX4_movePort_48 : decode cX4_movePort 48 = .ok (.getfield 16, 3) := by decide +kernel
theorem dX4_movePort_51 : decode cX4_movePort 51 = .ok (.iload_n 3, 1) := by decide +kernel
theorem dX4_movePort_52 : decode cX4_movePort 52 = .ok (.aload_n 0, 1) := by decide +kernel
theorem dX4_movePort_53 : decode cX4_movePort 53 = .ok (.getfield 16, 3) := by decide +kernel
theorem dX4_movePort_56 : decode cX4_movePort 56 = .ok (.iload_n 2, 1) := by decide +kernel
theorem dX4_movePort_57 : decode cX4_movePort 57 = .ok (.invokevirtual 55, 3) := by decide +kernel
theorem dX4_movePort_60 : decode cX4_movePort 60 = .ok (.invokevirtual 58, 3) := by decide +kernel
theorem dX4_movePort_63 : decode cX4_movePort 63 = .ok (.aload_n 0, 1) := by decide +kernel
theorem dX4_movePort_64 : decode cX4_movePort 64 = .ok (.iconst 1, 1) := by decide +kernel
theorem dX4_movePort_65 : decode cX4_movePort 65 = .ok (.invokevirtual 102, 3) := by decide +kernel
theorem dX4_movePort_68 : decode cX4_movePort 68 = .ok (.ireturn, 1) := by decide +kernel
set_option maxRecDepth 20000 in
theorem ggX4_setPortBit_X0_setBit : GoodIn wsX4_setPortBit wsX0_setBit := goodIn_r _ [6, 7, 8, 9, 5, 10, 11, 12, 13, 14, 15, 30] (by decide +kernel) (by decide +kernel)
set_option maxRecDepth 20000 in
theorem gX4_setPortBit_X0_setBit : GoodIn wsX4_setPortBit (wsV RX4 242 RX0 yX0_setBit wsX0_setBit) := goodIn_app (goodIn_of _ (by decide +kernel)) ggX4_setPortBit_X0_setBit
set_option maxRecDepth 20000 in
theorem ggX4_setPortBit_X4_onward : GoodIn wsX4_setPortBit wsX4_onward := goodIn_r _ [20, 21, 22, 23, 24, 25, 26, 27, 28, 29] (by decide +kernel) (by decide +kernel)
set_option maxRecDepth 20000 in
theorem gX4_setPortBit_X4_onward : GoodIn wsX4_setPortBit (wsV RX4 102 RX4 yX4_onward wsX4_onward) := goodIn_app (goodIn_of _ (by decide +kernel)) ggX4_setPortBit_X4_onward
theorem dX4_setPortBit_0 : decode cX4_setPortBit 0 = .ok (.aload_n 0, 1) := by decide +kernel
theorem dX4_setPortBit_1 : decode cX4_setPortBit 1 = .ok (.getfield 16, 3) := by decide +kernel
theorem dX4_setPortBit_4 : decode cX4_setPortBit 4 = .ok (.bipush 32, 2) := by decide +kernel
theorem dX4_setPortBit_6 : decode cX4_setPortBit 6 = .ok (.iload_n 1, 1) := by decide +kernel
theorem dX4_setPortBit_7 : decode cX4_setPortBit 7 = .ok (.iconst 3, 1) := by decide +kernel
theorem dX4_setPortBit_8 : decode cX4_setPortBit 8 = .ok (.ishr, 1) := by decide +kernel
theorem dX4_setPortBit_9 : decode cX4_setPortBit 9 = .ok (.bipush 31, 2) := by decide +kernel
theorem dX4_setPortBit_11 : decode cX4_setPortBit 11 = .ok (.iand, 1) := by decide +kernel
theorem dX4_setPortBit_12 : decode cX4_setPortBit 12 = .ok (.iadd, 1) := by decide +kernel
theorem dX4_setPortBit_13 : decode cX4_setPortBit 13 = .ok (.iload_n 1, 1) := by decide +kernel
theorem dX4_setPortBit_14 : decode cX4_setPortBit 14 = .ok (.bipush 7, 2) := by decide +kernel
theorem dX4_setPortBit_16 : decode cX4_setPortBit 16 = .ok (.iand, 1) := by decide +kernel
theorem dX4_setPortBit_17 : decode cX4_setPortBit 17 = .ok (.iload_n 1, 1) := by decide +kernel
theorem dX4_setPortBit_18 : decode cX4_setPortBit 18 = .ok (.bipush 9, 2) := by decide +kernel
theorem dX4_setPortBit_20 : decode cX4_setPortBit 20 = .ok (.ishr, 1) := by decide +kernel
theorem dX4_setPortBit_21 : decode cX4_setPortBit 21 = .ok (.iconst 1, 1) := by decide +kernel
theorem dX4_setPortBit_22 : decode cX4_setPortBit 22 = .ok (.iand, 1) := by decide +kernel
theorem dX4_setPortBit_23 : decode cX4_setPortBit 23 = .ok (.invokevirtual 242, 3) := by decide +kernel
theorem dX4_setPortBit_26 : decode cX4_setPortBit 26 = .ok (.aload_n 0, 1) := by decide +kernel
theorem dX4_setPortBit_27 : decode cX4_setPortBit 27 = .ok (.iconst 1, 1) := by decide +kernel
theorem dX4_setPortBit_28 : decode cX4_setPortBit 28 = .ok (.invokevirtual 102, 3) := by decide +kernel
theorem dX4_setPortBit_31 : decode cX4_setPortBit 31 = .ok (.ireturn, 1) := by decide +kernel
set_option maxRecDepth 20000 in
theorem ggX4_skipByPort_X0_bit : GoodIn wsX4_skipByPort wsX0_bit := goodIn_r _ [6, 7, 40] (by decide +kernel) (by decide +kernel)
set_option maxRecDepth 20000 in
theorem gX4_skipByPort_X0_bit : GoodIn wsX4_skipByPort (wsV RX4 245 RX0 yX0_bit wsX0_bit) := goodIn_app (goodIn_of _ (by decide +kernel)) ggX4_skipByPort_X0_bit
set_option maxRecDepth 20000 in
theorem ggX4_skipByPort_X4_skip : GoodIn wsX4_skipByPort wsX4_skip := goodIn_r _ [12, 13, 14, 15, 16, 17, 11, 18, 19, 20, 21, 22, 23, 24, 25, 26, 27, 28, 29, 30, 31, 32, 33, 34, 35, 36, 37, 38, 39] (by decide +kernel) (by decide +kernel)
set_option maxRecDepth 20000 in
theorem gX4_skipByPort_X4_skip : GoodIn wsX4_skipByPort (wsV RX4 200 RX4 yX4_skip wsX4_skip) := goodIn_app (goodIn_of _ (by decide +kernel)) ggX4_skipByPort_X4_skip
theorem dX4_skipByPort_0 : decode cX4_skipByPort 0 = .ok (.aload_n 0, 1) := by decide +kernel
theorem dX4_skipByPort_1 : decode cX4_skipByPort 1 = .ok (.aload_n 0, 1) := by decide +kernel
theorem dX4_skipByPort_2 : decode cX4_skipByPort 2 = .ok (.getfield 16, 3) := by decide +kernel
theorem dX4_skipByPort_5 : decode cX4_skipByPort 5 = .ok (.bipush 32, 2) := by decide +kernel
theorem dX4_skipByPort_7 : decode cX4_skipByPort 7 = .ok (.iload_n 1, 1) := by decide +kernel
theorem dX4_skipByPort_8 : decode cX4_skipByPort 8 = .ok (.iconst 3, 1) := by decide +kernel
theorem dX4_skipByPort_9 : decode cX4_skipByPort 9 = .ok (.ishr, 1) := by decide +kernel
theorem dX4_skipByPort_10 : decode cX4_skipByPort 10 = .ok (.bipush 31, 2) := by decide +kernel
theorem dX4_skipByPort_12 : decode cX4_skipByPort 12 = .ok (.iand, 1) := by decide +kernel
theorem dX4_skipByPort_13 : decode cX4_skipByPort 13 = .ok (.iadd, 1) := by decide +kernel
theorem dX4_skipByPort_14 : decode cX4_skipByPort 14 = .ok (.iload_n 1, 1) := by decide +kernel
theorem dX4_skipByPort_15 : decode cX4_skipByPort 15 = .ok (.bipush 7, 2) := by decide +kernel
theorem dX4_skipByPort_17 : decode cX4_skipByPort 17 = .ok (.iand, 1) := by decide +kernel
theorem dX4_skipByPort_18 : decode cX4_skipByPort 18 = .ok (.invokevirtual 245, 3) := by decide +kernel
theorem dX4_skipByPort_21 : decode cX4_skipByPort 21 = .ok (.iload_n 1, 1) := by decide +kernel
theorem dX4_skipByPort_22 : decode cX4_skipByPort 22 = .ok (.bipush 9, 2) := by decide +kernel
theorem dX4_skipByPort_24 : decode cX4_skipByPort 24 = .ok (.ishr, 1) := by decide +kernel
theorem dX4_skipByPort_25 : decode cX4_skipByPort 25 = .ok (.iconst 1, 1) := by decide +kernel
theorem dX4_skipByPort_26 : decode cX4_skipByPort 26 = .ok (.iand, 1) := by decide +kernel
theorem dX4_skipByPort_27 : decode cX4_skipByPort 27 = .ok (.if_icmp .ne 7, 3) := by decide +kernel
theorem dX4_skipByPort_30 : decode cX4_skipByPort 30 = .ok (.iconst 1, 1) := by decide +kernel
theorem dX4_skipByPort_31 : decode cX4_skipByPort 31 = .ok (.goto 4, 3) := by decide +kernel
theorem dX4_skipByPort_34 : decode cX4_skipByPort 34 = .ok (.iconst 0, 1) := by decide +kernel
theorem dX4_skipByPort_35 : decode cX4_skipByPort 35 = .ok (.invokevirtual 200, 3) := by decide +kernel
theorem dX4_skipByPort_38 : decode cX4_skipByPort 38 = .ok (.ireturn, 1) := by decide +kernel
set_option maxRecDepth 20000 in
theorem ggX4_skipByBit_X3_d : GoodIn wsX4_skipByBit wsX3_d := goodIn_r _ [5] (by decide +kernel) (by decide +kernel)
set_option maxRecDepth 20000 in
theorem gX4_skipByBit_X3_d : GoodIn wsX4_skipByBit (va_wsS RX4 173 yX3_d wsX3_d) := goodIn_app (goodIn_of _ (by decide +kernel)) ggX4_skipByBit_X3_d
set_option maxRecDepth 20000 in
theorem ggX4_skipByBit_X0_bit : GoodIn wsX4_skipByBit wsX0_bit := goodIn_r _ [10, 11, 43] (by decide +kernel) (by decide +kernel)
set_option maxRecDepth 20000 in
theorem gX4_skipByBit_X0_bit : GoodIn wsX4_skipByBit (wsV RX4 245 RX0 yX0_bit wsX0_bit) := goodIn_app (goodIn_of _ (by decide +kernel)) ggX4_skipByBit_X0_bit
set_option maxRecDepth 20000 in
theorem ggX4_skipByBit_X4_skip : GoodIn wsX4_skipByBit wsX4_skip := goodIn_r _ [16, 17, 18, 19, 20, 21, 15, 22, 23, 24, 25, 26, 27, 28, 29, 4, 30, 31, 32, 33, 34, 35, 36, 37, 38, 39, 40, 41, 42] (by decide +kernel) (by decide +kernel)
set_option maxRecDepth 20000 in
theorem gX4_skipByBit_X4_skip : GoodIn wsX4_skipByBit (wsV RX4 200 RX4 yX4_skip wsX4_skip) := goodIn_app (goodIn_of _ (by decide +kernel)) ggX4_skipByBit_X4_skip
theorem dX4_skipByBit_0 : decode cX4_skipByBit 0 = .ok (.aload_n 0, 1) := by decide +kernel
theorem dX4_skipByBit_1 : decode cX4_skipByBit 1 = .ok (.aload_n 0, 1) := by decide +kernel
theorem dX4_skipByBit_2 : decode cX4_skipByBit 2 = .ok (.getfield 16, 3) := by decide +kernel
theorem dX4_skipByBit_5 : decode cX4_skipByBit 5 = .ok (.iload_n 1, 1) := by decide +kernel
theorem dX4_skipByBit_6 : decode cX4_skipByBit 6 = .ok (.invokestatic 173, 3) := by decide +kernel
theorem dX4_skipByBit_9 : decode cX4_skipByBit 9 = .ok (.iload_n 1, 1) := by decide +kernel
theorem dX4_skipByBit_10 : decode cX4_skipByBit 10 = .ok (.bipush 7, 2) := by decide +kernel
theorem dX4_skipByBit_12 : decode cX4_skipByBit 12 = .ok (.iand, 1) := by decide +kernel
theorem dX4_skipByBit_13 : decode cX4_skipByBit 13 = .ok (.invokevirtual 245, 3) := by decide +kernel
theorem dX4_skipByBit_16 : decode cX4_skipByBit 16 = .ok (.iload_n 1, 1) := by decide +kernel
theorem dX4_skipByBit_17 : decode cX4_skipByBit 17 = .ok (.bipush 9, 2) := by decide +kernel
theorem dX4_skipByBit_19 : decode cX4_skipByBit 19 = .ok (.ishr, 1) := by decide +kernel
theorem dX4_skipByBit_20 : decode cX4_skipByBit 20 = .ok (.iconst 1, 1) := by decide +kernel
theorem dX4_skipByBit_21 : decode cX4_skipByBit 21 = .ok (.iand, 1) := by decide +kernel
theorem dX4_skipByBit_22 : decode cX4_skipByBit 22 = .ok (.if_icmp .ne 7, 3) := by decide +kernel
theorem dX4_skipByBit_25 : decode cX4_skipByBit 25 = .ok (.iconst 1, 1) := by decide +kernel
theorem dX4_skipByBit_26 : decode cX4_skipByBit 26 = .ok (.goto 4, 3) := by decide +kernel
theorem dX4_skipByBit_29 : decode cX4_skipByBit 29 = .ok (.iconst 0, 1) := by decide +kernel
theorem dX4_skipByBit_30 : decode cX4_skipByBit 30 = .ok (.invokevirtual 200, 3) := by decide +kernel
theorem dX4_skipByBit_33 : decode cX4_skipByBit 33 = .ok (.ireturn, 1) := by decide +kernel
set_option maxRecDepth 20000 in
theorem ggX4_moveBit_X3_d : GoodIn wsX4_moveBit wsX3_d := goodIn_r _ [5] (by decide +kernel) (by decide +kernel)
set_option maxRecDepth 20000 in
theorem gX4_moveBit_X3_d : GoodIn wsX4_moveBit (va_wsS RX4 173 yX3_d wsX3_d) := goodIn_app (goodIn_of _ (by decide +kernel)) ggX4_moveBit_X3_d
set_option maxRecDepth 20000 in
theorem ggX4_moveBit_X0_flag : GoodIn wsX4_moveBit wsX0_flag := goodIn_r _ [10, 11, 47] (by decide +kernel) (by decide +kernel)
set_option maxRecDepth 20000 in
theorem gX4_moveBit_X0_flag : GoodIn wsX4_moveBit (wsV RX4 80 RX0 yX0_flag wsX0_flag) := goodIn_app (goodIn_of _ (by decide +kernel)) ggX4_moveBit_X0_flag
set_option maxRecDepth 20000 in
theorem ggX4_moveBit_X0_setBit : GoodIn wsX4_moveBit wsX0_setBit := goodIn_r _ [15, 16, 17, 18, 9, 19, 11, 20, 21, 22, 23, 47] (by decide +kernel) (by decide +kernel)
set_option maxRecDepth 20000 in
theorem gX4_moveBit_X0_setBit : GoodIn wsX4_moveBit (wsV RX4 242 RX0 yX0_setBit wsX0_setBit) := goodIn_app (goodIn_of _ (by decide +kernel)) ggX4_moveBit_X0_setBit
set_option maxRecDepth 20000 in
theorem ggX4_moveBit_X0_bit : GoodIn wsX4_moveBit wsX0_bit := goodIn_r _ [27, 11, 47] (by decide +kernel) (by decide +kernel)
set_option maxRecDepth 20000 in
theorem gX4_moveBit_X0_bit : GoodIn wsX4_moveBit (wsV RX4 245 RX0 yX0_bit wsX0_bit) := goodIn_app (goodIn_of _ (by decide +kernel)) ggX4_moveBit_X0_bit
set_option maxRecDepth 20000 in
theorem ggX4_moveBit_X0_setFlag : GoodIn wsX4_moveBit wsX0_setFlag := goodIn_r _ [31, 32, 13, 14, 9, 15, 16, 17, 18, 19, 11, 20, 21, 22, 23, 47] (by decide +kernel) (by decide +kernel)
set_option maxRecDepth 20000 in
theorem gX4_moveBit_X0_setFlag : GoodIn wsX4_moveBit (wsV RX4 99 RX0 yX0_setFlag wsX0_setFlag) := goodIn_app (goodIn_of _ (by decide +kernel)) ggX4_moveBit_X0_setFlag
set_option maxRecDepth 20000 in
theorem ggX4_moveBit_X4_onward : GoodIn wsX4_moveBit wsX4_onward := goodIn_r _ [37, 38, 39, 40, 41, 42, 43, 44, 45, 46] (by decide +kernel) (by decide +kernel)
set_option maxRecDepth 20000 in
theorem gX4_moveBit_X4_onward : GoodIn wsX4_moveBit (wsV RX4 102 RX4 yX4_onward wsX4_onward) := goodIn_app (goodIn_of _ (by decide +kernel)) ggX4_moveBit_X4_onward
theorem dX4_moveBit_0 : decode cX4_moveBit 0 = .ok (.iload_n 1, 1) := by decide +kernel
theorem dX4_moveBit_1 : decode cX4_moveBit 1 = .ok (.invokestatic 173, 3) := by decide +kernel
theorem dX4_moveBit_4 : decode cX4_moveBit 4 = .ok (.istore_n 2, 1) := by decide +kernel
theorem dX4_moveBit_5 : decode cX4_moveBit 5 = .ok (.iload_n 1, 1) := by decide +kernel
theorem dX4_moveBit_6 : decode cX4_moveBit 6 = .ok (.sipush 512, 3) := by decide +kernel
theorem dX4_moveBit_9 : decode cX4_moveBit 9 = .ok (.iand, 1) := by decide +kernel
theorem dX4_moveBit_10 : decode cX4_moveBit 10 = .ok (.ifCond .ne 27, 3) := by decide +kernel
theorem dX4_moveBit_13 : decode cX4_moveBit 13 = .ok (.aload_n 0, 1) := by decide +kernel
theorem dX4_moveBit_14 : decode cX4_moveBit 14 = .ok (.getfield 16, 3) := by decide +kernel
theorem dX4_moveBit_17 : decode cX4_moveBit 17 = .ok (.iload_n 2, 1) := by decide +kernel
theorem dX4_moveBit_18 : decode cX4_moveBit 18 = .ok (.iload_n 1, 1) := by decide +kernel
theorem dX4_moveBit_19 : decode cX4_moveBit 19 = .ok (.bipush 7, 2) := by decide +kernel
theorem dX4_moveBit_21 : decode cX4_moveBit 21 = .ok (.iand, 1) := by decide +kernel
theorem dX4_moveBit_22 : decode cX4_moveBit 22 = .ok (.aload_n 0, 1) := by decide +kernel
theorem dX4_moveBit_23 : decode cX4_moveBit 23 = .ok (.getfield 16, 3) := by decide +kernel
theorem dX4_moveBit_26 : decode cX4_moveBit 26 = .ok (.bipush 6, 2) := by decide +kernel
theorem dX4_moveBit_28 : decode cX4_moveBit 28 = .ok (.invokevirtual 80, 3) := by decide +kernel
theorem dX4_moveBit_31 : decode cX4_moveBit 31 = .ok (.invokevirtual 242, 3) := by decide +kernel
theorem dX4_moveBit_34 : decode cX4_moveBit 34 = .ok (.goto 24, 3) := by decide +kernel
theorem dX4_moveBit_37 : decode cX4_moveBit 37 = .ok (.aload_n 0, 1) := by decide +kernel
theorem dX4_moveBit_38 : decode cX4_moveBit 38 = .ok (.getfield 16, 3) := by decide +kernel
theorem dX4_moveBit_41 : decode cX4_moveBit 41 = .ok (.bipush 6, 2) := by decide +kernel
theorem dX4_moveBit_43 : decode cX4_moveBit 43 = .ok (.aload_n 0, 1) := by decide +kernel
theorem dX4_moveBit_44 : decode cX4_moveBit 44 = .ok (.getfield 16, 3) := by decide +kernel
theorem dX4_moveBit_47 : decode cX4_moveBit 47 = .ok (.iload_n 2, 1) := by decide +kernel
theorem dX4_moveBit_48 : decode cX4_moveBit 48 = .ok (.iload_n 1, 1) := by decide +kernel
theorem dX4_moveBit_49 : decode cX4_moveBit 49 = .ok (.bipush 7, 2) := by decide +kernel
theorem dX4_moveBit_51 : decode cX4_moveBit 51 = .ok (.iand, 1) := by decide +kernel
theorem dX4_moveBit_52 : decode cX4_moveBit 52 = .ok (.invokevirtual 245, 3) := by decide +kernel
theorem dX4_moveBit_55 : decode cX4_moveBit 55 = .ok (.invokevirtual 99, 3) := by decide +kernel
theorem dX4_moveBit_58 : decode cX4_moveBit 58 = .ok (.aload_n 0, 1) := by decide +kernel
theorem dX4_moveBit_59 : decode cX4_moveBit 59 = .ok (.iconst 1, 1) := by decide +kernel
theorem dX4_moveBit_60 : decode cX4_moveBit 60 = .ok (.invokevirtual 102, 3) := by decide +kernel
theorem dX4_moveBit_63 : decode cX4_moveBit 63 = .ok (.ireturn, 1) := by decide +kernel
set_option maxRecDepth 20000 in
theorem ggX4_jumpNear_X4_jumpTo : GoodIn wsX4_jumpNear wsX4_jumpTo := goodIn_r _ [6, 1, 31, 32, 33, 34, 35, 36, 37, 38] (by decide +kernel) (by decide +kernel)
set_option maxRecDepth 20000 in
theorem gX4_jumpNear_X4_jumpTo : GoodIn wsX4_jumpNear (wsV RX4 248 RX4 yX4_jumpTo wsX4_jumpTo) := goodIn_app (goodIn_of _ (by decide +kernel)) ggX4_jumpNear_X4_jumpTo
set_option maxRecDepth 20000 in
theorem ggX4_jumpNear_X4_callTo : GoodIn wsX4_jumpNear wsX4_callTo := goodIn_r _ [10, 11, 12, 1, 13, 14, 15, 16, 17, 18, 19, 20, 21, 22, 23, 24, 25, 26, 27, 28, 29, 30, 31, 32, 33, 34, 35, 36, 37, 38, 39] (by decide +kernel) (by decide +kernel)
set_option maxRecDepth 20000 in
theorem gX4_jumpNear_X4_callTo : GoodIn wsX4_jumpNear (wsV RX4 251 RX4 yX4_callTo wsX4_callTo) := goodIn_app (goodIn_of _ (by decide +kernel)) ggX4_jumpNear_X4_callTo
theorem dX4_jumpNear_0 : decode cX4_jumpNear 0 = .ok (.iload_n 1, 1) := by decide +kernel
theorem dX4_jumpNear_1 : decode cX4_jumpNear 1 = .ok (.bipush 20, 2) := by decide +kernel
theorem dX4_jumpNear_3 : decode cX4_jumpNear 3 = .ok (.ishl, 1) := by decide +kernel
theorem dX4_jumpNear_4 : decode cX4_jumpNear 4 = .ok (.bipush 20, 2) := by decide +kernel
theorem dX4_jumpNear_6 : decode cX4_jumpNear 6 = .ok (.ishr, 1) := by decide +kernel
theorem dX4_jumpNear_7 : decode cX4_jumpNear 7 = .ok (.istore_n 2, 1) := by decide +kernel
theorem dX4_jumpNear_8 : decode cX4_jumpNear 8 = .ok (.aload_n 0, 1) := by decide +kernel
theorem dX4_jumpNear_9 : decode cX4_jumpNear 9 = .ok (.getfield 32, 3) := by decide +kernel
theorem dX4_jumpNear_12 : decode cX4_jumpNear 12 = .ok (.iconst 1, 1) := by decide +kernel
theorem dX4_jumpNear_13 : decode cX4_jumpNear 13 = .ok (.iadd, 1) := by decide +kernel
theorem dX4_jumpNear_14 : decode cX4_jumpNear 14 = .ok (.istore_n 3, 1) := by decide +kernel
theorem dX4_jumpNear_15 : decode cX4_jumpNear 15 = .ok (.iload_n 1, 1) := by decide +kernel
theorem dX4_jumpNear_16 : decode cX4_jumpNear 16 = .ok (.sipush 4096, 3) := by decide +kernel
theorem dX4_jumpNear_19 : decode cX4_jumpNear 19 = .ok (.iand, 1) := by decide +kernel
theorem dX4_jumpNear_20 : decode cX4_jumpNear 20 = .ok (.ifCond .ne 13, 3) := by decide +kernel
theorem dX4_jumpNear_23 : decode cX4_jumpNear 23 = .ok (.aload_n 0, 1) := by decide +kernel
theorem dX4_jumpNear_24 : decode cX4_jumpNear 24 = .ok (.iload_n 3, 1) := by decide +kernel
theorem dX4_jumpNear_25 : decode cX4_jumpNear 25 = .ok (.iload_n 2, 1) := by decide +kernel
theorem dX4_jumpNear_26 : decode cX4_jumpNear 26 = .ok (.iadd, 1) := by decide +kernel
theorem dX4_jumpNear_27 : decode cX4_jumpNear 27 = .ok (.invokevirtual 248, 3) := by decide +kernel
theorem dX4_jumpNear_30 : decode cX4_jumpNear 30 = .ok (.goto 11, 3) := by decide +kernel
theorem dX4_jumpNear_33 : decode cX4_jumpNear 33 = .ok (.aload_n 0, 1) := by decide +kernel
theorem dX4_jumpNear_34 : decode cX4_jumpNear 34 = .ok (.iload_n 3, 1) := by decide +kernel
theorem dX4_jumpNear_35 : decode cX4_jumpNear 35 = .ok (.iload_n 2, 1) := by decide +kernel
theorem dX4_jumpNear_36 : decode cX4_jumpNear 36 = .ok (.iadd, 1) := by decide +kernel
theorem dX4_jumpNear_37 : decode cX4_jumpNear 37 = .ok (.iload_n 3, 1) := by decide +kernel
theorem dX4_jumpNear_38 : decode cX4_jumpNear 38 = .ok (.invokevirtual 251, 3) := by decide +kernel
theorem dX4_jumpNear_41 : decode cX4_jumpNear 41 = .ok (.ireturn, 1) := by decide +kernel
set_option maxRecDepth 20000 in
theorem ggX4_branch_X0_flag : GoodIn wsX4_branch wsX0_flag := goodIn_r _ [6, 7, 22] (by decide +kernel) (by decide +kernel)
set_option maxRecDepth 20000 in
theorem gX4_branch_X0_flag : GoodIn wsX4_branch (wsV RX4 80 RX0 yX0_flag wsX0_flag) := goodIn_app (goodIn_of _ (by decide +kernel)) ggX4_branch_X0_flag
set_option maxRecDepth 20000 in
theorem ggX4_branch_X4_onward : GoodIn wsX4_branch wsX4_onward := goodIn_r _ [12, 13, 14, 15, 16, 17, 18, 19, 20, 21] (by decide +kernel) (by decide +kernel)
set_option maxRecDepth 20000 in
theorem gX4_branch_X4_onward : GoodIn wsX4_branch (wsV RX4 102 RX4 yX4_onward wsX4_onward) := goodIn_app (goodIn_of _ (by decide +kernel)) ggX4_branch_X4_onward
theorem dX4_branch_0 : decode cX4_branch 0 = .ok (.iload_n 1, 1) := by decide +kernel
theorem dX4_branch_1 : decode cX4_branch 1 = .ok (.bipush 22, 2) := by decide +kernel
theorem dX4_branch_3 : decode cX4_branch 3 = .ok (.ishl, 1) := by decide +kernel
theorem dX4_branch_4 : decode cX4_branch 4 = .ok (.bipush 25, 2) := by decide +kernel
theorem dX4_branch_6 : decode cX4_branch 6 = .ok (.ishr, 1) := by decide +kernel
theorem dX4_branch_7 : decode cX4_branch 7 = .ok (.istore_n 2, 1) := by decide +kernel
theorem dX4_branch_8 : decode cX4_branch 8 = .ok (.iload_n 1, 1) := by decide +kernel
theorem dX4_branch_9 : decode cX4_branch 9 = .ok (.sipush 1024, 3) := by decide +kernel
theorem dX4_branch_12 : decode cX4_branch 12 = .ok (.iand, 1) := by decide +kernel
theorem dX4_branch_13 : decode cX4_branch 13 = .ok (.ifCond .ne 7, 3) := by decide +kernel
theorem dX4_branch_16 : decode cX4_branch 16 = .ok (.iconst 1, 1) := by decide +kernel
theorem dX4_branch_17 : decode cX4_branch 17 = .ok (.goto 4, 3) := by decide +kernel
theorem dX4_branch_20 : decode cX4_branch 20 = .ok (.iconst 0, 1) := by decide +kernel
theorem dX4_branch_21 : decode cX4_branch 21 = .ok (.istore_n 3, 1) := by decide +kernel
theorem dX4_branch_22 : decode cX4_branch 22 = .ok (.aload_n 0, 1) := by decide +kernel
theorem dX4_branch_23 : decode cX4_branch 23 = .ok (.aload_n 0, 1) := by decide +kernel
theorem dX4_branch_24 : decode cX4_branch 24 = .ok (.getfield 16, 3) := by decide +kernel
theorem dX4_branch_27 : decode cX4_branch 27 = .ok (.iload_n 1, 1) := by decide +kernel
theorem dX4_branch_28 : decode cX4_branch 28 = .ok (.bipush 7, 2) := by decide +kernel
theorem dX4_branch_30 : decode cX4_branch 30 = .ok (.iand, 1) := by decide +kernel
theorem dX4_branch_31 : decode cX4_branch 31 = .ok (.invokevirtual 80, 3) := by decide +kernel
theorem dX4_branch_34 : decode cX4_branch 34 = .ok (.iload_n 3, 1) := by decide +kernel
theorem dX4_branch_35 : decode cX4_branch 35 = .ok (.if_icmp .ne 9, 3) := by decide +kernel
theorem dX4_branch_38 : decode cX4_branch 38 = .ok (.iconst 1, 1) := by decide +kernel
theorem dX4_branch_39 : decode cX4_branch 39 = .ok (.iload_n 2, 1) := by decide +kernel
theorem dX4_branch_40 : decode cX4_branch 40 = .ok (.iadd, 1) := by decide +kernel
theorem dX4_branch_41 : decode cX4_branch 41 = .ok (.goto 4, 3) := by decide +kernel
theorem dX4_branch_44 : decode cX4_branch 44 = .ok (.iconst 1, 1) := by decide +kernel
theorem dX4_branch_45 : decode cX4_branch 45 = .ok (.invokevirtual 102, 3) := by decide +kernel
theorem dX4_branch_48 : decode cX4_branch 48 = .ok (.ireturn, 1) := by decide +kernel
set_option maxRecDepth 20000 in
theorem ggX4_jumpFar_X4_cellAt : GoodIn wsX4_jumpFar wsX4_cellAt := goodIn_r _ [6, 7, 36, 37, 38, 39, 40, 41, 42, 43] (by decide +kernel) (by decide +kernel)
set_option maxRecDepth 20000 in
theorem gX4_jumpFar_X4_cellAt : GoodIn wsX4_jumpFar (wsV RX4 51 RX4 yX4_cellAt wsX4_cellAt) := goodIn_app (goodIn_of _ (by decide +kernel)) ggX4_jumpFar_X4_cellAt
set_option maxRecDepth 20000 in
theorem ggX4_jumpFar_X4_jumpTo : GoodIn wsX4_jumpFar wsX4_jumpTo := goodIn_r _ [11, 1, 36, 37, 38, 39, 40, 41, 42, 43] (by decide +kernel) (by decide +kernel)
set_option maxRecDepth 20000 in
theorem gX4_jumpFar_X4_jumpTo : GoodIn wsX4_jumpFar (wsV RX4 248 RX4 yX4_jumpTo wsX4_jumpTo) := goodIn_app (goodIn_of _ (by decide +kernel)) ggX4_jumpFar_X4_jumpTo
set_option maxRecDepth 20000 in
theorem ggX4_jumpFar_X4_callTo : GoodIn wsX4_jumpFar wsX4_callTo := goodIn_r _ [15, 16, 17, 1, 18, 19, 20, 21, 22, 23, 24, 25, 26, 27, 28, 29, 30, 31, 32, 33, 34, 35, 36, 37, 38, 39, 40, 41, 42, 43, 44] (by decide +kernel) (by decide +kernel)
set_option maxRecDepth 20000 in
theorem gX4_jumpFar_X4_callTo : GoodIn wsX4_jumpFar (wsV RX4 251 RX4 yX4_callTo wsX4_callTo) := goodIn_app (goodIn_of _ (by decide +kernel)) ggX4_jumpFar_X4_callTo
theorem dX4_jumpFar_0 : decode cX4_jumpFar 0 = .ok (.aload_n 0, 1) := by decide +kernel
theorem dX4_jumpFar_1 : decode cX4_jumpFar 1 = .ok (.aload_n 0, 1) := by decide +kernel
theorem dX4_jumpFar_2 : decode cX4_jumpFar 2 = .ok (.getfield 32, 3) := by decide +kernel
theorem dX4_jumpFar_5 : decode cX4_jumpFar 5 = .ok (.iconst 1, 1) := by decide +kernel
theorem dX4_jumpFar_6 : decode cX4_jumpFar 6 = .ok (.iadd, 1) := by decide +kernel
theorem dX4_jumpFar_7 : decode cX4_jumpFar 7 = .ok (.invokevirtual 51, 3) := by decide +kernel
theorem dX4_jumpFar_10 : decode cX4_jumpFar 10 = .ok (.istore_n 2, 1) := by decide +kernel
theorem dX4_jumpFar_11 : decode cX4_jumpFar 11 = .ok (.iload_n 1, 1) := by decide +kernel
theorem dX4_jumpFar_12 : decode cX4_jumpFar 12 = .ok (.iconst 2, 1) := by decide +kernel
theorem dX4_jumpFar_13 : decode cX4_jumpFar 13 = .ok (.iand, 1) := by decide +kernel
theorem dX4_jumpFar_14 : decode cX4_jumpFar 14 = .ok (.ifCond .ne 11, 3) := by decide +kernel
theorem dX4_jumpFar_17 : decode cX4_jumpFar 17 = .ok (.aload_n 0, 1) := by decide +kernel
theorem dX4_jumpFar_18 : decode cX4_jumpFar 18 = .ok (.iload_n 2, 1) := by decide +kernel
theorem dX4_jumpFar_19 : decode cX4_jumpFar 19 = .ok (.invokevirtual 248, 3) := by decide +kernel
theorem dX4_jumpFar_22 : decode cX4_jumpFar 22 = .ok (.goto 14, 3) := by decide +kernel
theorem dX4_jumpFar_25 : decode cX4_jumpFar 25 = .ok (.aload_n 0, 1) := by decide +kernel
theorem dX4_jumpFar_26 : decode cX4_jumpFar 26 = .ok (.iload_n 2, 1) := by decide +kernel
theorem dX4_jumpFar_27 : decode cX4_jumpFar 27 = .ok (.aload_n 0, 1) := by decide +kernel
theorem dX4_jumpFar_28 : decode cX4_jumpFar 28 = .ok (.getfield 32, 3) := by decide +kernel
theorem dX4_jumpFar_31 : decode cX4_jumpFar 31 = .ok (.iconst 2, 1) := by decide +kernel
theorem dX4_jumpFar_32 : decode cX4_jumpFar 32 = .ok (.iadd, 1) := by decide +kernel
theorem dX4_jumpFar_33 : decode cX4_jumpFar 33 = .ok (.invokevirtual 251, 3) := by decide +kernel
theorem dX4_jumpFar_36 : decode cX4_jumpFar 36 = .ok (.ireturn, 1) := by decide +kernel
set_option maxRecDepth 20000 in
theorem ggX4_jumpToZ_X0_pair : GoodIn wsX4_jumpToZ wsX0_pair := goodIn_r _ [7, 8, 40] (by decide +kernel) (by decide +kernel)
set_option maxRecDepth 20000 in
theorem gX4_jumpToZ_X0_pair : GoodIn wsX4_jumpToZ (wsV RX4 62 RX0 yX0_pair wsX0_pair) := goodIn_app (goodIn_of _ (by decide +kernel)) ggX4_jumpToZ_X0_pair
set_option maxRecDepth 20000 in
theorem ggX4_jumpToZ_X4_jumpTo : GoodIn wsX4_jumpToZ wsX4_jumpTo := goodIn_r _ [13, 2, 32, 33, 34, 35, 36, 37, 38, 39] (by decide +kernel) (by decide +kernel)
set_option maxRecDepth 20000 in
theorem gX4_jumpToZ_X4_jumpTo : GoodIn wsX4_jumpToZ (wsV RX4 248 RX4 yX4_jumpTo wsX4_jumpTo) := goodIn_app (goodIn_of _ (by decide +kernel)) ggX4_jumpToZ_X4_jumpTo
set_option maxRecDepth 20000 in
theorem ggX4_jumpToZ_X4_callTo : GoodIn wsX4_jumpToZ wsX4_callTo := goodIn_r _ [17, 1, 18, 2, 19, 20, 21, 6, 22, 23, 4, 5, 7, 8, 24, 25, 26, 27, 28, 29, 30, 31, 32, 33, 34, 35, 36, 37, 38, 39, 40] (by decide +kernel) (by decide +kernel)
set_option maxRecDepth 20000 in
theorem gX4_jumpToZ_X4_callTo : GoodIn wsX4_jumpToZ (wsV RX4 251 RX4 yX4_callTo wsX4_callTo) := goodIn_app (goodIn_of _ (by decide +kernel)) ggX4_jumpToZ_X4_callTo
theorem dX4_jumpToZ_0 : decode cX4_jumpToZ 0 = .ok (.aload_n 0, 1) := by decide +kernel
theorem dX4_jumpToZ_1 : decode cX4_jumpToZ 1 = .ok (.getfield 16, 3) := by decide +kernel
theorem dX4_jumpToZ_4 : decode cX4_jumpToZ 4 = .ok (.bipush 30, 2) := by decide +kernel
theorem dX4_jumpToZ_6 : decode cX4_jumpToZ 6 = .ok (.invokevirtual 62, 3) := by decide +kernel
theorem dX4_jumpToZ_9 : decode cX4_jumpToZ 9 = .ok (.istore_n 2, 1) := by decide +kernel
theorem dX4_jumpToZ_10 : decode cX4_jumpToZ 10 = .ok (.iload_n 1, 1) := by decide +kernel
theorem dX4_jumpToZ_11 : decode cX4_jumpToZ 11 = .ok (.sipush 256, 3) := by decide +kernel
theorem dX4_jumpToZ_14 : decode cX4_jumpToZ 14 = .ok (.iand, 1) := by decide +kernel
theorem dX4_jumpToZ_15 : decode cX4_jumpToZ 15 = .ok (.ifCond .ne 11, 3) := by decide +kernel
theorem dX4_jumpToZ_18 : decode cX4_jumpToZ 18 = .ok (.aload_n 0, 1) := by decide +kernel
theorem dX4_jumpToZ_19 : decode cX4_jumpToZ 19 = .ok (.iload_n 2, 1) := by decide +kernel
theorem dX4_jumpToZ_20 : decode cX4_jumpToZ 20 = .ok (.invokevirtual 248, 3) := by decide +kernel
theorem dX4_jumpToZ_23 : decode cX4_jumpToZ 23 = .ok (.goto 14, 3) := by decide +kernel
theorem dX4_jumpToZ_26 : decode cX4_jumpToZ 26 = .ok (.aload_n 0, 1) := by decide +kernel
theorem dX4_jumpToZ_27 : decode cX4_jumpToZ 27 = .ok (.iload_n 2, 1) := by decide +kernel
theorem dX4_jumpToZ_28 : decode cX4_jumpToZ 28 = .ok (.aload_n 0, 1) := by decide +kernel
theorem dX4_jumpToZ_29 : decode cX4_jumpToZ 29 = .ok (.getfield 32, 3) := by decide +kernel
theorem dX4_jumpToZ_32 : decode cX4_jumpToZ 32 = .ok (.iconst 1, 1) := by decide +kernel
theorem dX4_jumpToZ_33 : decode cX4_jumpToZ 33 = .ok (.iadd, 1) := by decide +kernel
theorem dX4_jumpToZ_34 : decode cX4_jumpToZ 34 = .ok (.invokevirtual 251, 3) := by decide +kernel
theorem dX4_jumpToZ_37 : decode cX4_jumpToZ 37 = .ok (.ireturn, 1) := by decide +kernel
set_option maxRecDepth 20000 in
theorem ggX4_comeBack_X0_pair : GoodIn wsX4_comeBack wsX0_pair := goodIn_r _ [8, 9, 49] (by decide +kernel) (by decide +kernel)
set_option maxRecDepth 20000 in
theorem gX4_comeBack_X0_pair : GoodIn wsX4_comeBack (wsV RX4 62 RX0 yX0_pair wsX0_pair) := goodIn_app (goodIn_of _ (by decide +kernel)) ggX4_comeBack_X0_pair
set_option maxRecDepth 20000 in
theorem ggX4_comeBack_X0_pull : GoodIn wsX4_comeBack wsX0_pull := goodIn_r _ [13, 14, 5, 6, 7, 8, 9, 15, 16, 17, 18, 19, 20, 21, 22, 49] (by decide +kernel) (by decide +kernel)
set_option maxRecDepth 20000 in
theorem gX4_comeBack_X0_pull : GoodIn wsX4_comeBack (wsV RX4 235 RX0 yX0_pull wsX0_pull) := goodIn_app (goodIn_of _ (by decide +kernel)) ggX4_comeBack_X0_pull
set_option maxRecDepth 20000 in
theorem ggX4_comeBack_X0_setFlag : GoodIn wsX4_comeBack wsX0_setFlag := goodIn_r _ [26, 27, 28, 29, 7, 30, 19, 20, 21, 22, 9, 31, 32, 33, 34, 49] (by decide +kernel) (by decide +kernel)
set_option maxRecDepth 20000 in
theorem gX4_comeBack_X0_setFlag : GoodIn wsX4_comeBack (wsV RX4 99 RX0 yX0_setFlag wsX0_setFlag) := goodIn_app (goodIn_of _ (by decide +kernel)) ggX4_comeBack_X0_setFlag
set_option maxRecDepth 20000 in
theorem ggX4_comeBack_X4_jumpTo : GoodIn wsX4_comeBack wsX4_jumpTo := goodIn_r _ [39, 40, 41, 42, 43, 44, 45, 46, 47, 48] (by decide +kernel) (by decide +kernel)
set_option maxRecDepth 20000 in
theorem gX4_comeBack_X4_jumpTo : GoodIn wsX4_comeBack (wsV RX4 248 RX4 yX4_jumpTo wsX4_jumpTo) := goodIn_app (goodIn_of _ (by decide +kernel)) ggX4_comeBack_X4_jumpTo
theorem dX4_comeBack_0 : decode cX4_comeBack 0 = .ok (.aload_n 0, 1) := by decide +kernel
theorem dX4_comeBack_1 : decode cX4_comeBack 1 = .ok (.getfield 16, 3) := by decide +kernel
theorem dX4_comeBack_4 : decode cX4_comeBack 4 = .ok (.bipush 93, 2) := by decide +kernel
theorem dX4_comeBack_6 : decode cX4_comeBack 6 = .ok (.invokevirtual 62, 3) := by decide +kernel
theorem dX4_comeBack_9 : decode cX4_comeBack 9 = .ok (.istore_n 2, 1) := by decide +kernel
theorem dX4_comeBack_10 : decode cX4_comeBack 10 = .ok (.iload_n 2, 1) := by decide +kernel
theorem dX4_comeBack_11 : decode cX4_comeBack 11 = .ok (.iconst 1, 1) := by decide +kernel
theorem dX4_comeBack_12 : decode cX4_comeBack 12 = .ok (.iadd, 1) := by decide +kernel
