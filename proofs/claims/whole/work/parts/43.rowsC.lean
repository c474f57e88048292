theorem dX5_ofPortBit_105 : decode cX5_ofPortBit 105 = .ok (.dup2, 1) := by decide +kernel
theorem dX5_ofPortBit_106 : decode cX5_ofPortBit 106 = .ok (.iaload, 1) := by decide +kernel
theorem dX5_ofPortBit_107 : decode cX5_ofPortBit 107 = .ok (.iload_n 3, 1) := by decide +kernel
theorem dX5_ofPortBit_108 : decode cX5_ofPortBit 108 = .ok (.ior, 1) := by decide +kernel
theorem dX5_ofPortBit_109 : decode cX5_ofPortBit 109 = .ok (.iastore, 1) := by decide +kernel
theorem dX5_ofPortBit_110 : decode cX5_ofPortBit 110 = .ok (.goto 9, 3) := by decide +kernel
theorem dX5_ofPortBit_113 : decode cX5_ofPortBit 113 = .ok (.aload_n 0, 1) := by decide +kernel
theorem dX5_ofPortBit_114 : decode cX5_ofPortBit 114 = .ok (.iload 4, 2) := by decide +kernel
theorem dX5_ofPortBit_116 : decode cX5_ofPortBit 116 = .ok (.invokevirtual 99, 3) := by decide +kernel
theorem dX5_ofPortBit_119 : decode cX5_ofPortBit 119 = .ok (.return_, 1) := by decide +kernel
set_option maxRecDepth 20000 in
theorem ggX5_ofBit_X5_dOf : GoodIn wsX5_ofBit wsX5_dOf := goodIn_r _ [5] (by decide +kernel) (by decide +kernel)
set_option maxRecDepth 20000 in
theorem gX5_ofBit_X5_dOf : GoodIn wsX5_ofBit (va_wsS RX5 53 yX5_dOf wsX5_dOf) := goodIn_app (goodIn_of _ (by decide +kernel)) ggX5_ofBit_X5_dOf
set_option maxRecDepth 20000 in
theorem ggX5_ofBit_X5_has : GoodIn wsX5_ofBit wsX5_has := goodIn_r _ [9, 1, 34, 35, 36, 37, 38, 39, 40, 41] (by decide +kernel) (by decide +kernel)
set_option maxRecDepth 20000 in
theorem gX5_ofBit_X5_has : GoodIn wsX5_ofBit (wsV RX5 81 RX5 yX5_has wsX5_has) := goodIn_app (goodIn_of _ (by decide +kernel)) ggX5_ofBit_X5_has
set_option maxRecDepth 20000 in
theorem ggX5_ofBit_X5_flag : GoodIn wsX5_ofBit wsX5_flag := goodIn_r _ [13, 1, 34, 35, 36, 37, 38, 39, 40, 41] (by decide +kernel) (by decide +kernel)
set_option maxRecDepth 20000 in
theorem gX5_ofBit_X5_flag : GoodIn wsX5_ofBit (wsV RX5 74 RX5 yX5_flag wsX5_flag) := goodIn_app (goodIn_of _ (by decide +kernel)) ggX5_ofBit_X5_flag
set_option maxRecDepth 20000 in
theorem ggX5_ofBit_X5_skips : GoodIn wsX5_ofBit wsX5_skips := goodIn_r _ [17, 18, 19, 20, 21, 22, 4, 23, 24, 25, 26, 27, 28, 29, 30, 31, 32, 33, 34, 35, 36, 37, 38, 39, 40, 41] (by decide +kernel) (by decide +kernel)
set_option maxRecDepth 20000 in
theorem gX5_ofBit_X5_skips : GoodIn wsX5_ofBit (wsV RX5 99 RX5 yX5_skips wsX5_skips) := goodIn_app (goodIn_of _ (by decide +kernel)) ggX5_ofBit_X5_skips
theorem dX5_ofBit_0 : decode cX5_ofBit 0 = .ok (.iload_n 1, 1) := by decide +kernel
theorem dX5_ofBit_1 : decode cX5_ofBit 1 = .ok (.invokestatic 53, 3) := by decide +kernel
theorem dX5_ofBit_4 : decode cX5_ofBit 4 = .ok (.istore_n 2, 1) := by decide +kernel
theorem dX5_ofBit_5 : decode cX5_ofBit 5 = .ok (.iconst 1, 1) := by decide +kernel
theorem dX5_ofBit_6 : decode cX5_ofBit 6 = .ok (.iload_n 1, 1) := by decide +kernel
theorem dX5_ofBit_7 : decode cX5_ofBit 7 = .ok (.bipush 7, 2) := by decide +kernel
theorem dX5_ofBit_9 : decode cX5_ofBit 9 = .ok (.iand, 1) := by decide +kernel
theorem dX5_ofBit_10 : decode cX5_ofBit 10 = .ok (.ishl, 1) := by decide +kernel
theorem dX5_ofBit_11 : decode cX5_ofBit 11 = .ok (.istore_n 3, 1) := by decide +kernel
theorem dX5_ofBit_12 : decode cX5_ofBit 12 = .ok (.aload_n 0, 1) := by decide +kernel
theorem dX5_ofBit_13 : decode cX5_ofBit 13 = .ok (.getfield 13, 3) := by decide +kernel
theorem dX5_ofBit_16 : decode cX5_ofBit 16 = .ok (.iload_n 2, 1) := by decide +kernel
theorem dX5_ofBit_17 : decode cX5_ofBit 17 = .ok (.iaload, 1) := by decide +kernel
theorem dX5_ofBit_18 : decode cX5_ofBit 18 = .ok (.iload_n 3, 1) := by decide +kernel
theorem dX5_ofBit_19 : decode cX5_ofBit 19 = .ok (.iand, 1) := by decide +kernel
theorem dX5_ofBit_20 : decode cX5_ofBit 20 = .ok (.ifCond .eq 7, 3) := by decide +kernel
theorem dX5_ofBit_23 : decode cX5_ofBit 23 = .ok (.iconst 1, 1) := by decide +kernel
theorem dX5_ofBit_24 : decode cX5_ofBit 24 = .ok (.goto 4, 3) := by decide +kernel
theorem dX5_ofBit_27 : decode cX5_ofBit 27 = .ok (.iconst 0, 1) := by decide +kernel
theorem dX5_ofBit_28 : decode cX5_ofBit 28 = .ok (.istore 4, 2) := by decide +kernel
theorem dX5_ofBit_30 : decode cX5_ofBit 30 = .ok (.iload_n 1, 1) := by decide +kernel
theorem dX5_ofBit_31 : decode cX5_ofBit 31 = .ok (.bipush 9, 2) := by decide +kernel
theorem dX5_ofBit_33 : decode cX5_ofBit 33 = .ok (.ishr, 1) := by decide +kernel
theorem dX5_ofBit_34 : decode cX5_ofBit 34 = .ok (.iconst 3, 1) := by decide +kernel
theorem dX5_ofBit_35 : decode cX5_ofBit 35 = .ok (.iand, 1) := by decide +kernel
theorem dX5_ofBit_36 : decode cX5_ofBit 36 = .ok (.tableswitch 95 0 2 #[28, 67, 78], 28) := by decide +kernel
theorem dX5_ofBit_64 : decode cX5_ofBit 64 = .ok (.aload_n 0, 1) := by decide +kernel
theorem dX5_ofBit_65 : decode cX5_ofBit 65 = .ok (.getfield 13, 3) := by decide +kernel
theorem dX5_ofBit_68 : decode cX5_ofBit 68 = .ok (.iload_n 2, 1) := by decide +kernel
theorem dX5_ofBit_69 : decode cX5_ofBit 69 = .ok (.aload_n 0, 1) := by decide +kernel
theorem dX5_ofBit_70 : decode cX5_ofBit 70 = .ok (.bipush 64, 2) := by decide +kernel
theorem dX5_ofBit_72 : decode cX5_ofBit 72 = .ok (.invokevirtual 81, 3) := by decide +kernel
theorem dX5_ofBit_75 : decode cX5_ofBit 75 = .ok (.ifCond .eq 14, 3) := by decide +kernel
theorem dX5_ofBit_78 : decode cX5_ofBit 78 = .ok (.aload_n 0, 1) := by decide +kernel
theorem dX5_ofBit_79 : decode cX5_ofBit 79 = .ok (.getfield 13, 3) := by decide +kernel
theorem dX5_ofBit_82 : decode cX5_ofBit 82 = .ok (.iload_n 2, 1) := by decide +kernel
theorem dX5_ofBit_83 : decode cX5_ofBit 83 = .ok (.iaload, 1) := by decide +kernel
theorem dX5_ofBit_84 : decode cX5_ofBit 84 = .ok (.iload_n 3, 1) := by decide +kernel
theorem dX5_ofBit_85 : decode cX5_ofBit 85 = .ok (.ior, 1) := by decide +kernel
theorem dX5_ofBit_86 : decode cX5_ofBit 86 = .ok (.goto 13, 3) := by decide +kernel
theorem dX5_ofBit_89 : decode cX5_ofBit 89 = .ok (.aload_n 0, 1) := by decide +kernel
theorem dX5_ofBit_90 : decode cX5_ofBit 90 = .ok (.getfield 13, 3) := by decide +kernel
theorem dX5_ofBit_93 : decode cX5_ofBit 93 = .ok (.iload_n 2, 1) := by decide +kernel
theorem dX5_ofBit_94 : decode cX5_ofBit 94 = .ok (.iaload, 1) := by decide +kernel
theorem dX5_ofBit_95 : decode cX5_ofBit 95 = .ok (.iload_n 3, 1) := by decide +kernel
theorem dX5_ofBit_96 : decode cX5_ofBit 96 = .ok (.iconst (-1), 1) := by decide +kernel
theorem dX5_ofBit_97 : decode cX5_ofBit 97 = .ok (.ixor, 1) := by decide +kernel
theorem dX5_ofBit_98 : decode cX5_ofBit 98 = .ok (.iand, 1) := by decide +kernel
theorem dX5_ofBit_99 : decode cX5_ofBit 99 = .ok (.iastore, 1) := by decide +kernel
theorem dX5_ofBit_100 : decode cX5_ofBit 100 = .ok (.goto 37, 3) := by decide +kernel
theorem dX5_ofBit_103 : decode cX5_ofBit 103 = .ok (.aload_n 0, 1) := by decide +kernel
theorem dX5_ofBit_104 : decode cX5_ofBit 104 = .ok (.bipush 64, 2) := by decide +kernel
theorem dX5_ofBit_106 : decode cX5_ofBit 106 = .ok (.iload 4, 2) := by decide +kernel
theorem dX5_ofBit_108 : decode cX5_ofBit 108 = .ok (.invokevirtual 74, 3) := by decide +kernel
theorem dX5_ofBit_111 : decode cX5_ofBit 111 = .ok (.goto 26, 3) := by decide +kernel
theorem dX5_ofBit_114 : decode cX5_ofBit 114 = .ok (.aload_n 0, 1) := by decide +kernel
theorem dX5_ofBit_115 : decode cX5_ofBit 115 = .ok (.iload 4, 2) := by decide +kernel
theorem dX5_ofBit_117 : decode cX5_ofBit 117 = .ok (.ifCond .ne 7, 3) := by decide +kernel
theorem dX5_ofBit_120 : decode cX5_ofBit 120 = .ok (.iconst 1, 1) := by decide +kernel
theorem dX5_ofBit_121 : decode cX5_ofBit 121 = .ok (.goto 4, 3) := by decide +kernel
theorem dX5_ofBit_124 : decode cX5_ofBit 124 = .ok (.iconst 0, 1) := by decide +kernel
theorem dX5_ofBit_125 : decode cX5_ofBit 125 = .ok (.invokevirtual 99, 3) := by decide +kernel
theorem dX5_ofBit_128 : decode cX5_ofBit 128 = .ok (.goto 9, 3) := by decide +kernel
theorem dX5_ofBit_131 : decode cX5_ofBit 131 = .ok (.aload_n 0, 1) := by decide +kernel
theorem dX5_ofBit_132 : decode cX5_ofBit 132 = .ok (.iload 4, 2) := by decide +kernel
theorem dX5_ofBit_134 : decode cX5_ofBit 134 = .ok (.invokevirtual 99, 3) := by decide +kernel
theorem dX5_ofBit_137 : decode cX5_ofBit 137 = .ok (.return_, 1) := by decide +kernel
set_option maxRecDepth 20000 in
theorem ggX5_jumps_X5_canCall : GoodIn wsX5_jumps wsX5_canCall := goodIn_r _ [7, 8, 9, 10, 11, 6, 12, 13, 14, 15, 16, 29, 30, 31, 32, 33, 34, 35, 36] (by decide +kernel) (by decide +kernel)
set_option maxRecDepth 20000 in
theorem gX5_jumps_X5_canCall : GoodIn wsX5_jumps (wsV RX5 141 RX5 yX5_canCall wsX5_canCall) := goodIn_app (goodIn_of _ (by decide +kernel)) ggX5_jumps_X5_canCall
set_option maxRecDepth 20000 in
theorem ggX5_jumps_X5_calls : GoodIn wsX5_jumps wsX5_calls := goodIn_r _ [20, 1, 21, 22, 23, 6, 24, 13, 8, 9, 10, 11, 12, 25, 26, 27, 28, 29, 30, 31, 32, 33, 34, 35, 36] (by decide +kernel) (by decide +kernel)
set_option maxRecDepth 20000 in
theorem gX5_jumps_X5_calls : GoodIn wsX5_jumps (wsV RX5 145 RX5 yX5_calls wsX5_calls) := goodIn_app (goodIn_of _ (by decide +kernel)) ggX5_jumps_X5_calls
theorem dX5_jumps_0 : decode cX5_jumps 0 = .ok (.iload_n 3, 1) := by decide +kernel
theorem dX5_jumps_1 : decode cX5_jumps 1 = .ok (.ifCond .ne 14, 3) := by decide +kernel
theorem dX5_jumps_4 : decode cX5_jumps 4 = .ok (.aload_n 0, 1) := by decide +kernel
theorem dX5_jumps_5 : decode cX5_jumps 5 = .ok (.iload_n 2, 1) := by decide +kernel
theorem dX5_jumps_6 : decode cX5_jumps 6 = .ok (.sipush 1023, 3) := by decide +kernel
theorem dX5_jumps_9 : decode cX5_jumps 9 = .ok (.iand, 1) := by decide +kernel
theorem dX5_jumps_10 : decode cX5_jumps 10 = .ok (.putfield 84, 3) := by decide +kernel
theorem dX5_jumps_13 : decode cX5_jumps 13 = .ok (.iconst 0, 1) := by decide +kernel
theorem dX5_jumps_14 : decode cX5_jumps 14 = .ok (.ireturn, 1) := by decide +kernel
theorem dX5_jumps_15 : decode cX5_jumps 15 = .ok (.aload_n 0, 1) := by decide +kernel
theorem dX5_jumps_16 : decode cX5_jumps 16 = .ok (.invokevirtual 141, 3) := by decide +kernel
theorem dX5_jumps_19 : decode cX5_jumps 19 = .ok (.ifCond .ne 5, 3) := by decide +kernel
theorem dX5_jumps_22 : decode cX5_jumps 22 = .ok (.iconst 3, 1) := by decide +kernel
theorem dX5_jumps_23 : decode cX5_jumps 23 = .ok (.ireturn, 1) := by decide +kernel
theorem dX5_jumps_24 : decode cX5_jumps 24 = .ok (.aload_n 0, 1) := by decide +kernel
theorem dX5_jumps_25 : decode cX5_jumps 25 = .ok (.iload_n 1, 1) := by decide +kernel
theorem dX5_jumps_26 : decode cX5_jumps 26 = .ok (.iload_n 2, 1) := by decide +kernel
theorem dX5_jumps_27 : decode cX5_jumps 27 = .ok (.invokevirtual 145, 3) := by decide +kernel
theorem dX5_jumps_30 : decode cX5_jumps 30 = .ok (.aload_n 0, 1) := by decide +kernel
theorem dX5_jumps_31 : decode cX5_jumps 31 = .ok (.getfield 16, 3) := by decide +kernel
theorem dX5_jumps_34 : decode cX5_jumps 34 = .ok (.bipush 6, 2) := by decide +kernel
theorem dX5_jumps_36 : decode cX5_jumps 36 = .ok (.dup2, 1) := by decide +kernel
theorem dX5_jumps_37 : decode cX5_jumps 37 = .ok (.iaload, 1) := by decide +kernel
theorem dX5_jumps_38 : decode cX5_jumps 38 = .ok (.iconst 1, 1) := by decide +kernel
theorem dX5_jumps_39 : decode cX5_jumps 39 = .ok (.iadd, 1) := by decide +kernel
theorem dX5_jumps_40 : decode cX5_jumps 40 = .ok (.iastore, 1) := by decide +kernel
theorem dX5_jumps_41 : decode cX5_jumps 41 = .ok (.iconst 0, 1) := by decide +kernel
theorem dX5_jumps_42 : decode cX5_jumps 42 = .ok (.ireturn, 1) := by decide +kernel
set_option maxRecDepth 20000 in
theorem ggX5_returns_X5_pair : GoodIn wsX5_returns wsX5_pair := goodIn_r _ [8, 9, 25, 26, 27, 28, 29, 30, 31, 32] (by decide +kernel) (by decide +kernel)
set_option maxRecDepth 20000 in
theorem gX5_returns_X5_pair : GoodIn wsX5_returns (wsV RX5 28 RX5 yX5_pair wsX5_pair) := goodIn_app (goodIn_of _ (by decide +kernel)) ggX5_returns_X5_pair
set_option maxRecDepth 20000 in
theorem ggX5_returns_X5_isFar : GoodIn wsX5_returns wsX5_isFar := goodIn_r _ [12] (by decide +kernel) (by decide +kernel)
set_option maxRecDepth 20000 in
theorem gX5_returns_X5_isFar : GoodIn wsX5_returns (va_wsS RX5 121 yX5_isFar wsX5_isFar) := goodIn_app (goodIn_of _ (by decide +kernel)) ggX5_returns_X5_isFar
set_option maxRecDepth 20000 in
theorem ggX5_returns_X5_pops : GoodIn wsX5_returns wsX5_pops := goodIn_r _ [16, 1, 9, 4, 5, 6, 7, 8, 17, 18, 19, 20, 25, 26, 27, 28, 29, 30, 31, 32] (by decide +kernel) (by decide +kernel)
set_option maxRecDepth 20000 in
theorem gX5_returns_X5_pops : GoodIn wsX5_returns (wsV RX5 128 RX5 yX5_pops wsX5_pops) := goodIn_app (goodIn_of _ (by decide +kernel)) ggX5_returns_X5_pops
set_option maxRecDepth 20000 in
theorem ggX5_returns_X5_flag : GoodIn wsX5_returns wsX5_flag := goodIn_r _ [24, 9, 25, 26, 27, 28, 29, 30, 31, 32] (by decide +kernel) (by decide +kernel)
set_option maxRecDepth 20000 in
theorem gX5_returns_X5_flag : GoodIn wsX5_returns (wsV RX5 74 RX5 yX5_flag wsX5_flag) := goodIn_app (goodIn_of _ (by decide +kernel)) ggX5_returns_X5_flag
theorem dX5_returns_0 : decode cX5_returns 0 = .ok (.aload_n 0, 1) := by decide +kernel
theorem dX5_returns_1 : decode cX5_returns 1 = .ok (.bipush 93, 2) := by decide +kernel
theorem dX5_returns_3 : decode cX5_returns 3 = .ok (.invokevirtual 28, 3) := by decide +kernel
theorem dX5_returns_6 : decode cX5_returns 6 = .ok (.istore_n 2, 1) := by decide +kernel
theorem dX5_returns_7 : decode cX5_returns 7 = .ok (.iload_n 2, 1) := by decide +kernel
theorem dX5_returns_8 : decode cX5_returns 8 = .ok (.iconst 1, 1) := by decide +kernel
theorem dX5_returns_9 : decode cX5_returns 9 = .ok (.iadd, 1) := by decide +kernel
theorem dX5_returns_10 : decode cX5_returns 10 = .ok (.ldc 27, 2) := by decide +kernel
theorem dX5_returns_12 : decode cX5_returns 12 = .ok (.iand, 1) := by decide +kernel
theorem dX5_returns_13 : decode cX5_returns 13 = .ok (.invokestatic 121, 3) := by decide +kernel
theorem dX5_returns_16 : decode cX5_returns 16 = .ok (.ifCond .ne 15, 3) := by decide +kernel
theorem dX5_returns_19 : decode cX5_returns 19 = .ok (.iload_n 2, 1) := by decide +kernel
theorem dX5_returns_20 : decode cX5_returns 20 = .ok (.iconst 2, 1) := by decide +kernel
theorem dX5_returns_21 : decode cX5_returns 21 = .ok (.iadd, 1) := by decide +kernel
theorem dX5_returns_22 : decode cX5_returns 22 = .ok (.ldc 27, 2) := by decide +kernel
theorem dX5_returns_24 : decode cX5_returns 24 = .ok (.iand, 1) := by decide +kernel
theorem dX5_returns_25 : decode cX5_returns 25 = .ok (.invokestatic 121, 3) := by decide +kernel
theorem dX5_returns_28 : decode cX5_returns 28 = .ok (.ifCond .eq 5, 3) := by decide +kernel
theorem dX5_returns_31 : decode cX5_returns 31 = .ok (.iconst 3, 1) := by decide +kernel
theorem dX5_returns_32 : decode cX5_returns 32 = .ok (.ireturn, 1) := by decide +kernel
theorem dX5_returns_33 : decode cX5_returns 33 = .ok (.aload_n 0, 1) := by decide +kernel
theorem dX5_returns_34 : decode cX5_returns 34 = .ok (.invokevirtual 128, 3) := by decide +kernel
theorem dX5_returns_37 : decode cX5_returns 37 = .ok (.istore_n 3, 1) := by decide +kernel
theorem dX5_returns_38 : decode cX5_returns 38 = .ok (.aload_n 0, 1) := by decide +kernel
theorem dX5_returns_39 : decode cX5_returns 39 = .ok (.invokevirtual 128, 3) := by decide +kernel
theorem dX5_returns_42 : decode cX5_returns 42 = .ok (.istore 4, 2) := by decide +kernel
theorem dX5_returns_44 : decode cX5_returns 44 = .ok (.aload_n 0, 1) := by decide +kernel
theorem dX5_returns_45 : decode cX5_returns 45 = .ok (.iload_n 3, 1) := by decide +kernel
theorem dX5_returns_46 : decode cX5_returns 46 = .ok (.bipush 8, 2) := by decide +kernel
theorem dX5_returns_48 : decode cX5_returns 48 = .ok (.ishl, 1) := by decide +kernel
theorem dX5_returns_49 : decode cX5_returns 49 = .ok (.iload 4, 2) := by decide +kernel
theorem dX5_returns_51 : decode cX5_returns 51 = .ok (.ior, 1) := by decide +kernel
theorem dX5_returns_52 : decode cX5_returns 52 = .ok (.sipush 1023, 3) := by decide +kernel
theorem dX5_returns_55 : decode cX5_returns 55 = .ok (.iand, 1) := by decide +kernel
theorem dX5_returns_56 : decode cX5_returns 56 = .ok (.putfield 84, 3) := by decide +kernel
theorem dX5_returns_59 : decode cX5_returns 59 = .ok (.iload_n 1, 1) := by decide +kernel
theorem dX5_returns_60 : decode cX5_returns 60 = .ok (.ldc 57, 2) := by decide +kernel
theorem dX5_returns_62 : decode cX5_returns 62 = .ok (.if_icmp .ne 11, 3) := by decide +kernel
theorem dX5_returns_65 : decode cX5_returns 65 = .ok (.aload_n 0, 1) := by decide +kernel
theorem dX5_returns_66 : decode cX5_returns 66 = .ok (.sipush 128, 3) := by decide +kernel
theorem dX5_returns_69 : decode cX5_returns 69 = .ok (.iconst 1, 1) := by decide +kernel
theorem dX5_returns_70 : decode cX5_returns 70 = .ok (.invokevirtual 74, 3) := by decide +kernel
theorem dX5_returns_73 : decode cX5_returns 73 = .ok (.iconst 0, 1) := by decide +kernel
theorem dX5_returns_74 : decode cX5_returns 74 = .ok (.ireturn, 1) := by decide +kernel
set_option maxRecDepth 20000 in
theorem ggX5_ofOthers_X5_jumps : GoodIn wsX5_ofOthers wsX5_jumps := goodIn_r _ [12, 2, 13, 14, 15, 16, 11, 17, 18, 19, 20, 21, 22, 7, 23, 24, 25, 26, 27, 28, 29, 30, 31, 32, 33, 34, 35, 36, 37, 54, 55, 56, 57, 58, 59, 60, 61] (by decide +kernel) (by decide +kernel)
set_option maxRecDepth 20000 in
theorem gX5_ofOthers_X5_jumps : GoodIn wsX5_ofOthers (wsV RX5 148 RX5 yX5_jumps wsX5_jumps) := goodIn_app (goodIn_of _ (by decide +kernel)) ggX5_ofOthers_X5_jumps
set_option maxRecDepth 20000 in
theorem ggX5_ofOthers_X5_pair : GoodIn wsX5_ofOthers wsX5_pair := goodIn_r _ [22, 7, 54, 55, 56, 57, 58, 59, 60, 61] (by decide +kernel) (by decide +kernel)
set_option maxRecDepth 20000 in
theorem gX5_ofOthers_X5_pair : GoodIn wsX5_ofOthers (wsV RX5 28 RX5 yX5_pair wsX5_pair) := goodIn_app (goodIn_of _ (by decide +kernel)) ggX5_ofOthers_X5_pair
set_option maxRecDepth 20000 in
theorem ggX5_ofOthers_X5_returns : GoodIn wsX5_ofOthers wsX5_returns := goodIn_r _ [41, 18, 2, 5, 19, 20, 21, 11, 22, 7, 23, 24, 25, 42, 43, 44, 45, 34, 35, 36, 37, 46, 47, 48, 49, 54, 55, 56, 57, 58, 59, 60, 61] (by decide +kernel) (by decide +kernel)
set_option maxRecDepth 20000 in
theorem gX5_ofOthers_X5_returns : GoodIn wsX5_ofOthers (wsV RX5 151 RX5 yX5_returns wsX5_returns) := goodIn_app (goodIn_of _ (by decide +kernel)) ggX5_ofOthers_X5_returns
set_option maxRecDepth 20000 in
theorem ggX5_ofOthers_X5_codeByte : GoodIn wsX5_ofOthers wsX5_codeByte := goodIn_r _ [53, 1, 54, 55, 56, 57, 58, 59, 60, 61] (by decide +kernel) (by decide +kernel)
set_option maxRecDepth 20000 in
theorem gX5_ofOthers_X5_codeByte : GoodIn wsX5_ofOthers (wsV RX5 138 RX5 yX5_codeByte wsX5_codeByte) := goodIn_app (goodIn_of _ (by decide +kernel)) ggX5_ofOthers_X5_codeByte
set_option maxRecDepth 20000 in
theorem ggX5_ofOthers_X5_flag : GoodIn wsX5_ofOthers wsX5_flag := goodIn_r _ [49, 7, 54, 55, 56, 57, 58, 59, 60, 61] (by decide +kernel) (by decide +kernel)
set_option maxRecDepth 20000 in
theorem gX5_ofOthers_X5_flag : GoodIn wsX5_ofOthers (wsV RX5 74 RX5 yX5_flag wsX5_flag) := goodIn_app (goodIn_of _ (by decide +kernel)) ggX5_ofOthers_X5_flag
theorem dX5_ofOthers_0 : decode cX5_ofOthers 0 = .ok (.iload_n 1, 1) := by decide +kernel
theorem dX5_ofOthers_1 : decode cX5_ofOthers 1 = .ok (.bipush 15, 2) := by decide +kernel
theorem dX5_ofOthers_3 : decode cX5_ofOthers 3 = .ok (.iand, 1) := by decide +kernel
theorem dX5_ofOthers_4 : decode cX5_ofOthers 4 = .ok (.istore_n 2, 1) := by decide +kernel
theorem dX5_ofOthers_5 : decode cX5_ofOthers 5 = .ok (.iload_n 2, 1) := by decide +kernel
theorem dX5_ofOthers_6 : decode cX5_ofOthers 6 = .ok (.bipush 11, 2) := by decide +kernel
theorem dX5_ofOthers_8 : decode cX5_ofOthers 8 = .ok (.if_icmp .le 48, 3) := by decide +kernel
theorem dX5_ofOthers_11 : decode cX5_ofOthers 11 = .ok (.aload_n 0, 1) := by decide +kernel
theorem dX5_ofOthers_12 : decode cX5_ofOthers 12 = .ok (.getfield 7, 3) := by decide +kernel
theorem dX5_ofOthers_15 : decode cX5_ofOthers 15 = .ok (.aload_n 0, 1) := by decide +kernel
theorem dX5_ofOthers_16 : decode cX5_ofOthers 16 = .ok (.getfield 84, 3) := by decide +kernel
theorem dX5_ofOthers_19 : decode cX5_ofOthers 19 = .ok (.iaload, 1) := by decide +kernel
theorem dX5_ofOthers_20 : decode cX5_ofOthers 20 = .ok (.istore_n 3, 1) := by decide +kernel
theorem dX5_ofOthers_21 : decode cX5_ofOthers 21 = .ok (.aload_n 0, 1) := by decide +kernel
theorem dX5_ofOthers_22 : decode cX5_ofOthers 22 = .ok (.aload_n 0, 1) := by decide +kernel
theorem dX5_ofOthers_23 : decode cX5_ofOthers 23 = .ok (.getfield 84, 3) := by decide +kernel
theorem dX5_ofOthers_26 : decode cX5_ofOthers 26 = .ok (.iconst 1, 1) := by decide +kernel
theorem dX5_ofOthers_27 : decode cX5_ofOthers 27 = .ok (.iadd, 1) := by decide +kernel
theorem dX5_ofOthers_28 : decode cX5_ofOthers 28 = .ok (.sipush 1023, 3) := by decide +kernel
theorem dX5_ofOthers_31 : decode cX5_ofOthers 31 = .ok (.iand, 1) := by decide +kernel
theorem dX5_ofOthers_32 : decode cX5_ofOthers 32 = .ok (.putfield 84, 3) := by decide +kernel
theorem dX5_ofOthers_35 : decode cX5_ofOthers 35 = .ok (.aload_n 0, 1) := by decide +kernel
theorem dX5_ofOthers_36 : decode cX5_ofOthers 36 = .ok (.aload_n 0, 1) := by decide +kernel
theorem dX5_ofOthers_37 : decode cX5_ofOthers 37 = .ok (.getfield 84, 3) := by decide +kernel
theorem dX5_ofOthers_40 : decode cX5_ofOthers 40 = .ok (.iload_n 3, 1) := by decide +kernel
theorem dX5_ofOthers_41 : decode cX5_ofOthers 41 = .ok (.iload_n 2, 1) := by decide +kernel
theorem dX5_ofOthers_42 : decode cX5_ofOthers 42 = .ok (.bipush 13, 2) := by decide +kernel
theorem dX5_ofOthers_44 : decode cX5_ofOthers 44 = .ok (.if_icmp .le 7, 3) := by decide +kernel
theorem dX5_ofOthers_47 : decode cX5_ofOthers 47 = .ok (.iconst 1, 1) := by decide +kernel
theorem dX5_ofOthers_48 : decode cX5_ofOthers 48 = .ok (.goto 4, 3) := by decide +kernel
theorem dX5_ofOthers_51 : decode cX5_ofOthers 51 = .ok (.iconst 0, 1) := by decide +kernel
theorem dX5_ofOthers_52 : decode cX5_ofOthers 52 = .ok (.invokevirtual 148, 3) := by decide +kernel
theorem dX5_ofOthers_55 : decode cX5_ofOthers 55 = .ok (.ireturn, 1) := by decide +kernel
theorem dX5_ofOthers_56 : decode cX5_ofOthers 56 = .ok (.iload_n 2, 1) := by decide +kernel
theorem dX5_ofOthers_57 : decode cX5_ofOthers 57 = .ok (.bipush 9, 2) := by decide +kernel
theorem dX5_ofOthers_59 : decode cX5_ofOthers 59 = .ok (.if_icmp .ne 29, 3) := by decide +kernel
theorem dX5_ofOthers_62 : decode cX5_ofOthers 62 = .ok (.aload_n 0, 1) := by decide +kernel
theorem dX5_ofOthers_63 : decode cX5_ofOthers 63 = .ok (.aload_n 0, 1) := by decide +kernel
theorem dX5_ofOthers_64 : decode cX5_ofOthers 64 = .ok (.getfield 84, 3) := by decide +kernel
theorem dX5_ofOthers_67 : decode cX5_ofOthers 67 = .ok (.aload_n 0, 1) := by decide +kernel
theorem dX5_ofOthers_68 : decode cX5_ofOthers 68 = .ok (.bipush 30, 2) := by decide +kernel
theorem dX5_ofOthers_70 : decode cX5_ofOthers 70 = .ok (.invokevirtual 28, 3) := by decide +kernel
theorem dX5_ofOthers_73 : decode cX5_ofOthers 73 = .ok (.iload_n 1, 1) := by decide +kernel
theorem dX5_ofOthers_74 : decode cX5_ofOthers 74 = .ok (.ldc 60, 2) := by decide +kernel
theorem dX5_ofOthers_76 : decode cX5_ofOthers 76 = .ok (.if_icmp .ne 7, 3) := by decide +kernel
theorem dX5_ofOthers_79 : decode cX5_ofOthers 79 = .ok (.iconst 1, 1) := by decide +kernel
theorem dX5_ofOthers_80 : decode cX5_ofOthers 80 = .ok (.goto 4, 3) := by decide +kernel
theorem dX5_ofOthers_83 : decode cX5_ofOthers 83 = .ok (.iconst 0, 1) := by decide +kernel
theorem dX5_ofOthers_84 : decode cX5_ofOthers 84 = .ok (.invokevirtual 148, 3) := by decide +kernel
theorem dX5_ofOthers_87 : decode cX5_ofOthers 87 = .ok (.ireturn, 1) := by decide +kernel
theorem dX5_ofOthers_88 : decode cX5_ofOthers 88 = .ok (.iload_n 1, 1) := by decide +kernel
theorem dX5_ofOthers_89 : decode cX5_ofOthers 89 = .ok (.ldc 56, 2) := by decide +kernel
theorem dX5_ofOthers_91 : decode cX5_ofOthers 91 = .ok (.if_icmp .eq 9, 3) := by decide +kernel
theorem dX5_ofOthers_94 : decode cX5_ofOthers 94 = .ok (.iload_n 1, 1) := by decide +kernel
theorem dX5_ofOthers_95 : decode cX5_ofOthers 95 = .ok (.ldc 57, 2) := by decide +kernel
theorem dX5_ofOthers_97 : decode cX5_ofOthers 97 = .ok (.if_icmp .ne 9, 3) := by decide +kernel
theorem dX5_ofOthers_100 : decode cX5_ofOthers 100 = .ok (.aload_n 0, 1) := by decide +kernel
theorem dX5_ofOthers_101 : decode cX5_ofOthers 101 = .ok (.iload_n 1, 1) := by decide +kernel
theorem dX5_ofOthers_102 : decode cX5_ofOthers 102 = .ok (.invokevirtual 151, 3) := by decide +kernel
theorem dX5_ofOthers_105 : decode cX5_ofOthers 105 = .ok (.ireturn, 1) := by decide +kernel
theorem dX5_ofOthers_106 : decode cX5_ofOthers 106 = .ok (.iload_n 1, 1) := by decide +kernel
theorem dX5_ofOthers_107 : decode cX5_ofOthers 107 = .ok (.ldc 58, 2) := by decide +kernel
theorem dX5_ofOthers_109 : decode cX5_ofOthers 109 = .ok (.if_icmp .ne 22, 3) := by decide +kernel
theorem dX5_ofOthers_112 : decode cX5_ofOthers 112 = .ok (.aload_n 0, 1) := by decide +kernel
theorem dX5_ofOthers_113 : decode cX5_ofOthers 113 = .ok (.getfield 13, 3) := by decide +kernel
theorem dX5_ofOthers_116 : decode cX5_ofOthers 116 = .ok (.iconst 0, 1) := by decide +kernel
theorem dX5_ofOthers_117 : decode cX5_ofOthers 117 = .ok (.aload_n 0, 1) := by decide +kernel
theorem dX5_ofOthers_118 : decode cX5_ofOthers 118 = .ok (.aload_n 0, 1) := by decide +kernel
theorem dX5_ofOthers_119 : decode cX5_ofOthers 119 = .ok (.bipush 30, 2) := by decide +kernel
theorem dX5_ofOthers_121 : decode cX5_ofOthers 121 = .ok (.invokevirtual 28, 3) := by decide +kernel
theorem dX5_ofOthers_124 : decode cX5_ofOthers 124 = .ok (.invokevirtual 138, 3) := by decide +kernel
theorem dX5_ofOthers_127 : decode cX5_ofOthers 127 = .ok (.iastore, 1) := by decide +kernel
theorem dX5_ofOthers_128 : decode cX5_ofOthers 128 = .ok (.goto 28, 3) := by decide +kernel
theorem dX5_ofOthers_131 : decode cX5_ofOthers 131 = .ok (.aload_n 0, 1) := by decide +kernel
theorem dX5_ofOthers_132 : decode cX5_ofOthers 132 = .ok (.iconst 1, 1) := by decide +kernel
theorem dX5_ofOthers_133 : decode cX5_ofOthers 133 = .ok (.iload_n 1, 1) := by decide +kernel
theorem dX5_ofOthers_134 : decode cX5_ofOthers 134 = .ok (.iconst 4, 1) := by decide +kernel
theorem dX5_ofOthers_135 : decode cX5_ofOthers 135 = .ok (.ishr, 1) := by decide +kernel
theorem dX5_ofOthers_136 : decode cX5_ofOthers 136 = .ok (.bipush 7, 2) := by decide +kernel
theorem dX5_ofOthers_138 : decode cX5_ofOthers 138 = .ok (.iand, 1) := by decide +kernel
theorem dX5_ofOthers_139 : decode cX5_ofOthers 139 = .ok (.ishl, 1) := by decide +kernel
theorem dX5_ofOthers_140 : decode cX5_ofOthers 140 = .ok (.iload_n 1, 1) := by decide +kernel
theorem dX5_ofOthers_141 : decode cX5_ofOthers 141 = .ok (.sipush 128, 3) := by decide +kernel
theorem dX5_ofOthers_144 : decode cX5_ofOthers 144 = .ok (.iand, 1) := by decide +kernel
theorem dX5_ofOthers_145 : decode cX5_ofOthers 145 = .ok (.ifCond .ne 7, 3) := by decide +kernel
theorem dX5_ofOthers_148 : decode cX5_ofOthers 148 = .ok (.iconst 1, 1) := by decide +kernel
theorem dX5_ofOthers_149 : decode cX5_ofOthers 149 = .ok (.goto 4, 3) := by decide +kernel
theorem dX5_ofOthers_152 : decode cX5_ofOthers 152 = .ok (.iconst 0, 1) := by decide +kernel
theorem dX5_ofOthers_153 : decode cX5_ofOthers 153 = .ok (.invokevirtual 74, 3) := by decide +kernel
theorem dX5_ofOthers_156 : decode cX5_ofOthers 156 = .ok (.iconst 0, 1) := by decide +kernel
theorem dX5_ofOthers_157 : decode cX5_ofOthers 157 = .ok (.ireturn, 1) := by decide +kernel
set_option maxRecDepth 20000 in
theorem ggX5_ofNine_X5_isMemory : GoodIn wsX5_ofNine wsX5_isMemory := goodIn_r _ [7, 8, 9] (by decide +kernel) (by decide +kernel)
set_option maxRecDepth 20000 in
theorem gX5_ofNine_X5_isMemory : GoodIn wsX5_ofNine (va_wsS RX5 43 yX5_isMemory wsX5_isMemory) := goodIn_app (goodIn_of _ (by decide +kernel)) ggX5_ofNine_X5_isMemory
set_option maxRecDepth 20000 in
theorem ggX5_ofNine_X5_ofMemory : GoodIn wsX5_ofNine wsX5_ofMemory := goodIn_r _ [13, 14, 15, 3, 16, 17, 18, 6, 19, 20, 21, 22, 23, 24, 25, 26, 27, 28, 29, 30, 31, 32, 33, 34, 35, 36, 37, 38, 39, 40, 41, 42, 43, 44, 45, 46, 47, 48, 49, 50, 51, 52, 53, 136, 137, 138, 139, 140, 141, 142, 143] (by decide +kernel) (by decide +kernel)
set_option maxRecDepth 20000 in
theorem gX5_ofNine_X5_ofMemory : GoodIn wsX5_ofNine (wsV RX5 154 RX5 yX5_ofMemory wsX5_ofMemory) := goodIn_app (goodIn_of _ (by decide +kernel)) ggX5_ofNine_X5_ofMemory
set_option maxRecDepth 20000 in
theorem ggX5_ofNine_X5_isOne : GoodIn wsX5_ofNine wsX5_isOne := goodIn_r _ [56, 57, 58] (by decide +kernel) (by decide +kernel)
set_option maxRecDepth 20000 in
theorem gX5_ofNine_X5_isOne : GoodIn wsX5_ofNine (va_wsS RX5 47 yX5_isOne wsX5_isOne) := goodIn_app (goodIn_of _ (by decide +kernel)) ggX5_ofNine_X5_isOne
theorem ggX5_ofNine_X5_ofOthers_h : GoodIn wsX5_ofNine [Cond.code yX5_ofOthers cX5_ofOthers 4 (some .int)] := goodIn_r _ [62] (by decide +kernel) (by decide +kernel)
set_option maxRecDepth 20000 in
theorem ggX5_ofNine_X5_ofOthers_1 : GoodIn wsX5_ofNine wsX5_ofOthers_r1 := goodIn_r _ [14, 15, 63, 64, 65, 66, 3, 67, 68, 69, 6, 70, 71, 72, 73, 74, 75, 16, 24, 25, 26, 27, 28, 29] (by decide +kernel) (by decide +kernel)
set_option maxRecDepth 20000 in
theorem ggX5_ofNine_X5_ofOthers_2 : GoodIn wsX5_ofNine wsX5_ofOthers_r2 := goodIn_r _ [30, 76, 77, 78, 79, 31, 32, 33, 34, 35, 36, 37, 38, 80, 81, 82, 83, 39, 40, 41, 42, 84, 85, 86] (by decide +kernel) (by decide +kernel)
set_option maxRecDepth 20000 in
theorem ggX5_ofNine_X5_ofOthers_3 : GoodIn wsX5_ofNine wsX5_ofOthers_r3 := goodIn_r _ [87, 47, 48, 49, 50] (by decide +kernel) (by decide +kernel)
set_option maxRecDepth 20000 in
theorem ggX5_ofNine_X5_ofOthers_4 : GoodIn wsX5_ofNine wsX50 := goodIn_r _ [136, 137, 138, 139, 140, 141, 142, 143] (by decide +kernel) (by decide +kernel)
theorem ggX5_ofNine_X5_ofOthers : GoodIn wsX5_ofNine wsX5_ofOthers := goodIn_app (a := [Cond.code yX5_ofOthers cX5_ofOthers 4 (some .int)]) ggX5_ofNine_X5_ofOthers_h (goodIn_app (goodIn_app ggX5_ofNine_X5_ofOthers_1 (goodIn_app ggX5_ofNine_X5_ofOthers_2 ggX5_ofNine_X5_ofOthers_3)) ggX5_ofNine_X5_ofOthers_4)
set_option maxRecDepth 20000 in
theorem gX5_ofNine_X5_ofOthers : GoodIn wsX5_ofNine (wsV RX5 157 RX5 yX5_ofOthers wsX5_ofOthers) := goodIn_app (goodIn_of _ (by decide +kernel)) ggX5_ofNine_X5_ofOthers
set_option maxRecDepth 20000 in
theorem ggX5_ofNine_X5_ofOne : GoodIn wsX5_ofNine wsX5_ofOne := goodIn_r _ [91, 3, 17, 18, 6, 19, 92, 93, 94, 95, 96, 97, 98, 99, 84, 85, 86, 87, 100, 101, 102, 103, 104, 105, 106, 107, 108, 109, 110, 111, 112, 113, 114, 115, 136, 137, 138, 139, 140, 141, 142, 143] (by decide +kernel) (by decide +kernel)
set_option maxRecDepth 20000 in
theorem gX5_ofNine_X5_ofOne : GoodIn wsX5_ofNine (wsV RX5 160 RX5 yX5_ofOne wsX5_ofOne) := goodIn_app (goodIn_of _ (by decide +kernel)) ggX5_ofNine_X5_ofOne
set_option maxRecDepth 20000 in
theorem ggX5_ofNine_X5_ofPair : GoodIn wsX5_ofNine wsX5_ofPair := goodIn_r _ [119, 16, 120, 24, 25, 26, 6, 27, 3, 35, 36, 37, 38, 84, 85, 86, 87, 136, 137, 138, 139, 140, 141, 142, 143] (by decide +kernel) (by decide +kernel)
set_option maxRecDepth 20000 in
theorem gX5_ofNine_X5_ofPair : GoodIn wsX5_ofNine (wsV RX5 164 RX5 yX5_ofPair wsX5_ofPair) := goodIn_app (goodIn_of _ (by decide +kernel)) ggX5_ofNine_X5_ofPair
set_option maxRecDepth 20000 in
theorem ggX5_ofNine_X5_ofPortBit : GoodIn wsX5_ofNine wsX5_ofPortBit := goodIn_r _ [124, 3, 125, 126, 127, 6, 128, 14, 15, 71, 129, 130, 131, 4, 5, 7, 8, 9, 54, 55, 56, 57, 58, 136, 137, 138, 139, 140, 141, 142, 143] (by decide +kernel) (by decide +kernel)
set_option maxRecDepth 20000 in
theorem gX5_ofNine_X5_ofPortBit : GoodIn wsX5_ofNine (wsV RX5 168 RX5 yX5_ofPortBit wsX5_ofPortBit) := goodIn_app (goodIn_of _ (by decide +kernel)) ggX5_ofNine_X5_ofPortBit
set_option maxRecDepth 20000 in
theorem ggX5_ofNine_X5_dOf : GoodIn wsX5_ofNine wsX5_dOf := goodIn_r _ [19] (by decide +kernel) (by decide +kernel)
set_option maxRecDepth 20000 in
theorem gX5_ofNine_X5_dOf : GoodIn wsX5_ofNine (va_wsS RX5 53 yX5_dOf wsX5_dOf) := goodIn_app (goodIn_of _ (by decide +kernel)) ggX5_ofNine_X5_dOf
set_option maxRecDepth 20000 in
theorem ggX5_ofNine_X5_product : GoodIn wsX5_ofNine wsX5_product := goodIn_r _ [135, 16, 84, 85, 86, 6, 87, 3, 35, 36, 37, 38, 136, 137, 138, 139, 140, 141, 142, 143] (by decide +kernel) (by decide +kernel)
set_option maxRecDepth 20000 in
theorem gX5_ofNine_X5_product : GoodIn wsX5_ofNine (wsV RX5 113 RX5 yX5_product wsX5_product) := goodIn_app (goodIn_of _ (by decide +kernel)) ggX5_ofNine_X5_product
theorem dX5_ofNine_0 : decode cX5_ofNine 0 = .ok (.iload_n 1, 1) := by decide +kernel
theorem dX5_ofNine_1 : decode cX5_ofNine 1 = .ok (.invokestatic 43, 3) := by decide +kernel
theorem dX5_ofNine_4 : decode cX5_ofNine 4 = .ok (.ifCond .eq 9, 3) := by decide +kernel
theorem dX5_ofNine_7 : decode cX5_ofNine 7 = .ok (.aload_n 0, 1) := by decide +kernel
theorem dX5_ofNine_8 : decode cX5_ofNine 8 = .ok (.iload_n 1, 1) := by decide +kernel
theorem dX5_ofNine_9 : decode cX5_ofNine 9 = .ok (.invokevirtual 154, 3) := by decide +kernel
theorem dX5_ofNine_12 : decode cX5_ofNine 12 = .ok (.ireturn, 1) := by decide +kernel
theorem dX5_ofNine_13 : decode cX5_ofNine 13 = .ok (.iload_n 1, 1) := by decide +kernel
theorem dX5_ofNine_14 : decode cX5_ofNine 14 = .ok (.invokestatic 47, 3) := by decide +kernel
theorem dX5_ofNine_17 : decode cX5_ofNine 17 = .ok (.ifCond .eq 40, 3) := by decide +kernel
theorem dX5_ofNine_20 : decode cX5_ofNine 20 = .ok (.iload_n 1, 1) := by decide +kernel
theorem dX5_ofNine_21 : decode cX5_ofNine 21 = .ok (.bipush 15, 2) := by decide +kernel
theorem dX5_ofNine_23 : decode cX5_ofNine 23 = .ok (.iand, 1) := by decide +kernel
theorem dX5_ofNine_24 : decode cX5_ofNine 24 = .ok (.istore_n 2, 1) := by decide +kernel
theorem dX5_ofNine_25 : decode cX5_ofNine 25 = .ok (.iload_n 2, 1) := by decide +kernel
theorem dX5_ofNine_26 : decode cX5_ofNine 26 = .ok (.bipush 10, 2) := by decide +kernel
theorem dX5_ofNine_28 : decode cX5_ofNine 28 = .ok (.if_icmp .gt 15, 3) := by decide +kernel
theorem dX5_ofNine_31 : decode cX5_ofNine 31 = .ok (.iload_n 2, 1) := by decide +kernel
theorem dX5_ofNine_32 : decode cX5_ofNine 32 = .ok (.bipush 8, 2) := by decide +kernel
theorem dX5_ofNine_34 : decode cX5_ofNine 34 = .ok (.if_icmp .eq 9, 3) := by decide +kernel
theorem dX5_ofNine_37 : decode cX5_ofNine 37 = .ok (.iload_n 2, 1) := by decide +kernel
theorem dX5_ofNine_38 : decode cX5_ofNine 38 = .ok (.bipush 9, 2) := by decide +kernel
theorem dX5_ofNine_40 : decode cX5_ofNine 40 = .ok (.if_icmp .ne 9, 3) := by decide +kernel
theorem dX5_ofNine_43 : decode cX5_ofNine 43 = .ok (.aload_n 0, 1) := by decide +kernel
theorem dX5_ofNine_44 : decode cX5_ofNine 44 = .ok (.iload_n 1, 1) := by decide +kernel
theorem dX5_ofNine_45 : decode cX5_ofNine 45 = .ok (.invokevirtual 157, 3) := by decide +kernel
theorem dX5_ofNine_48 : decode cX5_ofNine 48 = .ok (.ireturn, 1) := by decide +kernel
theorem dX5_ofNine_49 : decode cX5_ofNine 49 = .ok (.aload_n 0, 1) := by decide +kernel
theorem dX5_ofNine_50 : decode cX5_ofNine 50 = .ok (.iload_n 1, 1) := by decide +kernel
theorem dX5_ofNine_51 : decode cX5_ofNine 51 = .ok (.invokevirtual 160, 3) := by decide +kernel
theorem dX5_ofNine_54 : decode cX5_ofNine 54 = .ok (.goto 62, 3) := by decide +kernel
theorem dX5_ofNine_57 : decode cX5_ofNine 57 = .ok (.iload_n 1, 1) := by decide +kernel
theorem dX5_ofNine_58 : decode cX5_ofNine 58 = .ok (.ldc 163, 2) := by decide +kernel
theorem dX5_ofNine_60 : decode cX5_ofNine 60 = .ok (.if_icmp .ge 11, 3) := by decide +kernel
theorem dX5_ofNine_63 : decode cX5_ofNine 63 = .ok (.aload_n 0, 1) := by decide +kernel
theorem dX5_ofNine_64 : decode cX5_ofNine 64 = .ok (.iload_n 1, 1) := by decide +kernel
theorem dX5_ofNine_65 : decode cX5_ofNine 65 = .ok (.invokevirtual 164, 3) := by decide +kernel
theorem dX5_ofNine_68 : decode cX5_ofNine 68 = .ok (.goto 48, 3) := by decide +kernel
theorem dX5_ofNine_71 : decode cX5_ofNine 71 = .ok (.iload_n 1, 1) := by decide +kernel
theorem dX5_ofNine_72 : decode cX5_ofNine 72 = .ok (.ldc 167, 2) := by decide +kernel
theorem dX5_ofNine_74 : decode cX5_ofNine 74 = .ok (.if_icmp .ge 11, 3) := by decide +kernel
theorem dX5_ofNine_77 : decode cX5_ofNine 77 = .ok (.aload_n 0, 1) := by decide +kernel
theorem dX5_ofNine_78 : decode cX5_ofNine 78 = .ok (.iload_n 1, 1) := by decide +kernel
theorem dX5_ofNine_79 : decode cX5_ofNine 79 = .ok (.invokevirtual 168, 3) := by decide +kernel
theorem dX5_ofNine_82 : decode cX5_ofNine 82 = .ok (.goto 34, 3) := by decide +kernel
theorem dX5_ofNine_85 : decode cX5_ofNine 85 = .ok (.aload_n 0, 1) := by decide +kernel
theorem dX5_ofNine_86 : decode cX5_ofNine 86 = .ok (.aload_n 0, 1) := by decide +kernel
theorem dX5_ofNine_87 : decode cX5_ofNine 87 = .ok (.getfield 13, 3) := by decide +kernel
theorem dX5_ofNine_90 : decode cX5_ofNine 90 = .ok (.iload_n 1, 1) := by decide +kernel
theorem dX5_ofNine_91 : decode cX5_ofNine 91 = .ok (.invokestatic 53, 3) := by decide +kernel
theorem dX5_ofNine_94 : decode cX5_ofNine 94 = .ok (.iaload, 1) := by decide +kernel
theorem dX5_ofNine_95 : decode cX5_ofNine 95 = .ok (.aload_n 0, 1) := by decide +kernel
theorem dX5_ofNine_96 : decode cX5_ofNine 96 = .ok (.getfield 13, 3) := by decide +kernel
theorem dX5_ofNine_99 : decode cX5_ofNine 99 = .ok (.iload_n 1, 1) := by decide +kernel
theorem dX5_ofNine_100 : decode cX5_ofNine 100 = .ok (.iconst 5, 1) := by decide +kernel
theorem dX5_ofNine_101 : decode cX5_ofNine 101 = .ok (.ishr, 1) := by decide +kernel
theorem dX5_ofNine_102 : decode cX5_ofNine 102 = .ok (.bipush 16, 2) := by decide +kernel
theorem dX5_ofNine_104 : decode cX5_ofNine 104 = .ok (.iand, 1) := by decide +kernel
theorem dX5_ofNine_105 : decode cX5_ofNine 105 = .ok (.iload_n 1, 1) := by decide +kernel
theorem dX5_ofNine_106 : decode cX5_ofNine 106 = .ok (.bipush 15, 2) := by decide +kernel
theorem dX5_ofNine_108 : decode cX5_ofNine 108 = .ok (.iand, 1) := by decide +kernel
theorem dX5_ofNine_109 : decode cX5_ofNine 109 = .ok (.ior, 1) := by decide +kernel
theorem dX5_ofNine_110 : decode cX5_ofNine 110 = .ok (.iaload, 1) := by decide +kernel
theorem dX5_ofNine_111 : decode cX5_ofNine 111 = .ok (.imul, 1) := by decide +kernel
theorem dX5_ofNine_112 : decode cX5_ofNine 112 = .ok (.iconst 0, 1) := by decide +kernel
theorem dX5_ofNine_113 : decode cX5_ofNine 113 = .ok (.invokevirtual 113, 3) := by decide +kernel
theorem dX5_ofNine_116 : decode cX5_ofNine 116 = .ok (.iconst 0, 1) := by decide +kernel
theorem dX5_ofNine_117 : decode cX5_ofNine 117 = .ok (.ireturn, 1) := by decide +kernel
set_option maxRecDepth 20000 in
theorem ggX5_ofFifteen_X5_ofBit : GoodIn wsX5_ofFifteen wsX5_ofBit := goodIn_r _ [7, 8, 9, 10, 6, 11, 12, 13, 14, 15, 16, 17, 18, 19, 20, 21, 22, 23, 24, 2, 25, 26, 27, 28, 29, 30, 31, 32, 33, 34, 35, 36, 37, 38, 39, 40, 41, 42, 43, 44, 45, 46] (by decide +kernel) (by decide +kernel)
set_option maxRecDepth 20000 in
theorem gX5_ofFifteen_X5_ofBit : GoodIn wsX5_ofFifteen (wsV RX5 172 RX5 yX5_ofBit wsX5_ofBit) := goodIn_app (goodIn_of _ (by decide +kernel)) ggX5_ofFifteen_X5_ofBit
set_option maxRecDepth 20000 in
theorem ggX5_ofFifteen_X5_has : GoodIn wsX5_ofFifteen wsX5_has := goodIn_r _ [15, 8, 39, 40, 41, 42, 43, 44, 45, 46] (by decide +kernel) (by decide +kernel)
set_option maxRecDepth 20000 in
theorem gX5_ofFifteen_X5_has : GoodIn wsX5_ofFifteen (wsV RX5 81 RX5 yX5_has wsX5_has) := goodIn_app (goodIn_of _ (by decide +kernel)) ggX5_ofFifteen_X5_has
theorem dX5_ofFifteen_0 : decode cX5_ofFifteen 0 = .ok (.iload_n 1, 1) := by decide +kernel
theorem dX5_ofFifteen_1 : decode cX5_ofFifteen 1 = .ok (.ldc 171, 2) := by decide +kernel
theorem dX5_ofFifteen_3 : decode cX5_ofFifteen 3 = .ok (.if_icmp .lt 10, 3) := by decide +kernel
theorem dX5_ofFifteen_6 : decode cX5_ofFifteen 6 = .ok (.aload_n 0, 1) := by decide +kernel
theorem dX5_ofFifteen_7 : decode cX5_ofFifteen 7 = .ok (.iload_n 1, 1) := by decide +kernel
theorem dX5_ofFifteen_8 : decode cX5_ofFifteen 8 = .ok (.invokevirtual 172, 3) := by decide +kernel
theorem dX5_ofFifteen_11 : decode cX5_ofFifteen 11 = .ok (.iconst 0, 1) := by decide +kernel
theorem dX5_ofFifteen_12 : decode cX5_ofFifteen 12 = .ok (.ireturn, 1) := by decide +kernel
theorem dX5_ofFifteen_13 : decode cX5_ofFifteen 13 = .ok (.iload_n 1, 1) := by decide +kernel
theorem dX5_ofFifteen_14 : decode cX5_ofFifteen 14 = .ok (.iconst 3, 1) := by decide +kernel
theorem dX5_ofFifteen_15 : decode cX5_ofFifteen 15 = .ok (.ishr, 1) := by decide +kernel
theorem dX5_ofFifteen_16 : decode cX5_ofFifteen 16 = .ok (.bipush 127, 2) := by decide +kernel
theorem dX5_ofFifteen_18 : decode cX5_ofFifteen 18 = .ok (.iand, 1) := by decide +kernel
theorem dX5_ofFifteen_19 : decode cX5_ofFifteen 19 = .ok (.istore_n 2, 1) := by decide +kernel
theorem dX5_ofFifteen_20 : decode cX5_ofFifteen 20 = .ok (.iload_n 2, 1) := by decide +kernel
theorem dX5_ofFifteen_21 : decode cX5_ofFifteen 21 = .ok (.bipush 63, 2) := by decide +kernel
theorem dX5_ofFifteen_23 : decode cX5_ofFifteen 23 = .ok (.if_icmp .le 11, 3) := by decide +kernel
theorem dX5_ofFifteen_26 : decode cX5_ofFifteen 26 = .ok (.iload_n 2, 1) := by decide +kernel
theorem dX5_ofFifteen_27 : decode cX5_ofFifteen 27 = .ok (.sipush 128, 3) := by decide +kernel
theorem dX5_ofFifteen_30 : decode cX5_ofFifteen 30 = .ok (.isub, 1) := by decide +kernel
theorem dX5_ofFifteen_31 : decode cX5_ofFifteen 31 = .ok (.goto 4, 3) := by decide +kernel
theorem dX5_ofFifteen_34 : decode cX5_ofFifteen 34 = .ok (.iload_n 2, 1) := by decide +kernel
theorem dX5_ofFifteen_35 : decode cX5_ofFifteen 35 = .ok (.istore_n 2, 1) := by decide +kernel
theorem dX5_ofFifteen_36 : decode cX5_ofFifteen 36 = .ok (.aload_n 0, 1) := by decide +kernel
theorem dX5_ofFifteen_37 : decode cX5_ofFifteen 37 = .ok (.iconst 1, 1) := by decide +kernel
theorem dX5_ofFifteen_38 : decode cX5_ofFifteen 38 = .ok (.iload_n 1, 1) := by decide +kernel
theorem dX5_ofFifteen_39 : decode cX5_ofFifteen 39 = .ok (.bipush 7, 2) := by decide +kernel
theorem dX5_ofFifteen_41 : decode cX5_ofFifteen 41 = .ok (.iand, 1) := by decide +kernel
theorem dX5_ofFifteen_42 : decode cX5_ofFifteen 42 = .ok (.ishl, 1) := by decide +kernel
theorem dX5_ofFifteen_43 : decode cX5_ofFifteen 43 = .ok (.invokevirtual 81, 3) := by decide +kernel
theorem dX5_ofFifteen_46 : decode cX5_ofFifteen 46 = .ok (.istore_n 3, 1) := by decide +kernel
theorem dX5_ofFifteen_47 : decode cX5_ofFifteen 47 = .ok (.iload_n 3, 1) := by decide +kernel
theorem dX5_ofFifteen_48 : decode cX5_ofFifteen 48 = .ok (.iload_n 1, 1) := by decide +kernel
theorem dX5_ofFifteen_49 : decode cX5_ofFifteen 49 = .ok (.sipush 1024, 3) := by decide +kernel
theorem dX5_ofFifteen_52 : decode cX5_ofFifteen 52 = .ok (.iand, 1) := by decide +kernel
theorem dX5_ofFifteen_53 : decode cX5_ofFifteen 53 = .ok (.iconst 1, 1) := by decide +kernel
theorem dX5_ofFifteen_54 : decode cX5_ofFifteen 54 = .ok (.if_icmp .ge 7, 3) := by decide +kernel
theorem dX5_ofFifteen_57 : decode cX5_ofFifteen 57 = .ok (.iconst 1, 1) := by decide +kernel
theorem dX5_ofFifteen_58 : decode cX5_ofFifteen 58 = .ok (.goto 4, 3) := by decide +kernel
theorem dX5_ofFifteen_61 : decode cX5_ofFifteen 61 = .ok (.iconst 0, 1) := by decide +kernel
theorem dX5_ofFifteen_62 : decode cX5_ofFifteen 62 = .ok (.if_icmp .ne 17, 3) := by decide +kernel
theorem dX5_ofFifteen_65 : decode cX5_ofFifteen 65 = .ok (.aload_n 0, 1) := by decide +kernel
theorem dX5_ofFifteen_66 : decode cX5_ofFifteen 66 = .ok (.aload_n 0, 1) := by decide +kernel
theorem dX5_ofFifteen_67 : decode cX5_ofFifteen 67 = .ok (.getfield 84, 3) := by decide +kernel
theorem dX5_ofFifteen_70 : decode cX5_ofFifteen 70 = .ok (.iload_n 2, 1) := by decide +kernel
theorem dX5_ofFifteen_71 : decode cX5_ofFifteen 71 = .ok (.iadd, 1) := by decide +kernel
theorem dX5_ofFifteen_72 : decode cX5_ofFifteen 72 = .ok (.sipush 1023, 3) := by decide +kernel
theorem dX5_ofFifteen_75 : decode cX5_ofFifteen 75 = .ok (.iand, 1) := by decide +kernel
theorem dX5_ofFifteen_76 : decode cX5_ofFifteen 76 = .ok (.putfield 84, 3) := by decide +kernel
theorem dX5_ofFifteen_79 : decode cX5_ofFifteen 79 = .ok (.iconst 0, 1) := by decide +kernel
theorem dX5_ofFifteen_80 : decode cX5_ofFifteen 80 = .ok (.ireturn, 1) := by decide +kernel
set_option maxRecDepth 20000 in
theorem ggX5_does_X5_ofPlaces : GoodIn wsX5_does wsX5_ofPlaces := goodIn_r _ [8, 9, 10, 11, 12, 7, 13, 14, 15, 16, 17, 18, 19, 20, 21, 22, 23, 24, 177, 178, 179, 180, 181, 182, 183, 184] (by decide +kernel) (by decide +kernel)
set_option maxRecDepth 20000 in
theorem gX5_does_X5_ofPlaces : GoodIn wsX5_does (wsV RX5 176 RX5 yX5_ofPlaces wsX5_ofPlaces) := goodIn_app (goodIn_of _ (by decide +kernel)) ggX5_does_X5_ofPlaces
theorem ggX5_does_X5_ofTwo_h : GoodIn wsX5_does [Cond.code yX5_ofTwo cX5_ofTwo 8 none] := goodIn_r _ [28] (by decide +kernel) (by decide +kernel)
set_option maxRecDepth 20000 in
theorem ggX5_does_X5_ofTwo_1 : GoodIn wsX5_does wsX5_ofTwo_r1 := goodIn_r _ [14, 15, 16, 7, 17, 29, 30, 31, 32, 33, 34, 35, 36, 37, 38, 39, 40, 41, 42, 43, 44, 45, 46, 47] (by decide +kernel) (by decide +kernel)
set_option maxRecDepth 20000 in
theorem ggX5_does_X5_ofTwo_2 : GoodIn wsX5_does wsX5_ofTwo_r2 := goodIn_r _ [48, 49, 50, 51, 52, 53, 54, 55, 56, 57, 3, 58, 59, 60, 61, 62, 63, 64, 65, 66, 67, 68, 69, 70] (by decide +kernel) (by decide +kernel)
set_option maxRecDepth 20000 in
theorem ggX5_does_X5_ofTwo_3 : GoodIn wsX5_does wsX5_ofTwo_r3 := goodIn_r _ [71, 72, 73, 74, 75] (by decide +kernel) (by decide +kernel)
set_option maxRecDepth 20000 in
theorem ggX5_does_X5_ofTwo_4 : GoodIn wsX5_does wsX50 := goodIn_r _ [177, 178, 179, 180, 181, 182, 183, 184] (by decide +kernel) (by decide +kernel)
theorem ggX5_does_X5_ofTwo : GoodIn wsX5_does wsX5_ofTwo := goodIn_app (a := [Cond.code yX5_ofTwo cX5_ofTwo 8 none]) ggX5_does_X5_ofTwo_h (goodIn_app (goodIn_app ggX5_does_X5_ofTwo_1 (goodIn_app ggX5_does_X5_ofTwo_2 ggX5_does_X5_ofTwo_3)) ggX5_does_X5_ofTwo_4)
set_option maxRecDepth 20000 in
theorem gX5_does_X5_ofTwo : GoodIn wsX5_does (wsV RX5 179 RX5 yX5_ofTwo wsX5_ofTwo) := goodIn_app (goodIn_of _ (by decide +kernel)) ggX5_does_X5_ofTwo
set_option maxRecDepth 20000 in
theorem ggX5_does_X5_products : GoodIn wsX5_does wsX5_products := goodIn_r _ [79, 14, 80, 81, 7, 82, 83, 84, 85, 86, 9, 41, 42, 43, 44, 87, 88, 89, 90, 177, 178, 179, 180, 181, 182, 183, 184] (by decide +kernel) (by decide +kernel)
set_option maxRecDepth 20000 in
theorem gX5_does_X5_products : GoodIn wsX5_does (wsV RX5 182 RX5 yX5_products wsX5_products) := goodIn_app (goodIn_of _ (by decide +kernel)) ggX5_does_X5_products
set_option maxRecDepth 20000 in
theorem ggX5_does_X5_pair : GoodIn wsX5_does wsX5_pair := goodIn_r _ [13, 14, 177, 178, 179, 180, 181, 182, 183, 184] (by decide +kernel) (by decide +kernel)
set_option maxRecDepth 20000 in
theorem gX5_does_X5_pair : GoodIn wsX5_does (wsV RX5 28 RX5 yX5_pair wsX5_pair) := goodIn_app (goodIn_of _ (by decide +kernel)) ggX5_does_X5_pair
set_option maxRecDepth 20000 in
theorem ggX5_does_X5_setPair : GoodIn wsX5_does wsX5_setPair := goodIn_r _ [90, 14, 177, 178, 179, 180, 181, 182, 183, 184] (by decide +kernel) (by decide +kernel)
set_option maxRecDepth 20000 in
theorem gX5_does_X5_setPair : GoodIn wsX5_does (wsV RX5 106 RX5 yX5_setPair wsX5_setPair) := goodIn_app (goodIn_of _ (by decide +kernel)) ggX5_does_X5_setPair
theorem ggX5_does_X5_ofNine_h : GoodIn wsX5_does [Cond.code yX5_ofNine cX5_ofNine 3 (some .int)] := goodIn_r _ [94] (by decide +kernel) (by decide +kernel)
set_option maxRecDepth 20000 in
theorem ggX5_does_X5_ofNine_1 : GoodIn wsX5_does wsX5_ofNine_r1 := goodIn_r _ [95, 96, 14, 62, 63, 7, 64, 65, 66, 97, 98, 99, 100, 57, 3, 9, 15, 16, 17, 101, 102, 103, 104, 10] (by decide +kernel) (by decide +kernel)
set_option maxRecDepth 20000 in
theorem ggX5_does_X5_ofNine_2 : GoodIn wsX5_does wsX5_ofNine_r2 := goodIn_r _ [11, 12, 13, 22, 23, 24, 105, 106, 107, 108, 87, 88, 89, 90, 109, 110, 111, 112, 18, 19, 20, 21, 113, 114] (by decide +kernel) (by decide +kernel)
set_option maxRecDepth 20000 in
theorem ggX5_does_X5_ofNine_3 : GoodIn wsX5_does wsX5_ofNine_r3 := goodIn_r _ [115, 116, 117, 118, 119, 67, 68, 69, 70, 71, 120, 121, 122, 123, 124, 125, 126, 127, 128, 129, 130, 131, 58, 132] (by decide +kernel) (by decide +kernel)
set_option maxRecDepth 20000 in
theorem ggX5_does_X5_ofNine_4 : GoodIn wsX5_does wsX5_ofNine_r4 := goodIn_r _ [133, 134, 135, 136, 137, 138, 139, 140, 141, 142, 143, 41, 42, 43, 44, 144, 145, 146, 147, 72, 73, 74, 75, 45] (by decide +kernel) (by decide +kernel)
set_option maxRecDepth 20000 in
theorem ggX5_does_X5_ofNine_5 : GoodIn wsX5_does wsX5_ofNine_r5 := goodIn_r _ [46, 47, 48, 37, 38, 39, 40, 33, 34, 35, 36, 148, 149, 150, 151, 29, 30, 31, 32, 152, 153, 154, 155, 2] (by decide +kernel) (by decide +kernel)
set_option maxRecDepth 20000 in
theorem ggX5_does_X5_ofNine_6 : GoodIn wsX5_does wsX5_ofNine_r6 := goodIn_r _ [156, 157, 158, 159, 53, 54, 55, 56, 59, 60, 61, 83, 84, 85, 86] (by decide +kernel) (by decide +kernel)
set_option maxRecDepth 20000 in
theorem ggX5_does_X5_ofNine_7 : GoodIn wsX5_does wsX50 := goodIn_r _ [177, 178, 179, 180, 181, 182, 183, 184] (by decide +kernel) (by decide +kernel)
theorem ggX5_does_X5_ofNine : GoodIn wsX5_does wsX5_ofNine := goodIn_app (a := [Cond.code yX5_ofNine cX5_ofNine 3 (some .int)]) ggX5_does_X5_ofNine_h (goodIn_app (goodIn_app ggX5_does_X5_ofNine_1 (goodIn_app ggX5_does_X5_ofNine_2 (goodIn_app ggX5_does_X5_ofNine_3 (goodIn_app ggX5_does_X5_ofNine_4 (goodIn_app ggX5_does_X5_ofNine_5 ggX5_does_X5_ofNine_6))))) ggX5_does_X5_ofNine_7)
set_option maxRecDepth 20000 in
theorem gX5_does_X5_ofNine : GoodIn wsX5_does (wsV RX5 185 RX5 yX5_ofNine wsX5_ofNine) := goodIn_app (goodIn_of _ (by decide +kernel)) ggX5_does_X5_ofNine
set_option maxRecDepth 20000 in
theorem ggX5_does_X5_ofPort : GoodIn wsX5_does wsX5_ofPort := goodIn_r _ [163, 14, 15, 16, 7, 17, 177, 178, 179, 180, 181, 182, 183, 184] (by decide +kernel) (by decide +kernel)
set_option maxRecDepth 20000 in
theorem gX5_does_X5_ofPort : GoodIn wsX5_does (wsV RX5 188 RX5 yX5_ofPort wsX5_ofPort) := goodIn_app (goodIn_of _ (by decide +kernel)) ggX5_does_X5_ofPort
set_option maxRecDepth 20000 in
theorem ggX5_does_X5_jumps : GoodIn wsX5_does wsX5_jumps := goodIn_r _ [131, 3, 58, 132, 133, 134, 7, 135, 9, 10, 11, 12, 13, 14, 22, 23, 24, 136, 137, 138, 139, 105, 106, 107, 108, 87, 88, 89, 90, 177, 178, 179, 180, 181, 182, 183, 184] (by decide +kernel) (by decide +kernel)
set_option maxRecDepth 20000 in
theorem gX5_does_X5_jumps : GoodIn wsX5_does (wsV RX5 148 RX5 yX5_jumps wsX5_jumps) := goodIn_app (goodIn_of _ (by decide +kernel)) ggX5_does_X5_jumps
set_option maxRecDepth 20000 in
theorem ggX5_does_X5_ofFifteen : GoodIn wsX5_does wsX5_ofFifteen := goodIn_r _ [167, 168, 3, 169, 170, 171, 7, 172, 14, 15, 16, 17, 33, 34, 35, 36, 41, 42, 43, 44, 53, 54, 55, 56, 57, 58, 59, 60, 61, 62, 63, 64, 65, 66, 67, 68, 69, 70, 71, 177, 178, 179, 180, 181, 182, 183, 184] (by decide +kernel) (by decide +kernel)
set_option maxRecDepth 20000 in
theorem gX5_does_X5_ofFifteen : GoodIn wsX5_does (wsV RX5 191 RX5 yX5_ofFifteen wsX5_ofFifteen) := goodIn_app (goodIn_of _ (by decide +kernel)) ggX5_does_X5_ofFifteen
set_option maxRecDepth 20000 in
theorem ggX5_does_X5_ofNumber : GoodIn wsX5_does wsX5_ofNumber := goodIn_r _ [176, 14, 37, 38, 39, 7, 40, 33, 34, 35, 36, 41, 42, 43, 44, 45, 46, 47, 48, 29, 30, 31, 32, 72, 73, 74, 75, 177, 178, 179, 180, 181, 182, 183, 184] (by decide +kernel) (by decide +kernel)
set_option maxRecDepth 20000 in
theorem gX5_does_X5_ofNumber : GoodIn wsX5_does (wsV RX5 194 RX5 yX5_ofNumber wsX5_ofNumber) := goodIn_app (goodIn_of _ (by decide +kernel)) ggX5_does_X5_ofNumber
theorem dX5_does_0 : decode cX5_does 0 = .ok (.iload_n 1, 1) := by decide +kernel
theorem dX5_does_1 : decode cX5_does 1 = .ok (.bipush 12, 2) := by decide +kernel
theorem dX5_does_3 : decode cX5_does 3 = .ok (.ishr, 1) := by decide +kernel
theorem dX5_does_4 : decode cX5_does 4 = .ok (.istore_n 2, 1) := by decide +kernel
theorem dX5_does_5 : decode cX5_does 5 = .ok (.iload_n 1, 1) := by decide +kernel
theorem dX5_does_6 : decode cX5_does 6 = .ok (.ldc 175, 2) := by decide +kernel
theorem dX5_does_8 : decode cX5_does 8 = .ok (.iand, 1) := by decide +kernel
theorem dX5_does_9 : decode cX5_does 9 = .ok (.ldc 120, 2) := by decide +kernel
theorem dX5_does_11 : decode cX5_does 11 = .ok (.if_icmp .ne 9, 3) := by decide +kernel
theorem dX5_does_14 : decode cX5_does 14 = .ok (.aload_n 0, 1) := by decide +kernel
theorem dX5_does_15 : decode cX5_does 15 = .ok (.iload_n 1, 1) := by decide +kernel
theorem dX5_does_16 : decode cX5_does 16 = .ok (.invokevirtual 176, 3) := by decide +kernel
theorem dX5_does_19 : decode cX5_does 19 = .ok (.ireturn, 1) := by decide +kernel
theorem dX5_does_20 : decode cX5_does 20 = .ok (.iload_n 2, 1) := by decide +kernel
theorem dX5_does_21 : decode cX5_does 21 = .ok (.tableswitch 213 0 15 #[79, 140, 140, 213, 213, 213, 213, 213, 213, 147, 213, 153, 160, 160, 213, 207], 79) := by decide +kernel
theorem dX5_does_100 : decode cX5_does 100 = .ok (.iload_n 1, 1) := by decide +kernel
theorem dX5_does_101 : decode cX5_does 101 = .ok (.sipush 1023, 3) := by decide +kernel
theorem dX5_does_104 : decode cX5_does 104 = .ok (.if_icmp .le 11, 3) := by decide +kernel
theorem dX5_does_107 : decode cX5_does 107 = .ok (.aload_n 0, 1) := by decide +kernel
theorem dX5_does_108 : decode cX5_does 108 = .ok (.iload_n 1, 1) := by decide +kernel
theorem dX5_does_109 : decode cX5_does 109 = .ok (.invokevirtual 179, 3) := by decide +kernel
theorem dX5_does_112 : decode cX5_does 112 = .ok (.goto 47, 3) := by decide +kernel
theorem dX5_does_115 : decode cX5_does 115 = .ok (.iload_n 1, 1) := by decide +kernel
theorem dX5_does_116 : decode cX5_does 116 = .ok (.sipush 511, 3) := by decide +kernel
theorem dX5_does_119 : decode cX5_does 119 = .ok (.if_icmp .le 11, 3) := by decide +kernel
theorem dX5_does_122 : decode cX5_does 122 = .ok (.aload_n 0, 1) := by decide +kernel
theorem dX5_does_123 : decode cX5_does 123 = .ok (.iload_n 1, 1) := by decide +kernel
theorem dX5_does_124 : decode cX5_does 124 = .ok (.invokevirtual 182, 3) := by decide +kernel
theorem dX5_does_127 : decode cX5_does 127 = .ok (.goto 32, 3) := by decide +kernel
theorem dX5_does_130 : decode cX5_does 130 = .ok (.iload_n 1, 1) := by decide +kernel
theorem dX5_does_131 : decode cX5_does 131 = .ok (.sipush 255, 3) := by decide +kernel
theorem dX5_does_134 : decode cX5_does 134 = .ok (.if_icmp .le 25, 3) := by decide +kernel
theorem dX5_does_137 : decode cX5_does 137 = .ok (.aload_n 0, 1) := by decide +kernel
theorem dX5_does_138 : decode cX5_does 138 = .ok (.iconst 2, 1) := by decide +kernel
theorem dX5_does_139 : decode cX5_does 139 = .ok (.iload_n 1, 1) := by decide +kernel
theorem dX5_does_140 : decode cX5_does 140 = .ok (.iconst 4, 1) := by decide +kernel
theorem dX5_does_141 : decode cX5_does 141 = .ok (.ishr, 1) := by decide +kernel
theorem dX5_does_142 : decode cX5_does 142 = .ok (.bipush 15, 2) := by decide +kernel
theorem dX5_does_144 : decode cX5_does 144 = .ok (.iand, 1) := by decide +kernel
theorem dX5_does_145 : decode cX5_does 145 = .ok (.imul, 1) := by decide +kernel
theorem dX5_does_146 : decode cX5_does 146 = .ok (.aload_n 0, 1) := by decide +kernel
theorem dX5_does_147 : decode cX5_does 147 = .ok (.iconst 2, 1) := by decide +kernel
theorem dX5_does_148 : decode cX5_does 148 = .ok (.iload_n 1, 1) := by decide +kernel
theorem dX5_does_149 : decode cX5_does 149 = .ok (.bipush 15, 2) := by decide +kernel
theorem dX5_does_151 : decode cX5_does 151 = .ok (.iand, 1) := by decide +kernel
theorem dX5_does_152 : decode cX5_does 152 = .ok (.imul, 1) := by decide +kernel
theorem dX5_does_153 : decode cX5_does 153 = .ok (.invokevirtual 28, 3) := by decide +kernel
theorem dX5_does_156 : decode cX5_does 156 = .ok (.invokevirtual 106, 3) := by decide +kernel
theorem dX5_does_159 : decode cX5_does 159 = .ok (.iconst 0, 1) := by decide +kernel
theorem dX5_does_160 : decode cX5_does 160 = .ok (.ireturn, 1) := by decide +kernel
theorem dX5_does_161 : decode cX5_does 161 = .ok (.aload_n 0, 1) := by decide +kernel
theorem dX5_does_162 : decode cX5_does 162 = .ok (.iload_n 1, 1) := by decide +kernel
theorem dX5_does_163 : decode cX5_does 163 = .ok (.invokevirtual 179, 3) := by decide +kernel
theorem dX5_does_166 : decode cX5_does 166 = .ok (.iconst 0, 1) := by decide +kernel
theorem dX5_does_167 : decode cX5_does 167 = .ok (.ireturn, 1) := by decide +kernel
theorem dX5_does_168 : decode cX5_does 168 = .ok (.aload_n 0, 1) := by decide +kernel
theorem dX5_does_169 : decode cX5_does 169 = .ok (.iload_n 1, 1) := by decide +kernel
theorem dX5_does_170 : decode cX5_does 170 = .ok (.invokevirtual 185, 3) := by decide +kernel
theorem dX5_does_173 : decode cX5_does 173 = .ok (.ireturn, 1) := by decide +kernel
theorem dX5_does_174 : decode cX5_does 174 = .ok (.aload_n 0, 1) := by decide +kernel
theorem dX5_does_175 : decode cX5_does 175 = .ok (.iload_n 1, 1) := by decide +kernel
theorem dX5_does_176 : decode cX5_does 176 = .ok (.invokevirtual 188, 3) := by decide +kernel
theorem dX5_does_179 : decode cX5_does 179 = .ok (.iconst 0, 1) := by decide +kernel
theorem dX5_does_180 : decode cX5_does 180 = .ok (.ireturn, 1) := by decide +kernel
theorem dX5_does_181 : decode cX5_does 181 = .ok (.iload_n 1, 1) := by decide +kernel
theorem dX5_does_182 : decode cX5_does 182 = .ok (.sipush 4095, 3) := by decide +kernel
theorem dX5_does_185 : decode cX5_does 185 = .ok (.iand, 1) := by decide +kernel
theorem dX5_does_186 : decode cX5_does 186 = .ok (.istore_n 3, 1) := by decide +kernel
theorem dX5_does_187 : decode cX5_does 187 = .ok (.aload_n 0, 1) := by decide +kernel
theorem dX5_does_188 : decode cX5_does 188 = .ok (.aload_n 0, 1) := by decide +kernel
theorem dX5_does_189 : decode cX5_does 189 = .ok (.getfield 84, 3) := by decide +kernel
theorem dX5_does_192 : decode cX5_does 192 = .ok (.aload_n 0, 1) := by decide +kernel
theorem dX5_does_193 : decode cX5_does 193 = .ok (.getfield 84, 3) := by decide +kernel
theorem dX5_does_196 : decode cX5_does 196 = .ok (.iload_n 3, 1) := by decide +kernel
theorem dX5_does_197 : decode cX5_does 197 = .ok (.sipush 2047, 3) := by decide +kernel
theorem dX5_does_200 : decode cX5_does 200 = .ok (.if_icmp .le 11, 3) := by decide +kernel
theorem dX5_does_203 : decode cX5_does 203 = .ok (.iload_n 3, 1) := by decide +kernel
theorem dX5_does_204 : decode cX5_does 204 = .ok (.sipush 4096, 3) := by decide +kernel
theorem dX5_does_207 : decode cX5_does 207 = .ok (.isub, 1) := by decide +kernel
theorem dX5_does_208 : decode cX5_does 208 = .ok (.goto 4, 3) := by decide +kernel
theorem dX5_does_211 : decode cX5_does 211 = .ok (.iload_n 3, 1) := by decide +kernel
theorem dX5_does_212 : decode cX5_does 212 = .ok (.iadd, 1) := by decide +kernel
theorem dX5_does_213 : decode cX5_does 213 = .ok (.iload_n 2, 1) := by decide +kernel
theorem dX5_does_214 : decode cX5_does 214 = .ok (.bipush 13, 2) := by decide +kernel
theorem dX5_does_216 : decode cX5_does 216 = .ok (.if_icmp .ne 7, 3) := by decide +kernel
theorem dX5_does_219 : decode cX5_does 219 = .ok (.iconst 1, 1) := by decide +kernel
theorem dX5_does_220 : decode cX5_does 220 = .ok (.goto 4, 3) := by decide +kernel
theorem dX5_does_223 : decode cX5_does 223 = .ok (.iconst 0, 1) := by decide +kernel
theorem dX5_does_224 : decode cX5_does 224 = .ok (.invokevirtual 148, 3) := by decide +kernel
theorem dX5_does_227 : decode cX5_does 227 = .ok (.ireturn, 1) := by decide +kernel
theorem dX5_does_228 : decode cX5_does 228 = .ok (.aload_n 0, 1) := by decide +kernel
theorem dX5_does_229 : decode cX5_does 229 = .ok (.iload_n 1, 1) := by decide +kernel
theorem dX5_does_230 : decode cX5_does 230 = .ok (.invokevirtual 191, 3) := by decide +kernel
theorem dX5_does_233 : decode cX5_does 233 = .ok (.ireturn, 1) := by decide +kernel
theorem dX5_does_234 : decode cX5_does 234 = .ok (.aload_n 0, 1) := by decide +kernel
theorem dX5_does_235 : decode cX5_does 235 = .ok (.iload_n 1, 1) := by decide +kernel
theorem dX5_does_236 : decode cX5_does 236 = .ok (.invokevirtual 194, 3) := by decide +kernel
theorem dX5_does_239 : decode cX5_does 239 = .ok (.iconst 0, 1) := by decide +kernel
theorem dX5_does_240 : decode cX5_does 240 = .ok (.ireturn, 1) := by decide +kernel
set_option maxRecDepth 20000 in
theorem ggX5_enters_X5_canCall : GoodIn wsX5_enters wsX5_canCall := goodIn_r _ [8, 9, 10, 11, 12, 7, 13, 14, 15, 16, 17, 34, 35, 36, 37, 38, 39, 40, 41] (by decide +kernel) (by decide +kernel)
set_option maxRecDepth 20000 in
theorem gX5_enters_X5_canCall : GoodIn wsX5_enters (wsV RX5 141 RX5 yX5_canCall wsX5_canCall) := goodIn_app (goodIn_of _ (by decide +kernel)) ggX5_enters_X5_canCall
set_option maxRecDepth 20000 in
theorem ggX5_enters_X5_calls : GoodIn wsX5_enters wsX5_calls := goodIn_r _ [21, 3, 22, 23, 24, 7, 25, 14, 9, 10, 11, 12, 13, 26, 27, 28, 29, 34, 35, 36, 37, 38, 39, 40, 41] (by decide +kernel) (by decide +kernel)
set_option maxRecDepth 20000 in
theorem gX5_enters_X5_calls : GoodIn wsX5_enters (wsV RX5 145 RX5 yX5_calls wsX5_calls) := goodIn_app (goodIn_of _ (by decide +kernel)) ggX5_enters_X5_calls
set_option maxRecDepth 20000 in
theorem ggX5_enters_X5_flag : GoodIn wsX5_enters wsX5_flag := goodIn_r _ [33, 14, 34, 35, 36, 37, 38, 39, 40, 41] (by decide +kernel) (by decide +kernel)
set_option maxRecDepth 20000 in
theorem gX5_enters_X5_flag : GoodIn wsX5_enters (wsV RX5 74 RX5 yX5_flag wsX5_flag) := goodIn_app (goodIn_of _ (by decide +kernel)) ggX5_enters_X5_flag
theorem dX5_enters_0 : decode cX5_enters 0 = .ok (.aload_n 0, 1) := by decide +kernel
theorem dX5_enters_1 : decode cX5_enters 1 = .ok (.invokevirtual 141, 3) := by decide +kernel
theorem dX5_enters_4 : decode cX5_enters 4 = .ok (.ifCond .ne 5, 3) := by decide +kernel
theorem dX5_enters_7 : decode cX5_enters 7 = .ok (.iconst 3, 1) := by decide +kernel
theorem dX5_enters_8 : decode cX5_enters 8 = .ok (.ireturn, 1) := by decide +kernel
theorem dX5_enters_9 : decode cX5_enters 9 = .ok (.iconst 1, 1) := by decide +kernel
theorem dX5_enters_10 : decode cX5_enters 10 = .ok (.istore_n 1, 1) := by decide +kernel
theorem dX5_enters_11 : decode cX5_enters 11 = .ok (.aload_n 0, 1) := by decide +kernel
theorem dX5_enters_12 : decode cX5_enters 12 = .ok (.getfield 36, 3) := by decide +kernel
theorem dX5_enters_15 : decode cX5_enters 15 = .ok (.iload_n 1, 1) := by decide +kernel
theorem dX5_enters_16 : decode cX5_enters 16 = .ok (.ishr, 1) := by decide +kernel
theorem dX5_enters_17 : decode cX5_enters 17 = .ok (.iconst 1, 1) := by decide +kernel
theorem dX5_enters_18 : decode cX5_enters 18 = .ok (.iand, 1) := by decide +kernel
theorem dX5_enters_19 : decode cX5_enters 19 = .ok (.ifCond .ne 9, 3) := by decide +kernel
theorem dX5_enters_22 : decode cX5_enters 22 = .ok (.iinc 1 1, 3) := by decide +kernel
theorem dX5_enters_25 : decode cX5_enters 25 = .ok (.goto (-14), 3) := by decide +kernel
theorem dX5_enters_28 : decode cX5_enters 28 = .ok (.aload_n 0, 1) := by decide +kernel
theorem dX5_enters_29 : decode cX5_enters 29 = .ok (.dup, 1) := by decide +kernel
theorem dX5_enters_30 : decode cX5_enters 30 = .ok (.getfield 36, 3) := by decide +kernel
theorem dX5_enters_33 : decode cX5_enters 33 = .ok (.iconst 1, 1) := by decide +kernel
theorem dX5_enters_34 : decode cX5_enters 34 = .ok (.iload_n 1, 1) := by decide +kernel
theorem dX5_enters_35 : decode cX5_enters 35 = .ok (.ishl, 1) := by decide +kernel
theorem dX5_enters_36 : decode cX5_enters 36 = .ok (.iconst (-1), 1) := by decide +kernel
theorem dX5_enters_37 : decode cX5_enters 37 = .ok (.ixor, 1) := by decide +kernel
theorem dX5_enters_38 : decode cX5_enters 38 = .ok (.iand, 1) := by decide +kernel
theorem dX5_enters_39 : decode cX5_enters 39 = .ok (.putfield 36, 3) := by decide +kernel
theorem dX5_enters_42 : decode cX5_enters 42 = .ok (.aload_n 0, 1) := by decide +kernel
theorem dX5_enters_43 : decode cX5_enters 43 = .ok (.aload_n 0, 1) := by decide +kernel
theorem dX5_enters_44 : decode cX5_enters 44 = .ok (.getfield 19, 3) := by decide +kernel
theorem dX5_enters_47 : decode cX5_enters 47 = .ok (.iconst 2, 1) := by decide +kernel
theorem dX5_enters_48 : decode cX5_enters 48 = .ok (.iload_n 1, 1) := by decide +kernel
theorem dX5_enters_49 : decode cX5_enters 49 = .ok (.imul, 1) := by decide +kernel
theorem dX5_enters_50 : decode cX5_enters 50 = .ok (.invokevirtual 145, 3) := by decide +kernel
theorem dX5_enters_53 : decode cX5_enters 53 = .ok (.aload_n 0, 1) := by decide +kernel
theorem dX5_enters_54 : decode cX5_enters 54 = .ok (.aload_n 0, 1) := by decide +kernel
theorem dX5_enters_55 : decode cX5_enters 55 = .ok (.getfield 84, 3) := by decide +kernel
theorem dX5_enters_58 : decode cX5_enters 58 = .ok (.putfield 19, 3) := by decide +kernel
theorem dX5_enters_61 : decode cX5_enters 61 = .ok (.aload_n 0, 1) := by decide +kernel
theorem dX5_enters_62 : decode cX5_enters 62 = .ok (.sipush 128, 3) := by decide +kernel
theorem dX5_enters_65 : decode cX5_enters 65 = .ok (.iconst 0, 1) := by decide +kernel
theorem dX5_enters_66 : decode cX5_enters 66 = .ok (.invokevirtual 74, 3) := by decide +kernel
theorem dX5_enters_69 : decode cX5_enters 69 = .ok (.iconst 1, 1) := by decide +kernel
theorem dX5_enters_70 : decode cX5_enters 70 = .ok (.ireturn, 1) := by decide +kernel
set_option maxRecDepth 20000 in
theorem ggX5_stepOnce_X5_has : GoodIn wsX5_stepOnce wsX5_has := goodIn_r _ [12, 13, 200, 201, 202, 203, 204, 205, 206, 207] (by decide +kernel) (by decide +kernel)
set_option maxRecDepth 20000 in
theorem gX5_stepOnce_X5_has : GoodIn wsX5_stepOnce (wsV RX5 81 RX5 yX5_has wsX5_has) := goodIn_app (goodIn_of _ (by decide +kernel)) ggX5_stepOnce_X5_has
set_option maxRecDepth 20000 in
theorem ggX5_stepOnce_X5_enters : GoodIn wsX5_stepOnce wsX5_enters := goodIn_r _ [17, 1, 4, 5, 18, 19, 20, 11, 21, 22, 23, 24, 25, 26, 13, 27, 28, 29, 30, 31, 32, 33, 34, 35, 36, 37, 38, 39, 40, 41, 42, 43, 44, 45, 200, 201, 202, 203, 204, 205, 206, 207] (by decide +kernel) (by decide +kernel)
set_option maxRecDepth 20000 in
theorem gX5_stepOnce_X5_enters : GoodIn wsX5_stepOnce (wsV RX5 197 RX5 yX5_enters wsX5_enters) := goodIn_app (goodIn_of _ (by decide +kernel)) ggX5_stepOnce_X5_enters
set_option maxRecDepth 20000 in
theorem ggX5_stepOnce_X5_isIllegal : GoodIn wsX5_stepOnce wsX5_isIllegal := goodIn_r _ [48, 49, 50, 51, 11, 52, 53, 54, 55, 56, 57, 58, 59, 60, 61, 62, 63, 64, 65, 66, 67, 68, 69, 70, 71, 72, 7, 73, 74, 75] (by decide +kernel) (by decide +kernel)
set_option maxRecDepth 20000 in
theorem gX5_stepOnce_X5_isIllegal : GoodIn wsX5_stepOnce (va_wsS RX5 68 yX5_isIllegal wsX5_isIllegal) := goodIn_app (goodIn_of _ (by decide +kernel)) ggX5_stepOnce_X5_isIllegal
theorem ggX5_stepOnce_X5_does_h : GoodIn wsX5_stepOnce [Cond.code yX5_does cX5_does 4 (some .int)] := goodIn_r _ [79] (by decide +kernel) (by decide +kernel)
set_option maxRecDepth 20000 in
theorem ggX5_stepOnce_X5_does_1 : GoodIn wsX5_stepOnce wsX5_does_r1 := goodIn_r _ [80, 81, 5, 82, 83, 84, 11, 85, 22, 23, 24, 25, 26, 13, 61, 62, 63, 86, 87, 88, 89, 27, 28, 29] (by decide +kernel) (by decide +kernel)
set_option maxRecDepth 20000 in
theorem ggX5_stepOnce_X5_does_2 : GoodIn wsX5_stepOnce wsX5_does_r2 := goodIn_r _ [90, 91, 92, 93, 94, 95, 96, 97, 8, 9, 10, 12, 98, 99, 100, 101, 42, 43, 44, 45, 102, 103, 104, 105] (by decide +kernel) (by decide +kernel)
set_option maxRecDepth 20000 in
theorem ggX5_stepOnce_X5_does_3 : GoodIn wsX5_stepOnce wsX5_does_r3 := goodIn_r _ [106, 107, 108, 109, 110, 111, 112, 113, 3, 114, 115, 116, 117, 50, 51, 52, 53, 54, 64, 65, 66, 67, 68, 118] (by decide +kernel) (by decide +kernel)
set_option maxRecDepth 20000 in
theorem ggX5_stepOnce_X5_does_4 : GoodIn wsX5_stepOnce wsX5_does_r4 := goodIn_r _ [119, 120, 121, 122, 123, 124, 125, 126, 127, 128, 129, 130, 131, 132, 38, 39, 40, 41, 133, 134, 135, 136, 137, 138] (by decide +kernel) (by decide +kernel)
set_option maxRecDepth 20000 in
theorem ggX5_stepOnce_X5_does_5 : GoodIn wsX5_stepOnce wsX5_does_r5 := goodIn_r _ [139, 140, 141, 142, 143, 144, 145, 146, 34, 35, 36, 37, 147, 148, 149, 150, 151, 152, 153, 154, 58, 59, 60, 155] (by decide +kernel) (by decide +kernel)
set_option maxRecDepth 20000 in
theorem ggX5_stepOnce_X5_does_6 : GoodIn wsX5_stepOnce wsX5_does_r6 := goodIn_r _ [156, 157, 158, 75, 72, 7, 73, 159, 160, 161, 162, 18, 19, 20, 21, 30, 31, 32, 33, 163, 164, 165, 166, 167] (by decide +kernel) (by decide +kernel)
set_option maxRecDepth 20000 in
theorem ggX5_stepOnce_X5_does_7 : GoodIn wsX5_stepOnce wsX5_does_r7 := goodIn_r _ [168, 169, 170, 171, 172, 173, 174, 175, 176, 177, 178, 179, 180, 181, 182, 183, 184, 185, 186, 187, 188, 189, 190, 191] (by decide +kernel) (by decide +kernel)
set_option maxRecDepth 20000 in
theorem ggX5_stepOnce_X5_does_8 : GoodIn wsX5_stepOnce wsX5_does_r8 := goodIn_r _ [192, 193, 194, 195, 196, 197, 198, 199] (by decide +kernel) (by decide +kernel)
set_option maxRecDepth 20000 in
theorem ggX5_stepOnce_X5_does_9 : GoodIn wsX5_stepOnce wsX50 := goodIn_r _ [200, 201, 202, 203, 204, 205, 206, 207] (by decide +kernel) (by decide +kernel)
theorem ggX5_stepOnce_X5_does : GoodIn wsX5_stepOnce wsX5_does := goodIn_app (a := [Cond.code yX5_does cX5_does 4 (some .int)]) ggX5_stepOnce_X5_does_h (goodIn_app (goodIn_app ggX5_stepOnce_X5_does_1 (goodIn_app ggX5_stepOnce_X5_does_2 (goodIn_app ggX5_stepOnce_X5_does_3 (goodIn_app ggX5_stepOnce_X5_does_4 (goodIn_app ggX5_stepOnce_X5_does_5 (goodIn_app ggX5_stepOnce_X5_does_6 (goodIn_app ggX5_stepOnce_X5_does_7 ggX5_stepOnce_X5_does_8))))))) ggX5_stepOnce_X5_does_9)
set_option maxRecDepth 20000 in
theorem gX5_stepOnce_X5_does : GoodIn wsX5_stepOnce (wsV RX5 200 RX5 yX5_does wsX5_does) := goodIn_app (goodIn_of _ (by decide +kernel)) ggX5_stepOnce_X5_does
theorem dX5_stepOnce_0 : decode cX5_stepOnce 0 = .ok (.aload_n 0, 1) := by decide +kernel
theorem dX5_stepOnce_1 : decode cX5_stepOnce 1 = .ok (.sipush 128, 3) := by decide +kernel
theorem dX5_stepOnce_4 : decode cX5_stepOnce 4 = .ok (.invokevirtual 81, 3) := by decide +kernel
theorem dX5_stepOnce_7 : decode cX5_stepOnce 7 = .ok (.ifCond .eq 22, 3) := by decide +kernel
theorem dX5_stepOnce_10 : decode cX5_stepOnce 10 = .ok (.aload_n 0, 1) := by decide +kernel
theorem dX5_stepOnce_11 : decode cX5_stepOnce 11 = .ok (.getfield 36, 3) := by decide +kernel
theorem dX5_stepOnce_14 : decode cX5_stepOnce 14 = .ok (.ifCond .eq 15, 3) := by decide +kernel
theorem dX5_stepOnce_17 : decode cX5_stepOnce 17 = .ok (.aload_n 0, 1) := by decide +kernel
theorem dX5_stepOnce_18 : decode cX5_stepOnce 18 = .ok (.getfield 32, 3) := by decide +kernel
theorem dX5_stepOnce_21 : decode cX5_stepOnce 21 = .ok (.ifCond .ne 8, 3) := by decide +kernel
theorem dX5_stepOnce_24 : decode cX5_stepOnce 24 = .ok (.aload_n 0, 1) := by decide +kernel
theorem dX5_stepOnce_25 : decode cX5_stepOnce 25 = .ok (.invokevirtual 197, 3) := by decide +kernel
theorem dX5_stepOnce_28 : decode cX5_stepOnce 28 = .ok (.ireturn, 1) := by decide +kernel
theorem dX5_stepOnce_29 : decode cX5_stepOnce 29 = .ok (.aload_n 0, 1) := by decide +kernel
theorem dX5_stepOnce_30 : decode cX5_stepOnce 30 = .ok (.getfield 7, 3) := by decide +kernel
theorem dX5_stepOnce_33 : decode cX5_stepOnce 33 = .ok (.aload_n 0, 1) := by decide +kernel
theorem dX5_stepOnce_34 : decode cX5_stepOnce 34 = .ok (.getfield 19, 3) := by decide +kernel
theorem dX5_stepOnce_37 : decode cX5_stepOnce 37 = .ok (.iaload, 1) := by decide +kernel
theorem dX5_stepOnce_38 : decode cX5_stepOnce 38 = .ok (.istore_n 1, 1) := by decide +kernel
theorem dX5_stepOnce_39 : decode cX5_stepOnce 39 = .ok (.iload_n 1, 1) := by decide +kernel
theorem dX5_stepOnce_40 : decode cX5_stepOnce 40 = .ok (.invokestatic 68, 3) := by decide +kernel
theorem dX5_stepOnce_43 : decode cX5_stepOnce 43 = .ok (.ifCond .eq 5, 3) := by decide +kernel
theorem dX5_stepOnce_46 : decode cX5_stepOnce 46 = .ok (.iconst 2, 1) := by decide +kernel
theorem dX5_stepOnce_47 : decode cX5_stepOnce 47 = .ok (.ireturn, 1) := by decide +kernel
theorem dX5_stepOnce_48 : decode cX5_stepOnce 48 = .ok (.aload_n 0, 1) := by decide +kernel
theorem dX5_stepOnce_49 : decode cX5_stepOnce 49 = .ok (.aload_n 0, 1) := by decide +kernel
theorem dX5_stepOnce_50 : decode cX5_stepOnce 50 = .ok (.getfield 19, 3) := by decide +kernel
theorem dX5_stepOnce_53 : decode cX5_stepOnce 53 = .ok (.iconst 1, 1) := by decide +kernel
theorem dX5_stepOnce_54 : decode cX5_stepOnce 54 = .ok (.iadd, 1) := by decide +kernel
theorem dX5_stepOnce_55 : decode cX5_stepOnce 55 = .ok (.sipush 1023, 3) := by decide +kernel
theorem dX5_stepOnce_58 : decode cX5_stepOnce 58 = .ok (.iand, 1) := by decide +kernel
theorem dX5_stepOnce_59 : decode cX5_stepOnce 59 = .ok (.putfield 84, 3) := by decide +kernel
theorem dX5_stepOnce_62 : decode cX5_stepOnce 62 = .ok (.aload_n 0, 1) := by decide +kernel
theorem dX5_stepOnce_63 : decode cX5_stepOnce 63 = .ok (.iload_n 1, 1) := by decide +kernel
theorem dX5_stepOnce_64 : decode cX5_stepOnce 64 = .ok (.invokevirtual 200, 3) := by decide +kernel
theorem dX5_stepOnce_67 : decode cX5_stepOnce 67 = .ok (.istore_n 2, 1) := by decide +kernel
theorem dX5_stepOnce_68 : decode cX5_stepOnce 68 = .ok (.iload_n 2, 1) := by decide +kernel
theorem dX5_stepOnce_69 : decode cX5_stepOnce 69 = .ok (.ifCond .ne 32, 3) := by decide +kernel
theorem dX5_stepOnce_72 : decode cX5_stepOnce 72 = .ok (.aload_n 0, 1) := by decide +kernel
theorem dX5_stepOnce_73 : decode cX5_stepOnce 73 = .ok (.aload_n 0, 1) := by decide +kernel
theorem dX5_stepOnce_74 : decode cX5_stepOnce 74 = .ok (.getfield 84, 3) := by decide +kernel
theorem dX5_stepOnce_77 : decode cX5_stepOnce 77 = .ok (.putfield 19, 3) := by decide +kernel
theorem dX5_stepOnce_80 : decode cX5_stepOnce 80 = .ok (.aload_n 0, 1) := by decide +kernel
theorem dX5_stepOnce_81 : decode cX5_stepOnce 81 = .ok (.iload_n 1, 1) := by decide +kernel
theorem dX5_stepOnce_82 : decode cX5_stepOnce 82 = .ok (.ldc 203, 2) := by decide +kernel
theorem dX5_stepOnce_84 : decode cX5_stepOnce 84 = .ok (.if_icmp .eq 9, 3) := by decide +kernel
theorem dX5_stepOnce_87 : decode cX5_stepOnce 87 = .ok (.iload_n 1, 1) := by decide +kernel
theorem dX5_stepOnce_88 : decode cX5_stepOnce 88 = .ok (.ldc 57, 2) := by decide +kernel
theorem dX5_stepOnce_90 : decode cX5_stepOnce 90 = .ok (.if_icmp .ne 7, 3) := by decide +kernel
theorem dX5_stepOnce_93 : decode cX5_stepOnce 93 = .ok (.iconst 1, 1) := by decide +kernel
theorem dX5_stepOnce_94 : decode cX5_stepOnce 94 = .ok (.goto 4, 3) := by decide +kernel
theorem dX5_stepOnce_97 : decode cX5_stepOnce 97 = .ok (.iconst 0, 1) := by decide +kernel
theorem dX5_stepOnce_98 : decode cX5_stepOnce 98 = .ok (.putfield 32, 3) := by decide +kernel
theorem dX5_stepOnce_101 : decode cX5_stepOnce 101 = .ok (.iload_n 2, 1) := by decide +kernel
theorem dX5_stepOnce_102 : decode cX5_stepOnce 102 = .ok (.ireturn, 1) := by decide +kernel
theorem ggX5_step_X5_stepOnce_h : GoodIn wsX5_step [Cond.code yX5_stepOnce cX5_stepOnce 3 (some .int)] := goodIn_r _ [7] (by decide +kernel) (by decide +kernel)
set_option maxRecDepth 20000 in
theorem ggX5_step_X5_stepOnce_1 : GoodIn wsX5_step wsX5_stepOnce_r1 := goodIn_r _ [8, 9, 10, 11, 12, 13, 14, 15, 16, 17, 6, 18, 19, 20, 21, 22, 23, 24, 25, 26, 27, 28, 29, 30] (by decide +kernel) (by decide +kernel)
set_option maxRecDepth 20000 in
theorem ggX5_step_X5_stepOnce_2 : GoodIn wsX5_step wsX5_stepOnce_r2 := goodIn_r _ [31, 32, 33, 34, 35, 36, 37, 38, 39, 40, 41, 42, 43, 44, 45, 46, 47, 48, 49, 50, 51, 52, 53, 54] (by decide +kernel) (by decide +kernel)
set_option maxRecDepth 20000 in
theorem ggX5_step_X5_stepOnce_3 : GoodIn wsX5_step wsX5_stepOnce_r3 := goodIn_r _ [55, 56, 57, 58, 59, 60, 61, 62, 63, 64, 65, 66, 67, 68, 69, 70, 71, 72, 73, 74, 75, 76, 77, 78] (by decide +kernel) (by decide +kernel)
set_option maxRecDepth 20000 in
theorem ggX5_step_X5_stepOnce_4 : GoodIn wsX5_step wsX5_stepOnce_r4 := goodIn_r _ [79, 80, 81, 82, 83, 84, 85, 86, 87, 88, 89, 90, 91, 92, 93, 94, 95, 96, 97, 98, 99, 100, 101, 102] (by decide +kernel) (by decide +kernel)
set_option maxRecDepth 20000 in
theorem ggX5_step_X5_stepOnce_5 : GoodIn wsX5_step wsX5_stepOnce_r5 := goodIn_r _ [103, 104, 105, 106, 107, 108, 109, 110, 111, 112, 113, 114, 115, 116, 117, 118, 119, 2, 120, 121, 122, 123, 124, 125] (by decide +kernel) (by decide +kernel)
set_option maxRecDepth 20000 in
theorem ggX5_step_X5_stepOnce_6 : GoodIn wsX5_step wsX5_stepOnce_r6 := goodIn_r _ [126, 127, 128, 129, 130, 131, 132, 133, 134, 135, 136, 137, 138, 139, 140, 141, 142, 143, 144, 145, 146, 147, 148, 149] (by decide +kernel) (by decide +kernel)
set_option maxRecDepth 20000 in
theorem ggX5_step_X5_stepOnce_7 : GoodIn wsX5_step wsX5_stepOnce_r7 := goodIn_r _ [150, 151, 152, 153, 154, 155, 156, 157, 158, 159, 160, 161, 162, 163, 164, 165, 166, 167, 168, 169, 170, 171, 172, 173] (by decide +kernel) (by decide +kernel)
set_option maxRecDepth 20000 in
theorem ggX5_step_X5_stepOnce_8 : GoodIn wsX5_step wsX5_stepOnce_r8 := goodIn_r _ [174, 175, 176, 177, 178, 179, 180, 181, 182, 183, 184, 185, 186, 187, 188, 189, 190, 191, 192, 193, 194, 195, 196, 197] (by decide +kernel) (by decide +kernel)
set_option maxRecDepth 20000 in
theorem ggX5_step_X5_stepOnce_9 : GoodIn wsX5_step wsX5_stepOnce_r9 := goodIn_r _ [198, 199, 200, 201, 202, 203, 204] (by decide +kernel) (by decide +kernel)
set_option maxRecDepth 20000 in
theorem ggX5_step_X5_stepOnce_10 : GoodIn wsX5_step wsX50 := goodIn_r _ [205, 206, 207, 208, 209, 210, 211, 212] (by decide +kernel) (by decide +kernel)
theorem ggX5_step_X5_stepOnce : GoodIn wsX5_step wsX5_stepOnce := goodIn_app (a := [Cond.code yX5_stepOnce cX5_stepOnce 3 (some .int)]) ggX5_step_X5_stepOnce_h (goodIn_app (goodIn_app ggX5_step_X5_stepOnce_1 (goodIn_app ggX5_step_X5_stepOnce_2 (goodIn_app ggX5_step_X5_stepOnce_3 (goodIn_app ggX5_step_X5_stepOnce_4 (goodIn_app ggX5_step_X5_stepOnce_5 (goodIn_app ggX5_step_X5_stepOnce_6 (goodIn_app ggX5_step_X5_stepOnce_7 (goodIn_app ggX5_step_X5_stepOnce_8 ggX5_step_X5_stepOnce_9)))))))) ggX5_step_X5_stepOnce_10)
set_option maxRecDepth 20000 in
theorem gX5_step_X5_stepOnce : GoodIn wsX5_step (wsV RX5 204 RX5 yX5_stepOnce wsX5_stepOnce) := goodIn_app (goodIn_of _ (by decide +kernel)) ggX5_step_X5_stepOnce
theorem dX5_step_0 : decode cX5_step 0 = .ok (.aload_n 0, 1) := by decide +kernel
theorem dX5_step_1 : decode cX5_step 1 = .ok (.aload_n 0, 1) := by decide +kernel
theorem dX5_step_2 : decode cX5_step 2 = .ok (.invokevirtual 204, 3) := by decide +kernel
theorem dX5_step_5 : decode cX5_step 5 = .ok (.putfield 207, 3) := by decide +kernel
theorem dX5_step_8 : decode cX5_step 8 = .ok (.aload_n 0, 1) := by decide +kernel
theorem dX5_step_9 : decode cX5_step 9 = .ok (.getfield 16, 3) := by decide +kernel
