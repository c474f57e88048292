set_option maxRecDepth 20000 in
theorem gX5_subtract_X5_signs : GoodIn wsX5_subtract (wsV RX5 78 RX5 yX5_signs wsX5_signs) := goodIn_app (goodIn_of _ (by decide +kernel)) ggX5_subtract_X5_signs
theorem dX5_subtract_0 : decode cX5_subtract 0 = .ok (.aload_n 0, 1) := by decide +kernel
theorem dX5_subtract_1 : decode cX5_subtract 1 = .ok (.iconst 2, 1) := by decide +kernel
theorem dX5_subtract_2 : decode cX5_subtract 2 = .ok (.invokevirtual 81, 3) := by decide +kernel
theorem dX5_subtract_5 : decode cX5_subtract 5 = .ok (.istore 5, 2) := by decide +kernel
theorem dX5_subtract_7 : decode cX5_subtract 7 = .ok (.iload_n 1, 1) := by decide +kernel
theorem dX5_subtract_8 : decode cX5_subtract 8 = .ok (.iload_n 2, 1) := by decide +kernel
theorem dX5_subtract_9 : decode cX5_subtract 9 = .ok (.isub, 1) := by decide +kernel
theorem dX5_subtract_10 : decode cX5_subtract 10 = .ok (.iload_n 3, 1) := by decide +kernel
theorem dX5_subtract_11 : decode cX5_subtract 11 = .ok (.isub, 1) := by decide +kernel
theorem dX5_subtract_12 : decode cX5_subtract 12 = .ok (.sipush 255, 3) := by decide +kernel
theorem dX5_subtract_15 : decode cX5_subtract 15 = .ok (.iand, 1) := by decide +kernel
theorem dX5_subtract_16 : decode cX5_subtract 16 = .ok (.istore 6, 2) := by decide +kernel
theorem dX5_subtract_18 : decode cX5_subtract 18 = .ok (.aload_n 0, 1) := by decide +kernel
theorem dX5_subtract_19 : decode cX5_subtract 19 = .ok (.iconst 1, 1) := by decide +kernel
theorem dX5_subtract_20 : decode cX5_subtract 20 = .ok (.iload_n 1, 1) := by decide +kernel
theorem dX5_subtract_21 : decode cX5_subtract 21 = .ok (.iload_n 2, 1) := by decide +kernel
theorem dX5_subtract_22 : decode cX5_subtract 22 = .ok (.isub, 1) := by decide +kernel
theorem dX5_subtract_23 : decode cX5_subtract 23 = .ok (.iload_n 3, 1) := by decide +kernel
theorem dX5_subtract_24 : decode cX5_subtract 24 = .ok (.isub, 1) := by decide +kernel
theorem dX5_subtract_25 : decode cX5_subtract 25 = .ok (.ifCond .ge 7, 3) := by decide +kernel
theorem dX5_subtract_28 : decode cX5_subtract 28 = .ok (.iconst 1, 1) := by decide +kernel
theorem dX5_subtract_29 : decode cX5_subtract 29 = .ok (.goto 4, 3) := by decide +kernel
theorem dX5_subtract_32 : decode cX5_subtract 32 = .ok (.iconst 0, 1) := by decide +kernel
theorem dX5_subtract_33 : decode cX5_subtract 33 = .ok (.invokevirtual 74, 3) := by decide +kernel
theorem dX5_subtract_36 : decode cX5_subtract 36 = .ok (.aload_n 0, 1) := by decide +kernel
theorem dX5_subtract_37 : decode cX5_subtract 37 = .ok (.bipush 32, 2) := by decide +kernel
theorem dX5_subtract_39 : decode cX5_subtract 39 = .ok (.iload_n 1, 1) := by decide +kernel
theorem dX5_subtract_40 : decode cX5_subtract 40 = .ok (.bipush 15, 2) := by decide +kernel
theorem dX5_subtract_42 : decode cX5_subtract 42 = .ok (.iand, 1) := by decide +kernel
theorem dX5_subtract_43 : decode cX5_subtract 43 = .ok (.iload_n 2, 1) := by decide +kernel
theorem dX5_subtract_44 : decode cX5_subtract 44 = .ok (.bipush 15, 2) := by decide +kernel
theorem dX5_subtract_46 : decode cX5_subtract 46 = .ok (.iand, 1) := by decide +kernel
theorem dX5_subtract_47 : decode cX5_subtract 47 = .ok (.isub, 1) := by decide +kernel
theorem dX5_subtract_48 : decode cX5_subtract 48 = .ok (.iload_n 3, 1) := by decide +kernel
theorem dX5_subtract_49 : decode cX5_subtract 49 = .ok (.isub, 1) := by decide +kernel
theorem dX5_subtract_50 : decode cX5_subtract 50 = .ok (.ifCond .ge 7, 3) := by decide +kernel
theorem dX5_subtract_53 : decode cX5_subtract 53 = .ok (.iconst 1, 1) := by decide +kernel
theorem dX5_subtract_54 : decode cX5_subtract 54 = .ok (.goto 4, 3) := by decide +kernel
theorem dX5_subtract_57 : decode cX5_subtract 57 = .ok (.iconst 0, 1) := by decide +kernel
theorem dX5_subtract_58 : decode cX5_subtract 58 = .ok (.invokevirtual 74, 3) := by decide +kernel
theorem dX5_subtract_61 : decode cX5_subtract 61 = .ok (.aload_n 0, 1) := by decide +kernel
theorem dX5_subtract_62 : decode cX5_subtract 62 = .ok (.iload 6, 2) := by decide +kernel
theorem dX5_subtract_64 : decode cX5_subtract 64 = .ok (.iload_n 1, 1) := by decide +kernel
theorem dX5_subtract_65 : decode cX5_subtract 65 = .ok (.bipush 127, 2) := by decide +kernel
theorem dX5_subtract_67 : decode cX5_subtract 67 = .ok (.if_icmp .le 7, 3) := by decide +kernel
theorem dX5_subtract_70 : decode cX5_subtract 70 = .ok (.iconst 1, 1) := by decide +kernel
theorem dX5_subtract_71 : decode cX5_subtract 71 = .ok (.goto 4, 3) := by decide +kernel
theorem dX5_subtract_74 : decode cX5_subtract 74 = .ok (.iconst 0, 1) := by decide +kernel
theorem dX5_subtract_75 : decode cX5_subtract 75 = .ok (.iload_n 2, 1) := by decide +kernel
theorem dX5_subtract_76 : decode cX5_subtract 76 = .ok (.bipush 127, 2) := by decide +kernel
theorem dX5_subtract_78 : decode cX5_subtract 78 = .ok (.if_icmp .le 7, 3) := by decide +kernel
theorem dX5_subtract_81 : decode cX5_subtract 81 = .ok (.iconst 1, 1) := by decide +kernel
theorem dX5_subtract_82 : decode cX5_subtract 82 = .ok (.goto 4, 3) := by decide +kernel
theorem dX5_subtract_85 : decode cX5_subtract 85 = .ok (.iconst 0, 1) := by decide +kernel
theorem dX5_subtract_86 : decode cX5_subtract 86 = .ok (.if_icmp .eq 33, 3) := by decide +kernel
theorem dX5_subtract_89 : decode cX5_subtract 89 = .ok (.iload 6, 2) := by decide +kernel
theorem dX5_subtract_91 : decode cX5_subtract 91 = .ok (.bipush 127, 2) := by decide +kernel
theorem dX5_subtract_93 : decode cX5_subtract 93 = .ok (.if_icmp .le 7, 3) := by decide +kernel
theorem dX5_subtract_96 : decode cX5_subtract 96 = .ok (.iconst 1, 1) := by decide +kernel
theorem dX5_subtract_97 : decode cX5_subtract 97 = .ok (.goto 4, 3) := by decide +kernel
theorem dX5_subtract_100 : decode cX5_subtract 100 = .ok (.iconst 0, 1) := by decide +kernel
theorem dX5_subtract_101 : decode cX5_subtract 101 = .ok (.iload_n 2, 1) := by decide +kernel
theorem dX5_subtract_102 : decode cX5_subtract 102 = .ok (.bipush 127, 2) := by decide +kernel
theorem dX5_subtract_104 : decode cX5_subtract 104 = .ok (.if_icmp .le 7, 3) := by decide +kernel
theorem dX5_subtract_107 : decode cX5_subtract 107 = .ok (.iconst 1, 1) := by decide +kernel
theorem dX5_subtract_108 : decode cX5_subtract 108 = .ok (.goto 4, 3) := by decide +kernel
theorem dX5_subtract_111 : decode cX5_subtract 111 = .ok (.iconst 0, 1) := by decide +kernel
theorem dX5_subtract_112 : decode cX5_subtract 112 = .ok (.if_icmp .ne 7, 3) := by decide +kernel
theorem dX5_subtract_115 : decode cX5_subtract 115 = .ok (.iconst 1, 1) := by decide +kernel
theorem dX5_subtract_116 : decode cX5_subtract 116 = .ok (.goto 4, 3) := by decide +kernel
theorem dX5_subtract_119 : decode cX5_subtract 119 = .ok (.iconst 0, 1) := by decide +kernel
theorem dX5_subtract_120 : decode cX5_subtract 120 = .ok (.invokevirtual 78, 3) := by decide +kernel
theorem dX5_subtract_123 : decode cX5_subtract 123 = .ok (.iload 4, 2) := by decide +kernel
theorem dX5_subtract_125 : decode cX5_subtract 125 = .ok (.ifCond .eq 23, 3) := by decide +kernel
theorem dX5_subtract_128 : decode cX5_subtract 128 = .ok (.aload_n 0, 1) := by decide +kernel
theorem dX5_subtract_129 : decode cX5_subtract 129 = .ok (.iconst 2, 1) := by decide +kernel
theorem dX5_subtract_130 : decode cX5_subtract 130 = .ok (.iload 6, 2) := by decide +kernel
theorem dX5_subtract_132 : decode cX5_subtract 132 = .ok (.ifCond .ne 12, 3) := by decide +kernel
theorem dX5_subtract_135 : decode cX5_subtract 135 = .ok (.iload 5, 2) := by decide +kernel
theorem dX5_subtract_137 : decode cX5_subtract 137 = .ok (.ifCond .eq 7, 3) := by decide +kernel
theorem dX5_subtract_140 : decode cX5_subtract 140 = .ok (.iconst 1, 1) := by decide +kernel
theorem dX5_subtract_141 : decode cX5_subtract 141 = .ok (.goto 4, 3) := by decide +kernel
theorem dX5_subtract_144 : decode cX5_subtract 144 = .ok (.iconst 0, 1) := by decide +kernel
theorem dX5_subtract_145 : decode cX5_subtract 145 = .ok (.invokevirtual 74, 3) := by decide +kernel
theorem dX5_subtract_148 : decode cX5_subtract 148 = .ok (.iload 6, 2) := by decide +kernel
theorem dX5_subtract_150 : decode cX5_subtract 150 = .ok (.ireturn, 1) := by decide +kernel
set_option maxRecDepth 20000 in
theorem ggX5_logic_X5_signs : GoodIn wsX5_logic wsX5_signs := goodIn_r _ [5, 6, 7, 8, 4, 9, 10, 11, 12, 13, 14, 15, 16, 17, 18] (by decide +kernel) (by decide +kernel)
set_option maxRecDepth 20000 in
theorem gX5_logic_X5_signs : GoodIn wsX5_logic (wsV RX5 78 RX5 yX5_signs wsX5_signs) := goodIn_app (goodIn_of _ (by decide +kernel)) ggX5_logic_X5_signs
theorem dX5_logic_0 : decode cX5_logic 0 = .ok (.aload_n 0, 1) := by decide +kernel
theorem dX5_logic_1 : decode cX5_logic 1 = .ok (.iload_n 1, 1) := by decide +kernel
theorem dX5_logic_2 : decode cX5_logic 2 = .ok (.iconst 0, 1) := by decide +kernel
theorem dX5_logic_3 : decode cX5_logic 3 = .ok (.invokevirtual 78, 3) := by decide +kernel
theorem dX5_logic_6 : decode cX5_logic 6 = .ok (.iload_n 1, 1) := by decide +kernel
theorem dX5_logic_7 : decode cX5_logic 7 = .ok (.ireturn, 1) := by decide +kernel
set_option maxRecDepth 20000 in
theorem ggX5_carry_X5_has : GoodIn wsX5_carry wsX5_has := goodIn_r _ [5, 6, 7, 8, 9, 10, 11, 12, 13, 14] (by decide +kernel) (by decide +kernel)
set_option maxRecDepth 20000 in
theorem gX5_carry_X5_has : GoodIn wsX5_carry (wsV RX5 81 RX5 yX5_has wsX5_has) := goodIn_app (goodIn_of _ (by decide +kernel)) ggX5_carry_X5_has
theorem dX5_carry_0 : decode cX5_carry 0 = .ok (.aload_n 0, 1) := by decide +kernel
theorem dX5_carry_1 : decode cX5_carry 1 = .ok (.iconst 1, 1) := by decide +kernel
theorem dX5_carry_2 : decode cX5_carry 2 = .ok (.invokevirtual 81, 3) := by decide +kernel
theorem dX5_carry_5 : decode cX5_carry 5 = .ok (.ifCond .eq 7, 3) := by decide +kernel
theorem dX5_carry_8 : decode cX5_carry 8 = .ok (.iconst 1, 1) := by decide +kernel
theorem dX5_carry_9 : decode cX5_carry 9 = .ok (.goto 4, 3) := by decide +kernel
theorem dX5_carry_12 : decode cX5_carry 12 = .ok (.iconst 0, 1) := by decide +kernel
theorem dX5_carry_13 : decode cX5_carry 13 = .ok (.ireturn, 1) := by decide +kernel
set_option maxRecDepth 20000 in
theorem ggX5_skips_X5_hasNext : GoodIn wsX5_skips wsX5_hasNext := goodIn_r _ [7, 8, 9, 6, 10, 11, 12, 13, 14, 15, 16, 17] (by decide +kernel) (by decide +kernel)
set_option maxRecDepth 20000 in
theorem gX5_skips_X5_hasNext : GoodIn wsX5_skips (va_wsS RX5 71 yX5_hasNext wsX5_hasNext) := goodIn_app (goodIn_of _ (by decide +kernel)) ggX5_skips_X5_hasNext
theorem dX5_skips_0 : decode cX5_skips 0 = .ok (.iload_n 1, 1) := by decide +kernel
theorem dX5_skips_1 : decode cX5_skips 1 = .ok (.ifCond .eq 56, 3) := by decide +kernel
theorem dX5_skips_4 : decode cX5_skips 4 = .ok (.aload_n 0, 1) := by decide +kernel
theorem dX5_skips_5 : decode cX5_skips 5 = .ok (.getfield 7, 3) := by decide +kernel
theorem dX5_skips_8 : decode cX5_skips 8 = .ok (.aload_n 0, 1) := by decide +kernel
theorem dX5_skips_9 : decode cX5_skips 9 = .ok (.getfield 84, 3) := by decide +kernel
theorem dX5_skips_12 : decode cX5_skips 12 = .ok (.iaload, 1) := by decide +kernel
theorem dX5_skips_13 : decode cX5_skips 13 = .ok (.invokestatic 71, 3) := by decide +kernel
theorem dX5_skips_16 : decode cX5_skips 16 = .ok (.istore_n 2, 1) := by decide +kernel
theorem dX5_skips_17 : decode cX5_skips 17 = .ok (.aload_n 0, 1) := by decide +kernel
theorem dX5_skips_18 : decode cX5_skips 18 = .ok (.aload_n 0, 1) := by decide +kernel
theorem dX5_skips_19 : decode cX5_skips 19 = .ok (.getfield 84, 3) := by decide +kernel
theorem dX5_skips_22 : decode cX5_skips 22 = .ok (.iload_n 2, 1) := by decide +kernel
theorem dX5_skips_23 : decode cX5_skips 23 = .ok (.ifCond .eq 7, 3) := by decide +kernel
theorem dX5_skips_26 : decode cX5_skips 26 = .ok (.iconst 2, 1) := by decide +kernel
theorem dX5_skips_27 : decode cX5_skips 27 = .ok (.goto 4, 3) := by decide +kernel
theorem dX5_skips_30 : decode cX5_skips 30 = .ok (.iconst 1, 1) := by decide +kernel
theorem dX5_skips_31 : decode cX5_skips 31 = .ok (.iadd, 1) := by decide +kernel
theorem dX5_skips_32 : decode cX5_skips 32 = .ok (.sipush 1023, 3) := by decide +kernel
theorem dX5_skips_35 : decode cX5_skips 35 = .ok (.iand, 1) := by decide +kernel
theorem dX5_skips_36 : decode cX5_skips 36 = .ok (.putfield 84, 3) := by decide +kernel
theorem dX5_skips_39 : decode cX5_skips 39 = .ok (.aload_n 0, 1) := by decide +kernel
theorem dX5_skips_40 : decode cX5_skips 40 = .ok (.getfield 16, 3) := by decide +kernel
theorem dX5_skips_43 : decode cX5_skips 43 = .ok (.iload_n 2, 1) := by decide +kernel
theorem dX5_skips_44 : decode cX5_skips 44 = .ok (.ifCond .eq 7, 3) := by decide +kernel
theorem dX5_skips_47 : decode cX5_skips 47 = .ok (.iconst 5, 1) := by decide +kernel
theorem dX5_skips_48 : decode cX5_skips 48 = .ok (.goto 4, 3) := by decide +kernel
theorem dX5_skips_51 : decode cX5_skips 51 = .ok (.iconst 4, 1) := by decide +kernel
theorem dX5_skips_52 : decode cX5_skips 52 = .ok (.dup2, 1) := by decide +kernel
theorem dX5_skips_53 : decode cX5_skips 53 = .ok (.iaload, 1) := by decide +kernel
theorem dX5_skips_54 : decode cX5_skips 54 = .ok (.iconst 1, 1) := by decide +kernel
theorem dX5_skips_55 : decode cX5_skips 55 = .ok (.iadd, 1) := by decide +kernel
theorem dX5_skips_56 : decode cX5_skips 56 = .ok (.iastore, 1) := by decide +kernel
theorem dX5_skips_57 : decode cX5_skips 57 = .ok (.return_, 1) := by decide +kernel
set_option maxRecDepth 20000 in
theorem ggX5_ofTwo_X5_dOf : GoodIn wsX5_ofTwo wsX5_dOf := goodIn_r _ [5] (by decide +kernel) (by decide +kernel)
set_option maxRecDepth 20000 in
theorem gX5_ofTwo_X5_dOf : GoodIn wsX5_ofTwo (va_wsS RX5 53 yX5_dOf wsX5_dOf) := goodIn_app (goodIn_of _ (by decide +kernel)) ggX5_ofTwo_X5_dOf
set_option maxRecDepth 20000 in
theorem ggX5_ofTwo_X5_carry : GoodIn wsX5_ofTwo wsX5_carry := goodIn_r _ [9, 10, 11, 12, 4, 13, 1, 54, 55, 56, 57, 58, 59, 60, 61] (by decide +kernel) (by decide +kernel)
set_option maxRecDepth 20000 in
theorem gX5_ofTwo_X5_carry : GoodIn wsX5_ofTwo (wsV RX5 87 RX5 yX5_carry wsX5_carry) := goodIn_app (goodIn_of _ (by decide +kernel)) ggX5_ofTwo_X5_carry
set_option maxRecDepth 20000 in
theorem ggX5_ofTwo_X5_subtract : GoodIn wsX5_ofTwo wsX5_subtract := goodIn_r _ [17, 10, 11, 12, 4, 13, 1, 18, 19, 20, 21, 22, 23, 24, 25, 54, 55, 56, 57, 58, 59, 60, 61] (by decide +kernel) (by decide +kernel)
set_option maxRecDepth 20000 in
theorem gX5_ofTwo_X5_subtract : GoodIn wsX5_ofTwo (wsV RX5 91 RX5 yX5_subtract wsX5_subtract) := goodIn_app (goodIn_of _ (by decide +kernel)) ggX5_ofTwo_X5_subtract
set_option maxRecDepth 20000 in
theorem ggX5_ofTwo_X5_add : GoodIn wsX5_ofTwo wsX5_add := goodIn_r _ [29, 18, 19, 20, 4, 21, 1, 22, 23, 24, 25, 54, 55, 56, 57, 58, 59, 60, 61] (by decide +kernel) (by decide +kernel)
set_option maxRecDepth 20000 in
theorem gX5_ofTwo_X5_add : GoodIn wsX5_ofTwo (wsV RX5 95 RX5 yX5_add wsX5_add) := goodIn_app (goodIn_of _ (by decide +kernel)) ggX5_ofTwo_X5_add
set_option maxRecDepth 20000 in
theorem ggX5_ofTwo_X5_skips : GoodIn wsX5_ofTwo wsX5_skips := goodIn_r _ [33, 34, 35, 36, 37, 38, 4, 39, 40, 41, 42, 43, 44, 45, 46, 47, 48, 49, 54, 55, 56, 57, 58, 59, 60, 61] (by decide +kernel) (by decide +kernel)
set_option maxRecDepth 20000 in
theorem gX5_ofTwo_X5_skips : GoodIn wsX5_ofTwo (wsV RX5 99 RX5 yX5_skips wsX5_skips) := goodIn_app (goodIn_of _ (by decide +kernel)) ggX5_ofTwo_X5_skips
set_option maxRecDepth 20000 in
theorem ggX5_ofTwo_X5_logic : GoodIn wsX5_ofTwo wsX5_logic := goodIn_r _ [53, 22, 23, 24, 4, 25, 18, 19, 20, 21, 1, 54, 55, 56, 57, 58, 59, 60, 61] (by decide +kernel) (by decide +kernel)
set_option maxRecDepth 20000 in
theorem gX5_ofTwo_X5_logic : GoodIn wsX5_ofTwo (wsV RX5 103 RX5 yX5_logic wsX5_logic) := goodIn_app (goodIn_of _ (by decide +kernel)) ggX5_ofTwo_X5_logic
theorem dX5_ofTwo_0 : decode cX5_ofTwo 0 = .ok (.iload_n 1, 1) := by decide +kernel
theorem dX5_ofTwo_1 : decode cX5_ofTwo 1 = .ok (.invokestatic 53, 3) := by decide +kernel
theorem dX5_ofTwo_4 : decode cX5_ofTwo 4 = .ok (.istore_n 2, 1) := by decide +kernel
theorem dX5_ofTwo_5 : decode cX5_ofTwo 5 = .ok (.aload_n 0, 1) := by decide +kernel
theorem dX5_ofTwo_6 : decode cX5_ofTwo 6 = .ok (.getfield 13, 3) := by decide +kernel
theorem dX5_ofTwo_9 : decode cX5_ofTwo 9 = .ok (.iload_n 2, 1) := by decide +kernel
theorem dX5_ofTwo_10 : decode cX5_ofTwo 10 = .ok (.iaload, 1) := by decide +kernel
theorem dX5_ofTwo_11 : decode cX5_ofTwo 11 = .ok (.istore_n 3, 1) := by decide +kernel
theorem dX5_ofTwo_12 : decode cX5_ofTwo 12 = .ok (.aload_n 0, 1) := by decide +kernel
theorem dX5_ofTwo_13 : decode cX5_ofTwo 13 = .ok (.getfield 13, 3) := by decide +kernel
theorem dX5_ofTwo_16 : decode cX5_ofTwo 16 = .ok (.iload_n 1, 1) := by decide +kernel
theorem dX5_ofTwo_17 : decode cX5_ofTwo 17 = .ok (.iconst 5, 1) := by decide +kernel
theorem dX5_ofTwo_18 : decode cX5_ofTwo 18 = .ok (.ishr, 1) := by decide +kernel
theorem dX5_ofTwo_19 : decode cX5_ofTwo 19 = .ok (.bipush 16, 2) := by decide +kernel
theorem dX5_ofTwo_21 : decode cX5_ofTwo 21 = .ok (.iand, 1) := by decide +kernel
theorem dX5_ofTwo_22 : decode cX5_ofTwo 22 = .ok (.iload_n 1, 1) := by decide +kernel
theorem dX5_ofTwo_23 : decode cX5_ofTwo 23 = .ok (.bipush 15, 2) := by decide +kernel
theorem dX5_ofTwo_25 : decode cX5_ofTwo 25 = .ok (.iand, 1) := by decide +kernel
theorem dX5_ofTwo_26 : decode cX5_ofTwo 26 = .ok (.ior, 1) := by decide +kernel
theorem dX5_ofTwo_27 : decode cX5_ofTwo 27 = .ok (.iaload, 1) := by decide +kernel
theorem dX5_ofTwo_28 : decode cX5_ofTwo 28 = .ok (.istore 4, 2) := by decide +kernel
theorem dX5_ofTwo_30 : decode cX5_ofTwo 30 = .ok (.iload_n 1, 1) := by decide +kernel
theorem dX5_ofTwo_31 : decode cX5_ofTwo 31 = .ok (.bipush 10, 2) := by decide +kernel
theorem dX5_ofTwo_33 : decode cX5_ofTwo 33 = .ok (.ishr, 1) := by decide +kernel
theorem dX5_ofTwo_34 : decode cX5_ofTwo 34 = .ok (.tableswitch 234 1 10 #[54, 71, 96, 113, 131, 145, 163, 183, 200, 217], 54) := by decide +kernel
theorem dX5_ofTwo_88 : decode cX5_ofTwo 88 = .ok (.aload_n 0, 1) := by decide +kernel
theorem dX5_ofTwo_89 : decode cX5_ofTwo 89 = .ok (.iload_n 3, 1) := by decide +kernel
theorem dX5_ofTwo_90 : decode cX5_ofTwo 90 = .ok (.iload 4, 2) := by decide +kernel
theorem dX5_ofTwo_92 : decode cX5_ofTwo 92 = .ok (.aload_n 0, 1) := by decide +kernel
theorem dX5_ofTwo_93 : decode cX5_ofTwo 93 = .ok (.invokevirtual 87, 3) := by decide +kernel
theorem dX5_ofTwo_96 : decode cX5_ofTwo 96 = .ok (.iconst 1, 1) := by decide +kernel
theorem dX5_ofTwo_97 : decode cX5_ofTwo 97 = .ok (.invokevirtual 91, 3) := by decide +kernel
theorem dX5_ofTwo_100 : decode cX5_ofTwo 100 = .ok (.istore 5, 2) := by decide +kernel
theorem dX5_ofTwo_102 : decode cX5_ofTwo 102 = .ok (.goto 174, 3) := by decide +kernel
theorem dX5_ofTwo_105 : decode cX5_ofTwo 105 = .ok (.aload_n 0, 1) := by decide +kernel
theorem dX5_ofTwo_106 : decode cX5_ofTwo 106 = .ok (.iload_n 3, 1) := by decide +kernel
theorem dX5_ofTwo_107 : decode cX5_ofTwo 107 = .ok (.iload 4, 2) := by decide +kernel
theorem dX5_ofTwo_109 : decode cX5_ofTwo 109 = .ok (.aload_n 0, 1) := by decide +kernel
theorem dX5_ofTwo_110 : decode cX5_ofTwo 110 = .ok (.invokevirtual 87, 3) := by decide +kernel
theorem dX5_ofTwo_113 : decode cX5_ofTwo 113 = .ok (.iconst 1, 1) := by decide +kernel
theorem dX5_ofTwo_114 : decode cX5_ofTwo 114 = .ok (.invokevirtual 91, 3) := by decide +kernel
theorem dX5_ofTwo_117 : decode cX5_ofTwo 117 = .ok (.istore 6, 2) := by decide +kernel
theorem dX5_ofTwo_119 : decode cX5_ofTwo 119 = .ok (.aload_n 0, 1) := by decide +kernel
theorem dX5_ofTwo_120 : decode cX5_ofTwo 120 = .ok (.getfield 13, 3) := by decide +kernel
theorem dX5_ofTwo_123 : decode cX5_ofTwo 123 = .ok (.iload_n 2, 1) := by decide +kernel
theorem dX5_ofTwo_124 : decode cX5_ofTwo 124 = .ok (.iload 6, 2) := by decide +kernel
theorem dX5_ofTwo_126 : decode cX5_ofTwo 126 = .ok (.iastore, 1) := by decide +kernel
theorem dX5_ofTwo_127 : decode cX5_ofTwo 127 = .ok (.goto 149, 3) := by decide +kernel
theorem dX5_ofTwo_130 : decode cX5_ofTwo 130 = .ok (.aload_n 0, 1) := by decide +kernel
theorem dX5_ofTwo_131 : decode cX5_ofTwo 131 = .ok (.getfield 13, 3) := by decide +kernel
theorem dX5_ofTwo_134 : decode cX5_ofTwo 134 = .ok (.iload_n 2, 1) := by decide +kernel
theorem dX5_ofTwo_135 : decode cX5_ofTwo 135 = .ok (.aload_n 0, 1) := by decide +kernel
theorem dX5_ofTwo_136 : decode cX5_ofTwo 136 = .ok (.iload_n 3, 1) := by decide +kernel
theorem dX5_ofTwo_137 : decode cX5_ofTwo 137 = .ok (.iload 4, 2) := by decide +kernel
theorem dX5_ofTwo_139 : decode cX5_ofTwo 139 = .ok (.iconst 0, 1) := by decide +kernel
theorem dX5_ofTwo_140 : decode cX5_ofTwo 140 = .ok (.invokevirtual 95, 3) := by decide +kernel
theorem dX5_ofTwo_143 : decode cX5_ofTwo 143 = .ok (.iastore, 1) := by decide +kernel
theorem dX5_ofTwo_144 : decode cX5_ofTwo 144 = .ok (.goto 132, 3) := by decide +kernel
theorem dX5_ofTwo_147 : decode cX5_ofTwo 147 = .ok (.aload_n 0, 1) := by decide +kernel
theorem dX5_ofTwo_148 : decode cX5_ofTwo 148 = .ok (.iload_n 3, 1) := by decide +kernel
theorem dX5_ofTwo_149 : decode cX5_ofTwo 149 = .ok (.iload 4, 2) := by decide +kernel
theorem dX5_ofTwo_151 : decode cX5_ofTwo 151 = .ok (.if_icmp .ne 7, 3) := by decide +kernel
theorem dX5_ofTwo_154 : decode cX5_ofTwo 154 = .ok (.iconst 1, 1) := by decide +kernel
theorem dX5_ofTwo_155 : decode cX5_ofTwo 155 = .ok (.goto 4, 3) := by decide +kernel
theorem dX5_ofTwo_158 : decode cX5_ofTwo 158 = .ok (.iconst 0, 1) := by decide +kernel
theorem dX5_ofTwo_159 : decode cX5_ofTwo 159 = .ok (.invokevirtual 99, 3) := by decide +kernel
theorem dX5_ofTwo_162 : decode cX5_ofTwo 162 = .ok (.goto 114, 3) := by decide +kernel
theorem dX5_ofTwo_165 : decode cX5_ofTwo 165 = .ok (.aload_n 0, 1) := by decide +kernel
theorem dX5_ofTwo_166 : decode cX5_ofTwo 166 = .ok (.iload_n 3, 1) := by decide +kernel
theorem dX5_ofTwo_167 : decode cX5_ofTwo 167 = .ok (.iload 4, 2) := by decide +kernel
theorem dX5_ofTwo_169 : decode cX5_ofTwo 169 = .ok (.iconst 0, 1) := by decide +kernel
theorem dX5_ofTwo_170 : decode cX5_ofTwo 170 = .ok (.iconst 0, 1) := by decide +kernel
theorem dX5_ofTwo_171 : decode cX5_ofTwo 171 = .ok (.invokevirtual 91, 3) := by decide +kernel
theorem dX5_ofTwo_174 : decode cX5_ofTwo 174 = .ok (.istore 7, 2) := by decide +kernel
theorem dX5_ofTwo_176 : decode cX5_ofTwo 176 = .ok (.goto 100, 3) := by decide +kernel
theorem dX5_ofTwo_179 : decode cX5_ofTwo 179 = .ok (.aload_n 0, 1) := by decide +kernel
theorem dX5_ofTwo_180 : decode cX5_ofTwo 180 = .ok (.getfield 13, 3) := by decide +kernel
theorem dX5_ofTwo_183 : decode cX5_ofTwo 183 = .ok (.iload_n 2, 1) := by decide +kernel
theorem dX5_ofTwo_184 : decode cX5_ofTwo 184 = .ok (.aload_n 0, 1) := by decide +kernel
theorem dX5_ofTwo_185 : decode cX5_ofTwo 185 = .ok (.iload_n 3, 1) := by decide +kernel
theorem dX5_ofTwo_186 : decode cX5_ofTwo 186 = .ok (.iload 4, 2) := by decide +kernel
theorem dX5_ofTwo_188 : decode cX5_ofTwo 188 = .ok (.iconst 0, 1) := by decide +kernel
theorem dX5_ofTwo_189 : decode cX5_ofTwo 189 = .ok (.iconst 0, 1) := by decide +kernel
theorem dX5_ofTwo_190 : decode cX5_ofTwo 190 = .ok (.invokevirtual 91, 3) := by decide +kernel
theorem dX5_ofTwo_193 : decode cX5_ofTwo 193 = .ok (.iastore, 1) := by decide +kernel
theorem dX5_ofTwo_194 : decode cX5_ofTwo 194 = .ok (.goto 82, 3) := by decide +kernel
theorem dX5_ofTwo_197 : decode cX5_ofTwo 197 = .ok (.aload_n 0, 1) := by decide +kernel
theorem dX5_ofTwo_198 : decode cX5_ofTwo 198 = .ok (.getfield 13, 3) := by decide +kernel
theorem dX5_ofTwo_201 : decode cX5_ofTwo 201 = .ok (.iload_n 2, 1) := by decide +kernel
theorem dX5_ofTwo_202 : decode cX5_ofTwo 202 = .ok (.aload_n 0, 1) := by decide +kernel
theorem dX5_ofTwo_203 : decode cX5_ofTwo 203 = .ok (.iload_n 3, 1) := by decide +kernel
theorem dX5_ofTwo_204 : decode cX5_ofTwo 204 = .ok (.iload 4, 2) := by decide +kernel
theorem dX5_ofTwo_206 : decode cX5_ofTwo 206 = .ok (.aload_n 0, 1) := by decide +kernel
theorem dX5_ofTwo_207 : decode cX5_ofTwo 207 = .ok (.invokevirtual 87, 3) := by decide +kernel
theorem dX5_ofTwo_210 : decode cX5_ofTwo 210 = .ok (.invokevirtual 95, 3) := by decide +kernel
theorem dX5_ofTwo_213 : decode cX5_ofTwo 213 = .ok (.iastore, 1) := by decide +kernel
theorem dX5_ofTwo_214 : decode cX5_ofTwo 214 = .ok (.goto 62, 3) := by decide +kernel
theorem dX5_ofTwo_217 : decode cX5_ofTwo 217 = .ok (.aload_n 0, 1) := by decide +kernel
theorem dX5_ofTwo_218 : decode cX5_ofTwo 218 = .ok (.getfield 13, 3) := by decide +kernel
theorem dX5_ofTwo_221 : decode cX5_ofTwo 221 = .ok (.iload_n 2, 1) := by decide +kernel
theorem dX5_ofTwo_222 : decode cX5_ofTwo 222 = .ok (.aload_n 0, 1) := by decide +kernel
theorem dX5_ofTwo_223 : decode cX5_ofTwo 223 = .ok (.iload_n 3, 1) := by decide +kernel
theorem dX5_ofTwo_224 : decode cX5_ofTwo 224 = .ok (.iload 4, 2) := by decide +kernel
theorem dX5_ofTwo_226 : decode cX5_ofTwo 226 = .ok (.iand, 1) := by decide +kernel
theorem dX5_ofTwo_227 : decode cX5_ofTwo 227 = .ok (.invokevirtual 103, 3) := by decide +kernel
theorem dX5_ofTwo_230 : decode cX5_ofTwo 230 = .ok (.iastore, 1) := by decide +kernel
theorem dX5_ofTwo_231 : decode cX5_ofTwo 231 = .ok (.goto 45, 3) := by decide +kernel
theorem dX5_ofTwo_234 : decode cX5_ofTwo 234 = .ok (.aload_n 0, 1) := by decide +kernel
theorem dX5_ofTwo_235 : decode cX5_ofTwo 235 = .ok (.getfield 13, 3) := by decide +kernel
theorem dX5_ofTwo_238 : decode cX5_ofTwo 238 = .ok (.iload_n 2, 1) := by decide +kernel
theorem dX5_ofTwo_239 : decode cX5_ofTwo 239 = .ok (.aload_n 0, 1) := by decide +kernel
theorem dX5_ofTwo_240 : decode cX5_ofTwo 240 = .ok (.iload_n 3, 1) := by decide +kernel
theorem dX5_ofTwo_241 : decode cX5_ofTwo 241 = .ok (.iload 4, 2) := by decide +kernel
theorem dX5_ofTwo_243 : decode cX5_ofTwo 243 = .ok (.ixor, 1) := by decide +kernel
theorem dX5_ofTwo_244 : decode cX5_ofTwo 244 = .ok (.invokevirtual 103, 3) := by decide +kernel
theorem dX5_ofTwo_247 : decode cX5_ofTwo 247 = .ok (.iastore, 1) := by decide +kernel
theorem dX5_ofTwo_248 : decode cX5_ofTwo 248 = .ok (.goto 28, 3) := by decide +kernel
theorem dX5_ofTwo_251 : decode cX5_ofTwo 251 = .ok (.aload_n 0, 1) := by decide +kernel
theorem dX5_ofTwo_252 : decode cX5_ofTwo 252 = .ok (.getfield 13, 3) := by decide +kernel
theorem dX5_ofTwo_255 : decode cX5_ofTwo 255 = .ok (.iload_n 2, 1) := by decide +kernel
theorem dX5_ofTwo_256 : decode cX5_ofTwo 256 = .ok (.aload_n 0, 1) := by decide +kernel
theorem dX5_ofTwo_257 : decode cX5_ofTwo 257 = .ok (.iload_n 3, 1) := by decide +kernel
theorem dX5_ofTwo_258 : decode cX5_ofTwo 258 = .ok (.iload 4, 2) := by decide +kernel
theorem dX5_ofTwo_260 : decode cX5_ofTwo 260 = .ok (.ior, 1) := by decide +kernel
theorem dX5_ofTwo_261 : decode cX5_ofTwo 261 = .ok (.invokevirtual 103, 3) := by decide +kernel
theorem dX5_ofTwo_264 : decode cX5_ofTwo 264 = .ok (.iastore, 1) := by decide +kernel
theorem dX5_ofTwo_265 : decode cX5_ofTwo 265 = .ok (.goto 11, 3) := by decide +kernel
theorem dX5_ofTwo_268 : decode cX5_ofTwo 268 = .ok (.aload_n 0, 1) := by decide +kernel
theorem dX5_ofTwo_269 : decode cX5_ofTwo 269 = .ok (.getfield 13, 3) := by decide +kernel
theorem dX5_ofTwo_272 : decode cX5_ofTwo 272 = .ok (.iload_n 2, 1) := by decide +kernel
theorem dX5_ofTwo_273 : decode cX5_ofTwo 273 = .ok (.iload 4, 2) := by decide +kernel
theorem dX5_ofTwo_275 : decode cX5_ofTwo 275 = .ok (.iastore, 1) := by decide +kernel
theorem dX5_ofTwo_276 : decode cX5_ofTwo 276 = .ok (.return_, 1) := by decide +kernel
set_option maxRecDepth 20000 in
theorem ggX5_ofNumber_X5_subtract : GoodIn wsX5_ofNumber wsX5_subtract := goodIn_r _ [6, 7, 8, 9, 5, 10, 1, 11, 12, 13, 14, 15, 16, 17, 18, 27, 28, 29, 30, 31, 32, 33, 34] (by decide +kernel) (by decide +kernel)
set_option maxRecDepth 20000 in
theorem gX5_ofNumber_X5_subtract : GoodIn wsX5_ofNumber (wsV RX5 91 RX5 yX5_subtract wsX5_subtract) := goodIn_app (goodIn_of _ (by decide +kernel)) ggX5_ofNumber_X5_subtract
set_option maxRecDepth 20000 in
theorem ggX5_ofNumber_X5_carry : GoodIn wsX5_ofNumber wsX5_carry := goodIn_r _ [22, 7, 8, 9, 5, 10, 1, 27, 28, 29, 30, 31, 32, 33, 34] (by decide +kernel) (by decide +kernel)
set_option maxRecDepth 20000 in
theorem gX5_ofNumber_X5_carry : GoodIn wsX5_ofNumber (wsV RX5 87 RX5 yX5_carry wsX5_carry) := goodIn_app (goodIn_of _ (by decide +kernel)) ggX5_ofNumber_X5_carry
set_option maxRecDepth 20000 in
theorem ggX5_ofNumber_X5_logic : GoodIn wsX5_ofNumber wsX5_logic := goodIn_r _ [26, 15, 16, 17, 5, 18, 11, 12, 13, 14, 1, 27, 28, 29, 30, 31, 32, 33, 34] (by decide +kernel) (by decide +kernel)
set_option maxRecDepth 20000 in
theorem gX5_ofNumber_X5_logic : GoodIn wsX5_ofNumber (wsV RX5 103 RX5 yX5_logic wsX5_logic) := goodIn_app (goodIn_of _ (by decide +kernel)) ggX5_ofNumber_X5_logic
theorem dX5_ofNumber_0 : decode cX5_ofNumber 0 = .ok (.bipush 16, 2) := by decide +kernel
theorem dX5_ofNumber_2 : decode cX5_ofNumber 2 = .ok (.iload_n 1, 1) := by decide +kernel
theorem dX5_ofNumber_3 : decode cX5_ofNumber 3 = .ok (.iconst 4, 1) := by decide +kernel
theorem dX5_ofNumber_4 : decode cX5_ofNumber 4 = .ok (.ishr, 1) := by decide +kernel
theorem dX5_ofNumber_5 : decode cX5_ofNumber 5 = .ok (.bipush 15, 2) := by decide +kernel
theorem dX5_ofNumber_7 : decode cX5_ofNumber 7 = .ok (.iand, 1) := by decide +kernel
theorem dX5_ofNumber_8 : decode cX5_ofNumber 8 = .ok (.iadd, 1) := by decide +kernel
theorem dX5_ofNumber_9 : decode cX5_ofNumber 9 = .ok (.istore_n 2, 1) := by decide +kernel
theorem dX5_ofNumber_10 : decode cX5_ofNumber 10 = .ok (.iload_n 1, 1) := by decide +kernel
theorem dX5_ofNumber_11 : decode cX5_ofNumber 11 = .ok (.iconst 4, 1) := by decide +kernel
theorem dX5_ofNumber_12 : decode cX5_ofNumber 12 = .ok (.ishr, 1) := by decide +kernel
theorem dX5_ofNumber_13 : decode cX5_ofNumber 13 = .ok (.sipush 240, 3) := by decide +kernel
theorem dX5_ofNumber_16 : decode cX5_ofNumber 16 = .ok (.iand, 1) := by decide +kernel
theorem dX5_ofNumber_17 : decode cX5_ofNumber 17 = .ok (.iload_n 1, 1) := by decide +kernel
theorem dX5_ofNumber_18 : decode cX5_ofNumber 18 = .ok (.bipush 15, 2) := by decide +kernel
theorem dX5_ofNumber_20 : decode cX5_ofNumber 20 = .ok (.iand, 1) := by decide +kernel
theorem dX5_ofNumber_21 : decode cX5_ofNumber 21 = .ok (.ior, 1) := by decide +kernel
theorem dX5_ofNumber_22 : decode cX5_ofNumber 22 = .ok (.istore_n 3, 1) := by decide +kernel
theorem dX5_ofNumber_23 : decode cX5_ofNumber 23 = .ok (.aload_n 0, 1) := by decide +kernel
theorem dX5_ofNumber_24 : decode cX5_ofNumber 24 = .ok (.getfield 13, 3) := by decide +kernel
theorem dX5_ofNumber_27 : decode cX5_ofNumber 27 = .ok (.iload_n 2, 1) := by decide +kernel
theorem dX5_ofNumber_28 : decode cX5_ofNumber 28 = .ok (.iaload, 1) := by decide +kernel
theorem dX5_ofNumber_29 : decode cX5_ofNumber 29 = .ok (.istore 4, 2) := by decide +kernel
theorem dX5_ofNumber_31 : decode cX5_ofNumber 31 = .ok (.iload_n 1, 1) := by decide +kernel
theorem dX5_ofNumber_32 : decode cX5_ofNumber 32 = .ok (.bipush 12, 2) := by decide +kernel
theorem dX5_ofNumber_34 : decode cX5_ofNumber 34 = .ok (.ishr, 1) := by decide +kernel
theorem dX5_ofNumber_35 : decode cX5_ofNumber 35 = .ok (.tableswitch 120 3 7 #[33, 47, 68, 86, 103], 33) := by decide +kernel
theorem dX5_ofNumber_68 : decode cX5_ofNumber 68 = .ok (.aload_n 0, 1) := by decide +kernel
theorem dX5_ofNumber_69 : decode cX5_ofNumber 69 = .ok (.iload 4, 2) := by decide +kernel
theorem dX5_ofNumber_71 : decode cX5_ofNumber 71 = .ok (.iload_n 3, 1) := by decide +kernel
theorem dX5_ofNumber_72 : decode cX5_ofNumber 72 = .ok (.iconst 0, 1) := by decide +kernel
theorem dX5_ofNumber_73 : decode cX5_ofNumber 73 = .ok (.iconst 0, 1) := by decide +kernel
theorem dX5_ofNumber_74 : decode cX5_ofNumber 74 = .ok (.invokevirtual 91, 3) := by decide +kernel
theorem dX5_ofNumber_77 : decode cX5_ofNumber 77 = .ok (.istore 5, 2) := by decide +kernel
theorem dX5_ofNumber_79 : decode cX5_ofNumber 79 = .ok (.goto 83, 3) := by decide +kernel
theorem dX5_ofNumber_82 : decode cX5_ofNumber 82 = .ok (.aload_n 0, 1) := by decide +kernel
theorem dX5_ofNumber_83 : decode cX5_ofNumber 83 = .ok (.getfield 13, 3) := by decide +kernel
theorem dX5_ofNumber_86 : decode cX5_ofNumber 86 = .ok (.iload_n 2, 1) := by decide +kernel
theorem dX5_ofNumber_87 : decode cX5_ofNumber 87 = .ok (.aload_n 0, 1) := by decide +kernel
theorem dX5_ofNumber_88 : decode cX5_ofNumber 88 = .ok (.iload 4, 2) := by decide +kernel
theorem dX5_ofNumber_90 : decode cX5_ofNumber 90 = .ok (.iload_n 3, 1) := by decide +kernel
theorem dX5_ofNumber_91 : decode cX5_ofNumber 91 = .ok (.aload_n 0, 1) := by decide +kernel
theorem dX5_ofNumber_92 : decode cX5_ofNumber 92 = .ok (.invokevirtual 87, 3) := by decide +kernel
theorem dX5_ofNumber_95 : decode cX5_ofNumber 95 = .ok (.iconst 1, 1) := by decide +kernel
theorem dX5_ofNumber_96 : decode cX5_ofNumber 96 = .ok (.invokevirtual 91, 3) := by decide +kernel
theorem dX5_ofNumber_99 : decode cX5_ofNumber 99 = .ok (.iastore, 1) := by decide +kernel
theorem dX5_ofNumber_100 : decode cX5_ofNumber 100 = .ok (.goto 62, 3) := by decide +kernel
theorem dX5_ofNumber_103 : decode cX5_ofNumber 103 = .ok (.aload_n 0, 1) := by decide +kernel
theorem dX5_ofNumber_104 : decode cX5_ofNumber 104 = .ok (.getfield 13, 3) := by decide +kernel
theorem dX5_ofNumber_107 : decode cX5_ofNumber 107 = .ok (.iload_n 2, 1) := by decide +kernel
theorem dX5_ofNumber_108 : decode cX5_ofNumber 108 = .ok (.aload_n 0, 1) := by decide +kernel
theorem dX5_ofNumber_109 : decode cX5_ofNumber 109 = .ok (.iload 4, 2) := by decide +kernel
theorem dX5_ofNumber_111 : decode cX5_ofNumber 111 = .ok (.iload_n 3, 1) := by decide +kernel
theorem dX5_ofNumber_112 : decode cX5_ofNumber 112 = .ok (.iconst 0, 1) := by decide +kernel
theorem dX5_ofNumber_113 : decode cX5_ofNumber 113 = .ok (.iconst 0, 1) := by decide +kernel
theorem dX5_ofNumber_114 : decode cX5_ofNumber 114 = .ok (.invokevirtual 91, 3) := by decide +kernel
theorem dX5_ofNumber_117 : decode cX5_ofNumber 117 = .ok (.iastore, 1) := by decide +kernel
theorem dX5_ofNumber_118 : decode cX5_ofNumber 118 = .ok (.goto 44, 3) := by decide +kernel
theorem dX5_ofNumber_121 : decode cX5_ofNumber 121 = .ok (.aload_n 0, 1) := by decide +kernel
theorem dX5_ofNumber_122 : decode cX5_ofNumber 122 = .ok (.getfield 13, 3) := by decide +kernel
theorem dX5_ofNumber_125 : decode cX5_ofNumber 125 = .ok (.iload_n 2, 1) := by decide +kernel
theorem dX5_ofNumber_126 : decode cX5_ofNumber 126 = .ok (.aload_n 0, 1) := by decide +kernel
theorem dX5_ofNumber_127 : decode cX5_ofNumber 127 = .ok (.iload 4, 2) := by decide +kernel
theorem dX5_ofNumber_129 : decode cX5_ofNumber 129 = .ok (.iload_n 3, 1) := by decide +kernel
theorem dX5_ofNumber_130 : decode cX5_ofNumber 130 = .ok (.ior, 1) := by decide +kernel
theorem dX5_ofNumber_131 : decode cX5_ofNumber 131 = .ok (.invokevirtual 103, 3) := by decide +kernel
theorem dX5_ofNumber_134 : decode cX5_ofNumber 134 = .ok (.iastore, 1) := by decide +kernel
theorem dX5_ofNumber_135 : decode cX5_ofNumber 135 = .ok (.goto 27, 3) := by decide +kernel
theorem dX5_ofNumber_138 : decode cX5_ofNumber 138 = .ok (.aload_n 0, 1) := by decide +kernel
theorem dX5_ofNumber_139 : decode cX5_ofNumber 139 = .ok (.getfield 13, 3) := by decide +kernel
theorem dX5_ofNumber_142 : decode cX5_ofNumber 142 = .ok (.iload_n 2, 1) := by decide +kernel
theorem dX5_ofNumber_143 : decode cX5_ofNumber 143 = .ok (.aload_n 0, 1) := by decide +kernel
theorem dX5_ofNumber_144 : decode cX5_ofNumber 144 = .ok (.iload 4, 2) := by decide +kernel
theorem dX5_ofNumber_146 : decode cX5_ofNumber 146 = .ok (.iload_n 3, 1) := by decide +kernel
theorem dX5_ofNumber_147 : decode cX5_ofNumber 147 = .ok (.iand, 1) := by decide +kernel
theorem dX5_ofNumber_148 : decode cX5_ofNumber 148 = .ok (.invokevirtual 103, 3) := by decide +kernel
theorem dX5_ofNumber_151 : decode cX5_ofNumber 151 = .ok (.iastore, 1) := by decide +kernel
theorem dX5_ofNumber_152 : decode cX5_ofNumber 152 = .ok (.goto 10, 3) := by decide +kernel
theorem dX5_ofNumber_155 : decode cX5_ofNumber 155 = .ok (.aload_n 0, 1) := by decide +kernel
theorem dX5_ofNumber_156 : decode cX5_ofNumber 156 = .ok (.getfield 13, 3) := by decide +kernel
theorem dX5_ofNumber_159 : decode cX5_ofNumber 159 = .ok (.iload_n 2, 1) := by decide +kernel
theorem dX5_ofNumber_160 : decode cX5_ofNumber 160 = .ok (.iload_n 3, 1) := by decide +kernel
theorem dX5_ofNumber_161 : decode cX5_ofNumber 161 = .ok (.iastore, 1) := by decide +kernel
theorem dX5_ofNumber_162 : decode cX5_ofNumber 162 = .ok (.return_, 1) := by decide +kernel
theorem dX5_signed_0 : decode cX5_signed 0 = .ok (.iload_n 0, 1) := by decide +kernel
theorem dX5_signed_1 : decode cX5_signed 1 = .ok (.bipush 127, 2) := by decide +kernel
theorem dX5_signed_3 : decode cX5_signed 3 = .ok (.if_icmp .le 11, 3) := by decide +kernel
theorem dX5_signed_6 : decode cX5_signed 6 = .ok (.iload_n 0, 1) := by decide +kernel
theorem dX5_signed_7 : decode cX5_signed 7 = .ok (.sipush 256, 3) := by decide +kernel
theorem dX5_signed_10 : decode cX5_signed 10 = .ok (.isub, 1) := by decide +kernel
theorem dX5_signed_11 : decode cX5_signed 11 = .ok (.goto 4, 3) := by decide +kernel
theorem dX5_signed_14 : decode cX5_signed 14 = .ok (.iload_n 0, 1) := by decide +kernel
theorem dX5_signed_15 : decode cX5_signed 15 = .ok (.ireturn, 1) := by decide +kernel
set_option maxRecDepth 20000 in
theorem ggX5_product_X5_flag : GoodIn wsX5_product wsX5_flag := goodIn_r _ [6, 7, 12, 13, 14, 15, 16, 17, 18, 19] (by decide +kernel) (by decide +kernel)
set_option maxRecDepth 20000 in
theorem gX5_product_X5_flag : GoodIn wsX5_product (wsV RX5 74 RX5 yX5_flag wsX5_flag) := goodIn_app (goodIn_of _ (by decide +kernel)) ggX5_product_X5_flag
set_option maxRecDepth 20000 in
theorem ggX5_product_X5_setPair : GoodIn wsX5_product wsX5_setPair := goodIn_r _ [11, 7, 12, 13, 14, 15, 16, 17, 18, 19] (by decide +kernel) (by decide +kernel)
set_option maxRecDepth 20000 in
theorem gX5_product_X5_setPair : GoodIn wsX5_product (wsV RX5 106 RX5 yX5_setPair wsX5_setPair) := goodIn_app (goodIn_of _ (by decide +kernel)) ggX5_product_X5_setPair
theorem dX5_product_0 : decode cX5_product 0 = .ok (.iload_n 1, 1) := by decide +kernel
theorem dX5_product_1 : decode cX5_product 1 = .ok (.ldc 27, 2) := by decide +kernel
theorem dX5_product_3 : decode cX5_product 3 = .ok (.iand, 1) := by decide +kernel
theorem dX5_product_4 : decode cX5_product 4 = .ok (.istore_n 3, 1) := by decide +kernel
theorem dX5_product_5 : decode cX5_product 5 = .ok (.aload_n 0, 1) := by decide +kernel
theorem dX5_product_6 : decode cX5_product 6 = .ok (.iconst 1, 1) := by decide +kernel
theorem dX5_product_7 : decode cX5_product 7 = .ok (.iload_n 3, 1) := by decide +kernel
theorem dX5_product_8 : decode cX5_product 8 = .ok (.sipush 32767, 3) := by decide +kernel
theorem dX5_product_11 : decode cX5_product 11 = .ok (.if_icmp .le 7, 3) := by decide +kernel
theorem dX5_product_14 : decode cX5_product 14 = .ok (.iconst 1, 1) := by decide +kernel
theorem dX5_product_15 : decode cX5_product 15 = .ok (.goto 4, 3) := by decide +kernel
theorem dX5_product_18 : decode cX5_product 18 = .ok (.iconst 0, 1) := by decide +kernel
theorem dX5_product_19 : decode cX5_product 19 = .ok (.invokevirtual 74, 3) := by decide +kernel
theorem dX5_product_22 : decode cX5_product 22 = .ok (.iload_n 2, 1) := by decide +kernel
theorem dX5_product_23 : decode cX5_product 23 = .ok (.ifCond .eq 12, 3) := by decide +kernel
theorem dX5_product_26 : decode cX5_product 26 = .ok (.iload_n 3, 1) := by decide +kernel
theorem dX5_product_27 : decode cX5_product 27 = .ok (.iconst 1, 1) := by decide +kernel
theorem dX5_product_28 : decode cX5_product 28 = .ok (.ishl, 1) := by decide +kernel
theorem dX5_product_29 : decode cX5_product 29 = .ok (.ldc 27, 2) := by decide +kernel
theorem dX5_product_31 : decode cX5_product 31 = .ok (.iand, 1) := by decide +kernel
theorem dX5_product_32 : decode cX5_product 32 = .ok (.goto 4, 3) := by decide +kernel
theorem dX5_product_35 : decode cX5_product 35 = .ok (.iload_n 3, 1) := by decide +kernel
theorem dX5_product_36 : decode cX5_product 36 = .ok (.istore_n 3, 1) := by decide +kernel
theorem dX5_product_37 : decode cX5_product 37 = .ok (.aload_n 0, 1) := by decide +kernel
theorem dX5_product_38 : decode cX5_product 38 = .ok (.iconst 2, 1) := by decide +kernel
theorem dX5_product_39 : decode cX5_product 39 = .ok (.iload_n 3, 1) := by decide +kernel
theorem dX5_product_40 : decode cX5_product 40 = .ok (.ifCond .ne 7, 3) := by decide +kernel
theorem dX5_product_43 : decode cX5_product 43 = .ok (.iconst 1, 1) := by decide +kernel
theorem dX5_product_44 : decode cX5_product 44 = .ok (.goto 4, 3) := by decide +kernel
theorem dX5_product_47 : decode cX5_product 47 = .ok (.iconst 0, 1) := by decide +kernel
theorem dX5_product_48 : decode cX5_product 48 = .ok (.invokevirtual 74, 3) := by decide +kernel
theorem dX5_product_51 : decode cX5_product 51 = .ok (.aload_n 0, 1) := by decide +kernel
theorem dX5_product_52 : decode cX5_product 52 = .ok (.iconst 0, 1) := by decide +kernel
theorem dX5_product_53 : decode cX5_product 53 = .ok (.iload_n 3, 1) := by decide +kernel
theorem dX5_product_54 : decode cX5_product 54 = .ok (.invokevirtual 106, 3) := by decide +kernel
theorem dX5_product_57 : decode cX5_product 57 = .ok (.return_, 1) := by decide +kernel
set_option maxRecDepth 20000 in
theorem ggX5_products_X5_signed : GoodIn wsX5_products wsX5_signed := goodIn_r _ [5] (by decide +kernel) (by decide +kernel)
set_option maxRecDepth 20000 in
theorem gX5_products_X5_signed : GoodIn wsX5_products (va_wsS RX5 110 yX5_signed wsX5_signed) := goodIn_app (goodIn_of _ (by decide +kernel)) ggX5_products_X5_signed
set_option maxRecDepth 20000 in
theorem ggX5_products_X5_product : GoodIn wsX5_products wsX5_product := goodIn_r _ [9, 10, 11, 12, 13, 4, 14, 1, 15, 16, 17, 18, 19, 20, 21, 22, 23, 24, 25, 26] (by decide +kernel) (by decide +kernel)
set_option maxRecDepth 20000 in
theorem gX5_products_X5_product : GoodIn wsX5_products (wsV RX5 113 RX5 yX5_product wsX5_product) := goodIn_app (goodIn_of _ (by decide +kernel)) ggX5_products_X5_product
theorem dX5_products_0 : decode cX5_products 0 = .ok (.iload_n 1, 1) := by decide +kernel
theorem dX5_products_1 : decode cX5_products 1 = .ok (.bipush 8, 2) := by decide +kernel
theorem dX5_products_3 : decode cX5_products 3 = .ok (.ishr, 1) := by decide +kernel
theorem dX5_products_4 : decode cX5_products 4 = .ok (.iconst 2, 1) := by decide +kernel
theorem dX5_products_5 : decode cX5_products 5 = .ok (.if_icmp .ne 42, 3) := by decide +kernel
theorem dX5_products_8 : decode cX5_products 8 = .ok (.aload_n 0, 1) := by decide +kernel
theorem dX5_products_9 : decode cX5_products 9 = .ok (.aload_n 0, 1) := by decide +kernel
theorem dX5_products_10 : decode cX5_products 10 = .ok (.getfield 13, 3) := by decide +kernel
theorem dX5_products_13 : decode cX5_products 13 = .ok (.bipush 16, 2) := by decide +kernel
theorem dX5_products_15 : decode cX5_products 15 = .ok (.iload_n 1, 1) := by decide +kernel
theorem dX5_products_16 : decode cX5_products 16 = .ok (.iconst 4, 1) := by decide +kernel
theorem dX5_products_17 : decode cX5_products 17 = .ok (.ishr, 1) := by decide +kernel
theorem dX5_products_18 : decode cX5_products 18 = .ok (.bipush 15, 2) := by decide +kernel
theorem dX5_products_20 : decode cX5_products 20 = .ok (.iand, 1) := by decide +kernel
theorem dX5_products_21 : decode cX5_products 21 = .ok (.iadd, 1) := by decide +kernel
theorem dX5_products_22 : decode cX5_products 22 = .ok (.iaload, 1) := by decide +kernel
theorem dX5_products_23 : decode cX5_products 23 = .ok (.invokestatic 110, 3) := by decide +kernel
theorem dX5_products_26 : decode cX5_products 26 = .ok (.aload_n 0, 1) := by decide +kernel
theorem dX5_products_27 : decode cX5_products 27 = .ok (.getfield 13, 3) := by decide +kernel
theorem dX5_products_30 : decode cX5_products 30 = .ok (.bipush 16, 2) := by decide +kernel
theorem dX5_products_32 : decode cX5_products 32 = .ok (.iload_n 1, 1) := by decide +kernel
theorem dX5_products_33 : decode cX5_products 33 = .ok (.bipush 15, 2) := by decide +kernel
theorem dX5_products_35 : decode cX5_products 35 = .ok (.iand, 1) := by decide +kernel
theorem dX5_products_36 : decode cX5_products 36 = .ok (.iadd, 1) := by decide +kernel
theorem dX5_products_37 : decode cX5_products 37 = .ok (.iaload, 1) := by decide +kernel
theorem dX5_products_38 : decode cX5_products 38 = .ok (.invokestatic 110, 3) := by decide +kernel
theorem dX5_products_41 : decode cX5_products 41 = .ok (.imul, 1) := by decide +kernel
theorem dX5_products_42 : decode cX5_products 42 = .ok (.iconst 0, 1) := by decide +kernel
theorem dX5_products_43 : decode cX5_products 43 = .ok (.invokevirtual 113, 3) := by decide +kernel
theorem dX5_products_46 : decode cX5_products 46 = .ok (.return_, 1) := by decide +kernel
theorem dX5_products_47 : decode cX5_products 47 = .ok (.aload_n 0, 1) := by decide +kernel
theorem dX5_products_48 : decode cX5_products 48 = .ok (.getfield 13, 3) := by decide +kernel
theorem dX5_products_51 : decode cX5_products 51 = .ok (.bipush 16, 2) := by decide +kernel
theorem dX5_products_53 : decode cX5_products 53 = .ok (.iload_n 1, 1) := by decide +kernel
theorem dX5_products_54 : decode cX5_products 54 = .ok (.iconst 4, 1) := by decide +kernel
theorem dX5_products_55 : decode cX5_products 55 = .ok (.ishr, 1) := by decide +kernel
theorem dX5_products_56 : decode cX5_products 56 = .ok (.bipush 7, 2) := by decide +kernel
theorem dX5_products_58 : decode cX5_products 58 = .ok (.iand, 1) := by decide +kernel
theorem dX5_products_59 : decode cX5_products 59 = .ok (.iadd, 1) := by decide +kernel
theorem dX5_products_60 : decode cX5_products 60 = .ok (.iaload, 1) := by decide +kernel
theorem dX5_products_61 : decode cX5_products 61 = .ok (.istore_n 2, 1) := by decide +kernel
theorem dX5_products_62 : decode cX5_products 62 = .ok (.aload_n 0, 1) := by decide +kernel
theorem dX5_products_63 : decode cX5_products 63 = .ok (.getfield 13, 3) := by decide +kernel
theorem dX5_products_66 : decode cX5_products 66 = .ok (.bipush 16, 2) := by decide +kernel
theorem dX5_products_68 : decode cX5_products 68 = .ok (.iload_n 1, 1) := by decide +kernel
theorem dX5_products_69 : decode cX5_products 69 = .ok (.bipush 7, 2) := by decide +kernel
theorem dX5_products_71 : decode cX5_products 71 = .ok (.iand, 1) := by decide +kernel
theorem dX5_products_72 : decode cX5_products 72 = .ok (.iadd, 1) := by decide +kernel
theorem dX5_products_73 : decode cX5_products 73 = .ok (.iaload, 1) := by decide +kernel
theorem dX5_products_74 : decode cX5_products 74 = .ok (.istore_n 3, 1) := by decide +kernel
theorem dX5_products_75 : decode cX5_products 75 = .ok (.iload_n 1, 1) := by decide +kernel
theorem dX5_products_76 : decode cX5_products 76 = .ok (.sipush 136, 3) := by decide +kernel
theorem dX5_products_79 : decode cX5_products 79 = .ok (.iand, 1) := by decide +kernel
theorem dX5_products_80 : decode cX5_products 80 = .ok (.lookupswitch 78 #[(0, 36), (8, 50), (128, 61)], 36) := by decide +kernel
theorem dX5_products_116 : decode cX5_products 116 = .ok (.aload_n 0, 1) := by decide +kernel
theorem dX5_products_117 : decode cX5_products 117 = .ok (.iload_n 2, 1) := by decide +kernel
theorem dX5_products_118 : decode cX5_products 118 = .ok (.invokestatic 110, 3) := by decide +kernel
theorem dX5_products_121 : decode cX5_products 121 = .ok (.iload_n 3, 1) := by decide +kernel
theorem dX5_products_122 : decode cX5_products 122 = .ok (.imul, 1) := by decide +kernel
theorem dX5_products_123 : decode cX5_products 123 = .ok (.iconst 0, 1) := by decide +kernel
theorem dX5_products_124 : decode cX5_products 124 = .ok (.invokevirtual 113, 3) := by decide +kernel
theorem dX5_products_127 : decode cX5_products 127 = .ok (.goto 42, 3) := by decide +kernel
theorem dX5_products_130 : decode cX5_products 130 = .ok (.aload_n 0, 1) := by decide +kernel
theorem dX5_products_131 : decode cX5_products 131 = .ok (.iload_n 2, 1) := by decide +kernel
theorem dX5_products_132 : decode cX5_products 132 = .ok (.iload_n 3, 1) := by decide +kernel
theorem dX5_products_133 : decode cX5_products 133 = .ok (.imul, 1) := by decide +kernel
theorem dX5_products_134 : decode cX5_products 134 = .ok (.iconst 1, 1) := by decide +kernel
theorem dX5_products_135 : decode cX5_products 135 = .ok (.invokevirtual 113, 3) := by decide +kernel
theorem dX5_products_138 : decode cX5_products 138 = .ok (.goto 31, 3) := by decide +kernel
theorem dX5_products_141 : decode cX5_products 141 = .ok (.aload_n 0, 1) := by decide +kernel
theorem dX5_products_142 : decode cX5_products 142 = .ok (.iload_n 2, 1) := by decide +kernel
theorem dX5_products_143 : decode cX5_products 143 = .ok (.invokestatic 110, 3) := by decide +kernel
theorem dX5_products_146 : decode cX5_products 146 = .ok (.iload_n 3, 1) := by decide +kernel
theorem dX5_products_147 : decode cX5_products 147 = .ok (.invokestatic 110, 3) := by decide +kernel
theorem dX5_products_150 : decode cX5_products 150 = .ok (.imul, 1) := by decide +kernel
theorem dX5_products_151 : decode cX5_products 151 = .ok (.iconst 1, 1) := by decide +kernel
theorem dX5_products_152 : decode cX5_products 152 = .ok (.invokevirtual 113, 3) := by decide +kernel
theorem dX5_products_155 : decode cX5_products 155 = .ok (.goto 14, 3) := by decide +kernel
theorem dX5_products_158 : decode cX5_products 158 = .ok (.aload_n 0, 1) := by decide +kernel
theorem dX5_products_159 : decode cX5_products 159 = .ok (.iload_n 2, 1) := by decide +kernel
theorem dX5_products_160 : decode cX5_products 160 = .ok (.invokestatic 110, 3) := by decide +kernel
theorem dX5_products_163 : decode cX5_products 163 = .ok (.iload_n 3, 1) := by decide +kernel
theorem dX5_products_164 : decode cX5_products 164 = .ok (.imul, 1) := by decide +kernel
theorem dX5_products_165 : decode cX5_products 165 = .ok (.iconst 1, 1) := by decide +kernel
theorem dX5_products_166 : decode cX5_products 166 = .ok (.invokevirtual 113, 3) := by decide +kernel
theorem dX5_products_169 : decode cX5_products 169 = .ok (.return_, 1) := by decide +kernel
set_option maxRecDepth 20000 in
theorem ggX5_right_X5_flag : GoodIn wsX5_right wsX5_flag := goodIn_r _ [5, 6, 11, 12, 13, 14, 15, 16, 17, 18] (by decide +kernel) (by decide +kernel)
set_option maxRecDepth 20000 in
theorem gX5_right_X5_flag : GoodIn wsX5_right (wsV RX5 74 RX5 yX5_flag wsX5_flag) := goodIn_app (goodIn_of _ (by decide +kernel)) ggX5_right_X5_flag
set_option maxRecDepth 20000 in
theorem ggX5_right_X5_signs : GoodIn wsX5_right wsX5_signs := goodIn_r _ [10, 1, 2, 3, 4, 5, 6, 11, 12, 13, 14, 15, 16, 17, 18] (by decide +kernel) (by decide +kernel)
set_option maxRecDepth 20000 in
theorem gX5_right_X5_signs : GoodIn wsX5_right (wsV RX5 78 RX5 yX5_signs wsX5_signs) := goodIn_app (goodIn_of _ (by decide +kernel)) ggX5_right_X5_signs
theorem dX5_right_0 : decode cX5_right 0 = .ok (.iload_n 1, 1) := by decide +kernel
theorem dX5_right_1 : decode cX5_right 1 = .ok (.iconst 1, 1) := by decide +kernel
theorem dX5_right_2 : decode cX5_right 2 = .ok (.ishr, 1) := by decide +kernel
theorem dX5_right_3 : decode cX5_right 3 = .ok (.iload_n 2, 1) := by decide +kernel
theorem dX5_right_4 : decode cX5_right 4 = .ok (.ior, 1) := by decide +kernel
theorem dX5_right_5 : decode cX5_right 5 = .ok (.istore_n 3, 1) := by decide +kernel
theorem dX5_right_6 : decode cX5_right 6 = .ok (.iload_n 1, 1) := by decide +kernel
theorem dX5_right_7 : decode cX5_right 7 = .ok (.iconst 1, 1) := by decide +kernel
theorem dX5_right_8 : decode cX5_right 8 = .ok (.iand, 1) := by decide +kernel
theorem dX5_right_9 : decode cX5_right 9 = .ok (.iconst 1, 1) := by decide +kernel
theorem dX5_right_10 : decode cX5_right 10 = .ok (.if_icmp .ne 7, 3) := by decide +kernel
theorem dX5_right_13 : decode cX5_right 13 = .ok (.iconst 1, 1) := by decide +kernel
theorem dX5_right_14 : decode cX5_right 14 = .ok (.goto 4, 3) := by decide +kernel
theorem dX5_right_17 : decode cX5_right 17 = .ok (.iconst 0, 1) := by decide +kernel
theorem dX5_right_18 : decode cX5_right 18 = .ok (.istore 4, 2) := by decide +kernel
theorem dX5_right_20 : decode cX5_right 20 = .ok (.aload_n 0, 1) := by decide +kernel
theorem dX5_right_21 : decode cX5_right 21 = .ok (.iconst 1, 1) := by decide +kernel
theorem dX5_right_22 : decode cX5_right 22 = .ok (.iload 4, 2) := by decide +kernel
theorem dX5_right_24 : decode cX5_right 24 = .ok (.invokevirtual 74, 3) := by decide +kernel
theorem dX5_right_27 : decode cX5_right 27 = .ok (.aload_n 0, 1) := by decide +kernel
theorem dX5_right_28 : decode cX5_right 28 = .ok (.iload_n 3, 1) := by decide +kernel
theorem dX5_right_29 : decode cX5_right 29 = .ok (.iload_n 3, 1) := by decide +kernel
theorem dX5_right_30 : decode cX5_right 30 = .ok (.bipush 127, 2) := by decide +kernel
theorem dX5_right_32 : decode cX5_right 32 = .ok (.if_icmp .le 7, 3) := by decide +kernel
theorem dX5_right_35 : decode cX5_right 35 = .ok (.iconst 1, 1) := by decide +kernel
theorem dX5_right_36 : decode cX5_right 36 = .ok (.goto 4, 3) := by decide +kernel
theorem dX5_right_39 : decode cX5_right 39 = .ok (.iconst 0, 1) := by decide +kernel
theorem dX5_right_40 : decode cX5_right 40 = .ok (.iload 4, 2) := by decide +kernel
theorem dX5_right_42 : decode cX5_right 42 = .ok (.if_icmp .eq 7, 3) := by decide +kernel
theorem dX5_right_45 : decode cX5_right 45 = .ok (.iconst 1, 1) := by decide +kernel
theorem dX5_right_46 : decode cX5_right 46 = .ok (.goto 4, 3) := by decide +kernel
theorem dX5_right_49 : decode cX5_right 49 = .ok (.iconst 0, 1) := by decide +kernel
theorem dX5_right_50 : decode cX5_right 50 = .ok (.invokevirtual 78, 3) := by decide +kernel
theorem dX5_right_53 : decode cX5_right 53 = .ok (.iload_n 3, 1) := by decide +kernel
theorem dX5_right_54 : decode cX5_right 54 = .ok (.ireturn, 1) := by decide +kernel
set_option maxRecDepth 20000 in
theorem ggX5_ofOne_X5_dOf : GoodIn wsX5_ofOne wsX5_dOf := goodIn_r _ [5] (by decide +kernel) (by decide +kernel)
set_option maxRecDepth 20000 in
theorem gX5_ofOne_X5_dOf : GoodIn wsX5_ofOne (va_wsS RX5 53 yX5_dOf wsX5_dOf) := goodIn_app (goodIn_of _ (by decide +kernel)) ggX5_ofOne_X5_dOf
set_option maxRecDepth 20000 in
theorem ggX5_ofOne_X5_logic : GoodIn wsX5_ofOne wsX5_logic := goodIn_r _ [9, 10, 11, 12, 4, 13, 14, 15, 16, 17, 1, 34, 35, 36, 37, 38, 39, 40, 41] (by decide +kernel) (by decide +kernel)
set_option maxRecDepth 20000 in
theorem gX5_ofOne_X5_logic : GoodIn wsX5_ofOne (wsV RX5 103 RX5 yX5_logic wsX5_logic) := goodIn_app (goodIn_of _ (by decide +kernel)) ggX5_ofOne_X5_logic
set_option maxRecDepth 20000 in
theorem ggX5_ofOne_X5_flag : GoodIn wsX5_ofOne wsX5_flag := goodIn_r _ [17, 1, 34, 35, 36, 37, 38, 39, 40, 41] (by decide +kernel) (by decide +kernel)
set_option maxRecDepth 20000 in
theorem gX5_ofOne_X5_flag : GoodIn wsX5_ofOne (wsV RX5 74 RX5 yX5_flag wsX5_flag) := goodIn_app (goodIn_of _ (by decide +kernel)) ggX5_ofOne_X5_flag
set_option maxRecDepth 20000 in
theorem ggX5_ofOne_X5_subtract : GoodIn wsX5_ofOne wsX5_subtract := goodIn_r _ [21, 22, 23, 24, 4, 25, 1, 14, 15, 16, 17, 10, 11, 12, 13, 34, 35, 36, 37, 38, 39, 40, 41] (by decide +kernel) (by decide +kernel)
set_option maxRecDepth 20000 in
theorem gX5_ofOne_X5_subtract : GoodIn wsX5_ofOne (wsV RX5 91 RX5 yX5_subtract wsX5_subtract) := goodIn_app (goodIn_of _ (by decide +kernel)) ggX5_ofOne_X5_subtract
set_option maxRecDepth 20000 in
theorem ggX5_ofOne_X5_signs : GoodIn wsX5_ofOne wsX5_signs := goodIn_r _ [13, 14, 15, 16, 4, 17, 1, 34, 35, 36, 37, 38, 39, 40, 41] (by decide +kernel) (by decide +kernel)
set_option maxRecDepth 20000 in
theorem gX5_ofOne_X5_signs : GoodIn wsX5_ofOne (wsV RX5 78 RX5 yX5_signs wsX5_signs) := goodIn_app (goodIn_of _ (by decide +kernel)) ggX5_ofOne_X5_signs
set_option maxRecDepth 20000 in
theorem ggX5_ofOne_X5_right : GoodIn wsX5_ofOne wsX5_right := goodIn_r _ [29, 14, 15, 16, 4, 17, 1, 10, 11, 12, 13, 34, 35, 36, 37, 38, 39, 40, 41] (by decide +kernel) (by decide +kernel)
set_option maxRecDepth 20000 in
theorem gX5_ofOne_X5_right : GoodIn wsX5_ofOne (wsV RX5 116 RX5 yX5_right wsX5_right) := goodIn_app (goodIn_of _ (by decide +kernel)) ggX5_ofOne_X5_right
set_option maxRecDepth 20000 in
theorem ggX5_ofOne_X5_carry : GoodIn wsX5_ofOne wsX5_carry := goodIn_r _ [33, 22, 23, 24, 4, 25, 1, 34, 35, 36, 37, 38, 39, 40, 41] (by decide +kernel) (by decide +kernel)
set_option maxRecDepth 20000 in
theorem gX5_ofOne_X5_carry : GoodIn wsX5_ofOne (wsV RX5 87 RX5 yX5_carry wsX5_carry) := goodIn_app (goodIn_of _ (by decide +kernel)) ggX5_ofOne_X5_carry
theorem dX5_ofOne_0 : decode cX5_ofOne 0 = .ok (.iload_n 1, 1) := by decide +kernel
theorem dX5_ofOne_1 : decode cX5_ofOne 1 = .ok (.invokestatic 53, 3) := by decide +kernel
theorem dX5_ofOne_4 : decode cX5_ofOne 4 = .ok (.istore_n 2, 1) := by decide +kernel
theorem dX5_ofOne_5 : decode cX5_ofOne 5 = .ok (.aload_n 0, 1) := by decide +kernel
theorem dX5_ofOne_6 : decode cX5_ofOne 6 = .ok (.getfield 13, 3) := by decide +kernel
theorem dX5_ofOne_9 : decode cX5_ofOne 9 = .ok (.iload_n 2, 1) := by decide +kernel
theorem dX5_ofOne_10 : decode cX5_ofOne 10 = .ok (.iaload, 1) := by decide +kernel
theorem dX5_ofOne_11 : decode cX5_ofOne 11 = .ok (.istore_n 3, 1) := by decide +kernel
theorem dX5_ofOne_12 : decode cX5_ofOne 12 = .ok (.iload_n 3, 1) := by decide +kernel
theorem dX5_ofOne_13 : decode cX5_ofOne 13 = .ok (.istore 4, 2) := by decide +kernel
theorem dX5_ofOne_15 : decode cX5_ofOne 15 = .ok (.iload_n 1, 1) := by decide +kernel
theorem dX5_ofOne_16 : decode cX5_ofOne 16 = .ok (.bipush 15, 2) := by decide +kernel
theorem dX5_ofOne_18 : decode cX5_ofOne 18 = .ok (.iand, 1) := by decide +kernel
theorem dX5_ofOne_19 : decode cX5_ofOne 19 = .ok (.tableswitch 168 0 7 #[45, 65, 78, 94, 168, 125, 140, 151], 45) := by decide +kernel
theorem dX5_ofOne_64 : decode cX5_ofOne 64 = .ok (.aload_n 0, 1) := by decide +kernel
theorem dX5_ofOne_65 : decode cX5_ofOne 65 = .ok (.sipush 255, 3) := by decide +kernel
theorem dX5_ofOne_68 : decode cX5_ofOne 68 = .ok (.iload_n 3, 1) := by decide +kernel
theorem dX5_ofOne_69 : decode cX5_ofOne 69 = .ok (.isub, 1) := by decide +kernel
theorem dX5_ofOne_70 : decode cX5_ofOne 70 = .ok (.invokevirtual 103, 3) := by decide +kernel
theorem dX5_ofOne_73 : decode cX5_ofOne 73 = .ok (.istore 4, 2) := by decide +kernel
theorem dX5_ofOne_75 : decode cX5_ofOne 75 = .ok (.aload_n 0, 1) := by decide +kernel
theorem dX5_ofOne_76 : decode cX5_ofOne 76 = .ok (.iconst 1, 1) := by decide +kernel
theorem dX5_ofOne_77 : decode cX5_ofOne 77 = .ok (.iconst 1, 1) := by decide +kernel
theorem dX5_ofOne_78 : decode cX5_ofOne 78 = .ok (.invokevirtual 74, 3) := by decide +kernel
theorem dX5_ofOne_81 : decode cX5_ofOne 81 = .ok (.goto 133, 3) := by decide +kernel
theorem dX5_ofOne_84 : decode cX5_ofOne 84 = .ok (.aload_n 0, 1) := by decide +kernel
theorem dX5_ofOne_85 : decode cX5_ofOne 85 = .ok (.iconst 0, 1) := by decide +kernel
theorem dX5_ofOne_86 : decode cX5_ofOne 86 = .ok (.iload_n 3, 1) := by decide +kernel
theorem dX5_ofOne_87 : decode cX5_ofOne 87 = .ok (.iconst 0, 1) := by decide +kernel
theorem dX5_ofOne_88 : decode cX5_ofOne 88 = .ok (.iconst 0, 1) := by decide +kernel
theorem dX5_ofOne_89 : decode cX5_ofOne 89 = .ok (.invokevirtual 91, 3) := by decide +kernel
theorem dX5_ofOne_92 : decode cX5_ofOne 92 = .ok (.istore 4, 2) := by decide +kernel
theorem dX5_ofOne_94 : decode cX5_ofOne 94 = .ok (.goto 120, 3) := by decide +kernel
theorem dX5_ofOne_97 : decode cX5_ofOne 97 = .ok (.iload_n 3, 1) := by decide +kernel
theorem dX5_ofOne_98 : decode cX5_ofOne 98 = .ok (.iconst 4, 1) := by decide +kernel
theorem dX5_ofOne_99 : decode cX5_ofOne 99 = .ok (.ishr, 1) := by decide +kernel
theorem dX5_ofOne_100 : decode cX5_ofOne 100 = .ok (.iload_n 3, 1) := by decide +kernel
theorem dX5_ofOne_101 : decode cX5_ofOne 101 = .ok (.iconst 4, 1) := by decide +kernel
theorem dX5_ofOne_102 : decode cX5_ofOne 102 = .ok (.ishl, 1) := by decide +kernel
theorem dX5_ofOne_103 : decode cX5_ofOne 103 = .ok (.sipush 240, 3) := by decide +kernel
theorem dX5_ofOne_106 : decode cX5_ofOne 106 = .ok (.iand, 1) := by decide +kernel
theorem dX5_ofOne_107 : decode cX5_ofOne 107 = .ok (.ior, 1) := by decide +kernel
theorem dX5_ofOne_108 : decode cX5_ofOne 108 = .ok (.istore 4, 2) := by decide +kernel
theorem dX5_ofOne_110 : decode cX5_ofOne 110 = .ok (.goto 104, 3) := by decide +kernel
theorem dX5_ofOne_113 : decode cX5_ofOne 113 = .ok (.iload_n 3, 1) := by decide +kernel
theorem dX5_ofOne_114 : decode cX5_ofOne 114 = .ok (.iconst 1, 1) := by decide +kernel
theorem dX5_ofOne_115 : decode cX5_ofOne 115 = .ok (.iadd, 1) := by decide +kernel
theorem dX5_ofOne_116 : decode cX5_ofOne 116 = .ok (.sipush 255, 3) := by decide +kernel
theorem dX5_ofOne_119 : decode cX5_ofOne 119 = .ok (.iand, 1) := by decide +kernel
theorem dX5_ofOne_120 : decode cX5_ofOne 120 = .ok (.istore 4, 2) := by decide +kernel
theorem dX5_ofOne_122 : decode cX5_ofOne 122 = .ok (.aload_n 0, 1) := by decide +kernel
theorem dX5_ofOne_123 : decode cX5_ofOne 123 = .ok (.iload 4, 2) := by decide +kernel
theorem dX5_ofOne_125 : decode cX5_ofOne 125 = .ok (.iload 4, 2) := by decide +kernel
theorem dX5_ofOne_127 : decode cX5_ofOne 127 = .ok (.sipush 128, 3) := by decide +kernel
theorem dX5_ofOne_130 : decode cX5_ofOne 130 = .ok (.if_icmp .ne 7, 3) := by decide +kernel
theorem dX5_ofOne_133 : decode cX5_ofOne 133 = .ok (.iconst 1, 1) := by decide +kernel
theorem dX5_ofOne_134 : decode cX5_ofOne 134 = .ok (.goto 4, 3) := by decide +kernel
theorem dX5_ofOne_137 : decode cX5_ofOne 137 = .ok (.iconst 0, 1) := by decide +kernel
theorem dX5_ofOne_138 : decode cX5_ofOne 138 = .ok (.invokevirtual 78, 3) := by decide +kernel
theorem dX5_ofOne_141 : decode cX5_ofOne 141 = .ok (.goto 73, 3) := by decide +kernel
theorem dX5_ofOne_144 : decode cX5_ofOne 144 = .ok (.aload_n 0, 1) := by decide +kernel
theorem dX5_ofOne_145 : decode cX5_ofOne 145 = .ok (.iload_n 3, 1) := by decide +kernel
theorem dX5_ofOne_146 : decode cX5_ofOne 146 = .ok (.iload_n 3, 1) := by decide +kernel
theorem dX5_ofOne_147 : decode cX5_ofOne 147 = .ok (.sipush 128, 3) := by decide +kernel
theorem dX5_ofOne_150 : decode cX5_ofOne 150 = .ok (.iand, 1) := by decide +kernel
theorem dX5_ofOne_151 : decode cX5_ofOne 151 = .ok (.invokevirtual 116, 3) := by decide +kernel
theorem dX5_ofOne_154 : decode cX5_ofOne 154 = .ok (.istore 4, 2) := by decide +kernel
theorem dX5_ofOne_156 : decode cX5_ofOne 156 = .ok (.goto 58, 3) := by decide +kernel
theorem dX5_ofOne_159 : decode cX5_ofOne 159 = .ok (.aload_n 0, 1) := by decide +kernel
theorem dX5_ofOne_160 : decode cX5_ofOne 160 = .ok (.iload_n 3, 1) := by decide +kernel
theorem dX5_ofOne_161 : decode cX5_ofOne 161 = .ok (.iconst 0, 1) := by decide +kernel
theorem dX5_ofOne_162 : decode cX5_ofOne 162 = .ok (.invokevirtual 116, 3) := by decide +kernel
theorem dX5_ofOne_165 : decode cX5_ofOne 165 = .ok (.istore 4, 2) := by decide +kernel
theorem dX5_ofOne_167 : decode cX5_ofOne 167 = .ok (.goto 47, 3) := by decide +kernel
theorem dX5_ofOne_170 : decode cX5_ofOne 170 = .ok (.aload_n 0, 1) := by decide +kernel
theorem dX5_ofOne_171 : decode cX5_ofOne 171 = .ok (.iload_n 3, 1) := by decide +kernel
theorem dX5_ofOne_172 : decode cX5_ofOne 172 = .ok (.aload_n 0, 1) := by decide +kernel
theorem dX5_ofOne_173 : decode cX5_ofOne 173 = .ok (.invokevirtual 87, 3) := by decide +kernel
theorem dX5_ofOne_176 : decode cX5_ofOne 176 = .ok (.bipush 7, 2) := by decide +kernel
theorem dX5_ofOne_178 : decode cX5_ofOne 178 = .ok (.ishl, 1) := by decide +kernel
theorem dX5_ofOne_179 : decode cX5_ofOne 179 = .ok (.invokevirtual 116, 3) := by decide +kernel
theorem dX5_ofOne_182 : decode cX5_ofOne 182 = .ok (.istore 4, 2) := by decide +kernel
