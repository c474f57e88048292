theorem dX2_signs_35 : decode cX2_signs 35 = .ok (.iload_n 3, 1) := by decide +kernel
theorem dX2_signs_36 : decode cX2_signs 36 = .ok (.ixor, 1) := by decide +kernel
theorem dX2_signs_37 : decode cX2_signs 37 = .ok (.iconst 4, 1) := by decide +kernel
theorem dX2_signs_38 : decode cX2_signs 38 = .ok (.ishl, 1) := by decide +kernel
theorem dX2_signs_39 : decode cX2_signs 39 = .ok (.ior, 1) := by decide +kernel
theorem dX2_signs_40 : decode cX2_signs 40 = .ok (.ireturn, 1) := by decide +kernel
theorem dX3_d_0 : decode cX3_d 0 = .ok (.iload_n 0, 1) := by decide +kernel
theorem dX3_d_1 : decode cX3_d 1 = .ok (.iconst 4, 1) := by decide +kernel
theorem dX3_d_2 : decode cX3_d 2 = .ok (.ishr, 1) := by decide +kernel
theorem dX3_d_3 : decode cX3_d 3 = .ok (.bipush 31, 2) := by decide +kernel
theorem dX3_d_5 : decode cX3_d 5 = .ok (.iand, 1) := by decide +kernel
theorem dX3_d_6 : decode cX3_d 6 = .ok (.ireturn, 1) := by decide +kernel
theorem dX3_r_0 : decode cX3_r 0 = .ok (.iload_n 0, 1) := by decide +kernel
theorem dX3_r_1 : decode cX3_r 1 = .ok (.iconst 5, 1) := by decide +kernel
theorem dX3_r_2 : decode cX3_r 2 = .ok (.ishr, 1) := by decide +kernel
theorem dX3_r_3 : decode cX3_r 3 = .ok (.bipush 16, 2) := by decide +kernel
theorem dX3_r_5 : decode cX3_r 5 = .ok (.iand, 1) := by decide +kernel
theorem dX3_r_6 : decode cX3_r 6 = .ok (.iload_n 0, 1) := by decide +kernel
theorem dX3_r_7 : decode cX3_r 7 = .ok (.bipush 15, 2) := by decide +kernel
theorem dX3_r_9 : decode cX3_r 9 = .ok (.iand, 1) := by decide +kernel
theorem dX3_r_10 : decode cX3_r 10 = .ok (.ior, 1) := by decide +kernel
theorem dX3_r_11 : decode cX3_r 11 = .ok (.ireturn, 1) := by decide +kernel
theorem dX3_pointer_0 : decode cX3_pointer 0 = .ok (.iload_n 0, 1) := by decide +kernel
theorem dX3_pointer_1 : decode cX3_pointer 1 = .ok (.iconst 2, 1) := by decide +kernel
theorem dX3_pointer_2 : decode cX3_pointer 2 = .ok (.ishr, 1) := by decide +kernel
theorem dX3_pointer_3 : decode cX3_pointer 3 = .ok (.iconst 3, 1) := by decide +kernel
theorem dX3_pointer_4 : decode cX3_pointer 4 = .ok (.iand, 1) := by decide +kernel
theorem dX3_pointer_5 : decode cX3_pointer 5 = .ok (.lookupswitch 33 #[(0, 27), (2, 30)], 27) := by decide +kernel
theorem dX3_pointer_32 : decode cX3_pointer 32 = .ok (.bipush 30, 2) := by decide +kernel
theorem dX3_pointer_34 : decode cX3_pointer 34 = .ok (.ireturn, 1) := by decide +kernel
theorem dX3_pointer_35 : decode cX3_pointer 35 = .ok (.bipush 28, 2) := by decide +kernel
theorem dX3_pointer_37 : decode cX3_pointer 37 = .ok (.ireturn, 1) := by decide +kernel
theorem dX3_pointer_38 : decode cX3_pointer 38 = .ok (.bipush 26, 2) := by decide +kernel
theorem dX3_pointer_40 : decode cX3_pointer 40 = .ok (.ireturn, 1) := by decide +kernel
theorem dX3_hasNext_0 : decode cX3_hasNext 0 = .ok (.iload_n 0, 1) := by decide +kernel
theorem dX3_hasNext_1 : decode cX3_hasNext 1 = .ok (.ldc 9, 2) := by decide +kernel
theorem dX3_hasNext_3 : decode cX3_hasNext 3 = .ok (.iand, 1) := by decide +kernel
theorem dX3_hasNext_4 : decode cX3_hasNext 4 = .ok (.ldc 10, 2) := by decide +kernel
theorem dX3_hasNext_6 : decode cX3_hasNext 6 = .ok (.if_icmp .eq 12, 3) := by decide +kernel
theorem dX3_hasNext_9 : decode cX3_hasNext 9 = .ok (.iload_n 0, 1) := by decide +kernel
theorem dX3_hasNext_10 : decode cX3_hasNext 10 = .ok (.ldc 11, 2) := by decide +kernel
theorem dX3_hasNext_12 : decode cX3_hasNext 12 = .ok (.iand, 1) := by decide +kernel
theorem dX3_hasNext_13 : decode cX3_hasNext 13 = .ok (.ldc 12, 2) := by decide +kernel
theorem dX3_hasNext_15 : decode cX3_hasNext 15 = .ok (.if_icmp .ne 7, 3) := by decide +kernel
theorem dX3_hasNext_18 : decode cX3_hasNext 18 = .ok (.iconst 1, 1) := by decide +kernel
theorem dX3_hasNext_19 : decode cX3_hasNext 19 = .ok (.goto 4, 3) := by decide +kernel
theorem dX3_hasNext_22 : decode cX3_hasNext 22 = .ok (.iconst 0, 1) := by decide +kernel
theorem dX3_hasNext_23 : decode cX3_hasNext 23 = .ok (.ireturn, 1) := by decide +kernel
set_option maxRecDepth 20000 in
theorem ggX3_groupOf_X3_lowGroupOf : GoodIn wsX3_groupOf wsX3_lowGroupOf := goodIn_r _ [4] (by decide +kernel) (by decide +kernel)
set_option maxRecDepth 20000 in
theorem gX3_groupOf_X3_lowGroupOf : GoodIn wsX3_groupOf (va_wsS RX3 13 yX3_lowGroupOf wsX3_lowGroupOf) := goodIn_app (goodIn_of _ (by decide +kernel)) ggX3_groupOf_X3_lowGroupOf
set_option maxRecDepth 20000 in
theorem ggX3_groupOf_X3_mixedGroupOf : GoodIn wsX3_groupOf wsX3_mixedGroupOf := goodIn_r _ [7, 8, 9, 3, 10, 11, 12, 13, 14, 15, 16, 17, 18, 19, 20, 21, 22, 23, 24, 25] (by decide +kernel) (by decide +kernel)
set_option maxRecDepth 20000 in
theorem gX3_groupOf_X3_mixedGroupOf : GoodIn wsX3_groupOf (va_wsS RX3 19 yX3_mixedGroupOf wsX3_mixedGroupOf) := goodIn_app (goodIn_of _ (by decide +kernel)) ggX3_groupOf_X3_mixedGroupOf
set_option maxRecDepth 20000 in
theorem ggX3_groupOf_X3_highGroupOf : GoodIn wsX3_groupOf wsX3_highGroupOf := goodIn_r _ [28] (by decide +kernel) (by decide +kernel)
set_option maxRecDepth 20000 in
theorem gX3_groupOf_X3_highGroupOf : GoodIn wsX3_groupOf (va_wsS RX3 22 yX3_highGroupOf wsX3_highGroupOf) := goodIn_app (goodIn_of _ (by decide +kernel)) ggX3_groupOf_X3_highGroupOf
theorem dX3_groupOf_0 : decode cX3_groupOf 0 = .ok (.iload_n 0, 1) := by decide +kernel
theorem dX3_groupOf_1 : decode cX3_groupOf 1 = .ok (.bipush 12, 2) := by decide +kernel
theorem dX3_groupOf_3 : decode cX3_groupOf 3 = .ok (.ishr, 1) := by decide +kernel
theorem dX3_groupOf_4 : decode cX3_groupOf 4 = .ok (.tableswitch 106 0 15 #[80, 85, 85, 106, 106, 106, 106, 106, 87, 90, 87, 95, 98, 98, 106, 101], 80) := by decide +kernel
theorem dX3_groupOf_84 : decode cX3_groupOf 84 = .ok (.iload_n 0, 1) := by decide +kernel
theorem dX3_groupOf_85 : decode cX3_groupOf 85 = .ok (.invokestatic 13, 3) := by decide +kernel
theorem dX3_groupOf_88 : decode cX3_groupOf 88 = .ok (.ireturn, 1) := by decide +kernel
theorem dX3_groupOf_89 : decode cX3_groupOf 89 = .ok (.iconst 4, 1) := by decide +kernel
theorem dX3_groupOf_90 : decode cX3_groupOf 90 = .ok (.ireturn, 1) := by decide +kernel
theorem dX3_groupOf_91 : decode cX3_groupOf 91 = .ok (.bipush 12, 2) := by decide +kernel
theorem dX3_groupOf_93 : decode cX3_groupOf 93 = .ok (.ireturn, 1) := by decide +kernel
theorem dX3_groupOf_94 : decode cX3_groupOf 94 = .ok (.iload_n 0, 1) := by decide +kernel
theorem dX3_groupOf_95 : decode cX3_groupOf 95 = .ok (.invokestatic 19, 3) := by decide +kernel
theorem dX3_groupOf_98 : decode cX3_groupOf 98 = .ok (.ireturn, 1) := by decide +kernel
theorem dX3_groupOf_99 : decode cX3_groupOf 99 = .ok (.bipush 14, 2) := by decide +kernel
theorem dX3_groupOf_101 : decode cX3_groupOf 101 = .ok (.ireturn, 1) := by decide +kernel
theorem dX3_groupOf_102 : decode cX3_groupOf 102 = .ok (.bipush 19, 2) := by decide +kernel
theorem dX3_groupOf_104 : decode cX3_groupOf 104 = .ok (.ireturn, 1) := by decide +kernel
theorem dX3_groupOf_105 : decode cX3_groupOf 105 = .ok (.iload_n 0, 1) := by decide +kernel
theorem dX3_groupOf_106 : decode cX3_groupOf 106 = .ok (.invokestatic 22, 3) := by decide +kernel
theorem dX3_groupOf_109 : decode cX3_groupOf 109 = .ok (.ireturn, 1) := by decide +kernel
theorem dX3_groupOf_110 : decode cX3_groupOf 110 = .ok (.iconst 5, 1) := by decide +kernel
theorem dX3_groupOf_111 : decode cX3_groupOf 111 = .ok (.ireturn, 1) := by decide +kernel
theorem dX3_lowGroupOf_0 : decode cX3_lowGroupOf 0 = .ok (.iload_n 0, 1) := by decide +kernel
theorem dX3_lowGroupOf_1 : decode cX3_lowGroupOf 1 = .ok (.ifCond .ne 5, 3) := by decide +kernel
theorem dX3_lowGroupOf_4 : decode cX3_lowGroupOf 4 = .ok (.iconst 1, 1) := by decide +kernel
theorem dX3_lowGroupOf_5 : decode cX3_lowGroupOf 5 = .ok (.ireturn, 1) := by decide +kernel
theorem dX3_lowGroupOf_6 : decode cX3_lowGroupOf 6 = .ok (.iload_n 0, 1) := by decide +kernel
theorem dX3_lowGroupOf_7 : decode cX3_lowGroupOf 7 = .ok (.bipush 8, 2) := by decide +kernel
theorem dX3_lowGroupOf_9 : decode cX3_lowGroupOf 9 = .ok (.ishr, 1) := by decide +kernel
theorem dX3_lowGroupOf_10 : decode cX3_lowGroupOf 10 = .ok (.tableswitch 36 0 3 #[30, 32, 34, 34], 30) := by decide +kernel
theorem dX3_lowGroupOf_40 : decode cX3_lowGroupOf 40 = .ok (.iconst 0, 1) := by decide +kernel
theorem dX3_lowGroupOf_41 : decode cX3_lowGroupOf 41 = .ok (.ireturn, 1) := by decide +kernel
theorem dX3_lowGroupOf_42 : decode cX3_lowGroupOf 42 = .ok (.iconst 2, 1) := by decide +kernel
theorem dX3_lowGroupOf_43 : decode cX3_lowGroupOf 43 = .ok (.ireturn, 1) := by decide +kernel
theorem dX3_lowGroupOf_44 : decode cX3_lowGroupOf 44 = .ok (.iconst 3, 1) := by decide +kernel
theorem dX3_lowGroupOf_45 : decode cX3_lowGroupOf 45 = .ok (.ireturn, 1) := by decide +kernel
theorem dX3_lowGroupOf_46 : decode cX3_lowGroupOf 46 = .ok (.iconst 4, 1) := by decide +kernel
theorem dX3_lowGroupOf_47 : decode cX3_lowGroupOf 47 = .ok (.ireturn, 1) := by decide +kernel
set_option maxRecDepth 20000 in
theorem ggX3_mixedGroupOf_X3_memoryGroupOf : GoodIn wsX3_mixedGroupOf wsX3_memoryGroupOf := goodIn_r _ [4, 5, 6, 3, 7, 8, 9, 10, 11, 12, 13] (by decide +kernel) (by decide +kernel)
set_option maxRecDepth 20000 in
theorem gX3_mixedGroupOf_X3_memoryGroupOf : GoodIn wsX3_mixedGroupOf (va_wsS RX3 25 yX3_memoryGroupOf wsX3_memoryGroupOf) := goodIn_app (goodIn_of _ (by decide +kernel)) ggX3_mixedGroupOf_X3_memoryGroupOf
set_option maxRecDepth 20000 in
theorem ggX3_mixedGroupOf_X3_singleGroupOf : GoodIn wsX3_mixedGroupOf wsX3_singleGroupOf := goodIn_r _ [16, 17, 18, 3, 19] (by decide +kernel) (by decide +kernel)
set_option maxRecDepth 20000 in
theorem gX3_mixedGroupOf_X3_singleGroupOf : GoodIn wsX3_mixedGroupOf (va_wsS RX3 28 yX3_singleGroupOf wsX3_singleGroupOf) := goodIn_app (goodIn_of _ (by decide +kernel)) ggX3_mixedGroupOf_X3_singleGroupOf
theorem dX3_mixedGroupOf_0 : decode cX3_mixedGroupOf 0 = .ok (.iload_n 0, 1) := by decide +kernel
theorem dX3_mixedGroupOf_1 : decode cX3_mixedGroupOf 1 = .ok (.bipush 8, 2) := by decide +kernel
theorem dX3_mixedGroupOf_3 : decode cX3_mixedGroupOf 3 = .ok (.ishr, 1) := by decide +kernel
theorem dX3_mixedGroupOf_4 : decode cX3_mixedGroupOf 4 = .ok (.bipush 15, 2) := by decide +kernel
theorem dX3_mixedGroupOf_6 : decode cX3_mixedGroupOf 6 = .ok (.iand, 1) := by decide +kernel
theorem dX3_mixedGroupOf_7 : decode cX3_mixedGroupOf 7 = .ok (.tableswitch 80 0 11 #[61, 61, 61, 61, 66, 66, 71, 71, 74, 77, 74, 77], 61) := by decide +kernel
theorem dX3_mixedGroupOf_68 : decode cX3_mixedGroupOf 68 = .ok (.iload_n 0, 1) := by decide +kernel
theorem dX3_mixedGroupOf_69 : decode cX3_mixedGroupOf 69 = .ok (.invokestatic 25, 3) := by decide +kernel
theorem dX3_mixedGroupOf_72 : decode cX3_mixedGroupOf 72 = .ok (.ireturn, 1) := by decide +kernel
theorem dX3_mixedGroupOf_73 : decode cX3_mixedGroupOf 73 = .ok (.iload_n 0, 1) := by decide +kernel
theorem dX3_mixedGroupOf_74 : decode cX3_mixedGroupOf 74 = .ok (.invokestatic 28, 3) := by decide +kernel
theorem dX3_mixedGroupOf_77 : decode cX3_mixedGroupOf 77 = .ok (.ireturn, 1) := by decide +kernel
theorem dX3_mixedGroupOf_78 : decode cX3_mixedGroupOf 78 = .ok (.bipush 8, 2) := by decide +kernel
theorem dX3_mixedGroupOf_80 : decode cX3_mixedGroupOf 80 = .ok (.ireturn, 1) := by decide +kernel
theorem dX3_mixedGroupOf_81 : decode cX3_mixedGroupOf 81 = .ok (.bipush 15, 2) := by decide +kernel
theorem dX3_mixedGroupOf_83 : decode cX3_mixedGroupOf 83 = .ok (.ireturn, 1) := by decide +kernel
theorem dX3_mixedGroupOf_84 : decode cX3_mixedGroupOf 84 = .ok (.bipush 16, 2) := by decide +kernel
theorem dX3_mixedGroupOf_86 : decode cX3_mixedGroupOf 86 = .ok (.ireturn, 1) := by decide +kernel
theorem dX3_mixedGroupOf_87 : decode cX3_mixedGroupOf 87 = .ok (.iconst 3, 1) := by decide +kernel
theorem dX3_mixedGroupOf_88 : decode cX3_mixedGroupOf 88 = .ok (.ireturn, 1) := by decide +kernel
set_option maxRecDepth 20000 in
theorem ggX3_memoryGroupOf_X3_d : GoodIn wsX3_memoryGroupOf wsX3_d := goodIn_r _ [4] (by decide +kernel) (by decide +kernel)
set_option maxRecDepth 20000 in
theorem gX3_memoryGroupOf_X3_d : GoodIn wsX3_memoryGroupOf (va_wsS RX3 31 yX3_d wsX3_d) := goodIn_app (goodIn_of _ (by decide +kernel)) ggX3_memoryGroupOf_X3_d
set_option maxRecDepth 20000 in
theorem ggX3_memoryGroupOf_X3_pointer : GoodIn wsX3_memoryGroupOf wsX3_pointer := goodIn_r _ [7] (by decide +kernel) (by decide +kernel)
set_option maxRecDepth 20000 in
theorem gX3_memoryGroupOf_X3_pointer : GoodIn wsX3_memoryGroupOf (va_wsS RX3 34 yX3_pointer wsX3_pointer) := goodIn_app (goodIn_of _ (by decide +kernel)) ggX3_memoryGroupOf_X3_pointer
set_option maxRecDepth 20000 in
theorem ggX3_memoryGroupOf_X3_isOneOf : GoodIn wsX3_memoryGroupOf wsX3_isOneOf := goodIn_r _ [10] (by decide +kernel) (by decide +kernel)
set_option maxRecDepth 20000 in
theorem gX3_memoryGroupOf_X3_isOneOf : GoodIn wsX3_memoryGroupOf (va_wsS RX3 37 yX3_isOneOf wsX3_isOneOf) := goodIn_app (goodIn_of _ (by decide +kernel)) ggX3_memoryGroupOf_X3_isOneOf
theorem dX3_memoryGroupOf_0 : decode cX3_memoryGroupOf 0 = .ok (.iload_n 0, 1) := by decide +kernel
theorem dX3_memoryGroupOf_1 : decode cX3_memoryGroupOf 1 = .ok (.bipush 15, 2) := by decide +kernel
theorem dX3_memoryGroupOf_3 : decode cX3_memoryGroupOf 3 = .ok (.iand, 1) := by decide +kernel
theorem dX3_memoryGroupOf_4 : decode cX3_memoryGroupOf 4 = .ok (.tableswitch 152 0 15 #[80, 83, 83, 152, 104, 119, 152, 152, 152, 83, 83, 152, 146, 83, 83, 149], 80) := by decide +kernel
theorem dX3_memoryGroupOf_84 : decode cX3_memoryGroupOf 84 = .ok (.bipush 9, 2) := by decide +kernel
theorem dX3_memoryGroupOf_86 : decode cX3_memoryGroupOf 86 = .ok (.ireturn, 1) := by decide +kernel
theorem dX3_memoryGroupOf_87 : decode cX3_memoryGroupOf 87 = .ok (.iload_n 0, 1) := by decide +kernel
theorem dX3_memoryGroupOf_88 : decode cX3_memoryGroupOf 88 = .ok (.invokestatic 31, 3) := by decide +kernel
theorem dX3_memoryGroupOf_91 : decode cX3_memoryGroupOf 91 = .ok (.iload_n 0, 1) := by decide +kernel
theorem dX3_memoryGroupOf_92 : decode cX3_memoryGroupOf 92 = .ok (.invokestatic 34, 3) := by decide +kernel
theorem dX3_memoryGroupOf_95 : decode cX3_memoryGroupOf 95 = .ok (.invokestatic 37, 3) := by decide +kernel
theorem dX3_memoryGroupOf_98 : decode cX3_memoryGroupOf 98 = .ok (.ifCond .eq 7, 3) := by decide +kernel
theorem dX3_memoryGroupOf_101 : decode cX3_memoryGroupOf 101 = .ok (.iconst 0, 1) := by decide +kernel
theorem dX3_memoryGroupOf_102 : decode cX3_memoryGroupOf 102 = .ok (.goto 5, 3) := by decide +kernel
theorem dX3_memoryGroupOf_105 : decode cX3_memoryGroupOf 105 = .ok (.bipush 10, 2) := by decide +kernel
theorem dX3_memoryGroupOf_107 : decode cX3_memoryGroupOf 107 = .ok (.ireturn, 1) := by decide +kernel
theorem dX3_memoryGroupOf_108 : decode cX3_memoryGroupOf 108 = .ok (.iload_n 0, 1) := by decide +kernel
theorem dX3_memoryGroupOf_109 : decode cX3_memoryGroupOf 109 = .ok (.sipush 512, 3) := by decide +kernel
theorem dX3_memoryGroupOf_112 : decode cX3_memoryGroupOf 112 = .ok (.iand, 1) := by decide +kernel
theorem dX3_memoryGroupOf_113 : decode cX3_memoryGroupOf 113 = .ok (.ifCond .ne 8, 3) := by decide +kernel
theorem dX3_memoryGroupOf_116 : decode cX3_memoryGroupOf 116 = .ok (.bipush 13, 2) := by decide +kernel
theorem dX3_memoryGroupOf_118 : decode cX3_memoryGroupOf 118 = .ok (.goto 4, 3) := by decide +kernel
theorem dX3_memoryGroupOf_121 : decode cX3_memoryGroupOf 121 = .ok (.iconst 0, 1) := by decide +kernel
theorem dX3_memoryGroupOf_122 : decode cX3_memoryGroupOf 122 = .ok (.ireturn, 1) := by decide +kernel
theorem dX3_memoryGroupOf_123 : decode cX3_memoryGroupOf 123 = .ok (.iload_n 0, 1) := by decide +kernel
theorem dX3_memoryGroupOf_124 : decode cX3_memoryGroupOf 124 = .ok (.sipush 512, 3) := by decide +kernel
theorem dX3_memoryGroupOf_127 : decode cX3_memoryGroupOf 127 = .ok (.iand, 1) := by decide +kernel
theorem dX3_memoryGroupOf_128 : decode cX3_memoryGroupOf 128 = .ok (.ifCond .ne 20, 3) := by decide +kernel
theorem dX3_memoryGroupOf_131 : decode cX3_memoryGroupOf 131 = .ok (.iload_n 0, 1) := by decide +kernel
theorem dX3_memoryGroupOf_132 : decode cX3_memoryGroupOf 132 = .ok (.invokestatic 31, 3) := by decide +kernel
theorem dX3_memoryGroupOf_135 : decode cX3_memoryGroupOf 135 = .ok (.bipush 30, 2) := by decide +kernel
theorem dX3_memoryGroupOf_137 : decode cX3_memoryGroupOf 137 = .ok (.invokestatic 37, 3) := by decide +kernel
theorem dX3_memoryGroupOf_140 : decode cX3_memoryGroupOf 140 = .ok (.ifCond .ne 8, 3) := by decide +kernel
theorem dX3_memoryGroupOf_143 : decode cX3_memoryGroupOf 143 = .ok (.bipush 13, 2) := by decide +kernel
theorem dX3_memoryGroupOf_145 : decode cX3_memoryGroupOf 145 = .ok (.goto 4, 3) := by decide +kernel
theorem dX3_memoryGroupOf_148 : decode cX3_memoryGroupOf 148 = .ok (.iconst 0, 1) := by decide +kernel
theorem dX3_memoryGroupOf_149 : decode cX3_memoryGroupOf 149 = .ok (.ireturn, 1) := by decide +kernel
theorem dX3_memoryGroupOf_150 : decode cX3_memoryGroupOf 150 = .ok (.bipush 10, 2) := by decide +kernel
theorem dX3_memoryGroupOf_152 : decode cX3_memoryGroupOf 152 = .ok (.ireturn, 1) := by decide +kernel
theorem dX3_memoryGroupOf_153 : decode cX3_memoryGroupOf 153 = .ok (.bipush 11, 2) := by decide +kernel
theorem dX3_memoryGroupOf_155 : decode cX3_memoryGroupOf 155 = .ok (.ireturn, 1) := by decide +kernel
theorem dX3_memoryGroupOf_156 : decode cX3_memoryGroupOf 156 = .ok (.iconst 0, 1) := by decide +kernel
theorem dX3_memoryGroupOf_157 : decode cX3_memoryGroupOf 157 = .ok (.ireturn, 1) := by decide +kernel
theorem dX3_isOneOf_0 : decode cX3_isOneOf 0 = .ok (.iload_n 0, 1) := by decide +kernel
theorem dX3_isOneOf_1 : decode cX3_isOneOf 1 = .ok (.bipush 30, 2) := by decide +kernel
theorem dX3_isOneOf_3 : decode cX3_isOneOf 3 = .ok (.iand, 1) := by decide +kernel
theorem dX3_isOneOf_4 : decode cX3_isOneOf 4 = .ok (.iload_n 1, 1) := by decide +kernel
theorem dX3_isOneOf_5 : decode cX3_isOneOf 5 = .ok (.if_icmp .ne 7, 3) := by decide +kernel
theorem dX3_isOneOf_8 : decode cX3_isOneOf 8 = .ok (.iconst 1, 1) := by decide +kernel
theorem dX3_isOneOf_9 : decode cX3_isOneOf 9 = .ok (.goto 4, 3) := by decide +kernel
theorem dX3_isOneOf_12 : decode cX3_isOneOf 12 = .ok (.iconst 0, 1) := by decide +kernel
theorem dX3_isOneOf_13 : decode cX3_isOneOf 13 = .ok (.ireturn, 1) := by decide +kernel
set_option maxRecDepth 20000 in
theorem ggX3_singleGroupOf_X3_flagGroupOf : GoodIn wsX3_singleGroupOf wsX3_flagGroupOf := goodIn_r _ [4] (by decide +kernel) (by decide +kernel)
set_option maxRecDepth 20000 in
theorem gX3_singleGroupOf_X3_flagGroupOf : GoodIn wsX3_singleGroupOf (va_wsS RX3 41 yX3_flagGroupOf wsX3_flagGroupOf) := goodIn_app (goodIn_of _ (by decide +kernel)) ggX3_singleGroupOf_X3_flagGroupOf
theorem dX3_singleGroupOf_0 : decode cX3_singleGroupOf 0 = .ok (.iload_n 0, 1) := by decide +kernel
theorem dX3_singleGroupOf_1 : decode cX3_singleGroupOf 1 = .ok (.bipush 15, 2) := by decide +kernel
theorem dX3_singleGroupOf_3 : decode cX3_singleGroupOf 3 = .ok (.iand, 1) := by decide +kernel
theorem dX3_singleGroupOf_4 : decode cX3_singleGroupOf 4 = .ok (.tableswitch 89 4 15 #[64, 89, 89, 89, 66, 71, 89, 64, 86, 86, 86, 86], 64) := by decide +kernel
theorem dX3_singleGroupOf_68 : decode cX3_singleGroupOf 68 = .ok (.iconst 0, 1) := by decide +kernel
theorem dX3_singleGroupOf_69 : decode cX3_singleGroupOf 69 = .ok (.ireturn, 1) := by decide +kernel
theorem dX3_singleGroupOf_70 : decode cX3_singleGroupOf 70 = .ok (.iload_n 0, 1) := by decide +kernel
theorem dX3_singleGroupOf_71 : decode cX3_singleGroupOf 71 = .ok (.invokestatic 41, 3) := by decide +kernel
theorem dX3_singleGroupOf_74 : decode cX3_singleGroupOf 74 = .ok (.ireturn, 1) := by decide +kernel
theorem dX3_singleGroupOf_75 : decode cX3_singleGroupOf 75 = .ok (.iload_n 0, 1) := by decide +kernel
theorem dX3_singleGroupOf_76 : decode cX3_singleGroupOf 76 = .ok (.sipush 240, 3) := by decide +kernel
theorem dX3_singleGroupOf_79 : decode cX3_singleGroupOf 79 = .ok (.iand, 1) := by decide +kernel
theorem dX3_singleGroupOf_80 : decode cX3_singleGroupOf 80 = .ok (.ifCond .ne 8, 3) := by decide +kernel
theorem dX3_singleGroupOf_83 : decode cX3_singleGroupOf 83 = .ok (.bipush 22, 2) := by decide +kernel
theorem dX3_singleGroupOf_85 : decode cX3_singleGroupOf 85 = .ok (.goto 4, 3) := by decide +kernel
theorem dX3_singleGroupOf_88 : decode cX3_singleGroupOf 88 = .ok (.iconst 0, 1) := by decide +kernel
theorem dX3_singleGroupOf_89 : decode cX3_singleGroupOf 89 = .ok (.ireturn, 1) := by decide +kernel
theorem dX3_singleGroupOf_90 : decode cX3_singleGroupOf 90 = .ok (.bipush 21, 2) := by decide +kernel
theorem dX3_singleGroupOf_92 : decode cX3_singleGroupOf 92 = .ok (.ireturn, 1) := by decide +kernel
theorem dX3_singleGroupOf_93 : decode cX3_singleGroupOf 93 = .ok (.bipush 6, 2) := by decide +kernel
theorem dX3_singleGroupOf_95 : decode cX3_singleGroupOf 95 = .ok (.ireturn, 1) := by decide +kernel
theorem dX3_flagGroupOf_0 : decode cX3_flagGroupOf 0 = .ok (.iload_n 0, 1) := by decide +kernel
theorem dX3_flagGroupOf_1 : decode cX3_flagGroupOf 1 = .ok (.sipush 256, 3) := by decide +kernel
theorem dX3_flagGroupOf_4 : decode cX3_flagGroupOf 4 = .ok (.iand, 1) := by decide +kernel
theorem dX3_flagGroupOf_5 : decode cX3_flagGroupOf 5 = .ok (.ifCond .ne 6, 3) := by decide +kernel
theorem dX3_flagGroupOf_8 : decode cX3_flagGroupOf 8 = .ok (.bipush 7, 2) := by decide +kernel
theorem dX3_flagGroupOf_10 : decode cX3_flagGroupOf 10 = .ok (.ireturn, 1) := by decide +kernel
theorem dX3_flagGroupOf_11 : decode cX3_flagGroupOf 11 = .ok (.iload_n 0, 1) := by decide +kernel
theorem dX3_flagGroupOf_12 : decode cX3_flagGroupOf 12 = .ok (.sipush 240, 3) := by decide +kernel
theorem dX3_flagGroupOf_15 : decode cX3_flagGroupOf 15 = .ok (.iand, 1) := by decide +kernel
theorem dX3_flagGroupOf_16 : decode cX3_flagGroupOf 16 = .ok (.lookupswitch 42 #[(0, 36), (16, 36), (192, 39)], 36) := by decide +kernel
theorem dX3_flagGroupOf_52 : decode cX3_flagGroupOf 52 = .ok (.bipush 23, 2) := by decide +kernel
theorem dX3_flagGroupOf_54 : decode cX3_flagGroupOf 54 = .ok (.ireturn, 1) := by decide +kernel
theorem dX3_flagGroupOf_55 : decode cX3_flagGroupOf 55 = .ok (.bipush 13, 2) := by decide +kernel
theorem dX3_flagGroupOf_57 : decode cX3_flagGroupOf 57 = .ok (.ireturn, 1) := by decide +kernel
theorem dX3_flagGroupOf_58 : decode cX3_flagGroupOf 58 = .ok (.iconst 0, 1) := by decide +kernel
theorem dX3_flagGroupOf_59 : decode cX3_flagGroupOf 59 = .ok (.ireturn, 1) := by decide +kernel
theorem dX3_highGroupOf_0 : decode cX3_highGroupOf 0 = .ok (.iload_n 0, 1) := by decide +kernel
theorem dX3_highGroupOf_1 : decode cX3_highGroupOf 1 = .ok (.sipush 2048, 3) := by decide +kernel
theorem dX3_highGroupOf_4 : decode cX3_highGroupOf 4 = .ok (.iand, 1) := by decide +kernel
theorem dX3_highGroupOf_5 : decode cX3_highGroupOf 5 = .ok (.ifCond .ne 6, 3) := by decide +kernel
theorem dX3_highGroupOf_8 : decode cX3_highGroupOf 8 = .ok (.bipush 20, 2) := by decide +kernel
theorem dX3_highGroupOf_10 : decode cX3_highGroupOf 10 = .ok (.ireturn, 1) := by decide +kernel
theorem dX3_highGroupOf_11 : decode cX3_highGroupOf 11 = .ok (.iload_n 0, 1) := by decide +kernel
theorem dX3_highGroupOf_12 : decode cX3_highGroupOf 12 = .ok (.bipush 8, 2) := by decide +kernel
theorem dX3_highGroupOf_14 : decode cX3_highGroupOf 14 = .ok (.iand, 1) := by decide +kernel
theorem dX3_highGroupOf_15 : decode cX3_highGroupOf 15 = .ok (.ifCond .eq 5, 3) := by decide +kernel
theorem dX3_highGroupOf_18 : decode cX3_highGroupOf 18 = .ok (.iconst 0, 1) := by decide +kernel
theorem dX3_highGroupOf_19 : decode cX3_highGroupOf 19 = .ok (.ireturn, 1) := by decide +kernel
theorem dX3_highGroupOf_20 : decode cX3_highGroupOf 20 = .ok (.iload_n 0, 1) := by decide +kernel
theorem dX3_highGroupOf_21 : decode cX3_highGroupOf 21 = .ok (.sipush 1024, 3) := by decide +kernel
theorem dX3_highGroupOf_24 : decode cX3_highGroupOf 24 = .ok (.iand, 1) := by decide +kernel
theorem dX3_highGroupOf_25 : decode cX3_highGroupOf 25 = .ok (.ifCond .ne 8, 3) := by decide +kernel
theorem dX3_highGroupOf_28 : decode cX3_highGroupOf 28 = .ok (.bipush 18, 2) := by decide +kernel
theorem dX3_highGroupOf_30 : decode cX3_highGroupOf 30 = .ok (.goto 5, 3) := by decide +kernel
theorem dX3_highGroupOf_33 : decode cX3_highGroupOf 33 = .ok (.bipush 17, 2) := by decide +kernel
theorem dX3_highGroupOf_35 : decode cX3_highGroupOf 35 = .ok (.ireturn, 1) := by decide +kernel
theorem dJ6_numberOfTrailingZeros_0f7a4_0 : decode cJ6_numberOfTrailingZeros_0f7a4 0 = .ok (.iload_n 0, 1) := by decide +kernel
theorem dJ6_numberOfTrailingZeros_0f7a4_1 : decode cJ6_numberOfTrailingZeros_0f7a4 1 = .ok (.iconst (-1), 1) := by decide +kernel
theorem dJ6_numberOfTrailingZeros_0f7a4_2 : decode cJ6_numberOfTrailingZeros_0f7a4 2 = .ok (.ixor, 1) := by decide +kernel
theorem dJ6_numberOfTrailingZeros_0f7a4_3 : decode cJ6_numberOfTrailingZeros_0f7a4 3 = .ok (.iload_n 0, 1) := by decide +kernel
theorem dJ6_numberOfTrailingZeros_0f7a4_4 : decode cJ6_numberOfTrailingZeros_0f7a4 4 = .ok (.iconst 1, 1) := by decide +kernel
theorem dJ6_numberOfTrailingZeros_0f7a4_5 : decode cJ6_numberOfTrailingZeros_0f7a4 5 = .ok (.isub, 1) := by decide +kernel
theorem dJ6_numberOfTrailingZeros_0f7a4_6 : decode cJ6_numberOfTrailingZeros_0f7a4 6 = .ok (.iand, 1) := by decide +kernel
theorem dJ6_numberOfTrailingZeros_0f7a4_7 : decode cJ6_numberOfTrailingZeros_0f7a4 7 = .ok (.istore_n 0, 1) := by decide +kernel
theorem dJ6_numberOfTrailingZeros_0f7a4_8 : decode cJ6_numberOfTrailingZeros_0f7a4 8 = .ok (.iload_n 0, 1) := by decide +kernel
theorem dJ6_numberOfTrailingZeros_0f7a4_9 : decode cJ6_numberOfTrailingZeros_0f7a4 9 = .ok (.ifCond .gt 8, 3) := by decide +kernel
theorem dJ6_numberOfTrailingZeros_0f7a4_12 : decode cJ6_numberOfTrailingZeros_0f7a4 12 = .ok (.iload_n 0, 1) := by decide +kernel
theorem dJ6_numberOfTrailingZeros_0f7a4_13 : decode cJ6_numberOfTrailingZeros_0f7a4 13 = .ok (.bipush 32, 2) := by decide +kernel
theorem dJ6_numberOfTrailingZeros_0f7a4_15 : decode cJ6_numberOfTrailingZeros_0f7a4 15 = .ok (.iand, 1) := by decide +kernel
theorem dJ6_numberOfTrailingZeros_0f7a4_16 : decode cJ6_numberOfTrailingZeros_0f7a4 16 = .ok (.ireturn, 1) := by decide +kernel
theorem dJ6_numberOfTrailingZeros_0f7a4_17 : decode cJ6_numberOfTrailingZeros_0f7a4 17 = .ok (.iconst 1, 1) := by decide +kernel
theorem dJ6_numberOfTrailingZeros_0f7a4_18 : decode cJ6_numberOfTrailingZeros_0f7a4 18 = .ok (.istore_n 1, 1) := by decide +kernel
theorem dJ6_numberOfTrailingZeros_0f7a4_19 : decode cJ6_numberOfTrailingZeros_0f7a4 19 = .ok (.iload_n 0, 1) := by decide +kernel
theorem dJ6_numberOfTrailingZeros_0f7a4_20 : decode cJ6_numberOfTrailingZeros_0f7a4 20 = .ok (.ldc_w 264, 3) := by decide +kernel
theorem dJ6_numberOfTrailingZeros_0f7a4_23 : decode cJ6_numberOfTrailingZeros_0f7a4 23 = .ok (.if_icmp .le 11, 3) := by decide +kernel
theorem dJ6_numberOfTrailingZeros_0f7a4_26 : decode cJ6_numberOfTrailingZeros_0f7a4 26 = .ok (.iinc 1 16, 3) := by decide +kernel
theorem dJ6_numberOfTrailingZeros_0f7a4_29 : decode cJ6_numberOfTrailingZeros_0f7a4 29 = .ok (.iload_n 0, 1) := by decide +kernel
theorem dJ6_numberOfTrailingZeros_0f7a4_30 : decode cJ6_numberOfTrailingZeros_0f7a4 30 = .ok (.bipush 16, 2) := by decide +kernel
theorem dJ6_numberOfTrailingZeros_0f7a4_32 : decode cJ6_numberOfTrailingZeros_0f7a4 32 = .ok (.iushr, 1) := by decide +kernel
theorem dJ6_numberOfTrailingZeros_0f7a4_33 : decode cJ6_numberOfTrailingZeros_0f7a4 33 = .ok (.istore_n 0, 1) := by decide +kernel
theorem dJ6_numberOfTrailingZeros_0f7a4_34 : decode cJ6_numberOfTrailingZeros_0f7a4 34 = .ok (.iload_n 0, 1) := by decide +kernel
theorem dJ6_numberOfTrailingZeros_0f7a4_35 : decode cJ6_numberOfTrailingZeros_0f7a4 35 = .ok (.sipush 256, 3) := by decide +kernel
theorem dJ6_numberOfTrailingZeros_0f7a4_38 : decode cJ6_numberOfTrailingZeros_0f7a4 38 = .ok (.if_icmp .le 11, 3) := by decide +kernel
theorem dJ6_numberOfTrailingZeros_0f7a4_41 : decode cJ6_numberOfTrailingZeros_0f7a4 41 = .ok (.iinc 1 8, 3) := by decide +kernel
theorem dJ6_numberOfTrailingZeros_0f7a4_44 : decode cJ6_numberOfTrailingZeros_0f7a4 44 = .ok (.iload_n 0, 1) := by decide +kernel
theorem dJ6_numberOfTrailingZeros_0f7a4_45 : decode cJ6_numberOfTrailingZeros_0f7a4 45 = .ok (.bipush 8, 2) := by decide +kernel
theorem dJ6_numberOfTrailingZeros_0f7a4_47 : decode cJ6_numberOfTrailingZeros_0f7a4 47 = .ok (.iushr, 1) := by decide +kernel
theorem dJ6_numberOfTrailingZeros_0f7a4_48 : decode cJ6_numberOfTrailingZeros_0f7a4 48 = .ok (.istore_n 0, 1) := by decide +kernel
theorem dJ6_numberOfTrailingZeros_0f7a4_49 : decode cJ6_numberOfTrailingZeros_0f7a4 49 = .ok (.iload_n 0, 1) := by decide +kernel
theorem dJ6_numberOfTrailingZeros_0f7a4_50 : decode cJ6_numberOfTrailingZeros_0f7a4 50 = .ok (.bipush 16, 2) := by decide +kernel
theorem dJ6_numberOfTrailingZeros_0f7a4_52 : decode cJ6_numberOfTrailingZeros_0f7a4 52 = .ok (.if_icmp .le 10, 3) := by decide +kernel
theorem dJ6_numberOfTrailingZeros_0f7a4_55 : decode cJ6_numberOfTrailingZeros_0f7a4 55 = .ok (.iinc 1 4, 3) := by decide +kernel
theorem dJ6_numberOfTrailingZeros_0f7a4_58 : decode cJ6_numberOfTrailingZeros_0f7a4 58 = .ok (.iload_n 0, 1) := by decide +kernel
theorem dJ6_numberOfTrailingZeros_0f7a4_59 : decode cJ6_numberOfTrailingZeros_0f7a4 59 = .ok (.iconst 4, 1) := by decide +kernel
theorem dJ6_numberOfTrailingZeros_0f7a4_60 : decode cJ6_numberOfTrailingZeros_0f7a4 60 = .ok (.iushr, 1) := by decide +kernel
theorem dJ6_numberOfTrailingZeros_0f7a4_61 : decode cJ6_numberOfTrailingZeros_0f7a4 61 = .ok (.istore_n 0, 1) := by decide +kernel
theorem dJ6_numberOfTrailingZeros_0f7a4_62 : decode cJ6_numberOfTrailingZeros_0f7a4 62 = .ok (.iload_n 0, 1) := by decide +kernel
theorem dJ6_numberOfTrailingZeros_0f7a4_63 : decode cJ6_numberOfTrailingZeros_0f7a4 63 = .ok (.iconst 4, 1) := by decide +kernel
theorem dJ6_numberOfTrailingZeros_0f7a4_64 : decode cJ6_numberOfTrailingZeros_0f7a4 64 = .ok (.if_icmp .le 10, 3) := by decide +kernel
theorem dJ6_numberOfTrailingZeros_0f7a4_67 : decode cJ6_numberOfTrailingZeros_0f7a4 67 = .ok (.iinc 1 2, 3) := by decide +kernel
theorem dJ6_numberOfTrailingZeros_0f7a4_70 : decode cJ6_numberOfTrailingZeros_0f7a4 70 = .ok (.iload_n 0, 1) := by decide +kernel
theorem dJ6_numberOfTrailingZeros_0f7a4_71 : decode cJ6_numberOfTrailingZeros_0f7a4 71 = .ok (.iconst 2, 1) := by decide +kernel
theorem dJ6_numberOfTrailingZeros_0f7a4_72 : decode cJ6_numberOfTrailingZeros_0f7a4 72 = .ok (.iushr, 1) := by decide +kernel
theorem dJ6_numberOfTrailingZeros_0f7a4_73 : decode cJ6_numberOfTrailingZeros_0f7a4 73 = .ok (.istore_n 0, 1) := by decide +kernel
theorem dJ6_numberOfTrailingZeros_0f7a4_74 : decode cJ6_numberOfTrailingZeros_0f7a4 74 = .ok (.iload_n 1, 1) := by decide +kernel
theorem dJ6_numberOfTrailingZeros_0f7a4_75 : decode cJ6_numberOfTrailingZeros_0f7a4 75 = .ok (.iload_n 0, 1) := by decide +kernel
theorem dJ6_numberOfTrailingZeros_0f7a4_76 : decode cJ6_numberOfTrailingZeros_0f7a4 76 = .ok (.iconst 1, 1) := by decide +kernel
theorem dJ6_numberOfTrailingZeros_0f7a4_77 : decode cJ6_numberOfTrailingZeros_0f7a4 77 = .ok (.iushr, 1) := by decide +kernel
theorem dJ6_numberOfTrailingZeros_0f7a4_78 : decode cJ6_numberOfTrailingZeros_0f7a4 78 = .ok (.iadd, 1) := by decide +kernel
theorem dJ6_numberOfTrailingZeros_0f7a4_79 : decode cJ6_numberOfTrailingZeros_0f7a4 79 = .ok (.ireturn, 1) := by decide +kernel
