theorem dX5_ofMemory_6 : decode cX5_ofMemory 6 = .ok (.bipush 15, 2) := by decide +kernel
theorem dX5_ofMemory_8 : decode cX5_ofMemory 8 = .ok (.iand, 1) := by decide +kernel
theorem dX5_ofMemory_9 : decode cX5_ofMemory 9 = .ok (.istore_n 3, 1) := by decide +kernel
theorem dX5_ofMemory_10 : decode cX5_ofMemory 10 = .ok (.iload_n 1, 1) := by decide +kernel
theorem dX5_ofMemory_11 : decode cX5_ofMemory 11 = .ok (.sipush 512, 3) := by decide +kernel
theorem dX5_ofMemory_14 : decode cX5_ofMemory 14 = .ok (.iand, 1) := by decide +kernel
theorem dX5_ofMemory_15 : decode cX5_ofMemory 15 = .ok (.ifCond .eq 7, 3) := by decide +kernel
theorem dX5_ofMemory_18 : decode cX5_ofMemory 18 = .ok (.iconst 1, 1) := by decide +kernel
theorem dX5_ofMemory_19 : decode cX5_ofMemory 19 = .ok (.goto 4, 3) := by decide +kernel
theorem dX5_ofMemory_22 : decode cX5_ofMemory 22 = .ok (.iconst 0, 1) := by decide +kernel
theorem dX5_ofMemory_23 : decode cX5_ofMemory 23 = .ok (.istore 4, 2) := by decide +kernel
theorem dX5_ofMemory_25 : decode cX5_ofMemory 25 = .ok (.iload_n 3, 1) := by decide +kernel
theorem dX5_ofMemory_26 : decode cX5_ofMemory 26 = .ok (.bipush 15, 2) := by decide +kernel
theorem dX5_ofMemory_28 : decode cX5_ofMemory 28 = .ok (.if_icmp .ne 9, 3) := by decide +kernel
theorem dX5_ofMemory_31 : decode cX5_ofMemory 31 = .ok (.aload_n 0, 1) := by decide +kernel
theorem dX5_ofMemory_32 : decode cX5_ofMemory 32 = .ok (.iload_n 1, 1) := by decide +kernel
theorem dX5_ofMemory_33 : decode cX5_ofMemory 33 = .ok (.invokevirtual 131, 3) := by decide +kernel
theorem dX5_ofMemory_36 : decode cX5_ofMemory 36 = .ok (.ireturn, 1) := by decide +kernel
theorem dX5_ofMemory_37 : decode cX5_ofMemory 37 = .ok (.iload_n 3, 1) := by decide +kernel
theorem dX5_ofMemory_38 : decode cX5_ofMemory 38 = .ok (.ifCond .ne 38, 3) := by decide +kernel
theorem dX5_ofMemory_41 : decode cX5_ofMemory 41 = .ok (.aload_n 0, 1) := by decide +kernel
theorem dX5_ofMemory_42 : decode cX5_ofMemory 42 = .ok (.getfield 7, 3) := by decide +kernel
theorem dX5_ofMemory_45 : decode cX5_ofMemory 45 = .ok (.aload_n 0, 1) := by decide +kernel
theorem dX5_ofMemory_46 : decode cX5_ofMemory 46 = .ok (.getfield 84, 3) := by decide +kernel
theorem dX5_ofMemory_49 : decode cX5_ofMemory 49 = .ok (.iaload, 1) := by decide +kernel
theorem dX5_ofMemory_50 : decode cX5_ofMemory 50 = .ok (.istore 5, 2) := by decide +kernel
theorem dX5_ofMemory_52 : decode cX5_ofMemory 52 = .ok (.aload_n 0, 1) := by decide +kernel
theorem dX5_ofMemory_53 : decode cX5_ofMemory 53 = .ok (.aload_n 0, 1) := by decide +kernel
theorem dX5_ofMemory_54 : decode cX5_ofMemory 54 = .ok (.getfield 84, 3) := by decide +kernel
theorem dX5_ofMemory_57 : decode cX5_ofMemory 57 = .ok (.iconst 1, 1) := by decide +kernel
theorem dX5_ofMemory_58 : decode cX5_ofMemory 58 = .ok (.iadd, 1) := by decide +kernel
theorem dX5_ofMemory_59 : decode cX5_ofMemory 59 = .ok (.sipush 1023, 3) := by decide +kernel
theorem dX5_ofMemory_62 : decode cX5_ofMemory 62 = .ok (.iand, 1) := by decide +kernel
theorem dX5_ofMemory_63 : decode cX5_ofMemory 63 = .ok (.putfield 84, 3) := by decide +kernel
theorem dX5_ofMemory_66 : decode cX5_ofMemory 66 = .ok (.aload_n 0, 1) := by decide +kernel
theorem dX5_ofMemory_67 : decode cX5_ofMemory 67 = .ok (.iload 5, 2) := by decide +kernel
theorem dX5_ofMemory_69 : decode cX5_ofMemory 69 = .ok (.iload_n 2, 1) := by decide +kernel
theorem dX5_ofMemory_70 : decode cX5_ofMemory 70 = .ok (.iload 4, 2) := by decide +kernel
theorem dX5_ofMemory_72 : decode cX5_ofMemory 72 = .ok (.invokevirtual 134, 3) := by decide +kernel
theorem dX5_ofMemory_75 : decode cX5_ofMemory 75 = .ok (.ireturn, 1) := by decide +kernel
theorem dX5_ofMemory_76 : decode cX5_ofMemory 76 = .ok (.iload_n 3, 1) := by decide +kernel
theorem dX5_ofMemory_77 : decode cX5_ofMemory 77 = .ok (.iconst 4, 1) := by decide +kernel
theorem dX5_ofMemory_78 : decode cX5_ofMemory 78 = .ok (.if_icmp .eq 8, 3) := by decide +kernel
theorem dX5_ofMemory_81 : decode cX5_ofMemory 81 = .ok (.iload_n 3, 1) := by decide +kernel
theorem dX5_ofMemory_82 : decode cX5_ofMemory 82 = .ok (.iconst 5, 1) := by decide +kernel
theorem dX5_ofMemory_83 : decode cX5_ofMemory 83 = .ok (.if_icmp .ne 43, 3) := by decide +kernel
theorem dX5_ofMemory_86 : decode cX5_ofMemory 86 = .ok (.aload_n 0, 1) := by decide +kernel
theorem dX5_ofMemory_87 : decode cX5_ofMemory 87 = .ok (.bipush 30, 2) := by decide +kernel
theorem dX5_ofMemory_89 : decode cX5_ofMemory 89 = .ok (.invokevirtual 28, 3) := by decide +kernel
theorem dX5_ofMemory_92 : decode cX5_ofMemory 92 = .ok (.istore 5, 2) := by decide +kernel
theorem dX5_ofMemory_94 : decode cX5_ofMemory 94 = .ok (.aload_n 0, 1) := by decide +kernel
theorem dX5_ofMemory_95 : decode cX5_ofMemory 95 = .ok (.getfield 13, 3) := by decide +kernel
theorem dX5_ofMemory_98 : decode cX5_ofMemory 98 = .ok (.iload_n 2, 1) := by decide +kernel
theorem dX5_ofMemory_99 : decode cX5_ofMemory 99 = .ok (.aload_n 0, 1) := by decide +kernel
theorem dX5_ofMemory_100 : decode cX5_ofMemory 100 = .ok (.iload 5, 2) := by decide +kernel
theorem dX5_ofMemory_102 : decode cX5_ofMemory 102 = .ok (.invokevirtual 138, 3) := by decide +kernel
theorem dX5_ofMemory_105 : decode cX5_ofMemory 105 = .ok (.iastore, 1) := by decide +kernel
theorem dX5_ofMemory_106 : decode cX5_ofMemory 106 = .ok (.iload_n 3, 1) := by decide +kernel
theorem dX5_ofMemory_107 : decode cX5_ofMemory 107 = .ok (.iconst 5, 1) := by decide +kernel
theorem dX5_ofMemory_108 : decode cX5_ofMemory 108 = .ok (.if_icmp .ne 16, 3) := by decide +kernel
theorem dX5_ofMemory_111 : decode cX5_ofMemory 111 = .ok (.aload_n 0, 1) := by decide +kernel
theorem dX5_ofMemory_112 : decode cX5_ofMemory 112 = .ok (.bipush 30, 2) := by decide +kernel
theorem dX5_ofMemory_114 : decode cX5_ofMemory 114 = .ok (.iload 5, 2) := by decide +kernel
theorem dX5_ofMemory_116 : decode cX5_ofMemory 116 = .ok (.iconst 1, 1) := by decide +kernel
theorem dX5_ofMemory_117 : decode cX5_ofMemory 117 = .ok (.iadd, 1) := by decide +kernel
theorem dX5_ofMemory_118 : decode cX5_ofMemory 118 = .ok (.ldc 27, 2) := by decide +kernel
theorem dX5_ofMemory_120 : decode cX5_ofMemory 120 = .ok (.iand, 1) := by decide +kernel
theorem dX5_ofMemory_121 : decode cX5_ofMemory 121 = .ok (.invokevirtual 106, 3) := by decide +kernel
theorem dX5_ofMemory_124 : decode cX5_ofMemory 124 = .ok (.iconst 0, 1) := by decide +kernel
theorem dX5_ofMemory_125 : decode cX5_ofMemory 125 = .ok (.ireturn, 1) := by decide +kernel
theorem dX5_ofMemory_126 : decode cX5_ofMemory 126 = .ok (.iload_n 3, 1) := by decide +kernel
theorem dX5_ofMemory_127 : decode cX5_ofMemory 127 = .ok (.bipush 12, 2) := by decide +kernel
theorem dX5_ofMemory_129 : decode cX5_ofMemory 129 = .ok (.if_icmp .ne 17, 3) := by decide +kernel
theorem dX5_ofMemory_132 : decode cX5_ofMemory 132 = .ok (.aload_n 0, 1) := by decide +kernel
theorem dX5_ofMemory_133 : decode cX5_ofMemory 133 = .ok (.aload_n 0, 1) := by decide +kernel
theorem dX5_ofMemory_134 : decode cX5_ofMemory 134 = .ok (.bipush 26, 2) := by decide +kernel
theorem dX5_ofMemory_136 : decode cX5_ofMemory 136 = .ok (.invokevirtual 28, 3) := by decide +kernel
theorem dX5_ofMemory_139 : decode cX5_ofMemory 139 = .ok (.iload_n 2, 1) := by decide +kernel
theorem dX5_ofMemory_140 : decode cX5_ofMemory 140 = .ok (.iload 4, 2) := by decide +kernel
theorem dX5_ofMemory_142 : decode cX5_ofMemory 142 = .ok (.invokevirtual 134, 3) := by decide +kernel
theorem dX5_ofMemory_145 : decode cX5_ofMemory 145 = .ok (.ireturn, 1) := by decide +kernel
theorem dX5_ofMemory_146 : decode cX5_ofMemory 146 = .ok (.iload_n 1, 1) := by decide +kernel
theorem dX5_ofMemory_147 : decode cX5_ofMemory 147 = .ok (.invokestatic 50, 3) := by decide +kernel
theorem dX5_ofMemory_150 : decode cX5_ofMemory 150 = .ok (.istore 5, 2) := by decide +kernel
theorem dX5_ofMemory_152 : decode cX5_ofMemory 152 = .ok (.aload_n 0, 1) := by decide +kernel
theorem dX5_ofMemory_153 : decode cX5_ofMemory 153 = .ok (.iload 5, 2) := by decide +kernel
theorem dX5_ofMemory_155 : decode cX5_ofMemory 155 = .ok (.invokevirtual 28, 3) := by decide +kernel
theorem dX5_ofMemory_158 : decode cX5_ofMemory 158 = .ok (.istore 6, 2) := by decide +kernel
theorem dX5_ofMemory_160 : decode cX5_ofMemory 160 = .ok (.iload_n 3, 1) := by decide +kernel
theorem dX5_ofMemory_161 : decode cX5_ofMemory 161 = .ok (.iconst 2, 1) := by decide +kernel
theorem dX5_ofMemory_162 : decode cX5_ofMemory 162 = .ok (.if_icmp .eq 15, 3) := by decide +kernel
theorem dX5_ofMemory_165 : decode cX5_ofMemory 165 = .ok (.iload_n 3, 1) := by decide +kernel
theorem dX5_ofMemory_166 : decode cX5_ofMemory 166 = .ok (.bipush 10, 2) := by decide +kernel
theorem dX5_ofMemory_168 : decode cX5_ofMemory 168 = .ok (.if_icmp .eq 9, 3) := by decide +kernel
theorem dX5_ofMemory_171 : decode cX5_ofMemory 171 = .ok (.iload_n 3, 1) := by decide +kernel
theorem dX5_ofMemory_172 : decode cX5_ofMemory 172 = .ok (.bipush 14, 2) := by decide +kernel
theorem dX5_ofMemory_174 : decode cX5_ofMemory 174 = .ok (.if_icmp .ne 7, 3) := by decide +kernel
theorem dX5_ofMemory_177 : decode cX5_ofMemory 177 = .ok (.iconst 1, 1) := by decide +kernel
theorem dX5_ofMemory_178 : decode cX5_ofMemory 178 = .ok (.goto 4, 3) := by decide +kernel
theorem dX5_ofMemory_181 : decode cX5_ofMemory 181 = .ok (.iconst 0, 1) := by decide +kernel
theorem dX5_ofMemory_182 : decode cX5_ofMemory 182 = .ok (.istore 7, 2) := by decide +kernel
theorem dX5_ofMemory_184 : decode cX5_ofMemory 184 = .ok (.iload 7, 2) := by decide +kernel
theorem dX5_ofMemory_186 : decode cX5_ofMemory 186 = .ok (.ifCond .eq 13, 3) := by decide +kernel
theorem dX5_ofMemory_189 : decode cX5_ofMemory 189 = .ok (.iload 6, 2) := by decide +kernel
theorem dX5_ofMemory_191 : decode cX5_ofMemory 191 = .ok (.iconst 1, 1) := by decide +kernel
theorem dX5_ofMemory_192 : decode cX5_ofMemory 192 = .ok (.isub, 1) := by decide +kernel
theorem dX5_ofMemory_193 : decode cX5_ofMemory 193 = .ok (.ldc 27, 2) := by decide +kernel
theorem dX5_ofMemory_195 : decode cX5_ofMemory 195 = .ok (.iand, 1) := by decide +kernel
theorem dX5_ofMemory_196 : decode cX5_ofMemory 196 = .ok (.goto 5, 3) := by decide +kernel
theorem dX5_ofMemory_199 : decode cX5_ofMemory 199 = .ok (.iload 6, 2) := by decide +kernel
theorem dX5_ofMemory_201 : decode cX5_ofMemory 201 = .ok (.istore 8, 2) := by decide +kernel
theorem dX5_ofMemory_203 : decode cX5_ofMemory 203 = .ok (.iload 8, 2) := by decide +kernel
theorem dX5_ofMemory_205 : decode cX5_ofMemory 205 = .ok (.invokestatic 121, 3) := by decide +kernel
theorem dX5_ofMemory_208 : decode cX5_ofMemory 208 = .ok (.ifCond .eq 5, 3) := by decide +kernel
theorem dX5_ofMemory_211 : decode cX5_ofMemory 211 = .ok (.iconst 3, 1) := by decide +kernel
theorem dX5_ofMemory_212 : decode cX5_ofMemory 212 = .ok (.ireturn, 1) := by decide +kernel
theorem dX5_ofMemory_213 : decode cX5_ofMemory 213 = .ok (.iload 7, 2) := by decide +kernel
theorem dX5_ofMemory_215 : decode cX5_ofMemory 215 = .ok (.ifCond .eq 11, 3) := by decide +kernel
theorem dX5_ofMemory_218 : decode cX5_ofMemory 218 = .ok (.aload_n 0, 1) := by decide +kernel
theorem dX5_ofMemory_219 : decode cX5_ofMemory 219 = .ok (.iload 5, 2) := by decide +kernel
theorem dX5_ofMemory_221 : decode cX5_ofMemory 221 = .ok (.iload 8, 2) := by decide +kernel
theorem dX5_ofMemory_223 : decode cX5_ofMemory 223 = .ok (.invokevirtual 106, 3) := by decide +kernel
theorem dX5_ofMemory_226 : decode cX5_ofMemory 226 = .ok (.aload_n 0, 1) := by decide +kernel
theorem dX5_ofMemory_227 : decode cX5_ofMemory 227 = .ok (.iload 8, 2) := by decide +kernel
theorem dX5_ofMemory_229 : decode cX5_ofMemory 229 = .ok (.iload_n 2, 1) := by decide +kernel
theorem dX5_ofMemory_230 : decode cX5_ofMemory 230 = .ok (.iload 4, 2) := by decide +kernel
theorem dX5_ofMemory_232 : decode cX5_ofMemory 232 = .ok (.invokevirtual 134, 3) := by decide +kernel
theorem dX5_ofMemory_235 : decode cX5_ofMemory 235 = .ok (.istore 9, 2) := by decide +kernel
theorem dX5_ofMemory_237 : decode cX5_ofMemory 237 = .ok (.iload 7, 2) := by decide +kernel
theorem dX5_ofMemory_239 : decode cX5_ofMemory 239 = .ok (.ifCond .ne 16, 3) := by decide +kernel
theorem dX5_ofMemory_242 : decode cX5_ofMemory 242 = .ok (.aload_n 0, 1) := by decide +kernel
theorem dX5_ofMemory_243 : decode cX5_ofMemory 243 = .ok (.iload 5, 2) := by decide +kernel
theorem dX5_ofMemory_245 : decode cX5_ofMemory 245 = .ok (.iload 6, 2) := by decide +kernel
theorem dX5_ofMemory_247 : decode cX5_ofMemory 247 = .ok (.iconst 1, 1) := by decide +kernel
theorem dX5_ofMemory_248 : decode cX5_ofMemory 248 = .ok (.iadd, 1) := by decide +kernel
theorem dX5_ofMemory_249 : decode cX5_ofMemory 249 = .ok (.ldc 27, 2) := by decide +kernel
theorem dX5_ofMemory_251 : decode cX5_ofMemory 251 = .ok (.iand, 1) := by decide +kernel
theorem dX5_ofMemory_252 : decode cX5_ofMemory 252 = .ok (.invokevirtual 106, 3) := by decide +kernel
theorem dX5_ofMemory_255 : decode cX5_ofMemory 255 = .ok (.iload 9, 2) := by decide +kernel
theorem dX5_ofMemory_257 : decode cX5_ofMemory 257 = .ok (.ireturn, 1) := by decide +kernel
set_option maxRecDepth 20000 in
theorem ggX5_ofPlaces_X5_pair : GoodIn wsX5_ofPlaces wsX5_pair := goodIn_r _ [6, 7, 18, 19, 20, 21, 22, 23, 24, 25] (by decide +kernel) (by decide +kernel)
set_option maxRecDepth 20000 in
theorem gX5_ofPlaces_X5_pair : GoodIn wsX5_ofPlaces (wsV RX5 28 RX5 yX5_pair wsX5_pair) := goodIn_app (goodIn_of _ (by decide +kernel)) ggX5_ofPlaces_X5_pair
set_option maxRecDepth 20000 in
theorem ggX5_ofPlaces_X5_dOf : GoodIn wsX5_ofPlaces wsX5_dOf := goodIn_r _ [10] (by decide +kernel) (by decide +kernel)
set_option maxRecDepth 20000 in
theorem gX5_ofPlaces_X5_dOf : GoodIn wsX5_ofPlaces (va_wsS RX5 53 yX5_dOf wsX5_dOf) := goodIn_app (goodIn_of _ (by decide +kernel)) ggX5_ofPlaces_X5_dOf
set_option maxRecDepth 20000 in
theorem ggX5_ofPlaces_X5_moves : GoodIn wsX5_ofPlaces wsX5_moves := goodIn_r _ [14, 7, 15, 16, 5, 17, 18, 19, 20, 21, 22, 23, 24, 25] (by decide +kernel) (by decide +kernel)
set_option maxRecDepth 20000 in
theorem gX5_ofPlaces_X5_moves : GoodIn wsX5_ofPlaces (wsV RX5 134 RX5 yX5_moves wsX5_moves) := goodIn_app (goodIn_of _ (by decide +kernel)) ggX5_ofPlaces_X5_moves
theorem dX5_ofPlaces_0 : decode cX5_ofPlaces 0 = .ok (.iload_n 1, 1) := by decide +kernel
theorem dX5_ofPlaces_1 : decode cX5_ofPlaces 1 = .ok (.bipush 8, 2) := by decide +kernel
theorem dX5_ofPlaces_3 : decode cX5_ofPlaces 3 = .ok (.ishr, 1) := by decide +kernel
theorem dX5_ofPlaces_4 : decode cX5_ofPlaces 4 = .ok (.bipush 32, 2) := by decide +kernel
theorem dX5_ofPlaces_6 : decode cX5_ofPlaces 6 = .ok (.iand, 1) := by decide +kernel
theorem dX5_ofPlaces_7 : decode cX5_ofPlaces 7 = .ok (.iload_n 1, 1) := by decide +kernel
theorem dX5_ofPlaces_8 : decode cX5_ofPlaces 8 = .ok (.bipush 7, 2) := by decide +kernel
theorem dX5_ofPlaces_10 : decode cX5_ofPlaces 10 = .ok (.ishr, 1) := by decide +kernel
theorem dX5_ofPlaces_11 : decode cX5_ofPlaces 11 = .ok (.bipush 24, 2) := by decide +kernel
theorem dX5_ofPlaces_13 : decode cX5_ofPlaces 13 = .ok (.iand, 1) := by decide +kernel
theorem dX5_ofPlaces_14 : decode cX5_ofPlaces 14 = .ok (.ior, 1) := by decide +kernel
theorem dX5_ofPlaces_15 : decode cX5_ofPlaces 15 = .ok (.iload_n 1, 1) := by decide +kernel
theorem dX5_ofPlaces_16 : decode cX5_ofPlaces 16 = .ok (.bipush 7, 2) := by decide +kernel
theorem dX5_ofPlaces_18 : decode cX5_ofPlaces 18 = .ok (.iand, 1) := by decide +kernel
theorem dX5_ofPlaces_19 : decode cX5_ofPlaces 19 = .ok (.ior, 1) := by decide +kernel
theorem dX5_ofPlaces_20 : decode cX5_ofPlaces 20 = .ok (.istore_n 2, 1) := by decide +kernel
theorem dX5_ofPlaces_21 : decode cX5_ofPlaces 21 = .ok (.aload_n 0, 1) := by decide +kernel
theorem dX5_ofPlaces_22 : decode cX5_ofPlaces 22 = .ok (.iload_n 1, 1) := by decide +kernel
theorem dX5_ofPlaces_23 : decode cX5_ofPlaces 23 = .ok (.bipush 8, 2) := by decide +kernel
theorem dX5_ofPlaces_25 : decode cX5_ofPlaces 25 = .ok (.iand, 1) := by decide +kernel
theorem dX5_ofPlaces_26 : decode cX5_ofPlaces 26 = .ok (.ifCond .eq 8, 3) := by decide +kernel
theorem dX5_ofPlaces_29 : decode cX5_ofPlaces 29 = .ok (.bipush 28, 2) := by decide +kernel
theorem dX5_ofPlaces_31 : decode cX5_ofPlaces 31 = .ok (.goto 5, 3) := by decide +kernel
theorem dX5_ofPlaces_34 : decode cX5_ofPlaces 34 = .ok (.bipush 30, 2) := by decide +kernel
theorem dX5_ofPlaces_36 : decode cX5_ofPlaces 36 = .ok (.invokevirtual 28, 3) := by decide +kernel
theorem dX5_ofPlaces_39 : decode cX5_ofPlaces 39 = .ok (.istore_n 3, 1) := by decide +kernel
theorem dX5_ofPlaces_40 : decode cX5_ofPlaces 40 = .ok (.aload_n 0, 1) := by decide +kernel
theorem dX5_ofPlaces_41 : decode cX5_ofPlaces 41 = .ok (.iload_n 3, 1) := by decide +kernel
theorem dX5_ofPlaces_42 : decode cX5_ofPlaces 42 = .ok (.iload_n 2, 1) := by decide +kernel
theorem dX5_ofPlaces_43 : decode cX5_ofPlaces 43 = .ok (.iadd, 1) := by decide +kernel
theorem dX5_ofPlaces_44 : decode cX5_ofPlaces 44 = .ok (.ldc 27, 2) := by decide +kernel
theorem dX5_ofPlaces_46 : decode cX5_ofPlaces 46 = .ok (.iand, 1) := by decide +kernel
theorem dX5_ofPlaces_47 : decode cX5_ofPlaces 47 = .ok (.iload_n 1, 1) := by decide +kernel
theorem dX5_ofPlaces_48 : decode cX5_ofPlaces 48 = .ok (.invokestatic 53, 3) := by decide +kernel
theorem dX5_ofPlaces_51 : decode cX5_ofPlaces 51 = .ok (.iload_n 1, 1) := by decide +kernel
theorem dX5_ofPlaces_52 : decode cX5_ofPlaces 52 = .ok (.sipush 512, 3) := by decide +kernel
theorem dX5_ofPlaces_55 : decode cX5_ofPlaces 55 = .ok (.iand, 1) := by decide +kernel
theorem dX5_ofPlaces_56 : decode cX5_ofPlaces 56 = .ok (.ifCond .eq 7, 3) := by decide +kernel
theorem dX5_ofPlaces_59 : decode cX5_ofPlaces 59 = .ok (.iconst 1, 1) := by decide +kernel
theorem dX5_ofPlaces_60 : decode cX5_ofPlaces 60 = .ok (.goto 4, 3) := by decide +kernel
theorem dX5_ofPlaces_63 : decode cX5_ofPlaces 63 = .ok (.iconst 0, 1) := by decide +kernel
theorem dX5_ofPlaces_64 : decode cX5_ofPlaces 64 = .ok (.invokevirtual 134, 3) := by decide +kernel
theorem dX5_ofPlaces_67 : decode cX5_ofPlaces 67 = .ok (.ireturn, 1) := by decide +kernel
set_option maxRecDepth 20000 in
theorem ggX5_ofPort_X5_dOf : GoodIn wsX5_ofPort wsX5_dOf := goodIn_r _ [5] (by decide +kernel) (by decide +kernel)
set_option maxRecDepth 20000 in
theorem gX5_ofPort_X5_dOf : GoodIn wsX5_ofPort (va_wsS RX5 53 yX5_dOf wsX5_dOf) := goodIn_app (goodIn_of _ (by decide +kernel)) ggX5_ofPort_X5_dOf
theorem dX5_ofPort_0 : decode cX5_ofPort 0 = .ok (.iload_n 1, 1) := by decide +kernel
theorem dX5_ofPort_1 : decode cX5_ofPort 1 = .ok (.iconst 5, 1) := by decide +kernel
theorem dX5_ofPort_2 : decode cX5_ofPort 2 = .ok (.ishr, 1) := by decide +kernel
theorem dX5_ofPort_3 : decode cX5_ofPort 3 = .ok (.bipush 48, 2) := by decide +kernel
theorem dX5_ofPort_5 : decode cX5_ofPort 5 = .ok (.iand, 1) := by decide +kernel
theorem dX5_ofPort_6 : decode cX5_ofPort 6 = .ok (.iload_n 1, 1) := by decide +kernel
theorem dX5_ofPort_7 : decode cX5_ofPort 7 = .ok (.bipush 15, 2) := by decide +kernel
theorem dX5_ofPort_9 : decode cX5_ofPort 9 = .ok (.iand, 1) := by decide +kernel
theorem dX5_ofPort_10 : decode cX5_ofPort 10 = .ok (.ior, 1) := by decide +kernel
theorem dX5_ofPort_11 : decode cX5_ofPort 11 = .ok (.istore_n 2, 1) := by decide +kernel
theorem dX5_ofPort_12 : decode cX5_ofPort 12 = .ok (.iload_n 1, 1) := by decide +kernel
theorem dX5_ofPort_13 : decode cX5_ofPort 13 = .ok (.sipush 2048, 3) := by decide +kernel
theorem dX5_ofPort_16 : decode cX5_ofPort 16 = .ok (.iand, 1) := by decide +kernel
theorem dX5_ofPort_17 : decode cX5_ofPort 17 = .ok (.ifCond .ne 24, 3) := by decide +kernel
theorem dX5_ofPort_20 : decode cX5_ofPort 20 = .ok (.aload_n 0, 1) := by decide +kernel
theorem dX5_ofPort_21 : decode cX5_ofPort 21 = .ok (.getfield 13, 3) := by decide +kernel
theorem dX5_ofPort_24 : decode cX5_ofPort 24 = .ok (.iload_n 1, 1) := by decide +kernel
theorem dX5_ofPort_25 : decode cX5_ofPort 25 = .ok (.invokestatic 53, 3) := by decide +kernel
theorem dX5_ofPort_28 : decode cX5_ofPort 28 = .ok (.aload_n 0, 1) := by decide +kernel
theorem dX5_ofPort_29 : decode cX5_ofPort 29 = .ok (.getfield 13, 3) := by decide +kernel
theorem dX5_ofPort_32 : decode cX5_ofPort 32 = .ok (.bipush 32, 2) := by decide +kernel
theorem dX5_ofPort_34 : decode cX5_ofPort 34 = .ok (.iload_n 2, 1) := by decide +kernel
theorem dX5_ofPort_35 : decode cX5_ofPort 35 = .ok (.iadd, 1) := by decide +kernel
theorem dX5_ofPort_36 : decode cX5_ofPort 36 = .ok (.iaload, 1) := by decide +kernel
theorem dX5_ofPort_37 : decode cX5_ofPort 37 = .ok (.iastore, 1) := by decide +kernel
theorem dX5_ofPort_38 : decode cX5_ofPort 38 = .ok (.goto 21, 3) := by decide +kernel
theorem dX5_ofPort_41 : decode cX5_ofPort 41 = .ok (.aload_n 0, 1) := by decide +kernel
theorem dX5_ofPort_42 : decode cX5_ofPort 42 = .ok (.getfield 13, 3) := by decide +kernel
theorem dX5_ofPort_45 : decode cX5_ofPort 45 = .ok (.bipush 32, 2) := by decide +kernel
theorem dX5_ofPort_47 : decode cX5_ofPort 47 = .ok (.iload_n 2, 1) := by decide +kernel
theorem dX5_ofPort_48 : decode cX5_ofPort 48 = .ok (.iadd, 1) := by decide +kernel
theorem dX5_ofPort_49 : decode cX5_ofPort 49 = .ok (.aload_n 0, 1) := by decide +kernel
theorem dX5_ofPort_50 : decode cX5_ofPort 50 = .ok (.getfield 13, 3) := by decide +kernel
theorem dX5_ofPort_53 : decode cX5_ofPort 53 = .ok (.iload_n 1, 1) := by decide +kernel
theorem dX5_ofPort_54 : decode cX5_ofPort 54 = .ok (.invokestatic 53, 3) := by decide +kernel
theorem dX5_ofPort_57 : decode cX5_ofPort 57 = .ok (.iaload, 1) := by decide +kernel
theorem dX5_ofPort_58 : decode cX5_ofPort 58 = .ok (.iastore, 1) := by decide +kernel
theorem dX5_ofPort_59 : decode cX5_ofPort 59 = .ok (.return_, 1) := by decide +kernel
set_option maxRecDepth 20000 in
theorem ggX5_ofPortBit_X5_skips : GoodIn wsX5_ofPortBit wsX5_skips := goodIn_r _ [6, 7, 8, 9, 10, 11, 5, 12, 13, 14, 15, 16, 17, 18, 19, 20, 21, 22, 23, 24, 25, 26, 27, 28, 29, 30] (by decide +kernel) (by decide +kernel)
set_option maxRecDepth 20000 in
theorem gX5_ofPortBit_X5_skips : GoodIn wsX5_ofPortBit (wsV RX5 99 RX5 yX5_skips wsX5_skips) := goodIn_app (goodIn_of _ (by decide +kernel)) ggX5_ofPortBit_X5_skips
theorem dX5_ofPortBit_0 : decode cX5_ofPortBit 0 = .ok (.bipush 32, 2) := by decide +kernel
theorem dX5_ofPortBit_2 : decode cX5_ofPortBit 2 = .ok (.iload_n 1, 1) := by decide +kernel
theorem dX5_ofPortBit_3 : decode cX5_ofPortBit 3 = .ok (.iconst 3, 1) := by decide +kernel
theorem dX5_ofPortBit_4 : decode cX5_ofPortBit 4 = .ok (.ishr, 1) := by decide +kernel
theorem dX5_ofPortBit_5 : decode cX5_ofPortBit 5 = .ok (.bipush 31, 2) := by decide +kernel
theorem dX5_ofPortBit_7 : decode cX5_ofPortBit 7 = .ok (.iand, 1) := by decide +kernel
theorem dX5_ofPortBit_8 : decode cX5_ofPortBit 8 = .ok (.iadd, 1) := by decide +kernel
theorem dX5_ofPortBit_9 : decode cX5_ofPortBit 9 = .ok (.istore_n 2, 1) := by decide +kernel
theorem dX5_ofPortBit_10 : decode cX5_ofPortBit 10 = .ok (.iconst 1, 1) := by decide +kernel
theorem dX5_ofPortBit_11 : decode cX5_ofPortBit 11 = .ok (.iload_n 1, 1) := by decide +kernel
theorem dX5_ofPortBit_12 : decode cX5_ofPortBit 12 = .ok (.bipush 7, 2) := by decide +kernel
theorem dX5_ofPortBit_14 : decode cX5_ofPortBit 14 = .ok (.iand, 1) := by decide +kernel
theorem dX5_ofPortBit_15 : decode cX5_ofPortBit 15 = .ok (.ishl, 1) := by decide +kernel
theorem dX5_ofPortBit_16 : decode cX5_ofPortBit 16 = .ok (.istore_n 3, 1) := by decide +kernel
theorem dX5_ofPortBit_17 : decode cX5_ofPortBit 17 = .ok (.aload_n 0, 1) := by decide +kernel
theorem dX5_ofPortBit_18 : decode cX5_ofPortBit 18 = .ok (.getfield 13, 3) := by decide +kernel
theorem dX5_ofPortBit_21 : decode cX5_ofPortBit 21 = .ok (.iload_n 2, 1) := by decide +kernel
theorem dX5_ofPortBit_22 : decode cX5_ofPortBit 22 = .ok (.iaload, 1) := by decide +kernel
theorem dX5_ofPortBit_23 : decode cX5_ofPortBit 23 = .ok (.iload_n 3, 1) := by decide +kernel
theorem dX5_ofPortBit_24 : decode cX5_ofPortBit 24 = .ok (.iand, 1) := by decide +kernel
theorem dX5_ofPortBit_25 : decode cX5_ofPortBit 25 = .ok (.ifCond .eq 7, 3) := by decide +kernel
theorem dX5_ofPortBit_28 : decode cX5_ofPortBit 28 = .ok (.iconst 1, 1) := by decide +kernel
theorem dX5_ofPortBit_29 : decode cX5_ofPortBit 29 = .ok (.goto 4, 3) := by decide +kernel
theorem dX5_ofPortBit_32 : decode cX5_ofPortBit 32 = .ok (.iconst 0, 1) := by decide +kernel
theorem dX5_ofPortBit_33 : decode cX5_ofPortBit 33 = .ok (.istore 4, 2) := by decide +kernel
theorem dX5_ofPortBit_35 : decode cX5_ofPortBit 35 = .ok (.iload_n 1, 1) := by decide +kernel
theorem dX5_ofPortBit_36 : decode cX5_ofPortBit 36 = .ok (.bipush 8, 2) := by decide +kernel
theorem dX5_ofPortBit_38 : decode cX5_ofPortBit 38 = .ok (.ishr, 1) := by decide +kernel
theorem dX5_ofPortBit_39 : decode cX5_ofPortBit 39 = .ok (.iconst 3, 1) := by decide +kernel
theorem dX5_ofPortBit_40 : decode cX5_ofPortBit 40 = .ok (.iand, 1) := by decide +kernel
theorem dX5_ofPortBit_41 : decode cX5_ofPortBit 41 = .ok (.tableswitch 72 0 2 #[27, 42, 59], 27) := by decide +kernel
theorem dX5_ofPortBit_68 : decode cX5_ofPortBit 68 = .ok (.aload_n 0, 1) := by decide +kernel
theorem dX5_ofPortBit_69 : decode cX5_ofPortBit 69 = .ok (.getfield 13, 3) := by decide +kernel
theorem dX5_ofPortBit_72 : decode cX5_ofPortBit 72 = .ok (.iload_n 2, 1) := by decide +kernel
theorem dX5_ofPortBit_73 : decode cX5_ofPortBit 73 = .ok (.dup2, 1) := by decide +kernel
theorem dX5_ofPortBit_74 : decode cX5_ofPortBit 74 = .ok (.iaload, 1) := by decide +kernel
theorem dX5_ofPortBit_75 : decode cX5_ofPortBit 75 = .ok (.iload_n 3, 1) := by decide +kernel
theorem dX5_ofPortBit_76 : decode cX5_ofPortBit 76 = .ok (.iconst (-1), 1) := by decide +kernel
theorem dX5_ofPortBit_77 : decode cX5_ofPortBit 77 = .ok (.ixor, 1) := by decide +kernel
theorem dX5_ofPortBit_78 : decode cX5_ofPortBit 78 = .ok (.iand, 1) := by decide +kernel
theorem dX5_ofPortBit_79 : decode cX5_ofPortBit 79 = .ok (.iastore, 1) := by decide +kernel
theorem dX5_ofPortBit_80 : decode cX5_ofPortBit 80 = .ok (.goto 39, 3) := by decide +kernel
theorem dX5_ofPortBit_83 : decode cX5_ofPortBit 83 = .ok (.aload_n 0, 1) := by decide +kernel
theorem dX5_ofPortBit_84 : decode cX5_ofPortBit 84 = .ok (.iload 4, 2) := by decide +kernel
theorem dX5_ofPortBit_86 : decode cX5_ofPortBit 86 = .ok (.ifCond .ne 7, 3) := by decide +kernel
theorem dX5_ofPortBit_89 : decode cX5_ofPortBit 89 = .ok (.iconst 1, 1) := by decide +kernel
theorem dX5_ofPortBit_90 : decode cX5_ofPortBit 90 = .ok (.goto 4, 3) := by decide +kernel
theorem dX5_ofPortBit_93 : decode cX5_ofPortBit 93 = .ok (.iconst 0, 1) := by decide +kernel
theorem dX5_ofPortBit_94 : decode cX5_ofPortBit 94 = .ok (.invokevirtual 99, 3) := by decide +kernel
theorem dX5_ofPortBit_97 : decode cX5_ofPortBit 97 = .ok (.goto 22, 3) := by decide +kernel
theorem dX5_ofPortBit_100 : decode cX5_ofPortBit 100 = .ok (.aload_n 0, 1) := by decide +kernel
theorem dX5_ofPortBit_101 : decode cX5_ofPortBit 101 = .ok (.getfield 13, 3) := by decide +kernel
theorem dX5_ofPortBit_104 : decode cX5_ofPortBit 104 = .ok (.iload_n 2, 1) := by decide +kernel
theorem dX5_ofPortBit_105 : decode cX5_ofPortBit 105 = .ok (.dup2, 1) := by decide +kernel
theorem dX5_ofPortBit_106 : decode cX5_ofPortBit 106 = .ok (.iaload, 1) := by decide +kernel
theorem dX5_ofPortBit_107 : decode cX5_ofPortBit 107 = .ok (.iload_n 3, 1) := by decide +kernel
theorem dX5_ofPortBit_108 : decode cX5_ofPortBit 108 = .ok (.ior, 1) := by decide +kernel
theorem dX5_ofPortBit_109 : decode cX5_ofPortBit 109 = .ok (.iastore, 1) := by decide +kernel
theorem dX5_ofPortBit_110 : decode cX5_ofPortBit 110 = .ok (.goto 9, 3) := by decide +kernel
theorem dX5_ofPortBit_113 : decode cX5_ofPortBit 113 = .ok (.aload_n 0, 1) := by decide +kernel
theorem dX5_ofPortBit_114 : decode cX5_ofPortBit 114 = .ok (.iload 4, 2) := by decide +kernel
theorem dX5_ofPortBit_116 : decode cX5_ofPortBit 116 = .ok (.invokevirtual 99, 3) := by decide +kernel
theorem dX5_ofPortBit_119 : decode cX5_ofPortBit 119 = .ok (.return_, 1) := by decide +kernel
set_option maxRecDepth 20000 in
theorem ggX5_ofBit_X5_dOf : GoodIn wsX5_ofBit wsX5_dOf := goodIn_r _ [5] (by decide +kernel) (by decide +kernel)
set_option maxRecDepth 20000 in
theorem gX5_ofBit_X5_dOf : GoodIn wsX5_ofBit (va_wsS RX5 53 yX5_dOf wsX5_dOf) := goodIn_app (goodIn_of _ (by decide +kernel)) ggX5_ofBit_X5_dOf
set_option maxRecDepth 20000 in
theorem ggX5_ofBit_X5_has : GoodIn wsX5_ofBit wsX5_has := goodIn_r _ [9, 1, 34, 35, 36, 37, 38, 39, 40, 41] (by decide +kernel) (by decide +kernel)
set_option maxRecDepth 20000 in
theorem gX5_ofBit_X5_has : GoodIn wsX5_ofBit (wsV RX5 81 RX5 yX5_has wsX5_has) := goodIn_app (goodIn_of _ (by decide +kernel)) ggX5_ofBit_X5_has
set_option maxRecDepth 20000 in
theorem ggX5_ofBit_X5_flag : GoodIn wsX5_ofBit wsX5_flag := goodIn_r _ [13, 1, 34, 35, 36, 37, 38, 39, 40, 41] (by decide +kernel) (by decide +kernel)
set_option maxRecDepth 20000 in
theorem gX5_ofBit_X5_flag : GoodIn wsX5_ofBit (wsV RX5 74 RX5 yX5_flag wsX5_flag) := goodIn_app (goodIn_of _ (by decide +kernel)) ggX5_ofBit_X5_flag
set_option maxRecDepth 20000 in
theorem ggX5_ofBit_X5_skips : GoodIn wsX5_ofBit wsX5_skips := goodIn_r _ [17, 18, 19, 20, 21, 22, 4, 23, 24, 25, 26, 27, 28, 29, 30, 31, 32, 33, 34, 35, 36, 37, 38, 39, 40, 41] (by decide +kernel) (by decide +kernel)
set_option maxRecDepth 20000 in
theorem gX5_ofBit_X5_skips : GoodIn wsX5_ofBit (wsV RX5 99 RX5 yX5_skips wsX5_skips) := goodIn_app (goodIn_of _ (by decide +kernel)) ggX5_ofBit_X5_skips
theorem dX5_ofBit_0 : decode cX5_ofBit 0 = .ok (.iload_n 1, 1) := by decide +kernel
theorem dX5_ofBit_1 : decode cX5_ofBit 1 = .ok (.invokestatic 53, 3) := by decide +kernel
theorem dX5_ofBit_4 : decode cX5_ofBit 4 = .ok (.istore_n 2, 1) := by decide +kernel
theorem dX5_ofBit_5 : decode cX5_ofBit 5 = .ok (.iconst 1, 1) := by decide +kernel
theorem dX5_ofBit_6 : decode cX5_ofBit 6 = .ok (.iload_n 1, 1) := by decide +kernel
theorem dX5_ofBit_7 : decode cX5_ofBit 7 = .ok (.bipush 7, 2) := by decide +kernel
theorem dX5_ofBit_9 : decode cX5_ofBit 9 = .ok (.iand, 1) := by decide +kernel
theorem dX5_ofBit_10 : decode cX5_ofBit 10 = .ok (.ishl, 1) := by decide +kernel
theorem dX5_ofBit_11 : decode cX5_ofBit 11 = .ok (.istore_n 3, 1) := by decide +kernel
theorem dX5_ofBit_12 : decode cX5_ofBit 12 = .ok (.aload_n 0, 1) := by decide +kernel
theorem dX5_ofBit_13 : decode cX5_ofBit 13 = .ok (.getfield 13, 3) := by decide +kernel
theorem dX5_ofBit_16 : decode cX5_ofBit 16 = .ok (.iload_n 2, 1) := by decide +kernel
theorem dX5_ofBit_17 : decode cX5_ofBit 17 = .ok (.iaload, 1) := by decide +kernel
theorem dX5_ofBit_18 : decode cX5_ofBit 18 = .ok (.iload_n 3, 1) := by decide +kernel
theorem dX5_ofBit_19 : decode cX5_ofBit 19 = .ok (.iand, 1) := by decide +kernel
theorem dX5_ofBit_20 : decode cX5_ofBit 20 = .ok (.ifCond .eq 7, 3) := by decide +kernel
theorem dX5_ofBit_23 : decode cX5_ofBit 23 = .ok (.iconst 1, 1) := by decide +kernel
theorem dX5_ofBit_24 : decode cX5_ofBit 24 = .ok (.goto 4, 3) := by decide +kernel
theorem dX5_ofBit_27 : decode cX5_ofBit 27 = .ok (.iconst 0, 1) := by decide +kernel
theorem dX5_ofBit_28 : decode cX5_ofBit 28 = .ok (.istore 4, 2) := by decide +kernel
theorem dX5_ofBit_30 : decode cX5_ofBit 30 = .ok (.iload_n 1, 1) := by decide +kernel
theorem dX5_ofBit_31 : decode cX5_ofBit 31 = .ok (.bipush 9, 2) := by decide +kernel
theorem dX5_ofBit_33 : decode cX5_ofBit 33 = .ok (.ishr, 1) := by decide +kernel
theorem dX5_ofBit_34 : decode cX5_ofBit 34 = .ok (.iconst 3, 1) := by decide +kernel
theorem dX5_ofBit_35 : decode cX5_ofBit 35 = .ok (.iand, 1) := by decide +kernel
theorem dX5_ofBit_36 : decode cX5_ofBit 36 = .ok (.tableswitch 95 0 2 #[28, 67, 78], 28) := by decide +kernel
theorem dX5_ofBit_64 : decode cX5_ofBit 64 = .ok (.aload_n 0, 1) := by decide +kernel
theorem dX5_ofBit_65 : decode cX5_ofBit 65 = .ok (.getfield 13, 3) := by decide +kernel
theorem dX5_ofBit_68 : decode cX5_ofBit 68 = .ok (.iload_n 2, 1) := by decide +kernel
theorem dX5_ofBit_69 : decode cX5_ofBit 69 = .ok (.aload_n 0, 1) := by decide +kernel
theorem dX5_ofBit_70 : decode cX5_ofBit 70 = .ok (.bipush 64, 2) := by decide +kernel
theorem dX5_ofBit_72 : decode cX5_ofBit 72 = .ok (.invokevirtual 81, 3) := by decide +kernel
theorem dX5_ofBit_75 : decode cX5_ofBit 75 = .ok (.ifCond .eq 14, 3) := by decide +kernel
theorem dX5_ofBit_78 : decode cX5_ofBit 78 = .ok (.aload_n 0, 1) := by decide +kernel
theorem dX5_ofBit_79 : decode cX5_ofBit 79 = .ok (.getfield 13, 3) := by decide +kernel
theorem dX5_ofBit_82 : decode cX5_ofBit 82 = .ok (.iload_n 2, 1) := by decide +kernel
theorem dX5_ofBit_83 : decode cX5_ofBit 83 = .ok (.iaload, 1) := by decide +kernel
theorem dX5_ofBit_84 : decode cX5_ofBit 84 = .ok (.iload_n 3, 1) := by decide +kernel
theorem dX5_ofBit_85 : decode cX5_ofBit 85 = .ok (.ior, 1) := by decide +kernel
theorem dX5_ofBit_86 : decode cX5_ofBit 86 = .ok (.goto 13, 3) := by decide +kernel
theorem dX5_ofBit_89 : decode cX5_ofBit 89 = .ok (.aload_n 0, 1) := by decide +kernel
theorem dX5_ofBit_90 : decode cX5_ofBit 90 = .ok (.getfield 13, 3) := by decide +kernel
theorem dX5_ofBit_93 : decode cX5_ofBit 93 = .ok (.iload_n 2, 1) := by decide +kernel
theorem dX5_ofBit_94 : decode cX5_ofBit 94 = .ok (.iaload, 1) := by decide +kernel
theorem dX5_ofBit_95 : decode cX5_ofBit 95 = .ok (.iload_n 3, 1) := by decide +kernel
theorem dX5_ofBit_96 : decode cX5_ofBit 96 = .ok (.iconst (-1), 1) := by decide +kernel
theorem dX5_ofBit_97 : decode cX5_ofBit 97 = .ok (.ixor, 1) := by decide +kernel
theorem dX5_ofBit_98 : decode cX5_ofBit 98 = .ok (.iand, 1) := by decide +kernel
theorem dX5_ofBit_99 : decode cX5_ofBit 99 = .ok (.iastore, 1) := by decide +kernel
theorem dX5_ofBit_100 : decode cX5_ofBit 100 = .ok (.goto 37, 3) := by decide +kernel
theorem dX5_ofBit_103 : decode cX5_ofBit 103 = .ok (.aload_n 0, 1) := by decide +kernel
theorem dX5_ofBit_104 : decode cX5_ofBit 104 = .ok (.bipush 64, 2) := by decide +kernel
theorem dX5_ofBit_106 : decode cX5_ofBit 106 = .ok (.iload 4, 2) := by decide +kernel
theorem dX5_ofBit_108 : decode cX5_ofBit 108 = .ok (.invokevirtual 74, 3) := by decide +kernel
theorem dX5_ofBit_111 : decode cX5_ofBit 111 = .ok (.goto 26, 3) := by decide +kernel
theorem dX5_ofBit_114 : decode cX5_ofBit 114 = .ok (.aload_n 0, 1) := by decide +kernel
theorem dX5_ofBit_115 : decode cX5_ofBit 115 = .ok (.iload 4, 2) := by decide +kernel
theorem dX5_ofBit_117 : decode cX5_ofBit 117 = .ok (.ifCond .ne 7, 3) := by decide +kernel
theorem dX5_ofBit_120 : decode cX5_ofBit 120 = .ok (.iconst 1, 1) := by decide +kernel
theorem dX5_ofBit_121 : decode cX5_ofBit 121 = .ok (.goto 4, 3) := by decide +kernel
theorem dX5_ofBit_124 : decode cX5_ofBit 124 = .ok (.iconst 0, 1) := by decide +kernel
theorem dX5_ofBit_125 : decode cX5_ofBit 125 = .ok (.invokevirtual 99, 3) := by decide +kernel
theorem dX5_ofBit_128 : decode cX5_ofBit 128 = .ok (.goto 9, 3) := by decide +kernel
theorem dX5_ofBit_131 : decode cX5_ofBit 131 = .ok (.aload_n 0, 1) := by decide +kernel
theorem dX5_ofBit_132 : decode cX5_ofBit 132 = .ok (.iload 4, 2) := by decide +kernel
theorem dX5_ofBit_134 : decode cX5_ofBit 134 = .ok (.invokevirtual 99, 3) := by decide +kernel
theorem dX5_ofBit_137 : decode cX5_ofBit 137 = .ok (.return_, 1) := by decide +kernel
set_option maxRecDepth 20000 in
theorem ggX5_jumps_X5_canCall : GoodIn wsX5_jumps wsX5_canCall := goodIn_r _ [7, 8, 9, 10, 11, 6, 12, 13, 14, 15, 16, 29, 30, 31, 32, 33, 34, 35, 36] (by decide +kernel) (by decide +kernel)
set_option maxRecDepth 20000 in
theorem gX5_jumps_X5_canCall : GoodIn wsX5_jumps (wsV RX5 141 RX5 yX5_canCall wsX5_canCall) := goodIn_app (goodIn_of _ (by decide +kernel)) ggX5_jumps_X5_canCall
set_option maxRecDepth 20000 in
theorem ggX5_jumps_X5_calls : GoodIn wsX5_jumps wsX5_calls := goodIn_r _ [20, 1, 21, 22, 23, 6, 24, 13, 8, 9, 10, 11, 12, 25, 26, 27, 28, 29, 30, 31, 32, 33, 34, 35, 36] (by decide +kernel) (by decide +kernel)
set_option maxRecDepth 20000 in
theorem gX5_jumps_X5_calls : GoodIn wsX5_jumps (wsV RX5 145 RX5 yX5_calls wsX5_calls) := goodIn_app (goodIn_of _ (by decide +kernel)) ggX5_jumps_X5_calls
theorem dX5_jumps_0 : decode cX5_jumps 0 = .ok (.iload_n 3, 1) := by decide +kernel
theorem dX5_jumps_1 : decode cX5_jumps 1 = .ok (.ifCond .ne 14, 3) := by decide +kernel
theorem dX5_jumps_4 : decode cX5_jumps 4 = .ok (.aload_n 0, 1) := by decide +kernel
theorem dX5_jumps_5 : decode cX5_jumps 5 = .ok (.iload_n 2, 1) := by decide +kernel
theorem dX5_jumps_6 : decode cX5_jumps 6 = .ok (.sipush 1023, 3) := by decide +kernel
theorem dX5_jumps_9 : decode cX5_jumps 9 = .ok (.iand, 1) := by decide +kernel
theorem dX5_jumps_10 : decode cX5_jumps 10 = .ok (.putfield 84, 3) := by decide +kernel
theorem dX5_jumps_13 : decode cX5_jumps 13 = .ok (.iconst 0, 1) := by decide +kernel
theorem dX5_jumps_14 : decode cX5_jumps 14 = .ok (.ireturn, 1) := by decide +kernel
theorem dX5_jumps_15 : decode cX5_jumps 15 = .ok (.aload_n 0, 1) := by decide +kernel
theorem dX5_jumps_16 : decode cX5_jumps 16 = .ok (.invokevirtual 141, 3) := by decide +kernel
theorem dX5_jumps_19 : decode cX5_jumps 19 = .ok (.ifCond .ne 5, 3) := by decide +kernel
theorem dX5_jumps_22 : decode cX5_jumps 22 = .ok (.iconst 3, 1) := by decide +kernel
theorem dX5_jumps_23 : decode cX5_jumps 23 = .ok (.ireturn, 1) := by decide +kernel
theorem dX5_jumps_24 : decode cX5_jumps 24 = .ok (.aload_n 0, 1) := by decide +kernel
theorem dX5_jumps_25 : decode cX5_jumps 25 = .ok (.iload_n 1, 1) := by decide +kernel
theorem dX5_jumps_26 : decode cX5_jumps 26 = .ok (.iload_n 2, 1) := by decide +kernel
theorem dX5_jumps_27 : decode cX5_jumps 27 = .ok (.invokevirtual 145, 3) := by decide +kernel
theorem dX5_jumps_30 : decode cX5_jumps 30 = .ok (.aload_n 0, 1) := by decide +kernel
theorem dX5_jumps_31 : decode cX5_jumps 31 = .ok (.getfield 16, 3) := by decide +kernel
theorem dX5_jumps_34 : decode cX5_jumps 34 = .ok (.bipush 6, 2) := by decide +kernel
theorem dX5_jumps_36 : decode cX5_jumps 36 = .ok (.dup2, 1) := by decide +kernel
theorem dX5_jumps_37 : decode cX5_jumps 37 = .ok (.iaload, 1) := by decide +kernel
theorem dX5_jumps_38 : decode cX5_jumps 38 = .ok (.iconst 1, 1) := by decide +kernel
theorem dX5_jumps_39 : decode cX5_jumps 39 = .ok (.iadd, 1) := by decide +kernel
theorem dX5_jumps_40 : decode cX5_jumps 40 = .ok (.iastore, 1) := by decide +kernel
theorem dX5_jumps_41 : decode cX5_jumps 41 = .ok (.iconst 0, 1) := by decide +kernel
theorem dX5_jumps_42 : decode cX5_jumps 42 = .ok (.ireturn, 1) := by decide +kernel
set_option maxRecDepth 20000 in
theorem ggX5_returns_X5_pair : GoodIn wsX5_returns wsX5_pair := goodIn_r _ [8, 9, 25, 26, 27, 28, 29, 30, 31, 32] (by decide +kernel) (by decide +kernel)
set_option maxRecDepth 20000 in
theorem gX5_returns_X5_pair : GoodIn wsX5_returns (wsV RX5 28 RX5 yX5_pair wsX5_pair) := goodIn_app (goodIn_of _ (by decide +kernel)) ggX5_returns_X5_pair
set_option maxRecDepth 20000 in
theorem ggX5_returns_X5_isFar : GoodIn wsX5_returns wsX5_isFar := goodIn_r _ [12] (by decide +kernel) (by decide +kernel)
set_option maxRecDepth 20000 in
theorem gX5_returns_X5_isFar : GoodIn wsX5_returns (va_wsS RX5 121 yX5_isFar wsX5_isFar) := goodIn_app (goodIn_of _ (by decide +kernel)) ggX5_returns_X5_isFar
set_option maxRecDepth 20000 in
theorem ggX5_returns_X5_pops : GoodIn wsX5_returns wsX5_pops := goodIn_r _ [16, 1, 9, 4, 5, 6, 7, 8, 17, 18, 19, 20, 25, 26, 27, 28, 29, 30, 31, 32] (by decide +kernel) (by decide +kernel)
set_option maxRecDepth 20000 in
theorem gX5_returns_X5_pops : GoodIn wsX5_returns (wsV RX5 128 RX5 yX5_pops wsX5_pops) := goodIn_app (goodIn_of _ (by decide +kernel)) ggX5_returns_X5_pops
set_option maxRecDepth 20000 in
theorem ggX5_returns_X5_flag : GoodIn wsX5_returns wsX5_flag := goodIn_r _ [24, 9, 25, 26, 27, 28, 29, 30, 31, 32] (by decide +kernel) (by decide +kernel)
set_option maxRecDepth 20000 in
theorem gX5_returns_X5_flag : GoodIn wsX5_returns (wsV RX5 74 RX5 yX5_flag wsX5_flag) := goodIn_app (goodIn_of _ (by decide +kernel)) ggX5_returns_X5_flag
theorem dX5_returns_0 : decode cX5_returns 0 = .ok (.aload_n 0, 1) := by decide +kernel
theorem dX5_returns_1 : decode cX5_returns 1 = .ok (.bipush 93, 2) := by decide +kernel
theorem dX5_returns_3 : decode cX5_returns 3 = .ok (.invokevirtual 28, 3) := by decide +kernel
theorem dX5_returns_6 : decode cX5_returns 6 = .ok (.istore_n 2, 1) := by decide +kernel
theorem dX5_returns_7 : decode cX5_returns 7 = .ok (.iload_n 2, 1) := by decide +kernel
theorem dX5_returns_8 : decode cX5_returns 8 = .ok (.iconst 1, 1) := by decide +kernel
theorem dX5_returns_9 : decode cX5_returns 9 = .ok (.iadd, 1) := by decide +kernel
theorem dX5_returns_10 : decode cX5_returns 10 = .ok (.ldc 27, 2) := by decide +kernel
theorem dX5_returns_12 : decode cX5_returns 12 = .ok (.iand, 1) := by decide +kernel
theorem dX5_returns_13 : decode cX5_returns 13 = .ok (.invokestatic 121, 3) := by decide +kernel
theorem dX5_returns_16 : decode cX5_returns 16 = .ok (.ifCond .ne 15, 3) := by decide +kernel
theorem dX5_returns_19 : decode cX5_returns 19 = .ok (.iload_n 2, 1) := by decide +kernel
theorem dX5_returns_20 : decode cX5_returns 20 = .ok (.iconst 2, 1) := by decide +kernel
theorem dX5_returns_21 : decode cX5_returns 21 = .ok (.iadd, 1) := by decide +kernel
theorem dX5_returns_22 : decode cX5_returns 22 = .ok (.ldc 27, 2) := by decide +kernel
theorem dX5_returns_24 : decode cX5_returns 24 = .ok (.iand, 1) := by decide +kernel
theorem dX5_returns_25 : decode cX5_returns 25 = .ok (.invokestatic 121, 3) := by decide +kernel
theorem dX5_returns_28 : decode cX5_returns 28 = .ok (.ifCond .eq 5, 3) := by decide +kernel
theorem dX5_returns_31 : decode cX5_returns 31 = .ok (.iconst 3, 1) := by decide +kernel
theorem dX5_returns_32 : decode cX5_returns 32 = .ok (.ireturn, 1) := by decide +kernel
theorem dX5_returns_33 : decode cX5_returns 33 = .ok (.aload_n 0, 1) := by decide +kernel
theorem dX5_returns_34 : decode cX5_returns 34 = .ok (.invokevirtual 128, 3) := by decide +kernel
theorem dX5_returns_37 : decode cX5_returns 37 = .ok (.istore_n 3, 1) := by decide +kernel
theorem dX5_returns_38 : decode cX5_returns 38 = .ok (.aload_n 0, 1) := by decide +kernel
theorem dX5_returns_39 : decode cX5_returns 39 = .ok (.invokevirtual 128, 3) := by decide +kernel
theorem dX5_returns_42 : decode cX5_returns 42 = .ok (.istore 4, 2) := by decide +kernel
theorem dX5_returns_44 : decode cX5_returns 44 = .ok (.aload_n 0, 1) := by decide +kernel
theorem dX5_returns_45 : decode cX5_returns 45 = .ok (.iload_n 3, 1) := by decide +kernel
theorem dX5_returns_46 : decode cX5_returns 46 = .ok (.bipush 8, 2) := by decide +kernel
theorem dX5_returns_48 : decode cX5_returns 48 = .ok (.ishl, 1) := by decide +kernel
theorem dX5_returns_49 : decode cX5_returns 49 = .ok (.iload 4, 2) := by decide +kernel
theorem dX5_returns_51 : decode cX5_returns 51 = .ok (.ior, 1) := by decide +kernel
theorem dX5_returns_52 : decode cX5_returns 52 = .ok (.sipush 1023, 3) := by decide +kernel
theorem dX5_returns_55 : decode cX5_returns 55 = .ok (.iand, 1) := by decide +kernel
theorem dX5_returns_56 : decode cX5_returns 56 = .ok (.putfield 84, 3) := by decide +kernel
theorem dX5_returns_59 : decode cX5_returns 59 = .ok (.iload_n 1, 1) := by decide +kernel
theorem dX5_returns_60 : decode cX5_returns 60 = .ok (.ldc 57, 2) := by decide +kernel
theorem dX5_returns_62 : decode cX5_returns 62 = .ok (.if_icmp .ne 11, 3) := by decide +kernel
theorem dX5_returns_65 : decode cX5_returns 65 = .ok (.aload_n 0, 1) := by decide +kernel
theorem dX5_returns_66 : decode cX5_returns 66 = .ok (.sipush 128, 3) := by decide +kernel
theorem dX5_returns_69 : decode cX5_returns 69 = .ok (.iconst 1, 1) := by decide +kernel
theorem dX5_returns_70 : decode cX5_returns 70 = .ok (.invokevirtual 74, 3) := by decide +kernel
theorem dX5_returns_73 : decode cX5_returns 73 = .ok (.iconst 0, 1) := by decide +kernel
theorem dX5_returns_74 : decode cX5_returns 74 = .ok (.ireturn, 1) := by decide +kernel
set_option maxRecDepth 20000 in
theorem ggX5_ofOthers_X5_jumps : GoodIn wsX5_ofOthers wsX5_jumps := goodIn_r _ [12, 2, 13, 14, 15, 16, 11, 17, 18, 19, 20, 21, 22, 7, 23, 24, 25, 26, 27, 28, 29, 30, 31, 32, 33, 34, 35, 36, 37, 54, 55, 56, 57, 58, 59, 60, 61] (by decide +kernel) (by decide +kernel)
set_option maxRecDepth 20000 in
theorem gX5_ofOthers_X5_jumps : GoodIn wsX5_ofOthers (wsV RX5 148 RX5 yX5_jumps wsX5_jumps) := goodIn_app (goodIn_of _ (by decide +kernel)) ggX5_ofOthers_X5_jumps
set_option maxRecDepth 20000 in
theorem ggX5_ofOthers_X5_pair : GoodIn wsX5_ofOthers wsX5_pair := goodIn_r _ [22, 7, 54, 55, 56, 57, 58, 59, 60, 61] (by decide +kernel) (by decide +kernel)
set_option maxRecDepth 20000 in
theorem gX5_ofOthers_X5_pair : GoodIn wsX5_ofOthers (wsV RX5 28 RX5 yX5_pair wsX5_pair) := goodIn_app (goodIn_of _ (by decide +kernel)) ggX5_ofOthers_X5_pair
set_option maxRecDepth 20000 in
theorem ggX5_ofOthers_X5_returns : GoodIn wsX5_ofOthers wsX5_returns := goodIn_r _ [41, 18, 2, 5, 19, 20, 21, 11, 22, 7, 23, 24, 25, 42, 43, 44, 45, 34, 35, 36, 37, 46, 47, 48, 49, 54, 55, 56, 57, 58, 59, 60, 61] (by decide +kernel) (by decide +kernel)
set_option maxRecDepth 20000 in
theorem gX5_ofOthers_X5_returns : GoodIn wsX5_ofOthers (wsV RX5 151 RX5 yX5_returns wsX5_returns) := goodIn_app (goodIn_of _ (by decide +kernel)) ggX5_ofOthers_X5_returns
set_option maxRecDepth 20000 in
theorem ggX5_ofOthers_X5_codeByte : GoodIn wsX5_ofOthers wsX5_codeByte := goodIn_r _ [53, 1, 54, 55, 56, 57, 58, 59, 60, 61] (by decide +kernel) (by decide +kernel)
set_option maxRecDepth 20000 in
theorem gX5_ofOthers_X5_codeByte : GoodIn wsX5_ofOthers (wsV RX5 138 RX5 yX5_codeByte wsX5_codeByte) := goodIn_app (goodIn_of _ (by decide +kernel)) ggX5_ofOthers_X5_codeByte
set_option maxRecDepth 20000 in
theorem ggX5_ofOthers_X5_flag : GoodIn wsX5_ofOthers wsX5_flag := goodIn_r _ [49, 7, 54, 55, 56, 57, 58, 59, 60, 61] (by decide +kernel) (by decide +kernel)
set_option maxRecDepth 20000 in
theorem gX5_ofOthers_X5_flag : GoodIn wsX5_ofOthers (wsV RX5 74 RX5 yX5_flag wsX5_flag) := goodIn_app (goodIn_of _ (by decide +kernel)) ggX5_ofOthers_X5_flag
theorem dX5_ofOthers_0 : decode cX5_ofOthers 0 = .ok (.iload_n 1, 1) := by decide +kernel
theorem dX5_ofOthers_1 : decode cX5_ofOthers 1 = .ok (.bipush 15, 2) := by decide +kernel
theorem dX5_ofOthers_3 : decode cX5_ofOthers 3 = .ok (.iand, 1) := by decide +kernel
theorem dX5_ofOthers_4 : decode cX5_ofOthers 4 = .ok (.istore_n 2, 1) := by decide +kernel
theorem dX5_ofOthers_5 : decode cX5_ofOthers 5 = .ok (.iload_n 2, 1) := by decide +kernel
theorem dX5_ofOthers_6 : decode cX5_ofOthers 6 = .ok (.bipush 11, 2) := by decide +kernel
theorem dX5_ofOthers_8 : decode cX5_ofOthers 8 = .ok (.if_icmp .le 48, 3) := by decide +kernel
theorem dX5_ofOthers_11 : decode cX5_ofOthers 11 = .ok (.aload_n 0, 1) := by decide +kernel
theorem dX5_ofOthers_12 : decode cX5_ofOthers 12 = .ok (.getfield 7, 3) := by decide +kernel
theorem dX5_ofOthers_15 : decode cX5_ofOthers 15 = .ok (.aload_n 0, 1) := by decide +kernel
theorem dX5_ofOthers_16 : decode cX5_ofOthers 16 = .ok (.getfield 84, 3) := by decide +kernel
theorem dX5_ofOthers_19 : decode cX5_ofOthers 19 = .ok (.iaload, 1) := by decide +kernel
theorem dX5_ofOthers_20 : decode cX5_ofOthers 20 = .ok (.istore_n 3, 1) := by decide +kernel
theorem dX5_ofOthers_21 : decode cX5_ofOthers 21 = .ok (.aload_n 0, 1) := by decide +kernel
theorem dX5_ofOthers_22 : decode cX5_ofOthers 22 = .ok (.aload_n 0, 1) := by decide +kernel
theorem dX5_ofOthers_23 : decode cX5_ofOthers 23 = .ok (.getfield 84, 3) := by decide +kernel
theorem dX5_ofOthers_26 : decode cX5_ofOthers 26 = .ok (.iconst 1, 1) := by decide +kernel
theorem dX5_ofOthers_27 : decode cX5_ofOthers 27 = .ok (.iadd, 1) := by decide +kernel
theorem dX5_ofOthers_28 : decode cX5_ofOthers 28 = .ok (.sipush 1023, 3) := by decide +kernel
theorem dX5_ofOthers_31 : decode cX5_ofOthers 31 = .ok (.iand, 1) := by decide +kernel
theorem dX5_ofOthers_32 : decode cX5_ofOthers 32 = .ok (.putfield 84, 3) := by decide +kernel
theorem dX5_ofOthers_35 : decode cX5_ofOthers 35 = .ok (.aload_n 0, 1) := by decide +kernel
theorem dX5_ofOthers_36 : decode cX5_ofOthers 36 = .ok (.aload_n 0, 1) := by decide +kernel
theorem dX5_ofOthers_37 : decode cX5_ofOthers 37 = .ok (.getfield 84, 3) := by decide +kernel
theorem dX5_ofOthers_40 : decode cX5_ofOthers 40 = .ok (.iload_n 3, 1) := by decide +kernel
theorem dX5_ofOthers_41 : decode cX5_ofOthers 41 = .ok (.iload_n 2, 1) := by decide +kernel
theorem dX5_ofOthers_42 : decode cX5_ofOthers 42 = .ok (.bipush 13, 2) := by decide +kernel
theorem dX5_ofOthers_44 : decode cX5_ofOthers 44 = .ok (.if_icmp .le 7, 3) := by decide +kernel
theorem dX5_ofOthers_47 : decode cX5_ofOthers 47 = .ok (.iconst 1, 1) := by decide +kernel
theorem dX5_ofOthers_48 : decode cX5_ofOthers 48 = .ok (.goto 4, 3) := by decide +kernel
theorem dX5_ofOthers_51 : decode cX5_ofOthers 51 = .ok (.iconst 0, 1) := by decide +kernel
theorem dX5_ofOthers_52 : decode cX5_ofOthers 52 = .ok (.invokevirtual 148, 3) := by decide +kernel
theorem dX5_ofOthers_55 : decode cX5_ofOthers 55 = .ok (.ireturn, 1) := by decide +kernel
theorem dX5_ofOthers_56 : decode cX5_ofOthers 56 = .ok (.iload_n 2, 1) := by decide +kernel
theorem dX5_ofOthers_57 : decode cX5_ofOthers 57 = .ok (.bipush 9, 2) := by decide +kernel
theorem dX5_ofOthers_59 : decode cX5_ofOthers 59 = .ok (.if_icmp .ne 29, 3) := by decide +kernel
theorem dX5_ofOthers_62 : decode cX5_ofOthers 62 = .ok (.aload_n 0, 1) := by decide +kernel
theorem dX5_ofOthers_63 : decode cX5_ofOthers 63 = .ok (.aload_n 0, 1) := by decide +kernel
theorem dX5_ofOthers_64 : decode cX5_ofOthers 64 = .ok (.getfield 84, 3) := by decide +kernel
theorem dX5_ofOthers_67 : decode cX5_ofOthers 67 = .ok (.aload_n 0, 1) := by decide +kernel
theorem dX5_ofOthers_68 : decode cX5_ofOthers 68 = .ok (.bipush 30, 2) := by decide +kernel
theorem dX5_ofOthers_70 : decode cX5_ofOthers 70 = .ok (.invokevirtual 28, 3) := by decide +kernel
theorem dX5_ofOthers_73 : decode cX5_ofOthers 73 = .ok (.iload_n 1, 1) := by decide +kernel
theorem dX5_ofOthers_74 : decode cX5_ofOthers 74 = .ok (.ldc 60, 2) := by decide +kernel
theorem dX5_ofOthers_76 : decode cX5_ofOthers 76 = .ok (.if_icmp .ne 7, 3) := by decide +kernel
theorem dX5_ofOthers_79 : decode cX5_ofOthers 79 = .ok (.iconst 1, 1) := by decide +kernel
theorem dX5_ofOthers_80 : decode cX5_ofOthers 80 = .ok (.goto 4, 3) := by decide +kernel
theorem dX5_ofOthers_83 : decode cX5_ofOthers 83 = .ok (.iconst 0, 1) := by decide +kernel
theorem dX5_ofOthers_84 : decode cX5_ofOthers 84 = .ok (.invokevirtual 148, 3) := by decide +kernel
theorem dX5_ofOthers_87 : decode cX5_ofOthers 87 = .ok (.ireturn, 1) := by decide +kernel
theorem dX5_ofOthers_88 : decode cX5_ofOthers 88 = .ok (.iload_n 1, 1) := by decide +kernel
theorem dX5_ofOthers_89 : decode cX5_ofOthers 89 = .ok (.ldc 56, 2) := by decide +kernel
theorem dX5_ofOthers_91 : decode cX5_ofOthers 91 = .ok (.if_icmp .eq 9, 3) := by decide +kernel
theorem dX5_ofOthers_94 : decode cX5_ofOthers 94 = .ok (.iload_n 1, 1) := by decide +kernel
theorem dX5_ofOthers_95 : decode cX5_ofOthers 95 = .ok (.ldc 57, 2) := by decide +kernel
theorem dX5_ofOthers_97 : decode cX5_ofOthers 97 = .ok (.if_icmp .ne 9, 3) := by decide +kernel
theorem dX5_ofOthers_100 : decode cX5_ofOthers 100 = .ok (.aload_n 0, 1) := by decide +kernel
theorem dX5_ofOthers_101 : decode cX5_ofOthers 101 = .ok (.iload_n 1, 1) := by decide +kernel
theorem dX5_ofOthers_102 : decode cX5_ofOthers 102 = .ok (.invokevirtual 151, 3) := by decide +kernel
theorem dX5_ofOthers_105 : decode cX5_ofOthers 105 = .ok (.ireturn, 1) := by decide +kernel
theorem dX5_ofOthers_106 : decode cX5_ofOthers 106 = .ok (.iload_n 1, 1) := by decide +kernel
theorem dX5_ofOthers_107 : decode cX5_ofOthers 107 = .ok (.ldc 58, 2) := by decide +kernel
theorem dX5_ofOthers_109 : decode cX5_ofOthers 109 = .ok (.if_icmp .ne 22, 3) := by decide +kernel
theorem dX5_ofOthers_112 : decode cX5_ofOthers 112 = .ok (.aload_n 0, 1) := by decide +kernel
theorem dX5_ofOthers_113 : decode cX5_ofOthers 113 = .ok (.getfield 13, 3) := by decide +kernel
theorem dX5_ofOthers_116 : decode cX5_ofOthers 116 = .ok (.iconst 0, 1) := by decide +kernel
theorem dX5_ofOthers_117 : decode cX5_ofOthers 117 = .ok (.aload_n 0, 1) := by decide +kernel
theorem dX5_ofOthers_118 : decode cX5_ofOthers 118 = .ok (.aload_n 0, 1) := by decide +kernel
theorem dX5_ofOthers_119 : decode cX5_ofOthers 119 = .ok (.bipush 30, 2) := by decide +kernel
theorem dX5_ofOthers_121 : decode cX5_ofOthers 121 = .ok (.invokevirtual 28, 3) := by decide +kernel
theorem dX5_ofOthers_124 : decode cX5_ofOthers 124 = .ok (.invokevirtual 138, 3) := by decide +kernel
theorem dX5_ofOthers_127 : decode cX5_ofOthers 127 = .ok (.iastore, 1) := by decide +kernel
theorem dX5_ofOthers_128 : decode cX5_ofOthers 128 = .ok (.goto 28, 3) := by decide +kernel
theorem dX5_ofOthers_131 : decode cX5_ofOthers 131 = .ok (.aload_n 0, 1) := by decide +kernel
theorem dX5_ofOthers_132 : decode cX5_ofOthers 132 = .ok (.iconst 1, 1) := by decide +kernel
theorem dX5_ofOthers_133 : decode cX5_ofOthers 133 = .ok (.iload_n 1, 1) := by decide +kernel
theorem dX5_ofOthers_134 : decode cX5_ofOthers 134 = .ok (.iconst 4, 1) := by decide +kernel
theorem dX5_ofOthers_135 : decode cX5_ofOthers 135 = .ok (.ishr, 1) := by decide +kernel
theorem dX5_ofOthers_136 : decode cX5_ofOthers 136 = .ok (.bipush 7, 2) := by decide +kernel
theorem dX5_ofOthers_138 : decode cX5_ofOthers 138 = .ok (.iand, 1) := by decide +kernel
theorem dX5_ofOthers_139 : decode cX5_ofOthers 139 = .ok (.ishl, 1) := by decide +kernel
theorem dX5_ofOthers_140 : decode cX5_ofOthers 140 = .ok (.iload_n 1, 1) := by decide +kernel
theorem dX5_ofOthers_141 : decode cX5_ofOthers 141 = .ok (.sipush 128, 3) := by decide +kernel
theorem dX5_ofOthers_144 : decode cX5_ofOthers 144 = .ok (.iand, 1) := by decide +kernel
theorem dX5_ofOthers_145 : decode cX5_ofOthers 145 = .ok (.ifCond .ne 7, 3) := by decide +kernel
theorem dX5_ofOthers_148 : decode cX5_ofOthers 148 = .ok (.iconst 1, 1) := by decide +kernel
theorem dX5_ofOthers_149 : decode cX5_ofOthers 149 = .ok (.goto 4, 3) := by decide +kernel
theorem dX5_ofOthers_152 : decode cX5_ofOthers 152 = .ok (.iconst 0, 1) := by decide +kernel
theorem dX5_ofOthers_153 : decode cX5_ofOthers 153 = .ok (.invokevirtual 74, 3) := by decide +kernel
theorem dX5_ofOthers_156 : decode cX5_ofOthers 156 = .ok (.iconst 0, 1) := by decide +kernel
theorem dX5_ofOthers_157 : decode cX5_ofOthers 157 = .ok (.ireturn, 1) := by decide +kernel
set_option maxRecDepth 20000 in
theorem ggX5_ofNine_X5_isMemory : GoodIn wsX5_ofNine wsX5_isMemory := goodIn_r _ [7, 8, 9] (by decide +kernel) (by decide +kernel)
set_option maxRecDepth 20000 in
theorem gX5_ofNine_X5_isMemory : GoodIn wsX5_ofNine (va_wsS RX5 43 yX5_isMemory wsX5_isMemory) := goodIn_app (goodIn_of _ (by decide +kernel)) ggX5_ofNine_X5_isMemory
set_option maxRecDepth 20000 in
theorem ggX5_ofNine_X5_ofMemory : GoodIn wsX5_ofNine wsX5_ofMemory := goodIn_r _ [13, 14, 15, 3, 16, 17, 18, 6, 19, 20, 21, 22, 23, 24, 25, 26, 27, 28, 29, 30, 31, 32, 33, 34, 35, 36, 37, 38, 39, 40, 41, 42, 43, 44, 45, 46, 47, 48, 49, 50, 51, 52, 53, 136, 137, 138, 139, 140, 141, 142, 143] (by decide +kernel) (by decide +kernel)
set_option maxRecDepth 20000 in
theorem gX5_ofNine_X5_ofMemory : GoodIn wsX5_ofNine (wsV RX5 154 RX5 yX5_ofMemory wsX5_ofMemory) := goodIn_app (goodIn_of _ (by decide +kernel)) ggX5_ofNine_X5_ofMemory
set_option maxRecDepth 20000 in
theorem ggX5_ofNine_X5_isOne : GoodIn wsX5_ofNine wsX5_isOne := goodIn_r _ [56, 57, 58] (by decide +kernel) (by decide +kernel)
set_option maxRecDepth 20000 in
theorem gX5_ofNine_X5_isOne : GoodIn wsX5_ofNine (va_wsS RX5 47 yX5_isOne wsX5_isOne) := goodIn_app (goodIn_of _ (by decide +kernel)) ggX5_ofNine_X5_isOne
set_option maxRecDepth 20000 in
theorem ggX5_ofNine_X5_ofOthers : GoodIn wsX5_ofNine wsX5_ofOthers := goodIn_r _ [62, 14, 15, 63, 64, 65, 66, 3, 67, 68, 69, 6, 70, 71, 72, 73, 74, 75, 16, 24, 25, 26, 27, 28, 29, 30, 76, 77, 78, 79, 31, 32, 33, 34, 35, 36, 37, 38, 80, 81, 82, 83, 39, 40, 41, 42, 84, 85, 86, 87, 47, 48, 49, 50, 136, 137, 138, 139, 140, 141, 142, 143] (by decide +kernel) (by decide +kernel)
set_option maxRecDepth 20000 in
theorem gX5_ofNine_X5_ofOthers : GoodIn wsX5_ofNine (wsV RX5 157 RX5 yX5_ofOthers wsX5_ofOthers) := goodIn_app (goodIn_of _ (by decide +kernel)) ggX5_ofNine_X5_ofOthers
set_option maxRecDepth 20000 in
theorem ggX5_ofNine_X5_ofOne : GoodIn wsX5_ofNine wsX5_ofOne := goodIn_r _ [91, 3, 17, 18, 6, 19, 92, 93, 94, 95, 96, 97, 98, 99, 84, 85, 86, 87, 100, 101, 102, 103, 104, 105, 106, 107, 108, 109, 110, 111, 112, 113, 114, 115, 136, 137, 138, 139, 140, 141, 142, 143] (by decide +kernel) (by decide +kernel)
set_option maxRecDepth 20000 in
theorem gX5_ofNine_X5_ofOne : GoodIn wsX5_ofNine (wsV RX5 160 RX5 yX5_ofOne wsX5_ofOne) := goodIn_app (goodIn_of _ (by decide +kernel)) ggX5_ofNine_X5_ofOne
set_option maxRecDepth 20000 in
theorem ggX5_ofNine_X5_ofPair : GoodIn wsX5_ofNine wsX5_ofPair := goodIn_r _ [119, 16, 120, 24, 25, 26, 6, 27, 3, 35, 36, 37, 38, 84, 85, 86, 87, 136, 137, 138, 139, 140, 141, 142, 143] (by decide +kernel) (by decide +kernel)
set_option maxRecDepth 20000 in
theorem gX5_ofNine_X5_ofPair : GoodIn wsX5_ofNine (wsV RX5 164 RX5 yX5_ofPair wsX5_ofPair) := goodIn_app (goodIn_of _ (by decide +kernel)) ggX5_ofNine_X5_ofPair
set_option maxRecDepth 20000 in
theorem ggX5_ofNine_X5_ofPortBit : GoodIn wsX5_ofNine wsX5_ofPortBit := goodIn_r _ [124, 3, 125, 126, 127, 6, 128, 14, 15, 71, 129, 130, 131, 4, 5, 7, 8, 9, 54, 55, 56, 57, 58, 136, 137, 138, 139, 140, 141, 142, 143] (by decide +kernel) (by decide +kernel)
set_option maxRecDepth 20000 in
theorem gX5_ofNine_X5_ofPortBit : GoodIn wsX5_ofNine (wsV RX5 168 RX5 yX5_ofPortBit wsX5_ofPortBit) := goodIn_app (goodIn_of _ (by decide +kernel)) ggX5_ofNine_X5_ofPortBit
set_option maxRecDepth 20000 in
theorem ggX5_ofNine_X5_dOf : GoodIn wsX5_ofNine wsX5_dOf := goodIn_r _ [19] (by decide +kernel) (by decide +kernel)
set_option maxRecDepth 20000 in
theorem gX5_ofNine_X5_dOf : GoodIn wsX5_ofNine (va_wsS RX5 53 yX5_dOf wsX5_dOf) := goodIn_app (goodIn_of _ (by decide +kernel)) ggX5_ofNine_X5_dOf
set_option maxRecDepth 20000 in
theorem ggX5_ofNine_X5_product : GoodIn wsX5_ofNine wsX5_product := goodIn_r _ [135, 16, 84, 85, 86, 6, 87, 3, 35, 36, 37, 38, 136, 137, 138, 139, 140, 141, 142, 143] (by decide +kernel) (by decide +kernel)
set_option maxRecDepth 20000 in
theorem gX5_ofNine_X5_product : GoodIn wsX5_ofNine (wsV RX5 113 RX5 yX5_product wsX5_product) := goodIn_app (goodIn_of _ (by decide +kernel)) ggX5_ofNine_X5_product
theorem dX5_ofNine_0 : decode cX5_ofNine 0 = .ok (.iload_n 1, 1) := by decide +kernel
theorem dX5_ofNine_1 : decode cX5_ofNine 1 = .ok (.invokestatic 43, 3) := by decide +kernel
theorem dX5_ofNine_4 : decode cX5_ofNine 4 = .ok (.ifCond .eq 9, 3) := by decide +kernel
theorem dX5_ofNine_7 : decode cX5_ofNine 7 = .ok (.aload_n 0, 1) := by decide +kernel
theorem dX5_ofNine_8 : decode cX5_ofNine 8 = .ok (.iload_n 1, 1) := by decide +kernel
theorem dX5_ofNine_9 : decode cX5_ofNine 9 = .ok (.invokevirtual 154, 3) := by decide +kernel
theorem dX5_ofNine_12 : decode cX5_ofNine 12 = .ok (.ireturn, 1) := by decide +kernel
theorem dX5_ofNine_13 : decode cX5_ofNine 13 = .ok (.iload_n 1, 1) := by decide +kernel
theorem dX5_ofNine_14 : decode cX5_ofNine 14 = .ok (.invokestatic 47, 3) := by decide +kernel
theorem dX5_ofNine_17 : decode cX5_ofNine 17 = .ok (.ifCond .eq 40, 3) := by decide +kernel
theorem dX5_ofNine_20 : decode cX5_ofNine 20 = .ok (.iload_n 1, 1) := by decide +kernel
theorem dX5_ofNine_21 : decode cX5_ofNine 21 = .ok (.bipush 15, 2) := by decide +kernel
theorem dX5_ofNine_23 : decode cX5_ofNine 23 = .ok (.iand, 1) := by decide +kernel
theorem dX5_ofNine_24 : decode cX5_ofNine 24 = .ok (.istore_n 2, 1) := by decide +kernel
theorem dX5_ofNine_25 : decode cX5_ofNine 25 = .ok (.iload_n 2, 1) := by decide +kernel
theorem dX5_ofNine_26 : decode cX5_ofNine 26 = .ok (.bipush 10, 2) := by decide +kernel
theorem dX5_ofNine_28 : decode cX5_ofNine 28 = .ok (.if_icmp .gt 15, 3) := by decide +kernel
theorem dX5_ofNine_31 : decode cX5_ofNine 31 = .ok (.iload_n 2, 1) := by decide +kernel
theorem dX5_ofNine_32 : decode cX5_ofNine 32 = .ok (.bipush 8, 2) := by decide +kernel
theorem dX5_ofNine_34 : decode cX5_ofNine 34 = .ok (.if_icmp .eq 9, 3) := by decide +kernel
theorem dX5_ofNine_37 : decode cX5_ofNine 37 = .ok (.iload_n 2, 1) := by decide +kernel
theorem dX5_ofNine_38 : decode cX5_ofNine 38 = .ok (.bipush 9, 2) := by decide +kernel
theorem dX5_ofNine_40 : decode cX5_ofNine 40 = .ok (.if_icmp .ne 9, 3) := by decide +kernel
theorem dX5_ofNine_43 : decode cX5_ofNine 43 = .ok (.aload_n 0, 1) := by decide +kernel
theorem dX5_ofNine_44 : decode cX5_ofNine 44 = .ok (.iload_n 1, 1) := by decide +kernel
theorem dX5_ofNine_45 : decode cX5_ofNine 45 = .ok (.invokevirtual 157, 3) := by decide +kernel
theorem dX5_ofNine_48 : decode cX5_ofNine 48 = .ok (.ireturn, 1) := by decide +kernel
theorem dX5_ofNine_49 : decode cX5_ofNine 49 = .ok (.aload_n 0, 1) := by decide +kernel
theorem dX5_ofNine_50 : decode cX5_ofNine 50 = .ok (.iload_n 1, 1) := by decide +kernel
theorem dX5_ofNine_51 : decode cX5_ofNine 51 = .ok (.invokevirtual 160, 3) := by decide +kernel
theorem dX5_ofNine_54 : decode cX5_ofNine 54 = .ok (.goto 62, 3) := by decide +kernel
theorem dX5_ofNine_57 : decode cX5_ofNine 57 = .ok (.iload_n 1, 1) := by decide +kernel
theorem dX5_ofNine_58 : decode cX5_ofNine 58 = .ok (.ldc 163, 2) := by decide +kernel
theorem dX5_ofNine_60 : decode cX5_ofNine 60 = .ok (.if_icmp .ge 11, 3) := by decide +kernel
theorem dX5_ofNine_63 : decode cX5_ofNine 63 = .ok (.aload_n 0, 1) := by decide +kernel
theorem dX5_ofNine_64 : decode cX5_ofNine 64 = .ok (.iload_n 1, 1) := by decide +kernel
theorem dX5_ofNine_65 : decode cX5_ofNine 65 = .ok (.invokevirtual 164, 3) := by decide +kernel
theorem dX5_ofNine_68 : decode cX5_ofNine 68 = .ok (.goto 48, 3) := by decide +kernel
theorem dX5_ofNine_71 : decode cX5_ofNine 71 = .ok (.iload_n 1, 1) := by decide +kernel
theorem dX5_ofNine_72 : decode cX5_ofNine 72 = .ok (.ldc 167, 2) := by decide +kernel
theorem dX5_ofNine_74 : decode cX5_ofNine 74 = .ok (.if_icmp .ge 11, 3) := by decide +kernel
theorem dX5_ofNine_77 : decode cX5_ofNine 77 = .ok (.aload_n 0, 1) := by decide +kernel
theorem dX5_ofNine_78 : decode cX5_ofNine 78 = .ok (.iload_n 1, 1) := by decide +kernel
theorem dX5_ofNine_79 : decode cX5_ofNine 79 = .ok (.invokevirtual 168, 3) := by decide +kernel
theorem dX5_ofNine_82 : decode cX5_ofNine 82 = .ok (.goto 34, 3) := by decide +kernel
theorem dX5_ofNine_85 : decode cX5_ofNine 85 = .ok (.aload_n 0, 1) := by decide +kernel
theorem dX5_ofNine_86 : decode cX5_ofNine 86 = .ok (.aload_n 0, 1) := by decide +kernel
theorem dX5_ofNine_87 : decode cX5_ofNine 87 = .ok (.getfield 13, 3) := by decide +kernel
theorem dX5_ofNine_90 : decode cX5_ofNine 90 = .ok (.iload_n 1, 1) := by decide +kernel
theorem dX5_ofNine_91 : decode cX5_ofNine 91 = .ok (.invokestatic 53, 3) := by decide +kernel
theorem dX5_ofNine_94 : decode cX5_ofNine 94 = .ok (.iaload, 1) := by decide +kernel
theorem dX5_ofNine_95 : decode cX5_ofNine 95 = .ok (.aload_n 0, 1) := by decide +kernel
theorem dX5_ofNine_96 : decode cX5_ofNine 96 = .ok (.getfield 13, 3) := by decide +kernel
theorem dX5_ofNine_99 : decode cX5_ofNine 99 = .ok (.iload_n 1, 1) := by decide +kernel
theorem dX5_ofNine_100 : decode cX5_ofNine 100 = .ok (.iconst 5, 1) := by decide +kernel
theorem dX5_ofNine_101 : decode cX5_ofNine 101 = .ok (.ishr, 1) := by decide +kernel
theorem dX5_ofNine_102 : decode cX5_ofNine 102 = .ok (.bipush 16, 2) := by decide +kernel
theorem dX5_ofNine_104 : decode cX5_ofNine 104 = .ok (.iand, 1) := by decide +kernel
theorem dX5_ofNine_105 : decode cX5_ofNine 105 = .ok (.iload_n 1, 1) := by decide +kernel
theorem dX5_ofNine_106 : decode cX5_ofNine 106 = .ok (.bipush 15, 2) := by decide +kernel
theorem dX5_ofNine_108 : decode cX5_ofNine 108 = .ok (.iand, 1) := by decide +kernel
theorem dX5_ofNine_109 : decode cX5_ofNine 109 = .ok (.ior, 1) := by decide +kernel
theorem dX5_ofNine_110 : decode cX5_ofNine 110 = .ok (.iaload, 1) := by decide +kernel
theorem dX5_ofNine_111 : decode cX5_ofNine 111 = .ok (.imul, 1) := by decide +kernel
theorem dX5_ofNine_112 : decode cX5_ofNine 112 = .ok (.iconst 0, 1) := by decide +kernel
theorem dX5_ofNine_113 : decode cX5_ofNine 113 = .ok (.invokevirtual 113, 3) := by decide +kernel
theorem dX5_ofNine_116 : decode cX5_ofNine 116 = .ok (.iconst 0, 1) := by decide +kernel
theorem dX5_ofNine_117 : decode cX5_ofNine 117 = .ok (.ireturn, 1) := by decide +kernel
set_option maxRecDepth 20000 in
theorem ggX5_ofFifteen_X5_ofBit : GoodIn wsX5_ofFifteen wsX5_ofBit := goodIn_r _ [7, 8, 9, 10, 6, 11, 12, 13, 14, 15, 16, 17, 18, 19, 20, 21, 22, 23, 24, 2, 25, 26, 27, 28, 29, 30, 31, 32, 33, 34, 35, 36, 37, 38, 39, 40, 41, 42, 43, 44, 45, 46] (by decide +kernel) (by decide +kernel)
set_option maxRecDepth 20000 in
theorem gX5_ofFifteen_X5_ofBit : GoodIn wsX5_ofFifteen (wsV RX5 172 RX5 yX5_ofBit wsX5_ofBit) := goodIn_app (goodIn_of _ (by decide +kernel)) ggX5_ofFifteen_X5_ofBit
set_option maxRecDepth 20000 in
theorem ggX5_ofFifteen_X5_has : GoodIn wsX5_ofFifteen wsX5_has := goodIn_r _ [15, 8, 39, 40, 41, 42, 43, 44, 45, 46] (by decide +kernel) (by decide +kernel)
set_option maxRecDepth 20000 in
theorem gX5_ofFifteen_X5_has : GoodIn wsX5_ofFifteen (wsV RX5 81 RX5 yX5_has wsX5_has) := goodIn_app (goodIn_of _ (by decide +kernel)) ggX5_ofFifteen_X5_has
theorem dX5_ofFifteen_0 : decode cX5_ofFifteen 0 = .ok (.iload_n 1, 1) := by decide +kernel
theorem dX5_ofFifteen_1 : decode cX5_ofFifteen 1 = .ok (.ldc 171, 2) := by decide +kernel
theorem dX5_ofFifteen_3 : decode cX5_ofFifteen 3 = .ok (.if_icmp .lt 10, 3) := by decide +kernel
theorem dX5_ofFifteen_6 : decode cX5_ofFifteen 6 = .ok (.aload_n 0, 1) := by decide +kernel
theorem dX5_ofFifteen_7 : decode cX5_ofFifteen 7 = .ok (.iload_n 1, 1) := by decide +kernel
theorem dX5_ofFifteen_8 : decode cX5_ofFifteen 8 = .ok (.invokevirtual 172, 3) := by decide +kernel
theorem dX5_ofFifteen_11 : decode cX5_ofFifteen 11 = .ok (.iconst 0, 1) := by decide +kernel
theorem dX5_ofFifteen_12 : decode cX5_ofFifteen 12 = .ok (.ireturn, 1) := by decide +kernel
theorem dX5_ofFifteen_13 : decode cX5_ofFifteen 13 = .ok (.iload_n 1, 1) := by decide +kernel
theorem dX5_ofFifteen_14 : decode cX5_ofFifteen 14 = .ok (.iconst 3, 1) := by decide +kernel
theorem dX5_ofFifteen_15 : decode cX5_ofFifteen 15 = .ok (.ishr, 1) := by decide +kernel
theorem dX5_ofFifteen_16 : decode cX5_ofFifteen 16 = .ok (.bipush 127, 2) := by decide +kernel
theorem dX5_ofFifteen_18 : decode cX5_ofFifteen 18 = .ok (.iand, 1) := by decide +kernel
theorem dX5_ofFifteen_19 : decode cX5_ofFifteen 19 = .ok (.istore_n 2, 1) := by decide +kernel
theorem dX5_ofFifteen_20 : decode cX5_ofFifteen 20 = .ok (.iload_n 2, 1) := by decide +kernel
theorem dX5_ofFifteen_21 : decode cX5_ofFifteen 21 = .ok (.bipush 63, 2) := by decide +kernel
theorem dX5_ofFifteen_23 : decode cX5_ofFifteen 23 = .ok (.if_icmp .le 11, 3) := by decide +kernel
theorem dX5_ofFifteen_26 : decode cX5_ofFifteen 26 = .ok (.iload_n 2, 1) := by decide +kernel
theorem dX5_ofFifteen_27 : decode cX5_ofFifteen 27 = .ok (.sipush 128, 3) := by decide +kernel
theorem dX5_ofFifteen_30 : decode cX5_ofFifteen 30 = .ok (.isub, 1) := by decide +kernel
theorem dX5_ofFifteen_31 : decode cX5_ofFifteen 31 = .ok (.goto 4, 3) := by decide +kernel
theorem dX5_ofFifteen_34 : decode cX5_ofFifteen 34 = .ok (.iload_n 2, 1) := by decide +kernel
theorem dX5_ofFifteen_35 : decode cX5_ofFifteen 35 = .ok (.istore_n 2, 1) := by decide +kernel
theorem dX5_ofFifteen_36 : decode cX5_ofFifteen 36 = .ok (.aload_n 0, 1) := by decide +kernel
theorem dX5_ofFifteen_37 : decode cX5_ofFifteen 37 = .ok (.iconst 1, 1) := by decide +kernel
theorem dX5_ofFifteen_38 : decode cX5_ofFifteen 38 = .ok (.iload_n 1, 1) := by decide +kernel
theorem dX5_ofFifteen_39 : decode cX5_ofFifteen 39 = .ok (.bipush 7, 2) := by decide +kernel
theorem dX5_ofFifteen_41 : decode cX5_ofFifteen 41 = .ok (.iand, 1) := by decide +kernel
theorem dX5_ofFifteen_42 : decode cX5_ofFifteen 42 = .ok (.ishl, 1) := by decide +kernel
theorem dX5_ofFifteen_43 : decode cX5_ofFifteen 43 = .ok (.invokevirtual 81, 3) := by decide +kernel
theorem dX5_ofFifteen_46 : decode cX5_ofFifteen 46 = .ok (.istore_n 3, 1) := by decide +kernel
theorem dX5_ofFifteen_47 : decode cX5_ofFifteen 47 = .ok (.iload_n 3, 1) := by decide +kernel
theorem dX5_ofFifteen_48 : decode cX5_ofFifteen 48 = .ok (.iload_n 1, 1) := by decide +kernel
theorem dX5_ofFifteen_49 : decode cX5_ofFifteen 49 = .ok (.sipush 1024, 3) := by decide +kernel
theorem dX5_ofFifteen_52 : decode cX5_ofFifteen 52 = .ok (.iand, 1) := by decide +kernel
theorem dX5_ofFifteen_53 : decode cX5_ofFifteen 53 = .ok (.iconst 1, 1) := by decide +kernel
theorem dX5_ofFifteen_54 : decode cX5_ofFifteen 54 = .ok (.if_icmp .ge 7, 3) := by decide +kernel
theorem dX5_ofFifteen_57 : decode cX5_ofFifteen 57 = .ok (.iconst 1, 1) := by decide +kernel
theorem dX5_ofFifteen_58 : decode cX5_ofFifteen 58 = .ok (.goto 4, 3) := by decide +kernel
theorem dX5_ofFifteen_61 : decode cX5_ofFifteen 61 = .ok (.iconst 0, 1) := by decide +kernel
theorem dX5_ofFifteen_62 : decode cX5_ofFifteen 62 = .ok (.if_icmp .ne 17, 3) := by decide +kernel
theorem dX5_ofFifteen_65 : decode cX5_ofFifteen 65 = .ok (.aload_n 0, 1) := by decide +kernel
theorem dX5_ofFifteen_66 : decode cX5_ofFifteen 66 = .ok (.aload_n 0, 1) := by decide +kernel
theorem dX5_ofFifteen_67 : decode cX5_ofFifteen 67 = .ok (.getfield 84, 3) := by decide +kernel
theorem dX5_ofFifteen_70 : decode cX5_ofFifteen 70 = .ok (.iload_n 2, 1) := by decide +kernel
theorem dX5_ofFifteen_71 : decode cX5_ofFifteen 71 = .ok (.iadd, 1) := by decide +kernel
theorem dX5_ofFifteen_72 : decode cX5_ofFifteen 72 = .ok (.sipush 1023, 3) := by decide +kernel
theorem dX5_ofFifteen_75 : decode cX5_ofFifteen 75 = .ok (.iand, 1) := by decide +kernel
theorem dX5_ofFifteen_76 : decode cX5_ofFifteen 76 = .ok (.putfield 84, 3) := by decide +kernel
theorem dX5_ofFifteen_79 : decode cX5_ofFifteen 79 = .ok (.iconst 0, 1) := by decide +kernel
theorem dX5_ofFifteen_80 : decode cX5_ofFifteen 80 = .ok (.ireturn, 1) := by decide +kernel
set_option maxRecDepth 20000 in
theorem ggX5_does_X5_ofPlaces : GoodIn wsX5_does wsX5_ofPlaces := goodIn_r _ [8, 9, 10, 11, 12, 7, 13, 14, 15, 16, 17, 18, 19, 20, 21, 22, 23, 24, 177, 178, 179, 180, 181, 182, 183, 184] (by decide +kernel) (by decide +kernel)
set_option maxRecDepth 20000 in
theorem gX5_does_X5_ofPlaces : GoodIn wsX5_does (wsV RX5 176 RX5 yX5_ofPlaces wsX5_ofPlaces) := goodIn_app (goodIn_of _ (by decide +kernel)) ggX5_does_X5_ofPlaces
set_option maxRecDepth 20000 in
theorem ggX5_does_X5_ofTwo : GoodIn wsX5_does wsX5_ofTwo := goodIn_r _ [28, 14, 15, 16, 7, 17, 29, 30, 31, 32, 33, 34, 35, 36, 37, 38, 39, 40, 41, 42, 43, 44, 45, 46, 47, 48, 49, 50, 51, 52, 53, 54, 55, 56, 57, 3, 58, 59, 60, 61, 62, 63, 64, 65, 66, 67, 68, 69, 70, 71, 72, 73, 74, 75, 177, 178, 179, 180, 181, 182, 183, 184] (by decide +kernel) (by decide +kernel)
set_option maxRecDepth 20000 in
theorem gX5_does_X5_ofTwo : GoodIn wsX5_does (wsV RX5 179 RX5 yX5_ofTwo wsX5_ofTwo) := goodIn_app (goodIn_of _ (by decide +kernel)) ggX5_does_X5_ofTwo
set_option maxRecDepth 20000 in
theorem ggX5_does_X5_products : GoodIn wsX5_does wsX5_products := goodIn_r _ [79, 14, 80, 81, 7, 82, 83, 84, 85, 86, 9, 41, 42, 43, 44, 87, 88, 89, 90, 177, 178, 179, 180, 181, 182, 183, 184] (by decide +kernel) (by decide +kernel)
set_option maxRecDepth 20000 in
theorem gX5_does_X5_products : GoodIn wsX5_does (wsV RX5 182 RX5 yX5_products wsX5_products) := goodIn_app (goodIn_of _ (by decide +kernel)) ggX5_does_X5_products
set_option maxRecDepth 20000 in
theorem ggX5_does_X5_pair : GoodIn wsX5_does wsX5_pair := goodIn_r _ [13, 14, 177, 178, 179, 180, 181, 182, 183, 184] (by decide +kernel) (by decide +kernel)
set_option maxRecDepth 20000 in
theorem gX5_does_X5_pair : GoodIn wsX5_does (wsV RX5 28 RX5 yX5_pair wsX5_pair) := goodIn_app (goodIn_of _ (by decide +kernel)) ggX5_does_X5_pair
set_option maxRecDepth 20000 in
theorem ggX5_does_X5_setPair : GoodIn wsX5_does wsX5_setPair := goodIn_r _ [90, 14, 177, 178, 179, 180, 181, 182, 183, 184] (by decide +kernel) (by decide +kernel)
set_option maxRecDepth 20000 in
theorem gX5_does_X5_setPair : GoodIn wsX5_does (wsV RX5 106 RX5 yX5_setPair wsX5_setPair) := goodIn_app (goodIn_of _ (by decide +kernel)) ggX5_does_X5_setPair
set_option maxRecDepth 20000 in
theorem ggX5_does_X5_ofNine : GoodIn wsX5_does wsX5_ofNine := goodIn_r _ [94, 95, 96, 14, 62, 63, 7, 64, 65, 66, 97, 98, 99, 100, 57, 3, 9, 15, 16, 17, 101, 102, 103, 104, 10, 11, 12, 13, 22, 23, 24, 105, 106, 107, 108, 87, 88, 89, 90, 109, 110, 111, 112, 18, 19, 20, 21, 113, 114, 115, 116, 117, 118, 119, 67, 68, 69, 70, 71, 120, 121, 122, 123, 124, 125, 126, 127, 128, 129, 130, 131, 58, 132, 133, 134, 135, 136, 137, 138, 139, 140, 141, 142, 143, 41, 42, 43, 44, 144, 145, 146, 147, 72, 73, 74, 75, 45, 46, 47, 48, 37, 38, 39, 40, 33, 34, 35, 36, 148, 149, 150, 151, 29, 30, 31, 32, 152, 153, 154, 155, 2, 156, 157, 158, 159, 53, 54, 55, 56, 59, 60, 61, 83, 84, 85, 86, 177, 178, 179, 180, 181, 182, 183, 184] (by decide +kernel) (by decide +kernel)
set_option maxRecDepth 20000 in
theorem gX5_does_X5_ofNine : GoodIn wsX5_does (wsV RX5 185 RX5 yX5_ofNine wsX5_ofNine) := goodIn_app (goodIn_of _ (by decide +kernel)) ggX5_does_X5_ofNine
set_option maxRecDepth 20000 in
theorem ggX5_does_X5_ofPort : GoodIn wsX5_does wsX5_ofPort := goodIn_r _ [163, 14, 15, 16, 7, 17, 177, 178, 179, 180, 181, 182, 183, 184] (by decide +kernel) (by decide +kernel)
set_option maxRecDepth 20000 in
theorem gX5_does_X5_ofPort : GoodIn wsX5_does (wsV RX5 188 RX5 yX5_ofPort wsX5_ofPort) := goodIn_app (goodIn_of _ (by decide +kernel)) ggX5_does_X5_ofPort
set_option maxRecDepth 20000 in
theorem ggX5_does_X5_jumps : GoodIn wsX5_does wsX5_jumps := goodIn_r _ [131, 3, 58, 132, 133, 134, 7, 135, 9, 10, 11, 12, 13, 14, 22, 23, 24, 136, 137, 138, 139, 105, 106, 107, 108, 87, 88, 89, 90, 177, 178, 179, 180, 181, 182, 183, 184] (by decide +kernel) (by decide +kernel)
set_option maxRecDepth 20000 in
theorem gX5_does_X5_jumps : GoodIn wsX5_does (wsV RX5 148 RX5 yX5_jumps wsX5_jumps) := goodIn_app (goodIn_of _ (by decide +kernel)) ggX5_does_X5_jumps
set_option maxRecDepth 20000 in
theorem ggX5_does_X5_ofFifteen : GoodIn wsX5_does wsX5_ofFifteen := goodIn_r _ [167, 168, 3, 169, 170, 171, 7, 172, 14, 15, 16, 17, 33, 34, 35, 36, 41, 42, 43, 44, 53, 54, 55, 56, 57, 58, 59, 60, 61, 62, 63, 64, 65, 66, 67, 68, 69, 70, 71, 177, 178, 179, 180, 181, 182, 183, 184] (by decide +kernel) (by decide +kernel)
set_option maxRecDepth 20000 in
theorem gX5_does_X5_ofFifteen : GoodIn wsX5_does (wsV RX5 191 RX5 yX5_ofFifteen wsX5_ofFifteen) := goodIn_app (goodIn_of _ (by decide +kernel)) ggX5_does_X5_ofFifteen
set_option maxRecDepth 20000 in
theorem ggX5_does_X5_ofNumber : GoodIn wsX5_does wsX5_ofNumber := goodIn_r _ [176, 14, 37, 38, 39, 7, 40, 33, 34, 35, 36, 41, 42, 43, 44, 45, 46, 47, 48, 29, 30, 31, 32, 72, 73, 74, 75, 177, 178, 179, 180, 181, 182, 183, 184] (by decide +kernel) (by decide +kernel)
set_option maxRecDepth 20000 in
theorem gX5_does_X5_ofNumber : GoodIn wsX5_does (wsV RX5 194 RX5 yX5_ofNumber wsX5_ofNumber) := goodIn_app (goodIn_of _ (by decide +kernel)) ggX5_does_X5_ofNumber
theorem dX5_does_0 : decode cX5_does 0 = .ok (.iload_n 1, 1) := by decide +kernel
theorem dX5_does_1 : decode cX5_does 1 = .ok (.bipush 12, 2) := by decide +kernel
theorem dX5_does_3 : decode cX5_does 3 = .ok (.ishr, 1) := by decide +kernel
theorem dX5_does_4 : decode cX5_does 4 = .ok (.istore_n 2, 1) := by decide +kernel
theorem dX5_does_5 : decode cX5_does 5 = .ok (.iload_n 1, 1) := by decide +kernel
theorem dX5_does_6 : decode cX5_does 6 = .ok (.ldc 175, 2) := by decide +kernel
theorem dX5_does_8 : decode cX5_does 8 = .ok (.iand, 1) := by decide +kernel
theorem dX5_does_9 : decode cX5_does 9 = .ok (.ldc 120, 2) := by decide +kernel
theorem dX5_does_11 : decode cX5_does 11 = .ok (.if_icmp .ne 9, 3) := by decide +kernel
theorem dX5_does_14 : decode cX5_does 14 = .ok (.aload_n 0, 1) := by decide +kernel
theorem dX5_does_15 : decode cX5_does 15 = .ok (.iload_n 1, 1) := by decide +kernel
theorem dX5_does_16 : decode cX5_does 16 = .ok (.invokevirtual 176, 3) := by decide +kernel
theorem dX5_does_19 : decode cX5_does 19 = .ok (.ireturn, 1) := by decide +kernel
theorem dX5_does_20 : decode cX5_does 20 = .ok (.iload_n 2, 1) := by decide +kernel
theorem dX5_does_21 : decode cX5_does 21 = .ok (.tableswitch 213 0 15 #[79, 140, 140, 213, 213, 213, 213, 213, 213, 147, 213, 153, 160, 160, 213, 207], 79) := by decide +kernel
theorem dX5_does_100 : decode cX5_does 100 = .ok (.iload_n 1, 1) := by decide +kernel
theorem dX5_does_101 : decode cX5_does 101 = .ok (.sipush 1023, 3) := by decide +kernel
theorem dX5_does_104 : decode cX5_does 104 = .ok (.if_icmp .le 11, 3) := by decide +kernel
theorem dX5_does_107 : decode cX5_does 107 = .ok (.aload_n 0, 1) := by decide +kernel
theorem dX5_does_108 : decode cX5_does 108 = .ok (.iload_n 1, 1) := by decide +kernel
theorem dX5_does_109 : decode cX5_does 109 = .ok (.invokevirtual 179, 3) := by decide +kernel
theorem dX5_does_112 : decode cX5_does 112 = .ok (.goto 47, 3) := by decide +kernel
theorem dX5_does_115 : decode cX5_does 115 = .ok (.iload_n 1, 1) := by decide +kernel
theorem dX5_does_116 : decode cX5_does 116 = .ok (.sipush 511, 3) := by decide +kernel
theorem dX5_does_119 : decode cX5_does 119 = .ok (.if_icmp .le 11, 3) := by decide +kernel
theorem dX5_does_122 : decode cX5_does 122 = .ok (.aload_n 0, 1) := by decide +kernel
theorem dX5_does_123 : decode cX5_does 123 = .ok (.iload_n 1, 1) := by decide +kernel
theorem dX5_does_124 : decode cX5_does 124 = .ok (.invokevirtual 182, 3) := by decide +kernel
theorem dX5_does_127 : decode cX5_does 127 = .ok (.goto 32, 3) := by decide +kernel
theorem dX5_does_130 : decode cX5_does 130 = .ok (.iload_n 1, 1) := by decide +kernel
theorem dX5_does_131 : decode cX5_does 131 = .ok (.sipush 255, 3) := by decide +kernel
theorem dX5_does_134 : decode cX5_does 134 = .ok (.if_icmp .le 25, 3) := by decide +kernel
theorem dX5_does_137 : decode cX5_does 137 = .ok (.aload_n 0, 1) := by decide +kernel
theorem dX5_does_138 : decode cX5_does 138 = .ok (.iconst 2, 1) := by decide +kernel
theorem dX5_does_139 : decode cX5_does 139 = .ok (.iload_n 1, 1) := by decide +kernel
theorem dX5_does_140 : decode cX5_does 140 = .ok (.iconst 4, 1) := by decide +kernel
theorem dX5_does_141 : decode cX5_does 141 = .ok (.ishr, 1) := by decide +kernel
theorem dX5_does_142 : decode cX5_does 142 = .ok (.bipush 15, 2) := by decide +kernel
theorem dX5_does_144 : decode cX5_does 144 = .ok (.iand, 1) := by decide +kernel
theorem dX5_does_145 : decode cX5_does 145 = .ok (.imul, 1) := by decide +kernel
theorem dX5_does_146 : decode cX5_does 146 = .ok (.aload_n 0, 1) := by decide +kernel
theorem dX5_does_147 : decode cX5_does 147 = .ok (.iconst 2, 1) := by decide +kernel
theorem dX5_does_148 : decode cX5_does 148 = .ok (.iload_n 1, 1) := by decide +kernel
theorem dX5_does_149 : decode cX5_does 149 = .ok (.bipush 15, 2) := by decide +kernel
theorem dX5_does_151 : decode cX5_does 151 = .ok (.iand, 1) := by decide +kernel
theorem dX5_does_152 : decode cX5_does 152 = .ok (.imul, 1) := by decide +kernel
theorem dX5_does_153 : decode cX5_does 153 = .ok (.invokevirtual 28, 3) := by decide +kernel
theorem dX5_does_156 : decode cX5_does 156 = .ok (.invokevirtual 106, 3) := by decide +kernel
theorem dX5_does_159 : decode cX5_does 159 = .ok (.iconst 0, 1) := by decide +kernel
theorem dX5_does_160 : decode cX5_does 160 = .ok (.ireturn, 1) := by decide +kernel
theorem dX5_does_161 : decode cX5_does 161 = .ok (.aload_n 0, 1) := by decide +kernel
theorem dX5_does_162 : decode cX5_does 162 = .ok (.iload_n 1, 1) := by decide +kernel
theorem dX5_does_163 : decode cX5_does 163 = .ok (.invokevirtual 179, 3) := by decide +kernel
theorem dX5_does_166 : decode cX5_does 166 = .ok (.iconst 0, 1) := by decide +kernel
theorem dX5_does_167 : decode cX5_does 167 = .ok (.ireturn, 1) := by decide +kernel
theorem dX5_does_168 : decode cX5_does 168 = .ok (.aload_n 0, 1) := by decide +kernel
theorem dX5_does_169 : decode cX5_does 169 = .ok (.iload_n 1, 1) := by decide +kernel
theorem dX5_does_170 : decode cX5_does 170 = .ok (.invokevirtual 185, 3) := by decide +kernel
theorem dX5_does_173 : decode cX5_does 173 = .ok (.ireturn, 1) := by decide +kernel
theorem dX5_does_174 : decode cX5_does 174 = .ok (.aload_n 0, 1) := by decide +kernel
theorem dX5_does_175 : decode cX5_does 175 = .ok (.iload_n 1, 1) := by decide +kernel
theorem dX5_does_176 : decode cX5_does 176 = .ok (.invokevirtual 188, 3) := by decide +kernel
theorem dX5_does_179 : decode cX5_does 179 = .ok (.iconst 0, 1) := by decide +kernel
theorem dX5_does_180 : decode cX5_does 180 = .ok (.ireturn, 1) := by decide +kernel
theorem dX5_does_181 : decode cX5_does 181 = .ok (.iload_n 1, 1) := by decide +kernel
theorem dX5_does_182 : decode cX5_does 182 = .ok (.sipush 4095, 3) := by decide +kernel
theorem dX5_does_185 : decode cX5_does 185 = .ok (.iand, 1) := by decide +kernel
theorem dX5_does_186 : decode cX5_does 186 = .ok (.istore_n 3, 1) := by decide +kernel
theorem dX5_does_187 : decode cX5_does 187 = .ok (.aload_n 0, 1) := by decide +kernel
theorem dX5_does_188 : decode cX5_does 188 = .ok (.aload_n 0, 1) := by decide +kernel
theorem dX5_does_189 : decode cX5_does 189 = .ok (.getfield 84, 3) := by decide +kernel
theorem dX5_does_192 : decode cX5_does 192 = .ok (.aload_n 0, 1) := by decide +kernel
theorem dX5_does_193 : decode cX5_does 193 = .ok (.getfield 84, 3) := by decide +kernel
theorem dX5_does_196 : decode cX5_does 196 = .ok (.iload_n 3, 1) := by decide +kernel
theorem dX5_does_197 : decode cX5_does 197 = .ok (.sipush 2047, 3) := by decide +kernel
theorem dX5_does_200 : decode cX5_does 200 = .ok (.if_icmp .le 11, 3) := by decide +kernel
theorem dX5_does_203 : decode cX5_does 203 = .ok (.iload_n 3, 1) := by decide +kernel
theorem dX5_does_204 : decode cX5_does 204 = .ok (.sipush 4096, 3) := by decide +kernel
theorem dX5_does_207 : decode cX5_does 207 = .ok (.isub, 1) := by decide +kernel
theorem dX5_does_208 : decode cX5_does 208 = .ok (.goto 4, 3) := by decide +kernel
theorem dX5_does_211 : decode cX5_does 211 = .ok (.iload_n 3, 1) := by decide +kernel
theorem dX5_does_212 : decode cX5_does 212 = .ok (.iadd, 1) := by decide +kernel
theorem dX5_does_213 : decode cX5_does 213 = .ok (.iload_n 2, 1) := by decide +kernel
theorem dX5_does_214 : decode cX5_does 214 = .ok (.bipush 13, 2) := by decide +kernel
theorem dX5_does_216 : decode cX5_does 216 = .ok (.if_icmp .ne 7, 3) := by decide +kernel
theorem dX5_does_219 : decode cX5_does 219 = .ok (.iconst 1, 1) := by decide +kernel
theorem dX5_does_220 : decode cX5_does 220 = .ok (.goto 4, 3) := by decide +kernel
theorem dX5_does_223 : decode cX5_does 223 = .ok (.iconst 0, 1) := by decide +kernel
theorem dX5_does_224 : decode cX5_does 224 = .ok (.invokevirtual 148, 3) := by decide +kernel
theorem dX5_does_227 : decode cX5_does 227 = .ok (.ireturn, 1) := by decide +kernel
theorem dX5_does_228 : decode cX5_does 228 = .ok (.aload_n 0, 1) := by decide +kernel
theorem dX5_does_229 : decode cX5_does 229 = .ok (.iload_n 1, 1) := by decide +kernel
theorem dX5_does_230 : decode cX5_does 230 = .ok (.invokevirtual 191, 3) := by decide +kernel
theorem dX5_does_233 : decode cX5_does 233 = .ok (.ireturn, 1) := by decide +kernel
theorem dX5_does_234 : decode cX5_does 234 = .ok (.aload_n 0, 1) := by decide +kernel
theorem dX5_does_235 : decode cX5_does 235 = .ok (.iload_n 1, 1) := by decide +kernel
theorem dX5_does_236 : decode cX5_does 236 = .ok (.invokevirtual 194, 3) := by decide +kernel
theorem dX5_does_239 : decode cX5_does 239 = .ok (.iconst 0, 1) := by decide +kernel
theorem dX5_does_240 : decode cX5_does 240 = .ok (.ireturn, 1) := by decide +kernel
set_option maxRecDepth 20000 in
theorem ggX5_enters_X5_canCall : GoodIn wsX5_enters wsX5_canCall := goodIn_r _ [8, 9, 10, 11, 12, 7, 13, 14, 15, 16, 17, 34, 35, 36, 37, 38, 39, 40, 41] (by decide +kernel) (by decide +kernel)
set_option maxRecDepth 20000 in
theorem gX5_enters_X5_canCall : GoodIn wsX5_enters (wsV RX5 141 RX5 yX5_canCall wsX5_canCall) := goodIn_app (goodIn_of _ (by decide +kernel)) ggX5_enters_X5_canCall
set_option maxRecDepth 20000 in
theorem ggX5_enters_X5_calls : GoodIn wsX5_enters wsX5_calls := goodIn_r _ [21, 3, 22, 23, 24, 7, 25, 14, 9, 10, 11, 12, 13, 26, 27, 28, 29, 34, 35, 36, 37, 38, 39, 40, 41] (by decide +kernel) (by decide +kernel)
set_option maxRecDepth 20000 in
theorem gX5_enters_X5_calls : GoodIn wsX5_enters (wsV RX5 145 RX5 yX5_calls wsX5_calls) := goodIn_app (goodIn_of _ (by decide +kernel)) ggX5_enters_X5_calls
set_option maxRecDepth 20000 in
theorem ggX5_enters_X5_flag : GoodIn wsX5_enters wsX5_flag := goodIn_r _ [33, 14, 34, 35, 36, 37, 38, 39, 40, 41] (by decide +kernel) (by decide +kernel)
set_option maxRecDepth 20000 in
theorem gX5_enters_X5_flag : GoodIn wsX5_enters (wsV RX5 74 RX5 yX5_flag wsX5_flag) := goodIn_app (goodIn_of _ (by decide +kernel)) ggX5_enters_X5_flag
theorem dX5_enters_0 : decode cX5_enters 0 = .ok (.aload_n 0, 1) := by decide +kernel
theorem dX5_enters_1 : decode cX5_enters 1 = .ok (.invokevirtual 141, 3) := by decide +kernel
theorem dX5_enters_4 : decode cX5_enters 4 = .ok (.ifCond .ne 5, 3) := by decide +kernel
theorem dX5_enters_7 : decode cX5_enters 7 = .ok (.iconst 3, 1) := by decide +kernel
theorem dX5_enters_8 : decode cX5_enters 8 = .ok (.ireturn, 1) := by decide +kernel
theorem dX5_enters_9 : decode cX5_enters 9 = .ok (.iconst 1, 1) := by decide +kernel
theorem dX5_enters_10 : decode cX5_enters 10 = .ok (.istore_n 1, 1) := by decide +kernel
theorem dX5_enters_11 : decode cX5_enters 11 = .ok (.aload_n 0, 1) := by decide +kernel
theorem dX5_enters_12 : decode cX5_enters 12 = .ok (.getfield 36, 3) := by decide +kernel
theorem dX5_enters_15 : decode cX5_enters 15 = .ok (.iload_n 1, 1) := by decide +kernel
theorem dX5_enters_16 : decode cX5_enters 16 = .ok (.ishr, 1) := by decide +kernel
theorem dX5_enters_17 : decode cX5_enters 17 = .ok (.iconst 1, 1) := by decide +kernel
theorem dX5_enters_18 : decode cX5_enters 18 = .ok (.iand, 1) := by decide +kernel
theorem dX5_enters_19 : decode cX5_enters 19 = .ok (.ifCond .ne 9, 3) := by decide +kernel
theorem dX5_enters_22 : decode cX5_enters 22 = .ok (.iinc 1 1, 3) := by decide +kernel
theorem dX5_enters_25 : decode cX5_enters 25 = .ok (.goto (-14), 3) := by decide +kernel
theorem dX5_enters_28 : decode cX5_enters 28 = .ok (.aload_n 0, 1) := by decide +kernel
theorem dX5_enters_29 : decode cX5_enters 29 = .ok (.dup, 1) := by decide +kernel
theorem dX5_enters_30 : decode cX5_enters 30 = .ok (.getfield 36, 3) := by decide +kernel
theorem dX5_enters_33 : decode cX5_enters 33 = .ok (.iconst 1, 1) := by decide +kernel
theorem dX5_enters_34 : decode cX5_enters 34 = .ok (.iload_n 1, 1) := by decide +kernel
theorem dX5_enters_35 : decode cX5_enters 35 = .ok (.ishl, 1) := by decide +kernel
theorem dX5_enters_36 : decode cX5_enters 36 = .ok (.iconst (-1), 1) := by decide +kernel
theorem dX5_enters_37 : decode cX5_enters 37 = .ok (.ixor, 1) := by decide +kernel
theorem dX5_enters_38 : decode cX5_enters 38 = .ok (.iand, 1) := by decide +kernel
theorem dX5_enters_39 : decode cX5_enters 39 = .ok (.putfield 36, 3) := by decide +kernel
theorem dX5_enters_42 : decode cX5_enters 42 = .ok (.aload_n 0, 1) := by decide +kernel
theorem dX5_enters_43 : decode cX5_enters 43 = .ok (.aload_n 0, 1) := by decide +kernel
theorem dX5_enters_44 : decode cX5_enters 44 = .ok (.getfield 19, 3) := by decide +kernel
theorem dX5_enters_47 : decode cX5_enters 47 = .ok (.iconst 2, 1) := by decide +kernel
theorem dX5_enters_48 : decode cX5_enters 48 = .ok (.iload_n 1, 1) := by decide +kernel
theorem dX5_enters_49 : decode cX5_enters 49 = .ok (.imul, 1) := by decide +kernel
theorem dX5_enters_50 : decode cX5_enters 50 = .ok (.invokevirtual 145, 3) := by decide +kernel
theorem dX5_enters_53 : decode cX5_enters 53 = .ok (.aload_n 0, 1) := by decide +kernel
theorem dX5_enters_54 : decode cX5_enters 54 = .ok (.aload_n 0, 1) := by decide +kernel
theorem dX5_enters_55 : decode cX5_enters 55 = .ok (.getfield 84, 3) := by decide +kernel
theorem dX5_enters_58 : decode cX5_enters 58 = .ok (.putfield 19, 3) := by decide +kernel
theorem dX5_enters_61 : decode cX5_enters 61 = .ok (.aload_n 0, 1) := by decide +kernel
theorem dX5_enters_62 : decode cX5_enters 62 = .ok (.sipush 128, 3) := by decide +kernel
theorem dX5_enters_65 : decode cX5_enters 65 = .ok (.iconst 0, 1) := by decide +kernel
theorem dX5_enters_66 : decode cX5_enters 66 = .ok (.invokevirtual 74, 3) := by decide +kernel
theorem dX5_enters_69 : decode cX5_enters 69 = .ok (.iconst 1, 1) := by decide +kernel
theorem dX5_enters_70 : decode cX5_enters 70 = .ok (.ireturn, 1) := by decide +kernel
set_option maxRecDepth 20000 in
theorem ggX5_stepOnce_X5_has : GoodIn wsX5_stepOnce wsX5_has := goodIn_r _ [12, 13, 200, 201, 202, 203, 204, 205, 206, 207] (by decide +kernel) (by decide +kernel)
set_option maxRecDepth 20000 in
theorem gX5_stepOnce_X5_has : GoodIn wsX5_stepOnce (wsV RX5 81 RX5 yX5_has wsX5_has) := goodIn_app (goodIn_of _ (by decide +kernel)) ggX5_stepOnce_X5_has
set_option maxRecDepth 20000 in
theorem ggX5_stepOnce_X5_enters : GoodIn wsX5_stepOnce wsX5_enters := goodIn_r _ [17, 1, 4, 5, 18, 19, 20, 11, 21, 22, 23, 24, 25, 26, 13, 27, 28, 29, 30, 31, 32, 33, 34, 35, 36, 37, 38, 39, 40, 41, 42, 43, 44, 45, 200, 201, 202, 203, 204, 205, 206, 207] (by decide +kernel) (by decide +kernel)
set_option maxRecDepth 20000 in
theorem gX5_stepOnce_X5_enters : GoodIn wsX5_stepOnce (wsV RX5 197 RX5 yX5_enters wsX5_enters) := goodIn_app (goodIn_of _ (by decide +kernel)) ggX5_stepOnce_X5_enters
set_option maxRecDepth 20000 in
theorem ggX5_stepOnce_X5_isIllegal : GoodIn wsX5_stepOnce wsX5_isIllegal := goodIn_r _ [48, 49, 50, 51, 11, 52, 53, 54, 55, 56, 57, 58, 59, 60, 61, 62, 63, 64, 65, 66, 67, 68, 69, 70, 71, 72, 7, 73, 74, 75] (by decide +kernel) (by decide +kernel)
set_option maxRecDepth 20000 in
theorem gX5_stepOnce_X5_isIllegal : GoodIn wsX5_stepOnce (va_wsS RX5 68 yX5_isIllegal wsX5_isIllegal) := goodIn_app (goodIn_of _ (by decide +kernel)) ggX5_stepOnce_X5_isIllegal
set_option maxRecDepth 20000 in
theorem ggX5_stepOnce_X5_does : GoodIn wsX5_stepOnce wsX5_does := goodIn_r _ [79, 80, 81, 5, 82, 83, 84, 11, 85, 22, 23, 24, 25, 26, 13, 61, 62, 63, 86, 87, 88, 89, 27, 28, 29, 90, 91, 92, 93, 94, 95, 96, 97, 8, 9, 10, 12, 98, 99, 100, 101, 42, 43, 44, 45, 102, 103, 104, 105, 106, 107, 108, 109, 110, 111, 112, 113, 3, 114, 115, 116, 117, 50, 51, 52, 53, 54, 64, 65, 66, 67, 68, 118, 119, 120, 121, 122, 123, 124, 125, 126, 127, 128, 129, 130, 131, 132, 38, 39, 40, 41, 133, 134, 135, 136, 137, 138, 139, 140, 141, 142, 143, 144, 145, 146, 34, 35, 36, 37, 147, 148, 149, 150, 151, 152, 153, 154, 58, 59, 60, 155, 156, 157, 158, 75, 72, 7, 73, 159, 160, 161, 162, 18, 19, 20, 21, 30, 31, 32, 33, 163, 164, 165, 166, 167, 168, 169, 170, 171, 172, 173, 174, 175, 176, 177, 178, 179, 180, 181, 182, 183, 184, 185, 186, 187, 188, 189, 190, 191, 192, 193, 194, 195, 196, 197, 198, 199, 200, 201, 202, 203, 204, 205, 206, 207] (by decide +kernel) (by decide +kernel)
set_option maxRecDepth 20000 in
theorem gX5_stepOnce_X5_does : GoodIn wsX5_stepOnce (wsV RX5 200 RX5 yX5_does wsX5_does) := goodIn_app (goodIn_of _ (by decide +kernel)) ggX5_stepOnce_X5_does
theorem dX5_stepOnce_0 : decode cX5_stepOnce 0 = .ok (.aload_n 0, 1) := by decide +kernel
theorem dX5_stepOnce_1 : decode cX5_stepOnce 1 = .ok (.sipush 128, 3) := by decide +kernel
theorem dX5_stepOnce_4 : decode cX5_stepOnce 4 = .ok (.invokevirtual 81, 3) := by decide +kernel
theorem dX5_stepOnce_7 : decode cX5_stepOnce 7 = .ok (.ifCond .eq 22, 3) := by decide +kernel
theorem dX5_stepOnce_10 : decode cX5_stepOnce 10 = .ok (.aload_n 0, 1) := by decide +kernel
theorem dX5_stepOnce_11 : decode cX5_stepOnce 11 = .ok (.getfield 36, 3) := by decide +kernel
theorem dX5_stepOnce_14 : decode cX5_stepOnce 14 = .ok (.ifCond .eq 15, 3) := by decide +kernel
theorem dX5_stepOnce_17 : decode cX5_stepOnce 17 = .ok (.aload_n 0, 1) := by decide +kernel
theorem dX5_stepOnce_18 : decode cX5_stepOnce 18 = .ok (.getfield 32, 3) := by decide +kernel
theorem dX5_stepOnce_21 : decode cX5_stepOnce 21 = .ok (.ifCond .ne 8, 3) := by decide +kernel
theorem dX5_stepOnce_24 : decode cX5_stepOnce 24 = .ok (.aload_n 0, 1) := by decide +kernel
theorem dX5_stepOnce_25 : decode cX5_stepOnce 25 = .ok (.invokevirtual 197, 3) := by decide +kernel
theorem dX5_stepOnce_28 : decode cX5_stepOnce 28 = .ok (.ireturn, 1) := by decide +kernel
theorem dX5_stepOnce_29 : decode cX5_stepOnce 29 = .ok (.aload_n 0, 1) := by decide +kernel
theorem dX5_stepOnce_30 : decode cX5_stepOnce 30 = .ok (.getfield 7, 3) := by decide +kernel
theorem dX5_stepOnce_33 : decode cX5_stepOnce 33 = .ok (.aload_n 0, 1) := by decide +kernel
theorem dX5_stepOnce_34 : decode cX5_stepOnce 34 = .ok (.getfield 19, 3) := by decide +kernel
theorem dX5_stepOnce_37 : decode cX5_stepOnce 37 = .ok (.iaload, 1) := by decide +kernel
theorem dX5_stepOnce_38 : decode cX5_stepOnce 38 = .ok (.istore_n 1, 1) := by decide +kernel
theorem dX5_stepOnce_39 : decode cX5_stepOnce 39 = .ok (.iload_n 1, 1) := by decide +kernel
theorem dX5_stepOnce_40 : decode cX5_stepOnce 40 = .ok (.invokestatic 68, 3) := by decide +kernel
theorem dX5_stepOnce_43 : decode cX5_stepOnce 43 = .ok (.ifCond .eq 5, 3) := by decide +kernel
theorem dX5_stepOnce_46 : decode cX5_stepOnce 46 = .ok (.iconst 2, 1) := by decide +kernel
theorem dX5_stepOnce_47 : decode cX5_stepOnce 47 = .ok (.ireturn, 1) := by decide +kernel
theorem dX5_stepOnce_48 : decode cX5_stepOnce 48 = .ok (.aload_n 0, 1) := by decide +kernel
theorem dX5_stepOnce_49 : decode cX5_stepOnce 49 = .ok (.aload_n 0, 1) := by decide +kernel
theorem dX5_stepOnce_50 : decode cX5_stepOnce 50 = .ok (.getfield 19, 3) := by decide +kernel
theorem dX5_stepOnce_53 : decode cX5_stepOnce 53 = .ok (.iconst 1, 1) := by decide +kernel
theorem dX5_stepOnce_54 : decode cX5_stepOnce 54 = .ok (.iadd, 1) := by decide +kernel
theorem dX5_stepOnce_55 : decode cX5_stepOnce 55 = .ok (.sipush 1023, 3) := by decide +kernel
theorem dX5_stepOnce_58 : decode cX5_stepOnce 58 = .ok (.iand, 1) := by decide +kernel
theorem dX5_stepOnce_59 : decode cX5_stepOnce 59 = .ok (.putfield 84, 3) := by decide +kernel
theorem dX5_stepOnce_62 : decode cX5_stepOnce 62 = .ok (.aload_n 0, 1) := by decide +kernel
theorem dX5_stepOnce_63 : decode cX5_stepOnce 63 = .ok (.iload_n 1, 1) := by decide +kernel
theorem dX5_stepOnce_64 : decode cX5_stepOnce 64 = .ok (.invokevirtual 200, 3) := by decide +kernel
theorem dX5_stepOnce_67 : decode cX5_stepOnce 67 = .ok (.istore_n 2, 1) := by decide +kernel
theorem dX5_stepOnce_68 : decode cX5_stepOnce 68 = .ok (.iload_n 2, 1) := by decide +kernel
theorem dX5_stepOnce_69 : decode cX5_stepOnce 69 = .ok (.ifCond .ne 32, 3) := by decide +kernel
theorem dX5_stepOnce_72 : decode cX5_stepOnce 72 = .ok (.aload_n 0, 1) := by decide +kernel
theorem dX5_stepOnce_73 : decode cX5_stepOnce 73 = .ok (.aload_n 0, 1) := by decide +kernel
theorem dX5_stepOnce_74 : decode cX5_stepOnce 74 = .ok (.getfield 84, 3) := by decide +kernel
theorem dX5_stepOnce_77 : decode cX5_stepOnce 77 = .ok (.putfield 19, 3) := by decide +kernel
theorem dX5_stepOnce_80 : decode cX5_stepOnce 80 = .ok (.aload_n 0, 1) := by decide +kernel
theorem dX5_stepOnce_81 : decode cX5_stepOnce 81 = .ok (.iload_n 1, 1) := by decide +kernel
theorem dX5_stepOnce_82 : decode cX5_stepOnce 82 = .ok (.ldc 203, 2) := by decide +kernel
theorem dX5_stepOnce_84 : decode cX5_stepOnce 84 = .ok (.if_icmp .eq 9, 3) := by decide +kernel
theorem dX5_stepOnce_87 : decode cX5_stepOnce 87 = .ok (.iload_n 1, 1) := by decide +kernel
theorem dX5_stepOnce_88 : decode cX5_stepOnce 88 = .ok (.ldc 57, 2) := by decide +kernel
theorem dX5_stepOnce_90 : decode cX5_stepOnce 90 = .ok (.if_icmp .ne 7, 3) := by decide +kernel
theorem dX5_stepOnce_93 : decode cX5_stepOnce 93 = .ok (.iconst 1, 1) := by decide +kernel
theorem dX5_stepOnce_94 : decode cX5_stepOnce 94 = .ok (.goto 4, 3) := by decide +kernel
theorem dX5_stepOnce_97 : decode cX5_stepOnce 97 = .ok (.iconst 0, 1) := by decide +kernel
theorem dX5_stepOnce_98 : decode cX5_stepOnce 98 = .ok (.putfield 32, 3) := by decide +kernel
theorem dX5_stepOnce_101 : decode cX5_stepOnce 101 = .ok (.iload_n 2, 1) := by decide +kernel
theorem dX5_stepOnce_102 : decode cX5_stepOnce 102 = .ok (.ireturn, 1) := by decide +kernel
set_option maxRecDepth 20000 in
theorem ggX5_step_X5_stepOnce : GoodIn wsX5_step wsX5_stepOnce := goodIn_r _ [7, 8, 9, 10, 11, 12, 13, 14, 15, 16, 17, 6, 18, 19, 20, 21, 22, 23, 24, 25, 26, 27, 28, 29, 30, 31, 32, 33, 34, 35, 36, 37, 38, 39, 40, 41, 42, 43, 44, 45, 46, 47, 48, 49, 50, 51, 52, 53, 54, 55, 56, 57, 58, 59, 60, 61, 62, 63, 64, 65, 66, 67, 68, 69, 70, 71, 72, 73, 74, 75, 76, 77, 78, 79, 80, 81, 82, 83, 84, 85, 86, 87, 88, 89, 90, 91, 92, 93, 94, 95, 96, 97, 98, 99, 100, 101, 102, 103, 104, 105, 106, 107, 108, 109, 110, 111, 112, 113, 114, 115, 116, 117, 118, 119, 2, 120, 121, 122, 123, 124, 125, 126, 127, 128, 129, 130, 131, 132, 133, 134, 135, 136, 137, 138, 139, 140, 141, 142, 143, 144, 145, 146, 147, 148, 149, 150, 151, 152, 153, 154, 155, 156, 157, 158, 159, 160, 161, 162, 163, 164, 165, 166, 167, 168, 169, 170, 171, 172, 173, 174, 175, 176, 177, 178, 179, 180, 181, 182, 183, 184, 185, 186, 187, 188, 189, 190, 191, 192, 193, 194, 195, 196, 197, 198, 199, 200, 201, 202, 203, 204, 205, 206, 207, 208, 209, 210, 211, 212] (by decide +kernel) (by decide +kernel)
set_option maxRecDepth 20000 in
theorem gX5_step_X5_stepOnce : GoodIn wsX5_step (wsV RX5 204 RX5 yX5_stepOnce wsX5_stepOnce) := goodIn_app (goodIn_of _ (by decide +kernel)) ggX5_step_X5_stepOnce
theorem dX5_step_0 : decode cX5_step 0 = .ok (.aload_n 0, 1) := by decide +kernel
theorem dX5_step_1 : decode cX5_step 1 = .ok (.aload_n 0, 1) := by decide +kernel
theorem dX5_step_2 : decode cX5_step 2 = .ok (.invokevirtual 204, 3) := by decide +kernel
theorem dX5_step_5 : decode cX5_step 5 = .ok (.putfield 207, 3) := by decide +kernel
theorem dX5_step_8 : decode cX5_step 8 = .ok (.aload_n 0, 1) := by decide +kernel
theorem dX5_step_9 : decode cX5_step 9 = .ok (.getfield 16, 3) := by decide +kernel
theorem dX5_step_12 : decode cX5_step 12 = .ok (.aload_n 0, 1) := by decide +kernel
theorem dX5_step_13 : decode cX5_step 13 = .ok (.getfield 207, 3) := by decide +kernel
theorem dX5_step_16 : decode cX5_step 16 = .ok (.dup2, 1) := by decide +kernel
theorem dX5_step_17 : decode cX5_step 17 = .ok (.iaload, 1) := by decide +kernel
theorem dX5_step_18 : decode cX5_step 18 = .ok (.iconst 1, 1) := by decide +kernel
theorem dX5_step_19 : decode cX5_step 19 = .ok (.iadd, 1) := by decide +kernel
theorem dX5_step_20 : decode cX5_step 20 = .ok (.iastore, 1) := by decide +kernel
theorem dX5_step_21 : decode cX5_step 21 = .ok (.aload_n 0, 1) := by decide +kernel
theorem dX5_step_22 : decode cX5_step 22 = .ok (.getfield 207, 3) := by decide +kernel
theorem dX5_step_25 : decode cX5_step 25 = .ok (.ireturn, 1) := by decide +kernel
set_option maxRecDepth 20000 in
theorem ggX5_run_X5_in : GoodIn wsX5_run wsX5_in := goodIn_r _ [4] (by decide +kernel) (by decide +kernel)
set_option maxRecDepth 20000 in
theorem gX5_run_X5_in : GoodIn wsX5_run (va_wsS RX5 23 yX5_in wsX5_in) := goodIn_app (goodIn_of _ (by decide +kernel)) ggX5_run_X5_in
set_option maxRecDepth 20000 in
theorem ggX5_run_X5_step : GoodIn wsX5_run wsX5_step := goodIn_r _ [8, 9, 10, 11, 12, 13, 3, 14, 15, 16, 17, 18, 19, 20, 21, 22, 23, 24, 25, 26, 27, 28, 29, 30, 31, 32, 33, 34, 35, 36, 37, 38, 39, 40, 41, 42, 43, 44, 45, 46, 47, 48, 49, 50, 51, 52, 53, 54, 55, 56, 57, 58, 59, 60, 61, 62, 63, 64, 65, 66, 67, 68, 69, 70, 71, 72, 73, 74, 75, 76, 77, 78, 79, 80, 81, 82, 83, 84, 85, 86, 87, 88, 89, 90, 91, 92, 93, 94, 95, 96, 97, 98, 99, 100, 101, 102, 103, 104, 105, 106, 107, 108, 109, 110, 111, 112, 113, 114, 115, 116, 117, 118, 119, 120, 121, 122, 123, 124, 125, 126, 127, 128, 129, 130, 131, 132, 133, 134, 135, 136, 137, 138, 139, 140, 141, 142, 143, 144, 145, 146, 147, 148, 149, 150, 151, 152, 153, 154, 155, 156, 157, 158, 159, 160, 161, 162, 163, 164, 165, 166, 167, 168, 169, 170, 171, 172, 173, 174, 175, 176, 177, 178, 179, 180, 181, 182, 183, 184, 185, 186, 187, 188, 189, 190, 191, 192, 193, 194, 195, 196, 197, 198, 199, 200, 201, 202, 203, 204, 205, 206, 207, 208, 209, 210, 211, 212, 213, 214, 215, 216, 217, 218, 219] (by decide +kernel) (by decide +kernel)
set_option maxRecDepth 20000 in
theorem gX5_run_X5_step : GoodIn wsX5_run (wsV RX5 210 RX5 yX5_step wsX5_step) := goodIn_app (goodIn_of _ (by decide +kernel)) ggX5_run_X5_step
theorem dX5_run_0 : decode cX5_run 0 = .ok (.iload_n 1, 1) := by decide +kernel
theorem dX5_run_1 : decode cX5_run 1 = .ok (.iconst 1, 1) := by decide +kernel
theorem dX5_run_2 : decode cX5_run 2 = .ok (.sipush 3000, 3) := by decide +kernel
theorem dX5_run_5 : decode cX5_run 5 = .ok (.invokestatic 23, 3) := by decide +kernel
theorem dX5_run_8 : decode cX5_run 8 = .ok (.ifCond .ne 5, 3) := by decide +kernel
theorem dX5_run_11 : decode cX5_run 11 = .ok (.iconst (-1), 1) := by decide +kernel
theorem dX5_run_12 : decode cX5_run 12 = .ok (.ireturn, 1) := by decide +kernel
theorem dX5_run_13 : decode cX5_run 13 = .ok (.iconst 0, 1) := by decide +kernel
theorem dX5_run_14 : decode cX5_run 14 = .ok (.istore_n 2, 1) := by decide +kernel
theorem dX5_run_15 : decode cX5_run 15 = .ok (.iconst 1, 1) := by decide +kernel
theorem dX5_run_16 : decode cX5_run 16 = .ok (.istore_n 3, 1) := by decide +kernel
theorem dX5_run_17 : decode cX5_run 17 = .ok (.iload_n 3, 1) := by decide +kernel
theorem dX5_run_18 : decode cX5_run 18 = .ok (.ifCond .eq 37, 3) := by decide +kernel
theorem dX5_run_21 : decode cX5_run 21 = .ok (.iload_n 2, 1) := by decide +kernel
theorem dX5_run_22 : decode cX5_run 22 = .ok (.iload_n 1, 1) := by decide +kernel
theorem dX5_run_23 : decode cX5_run 23 = .ok (.if_icmp .ge 32, 3) := by decide +kernel
theorem dX5_run_26 : decode cX5_run 26 = .ok (.aload_n 0, 1) := by decide +kernel
theorem dX5_run_27 : decode cX5_run 27 = .ok (.invokevirtual 210, 3) := by decide +kernel
theorem dX5_run_30 : decode cX5_run 30 = .ok (.iconst 2, 1) := by decide +kernel
theorem dX5_run_31 : decode cX5_run 31 = .ok (.if_icmp .ge 7, 3) := by decide +kernel
theorem dX5_run_34 : decode cX5_run 34 = .ok (.iconst 1, 1) := by decide +kernel
theorem dX5_run_35 : decode cX5_run 35 = .ok (.goto 4, 3) := by decide +kernel
theorem dX5_run_38 : decode cX5_run 38 = .ok (.iconst 0, 1) := by decide +kernel
theorem dX5_run_39 : decode cX5_run 39 = .ok (.istore_n 3, 1) := by decide +kernel
theorem dX5_run_40 : decode cX5_run 40 = .ok (.iload_n 2, 1) := by decide +kernel
theorem dX5_run_41 : decode cX5_run 41 = .ok (.iload_n 3, 1) := by decide +kernel
theorem dX5_run_42 : decode cX5_run 42 = .ok (.ifCond .eq 7, 3) := by decide +kernel
theorem dX5_run_45 : decode cX5_run 45 = .ok (.iconst 1, 1) := by decide +kernel
theorem dX5_run_46 : decode cX5_run 46 = .ok (.goto 4, 3) := by decide +kernel
theorem dX5_run_49 : decode cX5_run 49 = .ok (.iconst 0, 1) := by decide +kernel
theorem dX5_run_50 : decode cX5_run 50 = .ok (.iadd, 1) := by decide +kernel
theorem dX5_run_51 : decode cX5_run 51 = .ok (.istore_n 2, 1) := by decide +kernel
theorem dX5_run_52 : decode cX5_run 52 = .ok (.goto (-35), 3) := by decide +kernel
theorem dX5_run_55 : decode cX5_run 55 = .ok (.iload_n 2, 1) := by decide +kernel
theorem dX5_run_56 : decode cX5_run 56 = .ok (.ireturn, 1) := by decide +kernel
theorem dX5_ended_0 : decode cX5_ended 0 = .ok (.aload_n 0, 1) := by decide +kernel
theorem dX5_ended_1 : decode cX5_ended 1 = .ok (.getfield 207, 3) := by decide +kernel
theorem dX5_ended_4 : decode cX5_ended 4 = .ok (.ireturn, 1) := by decide +kernel
theorem dX5_digest_0 : decode cX5_digest 0 = .ok (.bipush 7, 2) := by decide +kernel
theorem dX5_digest_2 : decode cX5_digest 2 = .ok (.istore_n 1, 1) := by decide +kernel
theorem dX5_digest_3 : decode cX5_digest 3 = .ok (.iconst 0, 1) := by decide +kernel
theorem dX5_digest_4 : decode cX5_digest 4 = .ok (.istore_n 2, 1) := by decide +kernel
theorem dX5_digest_5 : decode cX5_digest 5 = .ok (.iload_n 2, 1) := by decide +kernel
theorem dX5_digest_6 : decode cX5_digest 6 = .ok (.sipush 1024, 3) := by decide +kernel
theorem dX5_digest_9 : decode cX5_digest 9 = .ok (.if_icmp .ge 21, 3) := by decide +kernel
theorem dX5_digest_12 : decode cX5_digest 12 = .ok (.bipush 31, 2) := by decide +kernel
theorem dX5_digest_14 : decode cX5_digest 14 = .ok (.iload_n 1, 1) := by decide +kernel
theorem dX5_digest_15 : decode cX5_digest 15 = .ok (.imul, 1) := by decide +kernel
theorem dX5_digest_16 : decode cX5_digest 16 = .ok (.aload_n 0, 1) := by decide +kernel
theorem dX5_digest_17 : decode cX5_digest 17 = .ok (.getfield 13, 3) := by decide +kernel
theorem dX5_digest_20 : decode cX5_digest 20 = .ok (.iload_n 2, 1) := by decide +kernel
theorem dX5_digest_21 : decode cX5_digest 21 = .ok (.iaload, 1) := by decide +kernel
theorem dX5_digest_22 : decode cX5_digest 22 = .ok (.iadd, 1) := by decide +kernel
theorem dX5_digest_23 : decode cX5_digest 23 = .ok (.istore_n 1, 1) := by decide +kernel
theorem dX5_digest_24 : decode cX5_digest 24 = .ok (.iinc 2 1, 3) := by decide +kernel
theorem dX5_digest_27 : decode cX5_digest 27 = .ok (.goto (-22), 3) := by decide +kernel
theorem dX5_digest_30 : decode cX5_digest 30 = .ok (.bipush 31, 2) := by decide +kernel
theorem dX5_digest_32 : decode cX5_digest 32 = .ok (.iload_n 1, 1) := by decide +kernel
theorem dX5_digest_33 : decode cX5_digest 33 = .ok (.imul, 1) := by decide +kernel
theorem dX5_digest_34 : decode cX5_digest 34 = .ok (.aload_n 0, 1) := by decide +kernel
theorem dX5_digest_35 : decode cX5_digest 35 = .ok (.getfield 19, 3) := by decide +kernel
theorem dX5_digest_38 : decode cX5_digest 38 = .ok (.iadd, 1) := by decide +kernel
theorem dX5_digest_39 : decode cX5_digest 39 = .ok (.ireturn, 1) := by decide +kernel
set_option maxRecDepth 20000 in
theorem ggX5_count_X5_in : GoodIn wsX5_count wsX5_in := goodIn_r _ [5] (by decide +kernel) (by decide +kernel)
set_option maxRecDepth 20000 in
theorem gX5_count_X5_in : GoodIn wsX5_count (va_wsS RX5 23 yX5_in wsX5_in) := goodIn_app (goodIn_of _ (by decide +kernel)) ggX5_count_X5_in
theorem dX5_count_0 : decode cX5_count 0 = .ok (.iload_n 1, 1) := by decide +kernel
theorem dX5_count_1 : decode cX5_count 1 = .ok (.iconst 0, 1) := by decide +kernel
theorem dX5_count_2 : decode cX5_count 2 = .ok (.bipush 6, 2) := by decide +kernel
theorem dX5_count_4 : decode cX5_count 4 = .ok (.invokestatic 23, 3) := by decide +kernel
theorem dX5_count_7 : decode cX5_count 7 = .ok (.ifCond .eq 12, 3) := by decide +kernel
theorem dX5_count_10 : decode cX5_count 10 = .ok (.aload_n 0, 1) := by decide +kernel
theorem dX5_count_11 : decode cX5_count 11 = .ok (.getfield 16, 3) := by decide +kernel
theorem dX5_count_14 : decode cX5_count 14 = .ok (.iload_n 1, 1) := by decide +kernel
theorem dX5_count_15 : decode cX5_count 15 = .ok (.iaload, 1) := by decide +kernel
theorem dX5_count_16 : decode cX5_count 16 = .ok (.goto 4, 3) := by decide +kernel
theorem dX5_count_19 : decode cX5_count 19 = .ok (.iconst (-1), 1) := by decide +kernel
theorem dX5_count_20 : decode cX5_count 20 = .ok (.ireturn, 1) := by decide +kernel
theorem dJ6_numberOfTrailingZeros_0f7a4_0 : decode cJ6_numberOfTrailingZeros_0f7a4 0 = .ok (.iload_n 0, 1) := by decide +kernel
theorem dJ6_numberOfTrailingZeros_0f7a4_1 : decode cJ6_numberOfTrailingZeros_0f7a4 1 = .ok (.iconst (-1), 1) := by decide +kernel
theorem dJ6_numberOfTrailingZeros_0f7a4_2 : decode cJ6_numberOfTrailingZeros_0f7a4 2 = .ok (.ixor, 1) := by decide +kernel
theorem dJ6_numberOfTrailingZeros_0f7a4_3 : decode cJ6_numberOfTrailingZeros_0f7a4 3 = .ok (.iload_n 0, 1) := by decide +kernel
theorem dJ6_numberOfTrailingZeros_0f7a4_4 : decode cJ6_numberOfTrailingZeros_0f7a4 4 = .ok (.iconst 1, 1) := by decide +kernel
theorem dJ6_numberOfTrailingZeros_0f7a4_5 : decode cJ6_numberOfTrailingZeros_0f7a4 5 = .ok (.isub, 1) := by decide +kernel
theorem dJ6_numberOfTrailingZeros_0f7a4_6 : decode cJ6_numberOfTrailingZeros_0f7a4 6 = .ok (.iand, 1) := by decide +kernel
theorem dJ6_numberOfTrailingZeros_0f7a4_7 : decode cJ6_numberOfTrailingZeros_0f7a4 7 = .ok (.istore_n 0, 1) := by decide +kernel
theorem dJ6_numberOfTrailingZeros_0f7a4_8 : decode cJ6_numberOfTrailingZeros_0f7a4 8 = .ok (.iload_n 0, 1) := by decide +kernel
theorem dJ6_numberOfTrailingZeros_0f7a4_9 : decode cJ6_numberOfTrailingZeros_0f7a4 9 = .ok (.ifCond .gt 8, 3) := by decide +kernel
theorem dJ6_numberOfTrailingZeros_0f7a4_12 : decode cJ6_numberOfTrailingZeros_0f7a4 12 = .ok (.iload_n 0, 1) := by decide +kernel
theorem dJ6_numberOfTrailingZeros_0f7a4_13 : decode cJ6_numberOfTrailingZeros_0f7a4 13 = .ok (.bipush 32, 2) := by decide +kernel
theorem dJ6_numberOfTrailingZeros_0f7a4_15 : decode cJ6_numberOfTrailingZeros_0f7a4 15 = .ok (.iand, 1) := by decide +kernel
theorem dJ6_numberOfTrailingZeros_0f7a4_16 : decode cJ6_numberOfTrailingZeros_0f7a4 16 = .ok (.ireturn, 1) := by decide +kernel
theorem dJ6_numberOfTrailingZeros_0f7a4_17 : decode cJ6_numberOfTrailingZeros_0f7a4 17 = .ok (.iconst 1, 1) := by decide +kernel
theorem dJ6_numberOfTrailingZeros_0f7a4_18 : decode cJ6_numberOfTrailingZeros_0f7a4 18 = .ok (.istore_n 1, 1) := by decide +kernel
theorem dJ6_numberOfTrailingZeros_0f7a4_19 : decode cJ6_numberOfTrailingZeros_0f7a4 19 = .ok (.iload_n 0, 1) := by decide +kernel
theorem dJ6_numberOfTrailingZeros_0f7a4_20 : decode cJ6_numberOfTrailingZeros_0f7a4 20 = .ok (.ldc_w 264, 3) := by decide +kernel
theorem dJ6_numberOfTrailingZeros_0f7a4_23 : decode cJ6_numberOfTrailingZeros_0f7a4 23 = .ok (.if_icmp .le 11, 3) := by decide +kernel
theorem dJ6_numberOfTrailingZeros_0f7a4_26 : decode cJ6_numberOfTrailingZeros_0f7a4 26 = .ok (.iinc 1 16, 3) := by decide +kernel
theorem dJ6_numberOfTrailingZeros_0f7a4_29 : decode cJ6_numberOfTrailingZeros_0f7a4 29 = .ok (.iload_n 0, 1) := by decide +kernel
theorem dJ6_numberOfTrailingZeros_0f7a4_30 : decode cJ6_numberOfTrailingZeros_0f7a4 30 = .ok (.bipush 16, 2) := by decide +kernel
theorem dJ6_numberOfTrailingZeros_0f7a4_32 : decode cJ6_numberOfTrailingZeros_0f7a4 32 = .ok (.iushr, 1) := by decide +kernel
theorem dJ6_numberOfTrailingZeros_0f7a4_33 : decode cJ6_numberOfTrailingZeros_0f7a4 33 = .ok (.istore_n 0, 1) := by decide +kernel
theorem dJ6_numberOfTrailingZeros_0f7a4_34 : decode cJ6_numberOfTrailingZeros_0f7a4 34 = .ok (.iload_n 0, 1) := by decide +kernel
theorem dJ6_numberOfTrailingZeros_0f7a4_35 : decode cJ6_numberOfTrailingZeros_0f7a4 35 = .ok (.sipush 256, 3) := by decide +kernel
theorem dJ6_numberOfTrailingZeros_0f7a4_38 : decode cJ6_numberOfTrailingZeros_0f7a4 38 = .ok (.if_icmp .le 11, 3) := by decide +kernel
theorem dJ6_numberOfTrailingZeros_0f7a4_41 : decode cJ6_numberOfTrailingZeros_0f7a4 41 = .ok (.iinc 1 8, 3) := by decide +kernel
theorem dJ6_numberOfTrailingZeros_0f7a4_44 : decode cJ6_numberOfTrailingZeros_0f7a4 44 = .ok (.iload_n 0, 1) := by decide +kernel
theorem dJ6_numberOfTrailingZeros_0f7a4_45 : decode cJ6_numberOfTrailingZeros_0f7a4 45 = .ok (.bipush 8, 2) := by decide +kernel
theorem dJ6_numberOfTrailingZeros_0f7a4_47 : decode cJ6_numberOfTrailingZeros_0f7a4 47 = .ok (.iushr, 1) := by decide +kernel
theorem dJ6_numberOfTrailingZeros_0f7a4_48 : decode cJ6_numberOfTrailingZeros_0f7a4 48 = .ok (.istore_n 0, 1) := by decide +kernel
theorem dJ6_numberOfTrailingZeros_0f7a4_49 : decode cJ6_numberOfTrailingZeros_0f7a4 49 = .ok (.iload_n 0, 1) := by decide +kernel
theorem dJ6_numberOfTrailingZeros_0f7a4_50 : decode cJ6_numberOfTrailingZeros_0f7a4 50 = .ok (.bipush 16, 2) := by decide +kernel
theorem dJ6_numberOfTrailingZeros_0f7a4_52 : decode cJ6_numberOfTrailingZeros_0f7a4 52 = .ok (.if_icmp .le 10, 3) := by decide +kernel
theorem dJ6_numberOfTrailingZeros_0f7a4_55 : decode cJ6_numberOfTrailingZeros_0f7a4 55 = .ok (.iinc 1 4, 3) := by decide +kernel
theorem dJ6_numberOfTrailingZeros_0f7a4_58 : decode cJ6_numberOfTrailingZeros_0f7a4 58 = .ok (.iload_n 0, 1) := by decide +kernel
theorem dJ6_numberOfTrailingZeros_0f7a4_59 : decode cJ6_numberOfTrailingZeros_0f7a4 59 = .ok (.iconst 4, 1) := by decide +kernel
theorem dJ6_numberOfTrailingZeros_0f7a4_60 : decode cJ6_numberOfTrailingZeros_0f7a4 60 = .ok (.iushr, 1) := by decide +kernel
theorem dJ6_numberOfTrailingZeros_0f7a4_61 : decode cJ6_numberOfTrailingZeros_0f7a4 61 = .ok (.istore_n 0, 1) := by decide +kernel
theorem dJ6_numberOfTrailingZeros_0f7a4_62 : decode cJ6_numberOfTrailingZeros_0f7a4 62 = .ok (.iload_n 0, 1) := by decide +kernel
theorem dJ6_numberOfTrailingZeros_0f7a4_63 : decode cJ6_numberOfTrailingZeros_0f7a4 63 = .ok (.iconst 4, 1) := by decide +kernel
theorem dJ6_numberOfTrailingZeros_0f7a4_64 : decode cJ6_numberOfTrailingZeros_0f7a4 64 = .ok (.if_icmp .le 10, 3) := by decide +kernel
theorem dJ6_numberOfTrailingZeros_0f7a4_67 : decode cJ6_numberOfTrailingZeros_0f7a4 67 = .ok (.iinc 1 2, 3) := by decide +kernel
theorem dJ6_numberOfTrailingZeros_0f7a4_70 : decode cJ6_numberOfTrailingZeros_0f7a4 70 = .ok (.iload_n 0, 1) := by decide +kernel
theorem dJ6_numberOfTrailingZeros_0f7a4_71 : decode cJ6_numberOfTrailingZeros_0f7a4 71 = .ok (.iconst 2, 1) := by decide +kernel
theorem dJ6_numberOfTrailingZeros_0f7a4_72 : decode cJ6_numberOfTrailingZeros_0f7a4 72 = .ok (.iushr, 1) := by decide +kernel
theorem dJ6_numberOfTrailingZeros_0f7a4_73 : decode cJ6_numberOfTrailingZeros_0f7a4 73 = .ok (.istore_n 0, 1) := by decide +kernel
theorem dJ6_numberOfTrailingZeros_0f7a4_74 : decode cJ6_numberOfTrailingZeros_0f7a4 74 = .ok (.iload_n 1, 1) := by decide +kernel
theorem dJ6_numberOfTrailingZeros_0f7a4_75 : decode cJ6_numberOfTrailingZeros_0f7a4 75 = .ok (.iload_n 0, 1) := by decide +kernel
theorem dJ6_numberOfTrailingZeros_0f7a4_76 : decode cJ6_numberOfTrailingZeros_0f7a4 76 = .ok (.iconst 1, 1) := by decide +kernel
theorem dJ6_numberOfTrailingZeros_0f7a4_77 : decode cJ6_numberOfTrailingZeros_0f7a4 77 = .ok (.iushr, 1) := by decide +kernel
theorem dJ6_numberOfTrailingZeros_0f7a4_78 : decode cJ6_numberOfTrailingZeros_0f7a4 78 = .ok (.iadd, 1) := by decide +kernel
theorem dJ6_numberOfTrailingZeros_0f7a4_79 : decode cJ6_numberOfTrailingZeros_0f7a4 79 = .ok (.ireturn, 1) := by decide +kernel
set_option maxRecDepth 20000 in
theorem ggL_law_X4_init : GoodIn wsL_law wsX4_init := goodIn_r _ [9, 10, 11, 12, 13, 14, 15, 16, 17, 18, 19, 20, 21, 22, 23, 24, 25, 26, 27, 28, 29, 30, 31, 32, 33, 34, 35, 36, 37, 668, 669, 670, 671, 672, 673, 674, 675, 684, 685] (by decide +kernel) (by decide +kernel)
set_option maxRecDepth 20000 in
theorem gL_law_X4_init : GoodIn wsL_law (wsX4_init) := ggL_law_X4_init
set_option maxRecDepth 20000 in
theorem ggL_law_X5_init : GoodIn wsL_law wsX5_init := goodIn_r _ [40, 41, 11, 12, 13, 42, 43, 44, 45, 676, 677, 678, 679, 680, 681, 682, 683] (by decide +kernel) (by decide +kernel)
set_option maxRecDepth 20000 in
theorem gL_law_X5_init : GoodIn wsL_law (wsX5_init) := ggL_law_X5_init
set_option maxRecDepth 20000 in
theorem ggL_law_X4_code : GoodIn wsL_law wsX4_code := goodIn_r _ [49, 50, 14, 51, 52, 2, 53, 54, 55, 56, 57, 668, 669, 670, 671, 672, 673, 674, 675] (by decide +kernel) (by decide +kernel)
set_option maxRecDepth 20000 in
theorem gL_law_X4_code : GoodIn wsL_law (wsV RL 13 RX4 yX4_code wsX4_code) := goodIn_app (goodIn_of _ (by decide +kernel)) ggL_law_X4_code
set_option maxRecDepth 20000 in
theorem ggL_law_X5_code : GoodIn wsL_law wsX5_code := goodIn_r _ [61, 62, 42, 63, 64, 5, 65, 676, 677, 678, 679, 680, 681, 682, 683] (by decide +kernel) (by decide +kernel)
set_option maxRecDepth 20000 in
theorem gL_law_X5_code : GoodIn wsL_law (wsV RL 17 RX5 yX5_code wsX5_code) := goodIn_app (goodIn_of _ (by decide +kernel)) ggL_law_X5_code
set_option maxRecDepth 20000 in
theorem ggL_law_X4_load : GoodIn wsL_law wsX4_load := goodIn_r _ [69, 14, 50, 51, 52, 2, 53, 668, 669, 670, 671, 672, 673, 674, 675] (by decide +kernel) (by decide +kernel)
set_option maxRecDepth 20000 in
theorem gL_law_X4_load : GoodIn wsL_law (wsV RL 20 RX4 yX4_load wsX4_load) := goodIn_app (goodIn_of _ (by decide +kernel)) ggL_law_X4_load
set_option maxRecDepth 20000 in
theorem ggL_law_X5_load : GoodIn wsL_law wsX5_load := goodIn_r _ [73, 42, 62, 63, 64, 5, 65, 676, 677, 678, 679, 680, 681, 682, 683] (by decide +kernel) (by decide +kernel)
set_option maxRecDepth 20000 in
theorem gL_law_X5_load : GoodIn wsL_law (wsV RL 24 RX5 yX5_load wsX5_load) := goodIn_app (goodIn_of _ (by decide +kernel)) ggL_law_X5_load
set_option maxRecDepth 20000 in
theorem ggL_law_X4_word : GoodIn wsL_law wsX4_word := goodIn_r _ [77, 51, 52, 2, 53, 54, 55, 56, 57, 14, 668, 669, 670, 671, 672, 673, 674, 675] (by decide +kernel) (by decide +kernel)
set_option maxRecDepth 20000 in
theorem gL_law_X4_word : GoodIn wsL_law (wsV RL 25 RX4 yX4_word wsX4_word) := goodIn_app (goodIn_of _ (by decide +kernel)) ggL_law_X4_word
set_option maxRecDepth 20000 in
theorem ggL_law_X5_word : GoodIn wsL_law wsX5_word := goodIn_r _ [81, 42, 63, 64, 5, 65, 676, 677, 678, 679, 680, 681, 682, 683] (by decide +kernel) (by decide +kernel)
set_option maxRecDepth 20000 in
theorem gL_law_X5_word : GoodIn wsL_law (wsV RL 29 RX5 yX5_word wsX5_word) := goodIn_app (goodIn_of _ (by decide +kernel)) ggL_law_X5_word
set_option maxRecDepth 20000 in
theorem ggL_law_X4_put : GoodIn wsL_law wsX4_put := goodIn_r _ [85, 18, 51, 52, 2, 53, 86, 87, 88, 17, 89, 32, 90, 91, 92, 93, 668, 669, 670, 671, 672, 673, 674, 675, 684] (by decide +kernel) (by decide +kernel)
set_option maxRecDepth 20000 in
theorem gL_law_X4_put : GoodIn wsL_law (wsV RL 30 RX4 yX4_put wsX4_put) := goodIn_app (goodIn_of _ (by decide +kernel)) ggL_law_X4_put
set_option maxRecDepth 20000 in
theorem ggL_law_X5_put : GoodIn wsL_law wsX5_put := goodIn_r _ [97, 43, 63, 64, 5, 65, 676, 677, 678, 679, 680, 681, 682, 683] (by decide +kernel) (by decide +kernel)
set_option maxRecDepth 20000 in
theorem gL_law_X5_put : GoodIn wsL_law (wsV RL 33 RX5 yX5_put wsX5_put) := goodIn_app (goodIn_of _ (by decide +kernel)) ggL_law_X5_put
set_option maxRecDepth 20000 in
theorem ggL_law_X4_data : GoodIn wsL_law wsX4_data := goodIn_r _ [101, 18, 51, 52, 2, 53, 86, 87, 88, 17, 89, 32, 668, 669, 670, 671, 672, 673, 674, 675, 684] (by decide +kernel) (by decide +kernel)
set_option maxRecDepth 20000 in
theorem gL_law_X4_data : GoodIn wsL_law (wsV RL 34 RX4 yX4_data wsX4_data) := goodIn_app (goodIn_of _ (by decide +kernel)) ggL_law_X4_data
set_option maxRecDepth 20000 in
theorem ggL_law_X5_data : GoodIn wsL_law wsX5_data := goodIn_r _ [105, 43, 63, 64, 5, 65, 676, 677, 678, 679, 680, 681, 682, 683] (by decide +kernel) (by decide +kernel)
set_option maxRecDepth 20000 in
theorem gL_law_X5_data : GoodIn wsL_law (wsV RL 37 RX5 yX5_data wsX5_data) := goodIn_app (goodIn_of _ (by decide +kernel)) ggL_law_X5_data
set_option maxRecDepth 20000 in
theorem ggL_law_X4_told : GoodIn wsL_law wsX4_told := goodIn_r _ [109, 24, 18, 27, 25, 110, 111, 112, 17, 113, 32, 86, 87, 88, 89, 668, 669, 670, 671, 672, 673, 674, 675, 684] (by decide +kernel) (by decide +kernel)
set_option maxRecDepth 20000 in
theorem gL_law_X4_told : GoodIn wsL_law (wsV RL 38 RX4 yX4_told wsX4_told) := goodIn_app (goodIn_of _ (by decide +kernel)) ggL_law_X4_told
set_option maxRecDepth 20000 in
theorem ggL_law_X5_told : GoodIn wsL_law wsX5_told := goodIn_r _ [117, 45, 43, 118, 119, 120, 121, 122, 5, 123, 676, 677, 678, 679, 680, 681, 682, 683] (by decide +kernel) (by decide +kernel)
set_option maxRecDepth 20000 in
theorem gL_law_X5_told : GoodIn wsL_law (wsV RL 41 RX5 yX5_told wsX5_told) := goodIn_app (goodIn_of _ (by decide +kernel)) ggL_law_X5_told
set_option maxRecDepth 20000 in
theorem ggL_law_X4_go : GoodIn wsL_law wsX4_go := goodIn_r _ [127, 24, 51, 52, 2, 53, 668, 669, 670, 671, 672, 673, 674, 675] (by decide +kernel) (by decide +kernel)
set_option maxRecDepth 20000 in
theorem gL_law_X4_go : GoodIn wsL_law (wsV RL 42 RX4 yX4_go wsX4_go) := goodIn_app (goodIn_of _ (by decide +kernel)) ggL_law_X4_go
set_option maxRecDepth 20000 in
theorem ggL_law_X5_go : GoodIn wsL_law wsX5_go := goodIn_r _ [131, 45, 63, 64, 5, 65, 676, 677, 678, 679, 680, 681, 682, 683] (by decide +kernel) (by decide +kernel)
set_option maxRecDepth 20000 in
theorem gL_law_X5_go : GoodIn wsL_law (wsV RL 45 RX5 yX5_go wsX5_go) := goodIn_app (goodIn_of _ (by decide +kernel)) ggL_law_X5_go
set_option maxRecDepth 20000 in
theorem ggL_law_X4_ask : GoodIn wsL_law wsX4_ask := goodIn_r _ [135, 25, 668, 669, 670, 671, 672, 673, 674, 675] (by decide +kernel) (by decide +kernel)
set_option maxRecDepth 20000 in
theorem gL_law_X4_ask : GoodIn wsL_law (wsV RL 46 RX4 yX4_ask wsX4_ask) := goodIn_app (goodIn_of _ (by decide +kernel)) ggL_law_X4_ask
set_option maxRecDepth 20000 in
theorem ggL_law_X5_ask : GoodIn wsL_law wsX5_ask := goodIn_r _ [139, 119, 63, 64, 5, 65, 676, 677, 678, 679, 680, 681, 682, 683] (by decide +kernel) (by decide +kernel)
set_option maxRecDepth 20000 in
theorem gL_law_X5_ask : GoodIn wsL_law (wsV RL 49 RX5 yX5_ask wsX5_ask) := goodIn_app (goodIn_of _ (by decide +kernel)) ggL_law_X5_ask
set_option maxRecDepth 20000 in
theorem ggL_law_X4_step : GoodIn wsL_law wsX4_step := goodIn_r _ [143, 144, 145, 146, 2, 147, 25, 27, 18, 26, 24, 148, 149, 23, 150, 151, 152, 17, 153, 32, 154, 155, 156, 157, 158, 159, 160, 161, 162, 111, 112, 113, 163, 91, 92, 93, 164, 165, 166, 167, 168, 169, 170, 171, 172, 173, 174, 175, 176, 177, 178, 179, 180, 181, 87, 88, 89, 54, 55, 56, 57, 14, 182, 183, 184, 185, 186, 187, 188, 189, 190, 191, 192, 193, 194, 195, 196, 197, 198, 199, 200, 201, 202, 203, 204, 205, 206, 207, 208, 209, 210, 211, 212, 213, 214, 215, 216, 217, 218, 219, 220, 221, 222, 223, 224, 110, 225, 226, 227, 228, 229, 22, 230, 86, 231, 232, 233, 234, 235, 236, 21, 237, 238, 239, 240, 241, 37, 242, 243, 244, 245, 246, 247, 248, 249, 250, 251, 252, 253, 254, 255, 256, 257, 258, 259, 260, 261, 262, 263, 264, 265, 266, 267, 268, 269, 270, 271, 272, 273, 274, 275, 276, 90, 277, 278, 279, 280, 281, 282, 283, 284, 285, 286, 287, 288, 289, 290, 291, 292, 293, 294, 295, 296, 297, 298, 299, 300, 301, 302, 303, 304, 305, 306, 307, 308, 309, 310, 311, 312, 313, 314, 315, 316, 317, 318, 319, 320, 321, 322, 323, 324, 325, 326, 327, 328, 329, 330, 331, 332, 333, 334, 335, 336, 337, 338, 339, 340, 341, 342, 343, 344, 345, 346, 347, 348, 349, 350, 351, 352, 353, 354, 355, 50, 356, 357, 358, 359, 360, 361, 362, 363, 364, 365, 366, 367, 368, 369, 370, 371, 372, 373, 374, 375, 376, 377, 378, 379, 380, 381, 382, 383, 384, 385, 386, 387, 388, 389, 390, 391, 392, 393, 394, 395, 396, 397, 398, 399, 400, 401, 402, 403, 404, 405, 406, 407, 408, 409, 410, 411, 412, 413, 414, 415, 416, 417, 418, 419, 420, 421, 422, 423, 424, 425, 426, 427, 428, 429, 430, 668, 669, 670, 671, 672, 673, 674, 675, 684, 685] (by decide +kernel) (by decide +kernel)
set_option maxRecDepth 20000 in
theorem gL_law_X4_step : GoodIn wsL_law (wsV RL 50 RX4 yX4_step wsX4_step) := goodIn_app (goodIn_of _ (by decide +kernel)) ggL_law_X4_step
set_option maxRecDepth 20000 in
theorem ggL_law_X5_step : GoodIn wsL_law wsX5_step := goodIn_r _ [434, 435, 44, 436, 437, 438, 5, 439, 119, 118, 42, 45, 440, 441, 442, 443, 444, 445, 446, 43, 447, 448, 449, 450, 451, 452, 453, 454, 62, 120, 121, 122, 123, 455, 456, 457, 458, 459, 460, 461, 462, 463, 464, 465, 466, 467, 468, 469, 470, 471, 472, 473, 474, 475, 476, 477, 478, 479, 480, 481, 482, 483, 484, 485, 486, 487, 488, 489, 490, 491, 492, 493, 494, 495, 496, 497, 498, 499, 500, 501, 502, 503, 504, 505, 506, 507, 508, 509, 510, 511, 512, 513, 514, 515, 516, 517, 518, 519, 520, 521, 522, 523, 524, 525, 526, 527, 528, 529, 530, 531, 532, 533, 534, 535, 536, 537, 538, 539, 540, 541, 542, 543, 544, 545, 546, 547, 548, 549, 550, 551, 552, 553, 554, 555, 556, 557, 558, 559, 560, 561, 562, 563, 564, 565, 566, 567, 568, 569, 570, 571, 572, 573, 574, 575, 576, 577, 578, 579, 580, 581, 582, 583, 584, 585, 586, 587, 588, 589, 590, 591, 592, 593, 594, 595, 596, 597, 598, 599, 600, 601, 602, 603, 604, 605, 606, 607, 608, 609, 610, 611, 612, 613, 614, 615, 616, 617, 618, 619, 620, 621, 622, 623, 624, 625, 626, 676, 677, 678, 679, 680, 681, 682, 683] (by decide +kernel) (by decide +kernel)
set_option maxRecDepth 20000 in
theorem gL_law_X5_step : GoodIn wsL_law (wsV RL 54 RX5 yX5_step wsX5_step) := goodIn_app (goodIn_of _ (by decide +kernel)) ggL_law_X5_step
set_option maxRecDepth 20000 in
theorem ggL_law_X4_run : GoodIn wsL_law wsX4_run := goodIn_r _ [630, 144, 145, 146, 2, 147, 25, 27, 18, 26, 24, 148, 149, 23, 150, 151, 152, 17, 153, 32, 154, 155, 156, 157, 158, 159, 160, 161, 162, 111, 112, 113, 163, 91, 92, 93, 164, 165, 166, 167, 168, 169, 170, 171, 172, 173, 174, 175, 176, 177, 178, 179, 180, 181, 87, 88, 89, 54, 55, 56, 57, 14, 182, 183, 184, 185, 186, 187, 188, 189, 190, 191, 192, 193, 194, 195, 196, 197, 198, 199, 200, 201, 202, 203, 204, 205, 206, 207, 208, 209, 210, 211, 212, 213, 214, 215, 216, 217, 218, 219, 220, 221, 222, 223, 224, 110, 225, 226, 227, 228, 229, 22, 230, 86, 231, 232, 233, 234, 235, 236, 21, 237, 238, 239, 240, 241, 37, 242, 243, 244, 245, 246, 247, 248, 249, 250, 251, 252, 253, 254, 255, 256, 257, 258, 259, 260, 261, 262, 263, 264, 265, 266, 267, 268, 269, 270, 271, 272, 273, 274, 275, 276, 90, 277, 278, 279, 280, 281, 282, 283, 284, 285, 286, 287, 288, 289, 290, 291, 292, 293, 294, 295, 296, 297, 298, 299, 300, 301, 302, 303, 304, 305, 306, 307, 308, 309, 310, 311, 312, 313, 314, 315, 316, 317, 318, 319, 320, 321, 322, 323, 324, 325, 326, 327, 328, 329, 330, 331, 332, 333, 334, 335, 336, 337, 338, 339, 340, 341, 342, 343, 344, 345, 346, 347, 348, 349, 350, 351, 352, 353, 354, 355, 50, 356, 357, 358, 359, 360, 361, 362, 363, 364, 365, 366, 367, 368, 369, 370, 371, 372, 373, 374, 375, 376, 377, 378, 379, 380, 381, 382, 383, 384, 385, 386, 387, 388, 389, 390, 391, 392, 393, 394, 395, 396, 397, 398, 399, 400, 401, 402, 403, 404, 405, 406, 407, 408, 409, 410, 411, 412, 413, 414, 415, 416, 417, 418, 419, 420, 421, 422, 423, 424, 425, 426, 427, 428, 429, 430, 668, 669, 670, 671, 672, 673, 674, 675, 684, 685] (by decide +kernel) (by decide +kernel)
set_option maxRecDepth 20000 in
theorem gL_law_X4_run : GoodIn wsL_law (wsV RL 55 RX4 yX4_run wsX4_run) := goodIn_app (goodIn_of _ (by decide +kernel)) ggL_law_X4_run
set_option maxRecDepth 20000 in
theorem ggL_law_X5_run : GoodIn wsL_law wsX5_run := goodIn_r _ [634, 63, 64, 5, 65, 635, 432, 433, 434, 435, 44, 436, 437, 438, 439, 119, 118, 42, 45, 440, 441, 442, 443, 444, 445, 446, 43, 447, 448, 449, 450, 451, 452, 453, 454, 62, 120, 121, 122, 123, 455, 456, 457, 458, 459, 460, 461, 462, 463, 464, 465, 466, 467, 468, 469, 470, 471, 472, 473, 474, 475, 476, 477, 478, 479, 480, 481, 482, 483, 484, 485, 486, 487, 488, 489, 490, 491, 492, 493, 494, 495, 496, 497, 498, 499, 500, 501, 502, 503, 504, 505, 506, 507, 508, 509, 510, 511, 512, 513, 514, 515, 516, 517, 518, 519, 520, 521, 522, 523, 524, 525, 526, 527, 528, 529, 530, 531, 532, 533, 534, 535, 536, 537, 538, 539, 540, 541, 542, 543, 544, 545, 546, 547, 548, 549, 550, 551, 552, 553, 554, 555, 556, 557, 558, 559, 560, 561, 562, 563, 564, 565, 566, 567, 568, 569, 570, 571, 572, 573, 574, 575, 576, 577, 578, 579, 580, 581, 582, 583, 584, 585, 586, 587, 588, 589, 590, 591, 592, 593, 594, 595, 596, 597, 598, 599, 600, 601, 602, 603, 604, 605, 606, 607, 608, 609, 610, 611, 612, 613, 614, 615, 616, 617, 618, 619, 620, 621, 622, 623, 624, 625, 626, 676, 677, 678, 679, 680, 681, 682, 683] (by decide +kernel) (by decide +kernel)
set_option maxRecDepth 20000 in
theorem gL_law_X5_run : GoodIn wsL_law (wsV RL 58 RX5 yX5_run wsX5_run) := goodIn_app (goodIn_of _ (by decide +kernel)) ggL_law_X5_run
set_option maxRecDepth 20000 in
theorem ggL_law_X4_ended : GoodIn wsL_law wsX4_ended := goodIn_r _ [639, 26, 668, 669, 670, 671, 672, 673, 674, 675] (by decide +kernel) (by decide +kernel)
set_option maxRecDepth 20000 in
theorem gL_law_X4_ended : GoodIn wsL_law (wsV RL 59 RX4 yX4_ended wsX4_ended) := goodIn_app (goodIn_of _ (by decide +kernel)) ggL_law_X4_ended
set_option maxRecDepth 20000 in
theorem ggL_law_X5_ended : GoodIn wsL_law wsX5_ended := goodIn_r _ [643, 435, 676, 677, 678, 679, 680, 681, 682, 683] (by decide +kernel) (by decide +kernel)
set_option maxRecDepth 20000 in
theorem gL_law_X5_ended : GoodIn wsL_law (wsV RL 62 RX5 yX5_ended wsX5_ended) := goodIn_app (goodIn_of _ (by decide +kernel)) ggL_law_X5_ended
set_option maxRecDepth 20000 in
theorem ggL_law_X4_reads : GoodIn wsL_law wsX4_reads := goodIn_r _ [647, 50, 51, 52, 2, 53, 186, 187, 188, 189, 190, 191, 192, 193, 194, 195, 196, 197, 198, 199, 200, 201, 202, 203, 204, 205, 206, 207, 208, 209, 210, 211, 212, 213, 214, 215, 216, 285, 286, 287, 288, 289, 290, 291] (by decide +kernel) (by decide +kernel)
set_option maxRecDepth 20000 in
theorem gL_law_X4_reads : GoodIn wsL_law (wsV RL 63 RX4 yX4_reads wsX4_reads) := goodIn_app (goodIn_of _ (by decide +kernel)) ggL_law_X4_reads
set_option maxRecDepth 20000 in
theorem ggL_law_X5_reads : GoodIn wsL_law wsX5_reads := goodIn_r _ [651, 62, 63, 64, 5, 65, 474, 475, 476, 477, 478, 479, 480, 481, 482, 483, 484, 485, 486, 487, 488, 489, 490, 491, 492, 493, 494, 495, 496, 497, 498, 499, 500, 442, 501, 502, 503, 542, 543, 544] (by decide +kernel) (by decide +kernel)
set_option maxRecDepth 20000 in
theorem gL_law_X5_reads : GoodIn wsL_law (wsV RL 66 RX5 yX5_reads wsX5_reads) := goodIn_app (goodIn_of _ (by decide +kernel)) ggL_law_X5_reads
set_option maxRecDepth 20000 in
theorem ggL_law_X4_digest : GoodIn wsL_law wsX4_digest := goodIn_r _ [655, 18, 24, 86, 87, 88, 17, 89, 32, 668, 669, 670, 671, 672, 673, 674, 675, 684] (by decide +kernel) (by decide +kernel)
set_option maxRecDepth 20000 in
theorem gL_law_X4_digest : GoodIn wsL_law (wsV RL 67 RX4 yX4_digest wsX4_digest) := goodIn_app (goodIn_of _ (by decide +kernel)) ggL_law_X4_digest
set_option maxRecDepth 20000 in
theorem ggL_law_X5_digest : GoodIn wsL_law wsX5_digest := goodIn_r _ [659, 43, 45, 676, 677, 678, 679, 680, 681, 682, 683] (by decide +kernel) (by decide +kernel)
set_option maxRecDepth 20000 in
theorem gL_law_X5_digest : GoodIn wsL_law (wsV RL 70 RX5 yX5_digest wsX5_digest) := goodIn_app (goodIn_of _ (by decide +kernel)) ggL_law_X5_digest
set_option maxRecDepth 20000 in
theorem ggL_law_X4_count : GoodIn wsL_law wsX4_count := goodIn_r _ [663, 23, 668, 669, 670, 671, 672, 673, 674, 675] (by decide +kernel) (by decide +kernel)
set_option maxRecDepth 20000 in
theorem gL_law_X4_count : GoodIn wsL_law (wsV RL 71 RX4 yX4_count wsX4_count) := goodIn_app (goodIn_of _ (by decide +kernel)) ggL_law_X4_count
set_option maxRecDepth 20000 in
theorem ggL_law_X5_count : GoodIn wsL_law wsX5_count := goodIn_r _ [667, 44, 63, 64, 5, 65, 676, 677, 678, 679, 680, 681, 682, 683] (by decide +kernel) (by decide +kernel)
set_option maxRecDepth 20000 in
theorem gL_law_X5_count : GoodIn wsL_law (wsV RL 74 RX5 yX5_count wsX5_count) := goodIn_app (goodIn_of _ (by decide +kernel)) ggL_law_X5_count
theorem dL_law_0 : decode cL_law 0 = .ok (.new 7, 3) := by decide +kernel
theorem dL_law_3 : decode cL_law 3 = .ok (.dup, 1) := by decide +kernel
theorem dL_law_4 : decode cL_law 4 = .ok (.invokespecial 9, 3) := by decide +kernel
theorem dL_law_7 : decode cL_law 7 = .ok (.astore_n 1, 1) := by decide +kernel
theorem dL_law_8 : decode cL_law 8 = .ok (.new 10, 3) := by decide +kernel
theorem dL_law_11 : decode cL_law 11 = .ok (.dup, 1) := by decide +kernel
theorem dL_law_12 : decode cL_law 12 = .ok (.invokespecial 12, 3) := by decide +kernel
theorem dL_law_15 : decode cL_law 15 = .ok (.astore_n 2, 1) := by decide +kernel
theorem dL_law_16 : decode cL_law 16 = .ok (.iconst 0, 1) := by decide +kernel
theorem dL_law_17 : decode cL_law 17 = .ok (.istore_n 3, 1) := by decide +kernel
theorem dL_law_18 : decode cL_law 18 = .ok (.iload_n 3, 1) := by decide +kernel
theorem dL_law_19 : decode cL_law 19 = .ok (.aload_n 0, 1) := by decide +kernel
theorem dL_law_20 : decode cL_law 20 = .ok (.arraylength, 1) := by decide +kernel
theorem dL_law_21 : decode cL_law 21 = .ok (.iconst 4, 1) := by decide +kernel
theorem dL_law_22 : decode cL_law 22 = .ok (.isub, 1) := by decide +kernel
theorem dL_law_23 : decode cL_law 23 = .ok (.if_icmp .gt 449, 3) := by decide +kernel
theorem dL_law_26 : decode cL_law 26 = .ok (.aload_n 0, 1) := by decide +kernel
theorem dL_law_27 : decode cL_law 27 = .ok (.iload_n 3, 1) := by decide +kernel
theorem dL_law_28 : decode cL_law 28 = .ok (.iaload, 1) := by decide +kernel
theorem dL_law_29 : decode cL_law 29 = .ok (.bipush 15, 2) := by decide +kernel
theorem dL_law_31 : decode cL_law 31 = .ok (.iand, 1) := by decide +kernel
theorem dL_law_32 : decode cL_law 32 = .ok (.tableswitch 434 0 13 #[72, 105, 168, 191, 224, 247, 270, 293, 316, 329, 352, 365, 398, 411], 72) := by decide +kernel
theorem dL_law_104 : decode cL_law 104 = .ok (.aload_n 1, 1) := by decide +kernel
theorem dL_law_105 : decode cL_law 105 = .ok (.aload_n 0, 1) := by decide +kernel
theorem dL_law_106 : decode cL_law 106 = .ok (.iload_n 3, 1) := by decide +kernel
theorem dL_law_107 : decode cL_law 107 = .ok (.iconst 1, 1) := by decide +kernel
theorem dL_law_108 : decode cL_law 108 = .ok (.iadd, 1) := by decide +kernel
theorem dL_law_109 : decode cL_law 109 = .ok (.iaload, 1) := by decide +kernel
theorem dL_law_110 : decode cL_law 110 = .ok (.aload_n 0, 1) := by decide +kernel
theorem dL_law_111 : decode cL_law 111 = .ok (.iload_n 3, 1) := by decide +kernel
theorem dL_law_112 : decode cL_law 112 = .ok (.iconst 2, 1) := by decide +kernel
theorem dL_law_113 : decode cL_law 113 = .ok (.iadd, 1) := by decide +kernel
theorem dL_law_114 : decode cL_law 114 = .ok (.iaload, 1) := by decide +kernel
theorem dL_law_115 : decode cL_law 115 = .ok (.invokevirtual 13, 3) := by decide +kernel
theorem dL_law_118 : decode cL_law 118 = .ok (.aload_n 2, 1) := by decide +kernel
theorem dL_law_119 : decode cL_law 119 = .ok (.aload_n 0, 1) := by decide +kernel
theorem dL_law_120 : decode cL_law 120 = .ok (.iload_n 3, 1) := by decide +kernel
theorem dL_law_121 : decode cL_law 121 = .ok (.iconst 1, 1) := by decide +kernel
theorem dL_law_122 : decode cL_law 122 = .ok (.iadd, 1) := by decide +kernel
theorem dL_law_123 : decode cL_law 123 = .ok (.iaload, 1) := by decide +kernel
theorem dL_law_124 : decode cL_law 124 = .ok (.aload_n 0, 1) := by decide +kernel
theorem dL_law_125 : decode cL_law 125 = .ok (.iload_n 3, 1) := by decide +kernel
theorem dL_law_126 : decode cL_law 126 = .ok (.iconst 2, 1) := by decide +kernel
theorem dL_law_127 : decode cL_law 127 = .ok (.iadd, 1) := by decide +kernel
theorem dL_law_128 : decode cL_law 128 = .ok (.iaload, 1) := by decide +kernel
theorem dL_law_129 : decode cL_law 129 = .ok (.invokevirtual 17, 3) := by decide +kernel
theorem dL_law_132 : decode cL_law 132 = .ok (.if_icmp .eq 334, 3) := by decide +kernel
theorem dL_law_135 : decode cL_law 135 = .ok (.iconst 0, 1) := by decide +kernel
theorem dL_law_136 : decode cL_law 136 = .ok (.ireturn, 1) := by decide +kernel
theorem dL_law_137 : decode cL_law 137 = .ok (.aload_n 1, 1) := by decide +kernel
theorem dL_law_138 : decode cL_law 138 = .ok (.aload_n 0, 1) := by decide +kernel
theorem dL_law_139 : decode cL_law 139 = .ok (.iload_n 3, 1) := by decide +kernel
theorem dL_law_140 : decode cL_law 140 = .ok (.iconst 1, 1) := by decide +kernel
theorem dL_law_141 : decode cL_law 141 = .ok (.iadd, 1) := by decide +kernel
theorem dL_law_142 : decode cL_law 142 = .ok (.iaload, 1) := by decide +kernel
theorem dL_law_143 : decode cL_law 143 = .ok (.aload_n 0, 1) := by decide +kernel
theorem dL_law_144 : decode cL_law 144 = .ok (.iload_n 3, 1) := by decide +kernel
theorem dL_law_145 : decode cL_law 145 = .ok (.iconst 2, 1) := by decide +kernel
theorem dL_law_146 : decode cL_law 146 = .ok (.iadd, 1) := by decide +kernel
theorem dL_law_147 : decode cL_law 147 = .ok (.iaload, 1) := by decide +kernel
theorem dL_law_148 : decode cL_law 148 = .ok (.i2l, 1) := by decide +kernel
theorem dL_law_149 : decode cL_law 149 = .ok (.bipush 32, 2) := by decide +kernel
theorem dL_law_151 : decode cL_law 151 = .ok (.lshl, 1) := by decide +kernel
theorem dL_law_152 : decode cL_law 152 = .ok (.aload_n 0, 1) := by decide +kernel
theorem dL_law_153 : decode cL_law 153 = .ok (.iload_n 3, 1) := by decide +kernel
theorem dL_law_154 : decode cL_law 154 = .ok (.iconst 3, 1) := by decide +kernel
theorem dL_law_155 : decode cL_law 155 = .ok (.iadd, 1) := by decide +kernel
theorem dL_law_156 : decode cL_law 156 = .ok (.iaload, 1) := by decide +kernel
theorem dL_law_157 : decode cL_law 157 = .ok (.i2l, 1) := by decide +kernel
theorem dL_law_158 : decode cL_law 158 = .ok (.ldc2_w 18, 3) := by decide +kernel
theorem dL_law_161 : decode cL_law 161 = .ok (.land, 1) := by decide +kernel
theorem dL_law_162 : decode cL_law 162 = .ok (.lor, 1) := by decide +kernel
theorem dL_law_163 : decode cL_law 163 = .ok (.invokevirtual 20, 3) := by decide +kernel
theorem dL_law_166 : decode cL_law 166 = .ok (.aload_n 2, 1) := by decide +kernel
theorem dL_law_167 : decode cL_law 167 = .ok (.aload_n 0, 1) := by decide +kernel
theorem dL_law_168 : decode cL_law 168 = .ok (.iload_n 3, 1) := by decide +kernel
theorem dL_law_169 : decode cL_law 169 = .ok (.iconst 1, 1) := by decide +kernel
theorem dL_law_170 : decode cL_law 170 = .ok (.iadd, 1) := by decide +kernel
theorem dL_law_171 : decode cL_law 171 = .ok (.iaload, 1) := by decide +kernel
theorem dL_law_172 : decode cL_law 172 = .ok (.aload_n 0, 1) := by decide +kernel
theorem dL_law_173 : decode cL_law 173 = .ok (.iload_n 3, 1) := by decide +kernel
theorem dL_law_174 : decode cL_law 174 = .ok (.iconst 2, 1) := by decide +kernel
theorem dL_law_175 : decode cL_law 175 = .ok (.iadd, 1) := by decide +kernel
theorem dL_law_176 : decode cL_law 176 = .ok (.iaload, 1) := by decide +kernel
theorem dL_law_177 : decode cL_law 177 = .ok (.i2l, 1) := by decide +kernel
theorem dL_law_178 : decode cL_law 178 = .ok (.bipush 32, 2) := by decide +kernel
theorem dL_law_180 : decode cL_law 180 = .ok (.lshl, 1) := by decide +kernel
theorem dL_law_181 : decode cL_law 181 = .ok (.aload_n 0, 1) := by decide +kernel
theorem dL_law_182 : decode cL_law 182 = .ok (.iload_n 3, 1) := by decide +kernel
theorem dL_law_183 : decode cL_law 183 = .ok (.iconst 3, 1) := by decide +kernel
theorem dL_law_184 : decode cL_law 184 = .ok (.iadd, 1) := by decide +kernel
theorem dL_law_185 : decode cL_law 185 = .ok (.iaload, 1) := by decide +kernel
theorem dL_law_186 : decode cL_law 186 = .ok (.i2l, 1) := by decide +kernel
theorem dL_law_187 : decode cL_law 187 = .ok (.ldc2_w 18, 3) := by decide +kernel
theorem dL_law_190 : decode cL_law 190 = .ok (.land, 1) := by decide +kernel
theorem dL_law_191 : decode cL_law 191 = .ok (.lor, 1) := by decide +kernel
theorem dL_law_192 : decode cL_law 192 = .ok (.invokevirtual 24, 3) := by decide +kernel
theorem dL_law_195 : decode cL_law 195 = .ok (.if_icmp .eq 271, 3) := by decide +kernel
theorem dL_law_198 : decode cL_law 198 = .ok (.iconst 0, 1) := by decide +kernel
theorem dL_law_199 : decode cL_law 199 = .ok (.ireturn, 1) := by decide +kernel
theorem dL_law_200 : decode cL_law 200 = .ok (.aload_n 1, 1) := by decide +kernel
theorem dL_law_201 : decode cL_law 201 = .ok (.aload_n 0, 1) := by decide +kernel
theorem dL_law_202 : decode cL_law 202 = .ok (.iload_n 3, 1) := by decide +kernel
theorem dL_law_203 : decode cL_law 203 = .ok (.iconst 1, 1) := by decide +kernel
theorem dL_law_204 : decode cL_law 204 = .ok (.iadd, 1) := by decide +kernel
theorem dL_law_205 : decode cL_law 205 = .ok (.iaload, 1) := by decide +kernel
theorem dL_law_206 : decode cL_law 206 = .ok (.invokevirtual 25, 3) := by decide +kernel
theorem dL_law_209 : decode cL_law 209 = .ok (.aload_n 2, 1) := by decide +kernel
theorem dL_law_210 : decode cL_law 210 = .ok (.aload_n 0, 1) := by decide +kernel
theorem dL_law_211 : decode cL_law 211 = .ok (.iload_n 3, 1) := by decide +kernel
theorem dL_law_212 : decode cL_law 212 = .ok (.iconst 1, 1) := by decide +kernel
theorem dL_law_213 : decode cL_law 213 = .ok (.iadd, 1) := by decide +kernel
theorem dL_law_214 : decode cL_law 214 = .ok (.iaload, 1) := by decide +kernel
theorem dL_law_215 : decode cL_law 215 = .ok (.invokevirtual 29, 3) := by decide +kernel
theorem dL_law_218 : decode cL_law 218 = .ok (.if_icmp .eq 248, 3) := by decide +kernel
theorem dL_law_221 : decode cL_law 221 = .ok (.iconst 0, 1) := by decide +kernel
theorem dL_law_222 : decode cL_law 222 = .ok (.ireturn, 1) := by decide +kernel
theorem dL_law_223 : decode cL_law 223 = .ok (.aload_n 1, 1) := by decide +kernel
theorem dL_law_224 : decode cL_law 224 = .ok (.aload_n 0, 1) := by decide +kernel
theorem dL_law_225 : decode cL_law 225 = .ok (.iload_n 3, 1) := by decide +kernel
theorem dL_law_226 : decode cL_law 226 = .ok (.iconst 1, 1) := by decide +kernel
theorem dL_law_227 : decode cL_law 227 = .ok (.iadd, 1) := by decide +kernel
theorem dL_law_228 : decode cL_law 228 = .ok (.iaload, 1) := by decide +kernel
theorem dL_law_229 : decode cL_law 229 = .ok (.aload_n 0, 1) := by decide +kernel
theorem dL_law_230 : decode cL_law 230 = .ok (.iload_n 3, 1) := by decide +kernel
theorem dL_law_231 : decode cL_law 231 = .ok (.iconst 2, 1) := by decide +kernel
theorem dL_law_232 : decode cL_law 232 = .ok (.iadd, 1) := by decide +kernel
theorem dL_law_233 : decode cL_law 233 = .ok (.iaload, 1) := by decide +kernel
theorem dL_law_234 : decode cL_law 234 = .ok (.invokevirtual 30, 3) := by decide +kernel
theorem dL_law_237 : decode cL_law 237 = .ok (.aload_n 2, 1) := by decide +kernel
theorem dL_law_238 : decode cL_law 238 = .ok (.aload_n 0, 1) := by decide +kernel
theorem dL_law_239 : decode cL_law 239 = .ok (.iload_n 3, 1) := by decide +kernel
theorem dL_law_240 : decode cL_law 240 = .ok (.iconst 1, 1) := by decide +kernel
theorem dL_law_241 : decode cL_law 241 = .ok (.iadd, 1) := by decide +kernel
theorem dL_law_242 : decode cL_law 242 = .ok (.iaload, 1) := by decide +kernel
theorem dL_law_243 : decode cL_law 243 = .ok (.aload_n 0, 1) := by decide +kernel
theorem dL_law_244 : decode cL_law 244 = .ok (.iload_n 3, 1) := by decide +kernel
theorem dL_law_245 : decode cL_law 245 = .ok (.iconst 2, 1) := by decide +kernel
theorem dL_law_246 : decode cL_law 246 = .ok (.iadd, 1) := by decide +kernel
theorem dL_law_247 : decode cL_law 247 = .ok (.iaload, 1) := by decide +kernel
theorem dL_law_248 : decode cL_law 248 = .ok (.invokevirtual 33, 3) := by decide +kernel
theorem dL_law_251 : decode cL_law 251 = .ok (.if_icmp .eq 215, 3) := by decide +kernel
theorem dL_law_254 : decode cL_law 254 = .ok (.iconst 0, 1) := by decide +kernel
theorem dL_law_255 : decode cL_law 255 = .ok (.ireturn, 1) := by decide +kernel
theorem dL_law_256 : decode cL_law 256 = .ok (.aload_n 1, 1) := by decide +kernel
theorem dL_law_257 : decode cL_law 257 = .ok (.aload_n 0, 1) := by decide +kernel
theorem dL_law_258 : decode cL_law 258 = .ok (.iload_n 3, 1) := by decide +kernel
theorem dL_law_259 : decode cL_law 259 = .ok (.iconst 1, 1) := by decide +kernel
theorem dL_law_260 : decode cL_law 260 = .ok (.iadd, 1) := by decide +kernel
theorem dL_law_261 : decode cL_law 261 = .ok (.iaload, 1) := by decide +kernel
theorem dL_law_262 : decode cL_law 262 = .ok (.invokevirtual 34, 3) := by decide +kernel
theorem dL_law_265 : decode cL_law 265 = .ok (.aload_n 2, 1) := by decide +kernel
theorem dL_law_266 : decode cL_law 266 = .ok (.aload_n 0, 1) := by decide +kernel
theorem dL_law_267 : decode cL_law 267 = .ok (.iload_n 3, 1) := by decide +kernel
theorem dL_law_268 : decode cL_law 268 = .ok (.iconst 1, 1) := by decide +kernel
theorem dL_law_269 : decode cL_law 269 = .ok (.iadd, 1) := by decide +kernel
theorem dL_law_270 : decode cL_law 270 = .ok (.iaload, 1) := by decide +kernel
theorem dL_law_271 : decode cL_law 271 = .ok (.invokevirtual 37, 3) := by decide +kernel
theorem dL_law_274 : decode cL_law 274 = .ok (.if_icmp .eq 192, 3) := by decide +kernel
theorem dL_law_277 : decode cL_law 277 = .ok (.iconst 0, 1) := by decide +kernel
theorem dL_law_278 : decode cL_law 278 = .ok (.ireturn, 1) := by decide +kernel
theorem dL_law_279 : decode cL_law 279 = .ok (.aload_n 1, 1) := by decide +kernel
theorem dL_law_280 : decode cL_law 280 = .ok (.aload_n 0, 1) := by decide +kernel
theorem dL_law_281 : decode cL_law 281 = .ok (.iload_n 3, 1) := by decide +kernel
theorem dL_law_282 : decode cL_law 282 = .ok (.iconst 1, 1) := by decide +kernel
theorem dL_law_283 : decode cL_law 283 = .ok (.iadd, 1) := by decide +kernel
theorem dL_law_284 : decode cL_law 284 = .ok (.iaload, 1) := by decide +kernel
theorem dL_law_285 : decode cL_law 285 = .ok (.invokevirtual 38, 3) := by decide +kernel
theorem dL_law_288 : decode cL_law 288 = .ok (.aload_n 2, 1) := by decide +kernel
theorem dL_law_289 : decode cL_law 289 = .ok (.aload_n 0, 1) := by decide +kernel
theorem dL_law_290 : decode cL_law 290 = .ok (.iload_n 3, 1) := by decide +kernel
theorem dL_law_291 : decode cL_law 291 = .ok (.iconst 1, 1) := by decide +kernel
theorem dL_law_292 : decode cL_law 292 = .ok (.iadd, 1) := by decide +kernel
theorem dL_law_293 : decode cL_law 293 = .ok (.iaload, 1) := by decide +kernel
theorem dL_law_294 : decode cL_law 294 = .ok (.invokevirtual 41, 3) := by decide +kernel
theorem dL_law_297 : decode cL_law 297 = .ok (.if_icmp .eq 169, 3) := by decide +kernel
theorem dL_law_300 : decode cL_law 300 = .ok (.iconst 0, 1) := by decide +kernel
theorem dL_law_301 : decode cL_law 301 = .ok (.ireturn, 1) := by decide +kernel
theorem dL_law_302 : decode cL_law 302 = .ok (.aload_n 1, 1) := by decide +kernel
theorem dL_law_303 : decode cL_law 303 = .ok (.aload_n 0, 1) := by decide +kernel
theorem dL_law_304 : decode cL_law 304 = .ok (.iload_n 3, 1) := by decide +kernel
theorem dL_law_305 : decode cL_law 305 = .ok (.iconst 1, 1) := by decide +kernel
theorem dL_law_306 : decode cL_law 306 = .ok (.iadd, 1) := by decide +kernel
theorem dL_law_307 : decode cL_law 307 = .ok (.iaload, 1) := by decide +kernel
theorem dL_law_308 : decode cL_law 308 = .ok (.invokevirtual 42, 3) := by decide +kernel
theorem dL_law_311 : decode cL_law 311 = .ok (.aload_n 2, 1) := by decide +kernel
theorem dL_law_312 : decode cL_law 312 = .ok (.aload_n 0, 1) := by decide +kernel
theorem dL_law_313 : decode cL_law 313 = .ok (.iload_n 3, 1) := by decide +kernel
theorem dL_law_314 : decode cL_law 314 = .ok (.iconst 1, 1) := by decide +kernel
theorem dL_law_315 : decode cL_law 315 = .ok (.iadd, 1) := by decide +kernel
theorem dL_law_316 : decode cL_law 316 = .ok (.iaload, 1) := by decide +kernel
theorem dL_law_317 : decode cL_law 317 = .ok (.invokevirtual 45, 3) := by decide +kernel
theorem dL_law_320 : decode cL_law 320 = .ok (.if_icmp .eq 146, 3) := by decide +kernel
theorem dL_law_323 : decode cL_law 323 = .ok (.iconst 0, 1) := by decide +kernel
theorem dL_law_324 : decode cL_law 324 = .ok (.ireturn, 1) := by decide +kernel
theorem dL_law_325 : decode cL_law 325 = .ok (.aload_n 1, 1) := by decide +kernel
theorem dL_law_326 : decode cL_law 326 = .ok (.aload_n 0, 1) := by decide +kernel
theorem dL_law_327 : decode cL_law 327 = .ok (.iload_n 3, 1) := by decide +kernel
theorem dL_law_328 : decode cL_law 328 = .ok (.iconst 1, 1) := by decide +kernel
theorem dL_law_329 : decode cL_law 329 = .ok (.iadd, 1) := by decide +kernel
theorem dL_law_330 : decode cL_law 330 = .ok (.iaload, 1) := by decide +kernel
theorem dL_law_331 : decode cL_law 331 = .ok (.invokevirtual 46, 3) := by decide +kernel
theorem dL_law_334 : decode cL_law 334 = .ok (.aload_n 2, 1) := by decide +kernel
theorem dL_law_335 : decode cL_law 335 = .ok (.aload_n 0, 1) := by decide +kernel
theorem dL_law_336 : decode cL_law 336 = .ok (.iload_n 3, 1) := by decide +kernel
theorem dL_law_337 : decode cL_law 337 = .ok (.iconst 1, 1) := by decide +kernel
theorem dL_law_338 : decode cL_law 338 = .ok (.iadd, 1) := by decide +kernel
theorem dL_law_339 : decode cL_law 339 = .ok (.iaload, 1) := by decide +kernel
theorem dL_law_340 : decode cL_law 340 = .ok (.invokevirtual 49, 3) := by decide +kernel
theorem dL_law_343 : decode cL_law 343 = .ok (.if_icmp .eq 123, 3) := by decide +kernel
theorem dL_law_346 : decode cL_law 346 = .ok (.iconst 0, 1) := by decide +kernel
theorem dL_law_347 : decode cL_law 347 = .ok (.ireturn, 1) := by decide +kernel
theorem dL_law_348 : decode cL_law 348 = .ok (.aload_n 1, 1) := by decide +kernel
theorem dL_law_349 : decode cL_law 349 = .ok (.invokevirtual 50, 3) := by decide +kernel
theorem dL_law_352 : decode cL_law 352 = .ok (.aload_n 2, 1) := by decide +kernel
theorem dL_law_353 : decode cL_law 353 = .ok (.invokevirtual 54, 3) := by decide +kernel
theorem dL_law_356 : decode cL_law 356 = .ok (.if_icmp .eq 110, 3) := by decide +kernel
theorem dL_law_359 : decode cL_law 359 = .ok (.iconst 0, 1) := by decide +kernel
theorem dL_law_360 : decode cL_law 360 = .ok (.ireturn, 1) := by decide +kernel
theorem dL_law_361 : decode cL_law 361 = .ok (.aload_n 1, 1) := by decide +kernel
theorem dL_law_362 : decode cL_law 362 = .ok (.aload_n 0, 1) := by decide +kernel
theorem dL_law_363 : decode cL_law 363 = .ok (.iload_n 3, 1) := by decide +kernel
theorem dL_law_364 : decode cL_law 364 = .ok (.iconst 1, 1) := by decide +kernel
theorem dL_law_365 : decode cL_law 365 = .ok (.iadd, 1) := by decide +kernel
theorem dL_law_366 : decode cL_law 366 = .ok (.iaload, 1) := by decide +kernel
theorem dL_law_367 : decode cL_law 367 = .ok (.invokevirtual 55, 3) := by decide +kernel
theorem dL_law_370 : decode cL_law 370 = .ok (.aload_n 2, 1) := by decide +kernel
theorem dL_law_371 : decode cL_law 371 = .ok (.aload_n 0, 1) := by decide +kernel
theorem dL_law_372 : decode cL_law 372 = .ok (.iload_n 3, 1) := by decide +kernel
theorem dL_law_373 : decode cL_law 373 = .ok (.iconst 1, 1) := by decide +kernel
theorem dL_law_374 : decode cL_law 374 = .ok (.iadd, 1) := by decide +kernel
theorem dL_law_375 : decode cL_law 375 = .ok (.iaload, 1) := by decide +kernel
theorem dL_law_376 : decode cL_law 376 = .ok (.invokevirtual 58, 3) := by decide +kernel
theorem dL_law_379 : decode cL_law 379 = .ok (.if_icmp .eq 87, 3) := by decide +kernel
theorem dL_law_382 : decode cL_law 382 = .ok (.iconst 0, 1) := by decide +kernel
theorem dL_law_383 : decode cL_law 383 = .ok (.ireturn, 1) := by decide +kernel
theorem dL_law_384 : decode cL_law 384 = .ok (.aload_n 1, 1) := by decide +kernel
theorem dL_law_385 : decode cL_law 385 = .ok (.invokevirtual 59, 3) := by decide +kernel
theorem dL_law_388 : decode cL_law 388 = .ok (.aload_n 2, 1) := by decide +kernel
theorem dL_law_389 : decode cL_law 389 = .ok (.invokevirtual 62, 3) := by decide +kernel
theorem dL_law_392 : decode cL_law 392 = .ok (.if_icmp .eq 74, 3) := by decide +kernel
theorem dL_law_395 : decode cL_law 395 = .ok (.iconst 0, 1) := by decide +kernel
theorem dL_law_396 : decode cL_law 396 = .ok (.ireturn, 1) := by decide +kernel
theorem dL_law_397 : decode cL_law 397 = .ok (.aload_n 1, 1) := by decide +kernel
theorem dL_law_398 : decode cL_law 398 = .ok (.aload_n 0, 1) := by decide +kernel
theorem dL_law_399 : decode cL_law 399 = .ok (.iload_n 3, 1) := by decide +kernel
theorem dL_law_400 : decode cL_law 400 = .ok (.iconst 1, 1) := by decide +kernel
theorem dL_law_401 : decode cL_law 401 = .ok (.iadd, 1) := by decide +kernel
theorem dL_law_402 : decode cL_law 402 = .ok (.iaload, 1) := by decide +kernel
theorem dL_law_403 : decode cL_law 403 = .ok (.aload_n 0, 1) := by decide +kernel
theorem dL_law_404 : decode cL_law 404 = .ok (.iload_n 3, 1) := by decide +kernel
theorem dL_law_405 : decode cL_law 405 = .ok (.iconst 2, 1) := by decide +kernel
theorem dL_law_406 : decode cL_law 406 = .ok (.iadd, 1) := by decide +kernel
theorem dL_law_407 : decode cL_law 407 = .ok (.iaload, 1) := by decide +kernel
theorem dL_law_408 : decode cL_law 408 = .ok (.invokevirtual 63, 3) := by decide +kernel
theorem dL_law_411 : decode cL_law 411 = .ok (.aload_n 2, 1) := by decide +kernel
theorem dL_law_412 : decode cL_law 412 = .ok (.aload_n 0, 1) := by decide +kernel
theorem dL_law_413 : decode cL_law 413 = .ok (.iload_n 3, 1) := by decide +kernel
theorem dL_law_414 : decode cL_law 414 = .ok (.iconst 1, 1) := by decide +kernel
theorem dL_law_415 : decode cL_law 415 = .ok (.iadd, 1) := by decide +kernel
theorem dL_law_416 : decode cL_law 416 = .ok (.iaload, 1) := by decide +kernel
theorem dL_law_417 : decode cL_law 417 = .ok (.aload_n 0, 1) := by decide +kernel
theorem dL_law_418 : decode cL_law 418 = .ok (.iload_n 3, 1) := by decide +kernel
theorem dL_law_419 : decode cL_law 419 = .ok (.iconst 2, 1) := by decide +kernel
theorem dL_law_420 : decode cL_law 420 = .ok (.iadd, 1) := by decide +kernel
theorem dL_law_421 : decode cL_law 421 = .ok (.iaload, 1) := by decide +kernel
theorem dL_law_422 : decode cL_law 422 = .ok (.invokevirtual 66, 3) := by decide +kernel
theorem dL_law_425 : decode cL_law 425 = .ok (.if_icmp .eq 41, 3) := by decide +kernel
theorem dL_law_428 : decode cL_law 428 = .ok (.iconst 0, 1) := by decide +kernel
theorem dL_law_429 : decode cL_law 429 = .ok (.ireturn, 1) := by decide +kernel
theorem dL_law_430 : decode cL_law 430 = .ok (.aload_n 1, 1) := by decide +kernel
theorem dL_law_431 : decode cL_law 431 = .ok (.invokevirtual 67, 3) := by decide +kernel
theorem dL_law_434 : decode cL_law 434 = .ok (.aload_n 2, 1) := by decide +kernel
theorem dL_law_435 : decode cL_law 435 = .ok (.invokevirtual 70, 3) := by decide +kernel
theorem dL_law_438 : decode cL_law 438 = .ok (.if_icmp .eq 28, 3) := by decide +kernel
theorem dL_law_441 : decode cL_law 441 = .ok (.iconst 0, 1) := by decide +kernel
theorem dL_law_442 : decode cL_law 442 = .ok (.ireturn, 1) := by decide +kernel
theorem dL_law_443 : decode cL_law 443 = .ok (.aload_n 1, 1) := by decide +kernel
theorem dL_law_444 : decode cL_law 444 = .ok (.aload_n 0, 1) := by decide +kernel
theorem dL_law_445 : decode cL_law 445 = .ok (.iload_n 3, 1) := by decide +kernel
theorem dL_law_446 : decode cL_law 446 = .ok (.iconst 1, 1) := by decide +kernel
theorem dL_law_447 : decode cL_law 447 = .ok (.iadd, 1) := by decide +kernel
theorem dL_law_448 : decode cL_law 448 = .ok (.iaload, 1) := by decide +kernel
theorem dL_law_449 : decode cL_law 449 = .ok (.invokevirtual 71, 3) := by decide +kernel
theorem dL_law_452 : decode cL_law 452 = .ok (.aload_n 2, 1) := by decide +kernel
theorem dL_law_453 : decode cL_law 453 = .ok (.aload_n 0, 1) := by decide +kernel
theorem dL_law_454 : decode cL_law 454 = .ok (.iload_n 3, 1) := by decide +kernel
theorem dL_law_455 : decode cL_law 455 = .ok (.iconst 1, 1) := by decide +kernel
theorem dL_law_456 : decode cL_law 456 = .ok (.iadd, 1) := by decide +kernel
theorem dL_law_457 : decode cL_law 457 = .ok (.iaload, 1) := by decide +kernel
theorem dL_law_458 : decode cL_law 458 = .ok (.invokevirtual 74, 3) := by decide +kernel
theorem dL_law_461 : decode cL_law 461 = .ok (.if_icmp .eq 5, 3) := by decide +kernel
theorem dL_law_464 : decode cL_law 464 = .ok (.iconst 0, 1) := by decide +kernel
theorem dL_law_465 : decode cL_law 465 = .ok (.ireturn, 1) := by decide +kernel
theorem dL_law_466 : decode cL_law 466 = .ok (.iinc 3 4, 3) := by decide +kernel
theorem dL_law_469 : decode cL_law 469 = .ok (.goto (-451), 3) := by decide +kernel
theorem dL_law_472 : decode cL_law 472 = .ok (.iconst 1, 1) := by decide +kernel
theorem dL_law_473 : decode cL_law 473 = .ok (.ireturn, 1) := by decide +kernel
abbrev vwCl : List vw_C := [(RX0, TX0, 1), (RX2, TX2, 1), (RX4, TX4, 8), (RX5, TX5, 8)]

