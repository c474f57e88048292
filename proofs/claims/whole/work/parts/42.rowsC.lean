theorem dX5_ofOne_184 : decode cX5_ofOne 184 = .ok (.goto 30, 3) := by decide +kernel
theorem dX5_ofOne_187 : decode cX5_ofOne 187 = .ok (.iload_n 3, 1) := by decide +kernel
theorem dX5_ofOne_188 : decode cX5_ofOne 188 = .ok (.iconst 1, 1) := by decide +kernel
theorem dX5_ofOne_189 : decode cX5_ofOne 189 = .ok (.isub, 1) := by decide +kernel
theorem dX5_ofOne_190 : decode cX5_ofOne 190 = .ok (.sipush 255, 3) := by decide +kernel
theorem dX5_ofOne_193 : decode cX5_ofOne 193 = .ok (.iand, 1) := by decide +kernel
theorem dX5_ofOne_194 : decode cX5_ofOne 194 = .ok (.istore 4, 2) := by decide +kernel
theorem dX5_ofOne_196 : decode cX5_ofOne 196 = .ok (.aload_n 0, 1) := by decide +kernel
theorem dX5_ofOne_197 : decode cX5_ofOne 197 = .ok (.iload 4, 2) := by decide +kernel
theorem dX5_ofOne_199 : decode cX5_ofOne 199 = .ok (.iload 4, 2) := by decide +kernel
theorem dX5_ofOne_201 : decode cX5_ofOne 201 = .ok (.bipush 127, 2) := by decide +kernel
theorem dX5_ofOne_203 : decode cX5_ofOne 203 = .ok (.if_icmp .ne 7, 3) := by decide +kernel
theorem dX5_ofOne_206 : decode cX5_ofOne 206 = .ok (.iconst 1, 1) := by decide +kernel
theorem dX5_ofOne_207 : decode cX5_ofOne 207 = .ok (.goto 4, 3) := by decide +kernel
theorem dX5_ofOne_210 : decode cX5_ofOne 210 = .ok (.iconst 0, 1) := by decide +kernel
theorem dX5_ofOne_211 : decode cX5_ofOne 211 = .ok (.invokevirtual 78, 3) := by decide +kernel
theorem dX5_ofOne_214 : decode cX5_ofOne 214 = .ok (.aload_n 0, 1) := by decide +kernel
theorem dX5_ofOne_215 : decode cX5_ofOne 215 = .ok (.getfield 13, 3) := by decide +kernel
theorem dX5_ofOne_218 : decode cX5_ofOne 218 = .ok (.iload_n 2, 1) := by decide +kernel
theorem dX5_ofOne_219 : decode cX5_ofOne 219 = .ok (.iload 4, 2) := by decide +kernel
theorem dX5_ofOne_221 : decode cX5_ofOne 221 = .ok (.iastore, 1) := by decide +kernel
theorem dX5_ofOne_222 : decode cX5_ofOne 222 = .ok (.return_, 1) := by decide +kernel
set_option maxRecDepth 20000 in
theorem ggX5_ofPair_X5_pair : GoodIn wsX5_ofPair wsX5_pair := goodIn_r _ [7, 8, 17, 18, 19, 20, 21, 22, 23, 24] (by decide +kernel) (by decide +kernel)
set_option maxRecDepth 20000 in
theorem gX5_ofPair_X5_pair : GoodIn wsX5_ofPair (wsV RX5 28 RX5 yX5_pair wsX5_pair) := goodIn_app (goodIn_of _ (by decide +kernel)) ggX5_ofPair_X5_pair
set_option maxRecDepth 20000 in
theorem ggX5_ofPair_X5_setPair : GoodIn wsX5_ofPair wsX5_setPair := goodIn_r _ [12, 8, 17, 18, 19, 20, 21, 22, 23, 24] (by decide +kernel) (by decide +kernel)
set_option maxRecDepth 20000 in
theorem gX5_ofPair_X5_setPair : GoodIn wsX5_ofPair (wsV RX5 106 RX5 yX5_setPair wsX5_setPair) := goodIn_app (goodIn_of _ (by decide +kernel)) ggX5_ofPair_X5_setPair
set_option maxRecDepth 20000 in
theorem ggX5_ofPair_X5_flag : GoodIn wsX5_ofPair wsX5_flag := goodIn_r _ [16, 8, 17, 18, 19, 20, 21, 22, 23, 24] (by decide +kernel) (by decide +kernel)
set_option maxRecDepth 20000 in
theorem gX5_ofPair_X5_flag : GoodIn wsX5_ofPair (wsV RX5 74 RX5 yX5_flag wsX5_flag) := goodIn_app (goodIn_of _ (by decide +kernel)) ggX5_ofPair_X5_flag
theorem dX5_ofPair_0 : decode cX5_ofPair 0 = .ok (.bipush 24, 2) := by decide +kernel
theorem dX5_ofPair_2 : decode cX5_ofPair 2 = .ok (.iconst 2, 1) := by decide +kernel
theorem dX5_ofPair_3 : decode cX5_ofPair 3 = .ok (.iload_n 1, 1) := by decide +kernel
theorem dX5_ofPair_4 : decode cX5_ofPair 4 = .ok (.iconst 4, 1) := by decide +kernel
theorem dX5_ofPair_5 : decode cX5_ofPair 5 = .ok (.ishr, 1) := by decide +kernel
theorem dX5_ofPair_6 : decode cX5_ofPair 6 = .ok (.iconst 3, 1) := by decide +kernel
theorem dX5_ofPair_7 : decode cX5_ofPair 7 = .ok (.iand, 1) := by decide +kernel
theorem dX5_ofPair_8 : decode cX5_ofPair 8 = .ok (.imul, 1) := by decide +kernel
theorem dX5_ofPair_9 : decode cX5_ofPair 9 = .ok (.iadd, 1) := by decide +kernel
theorem dX5_ofPair_10 : decode cX5_ofPair 10 = .ok (.istore_n 2, 1) := by decide +kernel
theorem dX5_ofPair_11 : decode cX5_ofPair 11 = .ok (.iload_n 1, 1) := by decide +kernel
theorem dX5_ofPair_12 : decode cX5_ofPair 12 = .ok (.iconst 2, 1) := by decide +kernel
theorem dX5_ofPair_13 : decode cX5_ofPair 13 = .ok (.ishr, 1) := by decide +kernel
theorem dX5_ofPair_14 : decode cX5_ofPair 14 = .ok (.bipush 48, 2) := by decide +kernel
theorem dX5_ofPair_16 : decode cX5_ofPair 16 = .ok (.iand, 1) := by decide +kernel
theorem dX5_ofPair_17 : decode cX5_ofPair 17 = .ok (.iload_n 1, 1) := by decide +kernel
theorem dX5_ofPair_18 : decode cX5_ofPair 18 = .ok (.bipush 15, 2) := by decide +kernel
theorem dX5_ofPair_20 : decode cX5_ofPair 20 = .ok (.iand, 1) := by decide +kernel
theorem dX5_ofPair_21 : decode cX5_ofPair 21 = .ok (.ior, 1) := by decide +kernel
theorem dX5_ofPair_22 : decode cX5_ofPair 22 = .ok (.istore_n 3, 1) := by decide +kernel
theorem dX5_ofPair_23 : decode cX5_ofPair 23 = .ok (.aload_n 0, 1) := by decide +kernel
theorem dX5_ofPair_24 : decode cX5_ofPair 24 = .ok (.iload_n 2, 1) := by decide +kernel
theorem dX5_ofPair_25 : decode cX5_ofPair 25 = .ok (.invokevirtual 28, 3) := by decide +kernel
theorem dX5_ofPair_28 : decode cX5_ofPair 28 = .ok (.istore 4, 2) := by decide +kernel
theorem dX5_ofPair_30 : decode cX5_ofPair 30 = .ok (.iload_n 1, 1) := by decide +kernel
theorem dX5_ofPair_31 : decode cX5_ofPair 31 = .ok (.sipush 256, 3) := by decide +kernel
theorem dX5_ofPair_34 : decode cX5_ofPair 34 = .ok (.iand, 1) := by decide +kernel
theorem dX5_ofPair_35 : decode cX5_ofPair 35 = .ok (.ifCond .eq 7, 3) := by decide +kernel
theorem dX5_ofPair_38 : decode cX5_ofPair 38 = .ok (.iconst 1, 1) := by decide +kernel
theorem dX5_ofPair_39 : decode cX5_ofPair 39 = .ok (.goto 4, 3) := by decide +kernel
theorem dX5_ofPair_42 : decode cX5_ofPair 42 = .ok (.iconst 0, 1) := by decide +kernel
theorem dX5_ofPair_43 : decode cX5_ofPair 43 = .ok (.istore 5, 2) := by decide +kernel
theorem dX5_ofPair_45 : decode cX5_ofPair 45 = .ok (.iload 5, 2) := by decide +kernel
theorem dX5_ofPair_47 : decode cX5_ofPair 47 = .ok (.ifCond .eq 10, 3) := by decide +kernel
theorem dX5_ofPair_50 : decode cX5_ofPair 50 = .ok (.iload 4, 2) := by decide +kernel
theorem dX5_ofPair_52 : decode cX5_ofPair 52 = .ok (.iload_n 3, 1) := by decide +kernel
theorem dX5_ofPair_53 : decode cX5_ofPair 53 = .ok (.isub, 1) := by decide +kernel
theorem dX5_ofPair_54 : decode cX5_ofPair 54 = .ok (.goto 7, 3) := by decide +kernel
theorem dX5_ofPair_57 : decode cX5_ofPair 57 = .ok (.iload 4, 2) := by decide +kernel
theorem dX5_ofPair_59 : decode cX5_ofPair 59 = .ok (.iload_n 3, 1) := by decide +kernel
theorem dX5_ofPair_60 : decode cX5_ofPair 60 = .ok (.iadd, 1) := by decide +kernel
theorem dX5_ofPair_61 : decode cX5_ofPair 61 = .ok (.ldc 27, 2) := by decide +kernel
theorem dX5_ofPair_63 : decode cX5_ofPair 63 = .ok (.iand, 1) := by decide +kernel
theorem dX5_ofPair_64 : decode cX5_ofPair 64 = .ok (.istore 6, 2) := by decide +kernel
theorem dX5_ofPair_66 : decode cX5_ofPair 66 = .ok (.iload 4, 2) := by decide +kernel
theorem dX5_ofPair_68 : decode cX5_ofPair 68 = .ok (.ldc 120, 2) := by decide +kernel
theorem dX5_ofPair_70 : decode cX5_ofPair 70 = .ok (.if_icmp .ge 15, 3) := by decide +kernel
theorem dX5_ofPair_73 : decode cX5_ofPair 73 = .ok (.iload 6, 2) := by decide +kernel
theorem dX5_ofPair_75 : decode cX5_ofPair 75 = .ok (.sipush 32767, 3) := by decide +kernel
theorem dX5_ofPair_78 : decode cX5_ofPair 78 = .ok (.if_icmp .le 7, 3) := by decide +kernel
theorem dX5_ofPair_81 : decode cX5_ofPair 81 = .ok (.iconst 1, 1) := by decide +kernel
theorem dX5_ofPair_82 : decode cX5_ofPair 82 = .ok (.goto 4, 3) := by decide +kernel
theorem dX5_ofPair_85 : decode cX5_ofPair 85 = .ok (.iconst 0, 1) := by decide +kernel
theorem dX5_ofPair_86 : decode cX5_ofPair 86 = .ok (.istore 7, 2) := by decide +kernel
theorem dX5_ofPair_88 : decode cX5_ofPair 88 = .ok (.iload 4, 2) := by decide +kernel
theorem dX5_ofPair_90 : decode cX5_ofPair 90 = .ok (.sipush 32767, 3) := by decide +kernel
theorem dX5_ofPair_93 : decode cX5_ofPair 93 = .ok (.if_icmp .le 14, 3) := by decide +kernel
theorem dX5_ofPair_96 : decode cX5_ofPair 96 = .ok (.iload 6, 2) := by decide +kernel
theorem dX5_ofPair_98 : decode cX5_ofPair 98 = .ok (.ldc 120, 2) := by decide +kernel
theorem dX5_ofPair_100 : decode cX5_ofPair 100 = .ok (.if_icmp .ge 7, 3) := by decide +kernel
theorem dX5_ofPair_103 : decode cX5_ofPair 103 = .ok (.iconst 1, 1) := by decide +kernel
theorem dX5_ofPair_104 : decode cX5_ofPair 104 = .ok (.goto 4, 3) := by decide +kernel
theorem dX5_ofPair_107 : decode cX5_ofPair 107 = .ok (.iconst 0, 1) := by decide +kernel
theorem dX5_ofPair_108 : decode cX5_ofPair 108 = .ok (.istore 8, 2) := by decide +kernel
theorem dX5_ofPair_110 : decode cX5_ofPair 110 = .ok (.aload_n 0, 1) := by decide +kernel
theorem dX5_ofPair_111 : decode cX5_ofPair 111 = .ok (.iload_n 2, 1) := by decide +kernel
theorem dX5_ofPair_112 : decode cX5_ofPair 112 = .ok (.iload 6, 2) := by decide +kernel
theorem dX5_ofPair_114 : decode cX5_ofPair 114 = .ok (.invokevirtual 106, 3) := by decide +kernel
theorem dX5_ofPair_117 : decode cX5_ofPair 117 = .ok (.aload_n 0, 1) := by decide +kernel
theorem dX5_ofPair_118 : decode cX5_ofPair 118 = .ok (.iconst 2, 1) := by decide +kernel
theorem dX5_ofPair_119 : decode cX5_ofPair 119 = .ok (.iload 6, 2) := by decide +kernel
theorem dX5_ofPair_121 : decode cX5_ofPair 121 = .ok (.ifCond .ne 7, 3) := by decide +kernel
theorem dX5_ofPair_124 : decode cX5_ofPair 124 = .ok (.iconst 1, 1) := by decide +kernel
theorem dX5_ofPair_125 : decode cX5_ofPair 125 = .ok (.goto 4, 3) := by decide +kernel
theorem dX5_ofPair_128 : decode cX5_ofPair 128 = .ok (.iconst 0, 1) := by decide +kernel
theorem dX5_ofPair_129 : decode cX5_ofPair 129 = .ok (.invokevirtual 74, 3) := by decide +kernel
theorem dX5_ofPair_132 : decode cX5_ofPair 132 = .ok (.aload_n 0, 1) := by decide +kernel
theorem dX5_ofPair_133 : decode cX5_ofPair 133 = .ok (.iconst 4, 1) := by decide +kernel
theorem dX5_ofPair_134 : decode cX5_ofPair 134 = .ok (.iload 6, 2) := by decide +kernel
theorem dX5_ofPair_136 : decode cX5_ofPair 136 = .ok (.sipush 32767, 3) := by decide +kernel
theorem dX5_ofPair_139 : decode cX5_ofPair 139 = .ok (.if_icmp .le 7, 3) := by decide +kernel
theorem dX5_ofPair_142 : decode cX5_ofPair 142 = .ok (.iconst 1, 1) := by decide +kernel
theorem dX5_ofPair_143 : decode cX5_ofPair 143 = .ok (.goto 4, 3) := by decide +kernel
theorem dX5_ofPair_146 : decode cX5_ofPair 146 = .ok (.iconst 0, 1) := by decide +kernel
theorem dX5_ofPair_147 : decode cX5_ofPair 147 = .ok (.invokevirtual 74, 3) := by decide +kernel
theorem dX5_ofPair_150 : decode cX5_ofPair 150 = .ok (.aload_n 0, 1) := by decide +kernel
theorem dX5_ofPair_151 : decode cX5_ofPair 151 = .ok (.bipush 8, 2) := by decide +kernel
theorem dX5_ofPair_153 : decode cX5_ofPair 153 = .ok (.iload 5, 2) := by decide +kernel
theorem dX5_ofPair_155 : decode cX5_ofPair 155 = .ok (.ifCond .eq 8, 3) := by decide +kernel
theorem dX5_ofPair_158 : decode cX5_ofPair 158 = .ok (.iload 8, 2) := by decide +kernel
theorem dX5_ofPair_160 : decode cX5_ofPair 160 = .ok (.goto 5, 3) := by decide +kernel
theorem dX5_ofPair_163 : decode cX5_ofPair 163 = .ok (.iload 7, 2) := by decide +kernel
theorem dX5_ofPair_165 : decode cX5_ofPair 165 = .ok (.invokevirtual 74, 3) := by decide +kernel
theorem dX5_ofPair_168 : decode cX5_ofPair 168 = .ok (.aload_n 0, 1) := by decide +kernel
theorem dX5_ofPair_169 : decode cX5_ofPair 169 = .ok (.iconst 1, 1) := by decide +kernel
theorem dX5_ofPair_170 : decode cX5_ofPair 170 = .ok (.iload 5, 2) := by decide +kernel
theorem dX5_ofPair_172 : decode cX5_ofPair 172 = .ok (.ifCond .eq 8, 3) := by decide +kernel
theorem dX5_ofPair_175 : decode cX5_ofPair 175 = .ok (.iload 7, 2) := by decide +kernel
theorem dX5_ofPair_177 : decode cX5_ofPair 177 = .ok (.goto 5, 3) := by decide +kernel
theorem dX5_ofPair_180 : decode cX5_ofPair 180 = .ok (.iload 8, 2) := by decide +kernel
theorem dX5_ofPair_182 : decode cX5_ofPair 182 = .ok (.invokevirtual 74, 3) := by decide +kernel
theorem dX5_ofPair_185 : decode cX5_ofPair 185 = .ok (.aload_n 0, 1) := by decide +kernel
theorem dX5_ofPair_186 : decode cX5_ofPair 186 = .ok (.bipush 16, 2) := by decide +kernel
theorem dX5_ofPair_188 : decode cX5_ofPair 188 = .ok (.iload 6, 2) := by decide +kernel
theorem dX5_ofPair_190 : decode cX5_ofPair 190 = .ok (.sipush 32767, 3) := by decide +kernel
theorem dX5_ofPair_193 : decode cX5_ofPair 193 = .ok (.if_icmp .le 7, 3) := by decide +kernel
theorem dX5_ofPair_196 : decode cX5_ofPair 196 = .ok (.iconst 1, 1) := by decide +kernel
theorem dX5_ofPair_197 : decode cX5_ofPair 197 = .ok (.goto 4, 3) := by decide +kernel
theorem dX5_ofPair_200 : decode cX5_ofPair 200 = .ok (.iconst 0, 1) := by decide +kernel
theorem dX5_ofPair_201 : decode cX5_ofPair 201 = .ok (.iload 5, 2) := by decide +kernel
theorem dX5_ofPair_203 : decode cX5_ofPair 203 = .ok (.ifCond .eq 8, 3) := by decide +kernel
theorem dX5_ofPair_206 : decode cX5_ofPair 206 = .ok (.iload 8, 2) := by decide +kernel
theorem dX5_ofPair_208 : decode cX5_ofPair 208 = .ok (.goto 5, 3) := by decide +kernel
theorem dX5_ofPair_211 : decode cX5_ofPair 211 = .ok (.iload 7, 2) := by decide +kernel
theorem dX5_ofPair_213 : decode cX5_ofPair 213 = .ok (.if_icmp .eq 7, 3) := by decide +kernel
theorem dX5_ofPair_216 : decode cX5_ofPair 216 = .ok (.iconst 1, 1) := by decide +kernel
theorem dX5_ofPair_217 : decode cX5_ofPair 217 = .ok (.goto 4, 3) := by decide +kernel
theorem dX5_ofPair_220 : decode cX5_ofPair 220 = .ok (.iconst 0, 1) := by decide +kernel
theorem dX5_ofPair_221 : decode cX5_ofPair 221 = .ok (.invokevirtual 74, 3) := by decide +kernel
theorem dX5_ofPair_224 : decode cX5_ofPair 224 = .ok (.return_, 1) := by decide +kernel
theorem dX5_isFar_0 : decode cX5_isFar 0 = .ok (.iload_n 0, 1) := by decide +kernel
theorem dX5_isFar_1 : decode cX5_isFar 1 = .ok (.sipush 1023, 3) := by decide +kernel
theorem dX5_isFar_4 : decode cX5_isFar 4 = .ok (.if_icmp .le 7, 3) := by decide +kernel
theorem dX5_isFar_7 : decode cX5_isFar 7 = .ok (.iconst 1, 1) := by decide +kernel
theorem dX5_isFar_8 : decode cX5_isFar 8 = .ok (.goto 4, 3) := by decide +kernel
theorem dX5_isFar_11 : decode cX5_isFar 11 = .ok (.iconst 0, 1) := by decide +kernel
theorem dX5_isFar_12 : decode cX5_isFar 12 = .ok (.ireturn, 1) := by decide +kernel
set_option maxRecDepth 20000 in
theorem ggX5_pushes_X5_pair : GoodIn wsX5_pushes wsX5_pair := goodIn_r _ [7, 1, 12, 13, 14, 15, 16, 17, 18, 19] (by decide +kernel) (by decide +kernel)
set_option maxRecDepth 20000 in
theorem gX5_pushes_X5_pair : GoodIn wsX5_pushes (wsV RX5 28 RX5 yX5_pair wsX5_pair) := goodIn_app (goodIn_of _ (by decide +kernel)) ggX5_pushes_X5_pair
set_option maxRecDepth 20000 in
theorem ggX5_pushes_X5_setPair : GoodIn wsX5_pushes wsX5_setPair := goodIn_r _ [11, 1, 12, 13, 14, 15, 16, 17, 18, 19] (by decide +kernel) (by decide +kernel)
set_option maxRecDepth 20000 in
theorem gX5_pushes_X5_setPair : GoodIn wsX5_pushes (wsV RX5 106 RX5 yX5_setPair wsX5_setPair) := goodIn_app (goodIn_of _ (by decide +kernel)) ggX5_pushes_X5_setPair
theorem dX5_pushes_0 : decode cX5_pushes 0 = .ok (.aload_n 0, 1) := by decide +kernel
theorem dX5_pushes_1 : decode cX5_pushes 1 = .ok (.bipush 93, 2) := by decide +kernel
theorem dX5_pushes_3 : decode cX5_pushes 3 = .ok (.invokevirtual 28, 3) := by decide +kernel
theorem dX5_pushes_6 : decode cX5_pushes 6 = .ok (.istore_n 2, 1) := by decide +kernel
theorem dX5_pushes_7 : decode cX5_pushes 7 = .ok (.aload_n 0, 1) := by decide +kernel
theorem dX5_pushes_8 : decode cX5_pushes 8 = .ok (.getfield 13, 3) := by decide +kernel
theorem dX5_pushes_11 : decode cX5_pushes 11 = .ok (.iload_n 2, 1) := by decide +kernel
theorem dX5_pushes_12 : decode cX5_pushes 12 = .ok (.iload_n 1, 1) := by decide +kernel
theorem dX5_pushes_13 : decode cX5_pushes 13 = .ok (.iastore, 1) := by decide +kernel
theorem dX5_pushes_14 : decode cX5_pushes 14 = .ok (.aload_n 0, 1) := by decide +kernel
theorem dX5_pushes_15 : decode cX5_pushes 15 = .ok (.bipush 93, 2) := by decide +kernel
theorem dX5_pushes_17 : decode cX5_pushes 17 = .ok (.iload_n 2, 1) := by decide +kernel
theorem dX5_pushes_18 : decode cX5_pushes 18 = .ok (.iconst 1, 1) := by decide +kernel
theorem dX5_pushes_19 : decode cX5_pushes 19 = .ok (.isub, 1) := by decide +kernel
theorem dX5_pushes_20 : decode cX5_pushes 20 = .ok (.ldc 27, 2) := by decide +kernel
theorem dX5_pushes_22 : decode cX5_pushes 22 = .ok (.iand, 1) := by decide +kernel
theorem dX5_pushes_23 : decode cX5_pushes 23 = .ok (.invokevirtual 106, 3) := by decide +kernel
theorem dX5_pushes_26 : decode cX5_pushes 26 = .ok (.return_, 1) := by decide +kernel
set_option maxRecDepth 20000 in
theorem ggX5_pops_X5_pair : GoodIn wsX5_pops wsX5_pair := goodIn_r _ [7, 2, 12, 13, 14, 15, 16, 17, 18, 19] (by decide +kernel) (by decide +kernel)
set_option maxRecDepth 20000 in
theorem gX5_pops_X5_pair : GoodIn wsX5_pops (wsV RX5 28 RX5 yX5_pair wsX5_pair) := goodIn_app (goodIn_of _ (by decide +kernel)) ggX5_pops_X5_pair
set_option maxRecDepth 20000 in
theorem ggX5_pops_X5_setPair : GoodIn wsX5_pops wsX5_setPair := goodIn_r _ [11, 2, 12, 13, 14, 15, 16, 17, 18, 19] (by decide +kernel) (by decide +kernel)
set_option maxRecDepth 20000 in
theorem gX5_pops_X5_setPair : GoodIn wsX5_pops (wsV RX5 106 RX5 yX5_setPair wsX5_setPair) := goodIn_app (goodIn_of _ (by decide +kernel)) ggX5_pops_X5_setPair
theorem dX5_pops_0 : decode cX5_pops 0 = .ok (.aload_n 0, 1) := by decide +kernel
theorem dX5_pops_1 : decode cX5_pops 1 = .ok (.bipush 93, 2) := by decide +kernel
theorem dX5_pops_3 : decode cX5_pops 3 = .ok (.invokevirtual 28, 3) := by decide +kernel
theorem dX5_pops_6 : decode cX5_pops 6 = .ok (.iconst 1, 1) := by decide +kernel
theorem dX5_pops_7 : decode cX5_pops 7 = .ok (.iadd, 1) := by decide +kernel
theorem dX5_pops_8 : decode cX5_pops 8 = .ok (.ldc 27, 2) := by decide +kernel
theorem dX5_pops_10 : decode cX5_pops 10 = .ok (.iand, 1) := by decide +kernel
theorem dX5_pops_11 : decode cX5_pops 11 = .ok (.istore_n 1, 1) := by decide +kernel
theorem dX5_pops_12 : decode cX5_pops 12 = .ok (.aload_n 0, 1) := by decide +kernel
theorem dX5_pops_13 : decode cX5_pops 13 = .ok (.bipush 93, 2) := by decide +kernel
theorem dX5_pops_15 : decode cX5_pops 15 = .ok (.iload_n 1, 1) := by decide +kernel
theorem dX5_pops_16 : decode cX5_pops 16 = .ok (.invokevirtual 106, 3) := by decide +kernel
theorem dX5_pops_19 : decode cX5_pops 19 = .ok (.aload_n 0, 1) := by decide +kernel
theorem dX5_pops_20 : decode cX5_pops 20 = .ok (.getfield 13, 3) := by decide +kernel
theorem dX5_pops_23 : decode cX5_pops 23 = .ok (.iload_n 1, 1) := by decide +kernel
theorem dX5_pops_24 : decode cX5_pops 24 = .ok (.iaload, 1) := by decide +kernel
theorem dX5_pops_25 : decode cX5_pops 25 = .ok (.ireturn, 1) := by decide +kernel
set_option maxRecDepth 20000 in
theorem ggX5_canCall_X5_pair : GoodIn wsX5_canCall wsX5_pair := goodIn_r _ [6, 7, 11, 12, 13, 14, 15, 16, 17, 18] (by decide +kernel) (by decide +kernel)
set_option maxRecDepth 20000 in
theorem gX5_canCall_X5_pair : GoodIn wsX5_canCall (wsV RX5 28 RX5 yX5_pair wsX5_pair) := goodIn_app (goodIn_of _ (by decide +kernel)) ggX5_canCall_X5_pair
set_option maxRecDepth 20000 in
theorem ggX5_canCall_X5_isFar : GoodIn wsX5_canCall wsX5_isFar := goodIn_r _ [10] (by decide +kernel) (by decide +kernel)
set_option maxRecDepth 20000 in
theorem gX5_canCall_X5_isFar : GoodIn wsX5_canCall (va_wsS RX5 121 yX5_isFar wsX5_isFar) := goodIn_app (goodIn_of _ (by decide +kernel)) ggX5_canCall_X5_isFar
theorem dX5_canCall_0 : decode cX5_canCall 0 = .ok (.aload_n 0, 1) := by decide +kernel
theorem dX5_canCall_1 : decode cX5_canCall 1 = .ok (.bipush 93, 2) := by decide +kernel
theorem dX5_canCall_3 : decode cX5_canCall 3 = .ok (.invokevirtual 28, 3) := by decide +kernel
theorem dX5_canCall_6 : decode cX5_canCall 6 = .ok (.istore_n 1, 1) := by decide +kernel
theorem dX5_canCall_7 : decode cX5_canCall 7 = .ok (.iload_n 1, 1) := by decide +kernel
theorem dX5_canCall_8 : decode cX5_canCall 8 = .ok (.invokestatic 121, 3) := by decide +kernel
theorem dX5_canCall_11 : decode cX5_canCall 11 = .ok (.ifCond .ne 19, 3) := by decide +kernel
theorem dX5_canCall_14 : decode cX5_canCall 14 = .ok (.iload_n 1, 1) := by decide +kernel
theorem dX5_canCall_15 : decode cX5_canCall 15 = .ok (.iconst 1, 1) := by decide +kernel
theorem dX5_canCall_16 : decode cX5_canCall 16 = .ok (.isub, 1) := by decide +kernel
theorem dX5_canCall_17 : decode cX5_canCall 17 = .ok (.ldc 27, 2) := by decide +kernel
theorem dX5_canCall_19 : decode cX5_canCall 19 = .ok (.iand, 1) := by decide +kernel
theorem dX5_canCall_20 : decode cX5_canCall 20 = .ok (.invokestatic 121, 3) := by decide +kernel
theorem dX5_canCall_23 : decode cX5_canCall 23 = .ok (.ifCond .ne 7, 3) := by decide +kernel
theorem dX5_canCall_26 : decode cX5_canCall 26 = .ok (.iconst 1, 1) := by decide +kernel
theorem dX5_canCall_27 : decode cX5_canCall 27 = .ok (.goto 4, 3) := by decide +kernel
theorem dX5_canCall_30 : decode cX5_canCall 30 = .ok (.iconst 0, 1) := by decide +kernel
theorem dX5_canCall_31 : decode cX5_canCall 31 = .ok (.ireturn, 1) := by decide +kernel
set_option maxRecDepth 20000 in
theorem ggX5_calls_X5_pushes : GoodIn wsX5_calls wsX5_pushes := goodIn_r _ [6, 7, 8, 9, 10, 11, 5, 12, 13, 14, 15, 16, 17, 18, 19, 20, 21, 22, 23, 24] (by decide +kernel) (by decide +kernel)
set_option maxRecDepth 20000 in
theorem gX5_calls_X5_pushes : GoodIn wsX5_calls (wsV RX5 124 RX5 yX5_pushes wsX5_pushes) := goodIn_app (goodIn_of _ (by decide +kernel)) ggX5_calls_X5_pushes
theorem dX5_calls_0 : decode cX5_calls 0 = .ok (.aload_n 0, 1) := by decide +kernel
theorem dX5_calls_1 : decode cX5_calls 1 = .ok (.iload_n 1, 1) := by decide +kernel
theorem dX5_calls_2 : decode cX5_calls 2 = .ok (.sipush 255, 3) := by decide +kernel
theorem dX5_calls_5 : decode cX5_calls 5 = .ok (.iand, 1) := by decide +kernel
theorem dX5_calls_6 : decode cX5_calls 6 = .ok (.invokevirtual 124, 3) := by decide +kernel
theorem dX5_calls_9 : decode cX5_calls 9 = .ok (.aload_n 0, 1) := by decide +kernel
theorem dX5_calls_10 : decode cX5_calls 10 = .ok (.iload_n 1, 1) := by decide +kernel
theorem dX5_calls_11 : decode cX5_calls 11 = .ok (.bipush 8, 2) := by decide +kernel
theorem dX5_calls_13 : decode cX5_calls 13 = .ok (.ishr, 1) := by decide +kernel
theorem dX5_calls_14 : decode cX5_calls 14 = .ok (.invokevirtual 124, 3) := by decide +kernel
theorem dX5_calls_17 : decode cX5_calls 17 = .ok (.aload_n 0, 1) := by decide +kernel
theorem dX5_calls_18 : decode cX5_calls 18 = .ok (.iload_n 2, 1) := by decide +kernel
theorem dX5_calls_19 : decode cX5_calls 19 = .ok (.sipush 1023, 3) := by decide +kernel
theorem dX5_calls_22 : decode cX5_calls 22 = .ok (.iand, 1) := by decide +kernel
theorem dX5_calls_23 : decode cX5_calls 23 = .ok (.putfield 84, 3) := by decide +kernel
theorem dX5_calls_26 : decode cX5_calls 26 = .ok (.return_, 1) := by decide +kernel
theorem dX5_codeByte_0 : decode cX5_codeByte 0 = .ok (.aload_n 0, 1) := by decide +kernel
theorem dX5_codeByte_1 : decode cX5_codeByte 1 = .ok (.getfield 7, 3) := by decide +kernel
theorem dX5_codeByte_4 : decode cX5_codeByte 4 = .ok (.iload_n 1, 1) := by decide +kernel
theorem dX5_codeByte_5 : decode cX5_codeByte 5 = .ok (.iconst 1, 1) := by decide +kernel
theorem dX5_codeByte_6 : decode cX5_codeByte 6 = .ok (.ishr, 1) := by decide +kernel
theorem dX5_codeByte_7 : decode cX5_codeByte 7 = .ok (.sipush 1023, 3) := by decide +kernel
theorem dX5_codeByte_10 : decode cX5_codeByte 10 = .ok (.iand, 1) := by decide +kernel
theorem dX5_codeByte_11 : decode cX5_codeByte 11 = .ok (.iaload, 1) := by decide +kernel
theorem dX5_codeByte_12 : decode cX5_codeByte 12 = .ok (.istore_n 2, 1) := by decide +kernel
theorem dX5_codeByte_13 : decode cX5_codeByte 13 = .ok (.iload_n 1, 1) := by decide +kernel
theorem dX5_codeByte_14 : decode cX5_codeByte 14 = .ok (.iconst 1, 1) := by decide +kernel
theorem dX5_codeByte_15 : decode cX5_codeByte 15 = .ok (.iand, 1) := by decide +kernel
theorem dX5_codeByte_16 : decode cX5_codeByte 16 = .ok (.ifCond .ne 11, 3) := by decide +kernel
theorem dX5_codeByte_19 : decode cX5_codeByte 19 = .ok (.iload_n 2, 1) := by decide +kernel
theorem dX5_codeByte_20 : decode cX5_codeByte 20 = .ok (.sipush 255, 3) := by decide +kernel
theorem dX5_codeByte_23 : decode cX5_codeByte 23 = .ok (.iand, 1) := by decide +kernel
theorem dX5_codeByte_24 : decode cX5_codeByte 24 = .ok (.goto 7, 3) := by decide +kernel
theorem dX5_codeByte_27 : decode cX5_codeByte 27 = .ok (.iload_n 2, 1) := by decide +kernel
theorem dX5_codeByte_28 : decode cX5_codeByte 28 = .ok (.bipush 8, 2) := by decide +kernel
theorem dX5_codeByte_30 : decode cX5_codeByte 30 = .ok (.ishr, 1) := by decide +kernel
theorem dX5_codeByte_31 : decode cX5_codeByte 31 = .ok (.ireturn, 1) := by decide +kernel
set_option maxRecDepth 20000 in
theorem ggX5_ofStack_X5_dOf : GoodIn wsX5_ofStack wsX5_dOf := goodIn_r _ [6] (by decide +kernel) (by decide +kernel)
set_option maxRecDepth 20000 in
theorem gX5_ofStack_X5_dOf : GoodIn wsX5_ofStack (va_wsS RX5 53 yX5_dOf wsX5_dOf) := goodIn_app (goodIn_of _ (by decide +kernel)) ggX5_ofStack_X5_dOf
set_option maxRecDepth 20000 in
theorem ggX5_ofStack_X5_pair : GoodIn wsX5_ofStack wsX5_pair := goodIn_r _ [10, 2, 26, 27, 28, 29, 30, 31, 32, 33] (by decide +kernel) (by decide +kernel)
set_option maxRecDepth 20000 in
theorem gX5_ofStack_X5_pair : GoodIn wsX5_ofStack (wsV RX5 28 RX5 yX5_pair wsX5_pair) := goodIn_app (goodIn_of _ (by decide +kernel)) ggX5_ofStack_X5_pair
set_option maxRecDepth 20000 in
theorem ggX5_ofStack_X5_isFar : GoodIn wsX5_ofStack wsX5_isFar := goodIn_r _ [13] (by decide +kernel) (by decide +kernel)
set_option maxRecDepth 20000 in
theorem gX5_ofStack_X5_isFar : GoodIn wsX5_ofStack (va_wsS RX5 121 yX5_isFar wsX5_isFar) := goodIn_app (goodIn_of _ (by decide +kernel)) ggX5_ofStack_X5_isFar
set_option maxRecDepth 20000 in
theorem ggX5_ofStack_X5_pushes : GoodIn wsX5_ofStack wsX5_pushes := goodIn_r _ [17, 2, 1, 7, 8, 9, 5, 10, 18, 19, 20, 21, 26, 27, 28, 29, 30, 31, 32, 33] (by decide +kernel) (by decide +kernel)
set_option maxRecDepth 20000 in
theorem gX5_ofStack_X5_pushes : GoodIn wsX5_ofStack (wsV RX5 124 RX5 yX5_pushes wsX5_pushes) := goodIn_app (goodIn_of _ (by decide +kernel)) ggX5_ofStack_X5_pushes
set_option maxRecDepth 20000 in
theorem ggX5_ofStack_X5_pops : GoodIn wsX5_ofStack wsX5_pops := goodIn_r _ [25, 1, 2, 7, 8, 9, 5, 10, 18, 19, 20, 21, 26, 27, 28, 29, 30, 31, 32, 33] (by decide +kernel) (by decide +kernel)
set_option maxRecDepth 20000 in
theorem gX5_ofStack_X5_pops : GoodIn wsX5_ofStack (wsV RX5 128 RX5 yX5_pops wsX5_pops) := goodIn_app (goodIn_of _ (by decide +kernel)) ggX5_ofStack_X5_pops
theorem dX5_ofStack_0 : decode cX5_ofStack 0 = .ok (.iload_n 1, 1) := by decide +kernel
theorem dX5_ofStack_1 : decode cX5_ofStack 1 = .ok (.invokestatic 53, 3) := by decide +kernel
theorem dX5_ofStack_4 : decode cX5_ofStack 4 = .ok (.istore_n 2, 1) := by decide +kernel
theorem dX5_ofStack_5 : decode cX5_ofStack 5 = .ok (.iload_n 1, 1) := by decide +kernel
theorem dX5_ofStack_6 : decode cX5_ofStack 6 = .ok (.sipush 512, 3) := by decide +kernel
theorem dX5_ofStack_9 : decode cX5_ofStack 9 = .ok (.iand, 1) := by decide +kernel
theorem dX5_ofStack_10 : decode cX5_ofStack 10 = .ok (.ifCond .eq 7, 3) := by decide +kernel
theorem dX5_ofStack_13 : decode cX5_ofStack 13 = .ok (.iconst 1, 1) := by decide +kernel
theorem dX5_ofStack_14 : decode cX5_ofStack 14 = .ok (.goto 4, 3) := by decide +kernel
theorem dX5_ofStack_17 : decode cX5_ofStack 17 = .ok (.iconst 0, 1) := by decide +kernel
theorem dX5_ofStack_18 : decode cX5_ofStack 18 = .ok (.istore_n 3, 1) := by decide +kernel
theorem dX5_ofStack_19 : decode cX5_ofStack 19 = .ok (.iload_n 3, 1) := by decide +kernel
theorem dX5_ofStack_20 : decode cX5_ofStack 20 = .ok (.ifCond .eq 12, 3) := by decide +kernel
theorem dX5_ofStack_23 : decode cX5_ofStack 23 = .ok (.aload_n 0, 1) := by decide +kernel
theorem dX5_ofStack_24 : decode cX5_ofStack 24 = .ok (.bipush 93, 2) := by decide +kernel
theorem dX5_ofStack_26 : decode cX5_ofStack 26 = .ok (.invokevirtual 28, 3) := by decide +kernel
theorem dX5_ofStack_29 : decode cX5_ofStack 29 = .ok (.goto 14, 3) := by decide +kernel
theorem dX5_ofStack_32 : decode cX5_ofStack 32 = .ok (.aload_n 0, 1) := by decide +kernel
theorem dX5_ofStack_33 : decode cX5_ofStack 33 = .ok (.bipush 93, 2) := by decide +kernel
theorem dX5_ofStack_35 : decode cX5_ofStack 35 = .ok (.invokevirtual 28, 3) := by decide +kernel
theorem dX5_ofStack_38 : decode cX5_ofStack 38 = .ok (.iconst 1, 1) := by decide +kernel
theorem dX5_ofStack_39 : decode cX5_ofStack 39 = .ok (.iadd, 1) := by decide +kernel
theorem dX5_ofStack_40 : decode cX5_ofStack 40 = .ok (.ldc 27, 2) := by decide +kernel
theorem dX5_ofStack_42 : decode cX5_ofStack 42 = .ok (.iand, 1) := by decide +kernel
theorem dX5_ofStack_43 : decode cX5_ofStack 43 = .ok (.istore 4, 2) := by decide +kernel
theorem dX5_ofStack_45 : decode cX5_ofStack 45 = .ok (.iload 4, 2) := by decide +kernel
theorem dX5_ofStack_47 : decode cX5_ofStack 47 = .ok (.invokestatic 121, 3) := by decide +kernel
theorem dX5_ofStack_50 : decode cX5_ofStack 50 = .ok (.ifCond .eq 5, 3) := by decide +kernel
theorem dX5_ofStack_53 : decode cX5_ofStack 53 = .ok (.iconst 3, 1) := by decide +kernel
theorem dX5_ofStack_54 : decode cX5_ofStack 54 = .ok (.ireturn, 1) := by decide +kernel
theorem dX5_ofStack_55 : decode cX5_ofStack 55 = .ok (.iload_n 3, 1) := by decide +kernel
theorem dX5_ofStack_56 : decode cX5_ofStack 56 = .ok (.ifCond .eq 16, 3) := by decide +kernel
theorem dX5_ofStack_59 : decode cX5_ofStack 59 = .ok (.aload_n 0, 1) := by decide +kernel
theorem dX5_ofStack_60 : decode cX5_ofStack 60 = .ok (.aload_n 0, 1) := by decide +kernel
theorem dX5_ofStack_61 : decode cX5_ofStack 61 = .ok (.getfield 13, 3) := by decide +kernel
theorem dX5_ofStack_64 : decode cX5_ofStack 64 = .ok (.iload_n 2, 1) := by decide +kernel
theorem dX5_ofStack_65 : decode cX5_ofStack 65 = .ok (.iaload, 1) := by decide +kernel
theorem dX5_ofStack_66 : decode cX5_ofStack 66 = .ok (.invokevirtual 124, 3) := by decide +kernel
theorem dX5_ofStack_69 : decode cX5_ofStack 69 = .ok (.goto 17, 3) := by decide +kernel
theorem dX5_ofStack_72 : decode cX5_ofStack 72 = .ok (.aload_n 0, 1) := by decide +kernel
theorem dX5_ofStack_73 : decode cX5_ofStack 73 = .ok (.invokevirtual 128, 3) := by decide +kernel
theorem dX5_ofStack_76 : decode cX5_ofStack 76 = .ok (.istore 5, 2) := by decide +kernel
theorem dX5_ofStack_78 : decode cX5_ofStack 78 = .ok (.aload_n 0, 1) := by decide +kernel
theorem dX5_ofStack_79 : decode cX5_ofStack 79 = .ok (.getfield 13, 3) := by decide +kernel
theorem dX5_ofStack_82 : decode cX5_ofStack 82 = .ok (.iload_n 2, 1) := by decide +kernel
theorem dX5_ofStack_83 : decode cX5_ofStack 83 = .ok (.iload 5, 2) := by decide +kernel
theorem dX5_ofStack_85 : decode cX5_ofStack 85 = .ok (.iastore, 1) := by decide +kernel
theorem dX5_ofStack_86 : decode cX5_ofStack 86 = .ok (.iconst 0, 1) := by decide +kernel
theorem dX5_ofStack_87 : decode cX5_ofStack 87 = .ok (.ireturn, 1) := by decide +kernel
set_option maxRecDepth 20000 in
theorem ggX5_moves_X5_isFar : GoodIn wsX5_moves wsX5_isFar := goodIn_r _ [5] (by decide +kernel) (by decide +kernel)
set_option maxRecDepth 20000 in
theorem gX5_moves_X5_isFar : GoodIn wsX5_moves (va_wsS RX5 121 yX5_isFar wsX5_isFar) := goodIn_app (goodIn_of _ (by decide +kernel)) ggX5_moves_X5_isFar
theorem dX5_moves_0 : decode cX5_moves 0 = .ok (.iload_n 1, 1) := by decide +kernel
theorem dX5_moves_1 : decode cX5_moves 1 = .ok (.invokestatic 121, 3) := by decide +kernel
theorem dX5_moves_4 : decode cX5_moves 4 = .ok (.ifCond .eq 5, 3) := by decide +kernel
theorem dX5_moves_7 : decode cX5_moves 7 = .ok (.iconst 3, 1) := by decide +kernel
theorem dX5_moves_8 : decode cX5_moves 8 = .ok (.ireturn, 1) := by decide +kernel
theorem dX5_moves_9 : decode cX5_moves 9 = .ok (.iload_n 3, 1) := by decide +kernel
theorem dX5_moves_10 : decode cX5_moves 10 = .ok (.ifCond .eq 18, 3) := by decide +kernel
theorem dX5_moves_13 : decode cX5_moves 13 = .ok (.aload_n 0, 1) := by decide +kernel
theorem dX5_moves_14 : decode cX5_moves 14 = .ok (.getfield 13, 3) := by decide +kernel
theorem dX5_moves_17 : decode cX5_moves 17 = .ok (.iload_n 1, 1) := by decide +kernel
theorem dX5_moves_18 : decode cX5_moves 18 = .ok (.aload_n 0, 1) := by decide +kernel
theorem dX5_moves_19 : decode cX5_moves 19 = .ok (.getfield 13, 3) := by decide +kernel
theorem dX5_moves_22 : decode cX5_moves 22 = .ok (.iload_n 2, 1) := by decide +kernel
theorem dX5_moves_23 : decode cX5_moves 23 = .ok (.iaload, 1) := by decide +kernel
theorem dX5_moves_24 : decode cX5_moves 24 = .ok (.iastore, 1) := by decide +kernel
theorem dX5_moves_25 : decode cX5_moves 25 = .ok (.goto 15, 3) := by decide +kernel
theorem dX5_moves_28 : decode cX5_moves 28 = .ok (.aload_n 0, 1) := by decide +kernel
theorem dX5_moves_29 : decode cX5_moves 29 = .ok (.getfield 13, 3) := by decide +kernel
theorem dX5_moves_32 : decode cX5_moves 32 = .ok (.iload_n 2, 1) := by decide +kernel
theorem dX5_moves_33 : decode cX5_moves 33 = .ok (.aload_n 0, 1) := by decide +kernel
theorem dX5_moves_34 : decode cX5_moves 34 = .ok (.getfield 13, 3) := by decide +kernel
theorem dX5_moves_37 : decode cX5_moves 37 = .ok (.iload_n 1, 1) := by decide +kernel
theorem dX5_moves_38 : decode cX5_moves 38 = .ok (.iaload, 1) := by decide +kernel
theorem dX5_moves_39 : decode cX5_moves 39 = .ok (.iastore, 1) := by decide +kernel
theorem dX5_moves_40 : decode cX5_moves 40 = .ok (.iconst 0, 1) := by decide +kernel
theorem dX5_moves_41 : decode cX5_moves 41 = .ok (.ireturn, 1) := by decide +kernel
set_option maxRecDepth 20000 in
theorem ggX5_ofMemory_X5_dOf : GoodIn wsX5_ofMemory wsX5_dOf := goodIn_r _ [8] (by decide +kernel) (by decide +kernel)
set_option maxRecDepth 20000 in
theorem gX5_ofMemory_X5_dOf : GoodIn wsX5_ofMemory (va_wsS RX5 53 yX5_dOf wsX5_dOf) := goodIn_app (goodIn_of _ (by decide +kernel)) ggX5_ofMemory_X5_dOf
set_option maxRecDepth 20000 in
theorem ggX5_ofMemory_X5_ofStack : GoodIn wsX5_ofMemory wsX5_ofStack := goodIn_r _ [12, 4, 3, 5, 6, 7, 8, 13, 14, 15, 16, 17, 18, 19, 20, 21, 22, 23, 24, 25, 26, 27, 28, 29, 30, 31, 43, 44, 45, 46, 47, 48, 49, 50] (by decide +kernel) (by decide +kernel)
set_option maxRecDepth 20000 in
theorem gX5_ofMemory_X5_ofStack : GoodIn wsX5_ofMemory (wsV RX5 131 RX5 yX5_ofStack wsX5_ofStack) := goodIn_app (goodIn_of _ (by decide +kernel)) ggX5_ofMemory_X5_ofStack
set_option maxRecDepth 20000 in
theorem ggX5_ofMemory_X5_moves : GoodIn wsX5_ofMemory wsX5_moves := goodIn_r _ [35, 3, 17, 18, 7, 19, 43, 44, 45, 46, 47, 48, 49, 50] (by decide +kernel) (by decide +kernel)
set_option maxRecDepth 20000 in
theorem gX5_ofMemory_X5_moves : GoodIn wsX5_ofMemory (wsV RX5 134 RX5 yX5_moves wsX5_moves) := goodIn_app (goodIn_of _ (by decide +kernel)) ggX5_ofMemory_X5_moves
set_option maxRecDepth 20000 in
theorem ggX5_ofMemory_X5_pair : GoodIn wsX5_ofMemory wsX5_pair := goodIn_r _ [16, 3, 43, 44, 45, 46, 47, 48, 49, 50] (by decide +kernel) (by decide +kernel)
set_option maxRecDepth 20000 in
theorem gX5_ofMemory_X5_pair : GoodIn wsX5_ofMemory (wsV RX5 28 RX5 yX5_pair wsX5_pair) := goodIn_app (goodIn_of _ (by decide +kernel)) ggX5_ofMemory_X5_pair
set_option maxRecDepth 20000 in
theorem ggX5_ofMemory_X5_codeByte : GoodIn wsX5_ofMemory wsX5_codeByte := goodIn_r _ [39, 1, 43, 44, 45, 46, 47, 48, 49, 50] (by decide +kernel) (by decide +kernel)
set_option maxRecDepth 20000 in
theorem gX5_ofMemory_X5_codeByte : GoodIn wsX5_ofMemory (wsV RX5 138 RX5 yX5_codeByte wsX5_codeByte) := goodIn_app (goodIn_of _ (by decide +kernel)) ggX5_ofMemory_X5_codeByte
set_option maxRecDepth 20000 in
theorem ggX5_ofMemory_X5_setPair : GoodIn wsX5_ofMemory wsX5_setPair := goodIn_r _ [27, 3, 43, 44, 45, 46, 47, 48, 49, 50] (by decide +kernel) (by decide +kernel)
set_option maxRecDepth 20000 in
theorem gX5_ofMemory_X5_setPair : GoodIn wsX5_ofMemory (wsV RX5 106 RX5 yX5_setPair wsX5_setPair) := goodIn_app (goodIn_of _ (by decide +kernel)) ggX5_ofMemory_X5_setPair
set_option maxRecDepth 20000 in
theorem ggX5_ofMemory_X5_changes : GoodIn wsX5_ofMemory wsX5_changes := goodIn_r _ [42] (by decide +kernel) (by decide +kernel)
set_option maxRecDepth 20000 in
theorem gX5_ofMemory_X5_changes : GoodIn wsX5_ofMemory (va_wsS RX5 50 yX5_changes wsX5_changes) := goodIn_app (goodIn_of _ (by decide +kernel)) ggX5_ofMemory_X5_changes
set_option maxRecDepth 20000 in
theorem ggX5_ofMemory_X5_isFar : GoodIn wsX5_ofMemory wsX5_isFar := goodIn_r _ [19] (by decide +kernel) (by decide +kernel)
set_option maxRecDepth 20000 in
theorem gX5_ofMemory_X5_isFar : GoodIn wsX5_ofMemory (va_wsS RX5 121 yX5_isFar wsX5_isFar) := goodIn_app (goodIn_of _ (by decide +kernel)) ggX5_ofMemory_X5_isFar
theorem dX5_ofMemory_0 : decode cX5_ofMemory 0 = .ok (.iload_n 1, 1) := by decide +kernel
theorem dX5_ofMemory_1 : decode cX5_ofMemory 1 = .ok (.invokestatic 53, 3) := by decide +kernel
theorem dX5_ofMemory_4 : decode cX5_ofMemory 4 = .ok (.istore_n 2, 1) := by decide +kernel
theorem dX5_ofMemory_5 : decode cX5_ofMemory 5 = .ok (.iload_n 1, 1) := by decide +kernel
theorem dX5_ofMemory_6 : decode cX5_ofMemory 6 = .ok (.bipush 15, 2) := by decide +kernel
theorem dX5_ofMemory_8 : decode cX5_ofMemory 8 = .ok (.iand, 1) := by decide +kernel
theorem dX5_ofMemory_9 : decode cX5_ofMemory 9 = .ok (.istore_n 3, 1) := by decide +kernel
theorem dX5_ofMemory_10 : decode cX5_ofMemory 10 = .ok (.iload_n 1, 1) := by decide +kernel
theorem dX5_ofMemory_11 : decode cX5_ofMemory 11 = .ok (.sipush 512, 3) := by decide +kernel
theorem dX5_ofMemory_14 : decode cX5_ofMemory 14 = .ok (.iand, 1) := by decide +kernel
theorem dX5_ofMemory_15 : decode cX5_ofMemory 15 = .ok (.ifCond .eq 7, 3) := by decide +kernel
theorem dX5_ofMemory_18 : decode cX5_ofMemory 18 = .ok (.iconst 1, 1) := by decide +kernel
theorem dX5_ofMemory_19 : decode cX5_ofMemory 19 = .ok (.goto 4, 3) := by decide +kernel
theorem dX5_ofMemory_22 : decode cX5_ofMemory 22 = .ok (.iconst 0, 1) := by decide +kernel
theorem dX5_ofMemory_23 : decode cX5_ofMemory 23 = .ok (.istore 4, 2) := by decide +kernel
theorem dX5_ofMemory_25 : decode cX5_ofMemory 25 = .ok (.iload_n 3, 1) := by decide +kernel
theorem dX5_ofMemory_26 : decode cX5_ofMemory 26 = .ok (.bipush 15, 2) := by decide +kernel
theorem dX5_ofMemory_28 : decode cX5_ofMemory 28 = .ok (.if_icmp .ne 9, 3) := by decide +kernel
theorem dX5_ofMemory_31 : decode cX5_ofMemory 31 = .ok (.aload_n 0, 1) := by decide +kernel
theorem dX5_ofMemory_32 : decode cX5_ofMemory 32 = .ok (.iload_n 1, 1) := by decide +kernel
theorem dX5_ofMemory_33 : decode cX5_ofMemory 33 = .ok (.invokevirtual 131, 3) := by decide +kernel
theorem dX5_ofMemory_36 : decode cX5_ofMemory 36 = .ok (.ireturn, 1) := by decide +kernel
theorem dX5_ofMemory_37 : decode cX5_ofMemory 37 = .ok (.iload_n 3, 1) := by decide +kernel
theorem dX5_ofMemory_38 : decode cX5_ofMemory 38 = .ok (.ifCond .ne 38, 3) := by decide +kernel
theorem dX5_ofMemory_41 : decode cX5_ofMemory 41 = .ok (.aload_n 0, 1) := by decide +kernel
theorem dX5_ofMemory_42 : decode cX5_ofMemory 42 = .ok (.getfield 7, 3) := by decide +kernel
theorem dX5_ofMemory_45 : decode cX5_ofMemory 45 = .ok (.aload_n 0, 1) := by decide +kernel
theorem dX5_ofMemory_46 : decode cX5_ofMemory 46 = .ok (.getfield 84, 3) := by decide +kernel
theorem dX5_ofMemory_49 : decode cX5_ofMemory 49 = .ok (.iaload, 1) := by decide +kernel
theorem dX5_ofMemory_50 : decode cX5_ofMemory 50 = .ok (.istore 5, 2) := by decide +kernel
theorem dX5_ofMemory_52 : decode cX5_ofMemory 52 = .ok (.aload_n 0, 1) := by decide +kernel
theorem dX5_ofMemory_53 : decode cX5_ofMemory 53 = .ok (.aload_n 0, 1) := by decide +kernel
theorem dX5_ofMemory_54 : decode cX5_ofMemory 54 = .ok (.getfield 84, 3) := by decide +kernel
theorem dX5_ofMemory_57 : decode cX5_ofMemory 57 = .ok (.iconst 1, 1) := by decide +kernel
theorem dX5_ofMemory_58 : decode cX5_ofMemory 58 = .ok (.iadd, 1) := by decide +kernel
theorem dX5_ofMemory_59 : decode cX5_ofMemory 59 = .ok (.sipush 1023, 3) := by decide +kernel
theorem dX5_ofMemory_62 : decode cX5_ofMemory 62 = .ok (.iand, 1) := by decide +kernel
theorem dX5_ofMemory_63 : decode cX5_ofMemory 63 = .ok (.putfield 84, 3) := by decide +kernel
theorem dX5_ofMemory_66 : decode cX5_ofMemory 66 = .ok (.aload_n 0, 1) := by decide +kernel
theorem dX5_ofMemory_67 : decode cX5_ofMemory 67 = .ok (.iload 5, 2) := by decide +kernel
theorem dX5_ofMemory_69 : decode cX5_ofMemory 69 = .ok (.iload_n 2, 1) := by decide +kernel
theorem dX5_ofMemory_70 : decode cX5_ofMemory 70 = .ok (.iload 4, 2) := by decide +kernel
theorem dX5_ofMemory_72 : decode cX5_ofMemory 72 = .ok (.invokevirtual 134, 3) := by decide +kernel
theorem dX5_ofMemory_75 : decode cX5_ofMemory 75 = .ok (.ireturn, 1) := by decide +kernel
theorem dX5_ofMemory_76 : decode cX5_ofMemory 76 = .ok (.iload_n 3, 1) := by decide +kernel
theorem dX5_ofMemory_77 : decode cX5_ofMemory 77 = .ok (.iconst 4, 1) := by decide +kernel
theorem dX5_ofMemory_78 : decode cX5_ofMemory 78 = .ok (.if_icmp .eq 8, 3) := by decide +kernel
theorem dX5_ofMemory_81 : decode cX5_ofMemory 81 = .ok (.iload_n 3, 1) := by decide +kernel
theorem dX5_ofMemory_82 : decode cX5_ofMemory 82 = .ok (.iconst 5, 1) := by decide +kernel
theorem dX5_ofMemory_83 : decode cX5_ofMemory 83 = .ok (.if_icmp .ne 43, 3) := by decide +kernel
theorem dX5_ofMemory_86 : decode cX5_ofMemory 86 = .ok (.aload_n 0, 1) := by decide +kernel
theorem dX5_ofMemory_87 : decode cX5_ofMemory 87 = .ok (.bipush 30, 2) := by decide +kernel
theorem dX5_ofMemory_89 : decode cX5_ofMemory 89 = .ok (.invokevirtual 28, 3) := by decide +kernel
theorem dX5_ofMemory_92 : decode cX5_ofMemory 92 = .ok (.istore 5, 2) := by decide +kernel
theorem dX5_ofMemory_94 : decode cX5_ofMemory 94 = .ok (.aload_n 0, 1) := by decide +kernel
theorem dX5_ofMemory_95 : decode cX5_ofMemory 95 = .ok (.getfield 13, 3) := by decide +kernel
theorem dX5_ofMemory_98 : decode cX5_ofMemory 98 = .ok (.iload_n 2, 1) := by decide +kernel
theorem dX5_ofMemory_99 : decode cX5_ofMemory 99 = .ok (.aload_n 0, 1) := by decide +kernel
theorem dX5_ofMemory_100 : decode cX5_ofMemory 100 = .ok (.iload 5, 2) := by decide +kernel
theorem dX5_ofMemory_102 : decode cX5_ofMemory 102 = .ok (.invokevirtual 138, 3) := by decide +kernel
theorem dX5_ofMemory_105 : decode cX5_ofMemory 105 = .ok (.iastore, 1) := by decide +kernel
theorem dX5_ofMemory_106 : decode cX5_ofMemory 106 = .ok (.iload_n 3, 1) := by decide +kernel
theorem dX5_ofMemory_107 : decode cX5_ofMemory 107 = .ok (.iconst 5, 1) := by decide +kernel
theorem dX5_ofMemory_108 : decode cX5_ofMemory 108 = .ok (.if_icmp .ne 16, 3) := by decide +kernel
theorem dX5_ofMemory_111 : decode cX5_ofMemory 111 = .ok (.aload_n 0, 1) := by decide +kernel
theorem dX5_ofMemory_112 : decode cX5_ofMemory 112 = .ok (.bipush 30, 2) := by decide +kernel
theorem dX5_ofMemory_114 : decode cX5_ofMemory 114 = .ok (.iload 5, 2) := by decide +kernel
theorem dX5_ofMemory_116 : decode cX5_ofMemory 116 = .ok (.iconst 1, 1) := by decide +kernel
theorem dX5_ofMemory_117 : decode cX5_ofMemory 117 = .ok (.iadd, 1) := by decide +kernel
theorem dX5_ofMemory_118 : decode cX5_ofMemory 118 = .ok (.ldc 27, 2) := by decide +kernel
theorem dX5_ofMemory_120 : decode cX5_ofMemory 120 = .ok (.iand, 1) := by decide +kernel
theorem dX5_ofMemory_121 : decode cX5_ofMemory 121 = .ok (.invokevirtual 106, 3) := by decide +kernel
theorem dX5_ofMemory_124 : decode cX5_ofMemory 124 = .ok (.iconst 0, 1) := by decide +kernel
theorem dX5_ofMemory_125 : decode cX5_ofMemory 125 = .ok (.ireturn, 1) := by decide +kernel
theorem dX5_ofMemory_126 : decode cX5_ofMemory 126 = .ok (.iload_n 3, 1) := by decide +kernel
theorem dX5_ofMemory_127 : decode cX5_ofMemory 127 = .ok (.bipush 12, 2) := by decide +kernel
theorem dX5_ofMemory_129 : decode cX5_ofMemory 129 = .ok (.if_icmp .ne 17, 3) := by decide +kernel
theorem dX5_ofMemory_132 : decode cX5_ofMemory 132 = .ok (.aload_n 0, 1) := by decide +kernel
theorem dX5_ofMemory_133 : decode cX5_ofMemory 133 = .ok (.aload_n 0, 1) := by decide +kernel
theorem dX5_ofMemory_134 : decode cX5_ofMemory 134 = .ok (.bipush 26, 2) := by decide +kernel
theorem dX5_ofMemory_136 : decode cX5_ofMemory 136 = .ok (.invokevirtual 28, 3) := by decide +kernel
theorem dX5_ofMemory_139 : decode cX5_ofMemory 139 = .ok (.iload_n 2, 1) := by decide +kernel
theorem dX5_ofMemory_140 : decode cX5_ofMemory 140 = .ok (.iload 4, 2) := by decide +kernel
theorem dX5_ofMemory_142 : decode cX5_ofMemory 142 = .ok (.invokevirtual 134, 3) := by decide +kernel
theorem dX5_ofMemory_145 : decode cX5_ofMemory 145 = .ok (.ireturn, 1) := by decide +kernel
theorem dX5_ofMemory_146 : decode cX5_ofMemory 146 = .ok (.iload_n 1, 1) := by decide +kernel
theorem dX5_ofMemory_147 : decode cX5_ofMemory 147 = .ok (.invokestatic 50, 3) := by decide +kernel
theorem dX5_ofMemory_150 : decode cX5_ofMemory 150 = .ok (.istore 5, 2) := by decide +kernel
theorem dX5_ofMemory_152 : decode cX5_ofMemory 152 = .ok (.aload_n 0, 1) := by decide +kernel
theorem dX5_ofMemory_153 : decode cX5_ofMemory 153 = .ok (.iload 5, 2) := by decide +kernel
theorem dX5_ofMemory_155 : decode cX5_ofMemory 155 = .ok (.invokevirtual 28, 3) := by decide +kernel
theorem dX5_ofMemory_158 : decode cX5_ofMemory 158 = .ok (.istore 6, 2) := by decide +kernel
theorem dX5_ofMemory_160 : decode cX5_ofMemory 160 = .ok (.iload_n 3, 1) := by decide +kernel
theorem dX5_ofMemory_161 : decode cX5_ofMemory 161 = .ok (.iconst 2, 1) := by decide +kernel
theorem dX5_ofMemory_162 : decode cX5_ofMemory 162 = .ok (.if_icmp .eq 15, 3) := by decide +kernel
theorem dX5_ofMemory_165 : decode cX5_ofMemory 165 = .ok (.iload_n 3, 1) := by decide +kernel
theorem dX5_ofMemory_166 : decode cX5_ofMemory 166 = .ok (.bipush 10, 2) := by decide +kernel
theorem dX5_ofMemory_168 : decode cX5_ofMemory 168 = .ok (.if_icmp .eq 9, 3) := by decide +kernel
theorem dX5_ofMemory_171 : decode cX5_ofMemory 171 = .ok (.iload_n 3, 1) := by decide +kernel
theorem dX5_ofMemory_172 : decode cX5_ofMemory 172 = .ok (.bipush 14, 2) := by decide +kernel
theorem dX5_ofMemory_174 : decode cX5_ofMemory 174 = .ok (.if_icmp .ne 7, 3) := by decide +kernel
theorem dX5_ofMemory_177 : decode cX5_ofMemory 177 = .ok (.iconst 1, 1) := by decide +kernel
theorem dX5_ofMemory_178 : decode cX5_ofMemory 178 = .ok (.goto 4, 3) := by decide +kernel
theorem dX5_ofMemory_181 : decode cX5_ofMemory 181 = .ok (.iconst 0, 1) := by decide +kernel
theorem dX5_ofMemory_182 : decode cX5_ofMemory 182 = .ok (.istore 7, 2) := by decide +kernel
theorem dX5_ofMemory_184 : decode cX5_ofMemory 184 = .ok (.iload 7, 2) := by decide +kernel
theorem dX5_ofMemory_186 : decode cX5_ofMemory 186 = .ok (.ifCond .eq 13, 3) := by decide +kernel
theorem dX5_ofMemory_189 : decode cX5_ofMemory 189 = .ok (.iload 6, 2) := by decide +kernel
theorem dX5_ofMemory_191 : decode cX5_ofMemory 191 = .ok (.iconst 1, 1) := by decide +kernel
theorem dX5_ofMemory_192 : decode cX5_ofMemory 192 = .ok (.isub, 1) := by decide +kernel
theorem dX5_ofMemory_193 : decode cX5_ofMemory 193 = .ok (.ldc 27, 2) := by decide +kernel
theorem dX5_ofMemory_195 : decode cX5_ofMemory 195 = .ok (.iand, 1) := by decide +kernel
theorem dX5_ofMemory_196 : decode cX5_ofMemory 196 = .ok (.goto 5, 3) := by decide +kernel
theorem dX5_ofMemory_199 : decode cX5_ofMemory 199 = .ok (.iload 6, 2) := by decide +kernel
theorem dX5_ofMemory_201 : decode cX5_ofMemory 201 = .ok (.istore 8, 2) := by decide +kernel
theorem dX5_ofMemory_203 : decode cX5_ofMemory 203 = .ok (.iload 8, 2) := by decide +kernel
theorem dX5_ofMemory_205 : decode cX5_ofMemory 205 = .ok (.invokestatic 121, 3) := by decide +kernel
theorem dX5_ofMemory_208 : decode cX5_ofMemory 208 = .ok (.ifCond .eq 5, 3) := by decide +kernel
theorem dX5_ofMemory_211 : decode cX5_ofMemory 211 = .ok (.iconst 3, 1) := by decide +kernel
theorem dX5_ofMemory_212 : decode cX5_ofMemory 212 = .ok (.ireturn, 1) := by decide +kernel
theorem dX5_ofMemory_213 : decode cX5_ofMemory 213 = .ok (.iload 7, 2) := by decide +kernel
theorem dX5_ofMemory_215 : decode cX5_ofMemory 215 = .ok (.ifCond .eq 11, 3) := by decide +kernel
theorem dX5_ofMemory_218 : decode cX5_ofMemory 218 = .ok (.aload_n 0, 1) := by decide +kernel
theorem dX5_ofMemory_219 : decode cX5_ofMemory 219 = .ok (.iload 5, 2) := by decide +kernel
theorem dX5_ofMemory_221 : decode cX5_ofMemory 221 = .ok (.iload 8, 2) := by decide +kernel
theorem dX5_ofMemory_223 : decode cX5_ofMemory 223 = .ok (.invokevirtual 106, 3) := by decide +kernel
theorem dX5_ofMemory_226 : decode cX5_ofMemory 226 = .ok (.aload_n 0, 1) := by decide +kernel
theorem dX5_ofMemory_227 : decode cX5_ofMemory 227 = .ok (.iload 8, 2) := by decide +kernel
theorem dX5_ofMemory_229 : decode cX5_ofMemory 229 = .ok (.iload_n 2, 1) := by decide +kernel
theorem dX5_ofMemory_230 : decode cX5_ofMemory 230 = .ok (.iload 4, 2) := by decide +kernel
theorem dX5_ofMemory_232 : decode cX5_ofMemory 232 = .ok (.invokevirtual 134, 3) := by decide +kernel
theorem dX5_ofMemory_235 : decode cX5_ofMemory 235 = .ok (.istore 9, 2) := by decide +kernel
theorem dX5_ofMemory_237 : decode cX5_ofMemory 237 = .ok (.iload 7, 2) := by decide +kernel
theorem dX5_ofMemory_239 : decode cX5_ofMemory 239 = .ok (.ifCond .ne 16, 3) := by decide +kernel
theorem dX5_ofMemory_242 : decode cX5_ofMemory 242 = .ok (.aload_n 0, 1) := by decide +kernel
theorem dX5_ofMemory_243 : decode cX5_ofMemory 243 = .ok (.iload 5, 2) := by decide +kernel
theorem dX5_ofMemory_245 : decode cX5_ofMemory 245 = .ok (.iload 6, 2) := by decide +kernel
theorem dX5_ofMemory_247 : decode cX5_ofMemory 247 = .ok (.iconst 1, 1) := by decide +kernel
theorem dX5_ofMemory_248 : decode cX5_ofMemory 248 = .ok (.iadd, 1) := by decide +kernel
theorem dX5_ofMemory_249 : decode cX5_ofMemory 249 = .ok (.ldc 27, 2) := by decide +kernel
theorem dX5_ofMemory_251 : decode cX5_ofMemory 251 = .ok (.iand, 1) := by decide +kernel
theorem dX5_ofMemory_252 : decode cX5_ofMemory 252 = .ok (.invokevirtual 106, 3) := by decide +kernel
theorem dX5_ofMemory_255 : decode cX5_ofMemory 255 = .ok (.iload 9, 2) := by decide +kernel
theorem dX5_ofMemory_257 : decode cX5_ofMemory 257 = .ok (.ireturn, 1) := by decide +kernel
set_option maxRecDepth 20000 in
theorem ggX5_ofPlaces_X5_pair : GoodIn wsX5_ofPlaces wsX5_pair := goodIn_r _ [6, 7, 18, 19, 20, 21, 22, 23, 24, 25] (by decide +kernel) (by decide +kernel)
set_option maxRecDepth 20000 in
theorem gX5_ofPlaces_X5_pair : GoodIn wsX5_ofPlaces (wsV RX5 28 RX5 yX5_pair wsX5_pair) := goodIn_app (goodIn_of _ (by decide +kernel)) ggX5_ofPlaces_X5_pair
set_option maxRecDepth 20000 in
theorem ggX5_ofPlaces_X5_dOf : GoodIn wsX5_ofPlaces wsX5_dOf := goodIn_r _ [10] (by decide +kernel) (by decide +kernel)
set_option maxRecDepth 20000 in
theorem gX5_ofPlaces_X5_dOf : GoodIn wsX5_ofPlaces (va_wsS RX5 53 yX5_dOf wsX5_dOf) := goodIn_app (goodIn_of _ (by decide +kernel)) ggX5_ofPlaces_X5_dOf
set_option maxRecDepth 20000 in
theorem ggX5_ofPlaces_X5_moves : GoodIn wsX5_ofPlaces wsX5_moves := goodIn_r _ [14, 7, 15, 16, 5, 17, 18, 19, 20, 21, 22, 23, 24, 25] (by decide +kernel) (by decide +kernel)
set_option maxRecDepth 20000 in
theorem gX5_ofPlaces_X5_moves : GoodIn wsX5_ofPlaces (wsV RX5 134 RX5 yX5_moves wsX5_moves) := goodIn_app (goodIn_of _ (by decide +kernel)) ggX5_ofPlaces_X5_moves
theorem dX5_ofPlaces_0 : decode cX5_ofPlaces 0 = .ok (.iload_n 1, 1) := by decide +kernel
theorem dX5_ofPlaces_1 : decode cX5_ofPlaces 1 = .ok (.bipush 8, 2) := by decide +kernel
theorem dX5_ofPlaces_3 : decode cX5_ofPlaces 3 = .ok (.ishr, 1) := by decide +kernel
theorem dX5_ofPlaces_4 : decode cX5_ofPlaces 4 = .ok (.bipush 32, 2) := by decide +kernel
theorem dX5_ofPlaces_6 : decode cX5_ofPlaces 6 = .ok (.iand, 1) := by decide +kernel
theorem dX5_ofPlaces_7 : decode cX5_ofPlaces 7 = .ok (.iload_n 1, 1) := by decide +kernel
theorem dX5_ofPlaces_8 : decode cX5_ofPlaces 8 = .ok (.bipush 7, 2) := by decide +kernel
theorem dX5_ofPlaces_10 : decode cX5_ofPlaces 10 = .ok (.ishr, 1) := by decide +kernel
theorem dX5_ofPlaces_11 : decode cX5_ofPlaces 11 = .ok (.bipush 24, 2) := by decide +kernel
theorem dX5_ofPlaces_13 : decode cX5_ofPlaces 13 = .ok (.iand, 1) := by decide +kernel
theorem dX5_ofPlaces_14 : decode cX5_ofPlaces 14 = .ok (.ior, 1) := by decide +kernel
theorem dX5_ofPlaces_15 : decode cX5_ofPlaces 15 = .ok (.iload_n 1, 1) := by decide +kernel
theorem dX5_ofPlaces_16 : decode cX5_ofPlaces 16 = .ok (.bipush 7, 2) := by decide +kernel
theorem dX5_ofPlaces_18 : decode cX5_ofPlaces 18 = .ok (.iand, 1) := by decide +kernel
theorem dX5_ofPlaces_19 : decode cX5_ofPlaces 19 = .ok (.ior, 1) := by decide +kernel
theorem dX5_ofPlaces_20 : decode cX5_ofPlaces 20 = .ok (.istore_n 2, 1) := by decide +kernel
theorem dX5_ofPlaces_21 : decode cX5_ofPlaces 21 = .ok (.aload_n 0, 1) := by decide +kernel
theorem dX5_ofPlaces_22 : decode cX5_ofPlaces 22 = .ok (.iload_n 1, 1) := by decide +kernel
theorem dX5_ofPlaces_23 : decode cX5_ofPlaces 23 = .ok (.bipush 8, 2) := by decide +kernel
theorem dX5_ofPlaces_25 : decode cX5_ofPlaces 25 = .ok (.iand, 1) := by decide +kernel
theorem dX5_ofPlaces_26 : decode cX5_ofPlaces 26 = .ok (.ifCond .eq 8, 3) := by decide +kernel
theorem dX5_ofPlaces_29 : decode cX5_ofPlaces 29 = .ok (.bipush 28, 2) := by decide +kernel
theorem dX5_ofPlaces_31 : decode cX5_ofPlaces 31 = .ok (.goto 5, 3) := by decide +kernel
theorem dX5_ofPlaces_34 : decode cX5_ofPlaces 34 = .ok (.bipush 30, 2) := by decide +kernel
theorem dX5_ofPlaces_36 : decode cX5_ofPlaces 36 = .ok (.invokevirtual 28, 3) := by decide +kernel
theorem dX5_ofPlaces_39 : decode cX5_ofPlaces 39 = .ok (.istore_n 3, 1) := by decide +kernel
theorem dX5_ofPlaces_40 : decode cX5_ofPlaces 40 = .ok (.aload_n 0, 1) := by decide +kernel
theorem dX5_ofPlaces_41 : decode cX5_ofPlaces 41 = .ok (.iload_n 3, 1) := by decide +kernel
theorem dX5_ofPlaces_42 : decode cX5_ofPlaces 42 = .ok (.iload_n 2, 1) := by decide +kernel
theorem dX5_ofPlaces_43 : decode cX5_ofPlaces 43 = .ok (.iadd, 1) := by decide +kernel
theorem dX5_ofPlaces_44 : decode cX5_ofPlaces 44 = .ok (.ldc 27, 2) := by decide +kernel
theorem dX5_ofPlaces_46 : decode cX5_ofPlaces 46 = .ok (.iand, 1) := by decide +kernel
theorem dX5_ofPlaces_47 : decode cX5_ofPlaces 47 = .ok (.iload_n 1, 1) := by decide +kernel
theorem dX5_ofPlaces_48 : decode cX5_ofPlaces 48 = .ok (.invokestatic 53, 3) := by decide +kernel
theorem dX5_ofPlaces_51 : decode cX5_ofPlaces 51 = .ok (.iload_n 1, 1) := by decide +kernel
theorem dX5_ofPlaces_52 : decode cX5_ofPlaces 52 = .ok (.sipush 512, 3) := by decide +kernel
theorem dX5_ofPlaces_55 : decode cX5_ofPlaces 55 = .ok (.iand, 1) := by decide +kernel
theorem dX5_ofPlaces_56 : decode cX5_ofPlaces 56 = .ok (.ifCond .eq 7, 3) := by decide +kernel
theorem dX5_ofPlaces_59 : decode cX5_ofPlaces 59 = .ok (.iconst 1, 1) := by decide +kernel
theorem dX5_ofPlaces_60 : decode cX5_ofPlaces 60 = .ok (.goto 4, 3) := by decide +kernel
theorem dX5_ofPlaces_63 : decode cX5_ofPlaces 63 = .ok (.iconst 0, 1) := by decide +kernel
theorem dX5_ofPlaces_64 : decode cX5_ofPlaces 64 = .ok (.invokevirtual 134, 3) := by decide +kernel
theorem dX5_ofPlaces_67 : decode cX5_ofPlaces 67 = .ok (.ireturn, 1) := by decide +kernel
set_option maxRecDepth 20000 in
theorem ggX5_ofPort_X5_dOf : GoodIn wsX5_ofPort wsX5_dOf := goodIn_r _ [5] (by decide +kernel) (by decide +kernel)
set_option maxRecDepth 20000 in
theorem gX5_ofPort_X5_dOf : GoodIn wsX5_ofPort (va_wsS RX5 53 yX5_dOf wsX5_dOf) := goodIn_app (goodIn_of _ (by decide +kernel)) ggX5_ofPort_X5_dOf
theorem dX5_ofPort_0 : decode cX5_ofPort 0 = .ok (.iload_n 1, 1) := by decide +kernel
theorem dX5_ofPort_1 : decode cX5_ofPort 1 = .ok (.iconst 5, 1) := by decide +kernel
theorem dX5_ofPort_2 : decode cX5_ofPort 2 = .ok (.ishr, 1) := by decide +kernel
theorem dX5_ofPort_3 : decode cX5_ofPort 3 = .ok (.bipush 48, 2) := by decide +kernel
theorem dX5_ofPort_5 : decode cX5_ofPort 5 = .ok (.iand, 1) := by decide +kernel
theorem dX5_ofPort_6 : decode cX5_ofPort 6 = .ok (.iload_n 1, 1) := by decide +kernel
theorem dX5_ofPort_7 : decode cX5_ofPort 7 = .ok (.bipush 15, 2) := by decide +kernel
theorem dX5_ofPort_9 : decode cX5_ofPort 9 = .ok (.iand, 1) := by decide +kernel
theorem dX5_ofPort_10 : decode cX5_ofPort 10 = .ok (.ior, 1) := by decide +kernel
theorem dX5_ofPort_11 : decode cX5_ofPort 11 = .ok (.istore_n 2, 1) := by decide +kernel
theorem dX5_ofPort_12 : decode cX5_ofPort 12 = .ok (.iload_n 1, 1) := by decide +kernel
theorem dX5_ofPort_13 : decode cX5_ofPort 13 = .ok (.sipush 2048, 3) := by decide +kernel
theorem dX5_ofPort_16 : decode cX5_ofPort 16 = .ok (.iand, 1) := by decide +kernel
theorem dX5_ofPort_17 : decode cX5_ofPort 17 = .ok (.ifCond .ne 24, 3) := by decide +kernel
theorem dX5_ofPort_20 : decode cX5_ofPort 20 = .ok (.aload_n 0, 1) := by decide +kernel
theorem dX5_ofPort_21 : decode cX5_ofPort 21 = .ok (.getfield 13, 3) := by decide +kernel
theorem dX5_ofPort_24 : decode cX5_ofPort 24 = .ok (.iload_n 1, 1) := by decide +kernel
theorem dX5_ofPort_25 : decode cX5_ofPort 25 = .ok (.invokestatic 53, 3) := by decide +kernel
theorem dX5_ofPort_28 : decode cX5_ofPort 28 = .ok (.aload_n 0, 1) := by decide +kernel
theorem dX5_ofPort_29 : decode cX5_ofPort 29 = .ok (.getfield 13, 3) := by decide +kernel
theorem dX5_ofPort_32 : decode cX5_ofPort 32 = .ok (.bipush 32, 2) := by decide +kernel
theorem dX5_ofPort_34 : decode cX5_ofPort 34 = .ok (.iload_n 2, 1) := by decide +kernel
theorem dX5_ofPort_35 : decode cX5_ofPort 35 = .ok (.iadd, 1) := by decide +kernel
theorem dX5_ofPort_36 : decode cX5_ofPort 36 = .ok (.iaload, 1) := by decide +kernel
theorem dX5_ofPort_37 : decode cX5_ofPort 37 = .ok (.iastore, 1) := by decide +kernel
theorem dX5_ofPort_38 : decode cX5_ofPort 38 = .ok (.goto 21, 3) := by decide +kernel
theorem dX5_ofPort_41 : decode cX5_ofPort 41 = .ok (.aload_n 0, 1) := by decide +kernel
theorem dX5_ofPort_42 : decode cX5_ofPort 42 = .ok (.getfield 13, 3) := by decide +kernel
theorem dX5_ofPort_45 : decode cX5_ofPort 45 = .ok (.bipush 32, 2) := by decide +kernel
theorem dX5_ofPort_47 : decode cX5_ofPort 47 = .ok (.iload_n 2, 1) := by decide +kernel
theorem dX5_ofPort_48 : decode cX5_ofPort 48 = .ok (.iadd, 1) := by decide +kernel
theorem dX5_ofPort_49 : decode cX5_ofPort 49 = .ok (.aload_n 0, 1) := by decide +kernel
theorem dX5_ofPort_50 : decode cX5_ofPort 50 = .ok (.getfield 13, 3) := by decide +kernel
theorem dX5_ofPort_53 : decode cX5_ofPort 53 = .ok (.iload_n 1, 1) := by decide +kernel
theorem dX5_ofPort_54 : decode cX5_ofPort 54 = .ok (.invokestatic 53, 3) := by decide +kernel
theorem dX5_ofPort_57 : decode cX5_ofPort 57 = .ok (.iaload, 1) := by decide +kernel
theorem dX5_ofPort_58 : decode cX5_ofPort 58 = .ok (.iastore, 1) := by decide +kernel
theorem dX5_ofPort_59 : decode cX5_ofPort 59 = .ok (.return_, 1) := by decide +kernel
set_option maxRecDepth 20000 in
theorem ggX5_ofPortBit_X5_skips : GoodIn wsX5_ofPortBit wsX5_skips := goodIn_r _ [6, 7, 8, 9, 10, 11, 5, 12, 13, 14, 15, 16, 17, 18, 19, 20, 21, 22, 23, 24, 25, 26, 27, 28, 29, 30] (by decide +kernel) (by decide +kernel)
set_option maxRecDepth 20000 in
theorem gX5_ofPortBit_X5_skips : GoodIn wsX5_ofPortBit (wsV RX5 99 RX5 yX5_skips wsX5_skips) := goodIn_app (goodIn_of _ (by decide +kernel)) ggX5_ofPortBit_X5_skips
theorem dX5_ofPortBit_0 : decode cX5_ofPortBit 0 = .ok (.bipush 32, 2) := by decide +kernel
theorem dX5_ofPortBit_2 : decode cX5_ofPortBit 2 = .ok (.iload_n 1, 1) := by decide +kernel
theorem dX5_ofPortBit_3 : decode cX5_ofPortBit 3 = .ok (.iconst 3, 1) := by decide +kernel
theorem dX5_ofPortBit_4 : decode cX5_ofPortBit 4 = .ok (.ishr, 1) := by decide +kernel
theorem dX5_ofPortBit_5 : decode cX5_ofPortBit 5 = .ok (.bipush 31, 2) := by decide +kernel
theorem dX5_ofPortBit_7 : decode cX5_ofPortBit 7 = .ok (.iand, 1) := by decide +kernel
theorem dX5_ofPortBit_8 : decode cX5_ofPortBit 8 = .ok (.iadd, 1) := by decide +kernel
theorem dX5_ofPortBit_9 : decode cX5_ofPortBit 9 = .ok (.istore_n 2, 1) := by decide +kernel
theorem dX5_ofPortBit_10 : decode cX5_ofPortBit 10 = .ok (.iconst 1, 1) := by decide +kernel
theorem dX5_ofPortBit_11 : decode cX5_ofPortBit 11 = .ok (.iload_n 1, 1) := by decide +kernel
theorem dX5_ofPortBit_12 : decode cX5_ofPortBit 12 = .ok (.bipush 7, 2) := by decide +kernel
theorem dX5_ofPortBit_14 : decode cX5_ofPortBit 14 = .ok (.iand, 1) := by decide +kernel
theorem dX5_ofPortBit_15 : decode cX5_ofPortBit 15 = .ok (.ishl, 1) := by decide +kernel
theorem dX5_ofPortBit_16 : decode cX5_ofPortBit 16 = .ok (.istore_n 3, 1) := by decide +kernel
theorem dX5_ofPortBit_17 : decode cX5_ofPortBit 17 = .ok (.aload_n 0, 1) := by decide +kernel
theorem dX5_ofPortBit_18 : decode cX5_ofPortBit 18 = .ok (.getfield 13, 3) := by decide +kernel
theorem dX5_ofPortBit_21 : decode cX5_ofPortBit 21 = .ok (.iload_n 2, 1) := by decide +kernel
theorem dX5_ofPortBit_22 : decode cX5_ofPortBit 22 = .ok (.iaload, 1) := by decide +kernel
theorem dX5_ofPortBit_23 : decode cX5_ofPortBit 23 = .ok (.iload_n 3, 1) := by decide +kernel
theorem dX5_ofPortBit_24 : decode cX5_ofPortBit 24 = .ok (.iand, 1) := by decide +kernel
theorem dX5_ofPortBit_25 : decode cX5_ofPortBit 25 = .ok (.ifCond .eq 7, 3) := by decide +kernel
theorem dX5_ofPortBit_28 : decode cX5_ofPortBit 28 = .ok (.iconst 1, 1) := by decide +kernel
theorem dX5_ofPortBit_29 : decode cX5_ofPortBit 29 = .ok (.goto 4, 3) := by decide +kernel
theorem dX5_ofPortBit_32 : decode cX5_ofPortBit 32 = .ok (.iconst 0, 1) := by decide +kernel
theorem dX5_ofPortBit_33 : decode cX5_ofPortBit 33 = .ok (.istore 4, 2) := by decide +kernel
theorem dX5_ofPortBit_35 : decode cX5_ofPortBit 35 = .ok (.iload_n 1, 1) := by decide +kernel
theorem dX5_ofPortBit_36 : decode cX5_ofPortBit 36 = .ok (.bipush 8, 2) := by decide +kernel
theorem dX5_ofPortBit_38 : decode cX5_ofPortBit 38 = .ok (.ishr, 1) := by decide +kernel
theorem dX5_ofPortBit_39 : decode cX5_ofPortBit 39 = .ok (.iconst 3, 1) := by decide +kernel
theorem dX5_ofPortBit_40 : decode cX5_ofPortBit 40 = .ok (.iand, 1) := by decide +kernel
theorem dX5_ofPortBit_41 : decode cX5_ofPortBit 41 = .ok (.tableswitch 72 0 2 #[27, 42, 59], 27) := by decide +kernel
theorem dX5_ofPortBit_68 : decode cX5_ofPortBit 68 = .ok (.aload_n 0, 1) := by decide +kernel
theorem dX5_ofPortBit_69 : decode cX5_ofPortBit 69 = .ok (.getfield 13, 3) := by decide +kernel
theorem dX5_ofPortBit_72 : decode cX5_ofPortBit 72 = .ok (.iload_n 2, 1) := by decide +kernel
theorem dX5_ofPortBit_73 : decode cX5_ofPortBit 73 = .ok (.dup2, 1) := by decide +kernel
theorem dX5_ofPortBit_74 : decode cX5_ofPortBit 74 = .ok (.iaload, 1) := by decide +kernel
theorem dX5_ofPortBit_75 : decode cX5_ofPortBit 75 = .ok (.iload_n 3, 1) := by decide +kernel
theorem dX5_ofPortBit_76 : decode cX5_ofPortBit 76 = .ok (.iconst (-1), 1) := by decide +kernel
theorem dX5_ofPortBit_77 : decode cX5_ofPortBit 77 = .ok (.ixor, 1) := by decide +kernel
theorem dX5_ofPortBit_78 : decode cX5_ofPortBit 78 = .ok (.iand, 1) := by decide +kernel
theorem dX5_ofPortBit_79 : decode cX5_ofPortBit 79 = .ok (.iastore, 1) := by decide +kernel
theorem dX5_ofPortBit_80 : decode cX5_ofPortBit 80 = .ok (.goto 39, 3) := by decide +kernel
theorem dX5_ofPortBit_83 : decode cX5_ofPortBit 83 = .ok (.aload_n 0, 1) := by decide +kernel
theorem dX5_ofPortBit_84 : decode cX5_ofPortBit 84 = .ok (.iload 4, 2) := by decide +kernel
theorem dX5_ofPortBit_86 : decode cX5_ofPortBit 86 = .ok (.ifCond .ne 7, 3) := by decide +kernel
theorem dX5_ofPortBit_89 : decode cX5_ofPortBit 89 = .ok (.iconst 1, 1) := by decide +kernel
theorem dX5_ofPortBit_90 : decode cX5_ofPortBit 90 = .ok (.goto 4, 3) := by decide +kernel
theorem dX5_ofPortBit_93 : decode cX5_ofPortBit 93 = .ok (.iconst 0, 1) := by decide +kernel
theorem dX5_ofPortBit_94 : decode cX5_ofPortBit 94 = .ok (.invokevirtual 99, 3) := by decide +kernel
theorem dX5_ofPortBit_97 : decode cX5_ofPortBit 97 = .ok (.goto 22, 3) := by decide +kernel
theorem dX5_ofPortBit_100 : decode cX5_ofPortBit 100 = .ok (.aload_n 0, 1) := by decide +kernel
theorem dX5_ofPortBit_101 : decode cX5_ofPortBit 101 = .ok (.getfield 13, 3) := by decide +kernel
theorem dX5_ofPortBit_104 : decode cX5_ofPortBit 104 = .ok (.iload_n 2, 1) := by decide +kernel
