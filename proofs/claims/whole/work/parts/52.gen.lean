def fX4_perform (a1 : Int32) (u : ST) : ST × Int32 :=
  if (fX3_groupOf a1) = (1 : Int32) then
    (fX4_onward (1 : Int32) u)
  else
    if (fX3_groupOf a1) = (2 : Int32) then
      (fX4_movePair a1 u)
    else
      if (fX3_groupOf a1) = (3 : Int32) then
        (fX4_multiply a1 u)
      else
        if (fX3_groupOf a1) = (4 : Int32) then
          (fX4_combine a1 u)
        else
          if (fX3_groupOf a1) = (5 : Int32) then
            (fX4_combineWithNumber a1 u)
          else
            if (fX3_groupOf a1) = (6 : Int32) then
              (fX4_change a1 u)
            else
              if (fX3_groupOf a1) = (7 : Int32) then
                (fX4_setFlag a1 u)
              else
                if (fX3_groupOf a1) = (8 : Int32) then
                  (fX4_changePair a1 u)
                else
                  if (fX3_groupOf a1) = (9 : Int32) then
                    (fX4_moveAtNext a1 u)
                  else
                    if (fX3_groupOf a1) = (10 : Int32) then
                      (fX4_movePointed a1 u)
                    else
                      if (fX3_groupOf a1) = (11 : Int32) then
                        (fX4_moveStacked a1 u)
                      else
                        if (fX3_groupOf a1) = (12 : Int32) then
                          (fX4_moveBeside a1 u)
                        else
                          if (fX3_groupOf a1) = (13 : Int32) then
                            (fX4_moveFromCode a1 u)
                          else
                            if (fX3_groupOf a1) = (14 : Int32) then
                              (fX4_movePort a1 u)
                            else
                              if (fX3_groupOf a1) = (15 : Int32) then
                                (fX4_setPortBit a1 u)
                              else
                                if (fX3_groupOf a1) = (16 : Int32) then
                                  (fX4_skipByPort a1 u)
                                else
                                  if (fX3_groupOf a1) = (17 : Int32) then
                                    (fX4_skipByBit a1 u)
                                  else
                                    if (fX3_groupOf a1) = (18 : Int32) then
                                      (fX4_moveBit a1 u)
                                    else
                                      if (fX3_groupOf a1) = (19 : Int32) then
                                        (fX4_jumpNear a1 u)
                                      else
                                        if (fX3_groupOf a1) = (20 : Int32) then
                                          (fX4_branch a1 u)
                                        else
                                          if (fX3_groupOf a1) = (21 : Int32) then
                                            (fX4_jumpFar a1 u)
                                          else
                                            if (fX3_groupOf a1) = (22 : Int32) then
                                              (fX4_jumpToZ a1 u)
                                            else
                                              if (fX3_groupOf a1) = (23 : Int32) then
                                                (fX4_comeBack a1 u)
                                              else
                                                (u, (2 : Int32))
abbrev rmX4_perform : Room := { frames := 5, cells := 0, slots := 0, locals := 109 }
set_option maxRecDepth 20000 in
theorem cX4_perform_ (h : HX) (hE : okE (EX h)) (a1 : Int32) (u : ST) : MX (EX h) yX4_perform wsX4_perform rmX4_perform [.ref (xO h), .int a1] u (tW (fX4_perform a1 u)) := by
  refine MX.of (cc := cX4_perform) (maxL := 2) (ret := (some .int)) (lv := [(0, .ref (xO h)), (1, .int a1)]) hE (by decide) rfl (fun _ => rfl) (Nat.le_of_ble_eq_true rfl) rfl (fun K hC => ?_)
  unfold fX4_perform
  refine g_iload_n 0 hC dX4_perform_0 1 rfl ?_
  refine kX3_groupOf 1 hC gX4_perform_X3_groupOf ⟨Nat.le_of_ble_eq_true rfl, Nat.le_of_ble_eq_true rfl⟩ dX4_perform_1 (Nat.le_of_ble_eq_true rfl) ?_
  refine g_byT (tW) (fun h1 => ?_) (fun h1 => ?_)
  · refine g_tsIn 4 hC (1 : Int32) (108) 112 h1 dX4_perform_4 (by decide) (by decide) (by decide) (by decide) ?_
    refine g_aload_n 112 hC dX4_perform_112 0 rfl ?_
    refine g_iconst 113 hC (1 : Int32) dX4_perform_113 (by decide) ?_
    refine kX4_onward 114 hC gX4_perform_X4_onward ⟨Nat.le_of_ble_eq_true rfl, Nat.le_of_ble_eq_true rfl⟩ dX4_perform_114 (Nat.le_of_ble_eq_true rfl) ?_
    exact g_iret 117 hC dX4_perform_117
  · skip
    refine g_byT (tW) (fun h2 => ?_) (fun h2 => ?_)
    · refine g_tsIn 4 hC (2 : Int32) (114) 118 h2 dX4_perform_4 (by decide) (by decide) (by decide) (by decide) ?_
      refine g_aload_n 118 hC dX4_perform_118 0 rfl ?_
      refine g_iload_n 119 hC dX4_perform_119 1 rfl ?_
      refine kX4_movePair 120 hC gX4_perform_X4_movePair ⟨Nat.le_of_ble_eq_true rfl, Nat.le_of_ble_eq_true rfl⟩ dX4_perform_120 (Nat.le_of_ble_eq_true rfl) ?_
      exact g_iret 123 hC dX4_perform_123
    · skip
      refine g_byT (tW) (fun h3 => ?_) (fun h3 => ?_)
      · refine g_tsIn 4 hC (3 : Int32) (120) 124 h3 dX4_perform_4 (by decide) (by decide) (by decide) (by decide) ?_
        refine g_aload_n 124 hC dX4_perform_124 0 rfl ?_
        refine g_iload_n 125 hC dX4_perform_125 1 rfl ?_
        refine kX4_multiply 126 hC gX4_perform_X4_multiply ⟨Nat.le_of_ble_eq_true rfl, Nat.le_of_ble_eq_true rfl⟩ dX4_perform_126 (Nat.le_of_ble_eq_true rfl) ?_
        exact g_iret 129 hC dX4_perform_129
      · skip
        refine g_byT (tW) (fun h4 => ?_) (fun h4 => ?_)
        · refine g_tsIn 4 hC (4 : Int32) (126) 130 h4 dX4_perform_4 (by decide) (by decide) (by decide) (by decide) ?_
          refine g_aload_n 130 hC dX4_perform_130 0 rfl ?_
          refine g_iload_n 131 hC dX4_perform_131 1 rfl ?_
          refine kX4_combine 132 hC gX4_perform_X4_combine ⟨Nat.le_of_ble_eq_true rfl, Nat.le_of_ble_eq_true rfl⟩ dX4_perform_132 (Nat.le_of_ble_eq_true rfl) ?_
          exact g_iret 135 hC dX4_perform_135
        · skip
          refine g_byT (tW) (fun h5 => ?_) (fun h5 => ?_)
          · refine g_tsIn 4 hC (5 : Int32) (132) 136 h5 dX4_perform_4 (by decide) (by decide) (by decide) (by decide) ?_
            refine g_aload_n 136 hC dX4_perform_136 0 rfl ?_
            refine g_iload_n 137 hC dX4_perform_137 1 rfl ?_
            refine kX4_combineWithNumber 138 hC gX4_perform_X4_combineWithNumber ⟨Nat.le_of_ble_eq_true rfl, Nat.le_of_ble_eq_true rfl⟩ dX4_perform_138 (Nat.le_of_ble_eq_true rfl) ?_
            exact g_iret 141 hC dX4_perform_141
          · skip
            refine g_byT (tW) (fun h6 => ?_) (fun h6 => ?_)
            · refine g_tsIn 4 hC (6 : Int32) (138) 142 h6 dX4_perform_4 (by decide) (by decide) (by decide) (by decide) ?_
              refine g_aload_n 142 hC dX4_perform_142 0 rfl ?_
              refine g_iload_n 143 hC dX4_perform_143 1 rfl ?_
              refine kX4_change 144 hC gX4_perform_X4_change ⟨Nat.le_of_ble_eq_true rfl, Nat.le_of_ble_eq_true rfl⟩ dX4_perform_144 (Nat.le_of_ble_eq_true rfl) ?_
              exact g_iret 147 hC dX4_perform_147
            · skip
              refine g_byT (tW) (fun h7 => ?_) (fun h7 => ?_)
              · refine g_tsIn 4 hC (7 : Int32) (144) 148 h7 dX4_perform_4 (by decide) (by decide) (by decide) (by decide) ?_
                refine g_aload_n 148 hC dX4_perform_148 0 rfl ?_
                refine g_iload_n 149 hC dX4_perform_149 1 rfl ?_
                refine kX4_setFlag 150 hC gX4_perform_X4_setFlag ⟨Nat.le_of_ble_eq_true rfl, Nat.le_of_ble_eq_true rfl⟩ dX4_perform_150 (Nat.le_of_ble_eq_true rfl) ?_
                exact g_iret 153 hC dX4_perform_153
              · skip
                refine g_byT (tW) (fun h8 => ?_) (fun h8 => ?_)
                · refine g_tsIn 4 hC (8 : Int32) (150) 154 h8 dX4_perform_4 (by decide) (by decide) (by decide) (by decide) ?_
                  refine g_aload_n 154 hC dX4_perform_154 0 rfl ?_
                  refine g_iload_n 155 hC dX4_perform_155 1 rfl ?_
                  refine kX4_changePair 156 hC gX4_perform_X4_changePair ⟨Nat.le_of_ble_eq_true rfl, Nat.le_of_ble_eq_true rfl⟩ dX4_perform_156 (Nat.le_of_ble_eq_true rfl) ?_
                  exact g_iret 159 hC dX4_perform_159
                · skip
                  refine g_byT (tW) (fun h9 => ?_) (fun h9 => ?_)
                  · refine g_tsIn 4 hC (9 : Int32) (156) 160 h9 dX4_perform_4 (by decide) (by decide) (by decide) (by decide) ?_
                    refine g_aload_n 160 hC dX4_perform_160 0 rfl ?_
                    refine g_iload_n 161 hC dX4_perform_161 1 rfl ?_
                    refine kX4_moveAtNext 162 hC gX4_perform_X4_moveAtNext ⟨Nat.le_of_ble_eq_true rfl, Nat.le_of_ble_eq_true rfl⟩ dX4_perform_162 (Nat.le_of_ble_eq_true rfl) ?_
                    exact g_iret 165 hC dX4_perform_165
                  · skip
                    refine g_byT (tW) (fun h10 => ?_) (fun h10 => ?_)
                    · refine g_tsIn 4 hC (10 : Int32) (162) 166 h10 dX4_perform_4 (by decide) (by decide) (by decide) (by decide) ?_
                      refine g_aload_n 166 hC dX4_perform_166 0 rfl ?_
                      refine g_iload_n 167 hC dX4_perform_167 1 rfl ?_
                      refine kX4_movePointed 168 hC gX4_perform_X4_movePointed ⟨Nat.le_of_ble_eq_true rfl, Nat.le_of_ble_eq_true rfl⟩ dX4_perform_168 (Nat.le_of_ble_eq_true rfl) ?_
                      exact g_iret 171 hC dX4_perform_171
                    · skip
                      refine g_byT (tW) (fun h11 => ?_) (fun h11 => ?_)
                      · refine g_tsIn 4 hC (11 : Int32) (168) 172 h11 dX4_perform_4 (by decide) (by decide) (by decide) (by decide) ?_
                        refine g_aload_n 172 hC dX4_perform_172 0 rfl ?_
                        refine g_iload_n 173 hC dX4_perform_173 1 rfl ?_
                        refine kX4_moveStacked 174 hC gX4_perform_X4_moveStacked ⟨Nat.le_of_ble_eq_true rfl, Nat.le_of_ble_eq_true rfl⟩ dX4_perform_174 (Nat.le_of_ble_eq_true rfl) ?_
                        exact g_iret 177 hC dX4_perform_177
                      · skip
                        refine g_byT (tW) (fun h12 => ?_) (fun h12 => ?_)
                        · refine g_tsIn 4 hC (12 : Int32) (174) 178 h12 dX4_perform_4 (by decide) (by decide) (by decide) (by decide) ?_
                          refine g_aload_n 178 hC dX4_perform_178 0 rfl ?_
                          refine g_iload_n 179 hC dX4_perform_179 1 rfl ?_
                          refine kX4_moveBeside 180 hC gX4_perform_X4_moveBeside ⟨Nat.le_of_ble_eq_true rfl, Nat.le_of_ble_eq_true rfl⟩ dX4_perform_180 (Nat.le_of_ble_eq_true rfl) ?_
                          exact g_iret 183 hC dX4_perform_183
                        · skip
                          refine g_byT (tW) (fun h13 => ?_) (fun h13 => ?_)
                          · refine g_tsIn 4 hC (13 : Int32) (180) 184 h13 dX4_perform_4 (by decide) (by decide) (by decide) (by decide) ?_
                            refine g_aload_n 184 hC dX4_perform_184 0 rfl ?_
                            refine g_iload_n 185 hC dX4_perform_185 1 rfl ?_
                            refine kX4_moveFromCode 186 hC gX4_perform_X4_moveFromCode ⟨Nat.le_of_ble_eq_true rfl, Nat.le_of_ble_eq_true rfl⟩ dX4_perform_186 (Nat.le_of_ble_eq_true rfl) ?_
                            exact g_iret 189 hC dX4_perform_189
                          · skip
                            refine g_byT (tW) (fun h14 => ?_) (fun h14 => ?_)
                            · refine g_tsIn 4 hC (14 : Int32) (186) 190 h14 dX4_perform_4 (by decide) (by decide) (by decide) (by decide) ?_
                              refine g_aload_n 190 hC dX4_perform_190 0 rfl ?_
                              refine g_iload_n 191 hC dX4_perform_191 1 rfl ?_
                              refine kX4_movePort 192 hC gX4_perform_X4_movePort ⟨Nat.le_of_ble_eq_true rfl, Nat.le_of_ble_eq_true rfl⟩ dX4_perform_192 (Nat.le_of_ble_eq_true rfl) ?_
                              exact g_iret 195 hC dX4_perform_195
                            · skip
                              refine g_byT (tW) (fun h15 => ?_) (fun h15 => ?_)
                              · refine g_tsIn 4 hC (15 : Int32) (192) 196 h15 dX4_perform_4 (by decide) (by decide) (by decide) (by decide) ?_
                                refine g_aload_n 196 hC dX4_perform_196 0 rfl ?_
                                refine g_iload_n 197 hC dX4_perform_197 1 rfl ?_
                                refine kX4_setPortBit 198 hC gX4_perform_X4_setPortBit ⟨Nat.le_of_ble_eq_true rfl, Nat.le_of_ble_eq_true rfl⟩ dX4_perform_198 (Nat.le_of_ble_eq_true rfl) ?_
                                exact g_iret 201 hC dX4_perform_201
                              · skip
                                refine g_byT (tW) (fun h16 => ?_) (fun h16 => ?_)
                                · refine g_tsIn 4 hC (16 : Int32) (198) 202 h16 dX4_perform_4 (by decide) (by decide) (by decide) (by decide) ?_
                                  refine g_aload_n 202 hC dX4_perform_202 0 rfl ?_
                                  refine g_iload_n 203 hC dX4_perform_203 1 rfl ?_
                                  refine kX4_skipByPort 204 hC gX4_perform_X4_skipByPort ⟨Nat.le_of_ble_eq_true rfl, Nat.le_of_ble_eq_true rfl⟩ dX4_perform_204 (Nat.le_of_ble_eq_true rfl) ?_
                                  exact g_iret 207 hC dX4_perform_207
                                · skip
                                  refine g_byT (tW) (fun h17 => ?_) (fun h17 => ?_)
                                  · refine g_tsIn 4 hC (17 : Int32) (204) 208 h17 dX4_perform_4 (by decide) (by decide) (by decide) (by decide) ?_
                                    refine g_aload_n 208 hC dX4_perform_208 0 rfl ?_
                                    refine g_iload_n 209 hC dX4_perform_209 1 rfl ?_
                                    refine kX4_skipByBit 210 hC gX4_perform_X4_skipByBit ⟨Nat.le_of_ble_eq_true rfl, Nat.le_of_ble_eq_true rfl⟩ dX4_perform_210 (Nat.le_of_ble_eq_true rfl) ?_
                                    exact g_iret 213 hC dX4_perform_213
                                  · skip
                                    refine g_byT (tW) (fun h18 => ?_) (fun h18 => ?_)
                                    · refine g_tsIn 4 hC (18 : Int32) (210) 214 h18 dX4_perform_4 (by decide) (by decide) (by decide) (by decide) ?_
                                      refine g_aload_n 214 hC dX4_perform_214 0 rfl ?_
                                      refine g_iload_n 215 hC dX4_perform_215 1 rfl ?_
                                      refine kX4_moveBit 216 hC gX4_perform_X4_moveBit ⟨Nat.le_of_ble_eq_true rfl, Nat.le_of_ble_eq_true rfl⟩ dX4_perform_216 (Nat.le_of_ble_eq_true rfl) ?_
                                      exact g_iret 219 hC dX4_perform_219
                                    · skip
                                      refine g_byT (tW) (fun h19 => ?_) (fun h19 => ?_)
                                      · refine g_tsIn 4 hC (19 : Int32) (216) 220 h19 dX4_perform_4 (by decide) (by decide) (by decide) (by decide) ?_
                                        refine g_aload_n 220 hC dX4_perform_220 0 rfl ?_
                                        refine g_iload_n 221 hC dX4_perform_221 1 rfl ?_
                                        refine kX4_jumpNear 222 hC gX4_perform_X4_jumpNear ⟨Nat.le_of_ble_eq_true rfl, Nat.le_of_ble_eq_true rfl⟩ dX4_perform_222 (Nat.le_of_ble_eq_true rfl) ?_
                                        exact g_iret 225 hC dX4_perform_225
                                      · skip
                                        refine g_byT (tW) (fun h20 => ?_) (fun h20 => ?_)
                                        · refine g_tsIn 4 hC (20 : Int32) (222) 226 h20 dX4_perform_4 (by decide) (by decide) (by decide) (by decide) ?_
                                          refine g_aload_n 226 hC dX4_perform_226 0 rfl ?_
                                          refine g_iload_n 227 hC dX4_perform_227 1 rfl ?_
                                          refine kX4_branch 228 hC gX4_perform_X4_branch ⟨Nat.le_of_ble_eq_true rfl, Nat.le_of_ble_eq_true rfl⟩ dX4_perform_228 (Nat.le_of_ble_eq_true rfl) ?_
                                          exact g_iret 231 hC dX4_perform_231
                                        · skip
                                          refine g_byT (tW) (fun h21 => ?_) (fun h21 => ?_)
                                          · refine g_tsIn 4 hC (21 : Int32) (228) 232 h21 dX4_perform_4 (by decide) (by decide) (by decide) (by decide) ?_
                                            refine g_aload_n 232 hC dX4_perform_232 0 rfl ?_
                                            refine g_iload_n 233 hC dX4_perform_233 1 rfl ?_
                                            refine kX4_jumpFar 234 hC gX4_perform_X4_jumpFar ⟨Nat.le_of_ble_eq_true rfl, Nat.le_of_ble_eq_true rfl⟩ dX4_perform_234 (Nat.le_of_ble_eq_true rfl) ?_
                                            exact g_iret 237 hC dX4_perform_237
                                          · skip
                                            refine g_byT (tW) (fun h22 => ?_) (fun h22 => ?_)
                                            · refine g_tsIn 4 hC (22 : Int32) (234) 238 h22 dX4_perform_4 (by decide) (by decide) (by decide) (by decide) ?_
                                              refine g_aload_n 238 hC dX4_perform_238 0 rfl ?_
                                              refine g_iload_n 239 hC dX4_perform_239 1 rfl ?_
                                              refine kX4_jumpToZ 240 hC gX4_perform_X4_jumpToZ ⟨Nat.le_of_ble_eq_true rfl, Nat.le_of_ble_eq_true rfl⟩ dX4_perform_240 (Nat.le_of_ble_eq_true rfl) ?_
                                              exact g_iret 243 hC dX4_perform_243
                                            · skip
                                              refine g_byT (tW) (fun h23 => ?_) (fun h23 => ?_)
                                              · refine g_tsIn 4 hC (23 : Int32) (240) 244 h23 dX4_perform_4 (by decide) (by decide) (by decide) (by decide) ?_
                                                refine g_aload_n 244 hC dX4_perform_244 0 rfl ?_
                                                refine g_iload_n 245 hC dX4_perform_245 1 rfl ?_
                                                refine kX4_comeBack 246 hC gX4_perform_X4_comeBack ⟨Nat.le_of_ble_eq_true rfl, Nat.le_of_ble_eq_true rfl⟩ dX4_perform_246 (Nat.le_of_ble_eq_true rfl) ?_
                                                exact g_iret 249 hC dX4_perform_249
                                              · skip
                                                refine g_tsOut 4 hC 250 dX4_perform_4 (by have n0 := lv_neT h1 (a := 1) (by decide); have n1 := lv_neT h2 (a := 2) (by decide); have n2 := lv_neT h3 (a := 3) (by decide); have n3 := lv_neT h4 (a := 4) (by decide); have n4 := lv_neT h5 (a := 5) (by decide); have n5 := lv_neT h6 (a := 6) (by decide); have n6 := lv_neT h7 (a := 7) (by decide); have n7 := lv_neT h8 (a := 8) (by decide); have n8 := lv_neT h9 (a := 9) (by decide); have n9 := lv_neT h10 (a := 10) (by decide); have n10 := lv_neT h11 (a := 11) (by decide); have n11 := lv_neT h12 (a := 12) (by decide); have n12 := lv_neT h13 (a := 13) (by decide); have n13 := lv_neT h14 (a := 14) (by decide); have n14 := lv_neT h15 (a := 15) (by decide); have n15 := lv_neT h16 (a := 16) (by decide); have n16 := lv_neT h17 (a := 17) (by decide); have n17 := lv_neT h18 (a := 18) (by decide); have n18 := lv_neT h19 (a := 19) (by decide); have n19 := lv_neT h20 (a := 20) (by decide); have n20 := lv_neT h21 (a := 21) (by decide); have n21 := lv_neT h22 (a := 22) (by decide); have n22 := lv_neT h23 (a := 23) (by decide); omega) (by decide) ?_
                                                refine g_iconst 250 hC (2 : Int32) dX4_perform_250 (by decide) ?_
                                                exact g_iretW 251 hC dX4_perform_251
theorem kX4_perform {K : KT} {h : HX} {cc : ByteArray} {nL : Nat} {own : String} {Ts : List Cond} {rm : Room} {ret : Option FieldType} {T : ST × Option Value} {u : ST} {lv : List (Nat × Value)} {rest : List Value} {idx : Nat} {a1 : Int32} (pc : Nat) (hC : Cx K (EX h) cc nL own Ts rm ret) (hT : GoodIn Ts (wsV own idx RX4 yX4_perform wsX4_perform)) (hR : rmX4_perform.frames + 1 ≤ rm.frames ∧ 8 + (2 + 11) + rmX4_perform.locals ≤ rm.locals) (hdg : decode cc pc = .ok (.invokevirtual idx, 3)) (hcat : (rest.map fun v => v.category).sum ≤ 8) (kk : G K (EX h) nL T (fX4_perform a1 u).1 (pc + 3) lv (.int (fX4_perform a1 u).2 :: rest)) : G K (EX h) nL T u pc lv (.int a1 :: .ref (xO h) :: rest) := g_callV (n := 1) pc hC (As := [.int a1]) (rest := rest) (cX4_perform_ _ (Cx.ok hC) a1 u) hT rfl rfl rfl (by decide +kernel) hR 0 2 rfl rfl rfl rfl rfl hcat hdg kk

def fX4_advance (u : ST) : ST × Int32 :=
  if (gAs u) = 0 then
    ((wN (if (gEn (sEn ((fX4_perform (fX4_cellAt (gPc u) u) u).1) (fX4_perform (fX4_cellAt (gPc u) u) u).2)) = 0 then (sWa (sEn ((fX4_perform (fX4_cellAt (gPc u) u) u).1) (fX4_perform (fX4_cellAt (gPc u) u) u).2) (if (fX4_cellAt (gPc u) u) = (38008 : Int32) then (1 : Int32) else (if (fX4_cellAt (gPc u) u) = (38168 : Int32) then (1 : Int32) else (0 : Int32)))) else (sEn ((fX4_perform (fX4_cellAt (gPc u) u) u).1) (fX4_perform (fX4_cellAt (gPc u) u) u).2)) ((gEn (if (gEn (sEn ((fX4_perform (fX4_cellAt (gPc u) u) u).1) (fX4_perform (fX4_cellAt (gPc u) u) u).2)) = 0 then (sWa (sEn ((fX4_perform (fX4_cellAt (gPc u) u) u).1) (fX4_perform (fX4_cellAt (gPc u) u) u).2) (if (fX4_cellAt (gPc u) u) = (38008 : Int32) then (1 : Int32) else (if (fX4_cellAt (gPc u) u) = (38168 : Int32) then (1 : Int32) else (0 : Int32)))) else (sEn ((fX4_perform (fX4_cellAt (gPc u) u) u).1) (fX4_perform (fX4_cellAt (gPc u) u) u).2))) &&& (3 : Int32)) ((rN (if (gEn (sEn ((fX4_perform (fX4_cellAt (gPc u) u) u).1) (fX4_perform (fX4_cellAt (gPc u) u) u).2)) = 0 then (sWa (sEn ((fX4_perform (fX4_cellAt (gPc u) u) u).1) (fX4_perform (fX4_cellAt (gPc u) u) u).2) (if (fX4_cellAt (gPc u) u) = (38008 : Int32) then (1 : Int32) else (if (fX4_cellAt (gPc u) u) = (38168 : Int32) then (1 : Int32) else (0 : Int32)))) else (sEn ((fX4_perform (fX4_cellAt (gPc u) u) u).1) (fX4_perform (fX4_cellAt (gPc u) u) u).2)) ((gEn (if (gEn (sEn ((fX4_perform (fX4_cellAt (gPc u) u) u).1) (fX4_perform (fX4_cellAt (gPc u) u) u).2)) = 0 then (sWa (sEn ((fX4_perform (fX4_cellAt (gPc u) u) u).1) (fX4_perform (fX4_cellAt (gPc u) u) u).2) (if (fX4_cellAt (gPc u) u) = (38008 : Int32) then (1 : Int32) else (if (fX4_cellAt (gPc u) u) = (38168 : Int32) then (1 : Int32) else (0 : Int32)))) else (sEn ((fX4_perform (fX4_cellAt (gPc u) u) u).1) (fX4_perform (fX4_cellAt (gPc u) u) u).2))) &&& (3 : Int32))) + (1 : Int32))), (gEn (wN (if (gEn (sEn ((fX4_perform (fX4_cellAt (gPc u) u) u).1) (fX4_perform (fX4_cellAt (gPc u) u) u).2)) = 0 then (sWa (sEn ((fX4_perform (fX4_cellAt (gPc u) u) u).1) (fX4_perform (fX4_cellAt (gPc u) u) u).2) (if (fX4_cellAt (gPc u) u) = (38008 : Int32) then (1 : Int32) else (if (fX4_cellAt (gPc u) u) = (38168 : Int32) then (1 : Int32) else (0 : Int32)))) else (sEn ((fX4_perform (fX4_cellAt (gPc u) u) u).1) (fX4_perform (fX4_cellAt (gPc u) u) u).2)) ((gEn (if (gEn (sEn ((fX4_perform (fX4_cellAt (gPc u) u) u).1) (fX4_perform (fX4_cellAt (gPc u) u) u).2)) = 0 then (sWa (sEn ((fX4_perform (fX4_cellAt (gPc u) u) u).1) (fX4_perform (fX4_cellAt (gPc u) u) u).2) (if (fX4_cellAt (gPc u) u) = (38008 : Int32) then (1 : Int32) else (if (fX4_cellAt (gPc u) u) = (38168 : Int32) then (1 : Int32) else (0 : Int32)))) else (sEn ((fX4_perform (fX4_cellAt (gPc u) u) u).1) (fX4_perform (fX4_cellAt (gPc u) u) u).2))) &&& (3 : Int32)) ((rN (if (gEn (sEn ((fX4_perform (fX4_cellAt (gPc u) u) u).1) (fX4_perform (fX4_cellAt (gPc u) u) u).2)) = 0 then (sWa (sEn ((fX4_perform (fX4_cellAt (gPc u) u) u).1) (fX4_perform (fX4_cellAt (gPc u) u) u).2) (if (fX4_cellAt (gPc u) u) = (38008 : Int32) then (1 : Int32) else (if (fX4_cellAt (gPc u) u) = (38168 : Int32) then (1 : Int32) else (0 : Int32)))) else (sEn ((fX4_perform (fX4_cellAt (gPc u) u) u).1) (fX4_perform (fX4_cellAt (gPc u) u) u).2)) ((gEn (if (gEn (sEn ((fX4_perform (fX4_cellAt (gPc u) u) u).1) (fX4_perform (fX4_cellAt (gPc u) u) u).2)) = 0 then (sWa (sEn ((fX4_perform (fX4_cellAt (gPc u) u) u).1) (fX4_perform (fX4_cellAt (gPc u) u) u).2) (if (fX4_cellAt (gPc u) u) = (38008 : Int32) then (1 : Int32) else (if (fX4_cellAt (gPc u) u) = (38168 : Int32) then (1 : Int32) else (0 : Int32)))) else (sEn ((fX4_perform (fX4_cellAt (gPc u) u) u).1) (fX4_perform (fX4_cellAt (gPc u) u) u).2))) &&& (3 : Int32))) + (1 : Int32)))))
  else
    if (gWa u) = 0 then
      if (fX0_flag (7 : Int32) u) = (1 : Int32) then
        ((wN (sEn ((fX4_enterLeast u).1) (fX4_enterLeast u).2) ((gEn (sEn ((fX4_enterLeast u).1) (fX4_enterLeast u).2)) &&& (3 : Int32)) ((rN (sEn ((fX4_enterLeast u).1) (fX4_enterLeast u).2) ((gEn (sEn ((fX4_enterLeast u).1) (fX4_enterLeast u).2)) &&& (3 : Int32))) + (1 : Int32))), (gEn (wN (sEn ((fX4_enterLeast u).1) (fX4_enterLeast u).2) ((gEn (sEn ((fX4_enterLeast u).1) (fX4_enterLeast u).2)) &&& (3 : Int32)) ((rN (sEn ((fX4_enterLeast u).1) (fX4_enterLeast u).2) ((gEn (sEn ((fX4_enterLeast u).1) (fX4_enterLeast u).2)) &&& (3 : Int32))) + (1 : Int32)))))
      else
        ((wN (if (gEn (sEn ((fX4_perform (fX4_cellAt (gPc u) u) u).1) (fX4_perform (fX4_cellAt (gPc u) u) u).2)) = 0 then (sWa (sEn ((fX4_perform (fX4_cellAt (gPc u) u) u).1) (fX4_perform (fX4_cellAt (gPc u) u) u).2) (if (fX4_cellAt (gPc u) u) = (38008 : Int32) then (1 : Int32) else (if (fX4_cellAt (gPc u) u) = (38168 : Int32) then (1 : Int32) else (0 : Int32)))) else (sEn ((fX4_perform (fX4_cellAt (gPc u) u) u).1) (fX4_perform (fX4_cellAt (gPc u) u) u).2)) ((gEn (if (gEn (sEn ((fX4_perform (fX4_cellAt (gPc u) u) u).1) (fX4_perform (fX4_cellAt (gPc u) u) u).2)) = 0 then (sWa (sEn ((fX4_perform (fX4_cellAt (gPc u) u) u).1) (fX4_perform (fX4_cellAt (gPc u) u) u).2) (if (fX4_cellAt (gPc u) u) = (38008 : Int32) then (1 : Int32) else (if (fX4_cellAt (gPc u) u) = (38168 : Int32) then (1 : Int32) else (0 : Int32)))) else (sEn ((fX4_perform (fX4_cellAt (gPc u) u) u).1) (fX4_perform (fX4_cellAt (gPc u) u) u).2))) &&& (3 : Int32)) ((rN (if (gEn (sEn ((fX4_perform (fX4_cellAt (gPc u) u) u).1) (fX4_perform (fX4_cellAt (gPc u) u) u).2)) = 0 then (sWa (sEn ((fX4_perform (fX4_cellAt (gPc u) u) u).1) (fX4_perform (fX4_cellAt (gPc u) u) u).2) (if (fX4_cellAt (gPc u) u) = (38008 : Int32) then (1 : Int32) else (if (fX4_cellAt (gPc u) u) = (38168 : Int32) then (1 : Int32) else (0 : Int32)))) else (sEn ((fX4_perform (fX4_cellAt (gPc u) u) u).1) (fX4_perform (fX4_cellAt (gPc u) u) u).2)) ((gEn (if (gEn (sEn ((fX4_perform (fX4_cellAt (gPc u) u) u).1) (fX4_perform (fX4_cellAt (gPc u) u) u).2)) = 0 then (sWa (sEn ((fX4_perform (fX4_cellAt (gPc u) u) u).1) (fX4_perform (fX4_cellAt (gPc u) u) u).2) (if (fX4_cellAt (gPc u) u) = (38008 : Int32) then (1 : Int32) else (if (fX4_cellAt (gPc u) u) = (38168 : Int32) then (1 : Int32) else (0 : Int32)))) else (sEn ((fX4_perform (fX4_cellAt (gPc u) u) u).1) (fX4_perform (fX4_cellAt (gPc u) u) u).2))) &&& (3 : Int32))) + (1 : Int32))), (gEn (wN (if (gEn (sEn ((fX4_perform (fX4_cellAt (gPc u) u) u).1) (fX4_perform (fX4_cellAt (gPc u) u) u).2)) = 0 then (sWa (sEn ((fX4_perform (fX4_cellAt (gPc u) u) u).1) (fX4_perform (fX4_cellAt (gPc u) u) u).2) (if (fX4_cellAt (gPc u) u) = (38008 : Int32) then (1 : Int32) else (if (fX4_cellAt (gPc u) u) = (38168 : Int32) then (1 : Int32) else (0 : Int32)))) else (sEn ((fX4_perform (fX4_cellAt (gPc u) u) u).1) (fX4_perform (fX4_cellAt (gPc u) u) u).2)) ((gEn (if (gEn (sEn ((fX4_perform (fX4_cellAt (gPc u) u) u).1) (fX4_perform (fX4_cellAt (gPc u) u) u).2)) = 0 then (sWa (sEn ((fX4_perform (fX4_cellAt (gPc u) u) u).1) (fX4_perform (fX4_cellAt (gPc u) u) u).2) (if (fX4_cellAt (gPc u) u) = (38008 : Int32) then (1 : Int32) else (if (fX4_cellAt (gPc u) u) = (38168 : Int32) then (1 : Int32) else (0 : Int32)))) else (sEn ((fX4_perform (fX4_cellAt (gPc u) u) u).1) (fX4_perform (fX4_cellAt (gPc u) u) u).2))) &&& (3 : Int32)) ((rN (if (gEn (sEn ((fX4_perform (fX4_cellAt (gPc u) u) u).1) (fX4_perform (fX4_cellAt (gPc u) u) u).2)) = 0 then (sWa (sEn ((fX4_perform (fX4_cellAt (gPc u) u) u).1) (fX4_perform (fX4_cellAt (gPc u) u) u).2) (if (fX4_cellAt (gPc u) u) = (38008 : Int32) then (1 : Int32) else (if (fX4_cellAt (gPc u) u) = (38168 : Int32) then (1 : Int32) else (0 : Int32)))) else (sEn ((fX4_perform (fX4_cellAt (gPc u) u) u).1) (fX4_perform (fX4_cellAt (gPc u) u) u).2)) ((gEn (if (gEn (sEn ((fX4_perform (fX4_cellAt (gPc u) u) u).1) (fX4_perform (fX4_cellAt (gPc u) u) u).2)) = 0 then (sWa (sEn ((fX4_perform (fX4_cellAt (gPc u) u) u).1) (fX4_perform (fX4_cellAt (gPc u) u) u).2) (if (fX4_cellAt (gPc u) u) = (38008 : Int32) then (1 : Int32) else (if (fX4_cellAt (gPc u) u) = (38168 : Int32) then (1 : Int32) else (0 : Int32)))) else (sEn ((fX4_perform (fX4_cellAt (gPc u) u) u).1) (fX4_perform (fX4_cellAt (gPc u) u) u).2))) &&& (3 : Int32))) + (1 : Int32)))))
    else
      ((wN (if (gEn (sEn ((fX4_perform (fX4_cellAt (gPc u) u) u).1) (fX4_perform (fX4_cellAt (gPc u) u) u).2)) = 0 then (sWa (sEn ((fX4_perform (fX4_cellAt (gPc u) u) u).1) (fX4_perform (fX4_cellAt (gPc u) u) u).2) (if (fX4_cellAt (gPc u) u) = (38008 : Int32) then (1 : Int32) else (if (fX4_cellAt (gPc u) u) = (38168 : Int32) then (1 : Int32) else (0 : Int32)))) else (sEn ((fX4_perform (fX4_cellAt (gPc u) u) u).1) (fX4_perform (fX4_cellAt (gPc u) u) u).2)) ((gEn (if (gEn (sEn ((fX4_perform (fX4_cellAt (gPc u) u) u).1) (fX4_perform (fX4_cellAt (gPc u) u) u).2)) = 0 then (sWa (sEn ((fX4_perform (fX4_cellAt (gPc u) u) u).1) (fX4_perform (fX4_cellAt (gPc u) u) u).2) (if (fX4_cellAt (gPc u) u) = (38008 : Int32) then (1 : Int32) else (if (fX4_cellAt (gPc u) u) = (38168 : Int32) then (1 : Int32) else (0 : Int32)))) else (sEn ((fX4_perform (fX4_cellAt (gPc u) u) u).1) (fX4_perform (fX4_cellAt (gPc u) u) u).2))) &&& (3 : Int32)) ((rN (if (gEn (sEn ((fX4_perform (fX4_cellAt (gPc u) u) u).1) (fX4_perform (fX4_cellAt (gPc u) u) u).2)) = 0 then (sWa (sEn ((fX4_perform (fX4_cellAt (gPc u) u) u).1) (fX4_perform (fX4_cellAt (gPc u) u) u).2) (if (fX4_cellAt (gPc u) u) = (38008 : Int32) then (1 : Int32) else (if (fX4_cellAt (gPc u) u) = (38168 : Int32) then (1 : Int32) else (0 : Int32)))) else (sEn ((fX4_perform (fX4_cellAt (gPc u) u) u).1) (fX4_perform (fX4_cellAt (gPc u) u) u).2)) ((gEn (if (gEn (sEn ((fX4_perform (fX4_cellAt (gPc u) u) u).1) (fX4_perform (fX4_cellAt (gPc u) u) u).2)) = 0 then (sWa (sEn ((fX4_perform (fX4_cellAt (gPc u) u) u).1) (fX4_perform (fX4_cellAt (gPc u) u) u).2) (if (fX4_cellAt (gPc u) u) = (38008 : Int32) then (1 : Int32) else (if (fX4_cellAt (gPc u) u) = (38168 : Int32) then (1 : Int32) else (0 : Int32)))) else (sEn ((fX4_perform (fX4_cellAt (gPc u) u) u).1) (fX4_perform (fX4_cellAt (gPc u) u) u).2))) &&& (3 : Int32))) + (1 : Int32))), (gEn (wN (if (gEn (sEn ((fX4_perform (fX4_cellAt (gPc u) u) u).1) (fX4_perform (fX4_cellAt (gPc u) u) u).2)) = 0 then (sWa (sEn ((fX4_perform (fX4_cellAt (gPc u) u) u).1) (fX4_perform (fX4_cellAt (gPc u) u) u).2) (if (fX4_cellAt (gPc u) u) = (38008 : Int32) then (1 : Int32) else (if (fX4_cellAt (gPc u) u) = (38168 : Int32) then (1 : Int32) else (0 : Int32)))) else (sEn ((fX4_perform (fX4_cellAt (gPc u) u) u).1) (fX4_perform (fX4_cellAt (gPc u) u) u).2)) ((gEn (if (gEn (sEn ((fX4_perform (fX4_cellAt (gPc u) u) u).1) (fX4_perform (fX4_cellAt (gPc u) u) u).2)) = 0 then (sWa (sEn ((fX4_perform (fX4_cellAt (gPc u) u) u).1) (fX4_perform (fX4_cellAt (gPc u) u) u).2) (if (fX4_cellAt (gPc u) u) = (38008 : Int32) then (1 : Int32) else (if (fX4_cellAt (gPc u) u) = (38168 : Int32) then (1 : Int32) else (0 : Int32)))) else (sEn ((fX4_perform (fX4_cellAt (gPc u) u) u).1) (fX4_perform (fX4_cellAt (gPc u) u) u).2))) &&& (3 : Int32)) ((rN (if (gEn (sEn ((fX4_perform (fX4_cellAt (gPc u) u) u).1) (fX4_perform (fX4_cellAt (gPc u) u) u).2)) = 0 then (sWa (sEn ((fX4_perform (fX4_cellAt (gPc u) u) u).1) (fX4_perform (fX4_cellAt (gPc u) u) u).2) (if (fX4_cellAt (gPc u) u) = (38008 : Int32) then (1 : Int32) else (if (fX4_cellAt (gPc u) u) = (38168 : Int32) then (1 : Int32) else (0 : Int32)))) else (sEn ((fX4_perform (fX4_cellAt (gPc u) u) u).1) (fX4_perform (fX4_cellAt (gPc u) u) u).2)) ((gEn (if (gEn (sEn ((fX4_perform (fX4_cellAt (gPc u) u) u).1) (fX4_perform (fX4_cellAt (gPc u) u) u).2)) = 0 then (sWa (sEn ((fX4_perform (fX4_cellAt (gPc u) u) u).1) (fX4_perform (fX4_cellAt (gPc u) u) u).2) (if (fX4_cellAt (gPc u) u) = (38008 : Int32) then (1 : Int32) else (if (fX4_cellAt (gPc u) u) = (38168 : Int32) then (1 : Int32) else (0 : Int32)))) else (sEn ((fX4_perform (fX4_cellAt (gPc u) u) u).1) (fX4_perform (fX4_cellAt (gPc u) u) u).2))) &&& (3 : Int32))) + (1 : Int32)))))
theorem fiX4_advance_wsX40 : ∀ w ∈ wsX40, w ∈ wsX4_advance := fun w h => List.mem_cons_of_mem _ (List.mem_append_left _ (List.mem_append_left _ (List.mem_append_right _ h)))
theorem fmX4_advance_36 : Cond.fieldLink RX4 36 "FlagCore" "asked" "I" ∈ wsX4_advance := List.mem_of_getElem? (i := 1) rfl
theorem fmX4_advance_32 : Cond.fieldLink RX4 32 "FlagCore" "pc" "I" ∈ wsX4_advance := List.mem_of_getElem? (i := 5) rfl
theorem fmX4_advance_39 : Cond.fieldLink RX4 39 "FlagCore" "latest" "I" ∈ wsX4_advance := List.mem_of_getElem? (i := 4) rfl
theorem cmX4_advance_89 : Jvm.Cond.constant RX4 89 (38008 : Int32) ∈ wsX4_advance := List.mem_of_getElem? (i := 6) rfl
theorem cmX4_advance_90 : Jvm.Cond.constant RX4 90 (38168 : Int32) ∈ wsX4_advance := List.mem_of_getElem? (i := 7) rfl
theorem fmX4_advance_42 : Cond.fieldLink RX4 42 "FlagCore" "waiting" "Z" ∈ wsX4_advance := List.mem_of_getElem? (i := 2) rfl
theorem fmX4_advance_16 : Cond.fieldLink RX4 16 "FlagCore" "bytes" "LFlagCore$Bytes;" ∈ wsX4_advance := List.mem_of_getElem? (i := 3) rfl
theorem fmX4_advance_29 : Cond.fieldLink RX4 29 "FlagCore" "tallies" "[I" ∈ wsX4_advance := List.mem_of_getElem? (i := 8) rfl
abbrev rmX4_advance : Room := { frames := 6, cells := 0, slots := 0, locals := 130 }
set_option maxRecDepth 20000 in
theorem cX4_advance_ (h : HX) (hE : okE (EX h)) (u : ST) : MX (EX h) yX4_advance wsX4_advance rmX4_advance [.ref (xO h)] u (tW (fX4_advance u)) := by
  refine MX.of (cc := cX4_advance) (maxL := 2) (ret := (some .int)) (lv := [(0, .ref (xO h))]) hE (by decide) rfl (fun _ => rfl) (Nat.le_of_ble_eq_true rfl) rfl (fun K hC => ?_)
  unfold fX4_advance
  refine g_aload_n 0 hC dX4_advance_0 0 rfl ?_
  refine x_get_asked 1 hC fiX4_advance_wsX40 fmX4_advance_36 dX4_advance_1 ?_
  refine g_if_eqT (tW) 4 hC 38 dX4_advance_4 (by decide) (fun h1 => ?_) (fun h1 => ?_)
  · skip
    refine g_aload_n 38 hC dX4_advance_38 0 rfl ?_
    refine g_aload_n 39 hC dX4_advance_39 0 rfl ?_
    refine x_get_pc 40 hC fiX4_advance_wsX40 fmX4_advance_32 dX4_advance_40 ?_
    refine kX4_cellAt 43 hC gX4_advance_X4_cellAt ⟨Nat.le_of_ble_eq_true rfl, Nat.le_of_ble_eq_true rfl⟩ dX4_advance_43 (Nat.le_of_ble_eq_true rfl) ?_
    refine g_istore_n 46 hC dX4_advance_46 (by decide) [(1, .int ((fX4_cellAt (gPc u) u))), (0, .ref (xO h))] rfl ?_
    refine g_aload_n 47 hC dX4_advance_47 1 rfl ?_
    refine g_aload_n 48 hC dX4_advance_48 1 rfl ?_
    refine g_iload_n 49 hC dX4_advance_49 0 rfl ?_
    refine kX4_perform 50 hC gX4_advance_X4_perform ⟨Nat.le_of_ble_eq_true rfl, Nat.le_of_ble_eq_true rfl⟩ dX4_advance_50 (Nat.le_of_ble_eq_true rfl) ?_
    refine x_put_latest 53 hC fiX4_advance_wsX40 fmX4_advance_39 dX4_advance_53 ?_
    refine g_aload_n 56 hC dX4_advance_56 1 rfl ?_
    refine x_get_latest 57 hC fiX4_advance_wsX40 fmX4_advance_39 dX4_advance_57 ?_
    refine g_cutS 84 (if (gEn (sEn ((fX4_perform (fX4_cellAt (gPc u) u) u).1) (fX4_perform (fX4_cellAt (gPc u) u) u).2)) = 0 then (sWa (sEn ((fX4_perform (fX4_cellAt (gPc u) u) u).1) (fX4_perform (fX4_cellAt (gPc u) u) u).2) (if (fX4_cellAt (gPc u) u) = (38008 : Int32) then (1 : Int32) else (if (fX4_cellAt (gPc u) u) = (38168 : Int32) then (1 : Int32) else (0 : Int32)))) else (sEn ((fX4_perform (fX4_cellAt (gPc u) u) u).1) (fX4_perform (fX4_cellAt (gPc u) u) u).2)) [] ?_ (fun J6 => ?_)
    · skip
      refine g_aload_n 84 hC dX4_advance_84 1 rfl ?_
      refine x_get_tallies 85 hC fiX4_advance_wsX40 fmX4_advance_29 dX4_advance_85 ?_
      refine g_aload_n 88 hC dX4_advance_88 1 rfl ?_
      refine x_get_latest 89 hC fiX4_advance_wsX40 fmX4_advance_39 dX4_advance_89 ?_
      refine g_iconst 92 hC (3 : Int32) dX4_advance_92 (by decide) ?_
      refine g_iand 93 hC dX4_advance_93 ?_
      refine g_dup2 94 hC dX4_advance_94 rfl rfl ?_
      refine x_ldN 95 hC (vin_3 _) dX4_advance_95 ?_
      refine g_iconst 96 hC (1 : Int32) dX4_advance_96 (by decide) ?_
      refine g_iadd 97 hC dX4_advance_97 ?_
      refine x_stN 98 hC (vin_3 _) dX4_advance_98 ?_
      refine g_aload_n 99 hC dX4_advance_99 1 rfl ?_
      refine x_get_latest 100 hC fiX4_advance_wsX40 fmX4_advance_39 dX4_advance_100 ?_
      exact g_iretW 103 hC dX4_advance_103
    · skip
      refine g_if_ne 60 hC 84 dX4_advance_60 (by decide) (fun h2 => ?_) (fun h2 => ?_)
      · skip
        exact J6 _ (Eq.symm (if_neg h2))
      · skip
        refine g_aload_n 63 hC dX4_advance_63 1 rfl ?_
        refine g_iload_n 64 hC dX4_advance_64 0 rfl ?_
        refine g_ldc 65 hC (38008 : Int32) dX4_advance_65 cmX4_advance_89 ?_
        refine g_cut 81 (if (fX4_cellAt (gPc u) u) = (38008 : Int32) then (1 : Int32) else (if (fX4_cellAt (gPc u) u) = (38168 : Int32) then (1 : Int32) else (0 : Int32))) [.ref (xO h)] ?_ (fun J5 => ?_)
        · skip
          refine x_put_waiting 81 hC fiX4_advance_wsX40 fmX4_advance_42 (nbI nb1 (nbI nb1 nb0)) dX4_advance_81 ?_
          exact J6 _ (Eq.symm (if_pos h2))
        · skip
          refine g_icmp_eq 67 hC 76 dX4_advance_67 (by decide) (fun h3 => ?_) (fun h3 => ?_)
          · skip
            refine g_iconst 76 hC (1 : Int32) dX4_advance_76 (by decide) ?_
            refine g_goto 77 hC 81 dX4_advance_77 (by decide) ?_
            exact J5 _ (Eq.symm (if_pos h3))
          · skip
            refine g_iload_n 70 hC dX4_advance_70 0 rfl ?_
            refine g_ldc 71 hC (38168 : Int32) dX4_advance_71 cmX4_advance_90 ?_
            refine g_icmp_ne 73 hC 80 dX4_advance_73 (by decide) (fun h4 => ?_) (fun h4 => ?_)
            · skip
              refine g_iconst 80 hC (0 : Int32) dX4_advance_80 (by decide) ?_
              exact J5 _ (Eq.symm (Eq.trans (if_neg h3) (if_neg h4)))
            · skip
              refine g_iconst 76 hC (1 : Int32) dX4_advance_76 (by decide) ?_
              refine g_goto 77 hC 81 dX4_advance_77 (by decide) ?_
              exact J5 _ (Eq.symm (Eq.trans (if_neg h3) (if_pos h4)))
  · skip
    refine g_aload_n 7 hC dX4_advance_7 0 rfl ?_
    refine x_get_waiting 8 hC fiX4_advance_wsX40 fmX4_advance_42 dX4_advance_8 ?_
    refine g_if_neT (tW) 11 hC 38 dX4_advance_11 (by decide) (fun h7 => ?_) (fun h7 => ?_)
    · skip
      refine g_aload_n 38 hC dX4_advance_38 0 rfl ?_
      refine g_aload_n 39 hC dX4_advance_39 0 rfl ?_
      refine x_get_pc 40 hC fiX4_advance_wsX40 fmX4_advance_32 dX4_advance_40 ?_
      refine kX4_cellAt 43 hC gX4_advance_X4_cellAt ⟨Nat.le_of_ble_eq_true rfl, Nat.le_of_ble_eq_true rfl⟩ dX4_advance_43 (Nat.le_of_ble_eq_true rfl) ?_
      refine g_istore_n 46 hC dX4_advance_46 (by decide) [(1, .int ((fX4_cellAt (gPc u) u))), (0, .ref (xO h))] rfl ?_
      refine g_aload_n 47 hC dX4_advance_47 1 rfl ?_
      refine g_aload_n 48 hC dX4_advance_48 1 rfl ?_
      refine g_iload_n 49 hC dX4_advance_49 0 rfl ?_
      refine kX4_perform 50 hC gX4_advance_X4_perform ⟨Nat.le_of_ble_eq_true rfl, Nat.le_of_ble_eq_true rfl⟩ dX4_advance_50 (Nat.le_of_ble_eq_true rfl) ?_
      refine x_put_latest 53 hC fiX4_advance_wsX40 fmX4_advance_39 dX4_advance_53 ?_
      refine g_aload_n 56 hC dX4_advance_56 1 rfl ?_
      refine x_get_latest 57 hC fiX4_advance_wsX40 fmX4_advance_39 dX4_advance_57 ?_
      refine g_cutS 84 (if (gEn (sEn ((fX4_perform (fX4_cellAt (gPc u) u) u).1) (fX4_perform (fX4_cellAt (gPc u) u) u).2)) = 0 then (sWa (sEn ((fX4_perform (fX4_cellAt (gPc u) u) u).1) (fX4_perform (fX4_cellAt (gPc u) u) u).2) (if (fX4_cellAt (gPc u) u) = (38008 : Int32) then (1 : Int32) else (if (fX4_cellAt (gPc u) u) = (38168 : Int32) then (1 : Int32) else (0 : Int32)))) else (sEn ((fX4_perform (fX4_cellAt (gPc u) u) u).1) (fX4_perform (fX4_cellAt (gPc u) u) u).2)) [] ?_ (fun J12 => ?_)
      · skip
        refine g_aload_n 84 hC dX4_advance_84 1 rfl ?_
        refine x_get_tallies 85 hC fiX4_advance_wsX40 fmX4_advance_29 dX4_advance_85 ?_
        refine g_aload_n 88 hC dX4_advance_88 1 rfl ?_
        refine x_get_latest 89 hC fiX4_advance_wsX40 fmX4_advance_39 dX4_advance_89 ?_
        refine g_iconst 92 hC (3 : Int32) dX4_advance_92 (by decide) ?_
        refine g_iand 93 hC dX4_advance_93 ?_
        refine g_dup2 94 hC dX4_advance_94 rfl rfl ?_
        refine x_ldN 95 hC (vin_3 _) dX4_advance_95 ?_
        refine g_iconst 96 hC (1 : Int32) dX4_advance_96 (by decide) ?_
        refine g_iadd 97 hC dX4_advance_97 ?_
        refine x_stN 98 hC (vin_3 _) dX4_advance_98 ?_
        refine g_aload_n 99 hC dX4_advance_99 1 rfl ?_
        refine x_get_latest 100 hC fiX4_advance_wsX40 fmX4_advance_39 dX4_advance_100 ?_
        exact g_iretW 103 hC dX4_advance_103
      · skip
        refine g_if_ne 60 hC 84 dX4_advance_60 (by decide) (fun h8 => ?_) (fun h8 => ?_)
        · skip
          exact J12 _ (Eq.symm (if_neg h8))
        · skip
          refine g_aload_n 63 hC dX4_advance_63 1 rfl ?_
          refine g_iload_n 64 hC dX4_advance_64 0 rfl ?_
          refine g_ldc 65 hC (38008 : Int32) dX4_advance_65 cmX4_advance_89 ?_
          refine g_cut 81 (if (fX4_cellAt (gPc u) u) = (38008 : Int32) then (1 : Int32) else (if (fX4_cellAt (gPc u) u) = (38168 : Int32) then (1 : Int32) else (0 : Int32))) [.ref (xO h)] ?_ (fun J11 => ?_)
          · skip
            refine x_put_waiting 81 hC fiX4_advance_wsX40 fmX4_advance_42 (nbI nb1 (nbI nb1 nb0)) dX4_advance_81 ?_
            exact J12 _ (Eq.symm (if_pos h8))
          · skip
            refine g_icmp_eq 67 hC 76 dX4_advance_67 (by decide) (fun h9 => ?_) (fun h9 => ?_)
            · skip
              refine g_iconst 76 hC (1 : Int32) dX4_advance_76 (by decide) ?_
              refine g_goto 77 hC 81 dX4_advance_77 (by decide) ?_
              exact J11 _ (Eq.symm (if_pos h9))
            · skip
              refine g_iload_n 70 hC dX4_advance_70 0 rfl ?_
              refine g_ldc 71 hC (38168 : Int32) dX4_advance_71 cmX4_advance_90 ?_
              refine g_icmp_ne 73 hC 80 dX4_advance_73 (by decide) (fun h10 => ?_) (fun h10 => ?_)
              · skip
                refine g_iconst 80 hC (0 : Int32) dX4_advance_80 (by decide) ?_
                exact J11 _ (Eq.symm (Eq.trans (if_neg h9) (if_neg h10)))
              · skip
                refine g_iconst 76 hC (1 : Int32) dX4_advance_76 (by decide) ?_
                refine g_goto 77 hC 81 dX4_advance_77 (by decide) ?_
                exact J11 _ (Eq.symm (Eq.trans (if_neg h9) (if_pos h10)))
    · skip
      refine g_aload_n 14 hC dX4_advance_14 0 rfl ?_
      refine x_get_bytes 15 hC fiX4_advance_wsX40 fmX4_advance_16 dX4_advance_15 ?_
      refine g_bipush 18 hC (7 : Int32) dX4_advance_18 (by decide) ?_
      refine kX0_flag 20 hC gX4_advance_X0_flag ⟨Nat.le_of_ble_eq_true rfl, Nat.le_of_ble_eq_true rfl⟩ dX4_advance_20 (Nat.le_of_ble_eq_true rfl) ?_
      refine g_iconst 23 hC (1 : Int32) dX4_advance_23 (by decide) ?_
      refine g_icmp_neT (tW) 24 hC 38 dX4_advance_24 (by decide) (fun h13 => ?_) (fun h13 => ?_)
      · skip
        refine g_aload_n 38 hC dX4_advance_38 0 rfl ?_
        refine g_aload_n 39 hC dX4_advance_39 0 rfl ?_
        refine x_get_pc 40 hC fiX4_advance_wsX40 fmX4_advance_32 dX4_advance_40 ?_
        refine kX4_cellAt 43 hC gX4_advance_X4_cellAt ⟨Nat.le_of_ble_eq_true rfl, Nat.le_of_ble_eq_true rfl⟩ dX4_advance_43 (Nat.le_of_ble_eq_true rfl) ?_
        refine g_istore_n 46 hC dX4_advance_46 (by decide) [(1, .int ((fX4_cellAt (gPc u) u))), (0, .ref (xO h))] rfl ?_
        refine g_aload_n 47 hC dX4_advance_47 1 rfl ?_
        refine g_aload_n 48 hC dX4_advance_48 1 rfl ?_
        refine g_iload_n 49 hC dX4_advance_49 0 rfl ?_
        refine kX4_perform 50 hC gX4_advance_X4_perform ⟨Nat.le_of_ble_eq_true rfl, Nat.le_of_ble_eq_true rfl⟩ dX4_advance_50 (Nat.le_of_ble_eq_true rfl) ?_
        refine x_put_latest 53 hC fiX4_advance_wsX40 fmX4_advance_39 dX4_advance_53 ?_
        refine g_aload_n 56 hC dX4_advance_56 1 rfl ?_
        refine x_get_latest 57 hC fiX4_advance_wsX40 fmX4_advance_39 dX4_advance_57 ?_
        refine g_cutS 84 (if (gEn (sEn ((fX4_perform (fX4_cellAt (gPc u) u) u).1) (fX4_perform (fX4_cellAt (gPc u) u) u).2)) = 0 then (sWa (sEn ((fX4_perform (fX4_cellAt (gPc u) u) u).1) (fX4_perform (fX4_cellAt (gPc u) u) u).2) (if (fX4_cellAt (gPc u) u) = (38008 : Int32) then (1 : Int32) else (if (fX4_cellAt (gPc u) u) = (38168 : Int32) then (1 : Int32) else (0 : Int32)))) else (sEn ((fX4_perform (fX4_cellAt (gPc u) u) u).1) (fX4_perform (fX4_cellAt (gPc u) u) u).2)) [] ?_ (fun J18 => ?_)
        · skip
          refine g_aload_n 84 hC dX4_advance_84 1 rfl ?_
          refine x_get_tallies 85 hC fiX4_advance_wsX40 fmX4_advance_29 dX4_advance_85 ?_
          refine g_aload_n 88 hC dX4_advance_88 1 rfl ?_
          refine x_get_latest 89 hC fiX4_advance_wsX40 fmX4_advance_39 dX4_advance_89 ?_
          refine g_iconst 92 hC (3 : Int32) dX4_advance_92 (by decide) ?_
          refine g_iand 93 hC dX4_advance_93 ?_
          refine g_dup2 94 hC dX4_advance_94 rfl rfl ?_
          refine x_ldN 95 hC (vin_3 _) dX4_advance_95 ?_
          refine g_iconst 96 hC (1 : Int32) dX4_advance_96 (by decide) ?_
          refine g_iadd 97 hC dX4_advance_97 ?_
          refine x_stN 98 hC (vin_3 _) dX4_advance_98 ?_
          refine g_aload_n 99 hC dX4_advance_99 1 rfl ?_
          refine x_get_latest 100 hC fiX4_advance_wsX40 fmX4_advance_39 dX4_advance_100 ?_
          exact g_iretW 103 hC dX4_advance_103
        · skip
          refine g_if_ne 60 hC 84 dX4_advance_60 (by decide) (fun h14 => ?_) (fun h14 => ?_)
          · skip
            exact J18 _ (Eq.symm (if_neg h14))
          · skip
            refine g_aload_n 63 hC dX4_advance_63 1 rfl ?_
            refine g_iload_n 64 hC dX4_advance_64 0 rfl ?_
            refine g_ldc 65 hC (38008 : Int32) dX4_advance_65 cmX4_advance_89 ?_
            refine g_cut 81 (if (fX4_cellAt (gPc u) u) = (38008 : Int32) then (1 : Int32) else (if (fX4_cellAt (gPc u) u) = (38168 : Int32) then (1 : Int32) else (0 : Int32))) [.ref (xO h)] ?_ (fun J17 => ?_)
            · skip
              refine x_put_waiting 81 hC fiX4_advance_wsX40 fmX4_advance_42 (nbI nb1 (nbI nb1 nb0)) dX4_advance_81 ?_
              exact J18 _ (Eq.symm (if_pos h14))
            · skip
              refine g_icmp_eq 67 hC 76 dX4_advance_67 (by decide) (fun h15 => ?_) (fun h15 => ?_)
              · skip
                refine g_iconst 76 hC (1 : Int32) dX4_advance_76 (by decide) ?_
                refine g_goto 77 hC 81 dX4_advance_77 (by decide) ?_
                exact J17 _ (Eq.symm (if_pos h15))
              · skip
                refine g_iload_n 70 hC dX4_advance_70 0 rfl ?_
                refine g_ldc 71 hC (38168 : Int32) dX4_advance_71 cmX4_advance_90 ?_
                refine g_icmp_ne 73 hC 80 dX4_advance_73 (by decide) (fun h16 => ?_) (fun h16 => ?_)
                · skip
                  refine g_iconst 80 hC (0 : Int32) dX4_advance_80 (by decide) ?_
                  exact J17 _ (Eq.symm (Eq.trans (if_neg h15) (if_neg h16)))
                · skip
                  refine g_iconst 76 hC (1 : Int32) dX4_advance_76 (by decide) ?_
                  refine g_goto 77 hC 81 dX4_advance_77 (by decide) ?_
                  exact J17 _ (Eq.symm (Eq.trans (if_neg h15) (if_pos h16)))
      · skip
        refine g_aload_n 27 hC dX4_advance_27 0 rfl ?_
        refine g_aload_n 28 hC dX4_advance_28 0 rfl ?_
        refine kX4_enterLeast 29 hC gX4_advance_X4_enterLeast ⟨Nat.le_of_ble_eq_true rfl, Nat.le_of_ble_eq_true rfl⟩ dX4_advance_29 (Nat.le_of_ble_eq_true rfl) ?_
        refine x_put_latest 32 hC fiX4_advance_wsX40 fmX4_advance_39 dX4_advance_32 ?_
        refine g_goto 35 hC 84 dX4_advance_35 (by decide) ?_
        refine g_aload_n 84 hC dX4_advance_84 0 rfl ?_
        refine x_get_tallies 85 hC fiX4_advance_wsX40 fmX4_advance_29 dX4_advance_85 ?_
        refine g_aload_n 88 hC dX4_advance_88 0 rfl ?_
        refine x_get_latest 89 hC fiX4_advance_wsX40 fmX4_advance_39 dX4_advance_89 ?_
        refine g_iconst 92 hC (3 : Int32) dX4_advance_92 (by decide) ?_
        refine g_iand 93 hC dX4_advance_93 ?_
        refine g_dup2 94 hC dX4_advance_94 rfl rfl ?_
        refine x_ldN 95 hC (vin_3 _) dX4_advance_95 ?_
        refine g_iconst 96 hC (1 : Int32) dX4_advance_96 (by decide) ?_
        refine g_iadd 97 hC dX4_advance_97 ?_
        refine x_stN 98 hC (vin_3 _) dX4_advance_98 ?_
        refine g_aload_n 99 hC dX4_advance_99 0 rfl ?_
        refine x_get_latest 100 hC fiX4_advance_wsX40 fmX4_advance_39 dX4_advance_100 ?_
        exact g_iretW 103 hC dX4_advance_103
theorem kX4_advance {K : KT} {h : HX} {cc : ByteArray} {nL : Nat} {own : String} {Ts : List Cond} {rm : Room} {ret : Option FieldType} {T : ST × Option Value} {u : ST} {lv : List (Nat × Value)} {rest : List Value} {idx : Nat} (pc : Nat) (hC : Cx K (EX h) cc nL own Ts rm ret) (hT : GoodIn Ts (wsV own idx RX4 yX4_advance wsX4_advance)) (hR : rmX4_advance.frames + 1 ≤ rm.frames ∧ 8 + (2 + 11) + rmX4_advance.locals ≤ rm.locals) (hdg : decode cc pc = .ok (.invokevirtual idx, 3)) (hcat : (rest.map fun v => v.category).sum ≤ 8) (kk : G K (EX h) nL T (fX4_advance u).1 (pc + 3) lv (.int (fX4_advance u).2 :: rest)) : G K (EX h) nL T u pc lv (.ref (xO h) :: rest) := g_callV (n := 0) pc hC (As := []) (rest := rest) (cX4_advance_ _ (Cx.ok hC) u) hT rfl rfl rfl (by decide +kernel) hR 0 2 rfl rfl rfl rfl rfl hcat hdg kk

def fX4_step (u : ST) : ST × Int32 :=
  (fX4_advance u)
abbrev rmX4_step : Room := { frames := 7, cells := 0, slots := 0, locals := 151 }
set_option maxRecDepth 20000 in
theorem cX4_step_ (h : HX) (hE : okE (EX h)) (u : ST) : MX (EX h) yX4_step wsX4_step rmX4_step [.ref (xO h)] u (tW (fX4_step u)) := by
  refine MX.of (cc := cX4_step) (maxL := 1) (ret := (some .int)) (lv := [(0, .ref (xO h))]) hE (by decide) rfl (fun _ => rfl) (Nat.le_of_ble_eq_true rfl) rfl (fun K hC => ?_)
  unfold fX4_step
  refine g_aload_n 0 hC dX4_step_0 0 rfl ?_
  refine kX4_advance 1 hC gX4_step_X4_advance ⟨Nat.le_of_ble_eq_true rfl, Nat.le_of_ble_eq_true rfl⟩ dX4_step_1 (Nat.le_of_ble_eq_true rfl) ?_
  exact g_iret 4 hC dX4_step_4
theorem kX4_step {K : KT} {h : HX} {cc : ByteArray} {nL : Nat} {own : String} {Ts : List Cond} {rm : Room} {ret : Option FieldType} {T : ST × Option Value} {u : ST} {lv : List (Nat × Value)} {rest : List Value} {idx : Nat} (pc : Nat) (hC : Cx K (EX h) cc nL own Ts rm ret) (hT : GoodIn Ts (wsV own idx RX4 yX4_step wsX4_step)) (hR : rmX4_step.frames + 1 ≤ rm.frames ∧ 8 + (1 + 11) + rmX4_step.locals ≤ rm.locals) (hdg : decode cc pc = .ok (.invokevirtual idx, 3)) (hcat : (rest.map fun v => v.category).sum ≤ 8) (kk : G K (EX h) nL T (fX4_step u).1 (pc + 3) lv (.int (fX4_step u).2 :: rest)) : G K (EX h) nL T u pc lv (.ref (xO h) :: rest) := g_callV (n := 0) pc hC (As := []) (rest := rest) (cX4_step_ _ (Cx.ok hC) u) hT rfl rfl rfl (by decide +kernel) hR 0 2 rfl rfl rfl rfl rfl hcat hdg kk

def runX : Nat → Nat → ST → ST × Int32
  | 0, i, u => (u, nI i)
  | n + 1, i, u => if (fX4_advance u).2 = 0 then runX n (i + 1) (fX4_advance u).1 else if (fX4_advance u).2 = 1 then runX n (i + 1) (fX4_advance u).1 else ((fX4_advance u).1, nI i)
def fX4_run (a1 : Int32) (u : ST) : ST × Int32 :=
  if a1 < (1 : Int32) then
    (u, (-1 : Int32))
  else
    if a1 ≤ (3000 : Int32) then
      (runX (Int32.toNatClampNeg a1) 0 u)
    else
      (u, (-1 : Int32))
abbrev rmX4_run : Room := { frames := 7, cells := 0, slots := 0, locals := 151 }
theorem X4_runLoop1 {K : KT} {h : HX} {rm : Room} (hC : Cx K (EX h) cX4_run 4 yX4_run.cls wsX4_run rm (some .int)) (hR : rmX4_advance.frames + 1 ≤ rm.frames ∧ 8 + (2 + 11) + rmX4_advance.locals ≤ rm.locals) (N : Nat) (hN : N ≤ 3000) : ∀ (n i : Nat) (u : ST), i + n = N → G K (EX h) 4 (tW (runX n i u)) u 16 [(2, .int (nI i)), (1, .int (nI N)), (0, .ref (xO h))] [] := by
  intro n
  induction n with
  | zero =>
    intro i u hi
    refine g_iload_n 16 hC dX4_run_16 0 rfl ?_
    refine g_iload_n 17 hC dX4_run_17 1 rfl ?_
    refine g_icmp_ge 18 hC 43 dX4_run_18 (by decide) (fun _ => ?_) (fun h2 => absurd (nI_le (by omega) (by omega)) h2)
    refine g_iload_n 43 hC dX4_run_43 1 rfl ?_
    obtain rfl : i = N := by omega
    exact g_iret 44 hC dX4_run_44
  | succ n ih =>
    intro i u hi
    refine g_iload_n 16 hC dX4_run_16 0 rfl ?_
    refine g_iload_n 17 hC dX4_run_17 1 rfl ?_
    refine g_icmp_ge 18 hC 43 dX4_run_18 (by decide) (fun h2 => absurd h2 (nI_ge (by omega) (by omega))) (fun _ => ?_)
    refine g_aload_n 21 hC dX4_run_21 2 rfl ?_
    refine kX4_advance 22 hC gX4_run_X4_advance hR dX4_run_22 (Nat.le_of_ble_eq_true rfl) ?_
    refine g_istore_n 25 hC dX4_run_25 (by decide) [(3, .int (fX4_advance u).2), (2, .int (nI i)), (1, .int (nI N)), (0, .ref (xO h))] rfl ?_
    refine g_iload_n 26 hC dX4_run_26 0 rfl ?_
    unfold runX
    refine g_if_eqT (tW) 27 hC 37 dX4_run_27 (by decide) (fun h3 => ?_) (fun h3 => ?_)
    · refine g_iinc 37 hC (nI (i + 1)) dX4_run_37 (by decide) 1 rfl (nI_1 i) [(2, .int (nI (i + 1))), (3, .int (fX4_advance u).2), (1, .int (nI N)), (0, .ref (xO h))] rfl ?_
      refine g_goto 40 hC 16 dX4_run_40 (by decide) ?_
      exact g_sub [0, 2, 3] _ rfl (ih (i + 1) _ (by omega))
    · refine g_iload_n 30 hC dX4_run_30 0 rfl ?_
      refine g_iconst 31 hC (1 : Int32) dX4_run_31 (by decide) ?_
      refine g_icmp_eqT (tW) 32 hC 37 dX4_run_32 (by decide) (fun h4 => ?_) (fun h4 => ?_)
      · refine g_iinc 37 hC (nI (i + 1)) dX4_run_37 (by decide) 1 rfl (nI_1 i) [(2, .int (nI (i + 1))), (3, .int (fX4_advance u).2), (1, .int (nI N)), (0, .ref (xO h))] rfl ?_
        refine g_goto 40 hC 16 dX4_run_40 (by decide) ?_
        exact g_sub [0, 2, 3] _ rfl (ih (i + 1) _ (by omega))
      · refine g_iload_n 35 hC dX4_run_35 1 rfl ?_
        exact g_iret 36 hC dX4_run_36
theorem X4_runLoop {K : KT} {h : HX} {rm : Room} {a1 : Int32} {u : ST} (hC : Cx K (EX h) cX4_run 4 yX4_run.cls wsX4_run rm (some .int)) (hR : rmX4_advance.frames + 1 ≤ rm.frames ∧ 8 + (2 + 11) + rmX4_advance.locals ≤ rm.locals) (h1 : ¬ a1 < 1) (h2 : a1 ≤ 3000) : G K (EX h) 4 (tW (runX a1.toNatClampNeg 0 u)) u 16 [(2, .int (0 : Int32)), (0, .ref (xO h)), (1, .int a1)] [] := by
  have h3 : ¬ a1 < 0 := fun q => h1 (Int32.lt_iff_toInt_lt.mpr (by have := Int32.lt_iff_toInt_lt.mp q; have e0 : (0 : Int32).toInt = 0 := by decide
                                                                   have e1 : (1 : Int32).toInt = 1 := by decide
                                                                   omega))
  obtain ⟨N, hN, rfl⟩ := nI_of2 (M := (3000 : Int32)) (n := 3000) (by decide) h3 h2
  rw [nI_clamp (by omega)]
  exact g_sub [0, 2, 1] _ rfl (X4_runLoop1 hC hR N hN N 0 u (by omega))
set_option maxRecDepth 20000 in
theorem cX4_run_ (h : HX) (hE : okE (EX h)) (a1 : Int32) (u : ST) : MX (EX h) yX4_run wsX4_run rmX4_run [.ref (xO h), .int a1] u (tW (fX4_run a1 u)) := by
  refine MX.of (cc := cX4_run) (maxL := 4) (ret := (some .int)) (lv := [(0, .ref (xO h)), (1, .int a1)]) hE (by decide) rfl (fun _ => rfl) (Nat.le_of_ble_eq_true rfl) rfl (fun K hC => ?_)
  unfold fX4_run
  refine g_iload_n 0 hC dX4_run_0 1 rfl ?_
  refine g_iconst 1 hC (1 : Int32) dX4_run_1 (by decide) ?_
  refine g_icmp_ltT (tW) 2 hC 12 dX4_run_2 (by decide) (fun h1 => ?_) (fun h1 => ?_)
  · skip
    refine g_iconst 12 hC (-1 : Int32) dX4_run_12 (by decide) ?_
    exact g_iretW 13 hC dX4_run_13
  · skip
    refine g_iload_n 5 hC dX4_run_5 1 rfl ?_
    refine g_sipush 6 hC (3000 : Int32) dX4_run_6 (by decide) ?_
    refine g_icmp_leT (tW) 9 hC 14 dX4_run_9 (by decide) (fun h2 => ?_) (fun h2 => ?_)
    · skip
      refine g_iconst 14 hC (0 : Int32) dX4_run_14 (by decide) ?_
      refine g_istore_n 15 hC dX4_run_15 (by decide) [(2, .int ((0 : Int32))), (0, .ref (xO h)), (1, .int a1)] rfl ?_
      exact X4_runLoop hC ⟨Nat.le_of_ble_eq_true rfl, Nat.le_of_ble_eq_true rfl⟩ h1 h2
    · skip
      refine g_iconst 12 hC (-1 : Int32) dX4_run_12 (by decide) ?_
      exact g_iretW 13 hC dX4_run_13
theorem kX4_run {K : KT} {h : HX} {cc : ByteArray} {nL : Nat} {own : String} {Ts : List Cond} {rm : Room} {ret : Option FieldType} {T : ST × Option Value} {u : ST} {lv : List (Nat × Value)} {rest : List Value} {idx : Nat} {a1 : Int32} (pc : Nat) (hC : Cx K (EX h) cc nL own Ts rm ret) (hT : GoodIn Ts (wsV own idx RX4 yX4_run wsX4_run)) (hR : rmX4_run.frames + 1 ≤ rm.frames ∧ 8 + (4 + 11) + rmX4_run.locals ≤ rm.locals) (hdg : decode cc pc = .ok (.invokevirtual idx, 3)) (hcat : (rest.map fun v => v.category).sum ≤ 8) (kk : G K (EX h) nL T (fX4_run a1 u).1 (pc + 3) lv (.int (fX4_run a1 u).2 :: rest)) : G K (EX h) nL T u pc lv (.int a1 :: .ref (xO h) :: rest) := g_callV (n := 1) pc hC (As := [.int a1]) (rest := rest) (cX4_run_ _ (Cx.ok hC) a1 u) hT rfl rfl rfl (by decide +kernel) hR 0 2 rfl rfl rfl rfl rfl hcat hdg kk

def fX4_ended (u : ST) : Int32 :=
  (gEn u)
theorem fiX4_ended_wsX40 : ∀ w ∈ wsX40, w ∈ wsX4_ended := fun w h => List.mem_cons_of_mem _ (List.mem_append_right _ h)
theorem fmX4_ended_39 : Cond.fieldLink RX4 39 "FlagCore" "latest" "I" ∈ wsX4_ended := List.mem_of_getElem? (i := 1) rfl
abbrev rmX4_ended : Room := { frames := 0, cells := 0, slots := 0, locals := 0 }
set_option maxRecDepth 20000 in
theorem cX4_ended_ (h : HX) (hE : okE (EX h)) (u : ST) : MX (EX h) yX4_ended wsX4_ended rmX4_ended [.ref (xO h)] u (tR u (fX4_ended u)) := by
  refine MX.of (cc := cX4_ended) (maxL := 1) (ret := (some .int)) (lv := [(0, .ref (xO h))]) hE (by decide) rfl (fun _ => rfl) (Nat.le_of_ble_eq_true rfl) rfl (fun K hC => ?_)
  unfold fX4_ended
  refine g_aload_n 0 hC dX4_ended_0 0 rfl ?_
  refine x_get_latest 1 hC fiX4_ended_wsX40 fmX4_ended_39 dX4_ended_1 ?_
  exact g_iretR 4 hC dX4_ended_4
theorem kX4_ended {K : KT} {h : HX} {cc : ByteArray} {nL : Nat} {own : String} {Ts : List Cond} {rm : Room} {ret : Option FieldType} {T : ST × Option Value} {u : ST} {lv : List (Nat × Value)} {rest : List Value} {idx : Nat} (pc : Nat) (hC : Cx K (EX h) cc nL own Ts rm ret) (hT : GoodIn Ts (wsV own idx RX4 yX4_ended wsX4_ended)) (hR : rmX4_ended.frames + 1 ≤ rm.frames ∧ 8 + (1 + 11) + rmX4_ended.locals ≤ rm.locals) (hdg : decode cc pc = .ok (.invokevirtual idx, 3)) (hcat : (rest.map fun v => v.category).sum ≤ 8) (kk : G K (EX h) nL T u (pc + 3) lv (.int (fX4_ended u) :: rest)) : G K (EX h) nL T u pc lv (.ref (xO h) :: rest) := g_callV (n := 0) pc hC (As := []) (rest := rest) (cX4_ended_ _ (Cx.ok hC) u) hT rfl rfl rfl (by decide +kernel) hR 0 2 rfl rfl rfl rfl rfl hcat hdg kk

def fX4_reads (a1 : Int32) (a2 : Int32) (u : ST) : Int32 :=
  if (fX4_within a1 (65535 : Int32)) = 0 then
    (-1 : Int32)
  else
    if a2 = (0 : Int32) then
      (if (fX3_groupOf a1) = 0 then (1 : Int32) else (0 : Int32))
    else
      if a2 = (1 : Int32) then
        (if (fX3_hasNext a1) = 0 then (0 : Int32) else (1 : Int32))
      else
        (-1 : Int32)
theorem cmX4_reads_50 : Jvm.Cond.constant RX4 50 (65535 : Int32) ∈ wsX4_reads := List.mem_of_getElem? (i := 1) rfl
abbrev rmX4_reads : Room := { frames := 4, cells := 0, slots := 0, locals := 81 }
set_option maxRecDepth 20000 in
theorem cX4_reads_ (h : HX) (hE : okE (EX h)) (a1 : Int32) (a2 : Int32) (u : ST) : MX (EX h) yX4_reads wsX4_reads rmX4_reads [.ref (xO h), .int a1, .int a2] u (tR u (fX4_reads a1 a2 u)) := by
  refine MX.of (cc := cX4_reads) (maxL := 3) (ret := (some .int)) (lv := [(0, .ref (xO h)), (1, .int a1), (2, .int a2)]) hE (by decide) rfl (fun _ => rfl) (Nat.le_of_ble_eq_true rfl) rfl (fun K hC => ?_)
  unfold fX4_reads
  refine g_iload_n 0 hC dX4_reads_0 1 rfl ?_
  refine g_ldc 1 hC (65535 : Int32) dX4_reads_1 cmX4_reads_50 ?_
  refine kX4_within 3 hC gX4_reads_X4_within ⟨Nat.le_of_ble_eq_true rfl, Nat.le_of_ble_eq_true rfl⟩ dX4_reads_3 (Nat.le_of_ble_eq_true rfl) ?_
  refine g_if_neT (tR u) 6 hC 11 dX4_reads_6 (by decide) (fun h1 => ?_) (fun h1 => ?_)
  · skip
    refine g_iload_n 11 hC dX4_reads_11 2 rfl ?_
    refine g_byT (tR u) (fun h2 => ?_) (fun h2 => ?_)
    · refine g_ls 12 hC (28) 40 dX4_reads_12 (by decide) (by rw [h2]; decide) (by decide) ?_
      refine g_iload_n 40 hC dX4_reads_40 1 rfl ?_
      refine kX3_groupOf 41 hC gX4_reads_X3_groupOf ⟨Nat.le_of_ble_eq_true rfl, Nat.le_of_ble_eq_true rfl⟩ dX4_reads_41 (Nat.le_of_ble_eq_true rfl) ?_
      refine g_cut 52 (if (fX3_groupOf a1) = 0 then (1 : Int32) else (0 : Int32)) [] ?_ (fun J4 => ?_)
      · skip
        exact g_iretR 52 hC dX4_reads_52
      · skip
        refine g_if_ne 44 hC 51 dX4_reads_44 (by decide) (fun h3 => ?_) (fun h3 => ?_)
        · skip
          refine g_iconst 51 hC (0 : Int32) dX4_reads_51 (by decide) ?_
          exact J4 _ (Eq.symm (if_neg h3))
        · skip
          refine g_iconst 47 hC (1 : Int32) dX4_reads_47 (by decide) ?_
          refine g_goto 48 hC 52 dX4_reads_48 (by decide) ?_
          exact J4 _ (Eq.symm (if_pos h3))
    · skip
      refine g_byT (tR u) (fun h5 => ?_) (fun h5 => ?_)
      · refine g_ls 12 hC (41) 53 dX4_reads_12 (by decide) (by rw [h5]; decide) (by decide) ?_
        refine g_iload_n 53 hC dX4_reads_53 1 rfl ?_
        refine kX3_hasNext 54 hC gX4_reads_X3_hasNext ⟨Nat.le_of_ble_eq_true rfl, Nat.le_of_ble_eq_true rfl⟩ dX4_reads_54 (Nat.le_of_ble_eq_true rfl) ?_
        refine g_cut 65 (if (fX3_hasNext a1) = 0 then (0 : Int32) else (1 : Int32)) [] ?_ (fun J7 => ?_)
        · skip
          exact g_iretR 65 hC dX4_reads_65
        · skip
          refine g_if_eq 57 hC 64 dX4_reads_57 (by decide) (fun h6 => ?_) (fun h6 => ?_)
          · skip
            refine g_iconst 64 hC (0 : Int32) dX4_reads_64 (by decide) ?_
            exact J7 _ (Eq.symm (if_pos h6))
          · skip
            refine g_iconst 60 hC (1 : Int32) dX4_reads_60 (by decide) ?_
            refine g_goto 61 hC 65 dX4_reads_61 (by decide) ?_
            exact J7 _ (Eq.symm (if_neg h6))
      · skip
        refine g_ls 12 hC (54) 66 dX4_reads_12 (by decide) ((lv_osw h2 (a := 0) (by decide)).trans ((lv_osw h5 (a := 1) (by decide)).trans rfl)) (by decide) ?_
        refine g_iconst 66 hC (-1 : Int32) dX4_reads_66 (by decide) ?_
        exact g_iretR 67 hC dX4_reads_67
  · skip
    refine g_iconst 9 hC (-1 : Int32) dX4_reads_9 (by decide) ?_
    exact g_iretR 10 hC dX4_reads_10
theorem kX4_reads {K : KT} {h : HX} {cc : ByteArray} {nL : Nat} {own : String} {Ts : List Cond} {rm : Room} {ret : Option FieldType} {T : ST × Option Value} {u : ST} {lv : List (Nat × Value)} {rest : List Value} {idx : Nat} {a1 : Int32} {a2 : Int32} (pc : Nat) (hC : Cx K (EX h) cc nL own Ts rm ret) (hT : GoodIn Ts (wsV own idx RX4 yX4_reads wsX4_reads)) (hR : rmX4_reads.frames + 1 ≤ rm.frames ∧ 8 + (3 + 11) + rmX4_reads.locals ≤ rm.locals) (hdg : decode cc pc = .ok (.invokevirtual idx, 3)) (hcat : (rest.map fun v => v.category).sum ≤ 8) (kk : G K (EX h) nL T u (pc + 3) lv (.int (fX4_reads a1 a2 u) :: rest)) : G K (EX h) nL T u pc lv (.int a2 :: .int a1 :: .ref (xO h) :: rest) := g_callV (n := 2) pc hC (As := [.int a1, .int a2]) (rest := rest) (cX4_reads_ _ (Cx.ok hC) a1 a2 u) hT rfl rfl rfl (by decide +kernel) hR 0 2 rfl rfl rfl rfl rfl hcat hdg kk

def fX4_digest (u : ST) : Int32 :=
  (((31 : Int32) * (dg u 1024)) + (gPc u))
theorem fiX4_digest_wsX40 : ∀ w ∈ wsX40, w ∈ wsX4_digest := fun w h => List.mem_cons_of_mem _ (List.mem_append_left _ (List.mem_append_right _ h))
theorem fmX4_digest_16 : Cond.fieldLink RX4 16 "FlagCore" "bytes" "LFlagCore$Bytes;" ∈ wsX4_digest := List.mem_of_getElem? (i := 1) rfl
theorem fmX4_digest_32 : Cond.fieldLink RX4 32 "FlagCore" "pc" "I" ∈ wsX4_digest := List.mem_of_getElem? (i := 2) rfl
abbrev rmX4_digest : Room := { frames := 1, cells := 0, slots := 0, locals := 21 }
theorem getI {u : ST} {k : Nat} (h : k < 1024) : fX0_get (nI k) u = gD u k := by
  unfold fX0_get rD
  have e : nI k &&& 1023 = nI k := by
    apply Int32.toBitVec_inj.mp
    apply BitVec.eq_of_toNat_eq
    rw [Int32.toBitVec_and, BitVec.toNat_and]
    have e1 : (nI k).toBitVec.toNat = k := by
      show (BitVec.ofNat 32 k).toNat = k
      rw [BitVec.toNat_ofNat, Nat.mod_eq_of_lt (by omega)]
    rw [e1]
    show k &&& (2 ^ 10 - 1) = k
    rw [Nat.and_two_pow_sub_one_eq_mod, Nat.mod_eq_of_lt (by omega)]
  rw [e, nI_clamp (by omega)]
theorem X4_digestLoop {K : KT} {h : HX} {T : ST × Option Value} {u : ST} {rm : Room} (hC : Cx K (EX h) cX4_digest 3 yX4_digest.cls wsX4_digest rm (some .int)) (hR : rmX0_get.frames + 1 ≤ rm.frames ∧ 8 + (2 + 11) + rmX0_get.locals ≤ rm.locals) : ∀ (n k : Nat), k + n = 1024 → G K (EX h) 3 T u 32 [(2, .int (nI 1024)), (1, .int (dg u 1024)), (0, .ref (xO h))] [] → G K (EX h) 3 T u 5 [(2, .int (nI k)), (1, .int (dg u k)), (0, .ref (xO h))] [] := by
  intro n
  induction n with
  | zero =>
    intro k hk kk
    obtain rfl : k = 1024 := by omega
    refine g_iload_n 5 hC dX4_digest_5 0 rfl ?_
    refine g_sipush 6 hC (1023 : Int32) dX4_digest_6 (by decide) ?_
    refine g_icmp_gt 9 hC 32 dX4_digest_9 (by decide) (fun _ => kk) (fun h2 => absurd (show nI 1023 < nI 1024 from nI_lt (by decide) (by decide)) h2)
  | succ n ih =>
    intro k hk kk
    refine g_iload_n 5 hC dX4_digest_5 0 rfl ?_
    refine g_sipush 6 hC (1023 : Int32) dX4_digest_6 (by decide) ?_
    refine g_icmp_gt 9 hC 32 dX4_digest_9 (by decide) (fun h2 => absurd h2 (show ¬ nI 1023 < nI k from nI_nlt (by omega) (by decide))) (fun _ => ?_)
    refine g_bipush 12 hC (31 : Int32) dX4_digest_12 (by decide) ?_
    refine g_iload_n 14 hC dX4_digest_14 1 rfl ?_
    refine g_imul 15 hC dX4_digest_15 ?_
    refine g_aload_n 16 hC dX4_digest_16 2 rfl ?_
    refine x_get_bytes 17 hC fiX4_digest_wsX40 fmX4_digest_16 dX4_digest_17 ?_
    refine g_iload_n 20 hC dX4_digest_20 0 rfl ?_
    refine kX0_get 21 hC gX4_digest_X0_get hR dX4_digest_21 (Nat.le_of_ble_eq_true rfl) ?_
    refine g_iadd 24 hC dX4_digest_24 ?_
    rw [show (31 : Int32) * dg u k + fX0_get (nI k) u = dg u (k + 1) by rw [getI (by omega)]; rfl]
    refine g_istore_n 25 hC dX4_digest_25 (by decide) [(1, .int (dg u (k + 1))), (2, .int (nI k)), (0, .ref (xO h))] rfl ?_
    refine g_iinc 26 hC (nI (k + 1)) dX4_digest_26 (by decide) 1 rfl (nI_1 k) [(2, .int (nI (k + 1))), (1, .int (dg u (k + 1))), (0, .ref (xO h))] rfl ?_
    refine g_goto 29 hC 5 dX4_digest_29 (by decide) ?_
    exact ih (k + 1) (by omega) kk

set_option maxRecDepth 20000 in
theorem cX4_digest_ (h : HX) (hE : okE (EX h)) (u : ST) : MX (EX h) yX4_digest wsX4_digest rmX4_digest [.ref (xO h)] u (tR u (fX4_digest u)) := by
  refine MX.of (cc := cX4_digest) (maxL := 3) (ret := (some .int)) (lv := [(0, .ref (xO h))]) hE (by decide) rfl (fun _ => rfl) (Nat.le_of_ble_eq_true rfl) rfl (fun K hC => ?_)
  unfold fX4_digest
  refine g_bipush 0 hC (7 : Int32) dX4_digest_0 (by decide) ?_
  refine g_istore_n 2 hC dX4_digest_2 (by decide) [(1, .int ((7 : Int32))), (0, .ref (xO h))] rfl ?_
  refine g_iconst 3 hC (0 : Int32) dX4_digest_3 (by decide) ?_
  refine g_istore_n 4 hC dX4_digest_4 (by decide) [(2, .int ((0 : Int32))), (1, .int ((7 : Int32))), (0, .ref (xO h))] rfl ?_
  refine X4_digestLoop hC ⟨Nat.le_of_ble_eq_true rfl, Nat.le_of_ble_eq_true rfl⟩ 1024 0 rfl ?_
  refine g_bipush 32 hC (31 : Int32) dX4_digest_32 (by decide) ?_
  refine g_iload_n 34 hC dX4_digest_34 1 rfl ?_
  refine g_imul 35 hC dX4_digest_35 ?_
  refine g_aload_n 36 hC dX4_digest_36 2 rfl ?_
  refine x_get_pc 37 hC fiX4_digest_wsX40 fmX4_digest_32 dX4_digest_37 ?_
  refine g_iadd 40 hC dX4_digest_40 ?_
  exact g_iretR 41 hC dX4_digest_41
theorem kX4_digest {K : KT} {h : HX} {cc : ByteArray} {nL : Nat} {own : String} {Ts : List Cond} {rm : Room} {ret : Option FieldType} {T : ST × Option Value} {u : ST} {lv : List (Nat × Value)} {rest : List Value} {idx : Nat} (pc : Nat) (hC : Cx K (EX h) cc nL own Ts rm ret) (hT : GoodIn Ts (wsV own idx RX4 yX4_digest wsX4_digest)) (hR : rmX4_digest.frames + 1 ≤ rm.frames ∧ 8 + (3 + 11) + rmX4_digest.locals ≤ rm.locals) (hdg : decode cc pc = .ok (.invokevirtual idx, 3)) (hcat : (rest.map fun v => v.category).sum ≤ 8) (kk : G K (EX h) nL T u (pc + 3) lv (.int (fX4_digest u) :: rest)) : G K (EX h) nL T u pc lv (.ref (xO h) :: rest) := g_callV (n := 0) pc hC (As := []) (rest := rest) (cX4_digest_ _ (Cx.ok hC) u) hT rfl rfl rfl (by decide +kernel) hR 0 2 rfl rfl rfl rfl rfl hcat hdg kk

def fX4_count (a1 : Int32) (u : ST) : Int32 :=
  (if a1 < 0 then (-1 : Int32) else (if (7 : Int32) ≤ a1 then (-1 : Int32) else (rN u a1)))
def okX4_count (a1 : Int32) (u : ST) : Prop := ((¬ a1 < 0) → (¬ (7 : Int32) ≤ a1) → vp_in a1 7) ∧ True
theorem fiX4_count_wsX40 : ∀ w ∈ wsX40, w ∈ wsX4_count := fun w h => List.mem_cons_of_mem _ (List.mem_append_right _ h)
theorem fmX4_count_29 : Cond.fieldLink RX4 29 "FlagCore" "tallies" "[I" ∈ wsX4_count := List.mem_of_getElem? (i := 1) rfl
abbrev rmX4_count : Room := { frames := 0, cells := 0, slots := 0, locals := 0 }
set_option maxRecDepth 20000 in
theorem cX4_count_ (h : HX) (hE : okE (EX h)) (a1 : Int32) (u : ST) (hok : okX4_count a1 u) : MX (EX h) yX4_count wsX4_count rmX4_count [.ref (xO h), .int a1] u (tR u (fX4_count a1 u)) := by
  obtain ⟨k0, -⟩ := hok
  refine MX.of (cc := cX4_count) (maxL := 2) (ret := (some .int)) (lv := [(0, .ref (xO h)), (1, .int a1)]) hE (by decide) rfl (fun _ => rfl) (Nat.le_of_ble_eq_true rfl) rfl (fun K hC => ?_)
  unfold fX4_count
  refine g_iload_n 0 hC dX4_count_0 1 rfl ?_
  refine g_cut 20 (if a1 < 0 then (-1 : Int32) else (if (7 : Int32) ≤ a1 then (-1 : Int32) else (rN u a1))) [] ?_ (fun J3 => ?_)
  · skip
    exact g_iretR 20 hC dX4_count_20
  · skip
    refine g_if_lt 1 hC 19 dX4_count_1 (by decide) (fun h1 => ?_) (fun h1 => ?_)
    · skip
      refine g_iconst 19 hC (-1 : Int32) dX4_count_19 (by decide) ?_
      exact J3 _ (Eq.symm (if_pos h1))
    · skip
      refine g_iload_n 4 hC dX4_count_4 1 rfl ?_
      refine g_bipush 5 hC (7 : Int32) dX4_count_5 (by decide) ?_
      refine g_icmp_ge 7 hC 19 dX4_count_7 (by decide) (fun h2 => ?_) (fun h2 => ?_)
      · skip
        refine g_iconst 19 hC (-1 : Int32) dX4_count_19 (by decide) ?_
        exact J3 _ (Eq.symm (Eq.trans (if_neg h1) (if_pos h2)))
      · skip
        refine g_aload_n 10 hC dX4_count_10 0 rfl ?_
        refine x_get_tallies 11 hC fiX4_count_wsX40 fmX4_count_29 dX4_count_11 ?_
        refine g_iload_n 14 hC dX4_count_14 1 rfl ?_
        refine x_ldN 15 hC (k0 h1 h2) dX4_count_15 ?_
        refine g_goto 16 hC 20 dX4_count_16 (by decide) ?_
        exact J3 _ (Eq.symm (Eq.trans (if_neg h1) (if_neg h2)))
theorem kX4_count {K : KT} {h : HX} {cc : ByteArray} {nL : Nat} {own : String} {Ts : List Cond} {rm : Room} {ret : Option FieldType} {T : ST × Option Value} {u : ST} {lv : List (Nat × Value)} {rest : List Value} {idx : Nat} {a1 : Int32} (pc : Nat) (hC : Cx K (EX h) cc nL own Ts rm ret) (hok : okX4_count a1 u) (hT : GoodIn Ts (wsV own idx RX4 yX4_count wsX4_count)) (hR : rmX4_count.frames + 1 ≤ rm.frames ∧ 8 + (2 + 11) + rmX4_count.locals ≤ rm.locals) (hdg : decode cc pc = .ok (.invokevirtual idx, 3)) (hcat : (rest.map fun v => v.category).sum ≤ 8) (kk : G K (EX h) nL T u (pc + 3) lv (.int (fX4_count a1 u) :: rest)) : G K (EX h) nL T u pc lv (.int a1 :: .ref (xO h) :: rest) := g_callV (n := 1) pc hC (As := [.int a1]) (rest := rest) (cX4_count_ _ (Cx.ok hC) a1 u hok) hT rfl rfl rfl (by decide +kernel) hR 0 2 rfl rfl rfl rfl rfl hcat hdg kk

