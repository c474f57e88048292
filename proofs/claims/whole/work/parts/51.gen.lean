def fX4_change (a1 : Int32) (u : ST) : ST × Int32 :=
  if (a1 &&& (15 : Int32)) = (0 : Int32) then
    (fX4_onward (1 : Int32) (fX0_set (fX3_d a1) (fX2_inverse (fX0_get (fX3_d a1) u) u).2 ((fX2_inverse (fX0_get (fX3_d a1) u) u).1)))
  else
    if (a1 &&& (15 : Int32)) = (1 : Int32) then
      (fX4_onward (1 : Int32) (fX0_set (fX3_d a1) (fX2_difference (0 : Int32) (fX0_get (fX3_d a1) u) u).2 ((fX2_difference (0 : Int32) (fX0_get (fX3_d a1) u) u).1)))
    else
      if (a1 &&& (15 : Int32)) = (2 : Int32) then
        (fX4_onward (1 : Int32) (fX0_set (fX3_d a1) ((jshl (fX0_get (fX3_d a1) u) (4 : Int32)) ||| (jshr (fX0_get (fX3_d a1) u) (4 : Int32))) u))
      else
        if (a1 &&& (15 : Int32)) = (3 : Int32) then
          (fX4_onward (1 : Int32) (fX0_set (fX3_d a1) (fX2_more (fX0_get (fX3_d a1) u) u).2 ((fX2_more (fX0_get (fX3_d a1) u) u).1)))
        else
          if (a1 &&& (15 : Int32)) = (4 : Int32) then
            (fX4_onward (1 : Int32) (fX0_set (fX3_d a1) (fX2_less (fX0_get (fX3_d a1) u) u).2 ((fX2_less (fX0_get (fX3_d a1) u) u).1)))
          else
            if (a1 &&& (15 : Int32)) = (5 : Int32) then
              (fX4_onward (1 : Int32) (fX0_set (fX3_d a1) (fX2_right (fX0_get (fX3_d a1) u) (jshr (fX0_get (fX3_d a1) u) (7 : Int32)) u).2 ((fX2_right (fX0_get (fX3_d a1) u) (jshr (fX0_get (fX3_d a1) u) (7 : Int32)) u).1)))
            else
              if (a1 &&& (15 : Int32)) = (6 : Int32) then
                (fX4_onward (1 : Int32) (fX0_set (fX3_d a1) (fX2_right (fX0_get (fX3_d a1) u) (0 : Int32) u).2 ((fX2_right (fX0_get (fX3_d a1) u) (0 : Int32) u).1)))
              else
                if (a1 &&& (15 : Int32)) = (7 : Int32) then
                  (fX4_onward (1 : Int32) (fX0_set (fX3_d a1) (fX2_right (fX0_get (fX3_d a1) u) (fX0_flag (0 : Int32) u) u).2 ((fX2_right (fX0_get (fX3_d a1) u) (fX0_flag (0 : Int32) u) u).1)))
                else
                  (fX4_onward (1 : Int32) (fX0_set (fX3_d a1) (fX2_less (fX0_get (fX3_d a1) u) u).2 ((fX2_less (fX0_get (fX3_d a1) u) u).1)))
theorem fiX4_change_wsX40 : ∀ w ∈ wsX40, w ∈ wsX4_change := fun w h => List.mem_cons_of_mem _ (List.mem_append_left _ (List.mem_append_left _ (List.mem_append_right _ h)))
theorem fmX4_change_16 : Cond.fieldLink RX4 16 "FlagCore" "bytes" "LFlagCore$Bytes;" ∈ wsX4_change := List.mem_of_getElem? (i := 1) rfl
theorem fmX4_change_25 : Cond.fieldLink RX4 25 "FlagCore" "sums" "LFlagCore$Sums;" ∈ wsX4_change := List.mem_of_getElem? (i := 2) rfl
abbrev rmX4_change : Room := { frames := 3, cells := 0, slots := 0, locals := 73 }
set_option maxRecDepth 20000 in
theorem cX4_change_ (h : HX) (hE : okE (EX h)) (a1 : Int32) (u : ST) : MX (EX h) yX4_change wsX4_change rmX4_change [.ref (xO h), .int a1] u (tW (fX4_change a1 u)) := by
  refine MX.of (cc := cX4_change) (maxL := 4) (ret := (some .int)) (lv := [(0, .ref (xO h)), (1, .int a1)]) hE (by decide) rfl (fun _ => rfl) (Nat.le_of_ble_eq_true rfl) rfl (fun K hC => ?_)
  unfold fX4_change
  refine g_iload_n 0 hC dX4_change_0 1 rfl ?_
  refine kX3_d 1 hC gX4_change_X3_d ⟨Nat.le_of_ble_eq_true rfl, Nat.le_of_ble_eq_true rfl⟩ dX4_change_1 (Nat.le_of_ble_eq_true rfl) ?_
  refine g_istore_n 4 hC dX4_change_4 (by decide) [(2, .int ((fX3_d a1))), (0, .ref (xO h)), (1, .int a1)] rfl ?_
  refine g_aload_n 5 hC dX4_change_5 1 rfl ?_
  refine x_get_bytes 6 hC fiX4_change_wsX40 fmX4_change_16 dX4_change_6 ?_
  refine g_iload_n 9 hC dX4_change_9 0 rfl ?_
  refine kX0_get 10 hC gX4_change_X0_get ⟨Nat.le_of_ble_eq_true rfl, Nat.le_of_ble_eq_true rfl⟩ dX4_change_10 (Nat.le_of_ble_eq_true rfl) ?_
  refine g_istore_n 13 hC dX4_change_13 (by decide) [(3, .int ((fX0_get (fX3_d a1) u))), (2, .int ((fX3_d a1))), (0, .ref (xO h)), (1, .int a1)] rfl ?_
  refine g_iload_n 14 hC dX4_change_14 3 rfl ?_
  refine g_bipush 15 hC (15 : Int32) dX4_change_15 (by decide) ?_
  refine g_iand 17 hC dX4_change_17 ?_
  refine g_byT (tW) (fun h1 => ?_) (fun h1 => ?_)
  · refine g_tsIn 18 hC (0 : Int32) (46) 64 h1 dX4_change_18 (by decide) (by decide) (by decide) (by decide) ?_
    refine g_aload_n 64 hC dX4_change_64 2 rfl ?_
    refine x_get_bytes 65 hC fiX4_change_wsX40 fmX4_change_16 dX4_change_65 ?_
    refine g_iload_n 68 hC dX4_change_68 1 rfl ?_
    refine g_aload_n 69 hC dX4_change_69 2 rfl ?_
    refine x_get_sums 70 hC fiX4_change_wsX40 fmX4_change_25 dX4_change_70 ?_
    refine g_iload_n 73 hC dX4_change_73 0 rfl ?_
    refine kX2_inverse 74 hC gX4_change_X2_inverse ⟨Nat.le_of_ble_eq_true rfl, Nat.le_of_ble_eq_true rfl⟩ dX4_change_74 (Nat.le_of_ble_eq_true rfl) ?_
    refine kX0_set 77 hC gX4_change_X0_set ⟨Nat.le_of_ble_eq_true rfl, Nat.le_of_ble_eq_true rfl⟩ dX4_change_77 (Nat.le_of_ble_eq_true rfl) ?_
    refine g_goto 80 hC 226 dX4_change_80 (by decide) ?_
    refine g_aload_n 226 hC dX4_change_226 2 rfl ?_
    refine g_iconst 227 hC (1 : Int32) dX4_change_227 (by decide) ?_
    refine kX4_onward 228 hC gX4_change_X4_onward ⟨Nat.le_of_ble_eq_true rfl, Nat.le_of_ble_eq_true rfl⟩ dX4_change_228 (Nat.le_of_ble_eq_true rfl) ?_
    exact g_iret 231 hC dX4_change_231
  · skip
    refine g_byT (tW) (fun h2 => ?_) (fun h2 => ?_)
    · refine g_tsIn 18 hC (1 : Int32) (65) 83 h2 dX4_change_18 (by decide) (by decide) (by decide) (by decide) ?_
      refine g_aload_n 83 hC dX4_change_83 2 rfl ?_
      refine x_get_bytes 84 hC fiX4_change_wsX40 fmX4_change_16 dX4_change_84 ?_
      refine g_iload_n 87 hC dX4_change_87 1 rfl ?_
      refine g_aload_n 88 hC dX4_change_88 2 rfl ?_
      refine x_get_sums 89 hC fiX4_change_wsX40 fmX4_change_25 dX4_change_89 ?_
      refine g_iconst 92 hC (0 : Int32) dX4_change_92 (by decide) ?_
      refine g_iload_n 93 hC dX4_change_93 0 rfl ?_
      refine kX2_difference 94 hC gX4_change_X2_difference ⟨Nat.le_of_ble_eq_true rfl, Nat.le_of_ble_eq_true rfl⟩ dX4_change_94 (Nat.le_of_ble_eq_true rfl) ?_
      refine kX0_set 97 hC gX4_change_X0_set ⟨Nat.le_of_ble_eq_true rfl, Nat.le_of_ble_eq_true rfl⟩ dX4_change_97 (Nat.le_of_ble_eq_true rfl) ?_
      refine g_goto 100 hC 226 dX4_change_100 (by decide) ?_
      refine g_aload_n 226 hC dX4_change_226 2 rfl ?_
      refine g_iconst 227 hC (1 : Int32) dX4_change_227 (by decide) ?_
      refine kX4_onward 228 hC gX4_change_X4_onward ⟨Nat.le_of_ble_eq_true rfl, Nat.le_of_ble_eq_true rfl⟩ dX4_change_228 (Nat.le_of_ble_eq_true rfl) ?_
      exact g_iret 231 hC dX4_change_231
    · skip
      refine g_byT (tW) (fun h3 => ?_) (fun h3 => ?_)
      · refine g_tsIn 18 hC (2 : Int32) (85) 103 h3 dX4_change_18 (by decide) (by decide) (by decide) (by decide) ?_
        refine g_aload_n 103 hC dX4_change_103 2 rfl ?_
        refine x_get_bytes 104 hC fiX4_change_wsX40 fmX4_change_16 dX4_change_104 ?_
        refine g_iload_n 107 hC dX4_change_107 1 rfl ?_
        refine g_iload_n 108 hC dX4_change_108 0 rfl ?_
        refine g_iconst 109 hC (4 : Int32) dX4_change_109 (by decide) ?_
        refine g_ishl 110 hC dX4_change_110 ?_
        refine g_iload_n 111 hC dX4_change_111 0 rfl ?_
        refine g_iconst 112 hC (4 : Int32) dX4_change_112 (by decide) ?_
        refine g_ishr 113 hC dX4_change_113 ?_
        refine g_ior 114 hC dX4_change_114 ?_
        refine kX0_set 115 hC gX4_change_X0_set ⟨Nat.le_of_ble_eq_true rfl, Nat.le_of_ble_eq_true rfl⟩ dX4_change_115 (Nat.le_of_ble_eq_true rfl) ?_
        refine g_goto 118 hC 226 dX4_change_118 (by decide) ?_
        refine g_aload_n 226 hC dX4_change_226 2 rfl ?_
        refine g_iconst 227 hC (1 : Int32) dX4_change_227 (by decide) ?_
        refine kX4_onward 228 hC gX4_change_X4_onward ⟨Nat.le_of_ble_eq_true rfl, Nat.le_of_ble_eq_true rfl⟩ dX4_change_228 (Nat.le_of_ble_eq_true rfl) ?_
        exact g_iret 231 hC dX4_change_231
      · skip
        refine g_byT (tW) (fun h4 => ?_) (fun h4 => ?_)
        · refine g_tsIn 18 hC (3 : Int32) (103) 121 h4 dX4_change_18 (by decide) (by decide) (by decide) (by decide) ?_
          refine g_aload_n 121 hC dX4_change_121 2 rfl ?_
          refine x_get_bytes 122 hC fiX4_change_wsX40 fmX4_change_16 dX4_change_122 ?_
          refine g_iload_n 125 hC dX4_change_125 1 rfl ?_
          refine g_aload_n 126 hC dX4_change_126 2 rfl ?_
          refine x_get_sums 127 hC fiX4_change_wsX40 fmX4_change_25 dX4_change_127 ?_
          refine g_iload_n 130 hC dX4_change_130 0 rfl ?_
          refine kX2_more 131 hC gX4_change_X2_more ⟨Nat.le_of_ble_eq_true rfl, Nat.le_of_ble_eq_true rfl⟩ dX4_change_131 (Nat.le_of_ble_eq_true rfl) ?_
          refine kX0_set 134 hC gX4_change_X0_set ⟨Nat.le_of_ble_eq_true rfl, Nat.le_of_ble_eq_true rfl⟩ dX4_change_134 (Nat.le_of_ble_eq_true rfl) ?_
          refine g_goto 137 hC 226 dX4_change_137 (by decide) ?_
          refine g_aload_n 226 hC dX4_change_226 2 rfl ?_
          refine g_iconst 227 hC (1 : Int32) dX4_change_227 (by decide) ?_
          refine kX4_onward 228 hC gX4_change_X4_onward ⟨Nat.le_of_ble_eq_true rfl, Nat.le_of_ble_eq_true rfl⟩ dX4_change_228 (Nat.le_of_ble_eq_true rfl) ?_
          exact g_iret 231 hC dX4_change_231
        · skip
          refine g_byT (tW) (fun h5 => ?_) (fun h5 => ?_)
          · refine g_tsIn 18 hC (4 : Int32) (192) 210 h5 dX4_change_18 (by decide) (by decide) (by decide) (by decide) ?_
            refine g_aload_n 210 hC dX4_change_210 2 rfl ?_
            refine x_get_bytes 211 hC fiX4_change_wsX40 fmX4_change_16 dX4_change_211 ?_
            refine g_iload_n 214 hC dX4_change_214 1 rfl ?_
            refine g_aload_n 215 hC dX4_change_215 2 rfl ?_
            refine x_get_sums 216 hC fiX4_change_wsX40 fmX4_change_25 dX4_change_216 ?_
            refine g_iload_n 219 hC dX4_change_219 0 rfl ?_
            refine kX2_less 220 hC gX4_change_X2_less ⟨Nat.le_of_ble_eq_true rfl, Nat.le_of_ble_eq_true rfl⟩ dX4_change_220 (Nat.le_of_ble_eq_true rfl) ?_
            refine kX0_set 223 hC gX4_change_X0_set ⟨Nat.le_of_ble_eq_true rfl, Nat.le_of_ble_eq_true rfl⟩ dX4_change_223 (Nat.le_of_ble_eq_true rfl) ?_
            refine g_aload_n 226 hC dX4_change_226 2 rfl ?_
            refine g_iconst 227 hC (1 : Int32) dX4_change_227 (by decide) ?_
            refine kX4_onward 228 hC gX4_change_X4_onward ⟨Nat.le_of_ble_eq_true rfl, Nat.le_of_ble_eq_true rfl⟩ dX4_change_228 (Nat.le_of_ble_eq_true rfl) ?_
            exact g_iret 231 hC dX4_change_231
          · skip
            refine g_byT (tW) (fun h6 => ?_) (fun h6 => ?_)
            · refine g_tsIn 18 hC (5 : Int32) (122) 140 h6 dX4_change_18 (by decide) (by decide) (by decide) (by decide) ?_
              refine g_aload_n 140 hC dX4_change_140 2 rfl ?_
              refine x_get_bytes 141 hC fiX4_change_wsX40 fmX4_change_16 dX4_change_141 ?_
              refine g_iload_n 144 hC dX4_change_144 1 rfl ?_
              refine g_aload_n 145 hC dX4_change_145 2 rfl ?_
              refine x_get_sums 146 hC fiX4_change_wsX40 fmX4_change_25 dX4_change_146 ?_
              refine g_iload_n 149 hC dX4_change_149 0 rfl ?_
              refine g_iload_n 150 hC dX4_change_150 0 rfl ?_
              refine g_bipush 151 hC (7 : Int32) dX4_change_151 (by decide) ?_
              refine g_ishr 153 hC dX4_change_153 ?_
              refine kX2_right 154 hC gX4_change_X2_right ⟨Nat.le_of_ble_eq_true rfl, Nat.le_of_ble_eq_true rfl⟩ dX4_change_154 (Nat.le_of_ble_eq_true rfl) ?_
              refine kX0_set 157 hC gX4_change_X0_set ⟨Nat.le_of_ble_eq_true rfl, Nat.le_of_ble_eq_true rfl⟩ dX4_change_157 (Nat.le_of_ble_eq_true rfl) ?_
              refine g_goto 160 hC 226 dX4_change_160 (by decide) ?_
              refine g_aload_n 226 hC dX4_change_226 2 rfl ?_
              refine g_iconst 227 hC (1 : Int32) dX4_change_227 (by decide) ?_
              refine kX4_onward 228 hC gX4_change_X4_onward ⟨Nat.le_of_ble_eq_true rfl, Nat.le_of_ble_eq_true rfl⟩ dX4_change_228 (Nat.le_of_ble_eq_true rfl) ?_
              exact g_iret 231 hC dX4_change_231
            · skip
              refine g_byT (tW) (fun h7 => ?_) (fun h7 => ?_)
              · refine g_tsIn 18 hC (6 : Int32) (145) 163 h7 dX4_change_18 (by decide) (by decide) (by decide) (by decide) ?_
                refine g_aload_n 163 hC dX4_change_163 2 rfl ?_
                refine x_get_bytes 164 hC fiX4_change_wsX40 fmX4_change_16 dX4_change_164 ?_
                refine g_iload_n 167 hC dX4_change_167 1 rfl ?_
                refine g_aload_n 168 hC dX4_change_168 2 rfl ?_
                refine x_get_sums 169 hC fiX4_change_wsX40 fmX4_change_25 dX4_change_169 ?_
                refine g_iload_n 172 hC dX4_change_172 0 rfl ?_
                refine g_iconst 173 hC (0 : Int32) dX4_change_173 (by decide) ?_
                refine kX2_right 174 hC gX4_change_X2_right ⟨Nat.le_of_ble_eq_true rfl, Nat.le_of_ble_eq_true rfl⟩ dX4_change_174 (Nat.le_of_ble_eq_true rfl) ?_
                refine kX0_set 177 hC gX4_change_X0_set ⟨Nat.le_of_ble_eq_true rfl, Nat.le_of_ble_eq_true rfl⟩ dX4_change_177 (Nat.le_of_ble_eq_true rfl) ?_
                refine g_goto 180 hC 226 dX4_change_180 (by decide) ?_
                refine g_aload_n 226 hC dX4_change_226 2 rfl ?_
                refine g_iconst 227 hC (1 : Int32) dX4_change_227 (by decide) ?_
                refine kX4_onward 228 hC gX4_change_X4_onward ⟨Nat.le_of_ble_eq_true rfl, Nat.le_of_ble_eq_true rfl⟩ dX4_change_228 (Nat.le_of_ble_eq_true rfl) ?_
                exact g_iret 231 hC dX4_change_231
              · skip
                refine g_byT (tW) (fun h8 => ?_) (fun h8 => ?_)
                · refine g_tsIn 18 hC (7 : Int32) (165) 183 h8 dX4_change_18 (by decide) (by decide) (by decide) (by decide) ?_
                  refine g_aload_n 183 hC dX4_change_183 2 rfl ?_
                  refine x_get_bytes 184 hC fiX4_change_wsX40 fmX4_change_16 dX4_change_184 ?_
                  refine g_iload_n 187 hC dX4_change_187 1 rfl ?_
                  refine g_aload_n 188 hC dX4_change_188 2 rfl ?_
                  refine x_get_sums 189 hC fiX4_change_wsX40 fmX4_change_25 dX4_change_189 ?_
                  refine g_iload_n 192 hC dX4_change_192 0 rfl ?_
                  refine g_aload_n 193 hC dX4_change_193 2 rfl ?_
                  refine x_get_bytes 194 hC fiX4_change_wsX40 fmX4_change_16 dX4_change_194 ?_
                  refine g_iconst 197 hC (0 : Int32) dX4_change_197 (by decide) ?_
                  refine kX0_flag 198 hC gX4_change_X0_flag ⟨Nat.le_of_ble_eq_true rfl, Nat.le_of_ble_eq_true rfl⟩ dX4_change_198 (Nat.le_of_ble_eq_true rfl) ?_
                  refine kX2_right 201 hC gX4_change_X2_right ⟨Nat.le_of_ble_eq_true rfl, Nat.le_of_ble_eq_true rfl⟩ dX4_change_201 (Nat.le_of_ble_eq_true rfl) ?_
                  refine kX0_set 204 hC gX4_change_X0_set ⟨Nat.le_of_ble_eq_true rfl, Nat.le_of_ble_eq_true rfl⟩ dX4_change_204 (Nat.le_of_ble_eq_true rfl) ?_
                  refine g_goto 207 hC 226 dX4_change_207 (by decide) ?_
                  refine g_aload_n 226 hC dX4_change_226 2 rfl ?_
                  refine g_iconst 227 hC (1 : Int32) dX4_change_227 (by decide) ?_
                  refine kX4_onward 228 hC gX4_change_X4_onward ⟨Nat.le_of_ble_eq_true rfl, Nat.le_of_ble_eq_true rfl⟩ dX4_change_228 (Nat.le_of_ble_eq_true rfl) ?_
                  exact g_iret 231 hC dX4_change_231
                · skip
                  refine g_tsOut 18 hC 210 dX4_change_18 (by have n0 := lv_neT h1 (a := 0) (by decide); have n1 := lv_neT h2 (a := 1) (by decide); have n2 := lv_neT h3 (a := 2) (by decide); have n3 := lv_neT h4 (a := 3) (by decide); have n4 := lv_neT h5 (a := 4) (by decide); have n5 := lv_neT h6 (a := 5) (by decide); have n6 := lv_neT h7 (a := 6) (by decide); have n7 := lv_neT h8 (a := 7) (by decide); omega) (by decide) ?_
                  refine g_aload_n 210 hC dX4_change_210 2 rfl ?_
                  refine x_get_bytes 211 hC fiX4_change_wsX40 fmX4_change_16 dX4_change_211 ?_
                  refine g_iload_n 214 hC dX4_change_214 1 rfl ?_
                  refine g_aload_n 215 hC dX4_change_215 2 rfl ?_
                  refine x_get_sums 216 hC fiX4_change_wsX40 fmX4_change_25 dX4_change_216 ?_
                  refine g_iload_n 219 hC dX4_change_219 0 rfl ?_
                  refine kX2_less 220 hC gX4_change_X2_less ⟨Nat.le_of_ble_eq_true rfl, Nat.le_of_ble_eq_true rfl⟩ dX4_change_220 (Nat.le_of_ble_eq_true rfl) ?_
                  refine kX0_set 223 hC gX4_change_X0_set ⟨Nat.le_of_ble_eq_true rfl, Nat.le_of_ble_eq_true rfl⟩ dX4_change_223 (Nat.le_of_ble_eq_true rfl) ?_
                  refine g_aload_n 226 hC dX4_change_226 2 rfl ?_
                  refine g_iconst 227 hC (1 : Int32) dX4_change_227 (by decide) ?_
                  refine kX4_onward 228 hC gX4_change_X4_onward ⟨Nat.le_of_ble_eq_true rfl, Nat.le_of_ble_eq_true rfl⟩ dX4_change_228 (Nat.le_of_ble_eq_true rfl) ?_
                  exact g_iret 231 hC dX4_change_231
theorem kX4_change {K : KT} {h : HX} {cc : ByteArray} {nL : Nat} {own : String} {Ts : List Cond} {rm : Room} {ret : Option FieldType} {T : ST × Option Value} {u : ST} {lv : List (Nat × Value)} {rest : List Value} {idx : Nat} {a1 : Int32} (pc : Nat) (hC : Cx K (EX h) cc nL own Ts rm ret) (hT : GoodIn Ts (wsV own idx RX4 yX4_change wsX4_change)) (hR : rmX4_change.frames + 1 ≤ rm.frames ∧ 8 + (4 + 11) + rmX4_change.locals ≤ rm.locals) (hdg : decode cc pc = .ok (.invokevirtual idx, 3)) (hcat : (rest.map fun v => v.category).sum ≤ 8) (kk : G K (EX h) nL T (fX4_change a1 u).1 (pc + 3) lv (.int (fX4_change a1 u).2 :: rest)) : G K (EX h) nL T u pc lv (.int a1 :: .ref (xO h) :: rest) := g_callV (n := 1) pc hC (As := [.int a1]) (rest := rest) (cX4_change_ _ (Cx.ok hC) a1 u) hT rfl rfl rfl (by decide +kernel) hR 0 2 rfl rfl rfl rfl rfl hcat hdg kk

def fX4_setFlag (a1 : Int32) (u : ST) : ST × Int32 :=
  (fX4_onward (1 : Int32) (fX0_setFlag ((jshr a1 (4 : Int32)) &&& (7 : Int32)) (if (a1 &&& (128 : Int32)) = 0 then (1 : Int32) else (0 : Int32)) u))
theorem fiX4_setFlag_wsX40 : ∀ w ∈ wsX40, w ∈ wsX4_setFlag := fun w h => List.mem_cons_of_mem _ (List.mem_append_left _ (List.mem_append_right _ h))
theorem fmX4_setFlag_16 : Cond.fieldLink RX4 16 "FlagCore" "bytes" "LFlagCore$Bytes;" ∈ wsX4_setFlag := List.mem_of_getElem? (i := 1) rfl
abbrev rmX4_setFlag : Room := { frames := 3, cells := 0, slots := 0, locals := 67 }
set_option maxRecDepth 20000 in
theorem cX4_setFlag_ (h : HX) (hE : okE (EX h)) (a1 : Int32) (u : ST) : MX (EX h) yX4_setFlag wsX4_setFlag rmX4_setFlag [.ref (xO h), .int a1] u (tW (fX4_setFlag a1 u)) := by
  refine MX.of (cc := cX4_setFlag) (maxL := 2) (ret := (some .int)) (lv := [(0, .ref (xO h)), (1, .int a1)]) hE (by decide) rfl (fun _ => rfl) (Nat.le_of_ble_eq_true rfl) rfl (fun K hC => ?_)
  unfold fX4_setFlag
  refine g_aload_n 0 hC dX4_setFlag_0 0 rfl ?_
  refine x_get_bytes 1 hC fiX4_setFlag_wsX40 fmX4_setFlag_16 dX4_setFlag_1 ?_
  refine g_iload_n 4 hC dX4_setFlag_4 1 rfl ?_
  refine g_iconst 5 hC (4 : Int32) dX4_setFlag_5 (by decide) ?_
  refine g_ishr 6 hC dX4_setFlag_6 ?_
  refine g_bipush 7 hC (7 : Int32) dX4_setFlag_7 (by decide) ?_
  refine g_iand 9 hC dX4_setFlag_9 ?_
  refine g_iload_n 10 hC dX4_setFlag_10 1 rfl ?_
  refine g_sipush 11 hC (128 : Int32) dX4_setFlag_11 (by decide) ?_
  refine g_iand 14 hC dX4_setFlag_14 ?_
  refine g_cut 23 (if (a1 &&& (128 : Int32)) = 0 then (1 : Int32) else (0 : Int32)) [.int (((jshr a1 (4 : Int32)) &&& (7 : Int32))), .ref (xB h)] ?_ (fun J2 => ?_)
  · skip
    refine kX0_setFlag 23 hC gX4_setFlag_X0_setFlag ⟨Nat.le_of_ble_eq_true rfl, Nat.le_of_ble_eq_true rfl⟩ dX4_setFlag_23 (Nat.le_of_ble_eq_true rfl) ?_
    refine g_aload_n 26 hC dX4_setFlag_26 0 rfl ?_
    refine g_iconst 27 hC (1 : Int32) dX4_setFlag_27 (by decide) ?_
    refine kX4_onward 28 hC gX4_setFlag_X4_onward ⟨Nat.le_of_ble_eq_true rfl, Nat.le_of_ble_eq_true rfl⟩ dX4_setFlag_28 (Nat.le_of_ble_eq_true rfl) ?_
    exact g_iret 31 hC dX4_setFlag_31
  · skip
    refine g_if_ne 15 hC 22 dX4_setFlag_15 (by decide) (fun h1 => ?_) (fun h1 => ?_)
    · skip
      refine g_iconst 22 hC (0 : Int32) dX4_setFlag_22 (by decide) ?_
      exact J2 _ (Eq.symm (if_neg h1))
    · skip
      refine g_iconst 18 hC (1 : Int32) dX4_setFlag_18 (by decide) ?_
      refine g_goto 19 hC 23 dX4_setFlag_19 (by decide) ?_
      exact J2 _ (Eq.symm (if_pos h1))
theorem kX4_setFlag {K : KT} {h : HX} {cc : ByteArray} {nL : Nat} {own : String} {Ts : List Cond} {rm : Room} {ret : Option FieldType} {T : ST × Option Value} {u : ST} {lv : List (Nat × Value)} {rest : List Value} {idx : Nat} {a1 : Int32} (pc : Nat) (hC : Cx K (EX h) cc nL own Ts rm ret) (hT : GoodIn Ts (wsV own idx RX4 yX4_setFlag wsX4_setFlag)) (hR : rmX4_setFlag.frames + 1 ≤ rm.frames ∧ 8 + (2 + 11) + rmX4_setFlag.locals ≤ rm.locals) (hdg : decode cc pc = .ok (.invokevirtual idx, 3)) (hcat : (rest.map fun v => v.category).sum ≤ 8) (kk : G K (EX h) nL T (fX4_setFlag a1 u).1 (pc + 3) lv (.int (fX4_setFlag a1 u).2 :: rest)) : G K (EX h) nL T u pc lv (.int a1 :: .ref (xO h) :: rest) := g_callV (n := 1) pc hC (As := [.int a1]) (rest := rest) (cX4_setFlag_ _ (Cx.ok hC) a1 u) hT rfl rfl rfl (by decide +kernel) hR 0 2 rfl rfl rfl rfl rfl hcat hdg kk

def fX4_changePair (a1 : Int32) (u : ST) : ST × Int32 :=
  if (a1 &&& (256 : Int32)) = 0 then
    (fX4_onward (1 : Int32) (fX0_setPair ((24 : Int32) + ((jshr a1 (3 : Int32)) &&& (6 : Int32))) (fX2_pairMore (fX0_pair ((24 : Int32) + ((jshr a1 (3 : Int32)) &&& (6 : Int32))) u) (((jshr a1 (2 : Int32)) &&& (48 : Int32)) ||| (a1 &&& (15 : Int32))) u).2 ((fX2_pairMore (fX0_pair ((24 : Int32) + ((jshr a1 (3 : Int32)) &&& (6 : Int32))) u) (((jshr a1 (2 : Int32)) &&& (48 : Int32)) ||| (a1 &&& (15 : Int32))) u).1)))
  else
    (fX4_onward (1 : Int32) (fX0_setPair ((24 : Int32) + ((jshr a1 (3 : Int32)) &&& (6 : Int32))) (fX2_pairLess (fX0_pair ((24 : Int32) + ((jshr a1 (3 : Int32)) &&& (6 : Int32))) u) (((jshr a1 (2 : Int32)) &&& (48 : Int32)) ||| (a1 &&& (15 : Int32))) u).2 ((fX2_pairLess (fX0_pair ((24 : Int32) + ((jshr a1 (3 : Int32)) &&& (6 : Int32))) u) (((jshr a1 (2 : Int32)) &&& (48 : Int32)) ||| (a1 &&& (15 : Int32))) u).1)))
theorem fiX4_changePair_wsX40 : ∀ w ∈ wsX40, w ∈ wsX4_changePair := fun w h => List.mem_cons_of_mem _ (List.mem_append_left _ (List.mem_append_left _ (List.mem_append_right _ h)))
theorem fmX4_changePair_16 : Cond.fieldLink RX4 16 "FlagCore" "bytes" "LFlagCore$Bytes;" ∈ wsX4_changePair := List.mem_of_getElem? (i := 1) rfl
theorem fmX4_changePair_25 : Cond.fieldLink RX4 25 "FlagCore" "sums" "LFlagCore$Sums;" ∈ wsX4_changePair := List.mem_of_getElem? (i := 2) rfl
abbrev rmX4_changePair : Room := { frames := 3, cells := 0, slots := 0, locals := 70 }
set_option maxRecDepth 20000 in
theorem cX4_changePair_ (h : HX) (hE : okE (EX h)) (a1 : Int32) (u : ST) : MX (EX h) yX4_changePair wsX4_changePair rmX4_changePair [.ref (xO h), .int a1] u (tW (fX4_changePair a1 u)) := by
  refine MX.of (cc := cX4_changePair) (maxL := 5) (ret := (some .int)) (lv := [(0, .ref (xO h)), (1, .int a1)]) hE (by decide) rfl (fun _ => rfl) (Nat.le_of_ble_eq_true rfl) rfl (fun K hC => ?_)
  unfold fX4_changePair
  refine g_bipush 0 hC (24 : Int32) dX4_changePair_0 (by decide) ?_
  refine g_iload_n 2 hC dX4_changePair_2 1 rfl ?_
  refine g_iconst 3 hC (3 : Int32) dX4_changePair_3 (by decide) ?_
  refine g_ishr 4 hC dX4_changePair_4 ?_
  refine g_bipush 5 hC (6 : Int32) dX4_changePair_5 (by decide) ?_
  refine g_iand 7 hC dX4_changePair_7 ?_
  refine g_iadd 8 hC dX4_changePair_8 ?_
  refine g_istore_n 9 hC dX4_changePair_9 (by decide) [(2, .int (((24 : Int32) + ((jshr a1 (3 : Int32)) &&& (6 : Int32))))), (0, .ref (xO h)), (1, .int a1)] rfl ?_
  refine g_aload_n 10 hC dX4_changePair_10 1 rfl ?_
  refine x_get_bytes 11 hC fiX4_changePair_wsX40 fmX4_changePair_16 dX4_changePair_11 ?_
  refine g_iload_n 14 hC dX4_changePair_14 0 rfl ?_
  refine kX0_pair 15 hC gX4_changePair_X0_pair ⟨Nat.le_of_ble_eq_true rfl, Nat.le_of_ble_eq_true rfl⟩ dX4_changePair_15 (Nat.le_of_ble_eq_true rfl) ?_
  refine g_istore_n 18 hC dX4_changePair_18 (by decide) [(3, .int ((fX0_pair ((24 : Int32) + ((jshr a1 (3 : Int32)) &&& (6 : Int32))) u))), (2, .int (((24 : Int32) + ((jshr a1 (3 : Int32)) &&& (6 : Int32))))), (0, .ref (xO h)), (1, .int a1)] rfl ?_
  refine g_iload_n 19 hC dX4_changePair_19 3 rfl ?_
  refine g_iconst 20 hC (2 : Int32) dX4_changePair_20 (by decide) ?_
  refine g_ishr 21 hC dX4_changePair_21 ?_
  refine g_bipush 22 hC (48 : Int32) dX4_changePair_22 (by decide) ?_
  refine g_iand 24 hC dX4_changePair_24 ?_
  refine g_iload_n 25 hC dX4_changePair_25 3 rfl ?_
  refine g_bipush 26 hC (15 : Int32) dX4_changePair_26 (by decide) ?_
  refine g_iand 28 hC dX4_changePair_28 ?_
  refine g_ior 29 hC dX4_changePair_29 ?_
  refine g_istore 30 hC dX4_changePair_30 (by decide) [(4, .int ((((jshr a1 (2 : Int32)) &&& (48 : Int32)) ||| (a1 &&& (15 : Int32))))), (3, .int ((fX0_pair ((24 : Int32) + ((jshr a1 (3 : Int32)) &&& (6 : Int32))) u))), (2, .int (((24 : Int32) + ((jshr a1 (3 : Int32)) &&& (6 : Int32))))), (0, .ref (xO h)), (1, .int a1)] rfl ?_
  refine g_aload_n 32 hC dX4_changePair_32 3 rfl ?_
  refine x_get_bytes 33 hC fiX4_changePair_wsX40 fmX4_changePair_16 dX4_changePair_33 ?_
  refine g_iload_n 36 hC dX4_changePair_36 2 rfl ?_
  refine g_iload_n 37 hC dX4_changePair_37 4 rfl ?_
  refine g_sipush 38 hC (256 : Int32) dX4_changePair_38 (by decide) ?_
  refine g_iand 41 hC dX4_changePair_41 ?_
  refine g_if_neT (tW) 42 hC 58 dX4_changePair_42 (by decide) (fun h1 => ?_) (fun h1 => ?_)
  · skip
    refine g_aload_n 58 hC dX4_changePair_58 3 rfl ?_
    refine x_get_sums 59 hC fiX4_changePair_wsX40 fmX4_changePair_25 dX4_changePair_59 ?_
    refine g_iload_n 62 hC dX4_changePair_62 1 rfl ?_
    refine g_iload 63 hC dX4_changePair_63 0 rfl ?_
    refine kX2_pairLess 65 hC gX4_changePair_X2_pairLess ⟨Nat.le_of_ble_eq_true rfl, Nat.le_of_ble_eq_true rfl⟩ dX4_changePair_65 (Nat.le_of_ble_eq_true rfl) ?_
    refine kX0_setPair 68 hC gX4_changePair_X0_setPair ⟨Nat.le_of_ble_eq_true rfl, Nat.le_of_ble_eq_true rfl⟩ dX4_changePair_68 (Nat.le_of_ble_eq_true rfl) ?_
    refine g_aload_n 71 hC dX4_changePair_71 3 rfl ?_
    refine g_iconst 72 hC (1 : Int32) dX4_changePair_72 (by decide) ?_
    refine kX4_onward 73 hC gX4_changePair_X4_onward ⟨Nat.le_of_ble_eq_true rfl, Nat.le_of_ble_eq_true rfl⟩ dX4_changePair_73 (Nat.le_of_ble_eq_true rfl) ?_
    exact g_iret 76 hC dX4_changePair_76
  · skip
    refine g_aload_n 45 hC dX4_changePair_45 3 rfl ?_
    refine x_get_sums 46 hC fiX4_changePair_wsX40 fmX4_changePair_25 dX4_changePair_46 ?_
    refine g_iload_n 49 hC dX4_changePair_49 1 rfl ?_
    refine g_iload 50 hC dX4_changePair_50 0 rfl ?_
    refine kX2_pairMore 52 hC gX4_changePair_X2_pairMore ⟨Nat.le_of_ble_eq_true rfl, Nat.le_of_ble_eq_true rfl⟩ dX4_changePair_52 (Nat.le_of_ble_eq_true rfl) ?_
    refine g_goto 55 hC 68 dX4_changePair_55 (by decide) ?_
    refine kX0_setPair 68 hC gX4_changePair_X0_setPair ⟨Nat.le_of_ble_eq_true rfl, Nat.le_of_ble_eq_true rfl⟩ dX4_changePair_68 (Nat.le_of_ble_eq_true rfl) ?_
    refine g_aload_n 71 hC dX4_changePair_71 3 rfl ?_
    refine g_iconst 72 hC (1 : Int32) dX4_changePair_72 (by decide) ?_
    refine kX4_onward 73 hC gX4_changePair_X4_onward ⟨Nat.le_of_ble_eq_true rfl, Nat.le_of_ble_eq_true rfl⟩ dX4_changePair_73 (Nat.le_of_ble_eq_true rfl) ?_
    exact g_iret 76 hC dX4_changePair_76
theorem kX4_changePair {K : KT} {h : HX} {cc : ByteArray} {nL : Nat} {own : String} {Ts : List Cond} {rm : Room} {ret : Option FieldType} {T : ST × Option Value} {u : ST} {lv : List (Nat × Value)} {rest : List Value} {idx : Nat} {a1 : Int32} (pc : Nat) (hC : Cx K (EX h) cc nL own Ts rm ret) (hT : GoodIn Ts (wsV own idx RX4 yX4_changePair wsX4_changePair)) (hR : rmX4_changePair.frames + 1 ≤ rm.frames ∧ 8 + (5 + 11) + rmX4_changePair.locals ≤ rm.locals) (hdg : decode cc pc = .ok (.invokevirtual idx, 3)) (hcat : (rest.map fun v => v.category).sum ≤ 8) (kk : G K (EX h) nL T (fX4_changePair a1 u).1 (pc + 3) lv (.int (fX4_changePair a1 u).2 :: rest)) : G K (EX h) nL T u pc lv (.int a1 :: .ref (xO h) :: rest) := g_callV (n := 1) pc hC (As := [.int a1]) (rest := rest) (cX4_changePair_ _ (Cx.ok hC) a1 u) hT rfl rfl rfl (by decide +kernel) hR 0 2 rfl rfl rfl rfl rfl hcat hdg kk

def fX4_transfer (a1 : Int32) (a2 : Int32) (u : ST) : ST :=
  (if (a1 &&& (512 : Int32)) = 0 then (fX0_set (fX3_d a1) (fX0_get a2 u) u) else (fX0_set a2 (fX0_get (fX3_d a1) u) u))
theorem fiX4_transfer_wsX40 : ∀ w ∈ wsX40, w ∈ wsX4_transfer := fun w h => List.mem_cons_of_mem _ (List.mem_append_left _ (List.mem_append_right _ h))
theorem fmX4_transfer_16 : Cond.fieldLink RX4 16 "FlagCore" "bytes" "LFlagCore$Bytes;" ∈ wsX4_transfer := List.mem_of_getElem? (i := 1) rfl
abbrev rmX4_transfer : Room := { frames := 1, cells := 0, slots := 0, locals := 22 }
set_option maxRecDepth 20000 in
theorem cX4_transfer_ (h : HX) (hE : okE (EX h)) (a1 : Int32) (a2 : Int32) (u : ST) : MX (EX h) yX4_transfer wsX4_transfer rmX4_transfer [.ref (xO h), .int a1, .int a2] u (tS (fX4_transfer a1 a2 u)) := by
  refine MX.of (cc := cX4_transfer) (maxL := 4) (ret := none) (lv := [(0, .ref (xO h)), (1, .int a1), (2, .int a2)]) hE (by decide) rfl (fun _ => rfl) (Nat.le_of_ble_eq_true rfl) rfl (fun K hC => ?_)
  unfold fX4_transfer
  refine g_iload_n 0 hC dX4_transfer_0 1 rfl ?_
  refine kX3_d 1 hC gX4_transfer_X3_d ⟨Nat.le_of_ble_eq_true rfl, Nat.le_of_ble_eq_true rfl⟩ dX4_transfer_1 (Nat.le_of_ble_eq_true rfl) ?_
  refine g_istore_n 4 hC dX4_transfer_4 (by decide) [(3, .int ((fX3_d a1))), (0, .ref (xO h)), (1, .int a1), (2, .int a2)] rfl ?_
  refine g_iload_n 5 hC dX4_transfer_5 2 rfl ?_
  refine g_sipush 6 hC (512 : Int32) dX4_transfer_6 (by decide) ?_
  refine g_iand 9 hC dX4_transfer_9 ?_
  refine g_cutS 48 (if (a1 &&& (512 : Int32)) = 0 then (fX0_set (fX3_d a1) (fX0_get a2 u) u) else (fX0_set a2 (fX0_get (fX3_d a1) u) u)) [] ?_ (fun J2 => ?_)
  · skip
    exact g_vretS 48 hC dX4_transfer_48
  · skip
    refine g_if_ne 10 hC 32 dX4_transfer_10 (by decide) (fun h1 => ?_) (fun h1 => ?_)
    · skip
      refine g_aload_n 32 hC dX4_transfer_32 1 rfl ?_
      refine x_get_bytes 33 hC fiX4_transfer_wsX40 fmX4_transfer_16 dX4_transfer_33 ?_
      refine g_iload_n 36 hC dX4_transfer_36 3 rfl ?_
      refine g_aload_n 37 hC dX4_transfer_37 1 rfl ?_
      refine x_get_bytes 38 hC fiX4_transfer_wsX40 fmX4_transfer_16 dX4_transfer_38 ?_
      refine g_iload_n 41 hC dX4_transfer_41 0 rfl ?_
      refine kX0_get 42 hC gX4_transfer_X0_get ⟨Nat.le_of_ble_eq_true rfl, Nat.le_of_ble_eq_true rfl⟩ dX4_transfer_42 (Nat.le_of_ble_eq_true rfl) ?_
      refine kX0_set 45 hC gX4_transfer_X0_set ⟨Nat.le_of_ble_eq_true rfl, Nat.le_of_ble_eq_true rfl⟩ dX4_transfer_45 (Nat.le_of_ble_eq_true rfl) ?_
      exact J2 _ (Eq.symm (if_neg h1))
    · skip
      refine g_aload_n 13 hC dX4_transfer_13 1 rfl ?_
      refine x_get_bytes 14 hC fiX4_transfer_wsX40 fmX4_transfer_16 dX4_transfer_14 ?_
      refine g_iload_n 17 hC dX4_transfer_17 0 rfl ?_
      refine g_aload_n 18 hC dX4_transfer_18 1 rfl ?_
      refine x_get_bytes 19 hC fiX4_transfer_wsX40 fmX4_transfer_16 dX4_transfer_19 ?_
      refine g_iload_n 22 hC dX4_transfer_22 3 rfl ?_
      refine kX0_get 23 hC gX4_transfer_X0_get ⟨Nat.le_of_ble_eq_true rfl, Nat.le_of_ble_eq_true rfl⟩ dX4_transfer_23 (Nat.le_of_ble_eq_true rfl) ?_
      refine kX0_set 26 hC gX4_transfer_X0_set ⟨Nat.le_of_ble_eq_true rfl, Nat.le_of_ble_eq_true rfl⟩ dX4_transfer_26 (Nat.le_of_ble_eq_true rfl) ?_
      refine g_goto 29 hC 48 dX4_transfer_29 (by decide) ?_
      exact J2 _ (Eq.symm (if_pos h1))
theorem kX4_transfer {K : KT} {h : HX} {cc : ByteArray} {nL : Nat} {own : String} {Ts : List Cond} {rm : Room} {ret : Option FieldType} {T : ST × Option Value} {u : ST} {lv : List (Nat × Value)} {rest : List Value} {idx : Nat} {a1 : Int32} {a2 : Int32} (pc : Nat) (hC : Cx K (EX h) cc nL own Ts rm ret) (hT : GoodIn Ts (wsV own idx RX4 yX4_transfer wsX4_transfer)) (hR : rmX4_transfer.frames + 1 ≤ rm.frames ∧ 8 + (4 + 11) + rmX4_transfer.locals ≤ rm.locals) (hdg : decode cc pc = .ok (.invokevirtual idx, 3)) (hcat : (rest.map fun v => v.category).sum ≤ 8) (kk : G K (EX h) nL T (fX4_transfer a1 a2 u) (pc + 3) lv (rest)) : G K (EX h) nL T u pc lv (.int a2 :: .int a1 :: .ref (xO h) :: rest) := g_callV (n := 2) pc hC (As := [.int a1, .int a2]) (rest := rest) (cX4_transfer_ _ (Cx.ok hC) a1 a2 u) hT rfl rfl rfl (by decide +kernel) hR 0 2 rfl rfl rfl rfl rfl hcat hdg kk

def fX4_moveAtNext (a1 : Int32) (u : ST) : ST × Int32 :=
  if (fX4_cellAt ((gPc u) + (1 : Int32)) u) ≤ (1023 : Int32) then
    (fX4_onward (2 : Int32) (fX4_transfer a1 (fX4_cellAt ((gPc u) + (1 : Int32)) u) u))
  else
    (u, (3 : Int32))
theorem fiX4_moveAtNext_wsX40 : ∀ w ∈ wsX40, w ∈ wsX4_moveAtNext := fun w h => List.mem_cons_of_mem _ (List.mem_append_left _ (List.mem_append_right _ h))
theorem fmX4_moveAtNext_32 : Cond.fieldLink RX4 32 "FlagCore" "pc" "I" ∈ wsX4_moveAtNext := List.mem_of_getElem? (i := 1) rfl
abbrev rmX4_moveAtNext : Room := { frames := 2, cells := 0, slots := 0, locals := 45 }
set_option maxRecDepth 20000 in
theorem cX4_moveAtNext_ (h : HX) (hE : okE (EX h)) (a1 : Int32) (u : ST) : MX (EX h) yX4_moveAtNext wsX4_moveAtNext rmX4_moveAtNext [.ref (xO h), .int a1] u (tW (fX4_moveAtNext a1 u)) := by
  refine MX.of (cc := cX4_moveAtNext) (maxL := 3) (ret := (some .int)) (lv := [(0, .ref (xO h)), (1, .int a1)]) hE (by decide) rfl (fun _ => rfl) (Nat.le_of_ble_eq_true rfl) rfl (fun K hC => ?_)
  unfold fX4_moveAtNext
  refine g_aload_n 0 hC dX4_moveAtNext_0 0 rfl ?_
  refine g_aload_n 1 hC dX4_moveAtNext_1 0 rfl ?_
  refine x_get_pc 2 hC fiX4_moveAtNext_wsX40 fmX4_moveAtNext_32 dX4_moveAtNext_2 ?_
  refine g_iconst 5 hC (1 : Int32) dX4_moveAtNext_5 (by decide) ?_
  refine g_iadd 6 hC dX4_moveAtNext_6 ?_
  refine kX4_cellAt 7 hC gX4_moveAtNext_X4_cellAt ⟨Nat.le_of_ble_eq_true rfl, Nat.le_of_ble_eq_true rfl⟩ dX4_moveAtNext_7 (Nat.le_of_ble_eq_true rfl) ?_
  refine g_istore_n 10 hC dX4_moveAtNext_10 (by decide) [(2, .int ((fX4_cellAt ((gPc u) + (1 : Int32)) u))), (0, .ref (xO h)), (1, .int a1)] rfl ?_
  refine g_iload_n 11 hC dX4_moveAtNext_11 0 rfl ?_
  refine g_sipush 12 hC (1023 : Int32) dX4_moveAtNext_12 (by decide) ?_
  refine g_icmp_leT (tW) 15 hC 20 dX4_moveAtNext_15 (by decide) (fun h1 => ?_) (fun h1 => ?_)
  · skip
    refine g_aload_n 20 hC dX4_moveAtNext_20 1 rfl ?_
    refine g_iload_n 21 hC dX4_moveAtNext_21 2 rfl ?_
    refine g_iload_n 22 hC dX4_moveAtNext_22 0 rfl ?_
    refine kX4_transfer 23 hC gX4_moveAtNext_X4_transfer ⟨Nat.le_of_ble_eq_true rfl, Nat.le_of_ble_eq_true rfl⟩ dX4_moveAtNext_23 (Nat.le_of_ble_eq_true rfl) ?_
    refine g_aload_n 26 hC dX4_moveAtNext_26 1 rfl ?_
    refine g_iconst 27 hC (2 : Int32) dX4_moveAtNext_27 (by decide) ?_
    refine kX4_onward 28 hC gX4_moveAtNext_X4_onward ⟨Nat.le_of_ble_eq_true rfl, Nat.le_of_ble_eq_true rfl⟩ dX4_moveAtNext_28 (Nat.le_of_ble_eq_true rfl) ?_
    exact g_iret 31 hC dX4_moveAtNext_31
  · skip
    refine g_iconst 18 hC (3 : Int32) dX4_moveAtNext_18 (by decide) ?_
    exact g_iretW 19 hC dX4_moveAtNext_19
theorem kX4_moveAtNext {K : KT} {h : HX} {cc : ByteArray} {nL : Nat} {own : String} {Ts : List Cond} {rm : Room} {ret : Option FieldType} {T : ST × Option Value} {u : ST} {lv : List (Nat × Value)} {rest : List Value} {idx : Nat} {a1 : Int32} (pc : Nat) (hC : Cx K (EX h) cc nL own Ts rm ret) (hT : GoodIn Ts (wsV own idx RX4 yX4_moveAtNext wsX4_moveAtNext)) (hR : rmX4_moveAtNext.frames + 1 ≤ rm.frames ∧ 8 + (3 + 11) + rmX4_moveAtNext.locals ≤ rm.locals) (hdg : decode cc pc = .ok (.invokevirtual idx, 3)) (hcat : (rest.map fun v => v.category).sum ≤ 8) (kk : G K (EX h) nL T (fX4_moveAtNext a1 u).1 (pc + 3) lv (.int (fX4_moveAtNext a1 u).2 :: rest)) : G K (EX h) nL T u pc lv (.int a1 :: .ref (xO h) :: rest) := g_callV (n := 1) pc hC (As := [.int a1]) (rest := rest) (cX4_moveAtNext_ _ (Cx.ok hC) a1 u) hT rfl rfl rfl (by decide +kernel) hR 0 2 rfl rfl rfl rfl rfl hcat hdg kk

def fX4_movePointed (a1 : Int32) (u : ST) : ST × Int32 :=
  if (if (if (a1 &&& (3 : Int32)) = (2 : Int32) then (1 : Int32) else (0 : Int32)) = 0 then (fX0_pair (fX3_pointer a1) u) else (((fX0_pair (fX3_pointer a1) u) - (1 : Int32)) &&& (65535 : Int32))) ≤ (1023 : Int32) then
    (fX4_onward (1 : Int32) (if (if (a1 &&& (3 : Int32)) = (1 : Int32) then (1 : Int32) else (0 : Int32)) = 0 then (fX4_transfer a1 (if (if (a1 &&& (3 : Int32)) = (2 : Int32) then (1 : Int32) else (0 : Int32)) = 0 then (fX0_pair (fX3_pointer a1) u) else (((fX0_pair (fX3_pointer a1) u) - (1 : Int32)) &&& (65535 : Int32))) (if (if (a1 &&& (3 : Int32)) = (2 : Int32) then (1 : Int32) else (0 : Int32)) = 0 then u else (fX0_setPair (fX3_pointer a1) (if (if (a1 &&& (3 : Int32)) = (2 : Int32) then (1 : Int32) else (0 : Int32)) = 0 then (fX0_pair (fX3_pointer a1) u) else (((fX0_pair (fX3_pointer a1) u) - (1 : Int32)) &&& (65535 : Int32))) u))) else (fX0_setPair (fX3_pointer a1) ((fX0_pair (fX3_pointer a1) u) + (1 : Int32)) (fX4_transfer a1 (if (if (a1 &&& (3 : Int32)) = (2 : Int32) then (1 : Int32) else (0 : Int32)) = 0 then (fX0_pair (fX3_pointer a1) u) else (((fX0_pair (fX3_pointer a1) u) - (1 : Int32)) &&& (65535 : Int32))) (if (if (a1 &&& (3 : Int32)) = (2 : Int32) then (1 : Int32) else (0 : Int32)) = 0 then u else (fX0_setPair (fX3_pointer a1) (if (if (a1 &&& (3 : Int32)) = (2 : Int32) then (1 : Int32) else (0 : Int32)) = 0 then (fX0_pair (fX3_pointer a1) u) else (((fX0_pair (fX3_pointer a1) u) - (1 : Int32)) &&& (65535 : Int32))) u))))))
  else
    (u, (3 : Int32))
theorem fiX4_movePointed_wsX40 : ∀ w ∈ wsX40, w ∈ wsX4_movePointed := fun w h => List.mem_cons_of_mem _ (List.mem_append_left _ (List.mem_append_right _ h))
theorem fmX4_movePointed_16 : Cond.fieldLink RX4 16 "FlagCore" "bytes" "LFlagCore$Bytes;" ∈ wsX4_movePointed := List.mem_of_getElem? (i := 1) rfl
theorem cmX4_movePointed_50 : Jvm.Cond.constant RX4 50 (65535 : Int32) ∈ wsX4_movePointed := List.mem_of_getElem? (i := 2) rfl
abbrev rmX4_movePointed : Room := { frames := 2, cells := 0, slots := 0, locals := 45 }
set_option maxRecDepth 20000 in
theorem cX4_movePointed_ (h : HX) (hE : okE (EX h)) (a1 : Int32) (u : ST) : MX (EX h) yX4_movePointed wsX4_movePointed rmX4_movePointed [.ref (xO h), .int a1] u (tW (fX4_movePointed a1 u)) := by
  refine MX.of (cc := cX4_movePointed) (maxL := 7) (ret := (some .int)) (lv := [(0, .ref (xO h)), (1, .int a1)]) hE (by decide) rfl (fun _ => rfl) (Nat.le_of_ble_eq_true rfl) rfl (fun K hC => ?_)
  unfold fX4_movePointed
  refine g_iload_n 0 hC dX4_movePointed_0 1 rfl ?_
  refine kX3_pointer 1 hC gX4_movePointed_X3_pointer ⟨Nat.le_of_ble_eq_true rfl, Nat.le_of_ble_eq_true rfl⟩ dX4_movePointed_1 (Nat.le_of_ble_eq_true rfl) ?_
  refine g_istore_n 4 hC dX4_movePointed_4 (by decide) [(2, .int ((fX3_pointer a1))), (0, .ref (xO h)), (1, .int a1)] rfl ?_
  refine g_aload_n 5 hC dX4_movePointed_5 1 rfl ?_
  refine x_get_bytes 6 hC fiX4_movePointed_wsX40 fmX4_movePointed_16 dX4_movePointed_6 ?_
  refine g_iload_n 9 hC dX4_movePointed_9 0 rfl ?_
  refine kX0_pair 10 hC gX4_movePointed_X0_pair ⟨Nat.le_of_ble_eq_true rfl, Nat.le_of_ble_eq_true rfl⟩ dX4_movePointed_10 (Nat.le_of_ble_eq_true rfl) ?_
  refine g_istore_n 13 hC dX4_movePointed_13 (by decide) [(3, .int ((fX0_pair (fX3_pointer a1) u))), (2, .int ((fX3_pointer a1))), (0, .ref (xO h)), (1, .int a1)] rfl ?_
  refine g_iload_n 14 hC dX4_movePointed_14 3 rfl ?_
  refine g_iconst 15 hC (3 : Int32) dX4_movePointed_15 (by decide) ?_
  refine g_iand 16 hC dX4_movePointed_16 ?_
  refine g_iconst 17 hC (2 : Int32) dX4_movePointed_17 (by decide) ?_
  refine g_cut 26 (if (a1 &&& (3 : Int32)) = (2 : Int32) then (1 : Int32) else (0 : Int32)) [] ?_ (fun J2 => ?_)
  · skip
    refine g_istore 26 hC dX4_movePointed_26 (by decide) [(4, .int ((if (a1 &&& (3 : Int32)) = (2 : Int32) then (1 : Int32) else (0 : Int32)))), (3, .int ((fX0_pair (fX3_pointer a1) u))), (2, .int ((fX3_pointer a1))), (0, .ref (xO h)), (1, .int a1)] rfl ?_
    refine g_iload_n 28 hC dX4_movePointed_28 4 rfl ?_
    refine g_iconst 29 hC (3 : Int32) dX4_movePointed_29 (by decide) ?_
    refine g_iand 30 hC dX4_movePointed_30 ?_
    refine g_iconst 31 hC (1 : Int32) dX4_movePointed_31 (by decide) ?_
    refine g_cut 40 (if (a1 &&& (3 : Int32)) = (1 : Int32) then (1 : Int32) else (0 : Int32)) [] ?_ (fun J4 => ?_)
    · skip
      refine g_istore 40 hC dX4_movePointed_40 (by decide) [(5, .int ((if (a1 &&& (3 : Int32)) = (1 : Int32) then (1 : Int32) else (0 : Int32)))), (4, .int ((if (a1 &&& (3 : Int32)) = (2 : Int32) then (1 : Int32) else (0 : Int32)))), (3, .int ((fX0_pair (fX3_pointer a1) u))), (2, .int ((fX3_pointer a1))), (0, .ref (xO h)), (1, .int a1)] rfl ?_
      refine g_iload 42 hC dX4_movePointed_42 1 rfl ?_
      refine g_cut 57 (if (if (a1 &&& (3 : Int32)) = (2 : Int32) then (1 : Int32) else (0 : Int32)) = 0 then (fX0_pair (fX3_pointer a1) u) else (((fX0_pair (fX3_pointer a1) u) - (1 : Int32)) &&& (65535 : Int32))) [] ?_ (fun J6 => ?_)
      · skip
        refine g_istore 57 hC dX4_movePointed_57 (by decide) [(6, .int ((if (if (a1 &&& (3 : Int32)) = (2 : Int32) then (1 : Int32) else (0 : Int32)) = 0 then (fX0_pair (fX3_pointer a1) u) else (((fX0_pair (fX3_pointer a1) u) - (1 : Int32)) &&& (65535 : Int32))))), (5, .int ((if (a1 &&& (3 : Int32)) = (1 : Int32) then (1 : Int32) else (0 : Int32)))), (4, .int ((if (a1 &&& (3 : Int32)) = (2 : Int32) then (1 : Int32) else (0 : Int32)))), (3, .int ((fX0_pair (fX3_pointer a1) u))), (2, .int ((fX3_pointer a1))), (0, .ref (xO h)), (1, .int a1)] rfl ?_
        refine g_iload 59 hC dX4_movePointed_59 0 rfl ?_
        refine g_sipush 61 hC (1023 : Int32) dX4_movePointed_61 (by decide) ?_
        refine g_icmp_leT (tW) 64 hC 69 dX4_movePointed_64 (by decide) (fun h7 => ?_) (fun h7 => ?_)
        · skip
          refine g_iload 69 hC dX4_movePointed_69 2 rfl ?_
          refine g_cutS 84 (if (if (a1 &&& (3 : Int32)) = (2 : Int32) then (1 : Int32) else (0 : Int32)) = 0 then u else (fX0_setPair (fX3_pointer a1) (if (if (a1 &&& (3 : Int32)) = (2 : Int32) then (1 : Int32) else (0 : Int32)) = 0 then (fX0_pair (fX3_pointer a1) u) else (((fX0_pair (fX3_pointer a1) u) - (1 : Int32)) &&& (65535 : Int32))) u)) [] ?_ (fun J9 => ?_)
          · skip
            refine g_aload_n 84 hC dX4_movePointed_84 5 rfl ?_
            refine g_iload_n 85 hC dX4_movePointed_85 6 rfl ?_
            refine g_iload 86 hC dX4_movePointed_86 0 rfl ?_
            refine kX4_transfer 88 hC gX4_movePointed_X4_transfer ⟨Nat.le_of_ble_eq_true rfl, Nat.le_of_ble_eq_true rfl⟩ dX4_movePointed_88 (Nat.le_of_ble_eq_true rfl) ?_
            refine g_iload 91 hC dX4_movePointed_91 1 rfl ?_
            refine g_cutS 107 (if (if (a1 &&& (3 : Int32)) = (1 : Int32) then (1 : Int32) else (0 : Int32)) = 0 then (fX4_transfer a1 (if (if (a1 &&& (3 : Int32)) = (2 : Int32) then (1 : Int32) else (0 : Int32)) = 0 then (fX0_pair (fX3_pointer a1) u) else (((fX0_pair (fX3_pointer a1) u) - (1 : Int32)) &&& (65535 : Int32))) (if (if (a1 &&& (3 : Int32)) = (2 : Int32) then (1 : Int32) else (0 : Int32)) = 0 then u else (fX0_setPair (fX3_pointer a1) (if (if (a1 &&& (3 : Int32)) = (2 : Int32) then (1 : Int32) else (0 : Int32)) = 0 then (fX0_pair (fX3_pointer a1) u) else (((fX0_pair (fX3_pointer a1) u) - (1 : Int32)) &&& (65535 : Int32))) u))) else (fX0_setPair (fX3_pointer a1) ((fX0_pair (fX3_pointer a1) u) + (1 : Int32)) (fX4_transfer a1 (if (if (a1 &&& (3 : Int32)) = (2 : Int32) then (1 : Int32) else (0 : Int32)) = 0 then (fX0_pair (fX3_pointer a1) u) else (((fX0_pair (fX3_pointer a1) u) - (1 : Int32)) &&& (65535 : Int32))) (if (if (a1 &&& (3 : Int32)) = (2 : Int32) then (1 : Int32) else (0 : Int32)) = 0 then u else (fX0_setPair (fX3_pointer a1) (if (if (a1 &&& (3 : Int32)) = (2 : Int32) then (1 : Int32) else (0 : Int32)) = 0 then (fX0_pair (fX3_pointer a1) u) else (((fX0_pair (fX3_pointer a1) u) - (1 : Int32)) &&& (65535 : Int32))) u))))) [] ?_ (fun J11 => ?_)
            · skip
              refine g_aload_n 107 hC dX4_movePointed_107 5 rfl ?_
              refine g_iconst 108 hC (1 : Int32) dX4_movePointed_108 (by decide) ?_
              refine kX4_onward 109 hC gX4_movePointed_X4_onward ⟨Nat.le_of_ble_eq_true rfl, Nat.le_of_ble_eq_true rfl⟩ dX4_movePointed_109 (Nat.le_of_ble_eq_true rfl) ?_
              exact g_iret 112 hC dX4_movePointed_112
            · skip
              refine g_if_eq 93 hC 107 dX4_movePointed_93 (by decide) (fun h10 => ?_) (fun h10 => ?_)
              · skip
                exact J11 _ (Eq.symm (if_pos h10))
              · skip
                refine g_aload_n 96 hC dX4_movePointed_96 5 rfl ?_
                refine x_get_bytes 97 hC fiX4_movePointed_wsX40 fmX4_movePointed_16 dX4_movePointed_97 ?_
                refine g_iload_n 100 hC dX4_movePointed_100 4 rfl ?_
                refine g_iload_n 101 hC dX4_movePointed_101 3 rfl ?_
                refine g_iconst 102 hC (1 : Int32) dX4_movePointed_102 (by decide) ?_
                refine g_iadd 103 hC dX4_movePointed_103 ?_
                refine kX0_setPair 104 hC gX4_movePointed_X0_setPair ⟨Nat.le_of_ble_eq_true rfl, Nat.le_of_ble_eq_true rfl⟩ dX4_movePointed_104 (Nat.le_of_ble_eq_true rfl) ?_
                exact J11 _ (Eq.symm (if_neg h10))
          · skip
            refine g_if_eq 71 hC 84 dX4_movePointed_71 (by decide) (fun h8 => ?_) (fun h8 => ?_)
            · skip
              exact J9 _ (Eq.symm (if_pos h8))
            · skip
              refine g_aload_n 74 hC dX4_movePointed_74 5 rfl ?_
              refine x_get_bytes 75 hC fiX4_movePointed_wsX40 fmX4_movePointed_16 dX4_movePointed_75 ?_
              refine g_iload_n 78 hC dX4_movePointed_78 4 rfl ?_
              refine g_iload 79 hC dX4_movePointed_79 0 rfl ?_
              refine kX0_setPair 81 hC gX4_movePointed_X0_setPair ⟨Nat.le_of_ble_eq_true rfl, Nat.le_of_ble_eq_true rfl⟩ dX4_movePointed_81 (Nat.le_of_ble_eq_true rfl) ?_
              exact J9 _ (Eq.symm (if_neg h8))
        · skip
          refine g_iconst 67 hC (3 : Int32) dX4_movePointed_67 (by decide) ?_
          exact g_iretW 68 hC dX4_movePointed_68
      · skip
        refine g_if_eq 44 hC 56 dX4_movePointed_44 (by decide) (fun h5 => ?_) (fun h5 => ?_)
        · skip
          refine g_iload_n 56 hC dX4_movePointed_56 2 rfl ?_
          exact J6 _ (Eq.symm (if_pos h5))
        · skip
          refine g_iload_n 47 hC dX4_movePointed_47 2 rfl ?_
          refine g_iconst 48 hC (1 : Int32) dX4_movePointed_48 (by decide) ?_
          refine g_isub 49 hC dX4_movePointed_49 ?_
          refine g_ldc 50 hC (65535 : Int32) dX4_movePointed_50 cmX4_movePointed_50 ?_
          refine g_iand 52 hC dX4_movePointed_52 ?_
          refine g_goto 53 hC 57 dX4_movePointed_53 (by decide) ?_
          exact J6 _ (Eq.symm (if_neg h5))
    · skip
      refine g_icmp_ne 32 hC 39 dX4_movePointed_32 (by decide) (fun h3 => ?_) (fun h3 => ?_)
      · skip
        refine g_iconst 39 hC (0 : Int32) dX4_movePointed_39 (by decide) ?_
        exact J4 _ (Eq.symm (if_neg h3))
      · skip
        refine g_iconst 35 hC (1 : Int32) dX4_movePointed_35 (by decide) ?_
        refine g_goto 36 hC 40 dX4_movePointed_36 (by decide) ?_
        exact J4 _ (Eq.symm (if_pos h3))
  · skip
    refine g_icmp_ne 18 hC 25 dX4_movePointed_18 (by decide) (fun h1 => ?_) (fun h1 => ?_)
    · skip
      refine g_iconst 25 hC (0 : Int32) dX4_movePointed_25 (by decide) ?_
      exact J2 _ (Eq.symm (if_neg h1))
    · skip
      refine g_iconst 21 hC (1 : Int32) dX4_movePointed_21 (by decide) ?_
      refine g_goto 22 hC 26 dX4_movePointed_22 (by decide) ?_
      exact J2 _ (Eq.symm (if_pos h1))
theorem kX4_movePointed {K : KT} {h : HX} {cc : ByteArray} {nL : Nat} {own : String} {Ts : List Cond} {rm : Room} {ret : Option FieldType} {T : ST × Option Value} {u : ST} {lv : List (Nat × Value)} {rest : List Value} {idx : Nat} {a1 : Int32} (pc : Nat) (hC : Cx K (EX h) cc nL own Ts rm ret) (hT : GoodIn Ts (wsV own idx RX4 yX4_movePointed wsX4_movePointed)) (hR : rmX4_movePointed.frames + 1 ≤ rm.frames ∧ 8 + (7 + 11) + rmX4_movePointed.locals ≤ rm.locals) (hdg : decode cc pc = .ok (.invokevirtual idx, 3)) (hcat : (rest.map fun v => v.category).sum ≤ 8) (kk : G K (EX h) nL T (fX4_movePointed a1 u).1 (pc + 3) lv (.int (fX4_movePointed a1 u).2 :: rest)) : G K (EX h) nL T u pc lv (.int a1 :: .ref (xO h) :: rest) := g_callV (n := 1) pc hC (As := [.int a1]) (rest := rest) (cX4_movePointed_ _ (Cx.ok hC) a1 u) hT rfl rfl rfl (by decide +kernel) hR 0 2 rfl rfl rfl rfl rfl hcat hdg kk

def fX4_moveStacked (a1 : Int32) (u : ST) : ST × Int32 :=
  if (((fX0_pair (93 : Int32) u) + (if (if (a1 &&& (512 : Int32)) = 0 then (1 : Int32) else (0 : Int32)) = 0 then (0 : Int32) else (1 : Int32))) &&& (65535 : Int32)) ≤ (1023 : Int32) then
    (fX4_onward (1 : Int32) (if (if (a1 &&& (512 : Int32)) = 0 then (1 : Int32) else (0 : Int32)) = 0 then (fX0_push (fX0_get (fX3_d a1) u) u) else (fX0_set (fX3_d a1) (fX0_pull u).2 ((fX0_pull u).1))))
  else
    (u, (3 : Int32))
theorem fiX4_moveStacked_wsX40 : ∀ w ∈ wsX40, w ∈ wsX4_moveStacked := fun w h => List.mem_cons_of_mem _ (List.mem_append_left _ (List.mem_append_right _ h))
theorem fmX4_moveStacked_16 : Cond.fieldLink RX4 16 "FlagCore" "bytes" "LFlagCore$Bytes;" ∈ wsX4_moveStacked := List.mem_of_getElem? (i := 1) rfl
theorem cmX4_moveStacked_50 : Jvm.Cond.constant RX4 50 (65535 : Int32) ∈ wsX4_moveStacked := List.mem_of_getElem? (i := 2) rfl
abbrev rmX4_moveStacked : Room := { frames := 2, cells := 0, slots := 0, locals := 44 }
set_option maxRecDepth 20000 in
theorem cX4_moveStacked_ (h : HX) (hE : okE (EX h)) (a1 : Int32) (u : ST) : MX (EX h) yX4_moveStacked wsX4_moveStacked rmX4_moveStacked [.ref (xO h), .int a1] u (tW (fX4_moveStacked a1 u)) := by
  refine MX.of (cc := cX4_moveStacked) (maxL := 5) (ret := (some .int)) (lv := [(0, .ref (xO h)), (1, .int a1)]) hE (by decide) rfl (fun _ => rfl) (Nat.le_of_ble_eq_true rfl) rfl (fun K hC => ?_)
  unfold fX4_moveStacked
  refine g_iload_n 0 hC dX4_moveStacked_0 1 rfl ?_
  refine g_sipush 1 hC (512 : Int32) dX4_moveStacked_1 (by decide) ?_
  refine g_iand 4 hC dX4_moveStacked_4 ?_
  refine g_cut 13 (if (a1 &&& (512 : Int32)) = 0 then (1 : Int32) else (0 : Int32)) [] ?_ (fun J2 => ?_)
  · skip
    refine g_istore_n 13 hC dX4_moveStacked_13 (by decide) [(2, .int ((if (a1 &&& (512 : Int32)) = 0 then (1 : Int32) else (0 : Int32)))), (0, .ref (xO h)), (1, .int a1)] rfl ?_
    refine g_aload_n 14 hC dX4_moveStacked_14 1 rfl ?_
    refine x_get_bytes 15 hC fiX4_moveStacked_wsX40 fmX4_moveStacked_16 dX4_moveStacked_15 ?_
    refine g_bipush 18 hC (93 : Int32) dX4_moveStacked_18 (by decide) ?_
    refine kX0_pair 20 hC gX4_moveStacked_X0_pair ⟨Nat.le_of_ble_eq_true rfl, Nat.le_of_ble_eq_true rfl⟩ dX4_moveStacked_20 (Nat.le_of_ble_eq_true rfl) ?_
    refine g_iload_n 23 hC dX4_moveStacked_23 0 rfl ?_
    refine g_cut 32 (if (if (a1 &&& (512 : Int32)) = 0 then (1 : Int32) else (0 : Int32)) = 0 then (0 : Int32) else (1 : Int32)) [.int ((fX0_pair (93 : Int32) u))] ?_ (fun J4 => ?_)
    · skip
      refine g_iadd 32 hC dX4_moveStacked_32 ?_
      refine g_ldc 33 hC (65535 : Int32) dX4_moveStacked_33 cmX4_moveStacked_50 ?_
      refine g_iand 35 hC dX4_moveStacked_35 ?_
      refine g_istore_n 36 hC dX4_moveStacked_36 (by decide) [(3, .int ((((fX0_pair (93 : Int32) u) + (if (if (a1 &&& (512 : Int32)) = 0 then (1 : Int32) else (0 : Int32)) = 0 then (0 : Int32) else (1 : Int32))) &&& (65535 : Int32)))), (2, .int ((if (a1 &&& (512 : Int32)) = 0 then (1 : Int32) else (0 : Int32)))), (0, .ref (xO h)), (1, .int a1)] rfl ?_
      refine g_iload_n 37 hC dX4_moveStacked_37 0 rfl ?_
      refine g_sipush 38 hC (1023 : Int32) dX4_moveStacked_38 (by decide) ?_
      refine g_icmp_leT (tW) 41 hC 46 dX4_moveStacked_41 (by decide) (fun h5 => ?_) (fun h5 => ?_)
      · skip
        refine g_iload_n 46 hC dX4_moveStacked_46 3 rfl ?_
        refine kX3_d 47 hC gX4_moveStacked_X3_d ⟨Nat.le_of_ble_eq_true rfl, Nat.le_of_ble_eq_true rfl⟩ dX4_moveStacked_47 (Nat.le_of_ble_eq_true rfl) ?_
        refine g_istore 50 hC dX4_moveStacked_50 (by decide) [(4, .int ((fX3_d a1))), (3, .int ((((fX0_pair (93 : Int32) u) + (if (if (a1 &&& (512 : Int32)) = 0 then (1 : Int32) else (0 : Int32)) = 0 then (0 : Int32) else (1 : Int32))) &&& (65535 : Int32)))), (2, .int ((if (a1 &&& (512 : Int32)) = 0 then (1 : Int32) else (0 : Int32)))), (0, .ref (xO h)), (1, .int a1)] rfl ?_
        refine g_iload_n 52 hC dX4_moveStacked_52 2 rfl ?_
        refine g_cutS 91 (if (if (a1 &&& (512 : Int32)) = 0 then (1 : Int32) else (0 : Int32)) = 0 then (fX0_push (fX0_get (fX3_d a1) u) u) else (fX0_set (fX3_d a1) (fX0_pull u).2 ((fX0_pull u).1))) [] ?_ (fun J7 => ?_)
        · skip
          refine g_aload_n 91 hC dX4_moveStacked_91 3 rfl ?_
          refine g_iconst 92 hC (1 : Int32) dX4_moveStacked_92 (by decide) ?_
          refine kX4_onward 93 hC gX4_moveStacked_X4_onward ⟨Nat.le_of_ble_eq_true rfl, Nat.le_of_ble_eq_true rfl⟩ dX4_moveStacked_93 (Nat.le_of_ble_eq_true rfl) ?_
          exact g_iret 96 hC dX4_moveStacked_96
        · skip
          refine g_if_eq 53 hC 75 dX4_moveStacked_53 (by decide) (fun h6 => ?_) (fun h6 => ?_)
          · skip
            refine g_aload_n 75 hC dX4_moveStacked_75 3 rfl ?_
            refine x_get_bytes 76 hC fiX4_moveStacked_wsX40 fmX4_moveStacked_16 dX4_moveStacked_76 ?_
            refine g_aload_n 79 hC dX4_moveStacked_79 3 rfl ?_
            refine x_get_bytes 80 hC fiX4_moveStacked_wsX40 fmX4_moveStacked_16 dX4_moveStacked_80 ?_
            refine g_iload 83 hC dX4_moveStacked_83 0 rfl ?_
            refine kX0_get 85 hC gX4_moveStacked_X0_get ⟨Nat.le_of_ble_eq_true rfl, Nat.le_of_ble_eq_true rfl⟩ dX4_moveStacked_85 (Nat.le_of_ble_eq_true rfl) ?_
            refine kX0_push 88 hC gX4_moveStacked_X0_push ⟨Nat.le_of_ble_eq_true rfl, Nat.le_of_ble_eq_true rfl⟩ dX4_moveStacked_88 (Nat.le_of_ble_eq_true rfl) ?_
            exact J7 _ (Eq.symm (if_pos h6))
          · skip
            refine g_aload_n 56 hC dX4_moveStacked_56 3 rfl ?_
            refine x_get_bytes 57 hC fiX4_moveStacked_wsX40 fmX4_moveStacked_16 dX4_moveStacked_57 ?_
            refine g_iload 60 hC dX4_moveStacked_60 0 rfl ?_
            refine g_aload_n 62 hC dX4_moveStacked_62 3 rfl ?_
            refine x_get_bytes 63 hC fiX4_moveStacked_wsX40 fmX4_moveStacked_16 dX4_moveStacked_63 ?_
            refine kX0_pull 66 hC gX4_moveStacked_X0_pull ⟨Nat.le_of_ble_eq_true rfl, Nat.le_of_ble_eq_true rfl⟩ dX4_moveStacked_66 (Nat.le_of_ble_eq_true rfl) ?_
            refine kX0_set 69 hC gX4_moveStacked_X0_set ⟨Nat.le_of_ble_eq_true rfl, Nat.le_of_ble_eq_true rfl⟩ dX4_moveStacked_69 (Nat.le_of_ble_eq_true rfl) ?_
            refine g_goto 72 hC 91 dX4_moveStacked_72 (by decide) ?_
            exact J7 _ (Eq.symm (if_neg h6))
      · skip
        refine g_iconst 44 hC (3 : Int32) dX4_moveStacked_44 (by decide) ?_
        exact g_iretW 45 hC dX4_moveStacked_45
    · skip
      refine g_if_eq 24 hC 31 dX4_moveStacked_24 (by decide) (fun h3 => ?_) (fun h3 => ?_)
      · skip
        refine g_iconst 31 hC (0 : Int32) dX4_moveStacked_31 (by decide) ?_
        exact J4 _ (Eq.symm (if_pos h3))
      · skip
        refine g_iconst 27 hC (1 : Int32) dX4_moveStacked_27 (by decide) ?_
        refine g_goto 28 hC 32 dX4_moveStacked_28 (by decide) ?_
        exact J4 _ (Eq.symm (if_neg h3))
  · skip
    refine g_if_ne 5 hC 12 dX4_moveStacked_5 (by decide) (fun h1 => ?_) (fun h1 => ?_)
    · skip
      refine g_iconst 12 hC (0 : Int32) dX4_moveStacked_12 (by decide) ?_
      exact J2 _ (Eq.symm (if_neg h1))
    · skip
      refine g_iconst 8 hC (1 : Int32) dX4_moveStacked_8 (by decide) ?_
      refine g_goto 9 hC 13 dX4_moveStacked_9 (by decide) ?_
      exact J2 _ (Eq.symm (if_pos h1))
theorem kX4_moveStacked {K : KT} {h : HX} {cc : ByteArray} {nL : Nat} {own : String} {Ts : List Cond} {rm : Room} {ret : Option FieldType} {T : ST × Option Value} {u : ST} {lv : List (Nat × Value)} {rest : List Value} {idx : Nat} {a1 : Int32} (pc : Nat) (hC : Cx K (EX h) cc nL own Ts rm ret) (hT : GoodIn Ts (wsV own idx RX4 yX4_moveStacked wsX4_moveStacked)) (hR : rmX4_moveStacked.frames + 1 ≤ rm.frames ∧ 8 + (5 + 11) + rmX4_moveStacked.locals ≤ rm.locals) (hdg : decode cc pc = .ok (.invokevirtual idx, 3)) (hcat : (rest.map fun v => v.category).sum ≤ 8) (kk : G K (EX h) nL T (fX4_moveStacked a1 u).1 (pc + 3) lv (.int (fX4_moveStacked a1 u).2 :: rest)) : G K (EX h) nL T u pc lv (.int a1 :: .ref (xO h) :: rest) := g_callV (n := 1) pc hC (As := [.int a1]) (rest := rest) (cX4_moveStacked_ _ (Cx.ok hC) a1 u) hT rfl rfl rfl (by decide +kernel) hR 0 2 rfl rfl rfl rfl rfl hcat hdg kk

def fX4_moveBeside (a1 : Int32) (u : ST) : ST × Int32 :=
  if (((fX0_pair (if (a1 &&& (8 : Int32)) = 0 then (30 : Int32) else (28 : Int32)) u) + ((((jshr a1 (8 : Int32)) &&& (32 : Int32)) ||| ((jshr a1 (7 : Int32)) &&& (24 : Int32))) ||| (a1 &&& (7 : Int32)))) &&& (65535 : Int32)) ≤ (1023 : Int32) then
    (fX4_onward (1 : Int32) (fX4_transfer a1 (((fX0_pair (if (a1 &&& (8 : Int32)) = 0 then (30 : Int32) else (28 : Int32)) u) + ((((jshr a1 (8 : Int32)) &&& (32 : Int32)) ||| ((jshr a1 (7 : Int32)) &&& (24 : Int32))) ||| (a1 &&& (7 : Int32)))) &&& (65535 : Int32)) u))
  else
    (u, (3 : Int32))
theorem fiX4_moveBeside_wsX40 : ∀ w ∈ wsX40, w ∈ wsX4_moveBeside := fun w h => List.mem_cons_of_mem _ (List.mem_append_left _ (List.mem_append_right _ h))
theorem fmX4_moveBeside_16 : Cond.fieldLink RX4 16 "FlagCore" "bytes" "LFlagCore$Bytes;" ∈ wsX4_moveBeside := List.mem_of_getElem? (i := 1) rfl
theorem cmX4_moveBeside_50 : Jvm.Cond.constant RX4 50 (65535 : Int32) ∈ wsX4_moveBeside := List.mem_of_getElem? (i := 2) rfl
abbrev rmX4_moveBeside : Room := { frames := 2, cells := 0, slots := 0, locals := 45 }
set_option maxRecDepth 20000 in
theorem cX4_moveBeside_ (h : HX) (hE : okE (EX h)) (a1 : Int32) (u : ST) : MX (EX h) yX4_moveBeside wsX4_moveBeside rmX4_moveBeside [.ref (xO h), .int a1] u (tW (fX4_moveBeside a1 u)) := by
  refine MX.of (cc := cX4_moveBeside) (maxL := 5) (ret := (some .int)) (lv := [(0, .ref (xO h)), (1, .int a1)]) hE (by decide) rfl (fun _ => rfl) (Nat.le_of_ble_eq_true rfl) rfl (fun K hC => ?_)
  unfold fX4_moveBeside
  refine g_iload_n 0 hC dX4_moveBeside_0 1 rfl ?_
  refine g_bipush 1 hC (8 : Int32) dX4_moveBeside_1 (by decide) ?_
  refine g_iand 3 hC dX4_moveBeside_3 ?_
  refine g_cut 14 (if (a1 &&& (8 : Int32)) = 0 then (30 : Int32) else (28 : Int32)) [] ?_ (fun J2 => ?_)
  · skip
    refine g_istore_n 14 hC dX4_moveBeside_14 (by decide) [(2, .int ((if (a1 &&& (8 : Int32)) = 0 then (30 : Int32) else (28 : Int32)))), (0, .ref (xO h)), (1, .int a1)] rfl ?_
    refine g_iload_n 15 hC dX4_moveBeside_15 2 rfl ?_
    refine g_bipush 16 hC (8 : Int32) dX4_moveBeside_16 (by decide) ?_
    refine g_ishr 18 hC dX4_moveBeside_18 ?_
    refine g_bipush 19 hC (32 : Int32) dX4_moveBeside_19 (by decide) ?_
    refine g_iand 21 hC dX4_moveBeside_21 ?_
    refine g_iload_n 22 hC dX4_moveBeside_22 2 rfl ?_
    refine g_bipush 23 hC (7 : Int32) dX4_moveBeside_23 (by decide) ?_
    refine g_ishr 25 hC dX4_moveBeside_25 ?_
    refine g_bipush 26 hC (24 : Int32) dX4_moveBeside_26 (by decide) ?_
    refine g_iand 28 hC dX4_moveBeside_28 ?_
    refine g_ior 29 hC dX4_moveBeside_29 ?_
    refine g_iload_n 30 hC dX4_moveBeside_30 2 rfl ?_
    refine g_bipush 31 hC (7 : Int32) dX4_moveBeside_31 (by decide) ?_
    refine g_iand 33 hC dX4_moveBeside_33 ?_
    refine g_ior 34 hC dX4_moveBeside_34 ?_
    refine g_istore_n 35 hC dX4_moveBeside_35 (by decide) [(3, .int (((((jshr a1 (8 : Int32)) &&& (32 : Int32)) ||| ((jshr a1 (7 : Int32)) &&& (24 : Int32))) ||| (a1 &&& (7 : Int32))))), (2, .int ((if (a1 &&& (8 : Int32)) = 0 then (30 : Int32) else (28 : Int32)))), (0, .ref (xO h)), (1, .int a1)] rfl ?_
    refine g_aload_n 36 hC dX4_moveBeside_36 2 rfl ?_
    refine x_get_bytes 37 hC fiX4_moveBeside_wsX40 fmX4_moveBeside_16 dX4_moveBeside_37 ?_
    refine g_iload_n 40 hC dX4_moveBeside_40 1 rfl ?_
    refine kX0_pair 41 hC gX4_moveBeside_X0_pair ⟨Nat.le_of_ble_eq_true rfl, Nat.le_of_ble_eq_true rfl⟩ dX4_moveBeside_41 (Nat.le_of_ble_eq_true rfl) ?_
    refine g_iload_n 44 hC dX4_moveBeside_44 0 rfl ?_
    refine g_iadd 45 hC dX4_moveBeside_45 ?_
    refine g_ldc 46 hC (65535 : Int32) dX4_moveBeside_46 cmX4_moveBeside_50 ?_
    refine g_iand 48 hC dX4_moveBeside_48 ?_
    refine g_istore 49 hC dX4_moveBeside_49 (by decide) [(4, .int ((((fX0_pair (if (a1 &&& (8 : Int32)) = 0 then (30 : Int32) else (28 : Int32)) u) + ((((jshr a1 (8 : Int32)) &&& (32 : Int32)) ||| ((jshr a1 (7 : Int32)) &&& (24 : Int32))) ||| (a1 &&& (7 : Int32)))) &&& (65535 : Int32)))), (3, .int (((((jshr a1 (8 : Int32)) &&& (32 : Int32)) ||| ((jshr a1 (7 : Int32)) &&& (24 : Int32))) ||| (a1 &&& (7 : Int32))))), (2, .int ((if (a1 &&& (8 : Int32)) = 0 then (30 : Int32) else (28 : Int32)))), (0, .ref (xO h)), (1, .int a1)] rfl ?_
    refine g_iload 51 hC dX4_moveBeside_51 0 rfl ?_
    refine g_sipush 53 hC (1023 : Int32) dX4_moveBeside_53 (by decide) ?_
    refine g_icmp_leT (tW) 56 hC 61 dX4_moveBeside_56 (by decide) (fun h3 => ?_) (fun h3 => ?_)
    · skip
      refine g_aload_n 61 hC dX4_moveBeside_61 3 rfl ?_
      refine g_iload_n 62 hC dX4_moveBeside_62 4 rfl ?_
      refine g_iload 63 hC dX4_moveBeside_63 0 rfl ?_
      refine kX4_transfer 65 hC gX4_moveBeside_X4_transfer ⟨Nat.le_of_ble_eq_true rfl, Nat.le_of_ble_eq_true rfl⟩ dX4_moveBeside_65 (Nat.le_of_ble_eq_true rfl) ?_
      refine g_aload_n 68 hC dX4_moveBeside_68 3 rfl ?_
      refine g_iconst 69 hC (1 : Int32) dX4_moveBeside_69 (by decide) ?_
      refine kX4_onward 70 hC gX4_moveBeside_X4_onward ⟨Nat.le_of_ble_eq_true rfl, Nat.le_of_ble_eq_true rfl⟩ dX4_moveBeside_70 (Nat.le_of_ble_eq_true rfl) ?_
      exact g_iret 73 hC dX4_moveBeside_73
    · skip
      refine g_iconst 59 hC (3 : Int32) dX4_moveBeside_59 (by decide) ?_
      exact g_iretW 60 hC dX4_moveBeside_60
  · skip
    refine g_if_ne 4 hC 12 dX4_moveBeside_4 (by decide) (fun h1 => ?_) (fun h1 => ?_)
    · skip
      refine g_bipush 12 hC (28 : Int32) dX4_moveBeside_12 (by decide) ?_
      exact J2 _ (Eq.symm (if_neg h1))
    · skip
      refine g_bipush 7 hC (30 : Int32) dX4_moveBeside_7 (by decide) ?_
      refine g_goto 9 hC 14 dX4_moveBeside_9 (by decide) ?_
      exact J2 _ (Eq.symm (if_pos h1))
theorem kX4_moveBeside {K : KT} {h : HX} {cc : ByteArray} {nL : Nat} {own : String} {Ts : List Cond} {rm : Room} {ret : Option FieldType} {T : ST × Option Value} {u : ST} {lv : List (Nat × Value)} {rest : List Value} {idx : Nat} {a1 : Int32} (pc : Nat) (hC : Cx K (EX h) cc nL own Ts rm ret) (hT : GoodIn Ts (wsV own idx RX4 yX4_moveBeside wsX4_moveBeside)) (hR : rmX4_moveBeside.frames + 1 ≤ rm.frames ∧ 8 + (5 + 11) + rmX4_moveBeside.locals ≤ rm.locals) (hdg : decode cc pc = .ok (.invokevirtual idx, 3)) (hcat : (rest.map fun v => v.category).sum ≤ 8) (kk : G K (EX h) nL T (fX4_moveBeside a1 u).1 (pc + 3) lv (.int (fX4_moveBeside a1 u).2 :: rest)) : G K (EX h) nL T u pc lv (.int a1 :: .ref (xO h) :: rest) := g_callV (n := 1) pc hC (As := [.int a1]) (rest := rest) (cX4_moveBeside_ _ (Cx.ok hC) a1 u) hT rfl rfl rfl (by decide +kernel) hR 0 2 rfl rfl rfl rfl rfl hcat hdg kk

def fX4_moveFromCode (a1 : Int32) (u : ST) : ST × Int32 :=
  (fX4_onward (1 : Int32) (if (a1 &&& (1 : Int32)) = (1 : Int32) then (fX0_setPair (30 : Int32) ((fX0_pair (30 : Int32) u) + (1 : Int32)) (fX0_set (if a1 = (38344 : Int32) then (0 : Int32) else (fX3_d a1)) (if ((fX0_pair (30 : Int32) u) &&& (1 : Int32)) = 0 then (fX4_cellAt (jshr (fX0_pair (30 : Int32) u) (1 : Int32)) u) else (jshr (fX4_cellAt (jshr (fX0_pair (30 : Int32) u) (1 : Int32)) u) (8 : Int32))) u)) else (fX0_set (if a1 = (38344 : Int32) then (0 : Int32) else (fX3_d a1)) (if ((fX0_pair (30 : Int32) u) &&& (1 : Int32)) = 0 then (fX4_cellAt (jshr (fX0_pair (30 : Int32) u) (1 : Int32)) u) else (jshr (fX4_cellAt (jshr (fX0_pair (30 : Int32) u) (1 : Int32)) u) (8 : Int32))) u)))
theorem fiX4_moveFromCode_wsX40 : ∀ w ∈ wsX40, w ∈ wsX4_moveFromCode := fun w h => List.mem_cons_of_mem _ (List.mem_append_left _ (List.mem_append_right _ h))
theorem fmX4_moveFromCode_16 : Cond.fieldLink RX4 16 "FlagCore" "bytes" "LFlagCore$Bytes;" ∈ wsX4_moveFromCode := List.mem_of_getElem? (i := 1) rfl
theorem cmX4_moveFromCode_241 : Jvm.Cond.constant RX4 241 (38344 : Int32) ∈ wsX4_moveFromCode := List.mem_of_getElem? (i := 2) rfl
abbrev rmX4_moveFromCode : Room := { frames := 1, cells := 0, slots := 0, locals := 22 }
set_option maxRecDepth 20000 in
theorem cX4_moveFromCode_ (h : HX) (hE : okE (EX h)) (a1 : Int32) (u : ST) : MX (EX h) yX4_moveFromCode wsX4_moveFromCode rmX4_moveFromCode [.ref (xO h), .int a1] u (tW (fX4_moveFromCode a1 u)) := by
  refine MX.of (cc := cX4_moveFromCode) (maxL := 4) (ret := (some .int)) (lv := [(0, .ref (xO h)), (1, .int a1)]) hE (by decide) rfl (fun _ => rfl) (Nat.le_of_ble_eq_true rfl) rfl (fun K hC => ?_)
  unfold fX4_moveFromCode
  refine g_aload_n 0 hC dX4_moveFromCode_0 0 rfl ?_
  refine x_get_bytes 1 hC fiX4_moveFromCode_wsX40 fmX4_moveFromCode_16 dX4_moveFromCode_1 ?_
  refine g_bipush 4 hC (30 : Int32) dX4_moveFromCode_4 (by decide) ?_
  refine kX0_pair 6 hC gX4_moveFromCode_X0_pair ⟨Nat.le_of_ble_eq_true rfl, Nat.le_of_ble_eq_true rfl⟩ dX4_moveFromCode_6 (Nat.le_of_ble_eq_true rfl) ?_
  refine g_istore_n 9 hC dX4_moveFromCode_9 (by decide) [(2, .int ((fX0_pair (30 : Int32) u))), (0, .ref (xO h)), (1, .int a1)] rfl ?_
  refine g_aload_n 10 hC dX4_moveFromCode_10 1 rfl ?_
  refine g_iload_n 11 hC dX4_moveFromCode_11 0 rfl ?_
  refine g_iconst 12 hC (1 : Int32) dX4_moveFromCode_12 (by decide) ?_
  refine g_ishr 13 hC dX4_moveFromCode_13 ?_
  refine kX4_cellAt 14 hC gX4_moveFromCode_X4_cellAt ⟨Nat.le_of_ble_eq_true rfl, Nat.le_of_ble_eq_true rfl⟩ dX4_moveFromCode_14 (Nat.le_of_ble_eq_true rfl) ?_
  refine g_istore_n 17 hC dX4_moveFromCode_17 (by decide) [(3, .int ((fX4_cellAt (jshr (fX0_pair (30 : Int32) u) (1 : Int32)) u))), (2, .int ((fX0_pair (30 : Int32) u))), (0, .ref (xO h)), (1, .int a1)] rfl ?_
  refine g_aload_n 18 hC dX4_moveFromCode_18 2 rfl ?_
  refine x_get_bytes 19 hC fiX4_moveFromCode_wsX40 fmX4_moveFromCode_16 dX4_moveFromCode_19 ?_
  refine g_iload_n 22 hC dX4_moveFromCode_22 3 rfl ?_
  refine g_ldc 23 hC (38344 : Int32) dX4_moveFromCode_23 cmX4_moveFromCode_241 ?_
  refine g_cut 36 (if a1 = (38344 : Int32) then (0 : Int32) else (fX3_d a1)) [.ref (xB h)] ?_ (fun J2 => ?_)
  · skip
    refine g_iload_n 36 hC dX4_moveFromCode_36 1 rfl ?_
    refine g_iconst 37 hC (1 : Int32) dX4_moveFromCode_37 (by decide) ?_
    refine g_iand 38 hC dX4_moveFromCode_38 ?_
    refine g_cut 50 (if ((fX0_pair (30 : Int32) u) &&& (1 : Int32)) = 0 then (fX4_cellAt (jshr (fX0_pair (30 : Int32) u) (1 : Int32)) u) else (jshr (fX4_cellAt (jshr (fX0_pair (30 : Int32) u) (1 : Int32)) u) (8 : Int32))) [.int ((if a1 = (38344 : Int32) then (0 : Int32) else (fX3_d a1))), .ref (xB h)] ?_ (fun J4 => ?_)
    · skip
      refine kX0_set 50 hC gX4_moveFromCode_X0_set ⟨Nat.le_of_ble_eq_true rfl, Nat.le_of_ble_eq_true rfl⟩ dX4_moveFromCode_50 (Nat.le_of_ble_eq_true rfl) ?_
      refine g_iload_n 53 hC dX4_moveFromCode_53 3 rfl ?_
      refine g_iconst 54 hC (1 : Int32) dX4_moveFromCode_54 (by decide) ?_
      refine g_iand 55 hC dX4_moveFromCode_55 ?_
      refine g_iconst 56 hC (1 : Int32) dX4_moveFromCode_56 (by decide) ?_
      refine g_cutS 72 (if (a1 &&& (1 : Int32)) = (1 : Int32) then (fX0_setPair (30 : Int32) ((fX0_pair (30 : Int32) u) + (1 : Int32)) (fX0_set (if a1 = (38344 : Int32) then (0 : Int32) else (fX3_d a1)) (if ((fX0_pair (30 : Int32) u) &&& (1 : Int32)) = 0 then (fX4_cellAt (jshr (fX0_pair (30 : Int32) u) (1 : Int32)) u) else (jshr (fX4_cellAt (jshr (fX0_pair (30 : Int32) u) (1 : Int32)) u) (8 : Int32))) u)) else (fX0_set (if a1 = (38344 : Int32) then (0 : Int32) else (fX3_d a1)) (if ((fX0_pair (30 : Int32) u) &&& (1 : Int32)) = 0 then (fX4_cellAt (jshr (fX0_pair (30 : Int32) u) (1 : Int32)) u) else (jshr (fX4_cellAt (jshr (fX0_pair (30 : Int32) u) (1 : Int32)) u) (8 : Int32))) u)) [] ?_ (fun J6 => ?_)
      · skip
        refine g_aload_n 72 hC dX4_moveFromCode_72 2 rfl ?_
        refine g_iconst 73 hC (1 : Int32) dX4_moveFromCode_73 (by decide) ?_
        refine kX4_onward 74 hC gX4_moveFromCode_X4_onward ⟨Nat.le_of_ble_eq_true rfl, Nat.le_of_ble_eq_true rfl⟩ dX4_moveFromCode_74 (Nat.le_of_ble_eq_true rfl) ?_
        exact g_iret 77 hC dX4_moveFromCode_77
      · skip
        refine g_icmp_ne 57 hC 72 dX4_moveFromCode_57 (by decide) (fun h5 => ?_) (fun h5 => ?_)
        · skip
          exact J6 _ (Eq.symm (if_neg h5))
        · skip
          refine g_aload_n 60 hC dX4_moveFromCode_60 2 rfl ?_
          refine x_get_bytes 61 hC fiX4_moveFromCode_wsX40 fmX4_moveFromCode_16 dX4_moveFromCode_61 ?_
          refine g_bipush 64 hC (30 : Int32) dX4_moveFromCode_64 (by decide) ?_
          refine g_iload_n 66 hC dX4_moveFromCode_66 1 rfl ?_
          refine g_iconst 67 hC (1 : Int32) dX4_moveFromCode_67 (by decide) ?_
          refine g_iadd 68 hC dX4_moveFromCode_68 ?_
          refine kX0_setPair 69 hC gX4_moveFromCode_X0_setPair ⟨Nat.le_of_ble_eq_true rfl, Nat.le_of_ble_eq_true rfl⟩ dX4_moveFromCode_69 (Nat.le_of_ble_eq_true rfl) ?_
          exact J6 _ (Eq.symm (if_pos h5))
    · skip
      refine g_if_ne 39 hC 46 dX4_moveFromCode_39 (by decide) (fun h3 => ?_) (fun h3 => ?_)
      · skip
        refine g_iload_n 46 hC dX4_moveFromCode_46 0 rfl ?_
        refine g_bipush 47 hC (8 : Int32) dX4_moveFromCode_47 (by decide) ?_
        refine g_ishr 49 hC dX4_moveFromCode_49 ?_
        exact J4 _ (Eq.symm (if_neg h3))
      · skip
        refine g_iload_n 42 hC dX4_moveFromCode_42 0 rfl ?_
        refine g_goto 43 hC 50 dX4_moveFromCode_43 (by decide) ?_
        exact J4 _ (Eq.symm (if_pos h3))
  · skip
    refine g_icmp_ne 25 hC 32 dX4_moveFromCode_25 (by decide) (fun h1 => ?_) (fun h1 => ?_)
    · skip
      refine g_iload_n 32 hC dX4_moveFromCode_32 3 rfl ?_
      refine kX3_d 33 hC gX4_moveFromCode_X3_d ⟨Nat.le_of_ble_eq_true rfl, Nat.le_of_ble_eq_true rfl⟩ dX4_moveFromCode_33 (Nat.le_of_ble_eq_true rfl) ?_
      exact J2 _ (Eq.symm (if_neg h1))
    · skip
      refine g_iconst 28 hC (0 : Int32) dX4_moveFromCode_28 (by decide) ?_
      refine g_goto 29 hC 36 dX4_moveFromCode_29 (by decide) ?_
      exact J2 _ (Eq.symm (if_pos h1))
theorem kX4_moveFromCode {K : KT} {h : HX} {cc : ByteArray} {nL : Nat} {own : String} {Ts : List Cond} {rm : Room} {ret : Option FieldType} {T : ST × Option Value} {u : ST} {lv : List (Nat × Value)} {rest : List Value} {idx : Nat} {a1 : Int32} (pc : Nat) (hC : Cx K (EX h) cc nL own Ts rm ret) (hT : GoodIn Ts (wsV own idx RX4 yX4_moveFromCode wsX4_moveFromCode)) (hR : rmX4_moveFromCode.frames + 1 ≤ rm.frames ∧ 8 + (4 + 11) + rmX4_moveFromCode.locals ≤ rm.locals) (hdg : decode cc pc = .ok (.invokevirtual idx, 3)) (hcat : (rest.map fun v => v.category).sum ≤ 8) (kk : G K (EX h) nL T (fX4_moveFromCode a1 u).1 (pc + 3) lv (.int (fX4_moveFromCode a1 u).2 :: rest)) : G K (EX h) nL T u pc lv (.int a1 :: .ref (xO h) :: rest) := g_callV (n := 1) pc hC (As := [.int a1]) (rest := rest) (cX4_moveFromCode_ _ (Cx.ok hC) a1 u) hT rfl rfl rfl (by decide +kernel) hR 0 2 rfl rfl rfl rfl rfl hcat hdg kk

def fX4_movePort (a1 : Int32) (u : ST) : ST × Int32 :=
  (fX4_onward (1 : Int32) (if (a1 &&& (2048 : Int32)) = 0 then (fX0_set (fX3_d a1) (fX0_get ((32 : Int32) + (((jshr a1 (5 : Int32)) &&& (48 : Int32)) ||| (a1 &&& (15 : Int32)))) u) u) else (fX0_set ((32 : Int32) + (((jshr a1 (5 : Int32)) &&& (48 : Int32)) ||| (a1 &&& (15 : Int32)))) (fX0_get (fX3_d a1) u) u)))
theorem fiX4_movePort_wsX40 : ∀ w ∈ wsX40, w ∈ wsX4_movePort := fun w h => List.mem_cons_of_mem _ (List.mem_append_left _ (List.mem_append_right _ h))
theorem fmX4_movePort_16 : Cond.fieldLink RX4 16 "FlagCore" "bytes" "LFlagCore$Bytes;" ∈ wsX4_movePort := List.mem_of_getElem? (i := 1) rfl
abbrev rmX4_movePort : Room := { frames := 1, cells := 0, slots := 0, locals := 22 }
set_option maxRecDepth 20000 in
theorem cX4_movePort_ (h : HX) (hE : okE (EX h)) (a1 : Int32) (u : ST) : MX (EX h) yX4_movePort wsX4_movePort rmX4_movePort [.ref (xO h), .int a1] u (tW (fX4_movePort a1 u)) := by
  refine MX.of (cc := cX4_movePort) (maxL := 4) (ret := (some .int)) (lv := [(0, .ref (xO h)), (1, .int a1)]) hE (by decide) rfl (fun _ => rfl) (Nat.le_of_ble_eq_true rfl) rfl (fun K hC => ?_)
  unfold fX4_movePort
  refine g_iload_n 0 hC dX4_movePort_0 1 rfl ?_
  refine kX3_d 1 hC gX4_movePort_X3_d ⟨Nat.le_of_ble_eq_true rfl, Nat.le_of_ble_eq_true rfl⟩ dX4_movePort_1 (Nat.le_of_ble_eq_true rfl) ?_
  refine g_istore_n 4 hC dX4_movePort_4 (by decide) [(2, .int ((fX3_d a1))), (0, .ref (xO h)), (1, .int a1)] rfl ?_
  refine g_bipush 5 hC (32 : Int32) dX4_movePort_5 (by decide) ?_
  refine g_iload_n 7 hC dX4_movePort_7 2 rfl ?_
  refine g_iconst 8 hC (5 : Int32) dX4_movePort_8 (by decide) ?_
  refine g_ishr 9 hC dX4_movePort_9 ?_
  refine g_bipush 10 hC (48 : Int32) dX4_movePort_10 (by decide) ?_
  refine g_iand 12 hC dX4_movePort_12 ?_
  refine g_iload_n 13 hC dX4_movePort_13 2 rfl ?_
  refine g_bipush 14 hC (15 : Int32) dX4_movePort_14 (by decide) ?_
  refine g_iand 16 hC dX4_movePort_16 ?_
  refine g_ior 17 hC dX4_movePort_17 ?_
  refine g_iadd 18 hC dX4_movePort_18 ?_
  refine g_istore_n 19 hC dX4_movePort_19 (by decide) [(3, .int (((32 : Int32) + (((jshr a1 (5 : Int32)) &&& (48 : Int32)) ||| (a1 &&& (15 : Int32)))))), (2, .int ((fX3_d a1))), (0, .ref (xO h)), (1, .int a1)] rfl ?_
  refine g_iload_n 20 hC dX4_movePort_20 3 rfl ?_
  refine g_sipush 21 hC (2048 : Int32) dX4_movePort_21 (by decide) ?_
  refine g_iand 24 hC dX4_movePort_24 ?_
  refine g_cutS 63 (if (a1 &&& (2048 : Int32)) = 0 then (fX0_set (fX3_d a1) (fX0_get ((32 : Int32) + (((jshr a1 (5 : Int32)) &&& (48 : Int32)) ||| (a1 &&& (15 : Int32)))) u) u) else (fX0_set ((32 : Int32) + (((jshr a1 (5 : Int32)) &&& (48 : Int32)) ||| (a1 &&& (15 : Int32)))) (fX0_get (fX3_d a1) u) u)) [] ?_ (fun J2 => ?_)
  · skip
    refine g_aload_n 63 hC dX4_movePort_63 2 rfl ?_
    refine g_iconst 64 hC (1 : Int32) dX4_movePort_64 (by decide) ?_
    refine kX4_onward 65 hC gX4_movePort_X4_onward ⟨Nat.le_of_ble_eq_true rfl, Nat.le_of_ble_eq_true rfl⟩ dX4_movePort_65 (Nat.le_of_ble_eq_true rfl) ?_
    exact g_iret 68 hC dX4_movePort_68
  · skip
    refine g_if_ne 25 hC 47 dX4_movePort_25 (by decide) (fun h1 => ?_) (fun h1 => ?_)
    · skip
      refine g_aload_n 47 hC dX4_movePort_47 2 rfl ?_
      refine x_get_bytes 48 hC fiX4_movePort_wsX40 fmX4_movePort_16 dX4_movePort_48 ?_
      refine g_iload_n 51 hC dX4_movePort_51 0 rfl ?_
      refine g_aload_n 52 hC dX4_movePort_52 2 rfl ?_
      refine x_get_bytes 53 hC fiX4_movePort_wsX40 fmX4_movePort_16 dX4_movePort_53 ?_
      refine g_iload_n 56 hC dX4_movePort_56 1 rfl ?_
      refine kX0_get 57 hC gX4_movePort_X0_get ⟨Nat.le_of_ble_eq_true rfl, Nat.le_of_ble_eq_true rfl⟩ dX4_movePort_57 (Nat.le_of_ble_eq_true rfl) ?_
      refine kX0_set 60 hC gX4_movePort_X0_set ⟨Nat.le_of_ble_eq_true rfl, Nat.le_of_ble_eq_true rfl⟩ dX4_movePort_60 (Nat.le_of_ble_eq_true rfl) ?_
      exact J2 _ (Eq.symm (if_neg h1))
    · skip
      refine g_aload_n 28 hC dX4_movePort_28 2 rfl ?_
      refine x_get_bytes 29 hC fiX4_movePort_wsX40 fmX4_movePort_16 dX4_movePort_29 ?_
      refine g_iload_n 32 hC dX4_movePort_32 1 rfl ?_
      refine g_aload_n 33 hC dX4_movePort_33 2 rfl ?_
      refine x_get_bytes 34 hC fiX4_movePort_wsX40 fmX4_movePort_16 dX4_movePort_34 ?_
      refine g_iload_n 37 hC dX4_movePort_37 0 rfl ?_
      refine kX0_get 38 hC gX4_movePort_X0_get ⟨Nat.le_of_ble_eq_true rfl, Nat.le_of_ble_eq_true rfl⟩ dX4_movePort_38 (Nat.le_of_ble_eq_true rfl) ?_
      refine kX0_set 41 hC gX4_movePort_X0_set ⟨Nat.le_of_ble_eq_true rfl, Nat.le_of_ble_eq_true rfl⟩ dX4_movePort_41 (Nat.le_of_ble_eq_true rfl) ?_
      refine g_goto 44 hC 63 dX4_movePort_44 (by decide) ?_
      exact J2 _ (Eq.symm (if_pos h1))
theorem kX4_movePort {K : KT} {h : HX} {cc : ByteArray} {nL : Nat} {own : String} {Ts : List Cond} {rm : Room} {ret : Option FieldType} {T : ST × Option Value} {u : ST} {lv : List (Nat × Value)} {rest : List Value} {idx : Nat} {a1 : Int32} (pc : Nat) (hC : Cx K (EX h) cc nL own Ts rm ret) (hT : GoodIn Ts (wsV own idx RX4 yX4_movePort wsX4_movePort)) (hR : rmX4_movePort.frames + 1 ≤ rm.frames ∧ 8 + (4 + 11) + rmX4_movePort.locals ≤ rm.locals) (hdg : decode cc pc = .ok (.invokevirtual idx, 3)) (hcat : (rest.map fun v => v.category).sum ≤ 8) (kk : G K (EX h) nL T (fX4_movePort a1 u).1 (pc + 3) lv (.int (fX4_movePort a1 u).2 :: rest)) : G K (EX h) nL T u pc lv (.int a1 :: .ref (xO h) :: rest) := g_callV (n := 1) pc hC (As := [.int a1]) (rest := rest) (cX4_movePort_ _ (Cx.ok hC) a1 u) hT rfl rfl rfl (by decide +kernel) hR 0 2 rfl rfl rfl rfl rfl hcat hdg kk

def fX4_setPortBit (a1 : Int32) (u : ST) : ST × Int32 :=
  (fX4_onward (1 : Int32) (fX0_setBit ((32 : Int32) + ((jshr a1 (3 : Int32)) &&& (31 : Int32))) (a1 &&& (7 : Int32)) ((jshr a1 (9 : Int32)) &&& (1 : Int32)) u))
theorem fiX4_setPortBit_wsX40 : ∀ w ∈ wsX40, w ∈ wsX4_setPortBit := fun w h => List.mem_cons_of_mem _ (List.mem_append_left _ (List.mem_append_right _ h))
theorem fmX4_setPortBit_16 : Cond.fieldLink RX4 16 "FlagCore" "bytes" "LFlagCore$Bytes;" ∈ wsX4_setPortBit := List.mem_of_getElem? (i := 1) rfl
abbrev rmX4_setPortBit : Room := { frames := 2, cells := 0, slots := 0, locals := 45 }
set_option maxRecDepth 20000 in
theorem cX4_setPortBit_ (h : HX) (hE : okE (EX h)) (a1 : Int32) (u : ST) : MX (EX h) yX4_setPortBit wsX4_setPortBit rmX4_setPortBit [.ref (xO h), .int a1] u (tW (fX4_setPortBit a1 u)) := by
  refine MX.of (cc := cX4_setPortBit) (maxL := 2) (ret := (some .int)) (lv := [(0, .ref (xO h)), (1, .int a1)]) hE (by decide) rfl (fun _ => rfl) (Nat.le_of_ble_eq_true rfl) rfl (fun K hC => ?_)
  unfold fX4_setPortBit
  refine g_aload_n 0 hC dX4_setPortBit_0 0 rfl ?_
  refine x_get_bytes 1 hC fiX4_setPortBit_wsX40 fmX4_setPortBit_16 dX4_setPortBit_1 ?_
  refine g_bipush 4 hC (32 : Int32) dX4_setPortBit_4 (by decide) ?_
  refine g_iload_n 6 hC dX4_setPortBit_6 1 rfl ?_
  refine g_iconst 7 hC (3 : Int32) dX4_setPortBit_7 (by decide) ?_
  refine g_ishr 8 hC dX4_setPortBit_8 ?_
  refine g_bipush 9 hC (31 : Int32) dX4_setPortBit_9 (by decide) ?_
  refine g_iand 11 hC dX4_setPortBit_11 ?_
  refine g_iadd 12 hC dX4_setPortBit_12 ?_
  refine g_iload_n 13 hC dX4_setPortBit_13 1 rfl ?_
  refine g_bipush 14 hC (7 : Int32) dX4_setPortBit_14 (by decide) ?_
  refine g_iand 16 hC dX4_setPortBit_16 ?_
  refine g_iload_n 17 hC dX4_setPortBit_17 1 rfl ?_
  refine g_bipush 18 hC (9 : Int32) dX4_setPortBit_18 (by decide) ?_
  refine g_ishr 20 hC dX4_setPortBit_20 ?_
  refine g_iconst 21 hC (1 : Int32) dX4_setPortBit_21 (by decide) ?_
  refine g_iand 22 hC dX4_setPortBit_22 ?_
  refine kX0_setBit 23 hC gX4_setPortBit_X0_setBit ⟨Nat.le_of_ble_eq_true rfl, Nat.le_of_ble_eq_true rfl⟩ dX4_setPortBit_23 (Nat.le_of_ble_eq_true rfl) ?_
  refine g_aload_n 26 hC dX4_setPortBit_26 0 rfl ?_
  refine g_iconst 27 hC (1 : Int32) dX4_setPortBit_27 (by decide) ?_
  refine kX4_onward 28 hC gX4_setPortBit_X4_onward ⟨Nat.le_of_ble_eq_true rfl, Nat.le_of_ble_eq_true rfl⟩ dX4_setPortBit_28 (Nat.le_of_ble_eq_true rfl) ?_
  exact g_iret 31 hC dX4_setPortBit_31
theorem kX4_setPortBit {K : KT} {h : HX} {cc : ByteArray} {nL : Nat} {own : String} {Ts : List Cond} {rm : Room} {ret : Option FieldType} {T : ST × Option Value} {u : ST} {lv : List (Nat × Value)} {rest : List Value} {idx : Nat} {a1 : Int32} (pc : Nat) (hC : Cx K (EX h) cc nL own Ts rm ret) (hT : GoodIn Ts (wsV own idx RX4 yX4_setPortBit wsX4_setPortBit)) (hR : rmX4_setPortBit.frames + 1 ≤ rm.frames ∧ 8 + (2 + 11) + rmX4_setPortBit.locals ≤ rm.locals) (hdg : decode cc pc = .ok (.invokevirtual idx, 3)) (hcat : (rest.map fun v => v.category).sum ≤ 8) (kk : G K (EX h) nL T (fX4_setPortBit a1 u).1 (pc + 3) lv (.int (fX4_setPortBit a1 u).2 :: rest)) : G K (EX h) nL T u pc lv (.int a1 :: .ref (xO h) :: rest) := g_callV (n := 1) pc hC (As := [.int a1]) (rest := rest) (cX4_setPortBit_ _ (Cx.ok hC) a1 u) hT rfl rfl rfl (by decide +kernel) hR 0 2 rfl rfl rfl rfl rfl hcat hdg kk

def fX4_skipByPort (a1 : Int32) (u : ST) : ST × Int32 :=
  (fX4_skip (if (fX0_bit ((32 : Int32) + ((jshr a1 (3 : Int32)) &&& (31 : Int32))) (a1 &&& (7 : Int32)) u) = ((jshr a1 (9 : Int32)) &&& (1 : Int32)) then (1 : Int32) else (0 : Int32)) u)
theorem fiX4_skipByPort_wsX40 : ∀ w ∈ wsX40, w ∈ wsX4_skipByPort := fun w h => List.mem_cons_of_mem _ (List.mem_append_left _ (List.mem_append_right _ h))
theorem fmX4_skipByPort_16 : Cond.fieldLink RX4 16 "FlagCore" "bytes" "LFlagCore$Bytes;" ∈ wsX4_skipByPort := List.mem_of_getElem? (i := 1) rfl
abbrev rmX4_skipByPort : Room := { frames := 2, cells := 0, slots := 0, locals := 42 }
set_option maxRecDepth 20000 in
theorem cX4_skipByPort_ (h : HX) (hE : okE (EX h)) (a1 : Int32) (u : ST) : MX (EX h) yX4_skipByPort wsX4_skipByPort rmX4_skipByPort [.ref (xO h), .int a1] u (tW (fX4_skipByPort a1 u)) := by
  refine MX.of (cc := cX4_skipByPort) (maxL := 2) (ret := (some .int)) (lv := [(0, .ref (xO h)), (1, .int a1)]) hE (by decide) rfl (fun _ => rfl) (Nat.le_of_ble_eq_true rfl) rfl (fun K hC => ?_)
  unfold fX4_skipByPort
  refine g_aload_n 0 hC dX4_skipByPort_0 0 rfl ?_
  refine g_aload_n 1 hC dX4_skipByPort_1 0 rfl ?_
  refine x_get_bytes 2 hC fiX4_skipByPort_wsX40 fmX4_skipByPort_16 dX4_skipByPort_2 ?_
  refine g_bipush 5 hC (32 : Int32) dX4_skipByPort_5 (by decide) ?_
  refine g_iload_n 7 hC dX4_skipByPort_7 1 rfl ?_
  refine g_iconst 8 hC (3 : Int32) dX4_skipByPort_8 (by decide) ?_
  refine g_ishr 9 hC dX4_skipByPort_9 ?_
  refine g_bipush 10 hC (31 : Int32) dX4_skipByPort_10 (by decide) ?_
  refine g_iand 12 hC dX4_skipByPort_12 ?_
  refine g_iadd 13 hC dX4_skipByPort_13 ?_
  refine g_iload_n 14 hC dX4_skipByPort_14 1 rfl ?_
  refine g_bipush 15 hC (7 : Int32) dX4_skipByPort_15 (by decide) ?_
  refine g_iand 17 hC dX4_skipByPort_17 ?_
  refine kX0_bit 18 hC gX4_skipByPort_X0_bit ⟨Nat.le_of_ble_eq_true rfl, Nat.le_of_ble_eq_true rfl⟩ dX4_skipByPort_18 (Nat.le_of_ble_eq_true rfl) ?_
  refine g_iload_n 21 hC dX4_skipByPort_21 1 rfl ?_
  refine g_bipush 22 hC (9 : Int32) dX4_skipByPort_22 (by decide) ?_
  refine g_ishr 24 hC dX4_skipByPort_24 ?_
  refine g_iconst 25 hC (1 : Int32) dX4_skipByPort_25 (by decide) ?_
  refine g_iand 26 hC dX4_skipByPort_26 ?_
  refine g_cut 35 (if (fX0_bit ((32 : Int32) + ((jshr a1 (3 : Int32)) &&& (31 : Int32))) (a1 &&& (7 : Int32)) u) = ((jshr a1 (9 : Int32)) &&& (1 : Int32)) then (1 : Int32) else (0 : Int32)) [.ref (xO h)] ?_ (fun J2 => ?_)
  · skip
    refine kX4_skip 35 hC gX4_skipByPort_X4_skip ⟨Nat.le_of_ble_eq_true rfl, Nat.le_of_ble_eq_true rfl⟩ dX4_skipByPort_35 (Nat.le_of_ble_eq_true rfl) ?_
    exact g_iret 38 hC dX4_skipByPort_38
  · skip
    refine g_icmp_ne 27 hC 34 dX4_skipByPort_27 (by decide) (fun h1 => ?_) (fun h1 => ?_)
    · skip
      refine g_iconst 34 hC (0 : Int32) dX4_skipByPort_34 (by decide) ?_
      exact J2 _ (Eq.symm (if_neg h1))
    · skip
      refine g_iconst 30 hC (1 : Int32) dX4_skipByPort_30 (by decide) ?_
      refine g_goto 31 hC 35 dX4_skipByPort_31 (by decide) ?_
      exact J2 _ (Eq.symm (if_pos h1))
theorem kX4_skipByPort {K : KT} {h : HX} {cc : ByteArray} {nL : Nat} {own : String} {Ts : List Cond} {rm : Room} {ret : Option FieldType} {T : ST × Option Value} {u : ST} {lv : List (Nat × Value)} {rest : List Value} {idx : Nat} {a1 : Int32} (pc : Nat) (hC : Cx K (EX h) cc nL own Ts rm ret) (hT : GoodIn Ts (wsV own idx RX4 yX4_skipByPort wsX4_skipByPort)) (hR : rmX4_skipByPort.frames + 1 ≤ rm.frames ∧ 8 + (2 + 11) + rmX4_skipByPort.locals ≤ rm.locals) (hdg : decode cc pc = .ok (.invokevirtual idx, 3)) (hcat : (rest.map fun v => v.category).sum ≤ 8) (kk : G K (EX h) nL T (fX4_skipByPort a1 u).1 (pc + 3) lv (.int (fX4_skipByPort a1 u).2 :: rest)) : G K (EX h) nL T u pc lv (.int a1 :: .ref (xO h) :: rest) := g_callV (n := 1) pc hC (As := [.int a1]) (rest := rest) (cX4_skipByPort_ _ (Cx.ok hC) a1 u) hT rfl rfl rfl (by decide +kernel) hR 0 2 rfl rfl rfl rfl rfl hcat hdg kk

def fX4_skipByBit (a1 : Int32) (u : ST) : ST × Int32 :=
  (fX4_skip (if (fX0_bit (fX3_d a1) (a1 &&& (7 : Int32)) u) = ((jshr a1 (9 : Int32)) &&& (1 : Int32)) then (1 : Int32) else (0 : Int32)) u)
theorem fiX4_skipByBit_wsX40 : ∀ w ∈ wsX40, w ∈ wsX4_skipByBit := fun w h => List.mem_cons_of_mem _ (List.mem_append_left _ (List.mem_append_right _ h))
theorem fmX4_skipByBit_16 : Cond.fieldLink RX4 16 "FlagCore" "bytes" "LFlagCore$Bytes;" ∈ wsX4_skipByBit := List.mem_of_getElem? (i := 1) rfl
abbrev rmX4_skipByBit : Room := { frames := 2, cells := 0, slots := 0, locals := 42 }
set_option maxRecDepth 20000 in
theorem cX4_skipByBit_ (h : HX) (hE : okE (EX h)) (a1 : Int32) (u : ST) : MX (EX h) yX4_skipByBit wsX4_skipByBit rmX4_skipByBit [.ref (xO h), .int a1] u (tW (fX4_skipByBit a1 u)) := by
  refine MX.of (cc := cX4_skipByBit) (maxL := 2) (ret := (some .int)) (lv := [(0, .ref (xO h)), (1, .int a1)]) hE (by decide) rfl (fun _ => rfl) (Nat.le_of_ble_eq_true rfl) rfl (fun K hC => ?_)
  unfold fX4_skipByBit
  refine g_aload_n 0 hC dX4_skipByBit_0 0 rfl ?_
  refine g_aload_n 1 hC dX4_skipByBit_1 0 rfl ?_
  refine x_get_bytes 2 hC fiX4_skipByBit_wsX40 fmX4_skipByBit_16 dX4_skipByBit_2 ?_
  refine g_iload_n 5 hC dX4_skipByBit_5 1 rfl ?_
  refine kX3_d 6 hC gX4_skipByBit_X3_d ⟨Nat.le_of_ble_eq_true rfl, Nat.le_of_ble_eq_true rfl⟩ dX4_skipByBit_6 (Nat.le_of_ble_eq_true rfl) ?_
  refine g_iload_n 9 hC dX4_skipByBit_9 1 rfl ?_
  refine g_bipush 10 hC (7 : Int32) dX4_skipByBit_10 (by decide) ?_
  refine g_iand 12 hC dX4_skipByBit_12 ?_
  refine kX0_bit 13 hC gX4_skipByBit_X0_bit ⟨Nat.le_of_ble_eq_true rfl, Nat.le_of_ble_eq_true rfl⟩ dX4_skipByBit_13 (Nat.le_of_ble_eq_true rfl) ?_
  refine g_iload_n 16 hC dX4_skipByBit_16 1 rfl ?_
  refine g_bipush 17 hC (9 : Int32) dX4_skipByBit_17 (by decide) ?_
  refine g_ishr 19 hC dX4_skipByBit_19 ?_
  refine g_iconst 20 hC (1 : Int32) dX4_skipByBit_20 (by decide) ?_
  refine g_iand 21 hC dX4_skipByBit_21 ?_
  refine g_cut 30 (if (fX0_bit (fX3_d a1) (a1 &&& (7 : Int32)) u) = ((jshr a1 (9 : Int32)) &&& (1 : Int32)) then (1 : Int32) else (0 : Int32)) [.ref (xO h)] ?_ (fun J2 => ?_)
  · skip
    refine kX4_skip 30 hC gX4_skipByBit_X4_skip ⟨Nat.le_of_ble_eq_true rfl, Nat.le_of_ble_eq_true rfl⟩ dX4_skipByBit_30 (Nat.le_of_ble_eq_true rfl) ?_
    exact g_iret 33 hC dX4_skipByBit_33
  · skip
    refine g_icmp_ne 22 hC 29 dX4_skipByBit_22 (by decide) (fun h1 => ?_) (fun h1 => ?_)
    · skip
      refine g_iconst 29 hC (0 : Int32) dX4_skipByBit_29 (by decide) ?_
      exact J2 _ (Eq.symm (if_neg h1))
    · skip
      refine g_iconst 25 hC (1 : Int32) dX4_skipByBit_25 (by decide) ?_
      refine g_goto 26 hC 30 dX4_skipByBit_26 (by decide) ?_
      exact J2 _ (Eq.symm (if_pos h1))
theorem kX4_skipByBit {K : KT} {h : HX} {cc : ByteArray} {nL : Nat} {own : String} {Ts : List Cond} {rm : Room} {ret : Option FieldType} {T : ST × Option Value} {u : ST} {lv : List (Nat × Value)} {rest : List Value} {idx : Nat} {a1 : Int32} (pc : Nat) (hC : Cx K (EX h) cc nL own Ts rm ret) (hT : GoodIn Ts (wsV own idx RX4 yX4_skipByBit wsX4_skipByBit)) (hR : rmX4_skipByBit.frames + 1 ≤ rm.frames ∧ 8 + (2 + 11) + rmX4_skipByBit.locals ≤ rm.locals) (hdg : decode cc pc = .ok (.invokevirtual idx, 3)) (hcat : (rest.map fun v => v.category).sum ≤ 8) (kk : G K (EX h) nL T (fX4_skipByBit a1 u).1 (pc + 3) lv (.int (fX4_skipByBit a1 u).2 :: rest)) : G K (EX h) nL T u pc lv (.int a1 :: .ref (xO h) :: rest) := g_callV (n := 1) pc hC (As := [.int a1]) (rest := rest) (cX4_skipByBit_ _ (Cx.ok hC) a1 u) hT rfl rfl rfl (by decide +kernel) hR 0 2 rfl rfl rfl rfl rfl hcat hdg kk

def fX4_moveBit (a1 : Int32) (u : ST) : ST × Int32 :=
  (fX4_onward (1 : Int32) (if (a1 &&& (512 : Int32)) = 0 then (fX0_setBit (fX3_d a1) (a1 &&& (7 : Int32)) (fX0_flag (6 : Int32) u) u) else (fX0_setFlag (6 : Int32) (fX0_bit (fX3_d a1) (a1 &&& (7 : Int32)) u) u)))
theorem fiX4_moveBit_wsX40 : ∀ w ∈ wsX40, w ∈ wsX4_moveBit := fun w h => List.mem_cons_of_mem _ (List.mem_append_left _ (List.mem_append_right _ h))
theorem fmX4_moveBit_16 : Cond.fieldLink RX4 16 "FlagCore" "bytes" "LFlagCore$Bytes;" ∈ wsX4_moveBit := List.mem_of_getElem? (i := 1) rfl
abbrev rmX4_moveBit : Room := { frames := 3, cells := 0, slots := 0, locals := 67 }
set_option maxRecDepth 20000 in
theorem cX4_moveBit_ (h : HX) (hE : okE (EX h)) (a1 : Int32) (u : ST) : MX (EX h) yX4_moveBit wsX4_moveBit rmX4_moveBit [.ref (xO h), .int a1] u (tW (fX4_moveBit a1 u)) := by
  refine MX.of (cc := cX4_moveBit) (maxL := 3) (ret := (some .int)) (lv := [(0, .ref (xO h)), (1, .int a1)]) hE (by decide) rfl (fun _ => rfl) (Nat.le_of_ble_eq_true rfl) rfl (fun K hC => ?_)
  unfold fX4_moveBit
  refine g_iload_n 0 hC dX4_moveBit_0 1 rfl ?_
  refine kX3_d 1 hC gX4_moveBit_X3_d ⟨Nat.le_of_ble_eq_true rfl, Nat.le_of_ble_eq_true rfl⟩ dX4_moveBit_1 (Nat.le_of_ble_eq_true rfl) ?_
  refine g_istore_n 4 hC dX4_moveBit_4 (by decide) [(2, .int ((fX3_d a1))), (0, .ref (xO h)), (1, .int a1)] rfl ?_
  refine g_iload_n 5 hC dX4_moveBit_5 2 rfl ?_
  refine g_sipush 6 hC (512 : Int32) dX4_moveBit_6 (by decide) ?_
  refine g_iand 9 hC dX4_moveBit_9 ?_
  refine g_cutS 58 (if (a1 &&& (512 : Int32)) = 0 then (fX0_setBit (fX3_d a1) (a1 &&& (7 : Int32)) (fX0_flag (6 : Int32) u) u) else (fX0_setFlag (6 : Int32) (fX0_bit (fX3_d a1) (a1 &&& (7 : Int32)) u) u)) [] ?_ (fun J2 => ?_)
  · skip
    refine g_aload_n 58 hC dX4_moveBit_58 1 rfl ?_
    refine g_iconst 59 hC (1 : Int32) dX4_moveBit_59 (by decide) ?_
    refine kX4_onward 60 hC gX4_moveBit_X4_onward ⟨Nat.le_of_ble_eq_true rfl, Nat.le_of_ble_eq_true rfl⟩ dX4_moveBit_60 (Nat.le_of_ble_eq_true rfl) ?_
    exact g_iret 63 hC dX4_moveBit_63
  · skip
    refine g_if_ne 10 hC 37 dX4_moveBit_10 (by decide) (fun h1 => ?_) (fun h1 => ?_)
    · skip
      refine g_aload_n 37 hC dX4_moveBit_37 1 rfl ?_
      refine x_get_bytes 38 hC fiX4_moveBit_wsX40 fmX4_moveBit_16 dX4_moveBit_38 ?_
      refine g_bipush 41 hC (6 : Int32) dX4_moveBit_41 (by decide) ?_
      refine g_aload_n 43 hC dX4_moveBit_43 1 rfl ?_
      refine x_get_bytes 44 hC fiX4_moveBit_wsX40 fmX4_moveBit_16 dX4_moveBit_44 ?_
      refine g_iload_n 47 hC dX4_moveBit_47 0 rfl ?_
      refine g_iload_n 48 hC dX4_moveBit_48 2 rfl ?_
      refine g_bipush 49 hC (7 : Int32) dX4_moveBit_49 (by decide) ?_
      refine g_iand 51 hC dX4_moveBit_51 ?_
      refine kX0_bit 52 hC gX4_moveBit_X0_bit ⟨Nat.le_of_ble_eq_true rfl, Nat.le_of_ble_eq_true rfl⟩ dX4_moveBit_52 (Nat.le_of_ble_eq_true rfl) ?_
      refine kX0_setFlag 55 hC gX4_moveBit_X0_setFlag ⟨Nat.le_of_ble_eq_true rfl, Nat.le_of_ble_eq_true rfl⟩ dX4_moveBit_55 (Nat.le_of_ble_eq_true rfl) ?_
      exact J2 _ (Eq.symm (if_neg h1))
    · skip
      refine g_aload_n 13 hC dX4_moveBit_13 1 rfl ?_
      refine x_get_bytes 14 hC fiX4_moveBit_wsX40 fmX4_moveBit_16 dX4_moveBit_14 ?_
      refine g_iload_n 17 hC dX4_moveBit_17 0 rfl ?_
      refine g_iload_n 18 hC dX4_moveBit_18 2 rfl ?_
      refine g_bipush 19 hC (7 : Int32) dX4_moveBit_19 (by decide) ?_
      refine g_iand 21 hC dX4_moveBit_21 ?_
      refine g_aload_n 22 hC dX4_moveBit_22 1 rfl ?_
      refine x_get_bytes 23 hC fiX4_moveBit_wsX40 fmX4_moveBit_16 dX4_moveBit_23 ?_
      refine g_bipush 26 hC (6 : Int32) dX4_moveBit_26 (by decide) ?_
      refine kX0_flag 28 hC gX4_moveBit_X0_flag ⟨Nat.le_of_ble_eq_true rfl, Nat.le_of_ble_eq_true rfl⟩ dX4_moveBit_28 (Nat.le_of_ble_eq_true rfl) ?_
      refine kX0_setBit 31 hC gX4_moveBit_X0_setBit ⟨Nat.le_of_ble_eq_true rfl, Nat.le_of_ble_eq_true rfl⟩ dX4_moveBit_31 (Nat.le_of_ble_eq_true rfl) ?_
      refine g_goto 34 hC 58 dX4_moveBit_34 (by decide) ?_
      exact J2 _ (Eq.symm (if_pos h1))
theorem kX4_moveBit {K : KT} {h : HX} {cc : ByteArray} {nL : Nat} {own : String} {Ts : List Cond} {rm : Room} {ret : Option FieldType} {T : ST × Option Value} {u : ST} {lv : List (Nat × Value)} {rest : List Value} {idx : Nat} {a1 : Int32} (pc : Nat) (hC : Cx K (EX h) cc nL own Ts rm ret) (hT : GoodIn Ts (wsV own idx RX4 yX4_moveBit wsX4_moveBit)) (hR : rmX4_moveBit.frames + 1 ≤ rm.frames ∧ 8 + (3 + 11) + rmX4_moveBit.locals ≤ rm.locals) (hdg : decode cc pc = .ok (.invokevirtual idx, 3)) (hcat : (rest.map fun v => v.category).sum ≤ 8) (kk : G K (EX h) nL T (fX4_moveBit a1 u).1 (pc + 3) lv (.int (fX4_moveBit a1 u).2 :: rest)) : G K (EX h) nL T u pc lv (.int a1 :: .ref (xO h) :: rest) := g_callV (n := 1) pc hC (As := [.int a1]) (rest := rest) (cX4_moveBit_ _ (Cx.ok hC) a1 u) hT rfl rfl rfl (by decide +kernel) hR 0 2 rfl rfl rfl rfl rfl hcat hdg kk

def fX4_jumpTo (a1 : Int32) (u : ST) : ST × Int32 :=
  ((sPc u (a1 &&& (1023 : Int32))), (0 : Int32))
theorem fiX4_jumpTo_wsX40 : ∀ w ∈ wsX40, w ∈ wsX4_jumpTo := fun w h => List.mem_cons_of_mem _ (List.mem_append_right _ h)
theorem fmX4_jumpTo_32 : Cond.fieldLink RX4 32 "FlagCore" "pc" "I" ∈ wsX4_jumpTo := List.mem_of_getElem? (i := 1) rfl
abbrev rmX4_jumpTo : Room := { frames := 0, cells := 0, slots := 0, locals := 0 }
set_option maxRecDepth 20000 in
theorem cX4_jumpTo_ (h : HX) (hE : okE (EX h)) (a1 : Int32) (u : ST) : MX (EX h) yX4_jumpTo wsX4_jumpTo rmX4_jumpTo [.ref (xO h), .int a1] u (tW (fX4_jumpTo a1 u)) := by
  refine MX.of (cc := cX4_jumpTo) (maxL := 2) (ret := (some .int)) (lv := [(0, .ref (xO h)), (1, .int a1)]) hE (by decide) rfl (fun _ => rfl) (Nat.le_of_ble_eq_true rfl) rfl (fun K hC => ?_)
  unfold fX4_jumpTo
  refine g_aload_n 0 hC dX4_jumpTo_0 0 rfl ?_
  refine g_iload_n 1 hC dX4_jumpTo_1 1 rfl ?_
  refine g_sipush 2 hC (1023 : Int32) dX4_jumpTo_2 (by decide) ?_
  refine g_iand 5 hC dX4_jumpTo_5 ?_
  refine x_put_pc 6 hC fiX4_jumpTo_wsX40 fmX4_jumpTo_32 dX4_jumpTo_6 ?_
  refine g_iconst 9 hC (0 : Int32) dX4_jumpTo_9 (by decide) ?_
  exact g_iretW 10 hC dX4_jumpTo_10
theorem kX4_jumpTo {K : KT} {h : HX} {cc : ByteArray} {nL : Nat} {own : String} {Ts : List Cond} {rm : Room} {ret : Option FieldType} {T : ST × Option Value} {u : ST} {lv : List (Nat × Value)} {rest : List Value} {idx : Nat} {a1 : Int32} (pc : Nat) (hC : Cx K (EX h) cc nL own Ts rm ret) (hT : GoodIn Ts (wsV own idx RX4 yX4_jumpTo wsX4_jumpTo)) (hR : rmX4_jumpTo.frames + 1 ≤ rm.frames ∧ 8 + (2 + 11) + rmX4_jumpTo.locals ≤ rm.locals) (hdg : decode cc pc = .ok (.invokevirtual idx, 3)) (hcat : (rest.map fun v => v.category).sum ≤ 8) (kk : G K (EX h) nL T (fX4_jumpTo a1 u).1 (pc + 3) lv (.int (fX4_jumpTo a1 u).2 :: rest)) : G K (EX h) nL T u pc lv (.int a1 :: .ref (xO h) :: rest) := g_callV (n := 1) pc hC (As := [.int a1]) (rest := rest) (cX4_jumpTo_ _ (Cx.ok hC) a1 u) hT rfl rfl rfl (by decide +kernel) hR 0 2 rfl rfl rfl rfl rfl hcat hdg kk

def fX4_callTo (a1 : Int32) (a2 : Int32) (u : ST) : ST × Int32 :=
  if (fX0_stacks (a2 &&& (1023 : Int32)) u).2 = 0 then
    (((fX0_stacks (a2 &&& (1023 : Int32)) u).1), (3 : Int32))
  else
    ((sPc (wN ((fX0_stacks (a2 &&& (1023 : Int32)) u).1) (6 : Int32) ((rN ((fX0_stacks (a2 &&& (1023 : Int32)) u).1) (6 : Int32)) + (1 : Int32))) (a1 &&& (1023 : Int32))), (0 : Int32))
theorem fiX4_callTo_wsX40 : ∀ w ∈ wsX40, w ∈ wsX4_callTo := fun w h => List.mem_cons_of_mem _ (List.mem_append_left _ (List.mem_append_right _ h))
theorem fmX4_callTo_16 : Cond.fieldLink RX4 16 "FlagCore" "bytes" "LFlagCore$Bytes;" ∈ wsX4_callTo := List.mem_of_getElem? (i := 1) rfl
theorem fmX4_callTo_29 : Cond.fieldLink RX4 29 "FlagCore" "tallies" "[I" ∈ wsX4_callTo := List.mem_of_getElem? (i := 2) rfl
theorem fmX4_callTo_32 : Cond.fieldLink RX4 32 "FlagCore" "pc" "I" ∈ wsX4_callTo := List.mem_of_getElem? (i := 3) rfl
abbrev rmX4_callTo : Room := { frames := 2, cells := 0, slots := 0, locals := 44 }
set_option maxRecDepth 20000 in
theorem cX4_callTo_ (h : HX) (hE : okE (EX h)) (a1 : Int32) (a2 : Int32) (u : ST) : MX (EX h) yX4_callTo wsX4_callTo rmX4_callTo [.ref (xO h), .int a1, .int a2] u (tW (fX4_callTo a1 a2 u)) := by
  refine MX.of (cc := cX4_callTo) (maxL := 3) (ret := (some .int)) (lv := [(0, .ref (xO h)), (1, .int a1), (2, .int a2)]) hE (by decide) rfl (fun _ => rfl) (Nat.le_of_ble_eq_true rfl) rfl (fun K hC => ?_)
  unfold fX4_callTo
  refine g_aload_n 0 hC dX4_callTo_0 0 rfl ?_
  refine x_get_bytes 1 hC fiX4_callTo_wsX40 fmX4_callTo_16 dX4_callTo_1 ?_
  refine g_iload_n 4 hC dX4_callTo_4 2 rfl ?_
  refine g_sipush 5 hC (1023 : Int32) dX4_callTo_5 (by decide) ?_
  refine g_iand 8 hC dX4_callTo_8 ?_
  refine kX0_stacks 9 hC gX4_callTo_X0_stacks ⟨Nat.le_of_ble_eq_true rfl, Nat.le_of_ble_eq_true rfl⟩ dX4_callTo_9 (Nat.le_of_ble_eq_true rfl) ?_
  refine g_if_neT (tW) 12 hC 17 dX4_callTo_12 (by decide) (fun h1 => ?_) (fun h1 => ?_)
  · skip
    refine g_aload_n 17 hC dX4_callTo_17 0 rfl ?_
    refine x_get_tallies 18 hC fiX4_callTo_wsX40 fmX4_callTo_29 dX4_callTo_18 ?_
    refine g_bipush 21 hC (6 : Int32) dX4_callTo_21 (by decide) ?_
    refine g_dup2 23 hC dX4_callTo_23 rfl rfl ?_
    refine x_ldN 24 hC (vp_in_iff.mpr (by decide)) dX4_callTo_24 ?_
    refine g_iconst 25 hC (1 : Int32) dX4_callTo_25 (by decide) ?_
    refine g_iadd 26 hC dX4_callTo_26 ?_
    refine x_stN 27 hC (vp_in_iff.mpr (by decide)) dX4_callTo_27 ?_
    refine g_aload_n 28 hC dX4_callTo_28 0 rfl ?_
    refine g_iload_n 29 hC dX4_callTo_29 1 rfl ?_
    refine g_sipush 30 hC (1023 : Int32) dX4_callTo_30 (by decide) ?_
    refine g_iand 33 hC dX4_callTo_33 ?_
    refine x_put_pc 34 hC fiX4_callTo_wsX40 fmX4_callTo_32 dX4_callTo_34 ?_
    refine g_iconst 37 hC (0 : Int32) dX4_callTo_37 (by decide) ?_
    exact g_iretW 38 hC dX4_callTo_38
  · skip
    refine g_iconst 15 hC (3 : Int32) dX4_callTo_15 (by decide) ?_
    exact g_iretW 16 hC dX4_callTo_16
theorem kX4_callTo {K : KT} {h : HX} {cc : ByteArray} {nL : Nat} {own : String} {Ts : List Cond} {rm : Room} {ret : Option FieldType} {T : ST × Option Value} {u : ST} {lv : List (Nat × Value)} {rest : List Value} {idx : Nat} {a1 : Int32} {a2 : Int32} (pc : Nat) (hC : Cx K (EX h) cc nL own Ts rm ret) (hT : GoodIn Ts (wsV own idx RX4 yX4_callTo wsX4_callTo)) (hR : rmX4_callTo.frames + 1 ≤ rm.frames ∧ 8 + (3 + 11) + rmX4_callTo.locals ≤ rm.locals) (hdg : decode cc pc = .ok (.invokevirtual idx, 3)) (hcat : (rest.map fun v => v.category).sum ≤ 8) (kk : G K (EX h) nL T (fX4_callTo a1 a2 u).1 (pc + 3) lv (.int (fX4_callTo a1 a2 u).2 :: rest)) : G K (EX h) nL T u pc lv (.int a2 :: .int a1 :: .ref (xO h) :: rest) := g_callV (n := 2) pc hC (As := [.int a1, .int a2]) (rest := rest) (cX4_callTo_ _ (Cx.ok hC) a1 a2 u) hT rfl rfl rfl (by decide +kernel) hR 0 2 rfl rfl rfl rfl rfl hcat hdg kk

def fX4_jumpNear (a1 : Int32) (u : ST) : ST × Int32 :=
  if (a1 &&& (4096 : Int32)) = 0 then
    (fX4_jumpTo (((gPc u) + (1 : Int32)) + (jshr (jshl a1 (20 : Int32)) (20 : Int32))) u)
  else
    (fX4_callTo (((gPc u) + (1 : Int32)) + (jshr (jshl a1 (20 : Int32)) (20 : Int32))) ((gPc u) + (1 : Int32)) u)
theorem fiX4_jumpNear_wsX40 : ∀ w ∈ wsX40, w ∈ wsX4_jumpNear := fun w h => List.mem_cons_of_mem _ (List.mem_append_left _ (List.mem_append_right _ h))
theorem fmX4_jumpNear_32 : Cond.fieldLink RX4 32 "FlagCore" "pc" "I" ∈ wsX4_jumpNear := List.mem_of_getElem? (i := 1) rfl
abbrev rmX4_jumpNear : Room := { frames := 3, cells := 0, slots := 0, locals := 66 }
set_option maxRecDepth 20000 in
theorem cX4_jumpNear_ (h : HX) (hE : okE (EX h)) (a1 : Int32) (u : ST) : MX (EX h) yX4_jumpNear wsX4_jumpNear rmX4_jumpNear [.ref (xO h), .int a1] u (tW (fX4_jumpNear a1 u)) := by
  refine MX.of (cc := cX4_jumpNear) (maxL := 4) (ret := (some .int)) (lv := [(0, .ref (xO h)), (1, .int a1)]) hE (by decide) rfl (fun _ => rfl) (Nat.le_of_ble_eq_true rfl) rfl (fun K hC => ?_)
  unfold fX4_jumpNear
  refine g_iload_n 0 hC dX4_jumpNear_0 1 rfl ?_
  refine g_bipush 1 hC (20 : Int32) dX4_jumpNear_1 (by decide) ?_
  refine g_ishl 3 hC dX4_jumpNear_3 ?_
  refine g_bipush 4 hC (20 : Int32) dX4_jumpNear_4 (by decide) ?_
  refine g_ishr 6 hC dX4_jumpNear_6 ?_
  refine g_istore_n 7 hC dX4_jumpNear_7 (by decide) [(2, .int ((jshr (jshl a1 (20 : Int32)) (20 : Int32)))), (0, .ref (xO h)), (1, .int a1)] rfl ?_
  refine g_aload_n 8 hC dX4_jumpNear_8 1 rfl ?_
  refine x_get_pc 9 hC fiX4_jumpNear_wsX40 fmX4_jumpNear_32 dX4_jumpNear_9 ?_
  refine g_iconst 12 hC (1 : Int32) dX4_jumpNear_12 (by decide) ?_
  refine g_iadd 13 hC dX4_jumpNear_13 ?_
  refine g_istore_n 14 hC dX4_jumpNear_14 (by decide) [(3, .int (((gPc u) + (1 : Int32)))), (2, .int ((jshr (jshl a1 (20 : Int32)) (20 : Int32)))), (0, .ref (xO h)), (1, .int a1)] rfl ?_
  refine g_iload_n 15 hC dX4_jumpNear_15 3 rfl ?_
  refine g_sipush 16 hC (4096 : Int32) dX4_jumpNear_16 (by decide) ?_
  refine g_iand 19 hC dX4_jumpNear_19 ?_
  refine g_if_neT (tW) 20 hC 33 dX4_jumpNear_20 (by decide) (fun h1 => ?_) (fun h1 => ?_)
  · skip
    refine g_aload_n 33 hC dX4_jumpNear_33 2 rfl ?_
    refine g_iload_n 34 hC dX4_jumpNear_34 0 rfl ?_
    refine g_iload_n 35 hC dX4_jumpNear_35 1 rfl ?_
    refine g_iadd 36 hC dX4_jumpNear_36 ?_
    refine g_iload_n 37 hC dX4_jumpNear_37 0 rfl ?_
    refine kX4_callTo 38 hC gX4_jumpNear_X4_callTo ⟨Nat.le_of_ble_eq_true rfl, Nat.le_of_ble_eq_true rfl⟩ dX4_jumpNear_38 (Nat.le_of_ble_eq_true rfl) ?_
    exact g_iret 41 hC dX4_jumpNear_41
  · skip
    refine g_aload_n 23 hC dX4_jumpNear_23 2 rfl ?_
    refine g_iload_n 24 hC dX4_jumpNear_24 0 rfl ?_
    refine g_iload_n 25 hC dX4_jumpNear_25 1 rfl ?_
    refine g_iadd 26 hC dX4_jumpNear_26 ?_
    refine kX4_jumpTo 27 hC gX4_jumpNear_X4_jumpTo ⟨Nat.le_of_ble_eq_true rfl, Nat.le_of_ble_eq_true rfl⟩ dX4_jumpNear_27 (Nat.le_of_ble_eq_true rfl) ?_
    refine g_goto 30 hC 41 dX4_jumpNear_30 (by decide) ?_
    exact g_iret 41 hC dX4_jumpNear_41
theorem kX4_jumpNear {K : KT} {h : HX} {cc : ByteArray} {nL : Nat} {own : String} {Ts : List Cond} {rm : Room} {ret : Option FieldType} {T : ST × Option Value} {u : ST} {lv : List (Nat × Value)} {rest : List Value} {idx : Nat} {a1 : Int32} (pc : Nat) (hC : Cx K (EX h) cc nL own Ts rm ret) (hT : GoodIn Ts (wsV own idx RX4 yX4_jumpNear wsX4_jumpNear)) (hR : rmX4_jumpNear.frames + 1 ≤ rm.frames ∧ 8 + (4 + 11) + rmX4_jumpNear.locals ≤ rm.locals) (hdg : decode cc pc = .ok (.invokevirtual idx, 3)) (hcat : (rest.map fun v => v.category).sum ≤ 8) (kk : G K (EX h) nL T (fX4_jumpNear a1 u).1 (pc + 3) lv (.int (fX4_jumpNear a1 u).2 :: rest)) : G K (EX h) nL T u pc lv (.int a1 :: .ref (xO h) :: rest) := g_callV (n := 1) pc hC (As := [.int a1]) (rest := rest) (cX4_jumpNear_ _ (Cx.ok hC) a1 u) hT rfl rfl rfl (by decide +kernel) hR 0 2 rfl rfl rfl rfl rfl hcat hdg kk

def fX4_branch (a1 : Int32) (u : ST) : ST × Int32 :=
  (fX4_onward (if (fX0_flag (a1 &&& (7 : Int32)) u) = (if (a1 &&& (1024 : Int32)) = 0 then (1 : Int32) else (0 : Int32)) then ((1 : Int32) + (jshr (jshl a1 (22 : Int32)) (25 : Int32))) else (1 : Int32)) u)
theorem fiX4_branch_wsX40 : ∀ w ∈ wsX40, w ∈ wsX4_branch := fun w h => List.mem_cons_of_mem _ (List.mem_append_left _ (List.mem_append_right _ h))
theorem fmX4_branch_16 : Cond.fieldLink RX4 16 "FlagCore" "bytes" "LFlagCore$Bytes;" ∈ wsX4_branch := List.mem_of_getElem? (i := 1) rfl
abbrev rmX4_branch : Room := { frames := 1, cells := 0, slots := 0, locals := 21 }
set_option maxRecDepth 20000 in
theorem cX4_branch_ (h : HX) (hE : okE (EX h)) (a1 : Int32) (u : ST) : MX (EX h) yX4_branch wsX4_branch rmX4_branch [.ref (xO h), .int a1] u (tW (fX4_branch a1 u)) := by
  refine MX.of (cc := cX4_branch) (maxL := 4) (ret := (some .int)) (lv := [(0, .ref (xO h)), (1, .int a1)]) hE (by decide) rfl (fun _ => rfl) (Nat.le_of_ble_eq_true rfl) rfl (fun K hC => ?_)
  unfold fX4_branch
  refine g_iload_n 0 hC dX4_branch_0 1 rfl ?_
  refine g_bipush 1 hC (22 : Int32) dX4_branch_1 (by decide) ?_
  refine g_ishl 3 hC dX4_branch_3 ?_
  refine g_bipush 4 hC (25 : Int32) dX4_branch_4 (by decide) ?_
  refine g_ishr 6 hC dX4_branch_6 ?_
  refine g_istore_n 7 hC dX4_branch_7 (by decide) [(2, .int ((jshr (jshl a1 (22 : Int32)) (25 : Int32)))), (0, .ref (xO h)), (1, .int a1)] rfl ?_
  refine g_iload_n 8 hC dX4_branch_8 2 rfl ?_
  refine g_sipush 9 hC (1024 : Int32) dX4_branch_9 (by decide) ?_
  refine g_iand 12 hC dX4_branch_12 ?_
  refine g_cut 21 (if (a1 &&& (1024 : Int32)) = 0 then (1 : Int32) else (0 : Int32)) [] ?_ (fun J2 => ?_)
  · skip
    refine g_istore_n 21 hC dX4_branch_21 (by decide) [(3, .int ((if (a1 &&& (1024 : Int32)) = 0 then (1 : Int32) else (0 : Int32)))), (2, .int ((jshr (jshl a1 (22 : Int32)) (25 : Int32)))), (0, .ref (xO h)), (1, .int a1)] rfl ?_
    refine g_aload_n 22 hC dX4_branch_22 2 rfl ?_
    refine g_aload_n 23 hC dX4_branch_23 2 rfl ?_
    refine x_get_bytes 24 hC fiX4_branch_wsX40 fmX4_branch_16 dX4_branch_24 ?_
    refine g_iload_n 27 hC dX4_branch_27 3 rfl ?_
    refine g_bipush 28 hC (7 : Int32) dX4_branch_28 (by decide) ?_
    refine g_iand 30 hC dX4_branch_30 ?_
    refine kX0_flag 31 hC gX4_branch_X0_flag ⟨Nat.le_of_ble_eq_true rfl, Nat.le_of_ble_eq_true rfl⟩ dX4_branch_31 (Nat.le_of_ble_eq_true rfl) ?_
    refine g_iload_n 34 hC dX4_branch_34 0 rfl ?_
    refine g_cut 45 (if (fX0_flag (a1 &&& (7 : Int32)) u) = (if (a1 &&& (1024 : Int32)) = 0 then (1 : Int32) else (0 : Int32)) then ((1 : Int32) + (jshr (jshl a1 (22 : Int32)) (25 : Int32))) else (1 : Int32)) [.ref (xO h)] ?_ (fun J4 => ?_)
    · skip
      refine kX4_onward 45 hC gX4_branch_X4_onward ⟨Nat.le_of_ble_eq_true rfl, Nat.le_of_ble_eq_true rfl⟩ dX4_branch_45 (Nat.le_of_ble_eq_true rfl) ?_
      exact g_iret 48 hC dX4_branch_48
    · skip
      refine g_icmp_ne 35 hC 44 dX4_branch_35 (by decide) (fun h3 => ?_) (fun h3 => ?_)
      · skip
        refine g_iconst 44 hC (1 : Int32) dX4_branch_44 (by decide) ?_
        exact J4 _ (Eq.symm (if_neg h3))
      · skip
        refine g_iconst 38 hC (1 : Int32) dX4_branch_38 (by decide) ?_
        refine g_iload_n 39 hC dX4_branch_39 1 rfl ?_
        refine g_iadd 40 hC dX4_branch_40 ?_
        refine g_goto 41 hC 45 dX4_branch_41 (by decide) ?_
        exact J4 _ (Eq.symm (if_pos h3))
  · skip
    refine g_if_ne 13 hC 20 dX4_branch_13 (by decide) (fun h1 => ?_) (fun h1 => ?_)
    · skip
      refine g_iconst 20 hC (0 : Int32) dX4_branch_20 (by decide) ?_
      exact J2 _ (Eq.symm (if_neg h1))
    · skip
      refine g_iconst 16 hC (1 : Int32) dX4_branch_16 (by decide) ?_
      refine g_goto 17 hC 21 dX4_branch_17 (by decide) ?_
      exact J2 _ (Eq.symm (if_pos h1))
theorem kX4_branch {K : KT} {h : HX} {cc : ByteArray} {nL : Nat} {own : String} {Ts : List Cond} {rm : Room} {ret : Option FieldType} {T : ST × Option Value} {u : ST} {lv : List (Nat × Value)} {rest : List Value} {idx : Nat} {a1 : Int32} (pc : Nat) (hC : Cx K (EX h) cc nL own Ts rm ret) (hT : GoodIn Ts (wsV own idx RX4 yX4_branch wsX4_branch)) (hR : rmX4_branch.frames + 1 ≤ rm.frames ∧ 8 + (4 + 11) + rmX4_branch.locals ≤ rm.locals) (hdg : decode cc pc = .ok (.invokevirtual idx, 3)) (hcat : (rest.map fun v => v.category).sum ≤ 8) (kk : G K (EX h) nL T (fX4_branch a1 u).1 (pc + 3) lv (.int (fX4_branch a1 u).2 :: rest)) : G K (EX h) nL T u pc lv (.int a1 :: .ref (xO h) :: rest) := g_callV (n := 1) pc hC (As := [.int a1]) (rest := rest) (cX4_branch_ _ (Cx.ok hC) a1 u) hT rfl rfl rfl (by decide +kernel) hR 0 2 rfl rfl rfl rfl rfl hcat hdg kk

def fX4_jumpFar (a1 : Int32) (u : ST) : ST × Int32 :=
  if (a1 &&& (2 : Int32)) = 0 then
    (fX4_jumpTo (fX4_cellAt ((gPc u) + (1 : Int32)) u) u)
  else
    (fX4_callTo (fX4_cellAt ((gPc u) + (1 : Int32)) u) ((gPc u) + (2 : Int32)) u)
theorem fiX4_jumpFar_wsX40 : ∀ w ∈ wsX40, w ∈ wsX4_jumpFar := fun w h => List.mem_cons_of_mem _ (List.mem_append_left _ (List.mem_append_right _ h))
theorem fmX4_jumpFar_32 : Cond.fieldLink RX4 32 "FlagCore" "pc" "I" ∈ wsX4_jumpFar := List.mem_of_getElem? (i := 1) rfl
abbrev rmX4_jumpFar : Room := { frames := 3, cells := 0, slots := 0, locals := 66 }
set_option maxRecDepth 20000 in
theorem cX4_jumpFar_ (h : HX) (hE : okE (EX h)) (a1 : Int32) (u : ST) : MX (EX h) yX4_jumpFar wsX4_jumpFar rmX4_jumpFar [.ref (xO h), .int a1] u (tW (fX4_jumpFar a1 u)) := by
  refine MX.of (cc := cX4_jumpFar) (maxL := 3) (ret := (some .int)) (lv := [(0, .ref (xO h)), (1, .int a1)]) hE (by decide) rfl (fun _ => rfl) (Nat.le_of_ble_eq_true rfl) rfl (fun K hC => ?_)
  unfold fX4_jumpFar
  refine g_aload_n 0 hC dX4_jumpFar_0 0 rfl ?_
  refine g_aload_n 1 hC dX4_jumpFar_1 0 rfl ?_
  refine x_get_pc 2 hC fiX4_jumpFar_wsX40 fmX4_jumpFar_32 dX4_jumpFar_2 ?_
  refine g_iconst 5 hC (1 : Int32) dX4_jumpFar_5 (by decide) ?_
  refine g_iadd 6 hC dX4_jumpFar_6 ?_
  refine kX4_cellAt 7 hC gX4_jumpFar_X4_cellAt ⟨Nat.le_of_ble_eq_true rfl, Nat.le_of_ble_eq_true rfl⟩ dX4_jumpFar_7 (Nat.le_of_ble_eq_true rfl) ?_
  refine g_istore_n 10 hC dX4_jumpFar_10 (by decide) [(2, .int ((fX4_cellAt ((gPc u) + (1 : Int32)) u))), (0, .ref (xO h)), (1, .int a1)] rfl ?_
  refine g_iload_n 11 hC dX4_jumpFar_11 2 rfl ?_
  refine g_iconst 12 hC (2 : Int32) dX4_jumpFar_12 (by decide) ?_
  refine g_iand 13 hC dX4_jumpFar_13 ?_
  refine g_if_neT (tW) 14 hC 25 dX4_jumpFar_14 (by decide) (fun h1 => ?_) (fun h1 => ?_)
  · skip
    refine g_aload_n 25 hC dX4_jumpFar_25 1 rfl ?_
    refine g_iload_n 26 hC dX4_jumpFar_26 0 rfl ?_
    refine g_aload_n 27 hC dX4_jumpFar_27 1 rfl ?_
    refine x_get_pc 28 hC fiX4_jumpFar_wsX40 fmX4_jumpFar_32 dX4_jumpFar_28 ?_
    refine g_iconst 31 hC (2 : Int32) dX4_jumpFar_31 (by decide) ?_
    refine g_iadd 32 hC dX4_jumpFar_32 ?_
    refine kX4_callTo 33 hC gX4_jumpFar_X4_callTo ⟨Nat.le_of_ble_eq_true rfl, Nat.le_of_ble_eq_true rfl⟩ dX4_jumpFar_33 (Nat.le_of_ble_eq_true rfl) ?_
    exact g_iret 36 hC dX4_jumpFar_36
  · skip
    refine g_aload_n 17 hC dX4_jumpFar_17 1 rfl ?_
    refine g_iload_n 18 hC dX4_jumpFar_18 0 rfl ?_
    refine kX4_jumpTo 19 hC gX4_jumpFar_X4_jumpTo ⟨Nat.le_of_ble_eq_true rfl, Nat.le_of_ble_eq_true rfl⟩ dX4_jumpFar_19 (Nat.le_of_ble_eq_true rfl) ?_
    refine g_goto 22 hC 36 dX4_jumpFar_22 (by decide) ?_
    exact g_iret 36 hC dX4_jumpFar_36
theorem kX4_jumpFar {K : KT} {h : HX} {cc : ByteArray} {nL : Nat} {own : String} {Ts : List Cond} {rm : Room} {ret : Option FieldType} {T : ST × Option Value} {u : ST} {lv : List (Nat × Value)} {rest : List Value} {idx : Nat} {a1 : Int32} (pc : Nat) (hC : Cx K (EX h) cc nL own Ts rm ret) (hT : GoodIn Ts (wsV own idx RX4 yX4_jumpFar wsX4_jumpFar)) (hR : rmX4_jumpFar.frames + 1 ≤ rm.frames ∧ 8 + (3 + 11) + rmX4_jumpFar.locals ≤ rm.locals) (hdg : decode cc pc = .ok (.invokevirtual idx, 3)) (hcat : (rest.map fun v => v.category).sum ≤ 8) (kk : G K (EX h) nL T (fX4_jumpFar a1 u).1 (pc + 3) lv (.int (fX4_jumpFar a1 u).2 :: rest)) : G K (EX h) nL T u pc lv (.int a1 :: .ref (xO h) :: rest) := g_callV (n := 1) pc hC (As := [.int a1]) (rest := rest) (cX4_jumpFar_ _ (Cx.ok hC) a1 u) hT rfl rfl rfl (by decide +kernel) hR 0 2 rfl rfl rfl rfl rfl hcat hdg kk

def fX4_jumpToZ (a1 : Int32) (u : ST) : ST × Int32 :=
  if (a1 &&& (256 : Int32)) = 0 then
    (fX4_jumpTo (fX0_pair (30 : Int32) u) u)
  else
    (fX4_callTo (fX0_pair (30 : Int32) u) ((gPc u) + (1 : Int32)) u)
theorem fiX4_jumpToZ_wsX40 : ∀ w ∈ wsX40, w ∈ wsX4_jumpToZ := fun w h => List.mem_cons_of_mem _ (List.mem_append_left _ (List.mem_append_right _ h))
theorem fmX4_jumpToZ_16 : Cond.fieldLink RX4 16 "FlagCore" "bytes" "LFlagCore$Bytes;" ∈ wsX4_jumpToZ := List.mem_of_getElem? (i := 1) rfl
theorem fmX4_jumpToZ_32 : Cond.fieldLink RX4 32 "FlagCore" "pc" "I" ∈ wsX4_jumpToZ := List.mem_of_getElem? (i := 2) rfl
abbrev rmX4_jumpToZ : Room := { frames := 3, cells := 0, slots := 0, locals := 66 }
set_option maxRecDepth 20000 in
theorem cX4_jumpToZ_ (h : HX) (hE : okE (EX h)) (a1 : Int32) (u : ST) : MX (EX h) yX4_jumpToZ wsX4_jumpToZ rmX4_jumpToZ [.ref (xO h), .int a1] u (tW (fX4_jumpToZ a1 u)) := by
  refine MX.of (cc := cX4_jumpToZ) (maxL := 3) (ret := (some .int)) (lv := [(0, .ref (xO h)), (1, .int a1)]) hE (by decide) rfl (fun _ => rfl) (Nat.le_of_ble_eq_true rfl) rfl (fun K hC => ?_)
  unfold fX4_jumpToZ
  refine g_aload_n 0 hC dX4_jumpToZ_0 0 rfl ?_
  refine x_get_bytes 1 hC fiX4_jumpToZ_wsX40 fmX4_jumpToZ_16 dX4_jumpToZ_1 ?_
  refine g_bipush 4 hC (30 : Int32) dX4_jumpToZ_4 (by decide) ?_
  refine kX0_pair 6 hC gX4_jumpToZ_X0_pair ⟨Nat.le_of_ble_eq_true rfl, Nat.le_of_ble_eq_true rfl⟩ dX4_jumpToZ_6 (Nat.le_of_ble_eq_true rfl) ?_
  refine g_istore_n 9 hC dX4_jumpToZ_9 (by decide) [(2, .int ((fX0_pair (30 : Int32) u))), (0, .ref (xO h)), (1, .int a1)] rfl ?_
  refine g_iload_n 10 hC dX4_jumpToZ_10 2 rfl ?_
  refine g_sipush 11 hC (256 : Int32) dX4_jumpToZ_11 (by decide) ?_
  refine g_iand 14 hC dX4_jumpToZ_14 ?_
  refine g_if_neT (tW) 15 hC 26 dX4_jumpToZ_15 (by decide) (fun h1 => ?_) (fun h1 => ?_)
  · skip
    refine g_aload_n 26 hC dX4_jumpToZ_26 1 rfl ?_
    refine g_iload_n 27 hC dX4_jumpToZ_27 0 rfl ?_
    refine g_aload_n 28 hC dX4_jumpToZ_28 1 rfl ?_
    refine x_get_pc 29 hC fiX4_jumpToZ_wsX40 fmX4_jumpToZ_32 dX4_jumpToZ_29 ?_
    refine g_iconst 32 hC (1 : Int32) dX4_jumpToZ_32 (by decide) ?_
    refine g_iadd 33 hC dX4_jumpToZ_33 ?_
    refine kX4_callTo 34 hC gX4_jumpToZ_X4_callTo ⟨Nat.le_of_ble_eq_true rfl, Nat.le_of_ble_eq_true rfl⟩ dX4_jumpToZ_34 (Nat.le_of_ble_eq_true rfl) ?_
    exact g_iret 37 hC dX4_jumpToZ_37
  · skip
    refine g_aload_n 18 hC dX4_jumpToZ_18 1 rfl ?_
    refine g_iload_n 19 hC dX4_jumpToZ_19 0 rfl ?_
    refine kX4_jumpTo 20 hC gX4_jumpToZ_X4_jumpTo ⟨Nat.le_of_ble_eq_true rfl, Nat.le_of_ble_eq_true rfl⟩ dX4_jumpToZ_20 (Nat.le_of_ble_eq_true rfl) ?_
    refine g_goto 23 hC 37 dX4_jumpToZ_23 (by decide) ?_
    exact g_iret 37 hC dX4_jumpToZ_37
theorem kX4_jumpToZ {K : KT} {h : HX} {cc : ByteArray} {nL : Nat} {own : String} {Ts : List Cond} {rm : Room} {ret : Option FieldType} {T : ST × Option Value} {u : ST} {lv : List (Nat × Value)} {rest : List Value} {idx : Nat} {a1 : Int32} (pc : Nat) (hC : Cx K (EX h) cc nL own Ts rm ret) (hT : GoodIn Ts (wsV own idx RX4 yX4_jumpToZ wsX4_jumpToZ)) (hR : rmX4_jumpToZ.frames + 1 ≤ rm.frames ∧ 8 + (3 + 11) + rmX4_jumpToZ.locals ≤ rm.locals) (hdg : decode cc pc = .ok (.invokevirtual idx, 3)) (hcat : (rest.map fun v => v.category).sum ≤ 8) (kk : G K (EX h) nL T (fX4_jumpToZ a1 u).1 (pc + 3) lv (.int (fX4_jumpToZ a1 u).2 :: rest)) : G K (EX h) nL T u pc lv (.int a1 :: .ref (xO h) :: rest) := g_callV (n := 1) pc hC (As := [.int a1]) (rest := rest) (cX4_jumpToZ_ _ (Cx.ok hC) a1 u) hT rfl rfl rfl (by decide +kernel) hR 0 2 rfl rfl rfl rfl rfl hcat hdg kk

def fX4_comeBack (a1 : Int32) (u : ST) : ST × Int32 :=
  if (1023 : Int32) < (((fX0_pair (93 : Int32) u) + (1 : Int32)) &&& (65535 : Int32)) then
    (u, (3 : Int32))
  else
    if (((fX0_pair (93 : Int32) u) + (2 : Int32)) &&& (65535 : Int32)) ≤ (1023 : Int32) then
      (fX4_jumpTo ((jshl (fX0_pull u).2 (8 : Int32)) ||| (fX0_pull ((fX0_pull u).1)).2) (if a1 = (38168 : Int32) then (fX0_setFlag (7 : Int32) (1 : Int32) ((fX0_pull ((fX0_pull u).1)).1)) else ((fX0_pull ((fX0_pull u).1)).1)))
    else
      (u, (3 : Int32))
theorem fiX4_comeBack_wsX40 : ∀ w ∈ wsX40, w ∈ wsX4_comeBack := fun w h => List.mem_cons_of_mem _ (List.mem_append_left _ (List.mem_append_right _ h))
theorem fmX4_comeBack_16 : Cond.fieldLink RX4 16 "FlagCore" "bytes" "LFlagCore$Bytes;" ∈ wsX4_comeBack := List.mem_of_getElem? (i := 1) rfl
theorem cmX4_comeBack_50 : Jvm.Cond.constant RX4 50 (65535 : Int32) ∈ wsX4_comeBack := List.mem_of_getElem? (i := 2) rfl
theorem cmX4_comeBack_90 : Jvm.Cond.constant RX4 90 (38168 : Int32) ∈ wsX4_comeBack := List.mem_of_getElem? (i := 3) rfl
abbrev rmX4_comeBack : Room := { frames := 3, cells := 0, slots := 0, locals := 67 }
set_option maxRecDepth 20000 in
theorem cX4_comeBack_ (h : HX) (hE : okE (EX h)) (a1 : Int32) (u : ST) : MX (EX h) yX4_comeBack wsX4_comeBack rmX4_comeBack [.ref (xO h), .int a1] u (tW (fX4_comeBack a1 u)) := by
  refine MX.of (cc := cX4_comeBack) (maxL := 5) (ret := (some .int)) (lv := [(0, .ref (xO h)), (1, .int a1)]) hE (by decide) rfl (fun _ => rfl) (Nat.le_of_ble_eq_true rfl) rfl (fun K hC => ?_)
  unfold fX4_comeBack
  refine g_aload_n 0 hC dX4_comeBack_0 0 rfl ?_
  refine x_get_bytes 1 hC fiX4_comeBack_wsX40 fmX4_comeBack_16 dX4_comeBack_1 ?_
  refine g_bipush 4 hC (93 : Int32) dX4_comeBack_4 (by decide) ?_
  refine kX0_pair 6 hC gX4_comeBack_X0_pair ⟨Nat.le_of_ble_eq_true rfl, Nat.le_of_ble_eq_true rfl⟩ dX4_comeBack_6 (Nat.le_of_ble_eq_true rfl) ?_
  refine g_istore_n 9 hC dX4_comeBack_9 (by decide) [(2, .int ((fX0_pair (93 : Int32) u))), (0, .ref (xO h)), (1, .int a1)] rfl ?_
  refine g_iload_n 10 hC dX4_comeBack_10 0 rfl ?_
  refine g_iconst 11 hC (1 : Int32) dX4_comeBack_11 (by decide) ?_
  refine g_iadd 12 hC dX4_comeBack_12 ?_
  refine g_ldc 13 hC (65535 : Int32) dX4_comeBack_13 cmX4_comeBack_50 ?_
  refine g_iand 15 hC dX4_comeBack_15 ?_
  refine g_sipush 16 hC (1023 : Int32) dX4_comeBack_16 (by decide) ?_
  refine g_icmp_gtT (tW) 19 hC 34 dX4_comeBack_19 (by decide) (fun h1 => ?_) (fun h1 => ?_)
  · skip
    refine g_iconst 34 hC (3 : Int32) dX4_comeBack_34 (by decide) ?_
    exact g_iretW 35 hC dX4_comeBack_35
  · skip
    refine g_iload_n 22 hC dX4_comeBack_22 0 rfl ?_
    refine g_iconst 23 hC (2 : Int32) dX4_comeBack_23 (by decide) ?_
    refine g_iadd 24 hC dX4_comeBack_24 ?_
    refine g_ldc 25 hC (65535 : Int32) dX4_comeBack_25 cmX4_comeBack_50 ?_
    refine g_iand 27 hC dX4_comeBack_27 ?_
    refine g_sipush 28 hC (1023 : Int32) dX4_comeBack_28 (by decide) ?_
    refine g_icmp_leT (tW) 31 hC 36 dX4_comeBack_31 (by decide) (fun h2 => ?_) (fun h2 => ?_)
    · skip
      refine g_aload_n 36 hC dX4_comeBack_36 1 rfl ?_
      refine x_get_bytes 37 hC fiX4_comeBack_wsX40 fmX4_comeBack_16 dX4_comeBack_37 ?_
      refine kX0_pull 40 hC gX4_comeBack_X0_pull ⟨Nat.le_of_ble_eq_true rfl, Nat.le_of_ble_eq_true rfl⟩ dX4_comeBack_40 (Nat.le_of_ble_eq_true rfl) ?_
      refine g_istore_n 43 hC dX4_comeBack_43 (by decide) [(3, .int ((fX0_pull u).2)), (2, .int ((fX0_pair (93 : Int32) u))), (0, .ref (xO h)), (1, .int a1)] rfl ?_
      refine g_aload_n 44 hC dX4_comeBack_44 2 rfl ?_
      refine x_get_bytes 45 hC fiX4_comeBack_wsX40 fmX4_comeBack_16 dX4_comeBack_45 ?_
      refine kX0_pull 48 hC gX4_comeBack_X0_pull ⟨Nat.le_of_ble_eq_true rfl, Nat.le_of_ble_eq_true rfl⟩ dX4_comeBack_48 (Nat.le_of_ble_eq_true rfl) ?_
      refine g_istore 51 hC dX4_comeBack_51 (by decide) [(4, .int ((fX0_pull ((fX0_pull u).1)).2)), (3, .int ((fX0_pull u).2)), (2, .int ((fX0_pair (93 : Int32) u))), (0, .ref (xO h)), (1, .int a1)] rfl ?_
      refine g_iload_n 53 hC dX4_comeBack_53 4 rfl ?_
      refine g_ldc 54 hC (38168 : Int32) dX4_comeBack_54 cmX4_comeBack_90 ?_
      refine g_cutS 69 (if a1 = (38168 : Int32) then (fX0_setFlag (7 : Int32) (1 : Int32) ((fX0_pull ((fX0_pull u).1)).1)) else ((fX0_pull ((fX0_pull u).1)).1)) [] ?_ (fun J4 => ?_)
      · skip
        refine g_aload_n 69 hC dX4_comeBack_69 3 rfl ?_
        refine g_iload_n 70 hC dX4_comeBack_70 1 rfl ?_
        refine g_bipush 71 hC (8 : Int32) dX4_comeBack_71 (by decide) ?_
        refine g_ishl 73 hC dX4_comeBack_73 ?_
        refine g_iload 74 hC dX4_comeBack_74 0 rfl ?_
        refine g_ior 76 hC dX4_comeBack_76 ?_
        refine kX4_jumpTo 77 hC gX4_comeBack_X4_jumpTo ⟨Nat.le_of_ble_eq_true rfl, Nat.le_of_ble_eq_true rfl⟩ dX4_comeBack_77 (Nat.le_of_ble_eq_true rfl) ?_
        exact g_iret 80 hC dX4_comeBack_80
      · skip
        refine g_icmp_ne 56 hC 69 dX4_comeBack_56 (by decide) (fun h3 => ?_) (fun h3 => ?_)
        · skip
          exact J4 _ (Eq.symm (if_neg h3))
        · skip
          refine g_aload_n 59 hC dX4_comeBack_59 3 rfl ?_
          refine x_get_bytes 60 hC fiX4_comeBack_wsX40 fmX4_comeBack_16 dX4_comeBack_60 ?_
          refine g_bipush 63 hC (7 : Int32) dX4_comeBack_63 (by decide) ?_
          refine g_iconst 65 hC (1 : Int32) dX4_comeBack_65 (by decide) ?_
          refine kX0_setFlag 66 hC gX4_comeBack_X0_setFlag ⟨Nat.le_of_ble_eq_true rfl, Nat.le_of_ble_eq_true rfl⟩ dX4_comeBack_66 (Nat.le_of_ble_eq_true rfl) ?_
          exact J4 _ (Eq.symm (if_pos h3))
    · skip
      refine g_iconst 34 hC (3 : Int32) dX4_comeBack_34 (by decide) ?_
      exact g_iretW 35 hC dX4_comeBack_35
theorem kX4_comeBack {K : KT} {h : HX} {cc : ByteArray} {nL : Nat} {own : String} {Ts : List Cond} {rm : Room} {ret : Option FieldType} {T : ST × Option Value} {u : ST} {lv : List (Nat × Value)} {rest : List Value} {idx : Nat} {a1 : Int32} (pc : Nat) (hC : Cx K (EX h) cc nL own Ts rm ret) (hT : GoodIn Ts (wsV own idx RX4 yX4_comeBack wsX4_comeBack)) (hR : rmX4_comeBack.frames + 1 ≤ rm.frames ∧ 8 + (5 + 11) + rmX4_comeBack.locals ≤ rm.locals) (hdg : decode cc pc = .ok (.invokevirtual idx, 3)) (hcat : (rest.map fun v => v.category).sum ≤ 8) (kk : G K (EX h) nL T (fX4_comeBack a1 u).1 (pc + 3) lv (.int (fX4_comeBack a1 u).2 :: rest)) : G K (EX h) nL T u pc lv (.int a1 :: .ref (xO h) :: rest) := g_callV (n := 1) pc hC (As := [.int a1]) (rest := rest) (cX4_comeBack_ _ (Cx.ok hC) a1 u) hT rfl rfl rfl (by decide +kernel) hR 0 2 rfl rfl rfl rfl rfl hcat hdg kk

