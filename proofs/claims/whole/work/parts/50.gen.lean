def fX4_within (a0 : Int32) (a1 : Int32) : Int32 :=
  (if a0 < 0 then (0 : Int32) else (if a1 < a0 then (0 : Int32) else (1 : Int32)))
abbrev rmX4_within : Room := { frames := 0, cells := 0, slots := 0, locals := 0 }
set_option maxRecDepth 20000 in
theorem cX4_within_ (E : EV) (hE : okE E) (a0 : Int32) (a1 : Int32) (u : ST) : MX E yX4_within wsX4_within rmX4_within [.int a0, .int a1] u (tR u (fX4_within a0 a1)) := by
  refine MX.of (cc := cX4_within) (maxL := 2) (ret := (some .boolean)) (lv := [(0, .int a0), (1, .int a1)]) hE (by decide) rfl (fun _ => rfl) (Nat.le_of_ble_eq_true rfl) rfl (fun K hC => ?_)
  unfold fX4_within
  refine g_iload_n 0 hC dX4_within_0 0 rfl ?_
  refine g_cut 14 (if a0 < 0 then (0 : Int32) else (if a1 < a0 then (0 : Int32) else (1 : Int32))) [] ?_ (fun J3 => ?_)
  · skip
    exact g_zretR 14 hC (nbI nb0 (nbI nb0 nb1)) dX4_within_14
  · skip
    refine g_if_lt 1 hC 13 dX4_within_1 (by decide) (fun h1 => ?_) (fun h1 => ?_)
    · skip
      refine g_iconst 13 hC (0 : Int32) dX4_within_13 (by decide) ?_
      exact J3 _ (Eq.symm (if_pos h1))
    · skip
      refine g_iload_n 4 hC dX4_within_4 0 rfl ?_
      refine g_iload_n 5 hC dX4_within_5 1 rfl ?_
      refine g_icmp_gt 6 hC 13 dX4_within_6 (by decide) (fun h2 => ?_) (fun h2 => ?_)
      · skip
        refine g_iconst 13 hC (0 : Int32) dX4_within_13 (by decide) ?_
        exact J3 _ (Eq.symm (Eq.trans (if_neg h1) (if_pos h2)))
      · skip
        refine g_iconst 9 hC (1 : Int32) dX4_within_9 (by decide) ?_
        refine g_goto 10 hC 14 dX4_within_10 (by decide) ?_
        exact J3 _ (Eq.symm (Eq.trans (if_neg h1) (if_neg h2)))
theorem kX4_within {K : KT} {E : EV} {cc : ByteArray} {nL : Nat} {own : String} {Ts : List Cond} {rm : Room} {ret : Option FieldType} {T : ST × Option Value} {u : ST} {lv : List (Nat × Value)} {rest : List Value} {idx : Nat} {a0 : Int32} {a1 : Int32} (pc : Nat) (hC : Cx K E cc nL own Ts rm ret) (hT : GoodIn Ts (va_wsS own idx yX4_within wsX4_within)) (hR : rmX4_within.frames + 1 ≤ rm.frames ∧ 8 + (2 + 11) + rmX4_within.locals ≤ rm.locals) (hdg : decode cc pc = .ok (.invokestatic idx, 3)) (hcat : (rest.map fun v => v.category).sum ≤ 8) (kk : G K E nL T u (pc + 3) lv (.int (fX4_within a0 a1) :: rest)) : G K E nL T u pc lv (.int a1 :: .int a0 :: rest) := g_callS (n := 2) pc hC (As := [.int a0, .int a1]) (rest := rest) (cX4_within_ _ (Cx.ok hC) a0 a1 u) hT rfl rfl rfl (by decide +kernel) hR rfl rfl hcat hdg kk

def fX4_cellAt (a1 : Int32) (u : ST) : Int32 :=
  (rC u (a1 &&& (1023 : Int32)))
theorem fiX4_cellAt_wsX40 : ∀ w ∈ wsX40, w ∈ wsX4_cellAt := fun w h => List.mem_cons_of_mem _ (List.mem_append_right _ h)
theorem fmX4_cellAt_9 : Cond.fieldLink RX4 9 "FlagCore" "cells" "[I" ∈ wsX4_cellAt := List.mem_of_getElem? (i := 1) rfl
abbrev rmX4_cellAt : Room := { frames := 0, cells := 0, slots := 0, locals := 0 }
set_option maxRecDepth 20000 in
theorem cX4_cellAt_ (h : HX) (hE : okE (EX h)) (a1 : Int32) (u : ST) : MX (EX h) yX4_cellAt wsX4_cellAt rmX4_cellAt [.ref (xO h), .int a1] u (tR u (fX4_cellAt a1 u)) := by
  refine MX.of (cc := cX4_cellAt) (maxL := 2) (ret := (some .int)) (lv := [(0, .ref (xO h)), (1, .int a1)]) hE (by decide) rfl (fun _ => rfl) (Nat.le_of_ble_eq_true rfl) rfl (fun K hC => ?_)
  unfold fX4_cellAt
  refine g_aload_n 0 hC dX4_cellAt_0 0 rfl ?_
  refine x_get_cells 1 hC fiX4_cellAt_wsX40 fmX4_cellAt_9 dX4_cellAt_1 ?_
  refine g_iload_n 4 hC dX4_cellAt_4 1 rfl ?_
  refine g_sipush 5 hC (1023 : Int32) dX4_cellAt_5 (by decide) ?_
  refine g_iand 8 hC dX4_cellAt_8 ?_
  refine x_ldC 9 hC (vin_1023 _) dX4_cellAt_9 ?_
  exact g_iretR 10 hC dX4_cellAt_10
theorem kX4_cellAt {K : KT} {h : HX} {cc : ByteArray} {nL : Nat} {own : String} {Ts : List Cond} {rm : Room} {ret : Option FieldType} {T : ST × Option Value} {u : ST} {lv : List (Nat × Value)} {rest : List Value} {idx : Nat} {a1 : Int32} (pc : Nat) (hC : Cx K (EX h) cc nL own Ts rm ret) (hT : GoodIn Ts (wsV own idx RX4 yX4_cellAt wsX4_cellAt)) (hR : rmX4_cellAt.frames + 1 ≤ rm.frames ∧ 8 + (2 + 11) + rmX4_cellAt.locals ≤ rm.locals) (hdg : decode cc pc = .ok (.invokevirtual idx, 3)) (hcat : (rest.map fun v => v.category).sum ≤ 8) (kk : G K (EX h) nL T u (pc + 3) lv (.int (fX4_cellAt a1 u) :: rest)) : G K (EX h) nL T u pc lv (.int a1 :: .ref (xO h) :: rest) := g_callV (n := 1) pc hC (As := [.int a1]) (rest := rest) (cX4_cellAt_ _ (Cx.ok hC) a1 u) hT rfl rfl rfl (by decide +kernel) hR 0 2 rfl rfl rfl rfl rfl hcat hdg kk

def fX4_code (a1 : Int32) (a2 : Int32) (u : ST) : ST × Int32 :=
  if (fX4_within a1 (1023 : Int32)) = 0 then
    (u, (-1 : Int32))
  else
    if (fX4_within a2 (65535 : Int32)) = 0 then
      (u, (-1 : Int32))
    else
      ((wC u (a1 &&& (1023 : Int32)) a2), (fX4_cellAt a1 u))
theorem cmX4_code_50 : Jvm.Cond.constant RX4 50 (65535 : Int32) ∈ wsX4_code := List.mem_of_getElem? (i := 1) rfl
theorem fiX4_code_wsX40 : ∀ w ∈ wsX40, w ∈ wsX4_code := fun w h => List.mem_cons_of_mem _ (List.mem_append_right _ h)
theorem fmX4_code_9 : Cond.fieldLink RX4 9 "FlagCore" "cells" "[I" ∈ wsX4_code := List.mem_of_getElem? (i := 2) rfl
abbrev rmX4_code : Room := { frames := 1, cells := 0, slots := 0, locals := 21 }
set_option maxRecDepth 20000 in
theorem cX4_code_ (h : HX) (hE : okE (EX h)) (a1 : Int32) (a2 : Int32) (u : ST) : MX (EX h) yX4_code wsX4_code rmX4_code [.ref (xO h), .int a1, .int a2] u (tW (fX4_code a1 a2 u)) := by
  refine MX.of (cc := cX4_code) (maxL := 4) (ret := (some .int)) (lv := [(0, .ref (xO h)), (1, .int a1), (2, .int a2)]) hE (by decide) rfl (fun _ => rfl) (Nat.le_of_ble_eq_true rfl) rfl (fun K hC => ?_)
  unfold fX4_code
  refine g_iload_n 0 hC dX4_code_0 1 rfl ?_
  refine g_sipush 1 hC (1023 : Int32) dX4_code_1 (by decide) ?_
  refine kX4_within 4 hC gX4_code_X4_within ⟨Nat.le_of_ble_eq_true rfl, Nat.le_of_ble_eq_true rfl⟩ dX4_code_4 (Nat.le_of_ble_eq_true rfl) ?_
  refine g_if_eqT (tW) 7 hC 19 dX4_code_7 (by decide) (fun h1 => ?_) (fun h1 => ?_)
  · skip
    refine g_iconst 19 hC (-1 : Int32) dX4_code_19 (by decide) ?_
    exact g_iretW 20 hC dX4_code_20
  · skip
    refine g_iload_n 10 hC dX4_code_10 2 rfl ?_
    refine g_ldc 11 hC (65535 : Int32) dX4_code_11 cmX4_code_50 ?_
    refine kX4_within 13 hC gX4_code_X4_within ⟨Nat.le_of_ble_eq_true rfl, Nat.le_of_ble_eq_true rfl⟩ dX4_code_13 (Nat.le_of_ble_eq_true rfl) ?_
    refine g_if_neT (tW) 16 hC 21 dX4_code_16 (by decide) (fun h2 => ?_) (fun h2 => ?_)
    · skip
      refine g_aload_n 21 hC dX4_code_21 0 rfl ?_
      refine g_iload_n 22 hC dX4_code_22 1 rfl ?_
      refine kX4_cellAt 23 hC gX4_code_X4_cellAt ⟨Nat.le_of_ble_eq_true rfl, Nat.le_of_ble_eq_true rfl⟩ dX4_code_23 (Nat.le_of_ble_eq_true rfl) ?_
      refine g_istore_n 26 hC dX4_code_26 (by decide) [(3, .int ((fX4_cellAt a1 u))), (0, .ref (xO h)), (1, .int a1), (2, .int a2)] rfl ?_
      refine g_aload_n 27 hC dX4_code_27 1 rfl ?_
      refine x_get_cells 28 hC fiX4_code_wsX40 fmX4_code_9 dX4_code_28 ?_
      refine g_iload_n 31 hC dX4_code_31 2 rfl ?_
      refine g_sipush 32 hC (1023 : Int32) dX4_code_32 (by decide) ?_
      refine g_iand 35 hC dX4_code_35 ?_
      refine g_iload_n 36 hC dX4_code_36 3 rfl ?_
      refine x_stC 37 hC (vin_1023 _) dX4_code_37 ?_
      refine g_iload_n 38 hC dX4_code_38 0 rfl ?_
      exact g_iretW 39 hC dX4_code_39
    · skip
      refine g_iconst 19 hC (-1 : Int32) dX4_code_19 (by decide) ?_
      exact g_iretW 20 hC dX4_code_20
theorem kX4_code {K : KT} {h : HX} {cc : ByteArray} {nL : Nat} {own : String} {Ts : List Cond} {rm : Room} {ret : Option FieldType} {T : ST × Option Value} {u : ST} {lv : List (Nat × Value)} {rest : List Value} {idx : Nat} {a1 : Int32} {a2 : Int32} (pc : Nat) (hC : Cx K (EX h) cc nL own Ts rm ret) (hT : GoodIn Ts (wsV own idx RX4 yX4_code wsX4_code)) (hR : rmX4_code.frames + 1 ≤ rm.frames ∧ 8 + (4 + 11) + rmX4_code.locals ≤ rm.locals) (hdg : decode cc pc = .ok (.invokevirtual idx, 3)) (hcat : (rest.map fun v => v.category).sum ≤ 8) (kk : G K (EX h) nL T (fX4_code a1 a2 u).1 (pc + 3) lv (.int (fX4_code a1 a2 u).2 :: rest)) : G K (EX h) nL T u pc lv (.int a2 :: .int a1 :: .ref (xO h) :: rest) := g_callV (n := 2) pc hC (As := [.int a1, .int a2]) (rest := rest) (cX4_code_ _ (Cx.ok hC) a1 a2 u) hT rfl rfl rfl (by decide +kernel) hR 0 2 rfl rfl rfl rfl rfl hcat hdg kk

def fX4_load (a1 : Int32) (a2 : Int64) (u : ST) : ST × Int32 :=
  if (fX4_within a1 (1023 : Int32)) = 0 then
    (u, (-1 : Int32))
  else
    ((wC (wC (wC (wC u ((a1 + (0 : Int32)) &&& (1023 : Int32)) ((Int64.toInt32 (jlshr a2 ((48 : Int32) - ((16 : Int32) * (0 : Int32))))) &&& (65535 : Int32))) ((a1 + (1 : Int32)) &&& (1023 : Int32)) ((Int64.toInt32 (jlshr a2 ((48 : Int32) - ((16 : Int32) * (1 : Int32))))) &&& (65535 : Int32))) ((a1 + (2 : Int32)) &&& (1023 : Int32)) ((Int64.toInt32 (jlshr a2 ((48 : Int32) - ((16 : Int32) * (2 : Int32))))) &&& (65535 : Int32))) ((a1 + (3 : Int32)) &&& (1023 : Int32)) ((Int64.toInt32 (jlshr a2 ((48 : Int32) - ((16 : Int32) * (3 : Int32))))) &&& (65535 : Int32))), (1 : Int32))
theorem fiX4_load_wsX40 : ∀ w ∈ wsX40, w ∈ wsX4_load := fun w h => List.mem_cons_of_mem _ (List.mem_append_right _ h)
theorem fmX4_load_9 : Cond.fieldLink RX4 9 "FlagCore" "cells" "[I" ∈ wsX4_load := List.mem_of_getElem? (i := 1) rfl
theorem cmX4_load_50 : Jvm.Cond.constant RX4 50 (65535 : Int32) ∈ wsX4_load := List.mem_of_getElem? (i := 2) rfl
abbrev rmX4_load : Room := { frames := 1, cells := 0, slots := 0, locals := 21 }
set_option maxRecDepth 20000 in
theorem cX4_load_ (h : HX) (hE : okE (EX h)) (a1 : Int32) (a2 : Int64) (u : ST) : MX (EX h) yX4_load wsX4_load rmX4_load [.ref (xO h), .int a1, .long a2] u (tW (fX4_load a1 a2 u)) := by
  refine MX.of (cc := cX4_load) (maxL := 5) (ret := (some .int)) (lv := [(0, .ref (xO h)), (1, .int a1), (2, .long a2)]) hE (by decide) rfl (fun _ => rfl) (Nat.le_of_ble_eq_true rfl) rfl (fun K hC => ?_)
  unfold fX4_load
  refine g_iload_n 0 hC dX4_load_0 1 rfl ?_
  refine g_sipush 1 hC (1023 : Int32) dX4_load_1 (by decide) ?_
  refine kX4_within 4 hC gX4_load_X4_within ⟨Nat.le_of_ble_eq_true rfl, Nat.le_of_ble_eq_true rfl⟩ dX4_load_4 (Nat.le_of_ble_eq_true rfl) ?_
  refine g_if_neT (tW) 7 hC 12 dX4_load_7 (by decide) (fun h1 => ?_) (fun h1 => ?_)
  · skip
    refine g_iconst 12 hC (0 : Int32) dX4_load_12 (by decide) ?_
    refine g_istore 13 hC dX4_load_13 (by decide) [(4, .int ((0 : Int32))), (0, .ref (xO h)), (1, .int a1), (2, .long a2)] rfl ?_
    refine g_iload 15 hC dX4_load_15 0 rfl ?_
    refine g_iconst 17 hC (4 : Int32) dX4_load_17 (by decide) ?_
    refine g_icmp_ge 18 hC 54 dX4_load_18 (by decide) (fun h => absurd h (by decide)) (fun _ => ?_)
    refine g_aload_n 21 hC dX4_load_21 1 rfl ?_
    refine x_get_cells 22 hC fiX4_load_wsX40 fmX4_load_9 dX4_load_22 ?_
    refine g_iload_n 25 hC dX4_load_25 2 rfl ?_
    refine g_iload 26 hC dX4_load_26 0 rfl ?_
    refine g_iadd 28 hC dX4_load_28 ?_
    refine g_sipush 29 hC (1023 : Int32) dX4_load_29 (by decide) ?_
    refine g_iand 32 hC dX4_load_32 ?_
    refine g_lload_n 33 hC dX4_load_33 3 rfl ?_
    refine g_bipush 34 hC (48 : Int32) dX4_load_34 (by decide) ?_
    refine g_bipush 36 hC (16 : Int32) dX4_load_36 (by decide) ?_
    refine g_iload 38 hC dX4_load_38 0 rfl ?_
    refine g_imul 40 hC dX4_load_40 ?_
    refine g_isub 41 hC dX4_load_41 ?_
    refine g_lshr 42 hC dX4_load_42 ?_
    refine g_l2i 43 hC dX4_load_43 ?_
    refine g_ldc 44 hC (65535 : Int32) dX4_load_44 cmX4_load_50 ?_
    refine g_iand 46 hC dX4_load_46 ?_
    refine x_stC 47 hC (vin_1023 _) dX4_load_47 ?_
    refine g_iinc 48 hC (1 : Int32) dX4_load_48 (by decide) 0 rfl (by decide) [(4, .int ((1 : Int32))), (0, .ref (xO h)), (1, .int a1), (2, .long a2)] rfl ?_
    refine g_goto 51 hC 15 dX4_load_51 (by decide) ?_
    refine g_iload 15 hC dX4_load_15 0 rfl ?_
    refine g_iconst 17 hC (4 : Int32) dX4_load_17 (by decide) ?_
    refine g_icmp_ge 18 hC 54 dX4_load_18 (by decide) (fun h => absurd h (by decide)) (fun _ => ?_)
    refine g_aload_n 21 hC dX4_load_21 1 rfl ?_
    refine x_get_cells 22 hC fiX4_load_wsX40 fmX4_load_9 dX4_load_22 ?_
    refine g_iload_n 25 hC dX4_load_25 2 rfl ?_
    refine g_iload 26 hC dX4_load_26 0 rfl ?_
    refine g_iadd 28 hC dX4_load_28 ?_
    refine g_sipush 29 hC (1023 : Int32) dX4_load_29 (by decide) ?_
    refine g_iand 32 hC dX4_load_32 ?_
    refine g_lload_n 33 hC dX4_load_33 3 rfl ?_
    refine g_bipush 34 hC (48 : Int32) dX4_load_34 (by decide) ?_
    refine g_bipush 36 hC (16 : Int32) dX4_load_36 (by decide) ?_
    refine g_iload 38 hC dX4_load_38 0 rfl ?_
    refine g_imul 40 hC dX4_load_40 ?_
    refine g_isub 41 hC dX4_load_41 ?_
    refine g_lshr 42 hC dX4_load_42 ?_
    refine g_l2i 43 hC dX4_load_43 ?_
    refine g_ldc 44 hC (65535 : Int32) dX4_load_44 cmX4_load_50 ?_
    refine g_iand 46 hC dX4_load_46 ?_
    refine x_stC 47 hC (vin_1023 _) dX4_load_47 ?_
    refine g_iinc 48 hC (2 : Int32) dX4_load_48 (by decide) 0 rfl (by decide) [(4, .int ((2 : Int32))), (0, .ref (xO h)), (1, .int a1), (2, .long a2)] rfl ?_
    refine g_goto 51 hC 15 dX4_load_51 (by decide) ?_
    refine g_iload 15 hC dX4_load_15 0 rfl ?_
    refine g_iconst 17 hC (4 : Int32) dX4_load_17 (by decide) ?_
    refine g_icmp_ge 18 hC 54 dX4_load_18 (by decide) (fun h => absurd h (by decide)) (fun _ => ?_)
    refine g_aload_n 21 hC dX4_load_21 1 rfl ?_
    refine x_get_cells 22 hC fiX4_load_wsX40 fmX4_load_9 dX4_load_22 ?_
    refine g_iload_n 25 hC dX4_load_25 2 rfl ?_
    refine g_iload 26 hC dX4_load_26 0 rfl ?_
    refine g_iadd 28 hC dX4_load_28 ?_
    refine g_sipush 29 hC (1023 : Int32) dX4_load_29 (by decide) ?_
    refine g_iand 32 hC dX4_load_32 ?_
    refine g_lload_n 33 hC dX4_load_33 3 rfl ?_
    refine g_bipush 34 hC (48 : Int32) dX4_load_34 (by decide) ?_
    refine g_bipush 36 hC (16 : Int32) dX4_load_36 (by decide) ?_
    refine g_iload 38 hC dX4_load_38 0 rfl ?_
    refine g_imul 40 hC dX4_load_40 ?_
    refine g_isub 41 hC dX4_load_41 ?_
    refine g_lshr 42 hC dX4_load_42 ?_
    refine g_l2i 43 hC dX4_load_43 ?_
    refine g_ldc 44 hC (65535 : Int32) dX4_load_44 cmX4_load_50 ?_
    refine g_iand 46 hC dX4_load_46 ?_
    refine x_stC 47 hC (vin_1023 _) dX4_load_47 ?_
    refine g_iinc 48 hC (3 : Int32) dX4_load_48 (by decide) 0 rfl (by decide) [(4, .int ((3 : Int32))), (0, .ref (xO h)), (1, .int a1), (2, .long a2)] rfl ?_
    refine g_goto 51 hC 15 dX4_load_51 (by decide) ?_
    refine g_iload 15 hC dX4_load_15 0 rfl ?_
    refine g_iconst 17 hC (4 : Int32) dX4_load_17 (by decide) ?_
    refine g_icmp_ge 18 hC 54 dX4_load_18 (by decide) (fun h => absurd h (by decide)) (fun _ => ?_)
    refine g_aload_n 21 hC dX4_load_21 1 rfl ?_
    refine x_get_cells 22 hC fiX4_load_wsX40 fmX4_load_9 dX4_load_22 ?_
    refine g_iload_n 25 hC dX4_load_25 2 rfl ?_
    refine g_iload 26 hC dX4_load_26 0 rfl ?_
    refine g_iadd 28 hC dX4_load_28 ?_
    refine g_sipush 29 hC (1023 : Int32) dX4_load_29 (by decide) ?_
    refine g_iand 32 hC dX4_load_32 ?_
    refine g_lload_n 33 hC dX4_load_33 3 rfl ?_
    refine g_bipush 34 hC (48 : Int32) dX4_load_34 (by decide) ?_
    refine g_bipush 36 hC (16 : Int32) dX4_load_36 (by decide) ?_
    refine g_iload 38 hC dX4_load_38 0 rfl ?_
    refine g_imul 40 hC dX4_load_40 ?_
    refine g_isub 41 hC dX4_load_41 ?_
    refine g_lshr 42 hC dX4_load_42 ?_
    refine g_l2i 43 hC dX4_load_43 ?_
    refine g_ldc 44 hC (65535 : Int32) dX4_load_44 cmX4_load_50 ?_
    refine g_iand 46 hC dX4_load_46 ?_
    refine x_stC 47 hC (vin_1023 _) dX4_load_47 ?_
    refine g_iinc 48 hC (4 : Int32) dX4_load_48 (by decide) 0 rfl (by decide) [(4, .int ((4 : Int32))), (0, .ref (xO h)), (1, .int a1), (2, .long a2)] rfl ?_
    refine g_goto 51 hC 15 dX4_load_51 (by decide) ?_
    refine g_iload 15 hC dX4_load_15 0 rfl ?_
    refine g_iconst 17 hC (4 : Int32) dX4_load_17 (by decide) ?_
    refine g_icmp_ge 18 hC 54 dX4_load_18 (by decide) (fun _ => ?_) (fun h => absurd (by decide) h)
    refine g_iconst 54 hC (1 : Int32) dX4_load_54 (by decide) ?_
    exact g_iretW 55 hC dX4_load_55
  · skip
    refine g_iconst 10 hC (-1 : Int32) dX4_load_10 (by decide) ?_
    exact g_iretW 11 hC dX4_load_11
theorem kX4_load {K : KT} {h : HX} {cc : ByteArray} {nL : Nat} {own : String} {Ts : List Cond} {rm : Room} {ret : Option FieldType} {T : ST × Option Value} {u : ST} {lv : List (Nat × Value)} {rest : List Value} {idx : Nat} {a1 : Int32} {a2 : Int64} (pc : Nat) (hC : Cx K (EX h) cc nL own Ts rm ret) (hT : GoodIn Ts (wsV own idx RX4 yX4_load wsX4_load)) (hR : rmX4_load.frames + 1 ≤ rm.frames ∧ 8 + (5 + 11) + rmX4_load.locals ≤ rm.locals) (hdg : decode cc pc = .ok (.invokevirtual idx, 3)) (hcat : (rest.map fun v => v.category).sum ≤ 8) (kk : G K (EX h) nL T (fX4_load a1 a2 u).1 (pc + 3) lv (.int (fX4_load a1 a2 u).2 :: rest)) : G K (EX h) nL T u pc lv (.long a2 :: .int a1 :: .ref (xO h) :: rest) := g_callV (n := 2) pc hC (As := [.int a1, .long a2]) (rest := rest) (cX4_load_ _ (Cx.ok hC) a1 a2 u) hT rfl rfl rfl (by decide +kernel) hR 0 2 rfl rfl rfl rfl rfl hcat hdg kk

def fX4_word (a1 : Int32) (u : ST) : Int32 :=
  (if (fX4_within a1 (1023 : Int32)) = 0 then (-1 : Int32) else (fX4_cellAt a1 u))
abbrev rmX4_word : Room := { frames := 1, cells := 0, slots := 0, locals := 21 }
set_option maxRecDepth 20000 in
theorem cX4_word_ (h : HX) (hE : okE (EX h)) (a1 : Int32) (u : ST) : MX (EX h) yX4_word wsX4_word rmX4_word [.ref (xO h), .int a1] u (tR u (fX4_word a1 u)) := by
  refine MX.of (cc := cX4_word) (maxL := 2) (ret := (some .int)) (lv := [(0, .ref (xO h)), (1, .int a1)]) hE (by decide) rfl (fun _ => rfl) (Nat.le_of_ble_eq_true rfl) rfl (fun K hC => ?_)
  unfold fX4_word
  refine g_iload_n 0 hC dX4_word_0 1 rfl ?_
  refine g_sipush 1 hC (1023 : Int32) dX4_word_1 (by decide) ?_
  refine kX4_within 4 hC gX4_word_X4_within ⟨Nat.le_of_ble_eq_true rfl, Nat.le_of_ble_eq_true rfl⟩ dX4_word_4 (Nat.le_of_ble_eq_true rfl) ?_
  refine g_cut 19 (if (fX4_within a1 (1023 : Int32)) = 0 then (-1 : Int32) else (fX4_cellAt a1 u)) [] ?_ (fun J2 => ?_)
  · skip
    exact g_iretR 19 hC dX4_word_19
  · skip
    refine g_if_eq 7 hC 18 dX4_word_7 (by decide) (fun h1 => ?_) (fun h1 => ?_)
    · skip
      refine g_iconst 18 hC (-1 : Int32) dX4_word_18 (by decide) ?_
      exact J2 _ (Eq.symm (if_pos h1))
    · skip
      refine g_aload_n 10 hC dX4_word_10 0 rfl ?_
      refine g_iload_n 11 hC dX4_word_11 1 rfl ?_
      refine kX4_cellAt 12 hC gX4_word_X4_cellAt ⟨Nat.le_of_ble_eq_true rfl, Nat.le_of_ble_eq_true rfl⟩ dX4_word_12 (Nat.le_of_ble_eq_true rfl) ?_
      refine g_goto 15 hC 19 dX4_word_15 (by decide) ?_
      exact J2 _ (Eq.symm (if_neg h1))
theorem kX4_word {K : KT} {h : HX} {cc : ByteArray} {nL : Nat} {own : String} {Ts : List Cond} {rm : Room} {ret : Option FieldType} {T : ST × Option Value} {u : ST} {lv : List (Nat × Value)} {rest : List Value} {idx : Nat} {a1 : Int32} (pc : Nat) (hC : Cx K (EX h) cc nL own Ts rm ret) (hT : GoodIn Ts (wsV own idx RX4 yX4_word wsX4_word)) (hR : rmX4_word.frames + 1 ≤ rm.frames ∧ 8 + (2 + 11) + rmX4_word.locals ≤ rm.locals) (hdg : decode cc pc = .ok (.invokevirtual idx, 3)) (hcat : (rest.map fun v => v.category).sum ≤ 8) (kk : G K (EX h) nL T u (pc + 3) lv (.int (fX4_word a1 u) :: rest)) : G K (EX h) nL T u pc lv (.int a1 :: .ref (xO h) :: rest) := g_callV (n := 1) pc hC (As := [.int a1]) (rest := rest) (cX4_word_ _ (Cx.ok hC) a1 u) hT rfl rfl rfl (by decide +kernel) hR 0 2 rfl rfl rfl rfl rfl hcat hdg kk

def fX4_put (a1 : Int32) (a2 : Int32) (u : ST) : ST × Int32 :=
  if (fX4_within a1 (1023 : Int32)) = 0 then
    (u, (-1 : Int32))
  else
    if (fX4_within a2 (255 : Int32)) = 0 then
      (u, (-1 : Int32))
    else
      ((fX0_set a1 a2 u), (fX0_get a1 u))
theorem fiX4_put_wsX40 : ∀ w ∈ wsX40, w ∈ wsX4_put := fun w h => List.mem_cons_of_mem _ (List.mem_append_left _ (List.mem_append_right _ h))
theorem fmX4_put_16 : Cond.fieldLink RX4 16 "FlagCore" "bytes" "LFlagCore$Bytes;" ∈ wsX4_put := List.mem_of_getElem? (i := 1) rfl
abbrev rmX4_put : Room := { frames := 1, cells := 0, slots := 0, locals := 22 }
set_option maxRecDepth 20000 in
theorem cX4_put_ (h : HX) (hE : okE (EX h)) (a1 : Int32) (a2 : Int32) (u : ST) : MX (EX h) yX4_put wsX4_put rmX4_put [.ref (xO h), .int a1, .int a2] u (tW (fX4_put a1 a2 u)) := by
  refine MX.of (cc := cX4_put) (maxL := 4) (ret := (some .int)) (lv := [(0, .ref (xO h)), (1, .int a1), (2, .int a2)]) hE (by decide) rfl (fun _ => rfl) (Nat.le_of_ble_eq_true rfl) rfl (fun K hC => ?_)
  unfold fX4_put
  refine g_iload_n 0 hC dX4_put_0 1 rfl ?_
  refine g_sipush 1 hC (1023 : Int32) dX4_put_1 (by decide) ?_
  refine kX4_within 4 hC gX4_put_X4_within ⟨Nat.le_of_ble_eq_true rfl, Nat.le_of_ble_eq_true rfl⟩ dX4_put_4 (Nat.le_of_ble_eq_true rfl) ?_
  refine g_if_eqT (tW) 7 hC 20 dX4_put_7 (by decide) (fun h1 => ?_) (fun h1 => ?_)
  · skip
    refine g_iconst 20 hC (-1 : Int32) dX4_put_20 (by decide) ?_
    exact g_iretW 21 hC dX4_put_21
  · skip
    refine g_iload_n 10 hC dX4_put_10 2 rfl ?_
    refine g_sipush 11 hC (255 : Int32) dX4_put_11 (by decide) ?_
    refine kX4_within 14 hC gX4_put_X4_within ⟨Nat.le_of_ble_eq_true rfl, Nat.le_of_ble_eq_true rfl⟩ dX4_put_14 (Nat.le_of_ble_eq_true rfl) ?_
    refine g_if_neT (tW) 17 hC 22 dX4_put_17 (by decide) (fun h2 => ?_) (fun h2 => ?_)
    · skip
      refine g_aload_n 22 hC dX4_put_22 0 rfl ?_
      refine x_get_bytes 23 hC fiX4_put_wsX40 fmX4_put_16 dX4_put_23 ?_
      refine g_iload_n 26 hC dX4_put_26 1 rfl ?_
      refine kX0_get 27 hC gX4_put_X0_get ⟨Nat.le_of_ble_eq_true rfl, Nat.le_of_ble_eq_true rfl⟩ dX4_put_27 (Nat.le_of_ble_eq_true rfl) ?_
      refine g_istore_n 30 hC dX4_put_30 (by decide) [(3, .int ((fX0_get a1 u))), (0, .ref (xO h)), (1, .int a1), (2, .int a2)] rfl ?_
      refine g_aload_n 31 hC dX4_put_31 1 rfl ?_
      refine x_get_bytes 32 hC fiX4_put_wsX40 fmX4_put_16 dX4_put_32 ?_
      refine g_iload_n 35 hC dX4_put_35 2 rfl ?_
      refine g_iload_n 36 hC dX4_put_36 3 rfl ?_
      refine kX0_set 37 hC gX4_put_X0_set ⟨Nat.le_of_ble_eq_true rfl, Nat.le_of_ble_eq_true rfl⟩ dX4_put_37 (Nat.le_of_ble_eq_true rfl) ?_
      refine g_iload_n 40 hC dX4_put_40 0 rfl ?_
      exact g_iretW 41 hC dX4_put_41
    · skip
      refine g_iconst 20 hC (-1 : Int32) dX4_put_20 (by decide) ?_
      exact g_iretW 21 hC dX4_put_21
theorem kX4_put {K : KT} {h : HX} {cc : ByteArray} {nL : Nat} {own : String} {Ts : List Cond} {rm : Room} {ret : Option FieldType} {T : ST × Option Value} {u : ST} {lv : List (Nat × Value)} {rest : List Value} {idx : Nat} {a1 : Int32} {a2 : Int32} (pc : Nat) (hC : Cx K (EX h) cc nL own Ts rm ret) (hT : GoodIn Ts (wsV own idx RX4 yX4_put wsX4_put)) (hR : rmX4_put.frames + 1 ≤ rm.frames ∧ 8 + (4 + 11) + rmX4_put.locals ≤ rm.locals) (hdg : decode cc pc = .ok (.invokevirtual idx, 3)) (hcat : (rest.map fun v => v.category).sum ≤ 8) (kk : G K (EX h) nL T (fX4_put a1 a2 u).1 (pc + 3) lv (.int (fX4_put a1 a2 u).2 :: rest)) : G K (EX h) nL T u pc lv (.int a2 :: .int a1 :: .ref (xO h) :: rest) := g_callV (n := 2) pc hC (As := [.int a1, .int a2]) (rest := rest) (cX4_put_ _ (Cx.ok hC) a1 a2 u) hT rfl rfl rfl (by decide +kernel) hR 0 2 rfl rfl rfl rfl rfl hcat hdg kk

def fX4_data (a1 : Int32) (u : ST) : Int32 :=
  (if (fX4_within a1 (1023 : Int32)) = 0 then (-1 : Int32) else (fX0_get a1 u))
theorem fiX4_data_wsX40 : ∀ w ∈ wsX40, w ∈ wsX4_data := fun w h => List.mem_cons_of_mem _ (List.mem_append_left _ (List.mem_append_right _ h))
theorem fmX4_data_16 : Cond.fieldLink RX4 16 "FlagCore" "bytes" "LFlagCore$Bytes;" ∈ wsX4_data := List.mem_of_getElem? (i := 1) rfl
abbrev rmX4_data : Room := { frames := 1, cells := 0, slots := 0, locals := 21 }
set_option maxRecDepth 20000 in
theorem cX4_data_ (h : HX) (hE : okE (EX h)) (a1 : Int32) (u : ST) : MX (EX h) yX4_data wsX4_data rmX4_data [.ref (xO h), .int a1] u (tR u (fX4_data a1 u)) := by
  refine MX.of (cc := cX4_data) (maxL := 2) (ret := (some .int)) (lv := [(0, .ref (xO h)), (1, .int a1)]) hE (by decide) rfl (fun _ => rfl) (Nat.le_of_ble_eq_true rfl) rfl (fun K hC => ?_)
  unfold fX4_data
  refine g_iload_n 0 hC dX4_data_0 1 rfl ?_
  refine g_sipush 1 hC (1023 : Int32) dX4_data_1 (by decide) ?_
  refine kX4_within 4 hC gX4_data_X4_within ⟨Nat.le_of_ble_eq_true rfl, Nat.le_of_ble_eq_true rfl⟩ dX4_data_4 (Nat.le_of_ble_eq_true rfl) ?_
  refine g_cut 22 (if (fX4_within a1 (1023 : Int32)) = 0 then (-1 : Int32) else (fX0_get a1 u)) [] ?_ (fun J2 => ?_)
  · skip
    exact g_iretR 22 hC dX4_data_22
  · skip
    refine g_if_eq 7 hC 21 dX4_data_7 (by decide) (fun h1 => ?_) (fun h1 => ?_)
    · skip
      refine g_iconst 21 hC (-1 : Int32) dX4_data_21 (by decide) ?_
      exact J2 _ (Eq.symm (if_pos h1))
    · skip
      refine g_aload_n 10 hC dX4_data_10 0 rfl ?_
      refine x_get_bytes 11 hC fiX4_data_wsX40 fmX4_data_16 dX4_data_11 ?_
      refine g_iload_n 14 hC dX4_data_14 1 rfl ?_
      refine kX0_get 15 hC gX4_data_X0_get ⟨Nat.le_of_ble_eq_true rfl, Nat.le_of_ble_eq_true rfl⟩ dX4_data_15 (Nat.le_of_ble_eq_true rfl) ?_
      refine g_goto 18 hC 22 dX4_data_18 (by decide) ?_
      exact J2 _ (Eq.symm (if_neg h1))
theorem kX4_data {K : KT} {h : HX} {cc : ByteArray} {nL : Nat} {own : String} {Ts : List Cond} {rm : Room} {ret : Option FieldType} {T : ST × Option Value} {u : ST} {lv : List (Nat × Value)} {rest : List Value} {idx : Nat} {a1 : Int32} (pc : Nat) (hC : Cx K (EX h) cc nL own Ts rm ret) (hT : GoodIn Ts (wsV own idx RX4 yX4_data wsX4_data)) (hR : rmX4_data.frames + 1 ≤ rm.frames ∧ 8 + (2 + 11) + rmX4_data.locals ≤ rm.locals) (hdg : decode cc pc = .ok (.invokevirtual idx, 3)) (hcat : (rest.map fun v => v.category).sum ≤ 8) (kk : G K (EX h) nL T u (pc + 3) lv (.int (fX4_data a1 u) :: rest)) : G K (EX h) nL T u pc lv (.int a1 :: .ref (xO h) :: rest) := g_callV (n := 1) pc hC (As := [.int a1]) (rest := rest) (cX4_data_ _ (Cx.ok hC) a1 u) hT rfl rfl rfl (by decide +kernel) hR 0 2 rfl rfl rfl rfl rfl hcat hdg kk

def fX4_told (a1 : Int32) (u : ST) : Int32 :=
  if a1 = (0 : Int32) then
    (gPc u)
  else
    if a1 = (1 : Int32) then
      (fX0_pair (93 : Int32) u)
    else
      if a1 = (2 : Int32) then
        (fX0_get (95 : Int32) u)
      else
        if a1 = (3 : Int32) then
          (fX0_pair (26 : Int32) u)
        else
          if a1 = (4 : Int32) then
            (fX0_pair (28 : Int32) u)
          else
            if a1 = (5 : Int32) then
              (fX0_pair (30 : Int32) u)
            else
              if a1 = (6 : Int32) then
                (if (gWa u) = 0 then (0 : Int32) else (1 : Int32))
              else
                if a1 = (7 : Int32) then
                  (gAs u)
                else
                  (-1 : Int32)
theorem fiX4_told_wsX40 : ∀ w ∈ wsX40, w ∈ wsX4_told := fun w h => List.mem_cons_of_mem _ (List.mem_append_left _ (List.mem_append_right _ h))
theorem fmX4_told_32 : Cond.fieldLink RX4 32 "FlagCore" "pc" "I" ∈ wsX4_told := List.mem_of_getElem? (i := 1) rfl
theorem fmX4_told_16 : Cond.fieldLink RX4 16 "FlagCore" "bytes" "LFlagCore$Bytes;" ∈ wsX4_told := List.mem_of_getElem? (i := 2) rfl
theorem fmX4_told_42 : Cond.fieldLink RX4 42 "FlagCore" "waiting" "Z" ∈ wsX4_told := List.mem_of_getElem? (i := 3) rfl
theorem fmX4_told_36 : Cond.fieldLink RX4 36 "FlagCore" "asked" "I" ∈ wsX4_told := List.mem_of_getElem? (i := 4) rfl
abbrev rmX4_told : Room := { frames := 1, cells := 0, slots := 0, locals := 21 }
set_option maxRecDepth 20000 in
theorem cX4_told_ (h : HX) (hE : okE (EX h)) (a1 : Int32) (u : ST) : MX (EX h) yX4_told wsX4_told rmX4_told [.ref (xO h), .int a1] u (tR u (fX4_told a1 u)) := by
  refine MX.of (cc := cX4_told) (maxL := 2) (ret := (some .int)) (lv := [(0, .ref (xO h)), (1, .int a1)]) hE (by decide) rfl (fun _ => rfl) (Nat.le_of_ble_eq_true rfl) rfl (fun K hC => ?_)
  unfold fX4_told
  refine g_iload_n 0 hC dX4_told_0 1 rfl ?_
  refine g_byT (tR u) (fun h1 => ?_) (fun h1 => ?_)
  · refine g_tsIn 1 hC (0 : Int32) (47) 48 h1 dX4_told_1 (by decide) (by decide) (by decide) (by decide) ?_
    refine g_aload_n 48 hC dX4_told_48 0 rfl ?_
    refine x_get_pc 49 hC fiX4_told_wsX40 fmX4_told_32 dX4_told_49 ?_
    exact g_iretR 52 hC dX4_told_52
  · skip
    refine g_byT (tR u) (fun h2 => ?_) (fun h2 => ?_)
    · refine g_tsIn 1 hC (1 : Int32) (52) 53 h2 dX4_told_1 (by decide) (by decide) (by decide) (by decide) ?_
      refine g_aload_n 53 hC dX4_told_53 0 rfl ?_
      refine x_get_bytes 54 hC fiX4_told_wsX40 fmX4_told_16 dX4_told_54 ?_
      refine g_bipush 57 hC (93 : Int32) dX4_told_57 (by decide) ?_
      refine kX0_pair 59 hC gX4_told_X0_pair ⟨Nat.le_of_ble_eq_true rfl, Nat.le_of_ble_eq_true rfl⟩ dX4_told_59 (Nat.le_of_ble_eq_true rfl) ?_
      exact g_iretR 62 hC dX4_told_62
    · skip
      refine g_byT (tR u) (fun h3 => ?_) (fun h3 => ?_)
      · refine g_tsIn 1 hC (2 : Int32) (62) 63 h3 dX4_told_1 (by decide) (by decide) (by decide) (by decide) ?_
        refine g_aload_n 63 hC dX4_told_63 0 rfl ?_
        refine x_get_bytes 64 hC fiX4_told_wsX40 fmX4_told_16 dX4_told_64 ?_
        refine g_bipush 67 hC (95 : Int32) dX4_told_67 (by decide) ?_
        refine kX0_get 69 hC gX4_told_X0_get ⟨Nat.le_of_ble_eq_true rfl, Nat.le_of_ble_eq_true rfl⟩ dX4_told_69 (Nat.le_of_ble_eq_true rfl) ?_
        exact g_iretR 72 hC dX4_told_72
      · skip
        refine g_byT (tR u) (fun h4 => ?_) (fun h4 => ?_)
        · refine g_tsIn 1 hC (3 : Int32) (72) 73 h4 dX4_told_1 (by decide) (by decide) (by decide) (by decide) ?_
          refine g_aload_n 73 hC dX4_told_73 0 rfl ?_
          refine x_get_bytes 74 hC fiX4_told_wsX40 fmX4_told_16 dX4_told_74 ?_
          refine g_bipush 77 hC (26 : Int32) dX4_told_77 (by decide) ?_
          refine kX0_pair 79 hC gX4_told_X0_pair ⟨Nat.le_of_ble_eq_true rfl, Nat.le_of_ble_eq_true rfl⟩ dX4_told_79 (Nat.le_of_ble_eq_true rfl) ?_
          exact g_iretR 82 hC dX4_told_82
        · skip
          refine g_byT (tR u) (fun h5 => ?_) (fun h5 => ?_)
          · refine g_tsIn 1 hC (4 : Int32) (82) 83 h5 dX4_told_1 (by decide) (by decide) (by decide) (by decide) ?_
            refine g_aload_n 83 hC dX4_told_83 0 rfl ?_
            refine x_get_bytes 84 hC fiX4_told_wsX40 fmX4_told_16 dX4_told_84 ?_
            refine g_bipush 87 hC (28 : Int32) dX4_told_87 (by decide) ?_
            refine kX0_pair 89 hC gX4_told_X0_pair ⟨Nat.le_of_ble_eq_true rfl, Nat.le_of_ble_eq_true rfl⟩ dX4_told_89 (Nat.le_of_ble_eq_true rfl) ?_
            exact g_iretR 92 hC dX4_told_92
          · skip
            refine g_byT (tR u) (fun h6 => ?_) (fun h6 => ?_)
            · refine g_tsIn 1 hC (5 : Int32) (92) 93 h6 dX4_told_1 (by decide) (by decide) (by decide) (by decide) ?_
              refine g_aload_n 93 hC dX4_told_93 0 rfl ?_
              refine x_get_bytes 94 hC fiX4_told_wsX40 fmX4_told_16 dX4_told_94 ?_
              refine g_bipush 97 hC (30 : Int32) dX4_told_97 (by decide) ?_
              refine kX0_pair 99 hC gX4_told_X0_pair ⟨Nat.le_of_ble_eq_true rfl, Nat.le_of_ble_eq_true rfl⟩ dX4_told_99 (Nat.le_of_ble_eq_true rfl) ?_
              exact g_iretR 102 hC dX4_told_102
            · skip
              refine g_byT (tR u) (fun h7 => ?_) (fun h7 => ?_)
              · refine g_tsIn 1 hC (6 : Int32) (102) 103 h7 dX4_told_1 (by decide) (by decide) (by decide) (by decide) ?_
                refine g_aload_n 103 hC dX4_told_103 0 rfl ?_
                refine x_get_waiting 104 hC fiX4_told_wsX40 fmX4_told_42 dX4_told_104 ?_
                refine g_cut 115 (if (gWa u) = 0 then (0 : Int32) else (1 : Int32)) [] ?_ (fun J9 => ?_)
                · skip
                  exact g_iretR 115 hC dX4_told_115
                · skip
                  refine g_if_eq 107 hC 114 dX4_told_107 (by decide) (fun h8 => ?_) (fun h8 => ?_)
                  · skip
                    refine g_iconst 114 hC (0 : Int32) dX4_told_114 (by decide) ?_
                    exact J9 _ (Eq.symm (if_pos h8))
                  · skip
                    refine g_iconst 110 hC (1 : Int32) dX4_told_110 (by decide) ?_
                    refine g_goto 111 hC 115 dX4_told_111 (by decide) ?_
                    exact J9 _ (Eq.symm (if_neg h8))
              · skip
                refine g_byT (tR u) (fun h10 => ?_) (fun h10 => ?_)
                · refine g_tsIn 1 hC (7 : Int32) (115) 116 h10 dX4_told_1 (by decide) (by decide) (by decide) (by decide) ?_
                  refine g_aload_n 116 hC dX4_told_116 0 rfl ?_
                  refine x_get_asked 117 hC fiX4_told_wsX40 fmX4_told_36 dX4_told_117 ?_
                  exact g_iretR 120 hC dX4_told_120
                · skip
                  refine g_tsOut 1 hC 121 dX4_told_1 (by have n0 := lv_neT h1 (a := 0) (by decide); have n1 := lv_neT h2 (a := 1) (by decide); have n2 := lv_neT h3 (a := 2) (by decide); have n3 := lv_neT h4 (a := 3) (by decide); have n4 := lv_neT h5 (a := 4) (by decide); have n5 := lv_neT h6 (a := 5) (by decide); have n6 := lv_neT h7 (a := 6) (by decide); have n7 := lv_neT h10 (a := 7) (by decide); omega) (by decide) ?_
                  refine g_iconst 121 hC (-1 : Int32) dX4_told_121 (by decide) ?_
                  exact g_iretR 122 hC dX4_told_122
theorem kX4_told {K : KT} {h : HX} {cc : ByteArray} {nL : Nat} {own : String} {Ts : List Cond} {rm : Room} {ret : Option FieldType} {T : ST × Option Value} {u : ST} {lv : List (Nat × Value)} {rest : List Value} {idx : Nat} {a1 : Int32} (pc : Nat) (hC : Cx K (EX h) cc nL own Ts rm ret) (hT : GoodIn Ts (wsV own idx RX4 yX4_told wsX4_told)) (hR : rmX4_told.frames + 1 ≤ rm.frames ∧ 8 + (2 + 11) + rmX4_told.locals ≤ rm.locals) (hdg : decode cc pc = .ok (.invokevirtual idx, 3)) (hcat : (rest.map fun v => v.category).sum ≤ 8) (kk : G K (EX h) nL T u (pc + 3) lv (.int (fX4_told a1 u) :: rest)) : G K (EX h) nL T u pc lv (.int a1 :: .ref (xO h) :: rest) := g_callV (n := 1) pc hC (As := [.int a1]) (rest := rest) (cX4_told_ _ (Cx.ok hC) a1 u) hT rfl rfl rfl (by decide +kernel) hR 0 2 rfl rfl rfl rfl rfl hcat hdg kk

def fX4_go (a1 : Int32) (u : ST) : ST × Int32 :=
  if (fX4_within a1 (1023 : Int32)) = 0 then
    (u, (-1 : Int32))
  else
    ((sPc u a1), (gPc u))
theorem fiX4_go_wsX40 : ∀ w ∈ wsX40, w ∈ wsX4_go := fun w h => List.mem_cons_of_mem _ (List.mem_append_right _ h)
theorem fmX4_go_32 : Cond.fieldLink RX4 32 "FlagCore" "pc" "I" ∈ wsX4_go := List.mem_of_getElem? (i := 1) rfl
abbrev rmX4_go : Room := { frames := 1, cells := 0, slots := 0, locals := 21 }
set_option maxRecDepth 20000 in
theorem cX4_go_ (h : HX) (hE : okE (EX h)) (a1 : Int32) (u : ST) : MX (EX h) yX4_go wsX4_go rmX4_go [.ref (xO h), .int a1] u (tW (fX4_go a1 u)) := by
  refine MX.of (cc := cX4_go) (maxL := 3) (ret := (some .int)) (lv := [(0, .ref (xO h)), (1, .int a1)]) hE (by decide) rfl (fun _ => rfl) (Nat.le_of_ble_eq_true rfl) rfl (fun K hC => ?_)
  unfold fX4_go
  refine g_iload_n 0 hC dX4_go_0 1 rfl ?_
  refine g_sipush 1 hC (1023 : Int32) dX4_go_1 (by decide) ?_
  refine kX4_within 4 hC gX4_go_X4_within ⟨Nat.le_of_ble_eq_true rfl, Nat.le_of_ble_eq_true rfl⟩ dX4_go_4 (Nat.le_of_ble_eq_true rfl) ?_
  refine g_if_neT (tW) 7 hC 12 dX4_go_7 (by decide) (fun h1 => ?_) (fun h1 => ?_)
  · skip
    refine g_aload_n 12 hC dX4_go_12 0 rfl ?_
    refine x_get_pc 13 hC fiX4_go_wsX40 fmX4_go_32 dX4_go_13 ?_
    refine g_istore_n 16 hC dX4_go_16 (by decide) [(2, .int ((gPc u))), (0, .ref (xO h)), (1, .int a1)] rfl ?_
    refine g_aload_n 17 hC dX4_go_17 1 rfl ?_
    refine g_iload_n 18 hC dX4_go_18 2 rfl ?_
    refine x_put_pc 19 hC fiX4_go_wsX40 fmX4_go_32 dX4_go_19 ?_
    refine g_iload_n 22 hC dX4_go_22 0 rfl ?_
    exact g_iretW 23 hC dX4_go_23
  · skip
    refine g_iconst 10 hC (-1 : Int32) dX4_go_10 (by decide) ?_
    exact g_iretW 11 hC dX4_go_11
theorem kX4_go {K : KT} {h : HX} {cc : ByteArray} {nL : Nat} {own : String} {Ts : List Cond} {rm : Room} {ret : Option FieldType} {T : ST × Option Value} {u : ST} {lv : List (Nat × Value)} {rest : List Value} {idx : Nat} {a1 : Int32} (pc : Nat) (hC : Cx K (EX h) cc nL own Ts rm ret) (hT : GoodIn Ts (wsV own idx RX4 yX4_go wsX4_go)) (hR : rmX4_go.frames + 1 ≤ rm.frames ∧ 8 + (3 + 11) + rmX4_go.locals ≤ rm.locals) (hdg : decode cc pc = .ok (.invokevirtual idx, 3)) (hcat : (rest.map fun v => v.category).sum ≤ 8) (kk : G K (EX h) nL T (fX4_go a1 u).1 (pc + 3) lv (.int (fX4_go a1 u).2 :: rest)) : G K (EX h) nL T u pc lv (.int a1 :: .ref (xO h) :: rest) := g_callV (n := 1) pc hC (As := [.int a1]) (rest := rest) (cX4_go_ _ (Cx.ok hC) a1 u) hT rfl rfl rfl (by decide +kernel) hR 0 2 rfl rfl rfl rfl rfl hcat hdg kk

def fX4_ask (a1 : Int32) (u : ST) : ST × Int32 :=
  if a1 < (1 : Int32) then
    (u, (-1 : Int32))
  else
    if a1 ≤ (25 : Int32) then
      if ((gAs u) &&& (jshl (1 : Int32) a1)) = 0 then
        ((sAs u ((gAs u) ||| (jshl (1 : Int32) a1))), (1 : Int32))
      else
        (u, (0 : Int32))
    else
      (u, (-1 : Int32))
theorem fiX4_ask_wsX40 : ∀ w ∈ wsX40, w ∈ wsX4_ask := fun w h => List.mem_cons_of_mem _ (List.mem_append_right _ h)
theorem fmX4_ask_36 : Cond.fieldLink RX4 36 "FlagCore" "asked" "I" ∈ wsX4_ask := List.mem_of_getElem? (i := 1) rfl
abbrev rmX4_ask : Room := { frames := 0, cells := 0, slots := 0, locals := 0 }
set_option maxRecDepth 20000 in
theorem cX4_ask_ (h : HX) (hE : okE (EX h)) (a1 : Int32) (u : ST) : MX (EX h) yX4_ask wsX4_ask rmX4_ask [.ref (xO h), .int a1] u (tW (fX4_ask a1 u)) := by
  refine MX.of (cc := cX4_ask) (maxL := 3) (ret := (some .int)) (lv := [(0, .ref (xO h)), (1, .int a1)]) hE (by decide) rfl (fun _ => rfl) (Nat.le_of_ble_eq_true rfl) rfl (fun K hC => ?_)
  unfold fX4_ask
  refine g_iload_n 0 hC dX4_ask_0 1 rfl ?_
  refine g_iconst 1 hC (1 : Int32) dX4_ask_1 (by decide) ?_
  refine g_icmp_ltT (tW) 2 hC 11 dX4_ask_2 (by decide) (fun h1 => ?_) (fun h1 => ?_)
  · skip
    refine g_iconst 11 hC (-1 : Int32) dX4_ask_11 (by decide) ?_
    exact g_iretW 12 hC dX4_ask_12
  · skip
    refine g_iload_n 5 hC dX4_ask_5 1 rfl ?_
    refine g_bipush 6 hC (25 : Int32) dX4_ask_6 (by decide) ?_
    refine g_icmp_leT (tW) 8 hC 13 dX4_ask_8 (by decide) (fun h2 => ?_) (fun h2 => ?_)
    · skip
      refine g_iconst 13 hC (1 : Int32) dX4_ask_13 (by decide) ?_
      refine g_iload_n 14 hC dX4_ask_14 1 rfl ?_
      refine g_ishl 15 hC dX4_ask_15 ?_
      refine g_istore_n 16 hC dX4_ask_16 (by decide) [(2, .int ((jshl (1 : Int32) a1))), (0, .ref (xO h)), (1, .int a1)] rfl ?_
      refine g_aload_n 17 hC dX4_ask_17 1 rfl ?_
      refine x_get_asked 18 hC fiX4_ask_wsX40 fmX4_ask_36 dX4_ask_18 ?_
      refine g_iload_n 21 hC dX4_ask_21 0 rfl ?_
      refine g_iand 22 hC dX4_ask_22 ?_
      refine g_if_eqT (tW) 23 hC 28 dX4_ask_23 (by decide) (fun h3 => ?_) (fun h3 => ?_)
      · skip
        refine g_aload_n 28 hC dX4_ask_28 1 rfl ?_
        refine g_dup 29 hC dX4_ask_29 rfl ?_
        refine x_get_asked 30 hC fiX4_ask_wsX40 fmX4_ask_36 dX4_ask_30 ?_
        refine g_iload_n 33 hC dX4_ask_33 0 rfl ?_
        refine g_ior 34 hC dX4_ask_34 ?_
        refine x_put_asked 35 hC fiX4_ask_wsX40 fmX4_ask_36 dX4_ask_35 ?_
        refine g_iconst 38 hC (1 : Int32) dX4_ask_38 (by decide) ?_
        exact g_iretW 39 hC dX4_ask_39
      · skip
        refine g_iconst 26 hC (0 : Int32) dX4_ask_26 (by decide) ?_
        exact g_iretW 27 hC dX4_ask_27
    · skip
      refine g_iconst 11 hC (-1 : Int32) dX4_ask_11 (by decide) ?_
      exact g_iretW 12 hC dX4_ask_12
theorem kX4_ask {K : KT} {h : HX} {cc : ByteArray} {nL : Nat} {own : String} {Ts : List Cond} {rm : Room} {ret : Option FieldType} {T : ST × Option Value} {u : ST} {lv : List (Nat × Value)} {rest : List Value} {idx : Nat} {a1 : Int32} (pc : Nat) (hC : Cx K (EX h) cc nL own Ts rm ret) (hT : GoodIn Ts (wsV own idx RX4 yX4_ask wsX4_ask)) (hR : rmX4_ask.frames + 1 ≤ rm.frames ∧ 8 + (3 + 11) + rmX4_ask.locals ≤ rm.locals) (hdg : decode cc pc = .ok (.invokevirtual idx, 3)) (hcat : (rest.map fun v => v.category).sum ≤ 8) (kk : G K (EX h) nL T (fX4_ask a1 u).1 (pc + 3) lv (.int (fX4_ask a1 u).2 :: rest)) : G K (EX h) nL T u pc lv (.int a1 :: .ref (xO h) :: rest) := g_callV (n := 1) pc hC (As := [.int a1]) (rest := rest) (cX4_ask_ _ (Cx.ok hC) a1 u) hT rfl rfl rfl (by decide +kernel) hR 0 2 rfl rfl rfl rfl rfl hcat hdg kk

def fX4_enterLeast (u : ST) : ST × Int32 :=
  if (fX0_stacks (gPc u) u).2 = 0 then
    (((fX0_stacks (gPc u) u).1), (3 : Int32))
  else
    ((fX0_setFlag (7 : Int32) (0 : Int32) (sAs (sPc ((fX0_stacks (gPc u) u).1) (((2 : Int32) * (fJ6_numberOfTrailingZeros_0f7a4 (gAs ((fX0_stacks (gPc u) u).1)))) &&& (1023 : Int32))) ((gAs (sPc ((fX0_stacks (gPc u) u).1) (((2 : Int32) * (fJ6_numberOfTrailingZeros_0f7a4 (gAs ((fX0_stacks (gPc u) u).1)))) &&& (1023 : Int32)))) &&& ((gAs (sPc ((fX0_stacks (gPc u) u).1) (((2 : Int32) * (fJ6_numberOfTrailingZeros_0f7a4 (gAs ((fX0_stacks (gPc u) u).1)))) &&& (1023 : Int32)))) - (1 : Int32))))), (1 : Int32))
theorem fiX4_enterLeast_wsX40 : ∀ w ∈ wsX40, w ∈ wsX4_enterLeast := fun w h => List.mem_cons_of_mem _ (List.mem_append_left _ (List.mem_append_right _ h))
theorem fmX4_enterLeast_16 : Cond.fieldLink RX4 16 "FlagCore" "bytes" "LFlagCore$Bytes;" ∈ wsX4_enterLeast := List.mem_of_getElem? (i := 1) rfl
theorem fmX4_enterLeast_32 : Cond.fieldLink RX4 32 "FlagCore" "pc" "I" ∈ wsX4_enterLeast := List.mem_of_getElem? (i := 2) rfl
theorem fmX4_enterLeast_36 : Cond.fieldLink RX4 36 "FlagCore" "asked" "I" ∈ wsX4_enterLeast := List.mem_of_getElem? (i := 3) rfl
abbrev rmX4_enterLeast : Room := { frames := 3, cells := 0, slots := 0, locals := 67 }
set_option maxRecDepth 20000 in
theorem cX4_enterLeast_ (h : HX) (hE : okE (EX h)) (u : ST) : MX (EX h) yX4_enterLeast wsX4_enterLeast rmX4_enterLeast [.ref (xO h)] u (tW (fX4_enterLeast u)) := by
  refine MX.of (cc := cX4_enterLeast) (maxL := 1) (ret := (some .int)) (lv := [(0, .ref (xO h))]) hE (by decide) rfl (fun _ => rfl) (Nat.le_of_ble_eq_true rfl) rfl (fun K hC => ?_)
  unfold fX4_enterLeast
  refine g_aload_n 0 hC dX4_enterLeast_0 0 rfl ?_
  refine x_get_bytes 1 hC fiX4_enterLeast_wsX40 fmX4_enterLeast_16 dX4_enterLeast_1 ?_
  refine g_aload_n 4 hC dX4_enterLeast_4 0 rfl ?_
  refine x_get_pc 5 hC fiX4_enterLeast_wsX40 fmX4_enterLeast_32 dX4_enterLeast_5 ?_
  refine kX0_stacks 8 hC gX4_enterLeast_X0_stacks ⟨Nat.le_of_ble_eq_true rfl, Nat.le_of_ble_eq_true rfl⟩ dX4_enterLeast_8 (Nat.le_of_ble_eq_true rfl) ?_
  refine g_if_neT (tW) 11 hC 16 dX4_enterLeast_11 (by decide) (fun h1 => ?_) (fun h1 => ?_)
  · skip
    refine g_aload_n 16 hC dX4_enterLeast_16 0 rfl ?_
    refine g_iconst 17 hC (2 : Int32) dX4_enterLeast_17 (by decide) ?_
    refine g_aload_n 18 hC dX4_enterLeast_18 0 rfl ?_
    refine x_get_asked 19 hC fiX4_enterLeast_wsX40 fmX4_enterLeast_36 dX4_enterLeast_19 ?_
    refine kJ6_numberOfTrailingZeros_0f7a4 22 hC gX4_enterLeast_J6_numberOfTrailingZeros_0f7a4 ⟨Nat.le_of_ble_eq_true rfl, Nat.le_of_ble_eq_true rfl⟩ dX4_enterLeast_22 (Nat.le_of_ble_eq_true rfl) ?_
    refine g_imul 25 hC dX4_enterLeast_25 ?_
    refine g_sipush 26 hC (1023 : Int32) dX4_enterLeast_26 (by decide) ?_
    refine g_iand 29 hC dX4_enterLeast_29 ?_
    refine x_put_pc 30 hC fiX4_enterLeast_wsX40 fmX4_enterLeast_32 dX4_enterLeast_30 ?_
    refine g_aload_n 33 hC dX4_enterLeast_33 0 rfl ?_
    refine g_dup 34 hC dX4_enterLeast_34 rfl ?_
    refine x_get_asked 35 hC fiX4_enterLeast_wsX40 fmX4_enterLeast_36 dX4_enterLeast_35 ?_
    refine g_aload_n 38 hC dX4_enterLeast_38 0 rfl ?_
    refine x_get_asked 39 hC fiX4_enterLeast_wsX40 fmX4_enterLeast_36 dX4_enterLeast_39 ?_
    refine g_iconst 42 hC (1 : Int32) dX4_enterLeast_42 (by decide) ?_
    refine g_isub 43 hC dX4_enterLeast_43 ?_
    refine g_iand 44 hC dX4_enterLeast_44 ?_
    refine x_put_asked 45 hC fiX4_enterLeast_wsX40 fmX4_enterLeast_36 dX4_enterLeast_45 ?_
    refine g_aload_n 48 hC dX4_enterLeast_48 0 rfl ?_
    refine x_get_bytes 49 hC fiX4_enterLeast_wsX40 fmX4_enterLeast_16 dX4_enterLeast_49 ?_
    refine g_bipush 52 hC (7 : Int32) dX4_enterLeast_52 (by decide) ?_
    refine g_iconst 54 hC (0 : Int32) dX4_enterLeast_54 (by decide) ?_
    refine kX0_setFlag 55 hC gX4_enterLeast_X0_setFlag ⟨Nat.le_of_ble_eq_true rfl, Nat.le_of_ble_eq_true rfl⟩ dX4_enterLeast_55 (Nat.le_of_ble_eq_true rfl) ?_
    refine g_iconst 58 hC (1 : Int32) dX4_enterLeast_58 (by decide) ?_
    exact g_iretW 59 hC dX4_enterLeast_59
  · skip
    refine g_iconst 14 hC (3 : Int32) dX4_enterLeast_14 (by decide) ?_
    exact g_iretW 15 hC dX4_enterLeast_15
theorem kX4_enterLeast {K : KT} {h : HX} {cc : ByteArray} {nL : Nat} {own : String} {Ts : List Cond} {rm : Room} {ret : Option FieldType} {T : ST × Option Value} {u : ST} {lv : List (Nat × Value)} {rest : List Value} {idx : Nat} (pc : Nat) (hC : Cx K (EX h) cc nL own Ts rm ret) (hT : GoodIn Ts (wsV own idx RX4 yX4_enterLeast wsX4_enterLeast)) (hR : rmX4_enterLeast.frames + 1 ≤ rm.frames ∧ 8 + (1 + 11) + rmX4_enterLeast.locals ≤ rm.locals) (hdg : decode cc pc = .ok (.invokevirtual idx, 3)) (hcat : (rest.map fun v => v.category).sum ≤ 8) (kk : G K (EX h) nL T (fX4_enterLeast u).1 (pc + 3) lv (.int (fX4_enterLeast u).2 :: rest)) : G K (EX h) nL T u pc lv (.ref (xO h) :: rest) := g_callV (n := 0) pc hC (As := []) (rest := rest) (cX4_enterLeast_ _ (Cx.ok hC) u) hT rfl rfl rfl (by decide +kernel) hR 0 2 rfl rfl rfl rfl rfl hcat hdg kk

def fX4_onward (a1 : Int32) (u : ST) : ST × Int32 :=
  ((sPc u (((gPc u) + a1) &&& (1023 : Int32))), (0 : Int32))
theorem fiX4_onward_wsX40 : ∀ w ∈ wsX40, w ∈ wsX4_onward := fun w h => List.mem_cons_of_mem _ (List.mem_append_right _ h)
theorem fmX4_onward_32 : Cond.fieldLink RX4 32 "FlagCore" "pc" "I" ∈ wsX4_onward := List.mem_of_getElem? (i := 1) rfl
abbrev rmX4_onward : Room := { frames := 0, cells := 0, slots := 0, locals := 0 }
set_option maxRecDepth 20000 in
theorem cX4_onward_ (h : HX) (hE : okE (EX h)) (a1 : Int32) (u : ST) : MX (EX h) yX4_onward wsX4_onward rmX4_onward [.ref (xO h), .int a1] u (tW (fX4_onward a1 u)) := by
  refine MX.of (cc := cX4_onward) (maxL := 2) (ret := (some .int)) (lv := [(0, .ref (xO h)), (1, .int a1)]) hE (by decide) rfl (fun _ => rfl) (Nat.le_of_ble_eq_true rfl) rfl (fun K hC => ?_)
  unfold fX4_onward
  refine g_aload_n 0 hC dX4_onward_0 0 rfl ?_
  refine g_aload_n 1 hC dX4_onward_1 0 rfl ?_
  refine x_get_pc 2 hC fiX4_onward_wsX40 fmX4_onward_32 dX4_onward_2 ?_
  refine g_iload_n 5 hC dX4_onward_5 1 rfl ?_
  refine g_iadd 6 hC dX4_onward_6 ?_
  refine g_sipush 7 hC (1023 : Int32) dX4_onward_7 (by decide) ?_
  refine g_iand 10 hC dX4_onward_10 ?_
  refine x_put_pc 11 hC fiX4_onward_wsX40 fmX4_onward_32 dX4_onward_11 ?_
  refine g_iconst 14 hC (0 : Int32) dX4_onward_14 (by decide) ?_
  exact g_iretW 15 hC dX4_onward_15
theorem kX4_onward {K : KT} {h : HX} {cc : ByteArray} {nL : Nat} {own : String} {Ts : List Cond} {rm : Room} {ret : Option FieldType} {T : ST × Option Value} {u : ST} {lv : List (Nat × Value)} {rest : List Value} {idx : Nat} {a1 : Int32} (pc : Nat) (hC : Cx K (EX h) cc nL own Ts rm ret) (hT : GoodIn Ts (wsV own idx RX4 yX4_onward wsX4_onward)) (hR : rmX4_onward.frames + 1 ≤ rm.frames ∧ 8 + (2 + 11) + rmX4_onward.locals ≤ rm.locals) (hdg : decode cc pc = .ok (.invokevirtual idx, 3)) (hcat : (rest.map fun v => v.category).sum ≤ 8) (kk : G K (EX h) nL T (fX4_onward a1 u).1 (pc + 3) lv (.int (fX4_onward a1 u).2 :: rest)) : G K (EX h) nL T u pc lv (.int a1 :: .ref (xO h) :: rest) := g_callV (n := 1) pc hC (As := [.int a1]) (rest := rest) (cX4_onward_ _ (Cx.ok hC) a1 u) hT rfl rfl rfl (by decide +kernel) hR 0 2 rfl rfl rfl rfl rfl hcat hdg kk

def fX4_movePair (a1 : Int32) (u : ST) : ST × Int32 :=
  (fX4_onward (1 : Int32) (fX0_setPair ((2 : Int32) * ((jshr a1 (4 : Int32)) &&& (15 : Int32))) (fX0_pair ((2 : Int32) * (a1 &&& (15 : Int32))) u) u))
theorem fiX4_movePair_wsX40 : ∀ w ∈ wsX40, w ∈ wsX4_movePair := fun w h => List.mem_cons_of_mem _ (List.mem_append_left _ (List.mem_append_right _ h))
theorem fmX4_movePair_16 : Cond.fieldLink RX4 16 "FlagCore" "bytes" "LFlagCore$Bytes;" ∈ wsX4_movePair := List.mem_of_getElem? (i := 1) rfl
abbrev rmX4_movePair : Room := { frames := 1, cells := 0, slots := 0, locals := 22 }
set_option maxRecDepth 20000 in
theorem cX4_movePair_ (h : HX) (hE : okE (EX h)) (a1 : Int32) (u : ST) : MX (EX h) yX4_movePair wsX4_movePair rmX4_movePair [.ref (xO h), .int a1] u (tW (fX4_movePair a1 u)) := by
  refine MX.of (cc := cX4_movePair) (maxL := 2) (ret := (some .int)) (lv := [(0, .ref (xO h)), (1, .int a1)]) hE (by decide) rfl (fun _ => rfl) (Nat.le_of_ble_eq_true rfl) rfl (fun K hC => ?_)
  unfold fX4_movePair
  refine g_aload_n 0 hC dX4_movePair_0 0 rfl ?_
  refine x_get_bytes 1 hC fiX4_movePair_wsX40 fmX4_movePair_16 dX4_movePair_1 ?_
  refine g_iconst 4 hC (2 : Int32) dX4_movePair_4 (by decide) ?_
  refine g_iload_n 5 hC dX4_movePair_5 1 rfl ?_
  refine g_iconst 6 hC (4 : Int32) dX4_movePair_6 (by decide) ?_
  refine g_ishr 7 hC dX4_movePair_7 ?_
  refine g_bipush 8 hC (15 : Int32) dX4_movePair_8 (by decide) ?_
  refine g_iand 10 hC dX4_movePair_10 ?_
  refine g_imul 11 hC dX4_movePair_11 ?_
  refine g_aload_n 12 hC dX4_movePair_12 0 rfl ?_
  refine x_get_bytes 13 hC fiX4_movePair_wsX40 fmX4_movePair_16 dX4_movePair_13 ?_
  refine g_iconst 16 hC (2 : Int32) dX4_movePair_16 (by decide) ?_
  refine g_iload_n 17 hC dX4_movePair_17 1 rfl ?_
  refine g_bipush 18 hC (15 : Int32) dX4_movePair_18 (by decide) ?_
  refine g_iand 20 hC dX4_movePair_20 ?_
  refine g_imul 21 hC dX4_movePair_21 ?_
  refine kX0_pair 22 hC gX4_movePair_X0_pair ⟨Nat.le_of_ble_eq_true rfl, Nat.le_of_ble_eq_true rfl⟩ dX4_movePair_22 (Nat.le_of_ble_eq_true rfl) ?_
  refine kX0_setPair 25 hC gX4_movePair_X0_setPair ⟨Nat.le_of_ble_eq_true rfl, Nat.le_of_ble_eq_true rfl⟩ dX4_movePair_25 (Nat.le_of_ble_eq_true rfl) ?_
  refine g_aload_n 28 hC dX4_movePair_28 0 rfl ?_
  refine g_iconst 29 hC (1 : Int32) dX4_movePair_29 (by decide) ?_
  refine kX4_onward 30 hC gX4_movePair_X4_onward ⟨Nat.le_of_ble_eq_true rfl, Nat.le_of_ble_eq_true rfl⟩ dX4_movePair_30 (Nat.le_of_ble_eq_true rfl) ?_
  exact g_iret 33 hC dX4_movePair_33
theorem kX4_movePair {K : KT} {h : HX} {cc : ByteArray} {nL : Nat} {own : String} {Ts : List Cond} {rm : Room} {ret : Option FieldType} {T : ST × Option Value} {u : ST} {lv : List (Nat × Value)} {rest : List Value} {idx : Nat} {a1 : Int32} (pc : Nat) (hC : Cx K (EX h) cc nL own Ts rm ret) (hT : GoodIn Ts (wsV own idx RX4 yX4_movePair wsX4_movePair)) (hR : rmX4_movePair.frames + 1 ≤ rm.frames ∧ 8 + (2 + 11) + rmX4_movePair.locals ≤ rm.locals) (hdg : decode cc pc = .ok (.invokevirtual idx, 3)) (hcat : (rest.map fun v => v.category).sum ≤ 8) (kk : G K (EX h) nL T (fX4_movePair a1 u).1 (pc + 3) lv (.int (fX4_movePair a1 u).2 :: rest)) : G K (EX h) nL T u pc lv (.int a1 :: .ref (xO h) :: rest) := g_callV (n := 1) pc hC (As := [.int a1]) (rest := rest) (cX4_movePair_ _ (Cx.ok hC) a1 u) hT rfl rfl rfl (by decide +kernel) hR 0 2 rfl rfl rfl rfl rfl hcat hdg kk

def fX4_multiplyFew (a1 : Int32) (a2 : Int32) (a3 : Int32) (u : ST) : ST :=
  if (a1 &&& (136 : Int32)) = (0 : Int32) then
    (fX2_product ((fX0_signed a2 u) * (fX0_get a3 u)) u)
  else
    if (a1 &&& (136 : Int32)) = (8 : Int32) then
      (fX2_fraction ((fX0_get a2 u) * (fX0_get a3 u)) u)
    else
      if (a1 &&& (136 : Int32)) = (128 : Int32) then
        (fX2_fraction ((fX0_signed a2 u) * (fX0_signed a3 u)) u)
      else
        (fX2_fraction ((fX0_signed a2 u) * (fX0_get a3 u)) u)
theorem fiX4_multiplyFew_wsX40 : ∀ w ∈ wsX40, w ∈ wsX4_multiplyFew := fun w h => List.mem_cons_of_mem _ (List.mem_append_left _ (List.mem_append_left _ (List.mem_append_right _ h)))
theorem fmX4_multiplyFew_25 : Cond.fieldLink RX4 25 "FlagCore" "sums" "LFlagCore$Sums;" ∈ wsX4_multiplyFew := List.mem_of_getElem? (i := 1) rfl
theorem fmX4_multiplyFew_16 : Cond.fieldLink RX4 16 "FlagCore" "bytes" "LFlagCore$Bytes;" ∈ wsX4_multiplyFew := List.mem_of_getElem? (i := 2) rfl
abbrev rmX4_multiplyFew : Room := { frames := 3, cells := 0, slots := 0, locals := 65 }
set_option maxRecDepth 20000 in
theorem cX4_multiplyFew_ (h : HX) (hE : okE (EX h)) (a1 : Int32) (a2 : Int32) (a3 : Int32) (u : ST) : MX (EX h) yX4_multiplyFew wsX4_multiplyFew rmX4_multiplyFew [.ref (xO h), .int a1, .int a2, .int a3] u (tS (fX4_multiplyFew a1 a2 a3 u)) := by
  refine MX.of (cc := cX4_multiplyFew) (maxL := 4) (ret := none) (lv := [(0, .ref (xO h)), (1, .int a1), (2, .int a2), (3, .int a3)]) hE (by decide) rfl (fun _ => rfl) (Nat.le_of_ble_eq_true rfl) rfl (fun K hC => ?_)
  unfold fX4_multiplyFew
  refine g_iload_n 0 hC dX4_multiplyFew_0 1 rfl ?_
  refine g_sipush 1 hC (136 : Int32) dX4_multiplyFew_1 (by decide) ?_
  refine g_iand 4 hC dX4_multiplyFew_4 ?_
  refine g_byT (tS) (fun h1 => ?_) (fun h1 => ?_)
  · refine g_ls 5 hC (35) 40 dX4_multiplyFew_5 (by decide) (by rw [h1]; decide) (by decide) ?_
    refine g_aload_n 40 hC dX4_multiplyFew_40 0 rfl ?_
    refine x_get_sums 41 hC fiX4_multiplyFew_wsX40 fmX4_multiplyFew_25 dX4_multiplyFew_41 ?_
    refine g_aload_n 44 hC dX4_multiplyFew_44 0 rfl ?_
    refine x_get_bytes 45 hC fiX4_multiplyFew_wsX40 fmX4_multiplyFew_16 dX4_multiplyFew_45 ?_
    refine g_iload_n 48 hC dX4_multiplyFew_48 2 rfl ?_
    refine kX0_signed 49 hC gX4_multiplyFew_X0_signed ⟨Nat.le_of_ble_eq_true rfl, Nat.le_of_ble_eq_true rfl⟩ dX4_multiplyFew_49 (Nat.le_of_ble_eq_true rfl) ?_
    refine g_aload_n 52 hC dX4_multiplyFew_52 0 rfl ?_
    refine x_get_bytes 53 hC fiX4_multiplyFew_wsX40 fmX4_multiplyFew_16 dX4_multiplyFew_53 ?_
    refine g_iload_n 56 hC dX4_multiplyFew_56 3 rfl ?_
    refine kX0_get 57 hC gX4_multiplyFew_X0_get ⟨Nat.le_of_ble_eq_true rfl, Nat.le_of_ble_eq_true rfl⟩ dX4_multiplyFew_57 (Nat.le_of_ble_eq_true rfl) ?_
    refine g_imul 60 hC dX4_multiplyFew_60 ?_
    refine kX2_product 61 hC gX4_multiplyFew_X2_product ⟨Nat.le_of_ble_eq_true rfl, Nat.le_of_ble_eq_true rfl⟩ dX4_multiplyFew_61 (Nat.le_of_ble_eq_true rfl) ?_
    refine g_goto 64 hC 145 dX4_multiplyFew_64 (by decide) ?_
    exact g_vretS 145 hC dX4_multiplyFew_145
  · skip
    refine g_byT (tS) (fun h2 => ?_) (fun h2 => ?_)
    · refine g_ls 5 hC (62) 67 dX4_multiplyFew_5 (by decide) (by rw [h2]; decide) (by decide) ?_
      refine g_aload_n 67 hC dX4_multiplyFew_67 0 rfl ?_
      refine x_get_sums 68 hC fiX4_multiplyFew_wsX40 fmX4_multiplyFew_25 dX4_multiplyFew_68 ?_
      refine g_aload_n 71 hC dX4_multiplyFew_71 0 rfl ?_
      refine x_get_bytes 72 hC fiX4_multiplyFew_wsX40 fmX4_multiplyFew_16 dX4_multiplyFew_72 ?_
      refine g_iload_n 75 hC dX4_multiplyFew_75 2 rfl ?_
      refine kX0_get 76 hC gX4_multiplyFew_X0_get ⟨Nat.le_of_ble_eq_true rfl, Nat.le_of_ble_eq_true rfl⟩ dX4_multiplyFew_76 (Nat.le_of_ble_eq_true rfl) ?_
      refine g_aload_n 79 hC dX4_multiplyFew_79 0 rfl ?_
      refine x_get_bytes 80 hC fiX4_multiplyFew_wsX40 fmX4_multiplyFew_16 dX4_multiplyFew_80 ?_
      refine g_iload_n 83 hC dX4_multiplyFew_83 3 rfl ?_
      refine kX0_get 84 hC gX4_multiplyFew_X0_get ⟨Nat.le_of_ble_eq_true rfl, Nat.le_of_ble_eq_true rfl⟩ dX4_multiplyFew_84 (Nat.le_of_ble_eq_true rfl) ?_
      refine g_imul 87 hC dX4_multiplyFew_87 ?_
      refine kX2_fraction 88 hC gX4_multiplyFew_X2_fraction ⟨Nat.le_of_ble_eq_true rfl, Nat.le_of_ble_eq_true rfl⟩ dX4_multiplyFew_88 (Nat.le_of_ble_eq_true rfl) ?_
      refine g_goto 91 hC 145 dX4_multiplyFew_91 (by decide) ?_
      exact g_vretS 145 hC dX4_multiplyFew_145
    · skip
      refine g_byT (tS) (fun h3 => ?_) (fun h3 => ?_)
      · refine g_ls 5 hC (89) 94 dX4_multiplyFew_5 (by decide) (by rw [h3]; decide) (by decide) ?_
        refine g_aload_n 94 hC dX4_multiplyFew_94 0 rfl ?_
        refine x_get_sums 95 hC fiX4_multiplyFew_wsX40 fmX4_multiplyFew_25 dX4_multiplyFew_95 ?_
        refine g_aload_n 98 hC dX4_multiplyFew_98 0 rfl ?_
        refine x_get_bytes 99 hC fiX4_multiplyFew_wsX40 fmX4_multiplyFew_16 dX4_multiplyFew_99 ?_
        refine g_iload_n 102 hC dX4_multiplyFew_102 2 rfl ?_
        refine kX0_signed 103 hC gX4_multiplyFew_X0_signed ⟨Nat.le_of_ble_eq_true rfl, Nat.le_of_ble_eq_true rfl⟩ dX4_multiplyFew_103 (Nat.le_of_ble_eq_true rfl) ?_
        refine g_aload_n 106 hC dX4_multiplyFew_106 0 rfl ?_
        refine x_get_bytes 107 hC fiX4_multiplyFew_wsX40 fmX4_multiplyFew_16 dX4_multiplyFew_107 ?_
        refine g_iload_n 110 hC dX4_multiplyFew_110 3 rfl ?_
        refine kX0_signed 111 hC gX4_multiplyFew_X0_signed ⟨Nat.le_of_ble_eq_true rfl, Nat.le_of_ble_eq_true rfl⟩ dX4_multiplyFew_111 (Nat.le_of_ble_eq_true rfl) ?_
        refine g_imul 114 hC dX4_multiplyFew_114 ?_
        refine kX2_fraction 115 hC gX4_multiplyFew_X2_fraction ⟨Nat.le_of_ble_eq_true rfl, Nat.le_of_ble_eq_true rfl⟩ dX4_multiplyFew_115 (Nat.le_of_ble_eq_true rfl) ?_
        refine g_goto 118 hC 145 dX4_multiplyFew_118 (by decide) ?_
        exact g_vretS 145 hC dX4_multiplyFew_145
      · skip
        refine g_ls 5 hC (116) 121 dX4_multiplyFew_5 (by decide) ((lv_osw h1 (a := 0) (by decide)).trans ((lv_osw h2 (a := 8) (by decide)).trans ((lv_osw h3 (a := 128) (by decide)).trans rfl))) (by decide) ?_
        refine g_aload_n 121 hC dX4_multiplyFew_121 0 rfl ?_
        refine x_get_sums 122 hC fiX4_multiplyFew_wsX40 fmX4_multiplyFew_25 dX4_multiplyFew_122 ?_
        refine g_aload_n 125 hC dX4_multiplyFew_125 0 rfl ?_
        refine x_get_bytes 126 hC fiX4_multiplyFew_wsX40 fmX4_multiplyFew_16 dX4_multiplyFew_126 ?_
        refine g_iload_n 129 hC dX4_multiplyFew_129 2 rfl ?_
        refine kX0_signed 130 hC gX4_multiplyFew_X0_signed ⟨Nat.le_of_ble_eq_true rfl, Nat.le_of_ble_eq_true rfl⟩ dX4_multiplyFew_130 (Nat.le_of_ble_eq_true rfl) ?_
        refine g_aload_n 133 hC dX4_multiplyFew_133 0 rfl ?_
        refine x_get_bytes 134 hC fiX4_multiplyFew_wsX40 fmX4_multiplyFew_16 dX4_multiplyFew_134 ?_
        refine g_iload_n 137 hC dX4_multiplyFew_137 3 rfl ?_
        refine kX0_get 138 hC gX4_multiplyFew_X0_get ⟨Nat.le_of_ble_eq_true rfl, Nat.le_of_ble_eq_true rfl⟩ dX4_multiplyFew_138 (Nat.le_of_ble_eq_true rfl) ?_
        refine g_imul 141 hC dX4_multiplyFew_141 ?_
        refine kX2_fraction 142 hC gX4_multiplyFew_X2_fraction ⟨Nat.le_of_ble_eq_true rfl, Nat.le_of_ble_eq_true rfl⟩ dX4_multiplyFew_142 (Nat.le_of_ble_eq_true rfl) ?_
        exact g_vretS 145 hC dX4_multiplyFew_145
theorem kX4_multiplyFew {K : KT} {h : HX} {cc : ByteArray} {nL : Nat} {own : String} {Ts : List Cond} {rm : Room} {ret : Option FieldType} {T : ST × Option Value} {u : ST} {lv : List (Nat × Value)} {rest : List Value} {idx : Nat} {a1 : Int32} {a2 : Int32} {a3 : Int32} (pc : Nat) (hC : Cx K (EX h) cc nL own Ts rm ret) (hT : GoodIn Ts (wsV own idx RX4 yX4_multiplyFew wsX4_multiplyFew)) (hR : rmX4_multiplyFew.frames + 1 ≤ rm.frames ∧ 8 + (4 + 11) + rmX4_multiplyFew.locals ≤ rm.locals) (hdg : decode cc pc = .ok (.invokevirtual idx, 3)) (hcat : (rest.map fun v => v.category).sum ≤ 8) (kk : G K (EX h) nL T (fX4_multiplyFew a1 a2 a3 u) (pc + 3) lv (rest)) : G K (EX h) nL T u pc lv (.int a3 :: .int a2 :: .int a1 :: .ref (xO h) :: rest) := g_callV (n := 3) pc hC (As := [.int a1, .int a2, .int a3]) (rest := rest) (cX4_multiplyFew_ _ (Cx.ok hC) a1 a2 a3 u) hT rfl rfl rfl (by decide +kernel) hR 0 2 rfl rfl rfl rfl rfl hcat hdg kk

def fX4_multiply (a1 : Int32) (u : ST) : ST × Int32 :=
  (fX4_onward (1 : Int32) (if (jshr a1 (12 : Int32)) = (9 : Int32) then (fX2_product ((fX0_get (fX3_d a1) u) * (fX0_get (fX3_r a1) u)) u) else (if (jshr a1 (8 : Int32)) = (2 : Int32) then (fX2_product ((fX0_signed ((16 : Int32) + ((jshr a1 (4 : Int32)) &&& (15 : Int32))) u) * (fX0_signed ((16 : Int32) + (a1 &&& (15 : Int32))) u)) u) else (fX4_multiplyFew a1 ((16 : Int32) + ((jshr a1 (4 : Int32)) &&& (7 : Int32))) ((16 : Int32) + (a1 &&& (7 : Int32))) u))))
theorem fiX4_multiply_wsX40 : ∀ w ∈ wsX40, w ∈ wsX4_multiply := fun w h => List.mem_cons_of_mem _ (List.mem_append_left _ (List.mem_append_left _ (List.mem_append_right _ h)))
theorem fmX4_multiply_25 : Cond.fieldLink RX4 25 "FlagCore" "sums" "LFlagCore$Sums;" ∈ wsX4_multiply := List.mem_of_getElem? (i := 1) rfl
theorem fmX4_multiply_16 : Cond.fieldLink RX4 16 "FlagCore" "bytes" "LFlagCore$Bytes;" ∈ wsX4_multiply := List.mem_of_getElem? (i := 2) rfl
abbrev rmX4_multiply : Room := { frames := 4, cells := 0, slots := 0, locals := 88 }
set_option maxRecDepth 20000 in
theorem cX4_multiply_ (h : HX) (hE : okE (EX h)) (a1 : Int32) (u : ST) : MX (EX h) yX4_multiply wsX4_multiply rmX4_multiply [.ref (xO h), .int a1] u (tW (fX4_multiply a1 u)) := by
  refine MX.of (cc := cX4_multiply) (maxL := 2) (ret := (some .int)) (lv := [(0, .ref (xO h)), (1, .int a1)]) hE (by decide) rfl (fun _ => rfl) (Nat.le_of_ble_eq_true rfl) rfl (fun K hC => ?_)
  unfold fX4_multiply
  refine g_iload_n 0 hC dX4_multiply_0 1 rfl ?_
  refine g_bipush 1 hC (12 : Int32) dX4_multiply_1 (by decide) ?_
  refine g_ishr 3 hC dX4_multiply_3 ?_
  refine g_bipush 4 hC (9 : Int32) dX4_multiply_4 (by decide) ?_
  refine g_cutS 112 (if (jshr a1 (12 : Int32)) = (9 : Int32) then (fX2_product ((fX0_get (fX3_d a1) u) * (fX0_get (fX3_r a1) u)) u) else (if (jshr a1 (8 : Int32)) = (2 : Int32) then (fX2_product ((fX0_signed ((16 : Int32) + ((jshr a1 (4 : Int32)) &&& (15 : Int32))) u) * (fX0_signed ((16 : Int32) + (a1 &&& (15 : Int32))) u)) u) else (fX4_multiplyFew a1 ((16 : Int32) + ((jshr a1 (4 : Int32)) &&& (7 : Int32))) ((16 : Int32) + (a1 &&& (7 : Int32))) u))) [] ?_ (fun J3 => ?_)
  · skip
    refine g_aload_n 112 hC dX4_multiply_112 0 rfl ?_
    refine g_iconst 113 hC (1 : Int32) dX4_multiply_113 (by decide) ?_
    refine kX4_onward 114 hC gX4_multiply_X4_onward ⟨Nat.le_of_ble_eq_true rfl, Nat.le_of_ble_eq_true rfl⟩ dX4_multiply_114 (Nat.le_of_ble_eq_true rfl) ?_
    exact g_iret 117 hC dX4_multiply_117
  · skip
    refine g_icmp_ne 6 hC 42 dX4_multiply_6 (by decide) (fun h1 => ?_) (fun h1 => ?_)
    · skip
      refine g_iload_n 42 hC dX4_multiply_42 1 rfl ?_
      refine g_bipush 43 hC (8 : Int32) dX4_multiply_43 (by decide) ?_
      refine g_ishr 45 hC dX4_multiply_45 ?_
      refine g_iconst 46 hC (2 : Int32) dX4_multiply_46 (by decide) ?_
      refine g_icmp_ne 47 hC 91 dX4_multiply_47 (by decide) (fun h2 => ?_) (fun h2 => ?_)
      · skip
        refine g_aload_n 91 hC dX4_multiply_91 0 rfl ?_
        refine g_iload_n 92 hC dX4_multiply_92 1 rfl ?_
        refine g_bipush 93 hC (16 : Int32) dX4_multiply_93 (by decide) ?_
        refine g_iload_n 95 hC dX4_multiply_95 1 rfl ?_
        refine g_iconst 96 hC (4 : Int32) dX4_multiply_96 (by decide) ?_
        refine g_ishr 97 hC dX4_multiply_97 ?_
        refine g_bipush 98 hC (7 : Int32) dX4_multiply_98 (by decide) ?_
        refine g_iand 100 hC dX4_multiply_100 ?_
        refine g_iadd 101 hC dX4_multiply_101 ?_
        refine g_bipush 102 hC (16 : Int32) dX4_multiply_102 (by decide) ?_
        refine g_iload_n 104 hC dX4_multiply_104 1 rfl ?_
        refine g_bipush 105 hC (7 : Int32) dX4_multiply_105 (by decide) ?_
        refine g_iand 107 hC dX4_multiply_107 ?_
        refine g_iadd 108 hC dX4_multiply_108 ?_
        refine kX4_multiplyFew 109 hC gX4_multiply_X4_multiplyFew ⟨Nat.le_of_ble_eq_true rfl, Nat.le_of_ble_eq_true rfl⟩ dX4_multiply_109 (Nat.le_of_ble_eq_true rfl) ?_
        exact J3 _ (Eq.symm (Eq.trans (if_neg h1) (if_neg h2)))
      · skip
        refine g_aload_n 50 hC dX4_multiply_50 0 rfl ?_
        refine x_get_sums 51 hC fiX4_multiply_wsX40 fmX4_multiply_25 dX4_multiply_51 ?_
        refine g_aload_n 54 hC dX4_multiply_54 0 rfl ?_
        refine x_get_bytes 55 hC fiX4_multiply_wsX40 fmX4_multiply_16 dX4_multiply_55 ?_
        refine g_bipush 58 hC (16 : Int32) dX4_multiply_58 (by decide) ?_
        refine g_iload_n 60 hC dX4_multiply_60 1 rfl ?_
        refine g_iconst 61 hC (4 : Int32) dX4_multiply_61 (by decide) ?_
        refine g_ishr 62 hC dX4_multiply_62 ?_
        refine g_bipush 63 hC (15 : Int32) dX4_multiply_63 (by decide) ?_
        refine g_iand 65 hC dX4_multiply_65 ?_
        refine g_iadd 66 hC dX4_multiply_66 ?_
        refine kX0_signed 67 hC gX4_multiply_X0_signed ⟨Nat.le_of_ble_eq_true rfl, Nat.le_of_ble_eq_true rfl⟩ dX4_multiply_67 (Nat.le_of_ble_eq_true rfl) ?_
        refine g_aload_n 70 hC dX4_multiply_70 0 rfl ?_
        refine x_get_bytes 71 hC fiX4_multiply_wsX40 fmX4_multiply_16 dX4_multiply_71 ?_
        refine g_bipush 74 hC (16 : Int32) dX4_multiply_74 (by decide) ?_
        refine g_iload_n 76 hC dX4_multiply_76 1 rfl ?_
        refine g_bipush 77 hC (15 : Int32) dX4_multiply_77 (by decide) ?_
        refine g_iand 79 hC dX4_multiply_79 ?_
        refine g_iadd 80 hC dX4_multiply_80 ?_
        refine kX0_signed 81 hC gX4_multiply_X0_signed ⟨Nat.le_of_ble_eq_true rfl, Nat.le_of_ble_eq_true rfl⟩ dX4_multiply_81 (Nat.le_of_ble_eq_true rfl) ?_
        refine g_imul 84 hC dX4_multiply_84 ?_
        refine kX2_product 85 hC gX4_multiply_X2_product ⟨Nat.le_of_ble_eq_true rfl, Nat.le_of_ble_eq_true rfl⟩ dX4_multiply_85 (Nat.le_of_ble_eq_true rfl) ?_
        refine g_goto 88 hC 112 dX4_multiply_88 (by decide) ?_
        exact J3 _ (Eq.symm (Eq.trans (if_neg h1) (if_pos h2)))
    · skip
      refine g_aload_n 9 hC dX4_multiply_9 0 rfl ?_
      refine x_get_sums 10 hC fiX4_multiply_wsX40 fmX4_multiply_25 dX4_multiply_10 ?_
      refine g_aload_n 13 hC dX4_multiply_13 0 rfl ?_
      refine x_get_bytes 14 hC fiX4_multiply_wsX40 fmX4_multiply_16 dX4_multiply_14 ?_
      refine g_iload_n 17 hC dX4_multiply_17 1 rfl ?_
      refine kX3_d 18 hC gX4_multiply_X3_d ⟨Nat.le_of_ble_eq_true rfl, Nat.le_of_ble_eq_true rfl⟩ dX4_multiply_18 (Nat.le_of_ble_eq_true rfl) ?_
      refine kX0_get 21 hC gX4_multiply_X0_get ⟨Nat.le_of_ble_eq_true rfl, Nat.le_of_ble_eq_true rfl⟩ dX4_multiply_21 (Nat.le_of_ble_eq_true rfl) ?_
      refine g_aload_n 24 hC dX4_multiply_24 0 rfl ?_
      refine x_get_bytes 25 hC fiX4_multiply_wsX40 fmX4_multiply_16 dX4_multiply_25 ?_
      refine g_iload_n 28 hC dX4_multiply_28 1 rfl ?_
      refine kX3_r 29 hC gX4_multiply_X3_r ⟨Nat.le_of_ble_eq_true rfl, Nat.le_of_ble_eq_true rfl⟩ dX4_multiply_29 (Nat.le_of_ble_eq_true rfl) ?_
      refine kX0_get 32 hC gX4_multiply_X0_get ⟨Nat.le_of_ble_eq_true rfl, Nat.le_of_ble_eq_true rfl⟩ dX4_multiply_32 (Nat.le_of_ble_eq_true rfl) ?_
      refine g_imul 35 hC dX4_multiply_35 ?_
      refine kX2_product 36 hC gX4_multiply_X2_product ⟨Nat.le_of_ble_eq_true rfl, Nat.le_of_ble_eq_true rfl⟩ dX4_multiply_36 (Nat.le_of_ble_eq_true rfl) ?_
      refine g_goto 39 hC 112 dX4_multiply_39 (by decide) ?_
      exact J3 _ (Eq.symm (if_pos h1))
theorem kX4_multiply {K : KT} {h : HX} {cc : ByteArray} {nL : Nat} {own : String} {Ts : List Cond} {rm : Room} {ret : Option FieldType} {T : ST × Option Value} {u : ST} {lv : List (Nat × Value)} {rest : List Value} {idx : Nat} {a1 : Int32} (pc : Nat) (hC : Cx K (EX h) cc nL own Ts rm ret) (hT : GoodIn Ts (wsV own idx RX4 yX4_multiply wsX4_multiply)) (hR : rmX4_multiply.frames + 1 ≤ rm.frames ∧ 8 + (2 + 11) + rmX4_multiply.locals ≤ rm.locals) (hdg : decode cc pc = .ok (.invokevirtual idx, 3)) (hcat : (rest.map fun v => v.category).sum ≤ 8) (kk : G K (EX h) nL T (fX4_multiply a1 u).1 (pc + 3) lv (.int (fX4_multiply a1 u).2 :: rest)) : G K (EX h) nL T u pc lv (.int a1 :: .ref (xO h) :: rest) := g_callV (n := 1) pc hC (As := [.int a1]) (rest := rest) (cX4_multiply_ _ (Cx.ok hC) a1 u) hT rfl rfl rfl (by decide +kernel) hR 0 2 rfl rfl rfl rfl rfl hcat hdg kk

def fX4_skip (a1 : Int32) (u : ST) : ST × Int32 :=
  if a1 = 0 then
    (fX4_onward (1 : Int32) u)
  else
    if (fX3_hasNext (fX4_cellAt ((gPc u) + (1 : Int32)) u)) = 0 then
      (fX4_onward (2 : Int32) (wN u (4 : Int32) ((rN u (4 : Int32)) + (1 : Int32))))
    else
      (fX4_onward (3 : Int32) (wN u (5 : Int32) ((rN u (5 : Int32)) + (1 : Int32))))
theorem fiX4_skip_wsX40 : ∀ w ∈ wsX40, w ∈ wsX4_skip := fun w h => List.mem_cons_of_mem _ (List.mem_append_right _ h)
theorem fmX4_skip_32 : Cond.fieldLink RX4 32 "FlagCore" "pc" "I" ∈ wsX4_skip := List.mem_of_getElem? (i := 1) rfl
theorem fmX4_skip_29 : Cond.fieldLink RX4 29 "FlagCore" "tallies" "[I" ∈ wsX4_skip := List.mem_of_getElem? (i := 2) rfl
abbrev rmX4_skip : Room := { frames := 1, cells := 0, slots := 0, locals := 21 }
set_option maxRecDepth 20000 in
theorem cX4_skip_ (h : HX) (hE : okE (EX h)) (a1 : Int32) (u : ST) : MX (EX h) yX4_skip wsX4_skip rmX4_skip [.ref (xO h), .int a1] u (tW (fX4_skip a1 u)) := by
  refine MX.of (cc := cX4_skip) (maxL := 2) (ret := (some .int)) (lv := [(0, .ref (xO h)), (1, .int a1)]) hE (by decide) rfl (fun _ => rfl) (Nat.le_of_ble_eq_true rfl) rfl (fun K hC => ?_)
  unfold fX4_skip
  refine g_iload_n 0 hC dX4_skip_0 1 rfl ?_
  refine g_if_neT (tW) 1 hC 10 dX4_skip_1 (by decide) (fun h1 => ?_) (fun h1 => ?_)
  · skip
    refine g_aload_n 10 hC dX4_skip_10 0 rfl ?_
    refine g_aload_n 11 hC dX4_skip_11 0 rfl ?_
    refine x_get_pc 12 hC fiX4_skip_wsX40 fmX4_skip_32 dX4_skip_12 ?_
    refine g_iconst 15 hC (1 : Int32) dX4_skip_15 (by decide) ?_
    refine g_iadd 16 hC dX4_skip_16 ?_
    refine kX4_cellAt 17 hC gX4_skip_X4_cellAt ⟨Nat.le_of_ble_eq_true rfl, Nat.le_of_ble_eq_true rfl⟩ dX4_skip_17 (Nat.le_of_ble_eq_true rfl) ?_
    refine kX3_hasNext 20 hC gX4_skip_X3_hasNext ⟨Nat.le_of_ble_eq_true rfl, Nat.le_of_ble_eq_true rfl⟩ dX4_skip_20 (Nat.le_of_ble_eq_true rfl) ?_
    refine g_if_eqT (tW) 23 hC 42 dX4_skip_23 (by decide) (fun h2 => ?_) (fun h2 => ?_)
    · skip
      refine g_aload_n 42 hC dX4_skip_42 0 rfl ?_
      refine x_get_tallies 43 hC fiX4_skip_wsX40 fmX4_skip_29 dX4_skip_43 ?_
      refine g_iconst 46 hC (4 : Int32) dX4_skip_46 (by decide) ?_
      refine g_dup2 47 hC dX4_skip_47 rfl rfl ?_
      refine x_ldN 48 hC (vp_in_iff.mpr (by decide)) dX4_skip_48 ?_
      refine g_iconst 49 hC (1 : Int32) dX4_skip_49 (by decide) ?_
      refine g_iadd 50 hC dX4_skip_50 ?_
      refine x_stN 51 hC (vp_in_iff.mpr (by decide)) dX4_skip_51 ?_
      refine g_aload_n 52 hC dX4_skip_52 0 rfl ?_
      refine g_iconst 53 hC (2 : Int32) dX4_skip_53 (by decide) ?_
      refine kX4_onward 54 hC gX4_skip_X4_onward ⟨Nat.le_of_ble_eq_true rfl, Nat.le_of_ble_eq_true rfl⟩ dX4_skip_54 (Nat.le_of_ble_eq_true rfl) ?_
      exact g_iret 57 hC dX4_skip_57
    · skip
      refine g_aload_n 26 hC dX4_skip_26 0 rfl ?_
      refine x_get_tallies 27 hC fiX4_skip_wsX40 fmX4_skip_29 dX4_skip_27 ?_
      refine g_iconst 30 hC (5 : Int32) dX4_skip_30 (by decide) ?_
      refine g_dup2 31 hC dX4_skip_31 rfl rfl ?_
      refine x_ldN 32 hC (vp_in_iff.mpr (by decide)) dX4_skip_32 ?_
      refine g_iconst 33 hC (1 : Int32) dX4_skip_33 (by decide) ?_
      refine g_iadd 34 hC dX4_skip_34 ?_
      refine x_stN 35 hC (vp_in_iff.mpr (by decide)) dX4_skip_35 ?_
      refine g_aload_n 36 hC dX4_skip_36 0 rfl ?_
      refine g_iconst 37 hC (3 : Int32) dX4_skip_37 (by decide) ?_
      refine kX4_onward 38 hC gX4_skip_X4_onward ⟨Nat.le_of_ble_eq_true rfl, Nat.le_of_ble_eq_true rfl⟩ dX4_skip_38 (Nat.le_of_ble_eq_true rfl) ?_
      exact g_iret 41 hC dX4_skip_41
  · skip
    refine g_aload_n 4 hC dX4_skip_4 0 rfl ?_
    refine g_iconst 5 hC (1 : Int32) dX4_skip_5 (by decide) ?_
    refine kX4_onward 6 hC gX4_skip_X4_onward ⟨Nat.le_of_ble_eq_true rfl, Nat.le_of_ble_eq_true rfl⟩ dX4_skip_6 (Nat.le_of_ble_eq_true rfl) ?_
    exact g_iret 9 hC dX4_skip_9
theorem kX4_skip {K : KT} {h : HX} {cc : ByteArray} {nL : Nat} {own : String} {Ts : List Cond} {rm : Room} {ret : Option FieldType} {T : ST × Option Value} {u : ST} {lv : List (Nat × Value)} {rest : List Value} {idx : Nat} {a1 : Int32} (pc : Nat) (hC : Cx K (EX h) cc nL own Ts rm ret) (hT : GoodIn Ts (wsV own idx RX4 yX4_skip wsX4_skip)) (hR : rmX4_skip.frames + 1 ≤ rm.frames ∧ 8 + (2 + 11) + rmX4_skip.locals ≤ rm.locals) (hdg : decode cc pc = .ok (.invokevirtual idx, 3)) (hcat : (rest.map fun v => v.category).sum ≤ 8) (kk : G K (EX h) nL T (fX4_skip a1 u).1 (pc + 3) lv (.int (fX4_skip a1 u).2 :: rest)) : G K (EX h) nL T u pc lv (.int a1 :: .ref (xO h) :: rest) := g_callV (n := 1) pc hC (As := [.int a1]) (rest := rest) (cX4_skip_ _ (Cx.ok hC) a1 u) hT rfl rfl rfl (by decide +kernel) hR 0 2 rfl rfl rfl rfl rfl hcat hdg kk

def fX4_combine (a1 : Int32) (u : ST) : ST × Int32 :=
  if (jshr a1 (10 : Int32)) = (1 : Int32) then
    (fX4_onward (1 : Int32) ((fX2_differenceOn (fX0_get (fX3_d a1) u) (fX0_get (fX3_r a1) u) (fX0_flag (0 : Int32) u) u).1))
  else
    if (jshr a1 (10 : Int32)) = (2 : Int32) then
      (fX4_onward (1 : Int32) (fX0_set (fX3_d a1) (fX2_differenceOn (fX0_get (fX3_d a1) u) (fX0_get (fX3_r a1) u) (fX0_flag (0 : Int32) u) u).2 ((fX2_differenceOn (fX0_get (fX3_d a1) u) (fX0_get (fX3_r a1) u) (fX0_flag (0 : Int32) u) u).1)))
    else
      if (jshr a1 (10 : Int32)) = (3 : Int32) then
        (fX4_onward (1 : Int32) (fX0_set (fX3_d a1) (fX2_sum (fX0_get (fX3_d a1) u) (fX0_get (fX3_r a1) u) (0 : Int32) u).2 ((fX2_sum (fX0_get (fX3_d a1) u) (fX0_get (fX3_r a1) u) (0 : Int32) u).1)))
      else
        if (jshr a1 (10 : Int32)) = (4 : Int32) then
          (fX4_skip (if (fX0_get (fX3_d a1) u) = (fX0_get (fX3_r a1) u) then (1 : Int32) else (0 : Int32)) u)
        else
          if (jshr a1 (10 : Int32)) = (5 : Int32) then
            (fX4_onward (1 : Int32) ((fX2_difference (fX0_get (fX3_d a1) u) (fX0_get (fX3_r a1) u) u).1))
          else
            if (jshr a1 (10 : Int32)) = (6 : Int32) then
              (fX4_onward (1 : Int32) (fX0_set (fX3_d a1) (fX2_difference (fX0_get (fX3_d a1) u) (fX0_get (fX3_r a1) u) u).2 ((fX2_difference (fX0_get (fX3_d a1) u) (fX0_get (fX3_r a1) u) u).1)))
            else
              if (jshr a1 (10 : Int32)) = (7 : Int32) then
                (fX4_onward (1 : Int32) (fX0_set (fX3_d a1) (fX2_sum (fX0_get (fX3_d a1) u) (fX0_get (fX3_r a1) u) (fX0_flag (0 : Int32) u) u).2 ((fX2_sum (fX0_get (fX3_d a1) u) (fX0_get (fX3_r a1) u) (fX0_flag (0 : Int32) u) u).1)))
              else
                if (jshr a1 (10 : Int32)) = (8 : Int32) then
                  (fX4_onward (1 : Int32) (fX0_set (fX3_d a1) (fX2_logic ((fX0_get (fX3_d a1) u) &&& (fX0_get (fX3_r a1) u)) u).2 ((fX2_logic ((fX0_get (fX3_d a1) u) &&& (fX0_get (fX3_r a1) u)) u).1)))
                else
                  if (jshr a1 (10 : Int32)) = (9 : Int32) then
                    (fX4_onward (1 : Int32) (fX0_set (fX3_d a1) (fX2_logic ((fX0_get (fX3_d a1) u) ^^^ (fX0_get (fX3_r a1) u)) u).2 ((fX2_logic ((fX0_get (fX3_d a1) u) ^^^ (fX0_get (fX3_r a1) u)) u).1)))
                  else
                    if (jshr a1 (10 : Int32)) = (10 : Int32) then
                      (fX4_onward (1 : Int32) (fX0_set (fX3_d a1) (fX2_logic ((fX0_get (fX3_d a1) u) ||| (fX0_get (fX3_r a1) u)) u).2 ((fX2_logic ((fX0_get (fX3_d a1) u) ||| (fX0_get (fX3_r a1) u)) u).1)))
                    else
                      (fX4_onward (1 : Int32) (fX0_set (fX3_d a1) (fX0_get (fX3_r a1) u) u))
theorem fiX4_combine_wsX40 : ∀ w ∈ wsX40, w ∈ wsX4_combine := fun w h => List.mem_cons_of_mem _ (List.mem_append_left _ (List.mem_append_left _ (List.mem_append_right _ h)))
theorem fmX4_combine_16 : Cond.fieldLink RX4 16 "FlagCore" "bytes" "LFlagCore$Bytes;" ∈ wsX4_combine := List.mem_of_getElem? (i := 1) rfl
theorem fmX4_combine_25 : Cond.fieldLink RX4 25 "FlagCore" "sums" "LFlagCore$Sums;" ∈ wsX4_combine := List.mem_of_getElem? (i := 2) rfl
abbrev rmX4_combine : Room := { frames := 3, cells := 0, slots := 0, locals := 75 }
set_option maxRecDepth 20000 in
theorem cX4_combine_ (h : HX) (hE : okE (EX h)) (a1 : Int32) (u : ST) : MX (EX h) yX4_combine wsX4_combine rmX4_combine [.ref (xO h), .int a1] u (tW (fX4_combine a1 u)) := by
  refine MX.of (cc := cX4_combine) (maxL := 6) (ret := (some .int)) (lv := [(0, .ref (xO h)), (1, .int a1)]) hE (by decide) rfl (fun _ => rfl) (Nat.le_of_ble_eq_true rfl) rfl (fun K hC => ?_)
  unfold fX4_combine
  refine g_iload_n 0 hC dX4_combine_0 1 rfl ?_
  refine kX3_d 1 hC gX4_combine_X3_d ⟨Nat.le_of_ble_eq_true rfl, Nat.le_of_ble_eq_true rfl⟩ dX4_combine_1 (Nat.le_of_ble_eq_true rfl) ?_
  refine g_istore_n 4 hC dX4_combine_4 (by decide) [(2, .int ((fX3_d a1))), (0, .ref (xO h)), (1, .int a1)] rfl ?_
  refine g_aload_n 5 hC dX4_combine_5 1 rfl ?_
  refine x_get_bytes 6 hC fiX4_combine_wsX40 fmX4_combine_16 dX4_combine_6 ?_
  refine g_iload_n 9 hC dX4_combine_9 0 rfl ?_
  refine kX0_get 10 hC gX4_combine_X0_get ⟨Nat.le_of_ble_eq_true rfl, Nat.le_of_ble_eq_true rfl⟩ dX4_combine_10 (Nat.le_of_ble_eq_true rfl) ?_
  refine g_istore_n 13 hC dX4_combine_13 (by decide) [(3, .int ((fX0_get (fX3_d a1) u))), (2, .int ((fX3_d a1))), (0, .ref (xO h)), (1, .int a1)] rfl ?_
  refine g_aload_n 14 hC dX4_combine_14 2 rfl ?_
  refine x_get_bytes 15 hC fiX4_combine_wsX40 fmX4_combine_16 dX4_combine_15 ?_
  refine g_iload_n 18 hC dX4_combine_18 3 rfl ?_
  refine kX3_r 19 hC gX4_combine_X3_r ⟨Nat.le_of_ble_eq_true rfl, Nat.le_of_ble_eq_true rfl⟩ dX4_combine_19 (Nat.le_of_ble_eq_true rfl) ?_
  refine kX0_get 22 hC gX4_combine_X0_get ⟨Nat.le_of_ble_eq_true rfl, Nat.le_of_ble_eq_true rfl⟩ dX4_combine_22 (Nat.le_of_ble_eq_true rfl) ?_
  refine g_istore 25 hC dX4_combine_25 (by decide) [(4, .int ((fX0_get (fX3_r a1) u))), (3, .int ((fX0_get (fX3_d a1) u))), (2, .int ((fX3_d a1))), (0, .ref (xO h)), (1, .int a1)] rfl ?_
  refine g_aload_n 27 hC dX4_combine_27 3 rfl ?_
  refine x_get_bytes 28 hC fiX4_combine_wsX40 fmX4_combine_16 dX4_combine_28 ?_
  refine g_iconst 31 hC (0 : Int32) dX4_combine_31 (by decide) ?_
  refine kX0_flag 32 hC gX4_combine_X0_flag ⟨Nat.le_of_ble_eq_true rfl, Nat.le_of_ble_eq_true rfl⟩ dX4_combine_32 (Nat.le_of_ble_eq_true rfl) ?_
  refine g_istore 35 hC dX4_combine_35 (by decide) [(5, .int ((fX0_flag (0 : Int32) u))), (4, .int ((fX0_get (fX3_r a1) u))), (3, .int ((fX0_get (fX3_d a1) u))), (2, .int ((fX3_d a1))), (0, .ref (xO h)), (1, .int a1)] rfl ?_
  refine g_iload_n 37 hC dX4_combine_37 5 rfl ?_
  refine g_bipush 38 hC (10 : Int32) dX4_combine_38 (by decide) ?_
  refine g_ishr 40 hC dX4_combine_40 ?_
  refine g_byT (tW) (fun h1 => ?_) (fun h1 => ?_)
  · refine g_tsIn 41 hC (1 : Int32) (55) 96 h1 dX4_combine_41 (by decide) (by decide) (by decide) (by decide) ?_
    refine g_aload_n 96 hC dX4_combine_96 4 rfl ?_
    refine x_get_sums 97 hC fiX4_combine_wsX40 fmX4_combine_25 dX4_combine_97 ?_
    refine g_iload_n 100 hC dX4_combine_100 2 rfl ?_
    refine g_iload 101 hC dX4_combine_101 1 rfl ?_
    refine g_iload 103 hC dX4_combine_103 0 rfl ?_
    refine kX2_differenceOn 105 hC gX4_combine_X2_differenceOn ⟨Nat.le_of_ble_eq_true rfl, Nat.le_of_ble_eq_true rfl⟩ dX4_combine_105 (Nat.le_of_ble_eq_true rfl) ?_
    refine g_pop 108 hC dX4_combine_108 rfl ?_
    refine g_goto 109 hC 307 dX4_combine_109 (by decide) ?_
    refine g_aload_n 307 hC dX4_combine_307 4 rfl ?_
    refine g_iconst 308 hC (1 : Int32) dX4_combine_308 (by decide) ?_
    refine kX4_onward 309 hC gX4_combine_X4_onward ⟨Nat.le_of_ble_eq_true rfl, Nat.le_of_ble_eq_true rfl⟩ dX4_combine_309 (Nat.le_of_ble_eq_true rfl) ?_
    exact g_iret 312 hC dX4_combine_312
  · skip
    refine g_byT (tW) (fun h2 => ?_) (fun h2 => ?_)
    · refine g_tsIn 41 hC (2 : Int32) (71) 112 h2 dX4_combine_41 (by decide) (by decide) (by decide) (by decide) ?_
      refine g_aload_n 112 hC dX4_combine_112 4 rfl ?_
      refine x_get_bytes 113 hC fiX4_combine_wsX40 fmX4_combine_16 dX4_combine_113 ?_
      refine g_iload_n 116 hC dX4_combine_116 3 rfl ?_
      refine g_aload_n 117 hC dX4_combine_117 4 rfl ?_
      refine x_get_sums 118 hC fiX4_combine_wsX40 fmX4_combine_25 dX4_combine_118 ?_
      refine g_iload_n 121 hC dX4_combine_121 2 rfl ?_
      refine g_iload 122 hC dX4_combine_122 1 rfl ?_
      refine g_iload 124 hC dX4_combine_124 0 rfl ?_
      refine kX2_differenceOn 126 hC gX4_combine_X2_differenceOn ⟨Nat.le_of_ble_eq_true rfl, Nat.le_of_ble_eq_true rfl⟩ dX4_combine_126 (Nat.le_of_ble_eq_true rfl) ?_
      refine kX0_set 129 hC gX4_combine_X0_set ⟨Nat.le_of_ble_eq_true rfl, Nat.le_of_ble_eq_true rfl⟩ dX4_combine_129 (Nat.le_of_ble_eq_true rfl) ?_
      refine g_goto 132 hC 307 dX4_combine_132 (by decide) ?_
      refine g_aload_n 307 hC dX4_combine_307 4 rfl ?_
      refine g_iconst 308 hC (1 : Int32) dX4_combine_308 (by decide) ?_
      refine kX4_onward 309 hC gX4_combine_X4_onward ⟨Nat.le_of_ble_eq_true rfl, Nat.le_of_ble_eq_true rfl⟩ dX4_combine_309 (Nat.le_of_ble_eq_true rfl) ?_
      exact g_iret 312 hC dX4_combine_312
    · skip
      refine g_byT (tW) (fun h3 => ?_) (fun h3 => ?_)
      · refine g_tsIn 41 hC (3 : Int32) (94) 135 h3 dX4_combine_41 (by decide) (by decide) (by decide) (by decide) ?_
        refine g_aload_n 135 hC dX4_combine_135 4 rfl ?_
        refine x_get_bytes 136 hC fiX4_combine_wsX40 fmX4_combine_16 dX4_combine_136 ?_
        refine g_iload_n 139 hC dX4_combine_139 3 rfl ?_
        refine g_aload_n 140 hC dX4_combine_140 4 rfl ?_
        refine x_get_sums 141 hC fiX4_combine_wsX40 fmX4_combine_25 dX4_combine_141 ?_
        refine g_iload_n 144 hC dX4_combine_144 2 rfl ?_
        refine g_iload 145 hC dX4_combine_145 1 rfl ?_
        refine g_iconst 147 hC (0 : Int32) dX4_combine_147 (by decide) ?_
        refine kX2_sum 148 hC gX4_combine_X2_sum ⟨Nat.le_of_ble_eq_true rfl, Nat.le_of_ble_eq_true rfl⟩ dX4_combine_148 (Nat.le_of_ble_eq_true rfl) ?_
        refine kX0_set 151 hC gX4_combine_X0_set ⟨Nat.le_of_ble_eq_true rfl, Nat.le_of_ble_eq_true rfl⟩ dX4_combine_151 (Nat.le_of_ble_eq_true rfl) ?_
        refine g_goto 154 hC 307 dX4_combine_154 (by decide) ?_
        refine g_aload_n 307 hC dX4_combine_307 4 rfl ?_
        refine g_iconst 308 hC (1 : Int32) dX4_combine_308 (by decide) ?_
        refine kX4_onward 309 hC gX4_combine_X4_onward ⟨Nat.le_of_ble_eq_true rfl, Nat.le_of_ble_eq_true rfl⟩ dX4_combine_309 (Nat.le_of_ble_eq_true rfl) ?_
        exact g_iret 312 hC dX4_combine_312
      · skip
        refine g_byT (tW) (fun h4 => ?_) (fun h4 => ?_)
        · refine g_tsIn 41 hC (4 : Int32) (116) 157 h4 dX4_combine_41 (by decide) (by decide) (by decide) (by decide) ?_
          refine g_aload_n 157 hC dX4_combine_157 4 rfl ?_
          refine g_iload_n 158 hC dX4_combine_158 2 rfl ?_
          refine g_iload 159 hC dX4_combine_159 1 rfl ?_
          refine g_cut 169 (if (fX0_get (fX3_d a1) u) = (fX0_get (fX3_r a1) u) then (1 : Int32) else (0 : Int32)) [.ref (xO h)] ?_ (fun J6 => ?_)
          · skip
            refine kX4_skip 169 hC gX4_combine_X4_skip ⟨Nat.le_of_ble_eq_true rfl, Nat.le_of_ble_eq_true rfl⟩ dX4_combine_169 (Nat.le_of_ble_eq_true rfl) ?_
            exact g_iret 172 hC dX4_combine_172
          · skip
            refine g_icmp_ne 161 hC 168 dX4_combine_161 (by decide) (fun h5 => ?_) (fun h5 => ?_)
            · skip
              refine g_iconst 168 hC (0 : Int32) dX4_combine_168 (by decide) ?_
              exact J6 _ (Eq.symm (if_neg h5))
            · skip
              refine g_iconst 164 hC (1 : Int32) dX4_combine_164 (by decide) ?_
              refine g_goto 165 hC 169 dX4_combine_165 (by decide) ?_
              exact J6 _ (Eq.symm (if_pos h5))
        · skip
          refine g_byT (tW) (fun h7 => ?_) (fun h7 => ?_)
          · refine g_tsIn 41 hC (5 : Int32) (132) 173 h7 dX4_combine_41 (by decide) (by decide) (by decide) (by decide) ?_
            refine g_aload_n 173 hC dX4_combine_173 4 rfl ?_
            refine x_get_sums 174 hC fiX4_combine_wsX40 fmX4_combine_25 dX4_combine_174 ?_
            refine g_iload_n 177 hC dX4_combine_177 2 rfl ?_
            refine g_iload 178 hC dX4_combine_178 1 rfl ?_
            refine kX2_difference 180 hC gX4_combine_X2_difference ⟨Nat.le_of_ble_eq_true rfl, Nat.le_of_ble_eq_true rfl⟩ dX4_combine_180 (Nat.le_of_ble_eq_true rfl) ?_
            refine g_pop 183 hC dX4_combine_183 rfl ?_
            refine g_goto 184 hC 307 dX4_combine_184 (by decide) ?_
            refine g_aload_n 307 hC dX4_combine_307 4 rfl ?_
            refine g_iconst 308 hC (1 : Int32) dX4_combine_308 (by decide) ?_
            refine kX4_onward 309 hC gX4_combine_X4_onward ⟨Nat.le_of_ble_eq_true rfl, Nat.le_of_ble_eq_true rfl⟩ dX4_combine_309 (Nat.le_of_ble_eq_true rfl) ?_
            exact g_iret 312 hC dX4_combine_312
          · skip
            refine g_byT (tW) (fun h8 => ?_) (fun h8 => ?_)
            · refine g_tsIn 41 hC (6 : Int32) (146) 187 h8 dX4_combine_41 (by decide) (by decide) (by decide) (by decide) ?_
              refine g_aload_n 187 hC dX4_combine_187 4 rfl ?_
              refine x_get_bytes 188 hC fiX4_combine_wsX40 fmX4_combine_16 dX4_combine_188 ?_
              refine g_iload_n 191 hC dX4_combine_191 3 rfl ?_
              refine g_aload_n 192 hC dX4_combine_192 4 rfl ?_
              refine x_get_sums 193 hC fiX4_combine_wsX40 fmX4_combine_25 dX4_combine_193 ?_
              refine g_iload_n 196 hC dX4_combine_196 2 rfl ?_
              refine g_iload 197 hC dX4_combine_197 1 rfl ?_
              refine kX2_difference 199 hC gX4_combine_X2_difference ⟨Nat.le_of_ble_eq_true rfl, Nat.le_of_ble_eq_true rfl⟩ dX4_combine_199 (Nat.le_of_ble_eq_true rfl) ?_
              refine kX0_set 202 hC gX4_combine_X0_set ⟨Nat.le_of_ble_eq_true rfl, Nat.le_of_ble_eq_true rfl⟩ dX4_combine_202 (Nat.le_of_ble_eq_true rfl) ?_
              refine g_goto 205 hC 307 dX4_combine_205 (by decide) ?_
              refine g_aload_n 307 hC dX4_combine_307 4 rfl ?_
              refine g_iconst 308 hC (1 : Int32) dX4_combine_308 (by decide) ?_
              refine kX4_onward 309 hC gX4_combine_X4_onward ⟨Nat.le_of_ble_eq_true rfl, Nat.le_of_ble_eq_true rfl⟩ dX4_combine_309 (Nat.le_of_ble_eq_true rfl) ?_
              exact g_iret 312 hC dX4_combine_312
            · skip
              refine g_byT (tW) (fun h9 => ?_) (fun h9 => ?_)
              · refine g_tsIn 41 hC (7 : Int32) (167) 208 h9 dX4_combine_41 (by decide) (by decide) (by decide) (by decide) ?_
                refine g_aload_n 208 hC dX4_combine_208 4 rfl ?_
                refine x_get_bytes 209 hC fiX4_combine_wsX40 fmX4_combine_16 dX4_combine_209 ?_
                refine g_iload_n 212 hC dX4_combine_212 3 rfl ?_
                refine g_aload_n 213 hC dX4_combine_213 4 rfl ?_
                refine x_get_sums 214 hC fiX4_combine_wsX40 fmX4_combine_25 dX4_combine_214 ?_
                refine g_iload_n 217 hC dX4_combine_217 2 rfl ?_
                refine g_iload 218 hC dX4_combine_218 1 rfl ?_
                refine g_iload 220 hC dX4_combine_220 0 rfl ?_
                refine kX2_sum 222 hC gX4_combine_X2_sum ⟨Nat.le_of_ble_eq_true rfl, Nat.le_of_ble_eq_true rfl⟩ dX4_combine_222 (Nat.le_of_ble_eq_true rfl) ?_
                refine kX0_set 225 hC gX4_combine_X0_set ⟨Nat.le_of_ble_eq_true rfl, Nat.le_of_ble_eq_true rfl⟩ dX4_combine_225 (Nat.le_of_ble_eq_true rfl) ?_
                refine g_goto 228 hC 307 dX4_combine_228 (by decide) ?_
                refine g_aload_n 307 hC dX4_combine_307 4 rfl ?_
                refine g_iconst 308 hC (1 : Int32) dX4_combine_308 (by decide) ?_
                refine kX4_onward 309 hC gX4_combine_X4_onward ⟨Nat.le_of_ble_eq_true rfl, Nat.le_of_ble_eq_true rfl⟩ dX4_combine_309 (Nat.le_of_ble_eq_true rfl) ?_
                exact g_iret 312 hC dX4_combine_312
              · skip
                refine g_byT (tW) (fun h10 => ?_) (fun h10 => ?_)
                · refine g_tsIn 41 hC (8 : Int32) (190) 231 h10 dX4_combine_41 (by decide) (by decide) (by decide) (by decide) ?_
                  refine g_aload_n 231 hC dX4_combine_231 4 rfl ?_
                  refine x_get_bytes 232 hC fiX4_combine_wsX40 fmX4_combine_16 dX4_combine_232 ?_
                  refine g_iload_n 235 hC dX4_combine_235 3 rfl ?_
                  refine g_aload_n 236 hC dX4_combine_236 4 rfl ?_
                  refine x_get_sums 237 hC fiX4_combine_wsX40 fmX4_combine_25 dX4_combine_237 ?_
                  refine g_iload_n 240 hC dX4_combine_240 2 rfl ?_
                  refine g_iload 241 hC dX4_combine_241 1 rfl ?_
                  refine g_iand 243 hC dX4_combine_243 ?_
                  refine kX2_logic 244 hC gX4_combine_X2_logic ⟨Nat.le_of_ble_eq_true rfl, Nat.le_of_ble_eq_true rfl⟩ dX4_combine_244 (Nat.le_of_ble_eq_true rfl) ?_
                  refine kX0_set 247 hC gX4_combine_X0_set ⟨Nat.le_of_ble_eq_true rfl, Nat.le_of_ble_eq_true rfl⟩ dX4_combine_247 (Nat.le_of_ble_eq_true rfl) ?_
                  refine g_goto 250 hC 307 dX4_combine_250 (by decide) ?_
                  refine g_aload_n 307 hC dX4_combine_307 4 rfl ?_
                  refine g_iconst 308 hC (1 : Int32) dX4_combine_308 (by decide) ?_
                  refine kX4_onward 309 hC gX4_combine_X4_onward ⟨Nat.le_of_ble_eq_true rfl, Nat.le_of_ble_eq_true rfl⟩ dX4_combine_309 (Nat.le_of_ble_eq_true rfl) ?_
                  exact g_iret 312 hC dX4_combine_312
                · skip
                  refine g_byT (tW) (fun h11 => ?_) (fun h11 => ?_)
                  · refine g_tsIn 41 hC (9 : Int32) (212) 253 h11 dX4_combine_41 (by decide) (by decide) (by decide) (by decide) ?_
                    refine g_aload_n 253 hC dX4_combine_253 4 rfl ?_
                    refine x_get_bytes 254 hC fiX4_combine_wsX40 fmX4_combine_16 dX4_combine_254 ?_
                    refine g_iload_n 257 hC dX4_combine_257 3 rfl ?_
                    refine g_aload_n 258 hC dX4_combine_258 4 rfl ?_
                    refine x_get_sums 259 hC fiX4_combine_wsX40 fmX4_combine_25 dX4_combine_259 ?_
                    refine g_iload_n 262 hC dX4_combine_262 2 rfl ?_
                    refine g_iload 263 hC dX4_combine_263 1 rfl ?_
                    refine g_ixor 265 hC dX4_combine_265 ?_
                    refine kX2_logic 266 hC gX4_combine_X2_logic ⟨Nat.le_of_ble_eq_true rfl, Nat.le_of_ble_eq_true rfl⟩ dX4_combine_266 (Nat.le_of_ble_eq_true rfl) ?_
                    refine kX0_set 269 hC gX4_combine_X0_set ⟨Nat.le_of_ble_eq_true rfl, Nat.le_of_ble_eq_true rfl⟩ dX4_combine_269 (Nat.le_of_ble_eq_true rfl) ?_
                    refine g_goto 272 hC 307 dX4_combine_272 (by decide) ?_
                    refine g_aload_n 307 hC dX4_combine_307 4 rfl ?_
                    refine g_iconst 308 hC (1 : Int32) dX4_combine_308 (by decide) ?_
                    refine kX4_onward 309 hC gX4_combine_X4_onward ⟨Nat.le_of_ble_eq_true rfl, Nat.le_of_ble_eq_true rfl⟩ dX4_combine_309 (Nat.le_of_ble_eq_true rfl) ?_
                    exact g_iret 312 hC dX4_combine_312
                  · skip
                    refine g_byT (tW) (fun h12 => ?_) (fun h12 => ?_)
                    · refine g_tsIn 41 hC (10 : Int32) (234) 275 h12 dX4_combine_41 (by decide) (by decide) (by decide) (by decide) ?_
                      refine g_aload_n 275 hC dX4_combine_275 4 rfl ?_
                      refine x_get_bytes 276 hC fiX4_combine_wsX40 fmX4_combine_16 dX4_combine_276 ?_
                      refine g_iload_n 279 hC dX4_combine_279 3 rfl ?_
                      refine g_aload_n 280 hC dX4_combine_280 4 rfl ?_
                      refine x_get_sums 281 hC fiX4_combine_wsX40 fmX4_combine_25 dX4_combine_281 ?_
                      refine g_iload_n 284 hC dX4_combine_284 2 rfl ?_
                      refine g_iload 285 hC dX4_combine_285 1 rfl ?_
                      refine g_ior 287 hC dX4_combine_287 ?_
                      refine kX2_logic 288 hC gX4_combine_X2_logic ⟨Nat.le_of_ble_eq_true rfl, Nat.le_of_ble_eq_true rfl⟩ dX4_combine_288 (Nat.le_of_ble_eq_true rfl) ?_
                      refine kX0_set 291 hC gX4_combine_X0_set ⟨Nat.le_of_ble_eq_true rfl, Nat.le_of_ble_eq_true rfl⟩ dX4_combine_291 (Nat.le_of_ble_eq_true rfl) ?_
                      refine g_goto 294 hC 307 dX4_combine_294 (by decide) ?_
                      refine g_aload_n 307 hC dX4_combine_307 4 rfl ?_
                      refine g_iconst 308 hC (1 : Int32) dX4_combine_308 (by decide) ?_
                      refine kX4_onward 309 hC gX4_combine_X4_onward ⟨Nat.le_of_ble_eq_true rfl, Nat.le_of_ble_eq_true rfl⟩ dX4_combine_309 (Nat.le_of_ble_eq_true rfl) ?_
                      exact g_iret 312 hC dX4_combine_312
                    · skip
                      refine g_tsOut 41 hC 297 dX4_combine_41 (by have n0 := lv_neT h1 (a := 1) (by decide); have n1 := lv_neT h2 (a := 2) (by decide); have n2 := lv_neT h3 (a := 3) (by decide); have n3 := lv_neT h4 (a := 4) (by decide); have n4 := lv_neT h7 (a := 5) (by decide); have n5 := lv_neT h8 (a := 6) (by decide); have n6 := lv_neT h9 (a := 7) (by decide); have n7 := lv_neT h10 (a := 8) (by decide); have n8 := lv_neT h11 (a := 9) (by decide); have n9 := lv_neT h12 (a := 10) (by decide); omega) (by decide) ?_
                      refine g_aload_n 297 hC dX4_combine_297 4 rfl ?_
                      refine x_get_bytes 298 hC fiX4_combine_wsX40 fmX4_combine_16 dX4_combine_298 ?_
                      refine g_iload_n 301 hC dX4_combine_301 3 rfl ?_
                      refine g_iload 302 hC dX4_combine_302 1 rfl ?_
                      refine kX0_set 304 hC gX4_combine_X0_set ⟨Nat.le_of_ble_eq_true rfl, Nat.le_of_ble_eq_true rfl⟩ dX4_combine_304 (Nat.le_of_ble_eq_true rfl) ?_
                      refine g_aload_n 307 hC dX4_combine_307 4 rfl ?_
                      refine g_iconst 308 hC (1 : Int32) dX4_combine_308 (by decide) ?_
                      refine kX4_onward 309 hC gX4_combine_X4_onward ⟨Nat.le_of_ble_eq_true rfl, Nat.le_of_ble_eq_true rfl⟩ dX4_combine_309 (Nat.le_of_ble_eq_true rfl) ?_
                      exact g_iret 312 hC dX4_combine_312
theorem kX4_combine {K : KT} {h : HX} {cc : ByteArray} {nL : Nat} {own : String} {Ts : List Cond} {rm : Room} {ret : Option FieldType} {T : ST × Option Value} {u : ST} {lv : List (Nat × Value)} {rest : List Value} {idx : Nat} {a1 : Int32} (pc : Nat) (hC : Cx K (EX h) cc nL own Ts rm ret) (hT : GoodIn Ts (wsV own idx RX4 yX4_combine wsX4_combine)) (hR : rmX4_combine.frames + 1 ≤ rm.frames ∧ 8 + (6 + 11) + rmX4_combine.locals ≤ rm.locals) (hdg : decode cc pc = .ok (.invokevirtual idx, 3)) (hcat : (rest.map fun v => v.category).sum ≤ 8) (kk : G K (EX h) nL T (fX4_combine a1 u).1 (pc + 3) lv (.int (fX4_combine a1 u).2 :: rest)) : G K (EX h) nL T u pc lv (.int a1 :: .ref (xO h) :: rest) := g_callV (n := 1) pc hC (As := [.int a1]) (rest := rest) (cX4_combine_ _ (Cx.ok hC) a1 u) hT rfl rfl rfl (by decide +kernel) hR 0 2 rfl rfl rfl rfl rfl hcat hdg kk

def fX4_combineWithNumber (a1 : Int32) (u : ST) : ST × Int32 :=
  if (jshr a1 (12 : Int32)) = (3 : Int32) then
    (fX4_onward (1 : Int32) ((fX2_difference (fX0_get ((16 : Int32) + ((jshr a1 (4 : Int32)) &&& (15 : Int32))) u) (((jshr a1 (4 : Int32)) &&& (240 : Int32)) ||| (a1 &&& (15 : Int32))) u).1))
  else
    if (jshr a1 (12 : Int32)) = (4 : Int32) then
      (fX4_onward (1 : Int32) (fX0_set ((16 : Int32) + ((jshr a1 (4 : Int32)) &&& (15 : Int32))) (fX2_differenceOn (fX0_get ((16 : Int32) + ((jshr a1 (4 : Int32)) &&& (15 : Int32))) u) (((jshr a1 (4 : Int32)) &&& (240 : Int32)) ||| (a1 &&& (15 : Int32))) (fX0_flag (0 : Int32) u) u).2 ((fX2_differenceOn (fX0_get ((16 : Int32) + ((jshr a1 (4 : Int32)) &&& (15 : Int32))) u) (((jshr a1 (4 : Int32)) &&& (240 : Int32)) ||| (a1 &&& (15 : Int32))) (fX0_flag (0 : Int32) u) u).1)))
    else
      if (jshr a1 (12 : Int32)) = (5 : Int32) then
        (fX4_onward (1 : Int32) (fX0_set ((16 : Int32) + ((jshr a1 (4 : Int32)) &&& (15 : Int32))) (fX2_difference (fX0_get ((16 : Int32) + ((jshr a1 (4 : Int32)) &&& (15 : Int32))) u) (((jshr a1 (4 : Int32)) &&& (240 : Int32)) ||| (a1 &&& (15 : Int32))) u).2 ((fX2_difference (fX0_get ((16 : Int32) + ((jshr a1 (4 : Int32)) &&& (15 : Int32))) u) (((jshr a1 (4 : Int32)) &&& (240 : Int32)) ||| (a1 &&& (15 : Int32))) u).1)))
      else
        if (jshr a1 (12 : Int32)) = (6 : Int32) then
          (fX4_onward (1 : Int32) (fX0_set ((16 : Int32) + ((jshr a1 (4 : Int32)) &&& (15 : Int32))) (fX2_logic ((fX0_get ((16 : Int32) + ((jshr a1 (4 : Int32)) &&& (15 : Int32))) u) ||| (((jshr a1 (4 : Int32)) &&& (240 : Int32)) ||| (a1 &&& (15 : Int32)))) u).2 ((fX2_logic ((fX0_get ((16 : Int32) + ((jshr a1 (4 : Int32)) &&& (15 : Int32))) u) ||| (((jshr a1 (4 : Int32)) &&& (240 : Int32)) ||| (a1 &&& (15 : Int32)))) u).1)))
        else
          if (jshr a1 (12 : Int32)) = (7 : Int32) then
            (fX4_onward (1 : Int32) (fX0_set ((16 : Int32) + ((jshr a1 (4 : Int32)) &&& (15 : Int32))) (fX2_logic ((fX0_get ((16 : Int32) + ((jshr a1 (4 : Int32)) &&& (15 : Int32))) u) &&& (((jshr a1 (4 : Int32)) &&& (240 : Int32)) ||| (a1 &&& (15 : Int32)))) u).2 ((fX2_logic ((fX0_get ((16 : Int32) + ((jshr a1 (4 : Int32)) &&& (15 : Int32))) u) &&& (((jshr a1 (4 : Int32)) &&& (240 : Int32)) ||| (a1 &&& (15 : Int32)))) u).1)))
          else
            (fX4_onward (1 : Int32) (fX0_set ((16 : Int32) + ((jshr a1 (4 : Int32)) &&& (15 : Int32))) (((jshr a1 (4 : Int32)) &&& (240 : Int32)) ||| (a1 &&& (15 : Int32))) u))
theorem fiX4_combineWithNumber_wsX40 : ∀ w ∈ wsX40, w ∈ wsX4_combineWithNumber := fun w h => List.mem_cons_of_mem _ (List.mem_append_left _ (List.mem_append_left _ (List.mem_append_right _ h)))
theorem fmX4_combineWithNumber_16 : Cond.fieldLink RX4 16 "FlagCore" "bytes" "LFlagCore$Bytes;" ∈ wsX4_combineWithNumber := List.mem_of_getElem? (i := 1) rfl
theorem fmX4_combineWithNumber_25 : Cond.fieldLink RX4 25 "FlagCore" "sums" "LFlagCore$Sums;" ∈ wsX4_combineWithNumber := List.mem_of_getElem? (i := 2) rfl
abbrev rmX4_combineWithNumber : Room := { frames := 3, cells := 0, slots := 0, locals := 75 }
set_option maxRecDepth 20000 in
theorem cX4_combineWithNumber_ (h : HX) (hE : okE (EX h)) (a1 : Int32) (u : ST) : MX (EX h) yX4_combineWithNumber wsX4_combineWithNumber rmX4_combineWithNumber [.ref (xO h), .int a1] u (tW (fX4_combineWithNumber a1 u)) := by
  refine MX.of (cc := cX4_combineWithNumber) (maxL := 5) (ret := (some .int)) (lv := [(0, .ref (xO h)), (1, .int a1)]) hE (by decide) rfl (fun _ => rfl) (Nat.le_of_ble_eq_true rfl) rfl (fun K hC => ?_)
  unfold fX4_combineWithNumber
  refine g_bipush 0 hC (16 : Int32) dX4_combineWithNumber_0 (by decide) ?_
  refine g_iload_n 2 hC dX4_combineWithNumber_2 1 rfl ?_
  refine g_iconst 3 hC (4 : Int32) dX4_combineWithNumber_3 (by decide) ?_
  refine g_ishr 4 hC dX4_combineWithNumber_4 ?_
  refine g_bipush 5 hC (15 : Int32) dX4_combineWithNumber_5 (by decide) ?_
  refine g_iand 7 hC dX4_combineWithNumber_7 ?_
  refine g_iadd 8 hC dX4_combineWithNumber_8 ?_
  refine g_istore_n 9 hC dX4_combineWithNumber_9 (by decide) [(2, .int (((16 : Int32) + ((jshr a1 (4 : Int32)) &&& (15 : Int32))))), (0, .ref (xO h)), (1, .int a1)] rfl ?_
  refine g_aload_n 10 hC dX4_combineWithNumber_10 1 rfl ?_
  refine x_get_bytes 11 hC fiX4_combineWithNumber_wsX40 fmX4_combineWithNumber_16 dX4_combineWithNumber_11 ?_
  refine g_iload_n 14 hC dX4_combineWithNumber_14 0 rfl ?_
  refine kX0_get 15 hC gX4_combineWithNumber_X0_get ⟨Nat.le_of_ble_eq_true rfl, Nat.le_of_ble_eq_true rfl⟩ dX4_combineWithNumber_15 (Nat.le_of_ble_eq_true rfl) ?_
  refine g_istore_n 18 hC dX4_combineWithNumber_18 (by decide) [(3, .int ((fX0_get ((16 : Int32) + ((jshr a1 (4 : Int32)) &&& (15 : Int32))) u))), (2, .int (((16 : Int32) + ((jshr a1 (4 : Int32)) &&& (15 : Int32))))), (0, .ref (xO h)), (1, .int a1)] rfl ?_
  refine g_iload_n 19 hC dX4_combineWithNumber_19 3 rfl ?_
  refine g_iconst 20 hC (4 : Int32) dX4_combineWithNumber_20 (by decide) ?_
  refine g_ishr 21 hC dX4_combineWithNumber_21 ?_
  refine g_sipush 22 hC (240 : Int32) dX4_combineWithNumber_22 (by decide) ?_
  refine g_iand 25 hC dX4_combineWithNumber_25 ?_
  refine g_iload_n 26 hC dX4_combineWithNumber_26 3 rfl ?_
  refine g_bipush 27 hC (15 : Int32) dX4_combineWithNumber_27 (by decide) ?_
  refine g_iand 29 hC dX4_combineWithNumber_29 ?_
  refine g_ior 30 hC dX4_combineWithNumber_30 ?_
  refine g_istore 31 hC dX4_combineWithNumber_31 (by decide) [(4, .int ((((jshr a1 (4 : Int32)) &&& (240 : Int32)) ||| (a1 &&& (15 : Int32))))), (3, .int ((fX0_get ((16 : Int32) + ((jshr a1 (4 : Int32)) &&& (15 : Int32))) u))), (2, .int (((16 : Int32) + ((jshr a1 (4 : Int32)) &&& (15 : Int32))))), (0, .ref (xO h)), (1, .int a1)] rfl ?_
  refine g_iload_n 33 hC dX4_combineWithNumber_33 4 rfl ?_
  refine g_bipush 34 hC (12 : Int32) dX4_combineWithNumber_34 (by decide) ?_
  refine g_ishr 36 hC dX4_combineWithNumber_36 ?_
  refine g_byT (tW) (fun h1 => ?_) (fun h1 => ?_)
  · refine g_tsIn 37 hC (3 : Int32) (35) 72 h1 dX4_combineWithNumber_37 (by decide) (by decide) (by decide) (by decide) ?_
    refine g_aload_n 72 hC dX4_combineWithNumber_72 3 rfl ?_
    refine x_get_sums 73 hC fiX4_combineWithNumber_wsX40 fmX4_combineWithNumber_25 dX4_combineWithNumber_73 ?_
    refine g_iload_n 76 hC dX4_combineWithNumber_76 1 rfl ?_
    refine g_iload 77 hC dX4_combineWithNumber_77 0 rfl ?_
    refine kX2_difference 79 hC gX4_combineWithNumber_X2_difference ⟨Nat.le_of_ble_eq_true rfl, Nat.le_of_ble_eq_true rfl⟩ dX4_combineWithNumber_79 (Nat.le_of_ble_eq_true rfl) ?_
    refine g_pop 82 hC dX4_combineWithNumber_82 rfl ?_
    refine g_goto 83 hC 190 dX4_combineWithNumber_83 (by decide) ?_
    refine g_aload_n 190 hC dX4_combineWithNumber_190 3 rfl ?_
    refine g_iconst 191 hC (1 : Int32) dX4_combineWithNumber_191 (by decide) ?_
    refine kX4_onward 192 hC gX4_combineWithNumber_X4_onward ⟨Nat.le_of_ble_eq_true rfl, Nat.le_of_ble_eq_true rfl⟩ dX4_combineWithNumber_192 (Nat.le_of_ble_eq_true rfl) ?_
    exact g_iret 195 hC dX4_combineWithNumber_195
  · skip
    refine g_byT (tW) (fun h2 => ?_) (fun h2 => ?_)
    · refine g_tsIn 37 hC (4 : Int32) (49) 86 h2 dX4_combineWithNumber_37 (by decide) (by decide) (by decide) (by decide) ?_
      refine g_aload_n 86 hC dX4_combineWithNumber_86 3 rfl ?_
      refine x_get_bytes 87 hC fiX4_combineWithNumber_wsX40 fmX4_combineWithNumber_16 dX4_combineWithNumber_87 ?_
      refine g_iload_n 90 hC dX4_combineWithNumber_90 2 rfl ?_
      refine g_aload_n 91 hC dX4_combineWithNumber_91 3 rfl ?_
      refine x_get_sums 92 hC fiX4_combineWithNumber_wsX40 fmX4_combineWithNumber_25 dX4_combineWithNumber_92 ?_
      refine g_iload_n 95 hC dX4_combineWithNumber_95 1 rfl ?_
      refine g_iload 96 hC dX4_combineWithNumber_96 0 rfl ?_
      refine g_aload_n 98 hC dX4_combineWithNumber_98 3 rfl ?_
      refine x_get_bytes 99 hC fiX4_combineWithNumber_wsX40 fmX4_combineWithNumber_16 dX4_combineWithNumber_99 ?_
      refine g_iconst 102 hC (0 : Int32) dX4_combineWithNumber_102 (by decide) ?_
      refine kX0_flag 103 hC gX4_combineWithNumber_X0_flag ⟨Nat.le_of_ble_eq_true rfl, Nat.le_of_ble_eq_true rfl⟩ dX4_combineWithNumber_103 (Nat.le_of_ble_eq_true rfl) ?_
      refine kX2_differenceOn 106 hC gX4_combineWithNumber_X2_differenceOn ⟨Nat.le_of_ble_eq_true rfl, Nat.le_of_ble_eq_true rfl⟩ dX4_combineWithNumber_106 (Nat.le_of_ble_eq_true rfl) ?_
      refine kX0_set 109 hC gX4_combineWithNumber_X0_set ⟨Nat.le_of_ble_eq_true rfl, Nat.le_of_ble_eq_true rfl⟩ dX4_combineWithNumber_109 (Nat.le_of_ble_eq_true rfl) ?_
      refine g_goto 112 hC 190 dX4_combineWithNumber_112 (by decide) ?_
      refine g_aload_n 190 hC dX4_combineWithNumber_190 3 rfl ?_
      refine g_iconst 191 hC (1 : Int32) dX4_combineWithNumber_191 (by decide) ?_
      refine kX4_onward 192 hC gX4_combineWithNumber_X4_onward ⟨Nat.le_of_ble_eq_true rfl, Nat.le_of_ble_eq_true rfl⟩ dX4_combineWithNumber_192 (Nat.le_of_ble_eq_true rfl) ?_
      exact g_iret 195 hC dX4_combineWithNumber_195
    · skip
      refine g_byT (tW) (fun h3 => ?_) (fun h3 => ?_)
      · refine g_tsIn 37 hC (5 : Int32) (78) 115 h3 dX4_combineWithNumber_37 (by decide) (by decide) (by decide) (by decide) ?_
        refine g_aload_n 115 hC dX4_combineWithNumber_115 3 rfl ?_
        refine x_get_bytes 116 hC fiX4_combineWithNumber_wsX40 fmX4_combineWithNumber_16 dX4_combineWithNumber_116 ?_
        refine g_iload_n 119 hC dX4_combineWithNumber_119 2 rfl ?_
        refine g_aload_n 120 hC dX4_combineWithNumber_120 3 rfl ?_
        refine x_get_sums 121 hC fiX4_combineWithNumber_wsX40 fmX4_combineWithNumber_25 dX4_combineWithNumber_121 ?_
        refine g_iload_n 124 hC dX4_combineWithNumber_124 1 rfl ?_
        refine g_iload 125 hC dX4_combineWithNumber_125 0 rfl ?_
        refine kX2_difference 127 hC gX4_combineWithNumber_X2_difference ⟨Nat.le_of_ble_eq_true rfl, Nat.le_of_ble_eq_true rfl⟩ dX4_combineWithNumber_127 (Nat.le_of_ble_eq_true rfl) ?_
        refine kX0_set 130 hC gX4_combineWithNumber_X0_set ⟨Nat.le_of_ble_eq_true rfl, Nat.le_of_ble_eq_true rfl⟩ dX4_combineWithNumber_130 (Nat.le_of_ble_eq_true rfl) ?_
        refine g_goto 133 hC 190 dX4_combineWithNumber_133 (by decide) ?_
        refine g_aload_n 190 hC dX4_combineWithNumber_190 3 rfl ?_
        refine g_iconst 191 hC (1 : Int32) dX4_combineWithNumber_191 (by decide) ?_
        refine kX4_onward 192 hC gX4_combineWithNumber_X4_onward ⟨Nat.le_of_ble_eq_true rfl, Nat.le_of_ble_eq_true rfl⟩ dX4_combineWithNumber_192 (Nat.le_of_ble_eq_true rfl) ?_
        exact g_iret 195 hC dX4_combineWithNumber_195
      · skip
        refine g_byT (tW) (fun h4 => ?_) (fun h4 => ?_)
        · refine g_tsIn 37 hC (6 : Int32) (99) 136 h4 dX4_combineWithNumber_37 (by decide) (by decide) (by decide) (by decide) ?_
          refine g_aload_n 136 hC dX4_combineWithNumber_136 3 rfl ?_
          refine x_get_bytes 137 hC fiX4_combineWithNumber_wsX40 fmX4_combineWithNumber_16 dX4_combineWithNumber_137 ?_
          refine g_iload_n 140 hC dX4_combineWithNumber_140 2 rfl ?_
          refine g_aload_n 141 hC dX4_combineWithNumber_141 3 rfl ?_
          refine x_get_sums 142 hC fiX4_combineWithNumber_wsX40 fmX4_combineWithNumber_25 dX4_combineWithNumber_142 ?_
          refine g_iload_n 145 hC dX4_combineWithNumber_145 1 rfl ?_
          refine g_iload 146 hC dX4_combineWithNumber_146 0 rfl ?_
          refine g_ior 148 hC dX4_combineWithNumber_148 ?_
          refine kX2_logic 149 hC gX4_combineWithNumber_X2_logic ⟨Nat.le_of_ble_eq_true rfl, Nat.le_of_ble_eq_true rfl⟩ dX4_combineWithNumber_149 (Nat.le_of_ble_eq_true rfl) ?_
          refine kX0_set 152 hC gX4_combineWithNumber_X0_set ⟨Nat.le_of_ble_eq_true rfl, Nat.le_of_ble_eq_true rfl⟩ dX4_combineWithNumber_152 (Nat.le_of_ble_eq_true rfl) ?_
          refine g_goto 155 hC 190 dX4_combineWithNumber_155 (by decide) ?_
          refine g_aload_n 190 hC dX4_combineWithNumber_190 3 rfl ?_
          refine g_iconst 191 hC (1 : Int32) dX4_combineWithNumber_191 (by decide) ?_
          refine kX4_onward 192 hC gX4_combineWithNumber_X4_onward ⟨Nat.le_of_ble_eq_true rfl, Nat.le_of_ble_eq_true rfl⟩ dX4_combineWithNumber_192 (Nat.le_of_ble_eq_true rfl) ?_
          exact g_iret 195 hC dX4_combineWithNumber_195
        · skip
          refine g_byT (tW) (fun h5 => ?_) (fun h5 => ?_)
          · refine g_tsIn 37 hC (7 : Int32) (121) 158 h5 dX4_combineWithNumber_37 (by decide) (by decide) (by decide) (by decide) ?_
            refine g_aload_n 158 hC dX4_combineWithNumber_158 3 rfl ?_
            refine x_get_bytes 159 hC fiX4_combineWithNumber_wsX40 fmX4_combineWithNumber_16 dX4_combineWithNumber_159 ?_
            refine g_iload_n 162 hC dX4_combineWithNumber_162 2 rfl ?_
            refine g_aload_n 163 hC dX4_combineWithNumber_163 3 rfl ?_
            refine x_get_sums 164 hC fiX4_combineWithNumber_wsX40 fmX4_combineWithNumber_25 dX4_combineWithNumber_164 ?_
            refine g_iload_n 167 hC dX4_combineWithNumber_167 1 rfl ?_
            refine g_iload 168 hC dX4_combineWithNumber_168 0 rfl ?_
            refine g_iand 170 hC dX4_combineWithNumber_170 ?_
            refine kX2_logic 171 hC gX4_combineWithNumber_X2_logic ⟨Nat.le_of_ble_eq_true rfl, Nat.le_of_ble_eq_true rfl⟩ dX4_combineWithNumber_171 (Nat.le_of_ble_eq_true rfl) ?_
            refine kX0_set 174 hC gX4_combineWithNumber_X0_set ⟨Nat.le_of_ble_eq_true rfl, Nat.le_of_ble_eq_true rfl⟩ dX4_combineWithNumber_174 (Nat.le_of_ble_eq_true rfl) ?_
            refine g_goto 177 hC 190 dX4_combineWithNumber_177 (by decide) ?_
            refine g_aload_n 190 hC dX4_combineWithNumber_190 3 rfl ?_
            refine g_iconst 191 hC (1 : Int32) dX4_combineWithNumber_191 (by decide) ?_
            refine kX4_onward 192 hC gX4_combineWithNumber_X4_onward ⟨Nat.le_of_ble_eq_true rfl, Nat.le_of_ble_eq_true rfl⟩ dX4_combineWithNumber_192 (Nat.le_of_ble_eq_true rfl) ?_
            exact g_iret 195 hC dX4_combineWithNumber_195
          · skip
            refine g_tsOut 37 hC 180 dX4_combineWithNumber_37 (by have n0 := lv_neT h1 (a := 3) (by decide); have n1 := lv_neT h2 (a := 4) (by decide); have n2 := lv_neT h3 (a := 5) (by decide); have n3 := lv_neT h4 (a := 6) (by decide); have n4 := lv_neT h5 (a := 7) (by decide); omega) (by decide) ?_
            refine g_aload_n 180 hC dX4_combineWithNumber_180 3 rfl ?_
            refine x_get_bytes 181 hC fiX4_combineWithNumber_wsX40 fmX4_combineWithNumber_16 dX4_combineWithNumber_181 ?_
            refine g_iload_n 184 hC dX4_combineWithNumber_184 2 rfl ?_
            refine g_iload 185 hC dX4_combineWithNumber_185 0 rfl ?_
            refine kX0_set 187 hC gX4_combineWithNumber_X0_set ⟨Nat.le_of_ble_eq_true rfl, Nat.le_of_ble_eq_true rfl⟩ dX4_combineWithNumber_187 (Nat.le_of_ble_eq_true rfl) ?_
            refine g_aload_n 190 hC dX4_combineWithNumber_190 3 rfl ?_
            refine g_iconst 191 hC (1 : Int32) dX4_combineWithNumber_191 (by decide) ?_
            refine kX4_onward 192 hC gX4_combineWithNumber_X4_onward ⟨Nat.le_of_ble_eq_true rfl, Nat.le_of_ble_eq_true rfl⟩ dX4_combineWithNumber_192 (Nat.le_of_ble_eq_true rfl) ?_
            exact g_iret 195 hC dX4_combineWithNumber_195
theorem kX4_combineWithNumber {K : KT} {h : HX} {cc : ByteArray} {nL : Nat} {own : String} {Ts : List Cond} {rm : Room} {ret : Option FieldType} {T : ST × Option Value} {u : ST} {lv : List (Nat × Value)} {rest : List Value} {idx : Nat} {a1 : Int32} (pc : Nat) (hC : Cx K (EX h) cc nL own Ts rm ret) (hT : GoodIn Ts (wsV own idx RX4 yX4_combineWithNumber wsX4_combineWithNumber)) (hR : rmX4_combineWithNumber.frames + 1 ≤ rm.frames ∧ 8 + (5 + 11) + rmX4_combineWithNumber.locals ≤ rm.locals) (hdg : decode cc pc = .ok (.invokevirtual idx, 3)) (hcat : (rest.map fun v => v.category).sum ≤ 8) (kk : G K (EX h) nL T (fX4_combineWithNumber a1 u).1 (pc + 3) lv (.int (fX4_combineWithNumber a1 u).2 :: rest)) : G K (EX h) nL T u pc lv (.int a1 :: .ref (xO h) :: rest) := g_callV (n := 1) pc hC (As := [.int a1]) (rest := rest) (cX4_combineWithNumber_ _ (Cx.ok hC) a1 u) hT rfl rfl rfl (by decide +kernel) hR 0 2 rfl rfl rfl rfl rfl hcat hdg kk

