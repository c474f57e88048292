def fX5_in (a0 : Int32) (a1 : Int32) (a2 : Int32) : Int32 :=
  (if a0 < a1 then (0 : Int32) else (if a2 < a0 then (0 : Int32) else (1 : Int32)))
theorem boX5_in (a0 : Int32) (a1 : Int32) (a2 : Int32) : isB (fX5_in a0 a1 a2) := by
  unfold fX5_in
  repeat' split
  all_goals first | exact nb0 | exact nb1
abbrev rmX5_in : Room := { frames := 0, cells := 0, slots := 0, locals := 0 }
set_option maxRecDepth 20000 in
theorem cX5_in_ (E : EV) (hE : okE E) (a0 : Int32) (a1 : Int32) (a2 : Int32) (u : ST) : MX E yX5_in wsX5_in rmX5_in [.int a0, .int a1, .int a2] u (tR u (fX5_in a0 a1 a2)) := by
  refine MX.of (cc := cX5_in) (maxL := 3) (ret := (some .boolean)) (lv := [(0, .int a0), (1, .int a1), (2, .int a2)]) hE (by decide) rfl (fun _ => rfl) (Nat.le_of_ble_eq_true rfl) rfl (fun K hC => ?_)
  unfold fX5_in
  refine g_iload_n 0 hC dX5_in_0 0 rfl ?_
  refine g_iload_n 1 hC dX5_in_1 1 rfl ?_
  refine g_cut 15 (if a0 < a1 then (0 : Int32) else (if a2 < a0 then (0 : Int32) else (1 : Int32))) [] ?_ (fun J3 => ?_)
  · skip
    exact g_zretR 15 hC (nbI nb0 (nbI nb0 nb1)) dX5_in_15
  · skip
    refine g_icmp_lt 2 hC 14 dX5_in_2 (by decide) (fun h1 => ?_) (fun h1 => ?_)
    · skip
      refine g_iconst 14 hC (0 : Int32) dX5_in_14 (by decide) ?_
      exact J3 _ (Eq.symm (if_pos h1))
    · skip
      refine g_iload_n 5 hC dX5_in_5 0 rfl ?_
      refine g_iload_n 6 hC dX5_in_6 2 rfl ?_
      refine g_icmp_gt 7 hC 14 dX5_in_7 (by decide) (fun h2 => ?_) (fun h2 => ?_)
      · skip
        refine g_iconst 14 hC (0 : Int32) dX5_in_14 (by decide) ?_
        exact J3 _ (Eq.symm (Eq.trans (if_neg h1) (if_pos h2)))
      · skip
        refine g_iconst 10 hC (1 : Int32) dX5_in_10 (by decide) ?_
        refine g_goto 11 hC 15 dX5_in_11 (by decide) ?_
        exact J3 _ (Eq.symm (Eq.trans (if_neg h1) (if_neg h2)))
theorem kX5_in {K : KT} {E : EV} {cc : ByteArray} {nL : Nat} {own : String} {Ts : List Cond} {rm : Room} {ret : Option FieldType} {T : ST × Option Value} {u : ST} {lv : List (Nat × Value)} {rest : List Value} {idx : Nat} {a0 : Int32} {a1 : Int32} {a2 : Int32} (pc : Nat) (hC : Cx K E cc nL own Ts rm ret) (hT : GoodIn Ts (va_wsS own idx yX5_in wsX5_in)) (hR : rmX5_in.frames + 1 ≤ rm.frames ∧ 8 + (3 + 11) + rmX5_in.locals ≤ rm.locals) (hdg : decode cc pc = .ok (.invokestatic idx, 3)) (hcat : (rest.map fun v => v.category).sum ≤ 8) (kk : G K E nL T u (pc + 3) lv (.int (fX5_in a0 a1 a2) :: rest)) : G K E nL T u pc lv (.int a2 :: .int a1 :: .int a0 :: rest) := g_callS (n := 3) pc hC (As := [.int a0, .int a1, .int a2]) (rest := rest) (cX5_in_ _ (Cx.ok hC) a0 a1 a2 u) hT rfl rfl rfl (by decide +kernel) hR rfl rfl hcat hdg kk

def fX5_code (a1 : Int32) (a2 : Int32) (u : ST) : ST × Int32 :=
  if (fX5_in a1 (0 : Int32) (1023 : Int32)) = 0 then
    (u, (-1 : Int32))
  else
    if (fX5_in a2 (0 : Int32) (65535 : Int32)) = 0 then
      (u, (-1 : Int32))
    else
      ((wC u a1 a2), (rC u a1))
def okX5_code (a1 : Int32) (a2 : Int32) (u : ST) : Prop := ((¬ (fX5_in a1 (0 : Int32) (1023 : Int32)) = 0) → (¬ (fX5_in a2 (0 : Int32) (65535 : Int32)) = 0) → vp_in a1 1024) ∧ True
theorem cmX5_code_27 : Jvm.Cond.constant RX5 27 (65535 : Int32) ∈ wsX5_code := List.mem_of_getElem? (i := 1) rfl
theorem fiX5_code_wsX50 : ∀ w ∈ wsX50, w ∈ wsX5_code := fun w h => List.mem_cons_of_mem _ (List.mem_append_right _ h)
theorem fmX5_code_7 : Cond.fieldLink RX5 7 "FlagCoreModel" "code" "[I" ∈ wsX5_code := List.mem_of_getElem? (i := 2) rfl
abbrev rmX5_code : Room := { frames := 1, cells := 0, slots := 0, locals := 22 }
set_option maxRecDepth 20000 in
theorem cX5_code_ (h : HM) (hE : okE (EM h)) (a1 : Int32) (a2 : Int32) (u : ST) (hok : okX5_code a1 a2 u) : MX (EM h) yX5_code wsX5_code rmX5_code [.ref (mO h), .int a1, .int a2] u (tW (fX5_code a1 a2 u)) := by
  obtain ⟨k0, -⟩ := hok
  refine MX.of (cc := cX5_code) (maxL := 4) (ret := (some .int)) (lv := [(0, .ref (mO h)), (1, .int a1), (2, .int a2)]) hE (by decide) rfl (fun _ => rfl) (Nat.le_of_ble_eq_true rfl) rfl (fun K hC => ?_)
  unfold fX5_code
  refine g_iload_n 0 hC dX5_code_0 1 rfl ?_
  refine g_iconst 1 hC (0 : Int32) dX5_code_1 (by decide) ?_
  refine g_sipush 2 hC (1023 : Int32) dX5_code_2 (by decide) ?_
  refine kX5_in 5 hC gX5_code_X5_in ⟨Nat.le_of_ble_eq_true rfl, Nat.le_of_ble_eq_true rfl⟩ dX5_code_5 (Nat.le_of_ble_eq_true rfl) ?_
  refine g_if_eqT (tW) 8 hC 21 dX5_code_8 (by decide) (fun h1 => ?_) (fun h1 => ?_)
  · skip
    refine g_iconst 21 hC (-1 : Int32) dX5_code_21 (by decide) ?_
    exact g_iretW 22 hC dX5_code_22
  · skip
    refine g_iload_n 11 hC dX5_code_11 2 rfl ?_
    refine g_iconst 12 hC (0 : Int32) dX5_code_12 (by decide) ?_
    refine g_ldc 13 hC (65535 : Int32) dX5_code_13 cmX5_code_27 ?_
    refine kX5_in 15 hC gX5_code_X5_in ⟨Nat.le_of_ble_eq_true rfl, Nat.le_of_ble_eq_true rfl⟩ dX5_code_15 (Nat.le_of_ble_eq_true rfl) ?_
    refine g_if_neT (tW) 18 hC 23 dX5_code_18 (by decide) (fun h2 => ?_) (fun h2 => ?_)
    · skip
      refine g_aload_n 23 hC dX5_code_23 0 rfl ?_
      refine m_get_code 24 hC fiX5_code_wsX50 fmX5_code_7 dX5_code_24 ?_
      refine g_iload_n 27 hC dX5_code_27 1 rfl ?_
      refine m_ldC 28 hC (k0 h1 h2) dX5_code_28 ?_
      refine g_istore_n 29 hC dX5_code_29 (by decide) [(3, .int ((rC u a1))), (0, .ref (mO h)), (1, .int a1), (2, .int a2)] rfl ?_
      refine g_aload_n 30 hC dX5_code_30 1 rfl ?_
      refine m_get_code 31 hC fiX5_code_wsX50 fmX5_code_7 dX5_code_31 ?_
      refine g_iload_n 34 hC dX5_code_34 2 rfl ?_
      refine g_iload_n 35 hC dX5_code_35 3 rfl ?_
      refine m_stC 36 hC (k0 h1 h2) dX5_code_36 ?_
      refine g_iload_n 37 hC dX5_code_37 0 rfl ?_
      exact g_iretW 38 hC dX5_code_38
    · skip
      refine g_iconst 21 hC (-1 : Int32) dX5_code_21 (by decide) ?_
      exact g_iretW 22 hC dX5_code_22
theorem kX5_code {K : KT} {h : HM} {cc : ByteArray} {nL : Nat} {own : String} {Ts : List Cond} {rm : Room} {ret : Option FieldType} {T : ST × Option Value} {u : ST} {lv : List (Nat × Value)} {rest : List Value} {idx : Nat} {a1 : Int32} {a2 : Int32} (pc : Nat) (hC : Cx K (EM h) cc nL own Ts rm ret) (hok : okX5_code a1 a2 u) (hT : GoodIn Ts (wsV own idx RX5 yX5_code wsX5_code)) (hR : rmX5_code.frames + 1 ≤ rm.frames ∧ 8 + (4 + 11) + rmX5_code.locals ≤ rm.locals) (hdg : decode cc pc = .ok (.invokevirtual idx, 3)) (hcat : (rest.map fun v => v.category).sum ≤ 8) (kk : G K (EM h) nL T (fX5_code a1 a2 u).1 (pc + 3) lv (.int (fX5_code a1 a2 u).2 :: rest)) : G K (EM h) nL T u pc lv (.int a2 :: .int a1 :: .ref (mO h) :: rest) := g_callV (n := 2) pc hC (As := [.int a1, .int a2]) (rest := rest) (cX5_code_ _ (Cx.ok hC) a1 a2 u hok) hT rfl rfl rfl (by decide +kernel) hR 0 3 rfl rfl rfl rfl rfl hcat hdg kk

def fX5_load (a1 : Int32) (a2 : Int64) (u : ST) : ST × Int32 :=
  if (fX5_in a1 (0 : Int32) (1023 : Int32)) = 0 then
    (u, (-1 : Int32))
  else
    ((wC (wC (wC (wC u ((a1 + (0 : Int32)) &&& (1023 : Int32)) ((Int64.toInt32 (jlshr a2 ((48 : Int32) - ((16 : Int32) * (0 : Int32))))) &&& (65535 : Int32))) ((a1 + (1 : Int32)) &&& (1023 : Int32)) ((Int64.toInt32 (jlshr a2 ((48 : Int32) - ((16 : Int32) * (1 : Int32))))) &&& (65535 : Int32))) ((a1 + (2 : Int32)) &&& (1023 : Int32)) ((Int64.toInt32 (jlshr a2 ((48 : Int32) - ((16 : Int32) * (2 : Int32))))) &&& (65535 : Int32))) ((a1 + (3 : Int32)) &&& (1023 : Int32)) ((Int64.toInt32 (jlshr a2 ((48 : Int32) - ((16 : Int32) * (3 : Int32))))) &&& (65535 : Int32))), (1 : Int32))
theorem fiX5_load_wsX50 : ∀ w ∈ wsX50, w ∈ wsX5_load := fun w h => List.mem_cons_of_mem _ (List.mem_append_right _ h)
theorem fmX5_load_7 : Cond.fieldLink RX5 7 "FlagCoreModel" "code" "[I" ∈ wsX5_load := List.mem_of_getElem? (i := 1) rfl
theorem cmX5_load_27 : Jvm.Cond.constant RX5 27 (65535 : Int32) ∈ wsX5_load := List.mem_of_getElem? (i := 2) rfl
abbrev rmX5_load : Room := { frames := 1, cells := 0, slots := 0, locals := 22 }
set_option maxRecDepth 20000 in
theorem cX5_load_ (h : HM) (hE : okE (EM h)) (a1 : Int32) (a2 : Int64) (u : ST) : MX (EM h) yX5_load wsX5_load rmX5_load [.ref (mO h), .int a1, .long a2] u (tW (fX5_load a1 a2 u)) := by
  refine MX.of (cc := cX5_load) (maxL := 5) (ret := (some .int)) (lv := [(0, .ref (mO h)), (1, .int a1), (2, .long a2)]) hE (by decide) rfl (fun _ => rfl) (Nat.le_of_ble_eq_true rfl) rfl (fun K hC => ?_)
  unfold fX5_load
  refine g_iload_n 0 hC dX5_load_0 1 rfl ?_
  refine g_iconst 1 hC (0 : Int32) dX5_load_1 (by decide) ?_
  refine g_sipush 2 hC (1023 : Int32) dX5_load_2 (by decide) ?_
  refine kX5_in 5 hC gX5_load_X5_in ⟨Nat.le_of_ble_eq_true rfl, Nat.le_of_ble_eq_true rfl⟩ dX5_load_5 (Nat.le_of_ble_eq_true rfl) ?_
  refine g_if_neT (tW) 8 hC 13 dX5_load_8 (by decide) (fun h1 => ?_) (fun h1 => ?_)
  · skip
    refine g_iconst 13 hC (0 : Int32) dX5_load_13 (by decide) ?_
    refine g_istore 14 hC dX5_load_14 (by decide) [(4, .int ((0 : Int32))), (0, .ref (mO h)), (1, .int a1), (2, .long a2)] rfl ?_
    refine g_iload 16 hC dX5_load_16 0 rfl ?_
    refine g_iconst 18 hC (4 : Int32) dX5_load_18 (by decide) ?_
    refine g_icmp_ge 19 hC 55 dX5_load_19 (by decide) (fun h => absurd h (by decide)) (fun _ => ?_)
    refine g_aload_n 22 hC dX5_load_22 1 rfl ?_
    refine m_get_code 23 hC fiX5_load_wsX50 fmX5_load_7 dX5_load_23 ?_
    refine g_iload_n 26 hC dX5_load_26 2 rfl ?_
    refine g_iload 27 hC dX5_load_27 0 rfl ?_
    refine g_iadd 29 hC dX5_load_29 ?_
    refine g_sipush 30 hC (1023 : Int32) dX5_load_30 (by decide) ?_
    refine g_iand 33 hC dX5_load_33 ?_
    refine g_lload_n 34 hC dX5_load_34 3 rfl ?_
    refine g_bipush 35 hC (48 : Int32) dX5_load_35 (by decide) ?_
    refine g_bipush 37 hC (16 : Int32) dX5_load_37 (by decide) ?_
    refine g_iload 39 hC dX5_load_39 0 rfl ?_
    refine g_imul 41 hC dX5_load_41 ?_
    refine g_isub 42 hC dX5_load_42 ?_
    refine g_lshr 43 hC dX5_load_43 ?_
    refine g_l2i 44 hC dX5_load_44 ?_
    refine g_ldc 45 hC (65535 : Int32) dX5_load_45 cmX5_load_27 ?_
    refine g_iand 47 hC dX5_load_47 ?_
    refine m_stC 48 hC (vin_1023 _) dX5_load_48 ?_
    refine g_iinc 49 hC (1 : Int32) dX5_load_49 (by decide) 0 rfl (by decide) [(4, .int ((1 : Int32))), (0, .ref (mO h)), (1, .int a1), (2, .long a2)] rfl ?_
    refine g_goto 52 hC 16 dX5_load_52 (by decide) ?_
    refine g_iload 16 hC dX5_load_16 0 rfl ?_
    refine g_iconst 18 hC (4 : Int32) dX5_load_18 (by decide) ?_
    refine g_icmp_ge 19 hC 55 dX5_load_19 (by decide) (fun h => absurd h (by decide)) (fun _ => ?_)
    refine g_aload_n 22 hC dX5_load_22 1 rfl ?_
    refine m_get_code 23 hC fiX5_load_wsX50 fmX5_load_7 dX5_load_23 ?_
    refine g_iload_n 26 hC dX5_load_26 2 rfl ?_
    refine g_iload 27 hC dX5_load_27 0 rfl ?_
    refine g_iadd 29 hC dX5_load_29 ?_
    refine g_sipush 30 hC (1023 : Int32) dX5_load_30 (by decide) ?_
    refine g_iand 33 hC dX5_load_33 ?_
    refine g_lload_n 34 hC dX5_load_34 3 rfl ?_
    refine g_bipush 35 hC (48 : Int32) dX5_load_35 (by decide) ?_
    refine g_bipush 37 hC (16 : Int32) dX5_load_37 (by decide) ?_
    refine g_iload 39 hC dX5_load_39 0 rfl ?_
    refine g_imul 41 hC dX5_load_41 ?_
    refine g_isub 42 hC dX5_load_42 ?_
    refine g_lshr 43 hC dX5_load_43 ?_
    refine g_l2i 44 hC dX5_load_44 ?_
    refine g_ldc 45 hC (65535 : Int32) dX5_load_45 cmX5_load_27 ?_
    refine g_iand 47 hC dX5_load_47 ?_
    refine m_stC 48 hC (vin_1023 _) dX5_load_48 ?_
    refine g_iinc 49 hC (2 : Int32) dX5_load_49 (by decide) 0 rfl (by decide) [(4, .int ((2 : Int32))), (0, .ref (mO h)), (1, .int a1), (2, .long a2)] rfl ?_
    refine g_goto 52 hC 16 dX5_load_52 (by decide) ?_
    refine g_iload 16 hC dX5_load_16 0 rfl ?_
    refine g_iconst 18 hC (4 : Int32) dX5_load_18 (by decide) ?_
    refine g_icmp_ge 19 hC 55 dX5_load_19 (by decide) (fun h => absurd h (by decide)) (fun _ => ?_)
    refine g_aload_n 22 hC dX5_load_22 1 rfl ?_
    refine m_get_code 23 hC fiX5_load_wsX50 fmX5_load_7 dX5_load_23 ?_
    refine g_iload_n 26 hC dX5_load_26 2 rfl ?_
    refine g_iload 27 hC dX5_load_27 0 rfl ?_
    refine g_iadd 29 hC dX5_load_29 ?_
    refine g_sipush 30 hC (1023 : Int32) dX5_load_30 (by decide) ?_
    refine g_iand 33 hC dX5_load_33 ?_
    refine g_lload_n 34 hC dX5_load_34 3 rfl ?_
    refine g_bipush 35 hC (48 : Int32) dX5_load_35 (by decide) ?_
    refine g_bipush 37 hC (16 : Int32) dX5_load_37 (by decide) ?_
    refine g_iload 39 hC dX5_load_39 0 rfl ?_
    refine g_imul 41 hC dX5_load_41 ?_
    refine g_isub 42 hC dX5_load_42 ?_
    refine g_lshr 43 hC dX5_load_43 ?_
    refine g_l2i 44 hC dX5_load_44 ?_
    refine g_ldc 45 hC (65535 : Int32) dX5_load_45 cmX5_load_27 ?_
    refine g_iand 47 hC dX5_load_47 ?_
    refine m_stC 48 hC (vin_1023 _) dX5_load_48 ?_
    refine g_iinc 49 hC (3 : Int32) dX5_load_49 (by decide) 0 rfl (by decide) [(4, .int ((3 : Int32))), (0, .ref (mO h)), (1, .int a1), (2, .long a2)] rfl ?_
    refine g_goto 52 hC 16 dX5_load_52 (by decide) ?_
    refine g_iload 16 hC dX5_load_16 0 rfl ?_
    refine g_iconst 18 hC (4 : Int32) dX5_load_18 (by decide) ?_
    refine g_icmp_ge 19 hC 55 dX5_load_19 (by decide) (fun h => absurd h (by decide)) (fun _ => ?_)
    refine g_aload_n 22 hC dX5_load_22 1 rfl ?_
    refine m_get_code 23 hC fiX5_load_wsX50 fmX5_load_7 dX5_load_23 ?_
    refine g_iload_n 26 hC dX5_load_26 2 rfl ?_
    refine g_iload 27 hC dX5_load_27 0 rfl ?_
    refine g_iadd 29 hC dX5_load_29 ?_
    refine g_sipush 30 hC (1023 : Int32) dX5_load_30 (by decide) ?_
    refine g_iand 33 hC dX5_load_33 ?_
    refine g_lload_n 34 hC dX5_load_34 3 rfl ?_
    refine g_bipush 35 hC (48 : Int32) dX5_load_35 (by decide) ?_
    refine g_bipush 37 hC (16 : Int32) dX5_load_37 (by decide) ?_
    refine g_iload 39 hC dX5_load_39 0 rfl ?_
    refine g_imul 41 hC dX5_load_41 ?_
    refine g_isub 42 hC dX5_load_42 ?_
    refine g_lshr 43 hC dX5_load_43 ?_
    refine g_l2i 44 hC dX5_load_44 ?_
    refine g_ldc 45 hC (65535 : Int32) dX5_load_45 cmX5_load_27 ?_
    refine g_iand 47 hC dX5_load_47 ?_
    refine m_stC 48 hC (vin_1023 _) dX5_load_48 ?_
    refine g_iinc 49 hC (4 : Int32) dX5_load_49 (by decide) 0 rfl (by decide) [(4, .int ((4 : Int32))), (0, .ref (mO h)), (1, .int a1), (2, .long a2)] rfl ?_
    refine g_goto 52 hC 16 dX5_load_52 (by decide) ?_
    refine g_iload 16 hC dX5_load_16 0 rfl ?_
    refine g_iconst 18 hC (4 : Int32) dX5_load_18 (by decide) ?_
    refine g_icmp_ge 19 hC 55 dX5_load_19 (by decide) (fun _ => ?_) (fun h => absurd (by decide) h)
    refine g_iconst 55 hC (1 : Int32) dX5_load_55 (by decide) ?_
    exact g_iretW 56 hC dX5_load_56
  · skip
    refine g_iconst 11 hC (-1 : Int32) dX5_load_11 (by decide) ?_
    exact g_iretW 12 hC dX5_load_12
theorem kX5_load {K : KT} {h : HM} {cc : ByteArray} {nL : Nat} {own : String} {Ts : List Cond} {rm : Room} {ret : Option FieldType} {T : ST × Option Value} {u : ST} {lv : List (Nat × Value)} {rest : List Value} {idx : Nat} {a1 : Int32} {a2 : Int64} (pc : Nat) (hC : Cx K (EM h) cc nL own Ts rm ret) (hT : GoodIn Ts (wsV own idx RX5 yX5_load wsX5_load)) (hR : rmX5_load.frames + 1 ≤ rm.frames ∧ 8 + (5 + 11) + rmX5_load.locals ≤ rm.locals) (hdg : decode cc pc = .ok (.invokevirtual idx, 3)) (hcat : (rest.map fun v => v.category).sum ≤ 8) (kk : G K (EM h) nL T (fX5_load a1 a2 u).1 (pc + 3) lv (.int (fX5_load a1 a2 u).2 :: rest)) : G K (EM h) nL T u pc lv (.long a2 :: .int a1 :: .ref (mO h) :: rest) := g_callV (n := 2) pc hC (As := [.int a1, .long a2]) (rest := rest) (cX5_load_ _ (Cx.ok hC) a1 a2 u) hT rfl rfl rfl (by decide +kernel) hR 0 3 rfl rfl rfl rfl rfl hcat hdg kk

def fX5_word (a1 : Int32) (u : ST) : Int32 :=
  (if (fX5_in a1 (0 : Int32) (1023 : Int32)) = 0 then (-1 : Int32) else (rC u a1))
def okX5_word (a1 : Int32) (u : ST) : Prop := ((¬ (fX5_in a1 (0 : Int32) (1023 : Int32)) = 0) → vp_in a1 1024) ∧ True
theorem fiX5_word_wsX50 : ∀ w ∈ wsX50, w ∈ wsX5_word := fun w h => List.mem_cons_of_mem _ (List.mem_append_right _ h)
theorem fmX5_word_7 : Cond.fieldLink RX5 7 "FlagCoreModel" "code" "[I" ∈ wsX5_word := List.mem_of_getElem? (i := 1) rfl
abbrev rmX5_word : Room := { frames := 1, cells := 0, slots := 0, locals := 22 }
set_option maxRecDepth 20000 in
theorem cX5_word_ (h : HM) (hE : okE (EM h)) (a1 : Int32) (u : ST) (hok : okX5_word a1 u) : MX (EM h) yX5_word wsX5_word rmX5_word [.ref (mO h), .int a1] u (tR u (fX5_word a1 u)) := by
  obtain ⟨k0, -⟩ := hok
  refine MX.of (cc := cX5_word) (maxL := 2) (ret := (some .int)) (lv := [(0, .ref (mO h)), (1, .int a1)]) hE (by decide) rfl (fun _ => rfl) (Nat.le_of_ble_eq_true rfl) rfl (fun K hC => ?_)
  unfold fX5_word
  refine g_iload_n 0 hC dX5_word_0 1 rfl ?_
  refine g_iconst 1 hC (0 : Int32) dX5_word_1 (by decide) ?_
  refine g_sipush 2 hC (1023 : Int32) dX5_word_2 (by decide) ?_
  refine kX5_in 5 hC gX5_word_X5_in ⟨Nat.le_of_ble_eq_true rfl, Nat.le_of_ble_eq_true rfl⟩ dX5_word_5 (Nat.le_of_ble_eq_true rfl) ?_
  refine g_cut 21 (if (fX5_in a1 (0 : Int32) (1023 : Int32)) = 0 then (-1 : Int32) else (rC u a1)) [] ?_ (fun J2 => ?_)
  · skip
    exact g_iretR 21 hC dX5_word_21
  · skip
    refine g_if_eq 8 hC 20 dX5_word_8 (by decide) (fun h1 => ?_) (fun h1 => ?_)
    · skip
      refine g_iconst 20 hC (-1 : Int32) dX5_word_20 (by decide) ?_
      exact J2 _ (Eq.symm (if_pos h1))
    · skip
      refine g_aload_n 11 hC dX5_word_11 0 rfl ?_
      refine m_get_code 12 hC fiX5_word_wsX50 fmX5_word_7 dX5_word_12 ?_
      refine g_iload_n 15 hC dX5_word_15 1 rfl ?_
      refine m_ldC 16 hC (k0 h1) dX5_word_16 ?_
      refine g_goto 17 hC 21 dX5_word_17 (by decide) ?_
      exact J2 _ (Eq.symm (if_neg h1))
theorem kX5_word {K : KT} {h : HM} {cc : ByteArray} {nL : Nat} {own : String} {Ts : List Cond} {rm : Room} {ret : Option FieldType} {T : ST × Option Value} {u : ST} {lv : List (Nat × Value)} {rest : List Value} {idx : Nat} {a1 : Int32} (pc : Nat) (hC : Cx K (EM h) cc nL own Ts rm ret) (hok : okX5_word a1 u) (hT : GoodIn Ts (wsV own idx RX5 yX5_word wsX5_word)) (hR : rmX5_word.frames + 1 ≤ rm.frames ∧ 8 + (2 + 11) + rmX5_word.locals ≤ rm.locals) (hdg : decode cc pc = .ok (.invokevirtual idx, 3)) (hcat : (rest.map fun v => v.category).sum ≤ 8) (kk : G K (EM h) nL T u (pc + 3) lv (.int (fX5_word a1 u) :: rest)) : G K (EM h) nL T u pc lv (.int a1 :: .ref (mO h) :: rest) := g_callV (n := 1) pc hC (As := [.int a1]) (rest := rest) (cX5_word_ _ (Cx.ok hC) a1 u hok) hT rfl rfl rfl (by decide +kernel) hR 0 3 rfl rfl rfl rfl rfl hcat hdg kk

def fX5_put (a1 : Int32) (a2 : Int32) (u : ST) : ST × Int32 :=
  if (fX5_in a1 (0 : Int32) (1023 : Int32)) = 0 then
    (u, (-1 : Int32))
  else
    if (fX5_in a2 (0 : Int32) (255 : Int32)) = 0 then
      (u, (-1 : Int32))
    else
      ((wD u a1 a2), (rD u a1))
def okX5_put (a1 : Int32) (a2 : Int32) (u : ST) : Prop := ((¬ (fX5_in a1 (0 : Int32) (1023 : Int32)) = 0) → (¬ (fX5_in a2 (0 : Int32) (255 : Int32)) = 0) → vp_in a1 1024) ∧ True
theorem fiX5_put_wsX50 : ∀ w ∈ wsX50, w ∈ wsX5_put := fun w h => List.mem_cons_of_mem _ (List.mem_append_right _ h)
theorem fmX5_put_13 : Cond.fieldLink RX5 13 "FlagCoreModel" "data" "[I" ∈ wsX5_put := List.mem_of_getElem? (i := 1) rfl
abbrev rmX5_put : Room := { frames := 1, cells := 0, slots := 0, locals := 22 }
set_option maxRecDepth 20000 in
theorem cX5_put_ (h : HM) (hE : okE (EM h)) (a1 : Int32) (a2 : Int32) (u : ST) (hok : okX5_put a1 a2 u) : MX (EM h) yX5_put wsX5_put rmX5_put [.ref (mO h), .int a1, .int a2] u (tW (fX5_put a1 a2 u)) := by
  obtain ⟨k0, -⟩ := hok
  refine MX.of (cc := cX5_put) (maxL := 4) (ret := (some .int)) (lv := [(0, .ref (mO h)), (1, .int a1), (2, .int a2)]) hE (by decide) rfl (fun _ => rfl) (Nat.le_of_ble_eq_true rfl) rfl (fun K hC => ?_)
  unfold fX5_put
  refine g_iload_n 0 hC dX5_put_0 1 rfl ?_
  refine g_iconst 1 hC (0 : Int32) dX5_put_1 (by decide) ?_
  refine g_sipush 2 hC (1023 : Int32) dX5_put_2 (by decide) ?_
  refine kX5_in 5 hC gX5_put_X5_in ⟨Nat.le_of_ble_eq_true rfl, Nat.le_of_ble_eq_true rfl⟩ dX5_put_5 (Nat.le_of_ble_eq_true rfl) ?_
  refine g_if_eqT (tW) 8 hC 22 dX5_put_8 (by decide) (fun h1 => ?_) (fun h1 => ?_)
  · skip
    refine g_iconst 22 hC (-1 : Int32) dX5_put_22 (by decide) ?_
    exact g_iretW 23 hC dX5_put_23
  · skip
    refine g_iload_n 11 hC dX5_put_11 2 rfl ?_
    refine g_iconst 12 hC (0 : Int32) dX5_put_12 (by decide) ?_
    refine g_sipush 13 hC (255 : Int32) dX5_put_13 (by decide) ?_
    refine kX5_in 16 hC gX5_put_X5_in ⟨Nat.le_of_ble_eq_true rfl, Nat.le_of_ble_eq_true rfl⟩ dX5_put_16 (Nat.le_of_ble_eq_true rfl) ?_
    refine g_if_neT (tW) 19 hC 24 dX5_put_19 (by decide) (fun h2 => ?_) (fun h2 => ?_)
    · skip
      refine g_aload_n 24 hC dX5_put_24 0 rfl ?_
      refine m_get_data 25 hC fiX5_put_wsX50 fmX5_put_13 dX5_put_25 ?_
      refine g_iload_n 28 hC dX5_put_28 1 rfl ?_
      refine m_ldD 29 hC (k0 h1 h2) dX5_put_29 ?_
      refine g_istore_n 30 hC dX5_put_30 (by decide) [(3, .int ((rD u a1))), (0, .ref (mO h)), (1, .int a1), (2, .int a2)] rfl ?_
      refine g_aload_n 31 hC dX5_put_31 1 rfl ?_
      refine m_get_data 32 hC fiX5_put_wsX50 fmX5_put_13 dX5_put_32 ?_
      refine g_iload_n 35 hC dX5_put_35 2 rfl ?_
      refine g_iload_n 36 hC dX5_put_36 3 rfl ?_
      refine m_stD 37 hC (k0 h1 h2) dX5_put_37 ?_
      refine g_iload_n 38 hC dX5_put_38 0 rfl ?_
      exact g_iretW 39 hC dX5_put_39
    · skip
      refine g_iconst 22 hC (-1 : Int32) dX5_put_22 (by decide) ?_
      exact g_iretW 23 hC dX5_put_23
theorem kX5_put {K : KT} {h : HM} {cc : ByteArray} {nL : Nat} {own : String} {Ts : List Cond} {rm : Room} {ret : Option FieldType} {T : ST × Option Value} {u : ST} {lv : List (Nat × Value)} {rest : List Value} {idx : Nat} {a1 : Int32} {a2 : Int32} (pc : Nat) (hC : Cx K (EM h) cc nL own Ts rm ret) (hok : okX5_put a1 a2 u) (hT : GoodIn Ts (wsV own idx RX5 yX5_put wsX5_put)) (hR : rmX5_put.frames + 1 ≤ rm.frames ∧ 8 + (4 + 11) + rmX5_put.locals ≤ rm.locals) (hdg : decode cc pc = .ok (.invokevirtual idx, 3)) (hcat : (rest.map fun v => v.category).sum ≤ 8) (kk : G K (EM h) nL T (fX5_put a1 a2 u).1 (pc + 3) lv (.int (fX5_put a1 a2 u).2 :: rest)) : G K (EM h) nL T u pc lv (.int a2 :: .int a1 :: .ref (mO h) :: rest) := g_callV (n := 2) pc hC (As := [.int a1, .int a2]) (rest := rest) (cX5_put_ _ (Cx.ok hC) a1 a2 u hok) hT rfl rfl rfl (by decide +kernel) hR 0 3 rfl rfl rfl rfl rfl hcat hdg kk

def fX5_data (a1 : Int32) (u : ST) : Int32 :=
  (if (fX5_in a1 (0 : Int32) (1023 : Int32)) = 0 then (-1 : Int32) else (rD u a1))
def okX5_data (a1 : Int32) (u : ST) : Prop := ((¬ (fX5_in a1 (0 : Int32) (1023 : Int32)) = 0) → vp_in a1 1024) ∧ True
theorem fiX5_data_wsX50 : ∀ w ∈ wsX50, w ∈ wsX5_data := fun w h => List.mem_cons_of_mem _ (List.mem_append_right _ h)
theorem fmX5_data_13 : Cond.fieldLink RX5 13 "FlagCoreModel" "data" "[I" ∈ wsX5_data := List.mem_of_getElem? (i := 1) rfl
abbrev rmX5_data : Room := { frames := 1, cells := 0, slots := 0, locals := 22 }
set_option maxRecDepth 20000 in
theorem cX5_data_ (h : HM) (hE : okE (EM h)) (a1 : Int32) (u : ST) (hok : okX5_data a1 u) : MX (EM h) yX5_data wsX5_data rmX5_data [.ref (mO h), .int a1] u (tR u (fX5_data a1 u)) := by
  obtain ⟨k0, -⟩ := hok
  refine MX.of (cc := cX5_data) (maxL := 2) (ret := (some .int)) (lv := [(0, .ref (mO h)), (1, .int a1)]) hE (by decide) rfl (fun _ => rfl) (Nat.le_of_ble_eq_true rfl) rfl (fun K hC => ?_)
  unfold fX5_data
  refine g_iload_n 0 hC dX5_data_0 1 rfl ?_
  refine g_iconst 1 hC (0 : Int32) dX5_data_1 (by decide) ?_
  refine g_sipush 2 hC (1023 : Int32) dX5_data_2 (by decide) ?_
  refine kX5_in 5 hC gX5_data_X5_in ⟨Nat.le_of_ble_eq_true rfl, Nat.le_of_ble_eq_true rfl⟩ dX5_data_5 (Nat.le_of_ble_eq_true rfl) ?_
  refine g_cut 21 (if (fX5_in a1 (0 : Int32) (1023 : Int32)) = 0 then (-1 : Int32) else (rD u a1)) [] ?_ (fun J2 => ?_)
  · skip
    exact g_iretR 21 hC dX5_data_21
  · skip
    refine g_if_eq 8 hC 20 dX5_data_8 (by decide) (fun h1 => ?_) (fun h1 => ?_)
    · skip
      refine g_iconst 20 hC (-1 : Int32) dX5_data_20 (by decide) ?_
      exact J2 _ (Eq.symm (if_pos h1))
    · skip
      refine g_aload_n 11 hC dX5_data_11 0 rfl ?_
      refine m_get_data 12 hC fiX5_data_wsX50 fmX5_data_13 dX5_data_12 ?_
      refine g_iload_n 15 hC dX5_data_15 1 rfl ?_
      refine m_ldD 16 hC (k0 h1) dX5_data_16 ?_
      refine g_goto 17 hC 21 dX5_data_17 (by decide) ?_
      exact J2 _ (Eq.symm (if_neg h1))
theorem kX5_data {K : KT} {h : HM} {cc : ByteArray} {nL : Nat} {own : String} {Ts : List Cond} {rm : Room} {ret : Option FieldType} {T : ST × Option Value} {u : ST} {lv : List (Nat × Value)} {rest : List Value} {idx : Nat} {a1 : Int32} (pc : Nat) (hC : Cx K (EM h) cc nL own Ts rm ret) (hok : okX5_data a1 u) (hT : GoodIn Ts (wsV own idx RX5 yX5_data wsX5_data)) (hR : rmX5_data.frames + 1 ≤ rm.frames ∧ 8 + (2 + 11) + rmX5_data.locals ≤ rm.locals) (hdg : decode cc pc = .ok (.invokevirtual idx, 3)) (hcat : (rest.map fun v => v.category).sum ≤ 8) (kk : G K (EM h) nL T u (pc + 3) lv (.int (fX5_data a1 u) :: rest)) : G K (EM h) nL T u pc lv (.int a1 :: .ref (mO h) :: rest) := g_callV (n := 1) pc hC (As := [.int a1]) (rest := rest) (cX5_data_ _ (Cx.ok hC) a1 u hok) hT rfl rfl rfl (by decide +kernel) hR 0 3 rfl rfl rfl rfl rfl hcat hdg kk

def fX5_pair (a1 : Int32) (u : ST) : Int32 :=
  ((rD u a1) ||| (jshl (rD u (a1 + (1 : Int32))) (8 : Int32)))
def okX5_pair (a1 : Int32) (u : ST) : Prop := (vp_in a1 1024) ∧ (vp_in (a1 + (1 : Int32)) 1024) ∧ True
theorem fiX5_pair_wsX50 : ∀ w ∈ wsX50, w ∈ wsX5_pair := fun w h => List.mem_cons_of_mem _ (List.mem_append_right _ h)
theorem fmX5_pair_13 : Cond.fieldLink RX5 13 "FlagCoreModel" "data" "[I" ∈ wsX5_pair := List.mem_of_getElem? (i := 1) rfl
abbrev rmX5_pair : Room := { frames := 0, cells := 0, slots := 0, locals := 0 }
set_option maxRecDepth 20000 in
theorem cX5_pair_ (h : HM) (hE : okE (EM h)) (a1 : Int32) (u : ST) (hok : okX5_pair a1 u) : MX (EM h) yX5_pair wsX5_pair rmX5_pair [.ref (mO h), .int a1] u (tR u (fX5_pair a1 u)) := by
  obtain ⟨k0, k1, -⟩ := hok
  refine MX.of (cc := cX5_pair) (maxL := 2) (ret := (some .int)) (lv := [(0, .ref (mO h)), (1, .int a1)]) hE (by decide) rfl (fun _ => rfl) (Nat.le_of_ble_eq_true rfl) rfl (fun K hC => ?_)
  unfold fX5_pair
  refine g_aload_n 0 hC dX5_pair_0 0 rfl ?_
  refine m_get_data 1 hC fiX5_pair_wsX50 fmX5_pair_13 dX5_pair_1 ?_
  refine g_iload_n 4 hC dX5_pair_4 1 rfl ?_
  refine m_ldD 5 hC k0 dX5_pair_5 ?_
  refine g_aload_n 6 hC dX5_pair_6 0 rfl ?_
  refine m_get_data 7 hC fiX5_pair_wsX50 fmX5_pair_13 dX5_pair_7 ?_
  refine g_iload_n 10 hC dX5_pair_10 1 rfl ?_
  refine g_iconst 11 hC (1 : Int32) dX5_pair_11 (by decide) ?_
  refine g_iadd 12 hC dX5_pair_12 ?_
  refine m_ldD 13 hC k1 dX5_pair_13 ?_
  refine g_bipush 14 hC (8 : Int32) dX5_pair_14 (by decide) ?_
  refine g_ishl 16 hC dX5_pair_16 ?_
  refine g_ior 17 hC dX5_pair_17 ?_
  exact g_iretR 18 hC dX5_pair_18
theorem kX5_pair {K : KT} {h : HM} {cc : ByteArray} {nL : Nat} {own : String} {Ts : List Cond} {rm : Room} {ret : Option FieldType} {T : ST × Option Value} {u : ST} {lv : List (Nat × Value)} {rest : List Value} {idx : Nat} {a1 : Int32} (pc : Nat) (hC : Cx K (EM h) cc nL own Ts rm ret) (hok : okX5_pair a1 u) (hT : GoodIn Ts (wsV own idx RX5 yX5_pair wsX5_pair)) (hR : rmX5_pair.frames + 1 ≤ rm.frames ∧ 8 + (2 + 11) + rmX5_pair.locals ≤ rm.locals) (hdg : decode cc pc = .ok (.invokevirtual idx, 3)) (hcat : (rest.map fun v => v.category).sum ≤ 8) (kk : G K (EM h) nL T u (pc + 3) lv (.int (fX5_pair a1 u) :: rest)) : G K (EM h) nL T u pc lv (.int a1 :: .ref (mO h) :: rest) := g_callV (n := 1) pc hC (As := [.int a1]) (rest := rest) (cX5_pair_ _ (Cx.ok hC) a1 u hok) hT rfl rfl rfl (by decide +kernel) hR 0 3 rfl rfl rfl rfl rfl hcat hdg kk

def fX5_setPair (a1 : Int32) (a2 : Int32) (u : ST) : ST :=
  (wD (wD u a1 (a2 &&& (255 : Int32))) (a1 + (1 : Int32)) ((jshr a2 (8 : Int32)) &&& (255 : Int32)))
def okX5_setPair (a1 : Int32) (a2 : Int32) (u : ST) : Prop := (vp_in a1 1024) ∧ (vp_in (a1 + (1 : Int32)) 1024) ∧ True
theorem fiX5_setPair_wsX50 : ∀ w ∈ wsX50, w ∈ wsX5_setPair := fun w h => List.mem_cons_of_mem _ (List.mem_append_right _ h)
theorem fmX5_setPair_13 : Cond.fieldLink RX5 13 "FlagCoreModel" "data" "[I" ∈ wsX5_setPair := List.mem_of_getElem? (i := 1) rfl
abbrev rmX5_setPair : Room := { frames := 0, cells := 0, slots := 0, locals := 0 }
set_option maxRecDepth 20000 in
theorem cX5_setPair_ (h : HM) (hE : okE (EM h)) (a1 : Int32) (a2 : Int32) (u : ST) (hok : okX5_setPair a1 a2 u) : MX (EM h) yX5_setPair wsX5_setPair rmX5_setPair [.ref (mO h), .int a1, .int a2] u (tS (fX5_setPair a1 a2 u)) := by
  obtain ⟨k0, k1, -⟩ := hok
  refine MX.of (cc := cX5_setPair) (maxL := 3) (ret := none) (lv := [(0, .ref (mO h)), (1, .int a1), (2, .int a2)]) hE (by decide) rfl (fun _ => rfl) (Nat.le_of_ble_eq_true rfl) rfl (fun K hC => ?_)
  unfold fX5_setPair
  refine g_aload_n 0 hC dX5_setPair_0 0 rfl ?_
  refine m_get_data 1 hC fiX5_setPair_wsX50 fmX5_setPair_13 dX5_setPair_1 ?_
  refine g_iload_n 4 hC dX5_setPair_4 1 rfl ?_
  refine g_iload_n 5 hC dX5_setPair_5 2 rfl ?_
  refine g_sipush 6 hC (255 : Int32) dX5_setPair_6 (by decide) ?_
  refine g_iand 9 hC dX5_setPair_9 ?_
  refine m_stD 10 hC k0 dX5_setPair_10 ?_
  refine g_aload_n 11 hC dX5_setPair_11 0 rfl ?_
  refine m_get_data 12 hC fiX5_setPair_wsX50 fmX5_setPair_13 dX5_setPair_12 ?_
  refine g_iload_n 15 hC dX5_setPair_15 1 rfl ?_
  refine g_iconst 16 hC (1 : Int32) dX5_setPair_16 (by decide) ?_
  refine g_iadd 17 hC dX5_setPair_17 ?_
  refine g_iload_n 18 hC dX5_setPair_18 2 rfl ?_
  refine g_bipush 19 hC (8 : Int32) dX5_setPair_19 (by decide) ?_
  refine g_ishr 21 hC dX5_setPair_21 ?_
  refine g_sipush 22 hC (255 : Int32) dX5_setPair_22 (by decide) ?_
  refine g_iand 25 hC dX5_setPair_25 ?_
  refine m_stD 26 hC k1 dX5_setPair_26 ?_
  exact g_vretS 27 hC dX5_setPair_27
theorem kX5_setPair {K : KT} {h : HM} {cc : ByteArray} {nL : Nat} {own : String} {Ts : List Cond} {rm : Room} {ret : Option FieldType} {T : ST × Option Value} {u : ST} {lv : List (Nat × Value)} {rest : List Value} {idx : Nat} {a1 : Int32} {a2 : Int32} (pc : Nat) (hC : Cx K (EM h) cc nL own Ts rm ret) (hok : okX5_setPair a1 a2 u) (hT : GoodIn Ts (wsV own idx RX5 yX5_setPair wsX5_setPair)) (hR : rmX5_setPair.frames + 1 ≤ rm.frames ∧ 8 + (3 + 11) + rmX5_setPair.locals ≤ rm.locals) (hdg : decode cc pc = .ok (.invokevirtual idx, 3)) (hcat : (rest.map fun v => v.category).sum ≤ 8) (kk : G K (EM h) nL T (fX5_setPair a1 a2 u) (pc + 3) lv (rest)) : G K (EM h) nL T u pc lv (.int a2 :: .int a1 :: .ref (mO h) :: rest) := g_callV (n := 2) pc hC (As := [.int a1, .int a2]) (rest := rest) (cX5_setPair_ _ (Cx.ok hC) a1 a2 u hok) hT rfl rfl rfl (by decide +kernel) hR 0 3 rfl rfl rfl rfl rfl hcat hdg kk

def fX5_told (a1 : Int32) (u : ST) : Int32 :=
  if a1 = (0 : Int32) then
    (gPc u)
  else
    if a1 = (1 : Int32) then
      (fX5_pair (93 : Int32) u)
    else
      if a1 = (2 : Int32) then
        (rD u (95 : Int32))
      else
        if a1 = (3 : Int32) then
          (fX5_pair (26 : Int32) u)
        else
          if a1 = (4 : Int32) then
            (fX5_pair (28 : Int32) u)
          else
            if a1 = (5 : Int32) then
              (fX5_pair (30 : Int32) u)
            else
              if a1 = (6 : Int32) then
                (if (gWa u) = 0 then (0 : Int32) else (1 : Int32))
              else
                if a1 = (7 : Int32) then
                  (gAs u)
                else
                  (-1 : Int32)
def okX5_told (a1 : Int32) (u : ST) : Prop := ((¬ a1 = (0 : Int32)) → (a1 = (1 : Int32)) → okX5_pair (93 : Int32) u) ∧ ((¬ a1 = (0 : Int32)) → (¬ a1 = (1 : Int32)) → (¬ a1 = (2 : Int32)) → (a1 = (3 : Int32)) → okX5_pair (26 : Int32) u) ∧ ((¬ a1 = (0 : Int32)) → (¬ a1 = (1 : Int32)) → (¬ a1 = (2 : Int32)) → (¬ a1 = (3 : Int32)) → (a1 = (4 : Int32)) → okX5_pair (28 : Int32) u) ∧ ((¬ a1 = (0 : Int32)) → (¬ a1 = (1 : Int32)) → (¬ a1 = (2 : Int32)) → (¬ a1 = (3 : Int32)) → (¬ a1 = (4 : Int32)) → (a1 = (5 : Int32)) → okX5_pair (30 : Int32) u) ∧ True
theorem fiX5_told_wsX50 : ∀ w ∈ wsX50, w ∈ wsX5_told := fun w h => List.mem_cons_of_mem _ (List.mem_append_right _ h)
theorem fmX5_told_19 : Cond.fieldLink RX5 19 "FlagCoreModel" "pc" "I" ∈ wsX5_told := List.mem_of_getElem? (i := 1) rfl
theorem fmX5_told_13 : Cond.fieldLink RX5 13 "FlagCoreModel" "data" "[I" ∈ wsX5_told := List.mem_of_getElem? (i := 2) rfl
theorem fmX5_told_32 : Cond.fieldLink RX5 32 "FlagCoreModel" "isWaited" "Z" ∈ wsX5_told := List.mem_of_getElem? (i := 3) rfl
theorem fmX5_told_36 : Cond.fieldLink RX5 36 "FlagCoreModel" "asked" "I" ∈ wsX5_told := List.mem_of_getElem? (i := 4) rfl
abbrev rmX5_told : Room := { frames := 1, cells := 0, slots := 0, locals := 21 }
set_option maxRecDepth 20000 in
theorem cX5_told_ (h : HM) (hE : okE (EM h)) (a1 : Int32) (u : ST) (hok : okX5_told a1 u) : MX (EM h) yX5_told wsX5_told rmX5_told [.ref (mO h), .int a1] u (tR u (fX5_told a1 u)) := by
  obtain ⟨k0, k1, k2, k3, -⟩ := hok
  refine MX.of (cc := cX5_told) (maxL := 2) (ret := (some .int)) (lv := [(0, .ref (mO h)), (1, .int a1)]) hE (by decide) rfl (fun _ => rfl) (Nat.le_of_ble_eq_true rfl) rfl (fun K hC => ?_)
  unfold fX5_told
  refine g_iload_n 0 hC dX5_told_0 1 rfl ?_
  refine g_byT (tR u) (fun h1 => ?_) (fun h1 => ?_)
  · refine g_tsIn 1 hC (0 : Int32) (47) 48 h1 dX5_told_1 (by decide) (by decide) (by decide) (by decide) ?_
    refine g_aload_n 48 hC dX5_told_48 0 rfl ?_
    refine m_get_pc 49 hC fiX5_told_wsX50 fmX5_told_19 dX5_told_49 ?_
    exact g_iretR 52 hC dX5_told_52
  · skip
    refine g_byT (tR u) (fun h2 => ?_) (fun h2 => ?_)
    · refine g_tsIn 1 hC (1 : Int32) (52) 53 h2 dX5_told_1 (by decide) (by decide) (by decide) (by decide) ?_
      refine g_aload_n 53 hC dX5_told_53 0 rfl ?_
      refine g_bipush 54 hC (93 : Int32) dX5_told_54 (by decide) ?_
      refine kX5_pair 56 hC (k0 h1 h2) gX5_told_X5_pair ⟨Nat.le_of_ble_eq_true rfl, Nat.le_of_ble_eq_true rfl⟩ dX5_told_56 (Nat.le_of_ble_eq_true rfl) ?_
      exact g_iretR 59 hC dX5_told_59
    · skip
      refine g_byT (tR u) (fun h3 => ?_) (fun h3 => ?_)
      · refine g_tsIn 1 hC (2 : Int32) (59) 60 h3 dX5_told_1 (by decide) (by decide) (by decide) (by decide) ?_
        refine g_aload_n 60 hC dX5_told_60 0 rfl ?_
        refine m_get_data 61 hC fiX5_told_wsX50 fmX5_told_13 dX5_told_61 ?_
        refine g_bipush 64 hC (95 : Int32) dX5_told_64 (by decide) ?_
        refine m_ldD 66 hC (vp_in_iff.mpr (by decide)) dX5_told_66 ?_
        exact g_iretR 67 hC dX5_told_67
      · skip
        refine g_byT (tR u) (fun h4 => ?_) (fun h4 => ?_)
        · refine g_tsIn 1 hC (3 : Int32) (67) 68 h4 dX5_told_1 (by decide) (by decide) (by decide) (by decide) ?_
          refine g_aload_n 68 hC dX5_told_68 0 rfl ?_
          refine g_bipush 69 hC (26 : Int32) dX5_told_69 (by decide) ?_
          refine kX5_pair 71 hC (k1 h1 h2 h3 h4) gX5_told_X5_pair ⟨Nat.le_of_ble_eq_true rfl, Nat.le_of_ble_eq_true rfl⟩ dX5_told_71 (Nat.le_of_ble_eq_true rfl) ?_
          exact g_iretR 74 hC dX5_told_74
        · skip
          refine g_byT (tR u) (fun h5 => ?_) (fun h5 => ?_)
          · refine g_tsIn 1 hC (4 : Int32) (74) 75 h5 dX5_told_1 (by decide) (by decide) (by decide) (by decide) ?_
            refine g_aload_n 75 hC dX5_told_75 0 rfl ?_
            refine g_bipush 76 hC (28 : Int32) dX5_told_76 (by decide) ?_
            refine kX5_pair 78 hC (k2 h1 h2 h3 h4 h5) gX5_told_X5_pair ⟨Nat.le_of_ble_eq_true rfl, Nat.le_of_ble_eq_true rfl⟩ dX5_told_78 (Nat.le_of_ble_eq_true rfl) ?_
            exact g_iretR 81 hC dX5_told_81
          · skip
            refine g_byT (tR u) (fun h6 => ?_) (fun h6 => ?_)
            · refine g_tsIn 1 hC (5 : Int32) (81) 82 h6 dX5_told_1 (by decide) (by decide) (by decide) (by decide) ?_
              refine g_aload_n 82 hC dX5_told_82 0 rfl ?_
              refine g_bipush 83 hC (30 : Int32) dX5_told_83 (by decide) ?_
              refine kX5_pair 85 hC (k3 h1 h2 h3 h4 h5 h6) gX5_told_X5_pair ⟨Nat.le_of_ble_eq_true rfl, Nat.le_of_ble_eq_true rfl⟩ dX5_told_85 (Nat.le_of_ble_eq_true rfl) ?_
              exact g_iretR 88 hC dX5_told_88
            · skip
              refine g_byT (tR u) (fun h7 => ?_) (fun h7 => ?_)
              · refine g_tsIn 1 hC (6 : Int32) (88) 89 h7 dX5_told_1 (by decide) (by decide) (by decide) (by decide) ?_
                refine g_aload_n 89 hC dX5_told_89 0 rfl ?_
                refine m_get_isWaited 90 hC fiX5_told_wsX50 fmX5_told_32 dX5_told_90 ?_
                refine g_cut 101 (if (gWa u) = 0 then (0 : Int32) else (1 : Int32)) [] ?_ (fun J9 => ?_)
                · skip
                  exact g_iretR 101 hC dX5_told_101
                · skip
                  refine g_if_eq 93 hC 100 dX5_told_93 (by decide) (fun h8 => ?_) (fun h8 => ?_)
                  · skip
                    refine g_iconst 100 hC (0 : Int32) dX5_told_100 (by decide) ?_
                    exact J9 _ (Eq.symm (if_pos h8))
                  · skip
                    refine g_iconst 96 hC (1 : Int32) dX5_told_96 (by decide) ?_
                    refine g_goto 97 hC 101 dX5_told_97 (by decide) ?_
                    exact J9 _ (Eq.symm (if_neg h8))
              · skip
                refine g_byT (tR u) (fun h10 => ?_) (fun h10 => ?_)
                · refine g_tsIn 1 hC (7 : Int32) (101) 102 h10 dX5_told_1 (by decide) (by decide) (by decide) (by decide) ?_
                  refine g_aload_n 102 hC dX5_told_102 0 rfl ?_
                  refine m_get_asked 103 hC fiX5_told_wsX50 fmX5_told_36 dX5_told_103 ?_
                  exact g_iretR 106 hC dX5_told_106
                · skip
                  refine g_tsOut 1 hC 107 dX5_told_1 (by have n0 := lv_neT h1 (a := 0) (by decide); have n1 := lv_neT h2 (a := 1) (by decide); have n2 := lv_neT h3 (a := 2) (by decide); have n3 := lv_neT h4 (a := 3) (by decide); have n4 := lv_neT h5 (a := 4) (by decide); have n5 := lv_neT h6 (a := 5) (by decide); have n6 := lv_neT h7 (a := 6) (by decide); have n7 := lv_neT h10 (a := 7) (by decide); omega) (by decide) ?_
                  refine g_iconst 107 hC (-1 : Int32) dX5_told_107 (by decide) ?_
                  exact g_iretR 108 hC dX5_told_108
theorem kX5_told {K : KT} {h : HM} {cc : ByteArray} {nL : Nat} {own : String} {Ts : List Cond} {rm : Room} {ret : Option FieldType} {T : ST × Option Value} {u : ST} {lv : List (Nat × Value)} {rest : List Value} {idx : Nat} {a1 : Int32} (pc : Nat) (hC : Cx K (EM h) cc nL own Ts rm ret) (hok : okX5_told a1 u) (hT : GoodIn Ts (wsV own idx RX5 yX5_told wsX5_told)) (hR : rmX5_told.frames + 1 ≤ rm.frames ∧ 8 + (2 + 11) + rmX5_told.locals ≤ rm.locals) (hdg : decode cc pc = .ok (.invokevirtual idx, 3)) (hcat : (rest.map fun v => v.category).sum ≤ 8) (kk : G K (EM h) nL T u (pc + 3) lv (.int (fX5_told a1 u) :: rest)) : G K (EM h) nL T u pc lv (.int a1 :: .ref (mO h) :: rest) := g_callV (n := 1) pc hC (As := [.int a1]) (rest := rest) (cX5_told_ _ (Cx.ok hC) a1 u hok) hT rfl rfl rfl (by decide +kernel) hR 0 3 rfl rfl rfl rfl rfl hcat hdg kk

def fX5_go (a1 : Int32) (u : ST) : ST × Int32 :=
  if (fX5_in a1 (0 : Int32) (1023 : Int32)) = 0 then
    (u, (-1 : Int32))
  else
    ((sPc u a1), (gPc u))
theorem fiX5_go_wsX50 : ∀ w ∈ wsX50, w ∈ wsX5_go := fun w h => List.mem_cons_of_mem _ (List.mem_append_right _ h)
theorem fmX5_go_19 : Cond.fieldLink RX5 19 "FlagCoreModel" "pc" "I" ∈ wsX5_go := List.mem_of_getElem? (i := 1) rfl
abbrev rmX5_go : Room := { frames := 1, cells := 0, slots := 0, locals := 22 }
set_option maxRecDepth 20000 in
theorem cX5_go_ (h : HM) (hE : okE (EM h)) (a1 : Int32) (u : ST) : MX (EM h) yX5_go wsX5_go rmX5_go [.ref (mO h), .int a1] u (tW (fX5_go a1 u)) := by
  refine MX.of (cc := cX5_go) (maxL := 3) (ret := (some .int)) (lv := [(0, .ref (mO h)), (1, .int a1)]) hE (by decide) rfl (fun _ => rfl) (Nat.le_of_ble_eq_true rfl) rfl (fun K hC => ?_)
  unfold fX5_go
  refine g_iload_n 0 hC dX5_go_0 1 rfl ?_
  refine g_iconst 1 hC (0 : Int32) dX5_go_1 (by decide) ?_
  refine g_sipush 2 hC (1023 : Int32) dX5_go_2 (by decide) ?_
  refine kX5_in 5 hC gX5_go_X5_in ⟨Nat.le_of_ble_eq_true rfl, Nat.le_of_ble_eq_true rfl⟩ dX5_go_5 (Nat.le_of_ble_eq_true rfl) ?_
  refine g_if_neT (tW) 8 hC 13 dX5_go_8 (by decide) (fun h1 => ?_) (fun h1 => ?_)
  · skip
    refine g_aload_n 13 hC dX5_go_13 0 rfl ?_
    refine m_get_pc 14 hC fiX5_go_wsX50 fmX5_go_19 dX5_go_14 ?_
    refine g_istore_n 17 hC dX5_go_17 (by decide) [(2, .int ((gPc u))), (0, .ref (mO h)), (1, .int a1)] rfl ?_
    refine g_aload_n 18 hC dX5_go_18 1 rfl ?_
    refine g_iload_n 19 hC dX5_go_19 2 rfl ?_
    refine m_put_pc 20 hC fiX5_go_wsX50 fmX5_go_19 dX5_go_20 ?_
    refine g_iload_n 23 hC dX5_go_23 0 rfl ?_
    exact g_iretW 24 hC dX5_go_24
  · skip
    refine g_iconst 11 hC (-1 : Int32) dX5_go_11 (by decide) ?_
    exact g_iretW 12 hC dX5_go_12
theorem kX5_go {K : KT} {h : HM} {cc : ByteArray} {nL : Nat} {own : String} {Ts : List Cond} {rm : Room} {ret : Option FieldType} {T : ST × Option Value} {u : ST} {lv : List (Nat × Value)} {rest : List Value} {idx : Nat} {a1 : Int32} (pc : Nat) (hC : Cx K (EM h) cc nL own Ts rm ret) (hT : GoodIn Ts (wsV own idx RX5 yX5_go wsX5_go)) (hR : rmX5_go.frames + 1 ≤ rm.frames ∧ 8 + (3 + 11) + rmX5_go.locals ≤ rm.locals) (hdg : decode cc pc = .ok (.invokevirtual idx, 3)) (hcat : (rest.map fun v => v.category).sum ≤ 8) (kk : G K (EM h) nL T (fX5_go a1 u).1 (pc + 3) lv (.int (fX5_go a1 u).2 :: rest)) : G K (EM h) nL T u pc lv (.int a1 :: .ref (mO h) :: rest) := g_callV (n := 1) pc hC (As := [.int a1]) (rest := rest) (cX5_go_ _ (Cx.ok hC) a1 u) hT rfl rfl rfl (by decide +kernel) hR 0 3 rfl rfl rfl rfl rfl hcat hdg kk

def fX5_ask (a1 : Int32) (u : ST) : ST × Int32 :=
  if (fX5_in a1 (1 : Int32) (25 : Int32)) = 0 then
    (u, (-1 : Int32))
  else
    ((sAs u ((gAs u) ||| (jshl (1 : Int32) a1))), (if ((jshr (gAs u) a1) &&& (1 : Int32)) = (1 : Int32) then (0 : Int32) else (1 : Int32)))
theorem fiX5_ask_wsX50 : ∀ w ∈ wsX50, w ∈ wsX5_ask := fun w h => List.mem_cons_of_mem _ (List.mem_append_right _ h)
theorem fmX5_ask_36 : Cond.fieldLink RX5 36 "FlagCoreModel" "asked" "I" ∈ wsX5_ask := List.mem_of_getElem? (i := 1) rfl
abbrev rmX5_ask : Room := { frames := 1, cells := 0, slots := 0, locals := 22 }
set_option maxRecDepth 20000 in
theorem cX5_ask_ (h : HM) (hE : okE (EM h)) (a1 : Int32) (u : ST) : MX (EM h) yX5_ask wsX5_ask rmX5_ask [.ref (mO h), .int a1] u (tW (fX5_ask a1 u)) := by
  refine MX.of (cc := cX5_ask) (maxL := 3) (ret := (some .int)) (lv := [(0, .ref (mO h)), (1, .int a1)]) hE (by decide) rfl (fun _ => rfl) (Nat.le_of_ble_eq_true rfl) rfl (fun K hC => ?_)
  unfold fX5_ask
  refine g_iload_n 0 hC dX5_ask_0 1 rfl ?_
  refine g_iconst 1 hC (1 : Int32) dX5_ask_1 (by decide) ?_
  refine g_bipush 2 hC (25 : Int32) dX5_ask_2 (by decide) ?_
  refine kX5_in 4 hC gX5_ask_X5_in ⟨Nat.le_of_ble_eq_true rfl, Nat.le_of_ble_eq_true rfl⟩ dX5_ask_4 (Nat.le_of_ble_eq_true rfl) ?_
  refine g_if_neT (tW) 7 hC 12 dX5_ask_7 (by decide) (fun h1 => ?_) (fun h1 => ?_)
  · skip
    refine g_aload_n 12 hC dX5_ask_12 0 rfl ?_
    refine m_get_asked 13 hC fiX5_ask_wsX50 fmX5_ask_36 dX5_ask_13 ?_
    refine g_iload_n 16 hC dX5_ask_16 1 rfl ?_
    refine g_ishr 17 hC dX5_ask_17 ?_
    refine g_iconst 18 hC (1 : Int32) dX5_ask_18 (by decide) ?_
    refine g_iand 19 hC dX5_ask_19 ?_
    refine g_iconst 20 hC (1 : Int32) dX5_ask_20 (by decide) ?_
    refine g_cut 29 (if ((jshr (gAs u) a1) &&& (1 : Int32)) = (1 : Int32) then (0 : Int32) else (1 : Int32)) [] ?_ (fun J3 => ?_)
    · skip
      refine g_istore_n 29 hC dX5_ask_29 (by decide) [(2, .int ((if ((jshr (gAs u) a1) &&& (1 : Int32)) = (1 : Int32) then (0 : Int32) else (1 : Int32)))), (0, .ref (mO h)), (1, .int a1)] rfl ?_
      refine g_aload_n 30 hC dX5_ask_30 1 rfl ?_
      refine g_dup 31 hC dX5_ask_31 rfl ?_
      refine m_get_asked 32 hC fiX5_ask_wsX50 fmX5_ask_36 dX5_ask_32 ?_
      refine g_iconst 35 hC (1 : Int32) dX5_ask_35 (by decide) ?_
      refine g_iload_n 36 hC dX5_ask_36 2 rfl ?_
      refine g_ishl 37 hC dX5_ask_37 ?_
      refine g_ior 38 hC dX5_ask_38 ?_
      refine m_put_asked 39 hC fiX5_ask_wsX50 fmX5_ask_36 dX5_ask_39 ?_
      refine g_iload_n 42 hC dX5_ask_42 0 rfl ?_
      exact g_iretW 43 hC dX5_ask_43
    · skip
      refine g_icmp_ne 21 hC 28 dX5_ask_21 (by decide) (fun h2 => ?_) (fun h2 => ?_)
      · skip
        refine g_iconst 28 hC (1 : Int32) dX5_ask_28 (by decide) ?_
        exact J3 _ (Eq.symm (if_neg h2))
      · skip
        refine g_iconst 24 hC (0 : Int32) dX5_ask_24 (by decide) ?_
        refine g_goto 25 hC 29 dX5_ask_25 (by decide) ?_
        exact J3 _ (Eq.symm (if_pos h2))
  · skip
    refine g_iconst 10 hC (-1 : Int32) dX5_ask_10 (by decide) ?_
    exact g_iretW 11 hC dX5_ask_11
theorem kX5_ask {K : KT} {h : HM} {cc : ByteArray} {nL : Nat} {own : String} {Ts : List Cond} {rm : Room} {ret : Option FieldType} {T : ST × Option Value} {u : ST} {lv : List (Nat × Value)} {rest : List Value} {idx : Nat} {a1 : Int32} (pc : Nat) (hC : Cx K (EM h) cc nL own Ts rm ret) (hT : GoodIn Ts (wsV own idx RX5 yX5_ask wsX5_ask)) (hR : rmX5_ask.frames + 1 ≤ rm.frames ∧ 8 + (3 + 11) + rmX5_ask.locals ≤ rm.locals) (hdg : decode cc pc = .ok (.invokevirtual idx, 3)) (hcat : (rest.map fun v => v.category).sum ≤ 8) (kk : G K (EM h) nL T (fX5_ask a1 u).1 (pc + 3) lv (.int (fX5_ask a1 u).2 :: rest)) : G K (EM h) nL T u pc lv (.int a1 :: .ref (mO h) :: rest) := g_callV (n := 1) pc hC (As := [.int a1]) (rest := rest) (cX5_ask_ _ (Cx.ok hC) a1 u) hT rfl rfl rfl (by decide +kernel) hR 0 3 rfl rfl rfl rfl rfl hcat hdg kk

def fX5_isMemory (a0 : Int32) : Int32 :=
  (if (a0 &&& (64512 : Int32)) = (36864 : Int32) then (1 : Int32) else (0 : Int32))
theorem boX5_isMemory (a0 : Int32) : isB (fX5_isMemory a0) := by
  unfold fX5_isMemory
  repeat' split
  all_goals first | exact nb0 | exact nb1
theorem cmX5_isMemory_39 : Jvm.Cond.constant RX5 39 (64512 : Int32) ∈ wsX5_isMemory := List.mem_of_getElem? (i := 1) rfl
theorem cmX5_isMemory_40 : Jvm.Cond.constant RX5 40 (36864 : Int32) ∈ wsX5_isMemory := List.mem_of_getElem? (i := 2) rfl
abbrev rmX5_isMemory : Room := { frames := 0, cells := 0, slots := 0, locals := 0 }
set_option maxRecDepth 20000 in
theorem cX5_isMemory_ (E : EV) (hE : okE E) (a0 : Int32) (u : ST) : MX E yX5_isMemory wsX5_isMemory rmX5_isMemory [.int a0] u (tR u (fX5_isMemory a0)) := by
  refine MX.of (cc := cX5_isMemory) (maxL := 1) (ret := (some .boolean)) (lv := [(0, .int a0)]) hE (by decide) rfl (fun _ => rfl) (Nat.le_of_ble_eq_true rfl) rfl (fun K hC => ?_)
  unfold fX5_isMemory
  refine g_iload_n 0 hC dX5_isMemory_0 0 rfl ?_
  refine g_ldc 1 hC (64512 : Int32) dX5_isMemory_1 cmX5_isMemory_39 ?_
  refine g_iand 3 hC dX5_isMemory_3 ?_
  refine g_ldc 4 hC (36864 : Int32) dX5_isMemory_4 cmX5_isMemory_40 ?_
  refine g_cut 14 (if (a0 &&& (64512 : Int32)) = (36864 : Int32) then (1 : Int32) else (0 : Int32)) [] ?_ (fun J2 => ?_)
  · skip
    exact g_zretR 14 hC (nbI nb1 nb0) dX5_isMemory_14
  · skip
    refine g_icmp_ne 6 hC 13 dX5_isMemory_6 (by decide) (fun h1 => ?_) (fun h1 => ?_)
    · skip
      refine g_iconst 13 hC (0 : Int32) dX5_isMemory_13 (by decide) ?_
      exact J2 _ (Eq.symm (if_neg h1))
    · skip
      refine g_iconst 9 hC (1 : Int32) dX5_isMemory_9 (by decide) ?_
      refine g_goto 10 hC 14 dX5_isMemory_10 (by decide) ?_
      exact J2 _ (Eq.symm (if_pos h1))
theorem kX5_isMemory {K : KT} {E : EV} {cc : ByteArray} {nL : Nat} {own : String} {Ts : List Cond} {rm : Room} {ret : Option FieldType} {T : ST × Option Value} {u : ST} {lv : List (Nat × Value)} {rest : List Value} {idx : Nat} {a0 : Int32} (pc : Nat) (hC : Cx K E cc nL own Ts rm ret) (hT : GoodIn Ts (va_wsS own idx yX5_isMemory wsX5_isMemory)) (hR : rmX5_isMemory.frames + 1 ≤ rm.frames ∧ 8 + (1 + 11) + rmX5_isMemory.locals ≤ rm.locals) (hdg : decode cc pc = .ok (.invokestatic idx, 3)) (hcat : (rest.map fun v => v.category).sum ≤ 8) (kk : G K E nL T u (pc + 3) lv (.int (fX5_isMemory a0) :: rest)) : G K E nL T u pc lv (.int a0 :: rest) := g_callS (n := 1) pc hC (As := [.int a0]) (rest := rest) (cX5_isMemory_ _ (Cx.ok hC) a0 u) hT rfl rfl rfl (by decide +kernel) hR rfl rfl hcat hdg kk

def fX5_isOne (a0 : Int32) : Int32 :=
  (if (a0 &&& (65024 : Int32)) = (37888 : Int32) then (1 : Int32) else (0 : Int32))
theorem boX5_isOne (a0 : Int32) : isB (fX5_isOne a0) := by
  unfold fX5_isOne
  repeat' split
  all_goals first | exact nb0 | exact nb1
theorem cmX5_isOne_41 : Jvm.Cond.constant RX5 41 (65024 : Int32) ∈ wsX5_isOne := List.mem_of_getElem? (i := 1) rfl
theorem cmX5_isOne_42 : Jvm.Cond.constant RX5 42 (37888 : Int32) ∈ wsX5_isOne := List.mem_of_getElem? (i := 2) rfl
abbrev rmX5_isOne : Room := { frames := 0, cells := 0, slots := 0, locals := 0 }
set_option maxRecDepth 20000 in
theorem cX5_isOne_ (E : EV) (hE : okE E) (a0 : Int32) (u : ST) : MX E yX5_isOne wsX5_isOne rmX5_isOne [.int a0] u (tR u (fX5_isOne a0)) := by
  refine MX.of (cc := cX5_isOne) (maxL := 1) (ret := (some .boolean)) (lv := [(0, .int a0)]) hE (by decide) rfl (fun _ => rfl) (Nat.le_of_ble_eq_true rfl) rfl (fun K hC => ?_)
  unfold fX5_isOne
  refine g_iload_n 0 hC dX5_isOne_0 0 rfl ?_
  refine g_ldc 1 hC (65024 : Int32) dX5_isOne_1 cmX5_isOne_41 ?_
  refine g_iand 3 hC dX5_isOne_3 ?_
  refine g_ldc 4 hC (37888 : Int32) dX5_isOne_4 cmX5_isOne_42 ?_
  refine g_cut 14 (if (a0 &&& (65024 : Int32)) = (37888 : Int32) then (1 : Int32) else (0 : Int32)) [] ?_ (fun J2 => ?_)
  · skip
    exact g_zretR 14 hC (nbI nb1 nb0) dX5_isOne_14
  · skip
    refine g_icmp_ne 6 hC 13 dX5_isOne_6 (by decide) (fun h1 => ?_) (fun h1 => ?_)
    · skip
      refine g_iconst 13 hC (0 : Int32) dX5_isOne_13 (by decide) ?_
      exact J2 _ (Eq.symm (if_neg h1))
    · skip
      refine g_iconst 9 hC (1 : Int32) dX5_isOne_9 (by decide) ?_
      refine g_goto 10 hC 14 dX5_isOne_10 (by decide) ?_
      exact J2 _ (Eq.symm (if_pos h1))
theorem kX5_isOne {K : KT} {E : EV} {cc : ByteArray} {nL : Nat} {own : String} {Ts : List Cond} {rm : Room} {ret : Option FieldType} {T : ST × Option Value} {u : ST} {lv : List (Nat × Value)} {rest : List Value} {idx : Nat} {a0 : Int32} (pc : Nat) (hC : Cx K E cc nL own Ts rm ret) (hT : GoodIn Ts (va_wsS own idx yX5_isOne wsX5_isOne)) (hR : rmX5_isOne.frames + 1 ≤ rm.frames ∧ 8 + (1 + 11) + rmX5_isOne.locals ≤ rm.locals) (hdg : decode cc pc = .ok (.invokestatic idx, 3)) (hcat : (rest.map fun v => v.category).sum ≤ 8) (kk : G K E nL T u (pc + 3) lv (.int (fX5_isOne a0) :: rest)) : G K E nL T u pc lv (.int a0 :: rest) := g_callS (n := 1) pc hC (As := [.int a0]) (rest := rest) (cX5_isOne_ _ (Cx.ok hC) a0 u) hT rfl rfl rfl (by decide +kernel) hR rfl rfl hcat hdg kk

def fX5_hasNext (a0 : Int32) : Int32 :=
  (if (fX5_isMemory a0) = 0 then (if (fX5_isOne a0) = 0 then (0 : Int32) else (if (a0 &&& (15 : Int32)) ≤ (11 : Int32) then (0 : Int32) else (1 : Int32))) else (if (a0 &&& (15 : Int32)) = 0 then (1 : Int32) else (if (fX5_isOne a0) = 0 then (0 : Int32) else (if (a0 &&& (15 : Int32)) ≤ (11 : Int32) then (0 : Int32) else (1 : Int32)))))
theorem boX5_hasNext (a0 : Int32) : isB (fX5_hasNext a0) := by
  unfold fX5_hasNext
  repeat' split
  all_goals first | exact nb0 | exact nb1 | exact boX5_isMemory _ | exact boX5_isOne _
abbrev rmX5_hasNext : Room := { frames := 1, cells := 0, slots := 0, locals := 20 }
set_option maxRecDepth 20000 in
theorem cX5_hasNext_ (E : EV) (hE : okE E) (a0 : Int32) (u : ST) : MX E yX5_hasNext wsX5_hasNext rmX5_hasNext [.int a0] u (tR u (fX5_hasNext a0)) := by
  refine MX.of (cc := cX5_hasNext) (maxL := 1) (ret := (some .boolean)) (lv := [(0, .int a0)]) hE (by decide) rfl (fun _ => rfl) (Nat.le_of_ble_eq_true rfl) rfl (fun K hC => ?_)
  unfold fX5_hasNext
  refine g_iload_n 0 hC dX5_hasNext_0 0 rfl ?_
  refine kX5_isMemory 1 hC gX5_hasNext_X5_isMemory ⟨Nat.le_of_ble_eq_true rfl, Nat.le_of_ble_eq_true rfl⟩ dX5_hasNext_1 (Nat.le_of_ble_eq_true rfl) ?_
  refine g_cut 35 (if (fX5_isMemory a0) = 0 then (if (fX5_isOne a0) = 0 then (0 : Int32) else (if (a0 &&& (15 : Int32)) ≤ (11 : Int32) then (0 : Int32) else (1 : Int32))) else (if (a0 &&& (15 : Int32)) = 0 then (1 : Int32) else (if (fX5_isOne a0) = 0 then (0 : Int32) else (if (a0 &&& (15 : Int32)) ≤ (11 : Int32) then (0 : Int32) else (1 : Int32))))) [] ?_ (fun J7 => ?_)
  · skip
    exact g_zretR 35 hC (nbI (nbI nb0 (nbI nb0 nb1)) (nbI nb1 (nbI nb0 (nbI nb0 nb1)))) dX5_hasNext_35
  · skip
    refine g_if_eq 4 hC 14 dX5_hasNext_4 (by decide) (fun h1 => ?_) (fun h1 => ?_)
    · skip
      refine g_iload_n 14 hC dX5_hasNext_14 0 rfl ?_
      refine kX5_isOne 15 hC gX5_hasNext_X5_isOne ⟨Nat.le_of_ble_eq_true rfl, Nat.le_of_ble_eq_true rfl⟩ dX5_hasNext_15 (Nat.le_of_ble_eq_true rfl) ?_
      refine g_if_eq 18 hC 34 dX5_hasNext_18 (by decide) (fun h2 => ?_) (fun h2 => ?_)
      · skip
        refine g_iconst 34 hC (0 : Int32) dX5_hasNext_34 (by decide) ?_
        exact J7 _ (Eq.symm (Eq.trans (if_pos h1) (if_pos h2)))
      · skip
        refine g_iload_n 21 hC dX5_hasNext_21 0 rfl ?_
        refine g_bipush 22 hC (15 : Int32) dX5_hasNext_22 (by decide) ?_
        refine g_iand 24 hC dX5_hasNext_24 ?_
        refine g_bipush 25 hC (11 : Int32) dX5_hasNext_25 (by decide) ?_
        refine g_icmp_le 27 hC 34 dX5_hasNext_27 (by decide) (fun h3 => ?_) (fun h3 => ?_)
        · skip
          refine g_iconst 34 hC (0 : Int32) dX5_hasNext_34 (by decide) ?_
          exact J7 _ (Eq.symm (Eq.trans (if_pos h1) (Eq.trans (if_neg h2) (if_pos h3))))
        · skip
          refine g_iconst 30 hC (1 : Int32) dX5_hasNext_30 (by decide) ?_
          refine g_goto 31 hC 35 dX5_hasNext_31 (by decide) ?_
          exact J7 _ (Eq.symm (Eq.trans (if_pos h1) (Eq.trans (if_neg h2) (if_neg h3))))
    · skip
      refine g_iload_n 7 hC dX5_hasNext_7 0 rfl ?_
      refine g_bipush 8 hC (15 : Int32) dX5_hasNext_8 (by decide) ?_
      refine g_iand 10 hC dX5_hasNext_10 ?_
      refine g_if_eq 11 hC 30 dX5_hasNext_11 (by decide) (fun h4 => ?_) (fun h4 => ?_)
      · skip
        refine g_iconst 30 hC (1 : Int32) dX5_hasNext_30 (by decide) ?_
        refine g_goto 31 hC 35 dX5_hasNext_31 (by decide) ?_
        exact J7 _ (Eq.symm (Eq.trans (if_neg h1) (if_pos h4)))
      · skip
        refine g_iload_n 14 hC dX5_hasNext_14 0 rfl ?_
        refine kX5_isOne 15 hC gX5_hasNext_X5_isOne ⟨Nat.le_of_ble_eq_true rfl, Nat.le_of_ble_eq_true rfl⟩ dX5_hasNext_15 (Nat.le_of_ble_eq_true rfl) ?_
        refine g_if_eq 18 hC 34 dX5_hasNext_18 (by decide) (fun h5 => ?_) (fun h5 => ?_)
        · skip
          refine g_iconst 34 hC (0 : Int32) dX5_hasNext_34 (by decide) ?_
          exact J7 _ (Eq.symm (Eq.trans (if_neg h1) (Eq.trans (if_neg h4) (if_pos h5))))
        · skip
          refine g_iload_n 21 hC dX5_hasNext_21 0 rfl ?_
          refine g_bipush 22 hC (15 : Int32) dX5_hasNext_22 (by decide) ?_
          refine g_iand 24 hC dX5_hasNext_24 ?_
          refine g_bipush 25 hC (11 : Int32) dX5_hasNext_25 (by decide) ?_
          refine g_icmp_le 27 hC 34 dX5_hasNext_27 (by decide) (fun h6 => ?_) (fun h6 => ?_)
          · skip
            refine g_iconst 34 hC (0 : Int32) dX5_hasNext_34 (by decide) ?_
            exact J7 _ (Eq.symm (Eq.trans (if_neg h1) (Eq.trans (if_neg h4) (Eq.trans (if_neg h5) (if_pos h6)))))
          · skip
            refine g_iconst 30 hC (1 : Int32) dX5_hasNext_30 (by decide) ?_
            refine g_goto 31 hC 35 dX5_hasNext_31 (by decide) ?_
            exact J7 _ (Eq.symm (Eq.trans (if_neg h1) (Eq.trans (if_neg h4) (Eq.trans (if_neg h5) (if_neg h6)))))
theorem kX5_hasNext {K : KT} {E : EV} {cc : ByteArray} {nL : Nat} {own : String} {Ts : List Cond} {rm : Room} {ret : Option FieldType} {T : ST × Option Value} {u : ST} {lv : List (Nat × Value)} {rest : List Value} {idx : Nat} {a0 : Int32} (pc : Nat) (hC : Cx K E cc nL own Ts rm ret) (hT : GoodIn Ts (va_wsS own idx yX5_hasNext wsX5_hasNext)) (hR : rmX5_hasNext.frames + 1 ≤ rm.frames ∧ 8 + (1 + 11) + rmX5_hasNext.locals ≤ rm.locals) (hdg : decode cc pc = .ok (.invokestatic idx, 3)) (hcat : (rest.map fun v => v.category).sum ≤ 8) (kk : G K E nL T u (pc + 3) lv (.int (fX5_hasNext a0) :: rest)) : G K E nL T u pc lv (.int a0 :: rest) := g_callS (n := 1) pc hC (As := [.int a0]) (rest := rest) (cX5_hasNext_ _ (Cx.ok hC) a0 u) hT rfl rfl rfl (by decide +kernel) hR rfl rfl hcat hdg kk

def fX5_dOf (a0 : Int32) : Int32 :=
  ((jshr a0 (4 : Int32)) &&& (31 : Int32))
abbrev rmX5_dOf : Room := { frames := 0, cells := 0, slots := 0, locals := 0 }
set_option maxRecDepth 20000 in
theorem cX5_dOf_ (E : EV) (hE : okE E) (a0 : Int32) (u : ST) : MX E yX5_dOf wsX5_dOf rmX5_dOf [.int a0] u (tR u (fX5_dOf a0)) := by
  refine MX.of (cc := cX5_dOf) (maxL := 1) (ret := (some .int)) (lv := [(0, .int a0)]) hE (by decide) rfl (fun _ => rfl) (Nat.le_of_ble_eq_true rfl) rfl (fun K hC => ?_)
  unfold fX5_dOf
  refine g_iload_n 0 hC dX5_dOf_0 0 rfl ?_
  refine g_iconst 1 hC (4 : Int32) dX5_dOf_1 (by decide) ?_
  refine g_ishr 2 hC dX5_dOf_2 ?_
  refine g_bipush 3 hC (31 : Int32) dX5_dOf_3 (by decide) ?_
  refine g_iand 5 hC dX5_dOf_5 ?_
  exact g_iretR 6 hC dX5_dOf_6
theorem kX5_dOf {K : KT} {E : EV} {cc : ByteArray} {nL : Nat} {own : String} {Ts : List Cond} {rm : Room} {ret : Option FieldType} {T : ST × Option Value} {u : ST} {lv : List (Nat × Value)} {rest : List Value} {idx : Nat} {a0 : Int32} (pc : Nat) (hC : Cx K E cc nL own Ts rm ret) (hT : GoodIn Ts (va_wsS own idx yX5_dOf wsX5_dOf)) (hR : rmX5_dOf.frames + 1 ≤ rm.frames ∧ 8 + (1 + 11) + rmX5_dOf.locals ≤ rm.locals) (hdg : decode cc pc = .ok (.invokestatic idx, 3)) (hcat : (rest.map fun v => v.category).sum ≤ 8) (kk : G K E nL T u (pc + 3) lv (.int (fX5_dOf a0) :: rest)) : G K E nL T u pc lv (.int a0 :: rest) := g_callS (n := 1) pc hC (As := [.int a0]) (rest := rest) (cX5_dOf_ _ (Cx.ok hC) a0 u) hT rfl rfl rfl (by decide +kernel) hR rfl rfl hcat hdg kk

def fX5_changes (a0 : Int32) : Int32 :=
  if (a0 &&& (15 : Int32)) = (1 : Int32) then
    (30 : Int32)
  else
    if (a0 &&& (15 : Int32)) = (2 : Int32) then
      (30 : Int32)
    else
      if (a0 &&& (15 : Int32)) = (3 : Int32) then
        (0 : Int32)
      else
        if (a0 &&& (15 : Int32)) = (4 : Int32) then
          (0 : Int32)
        else
          if (a0 &&& (15 : Int32)) = (5 : Int32) then
            (30 : Int32)
          else
            if (a0 &&& (15 : Int32)) = (6 : Int32) then
              (0 : Int32)
            else
              if (a0 &&& (15 : Int32)) = (7 : Int32) then
                (0 : Int32)
              else
                if (a0 &&& (15 : Int32)) = (8 : Int32) then
                  (0 : Int32)
                else
                  if (a0 &&& (15 : Int32)) = (9 : Int32) then
                    (28 : Int32)
                  else
                    if (a0 &&& (15 : Int32)) = (10 : Int32) then
                      (28 : Int32)
                    else
                      if (a0 &&& (15 : Int32)) = (11 : Int32) then
                        (0 : Int32)
                      else
                        if (a0 &&& (15 : Int32)) = (12 : Int32) then
                          (0 : Int32)
                        else
                          if (a0 &&& (15 : Int32)) = (13 : Int32) then
                            (26 : Int32)
                          else
                            if (a0 &&& (15 : Int32)) = (14 : Int32) then
                              (26 : Int32)
                            else
                              (0 : Int32)
abbrev rmX5_changes : Room := { frames := 0, cells := 0, slots := 0, locals := 0 }
set_option maxRecDepth 20000 in
theorem cX5_changes_ (E : EV) (hE : okE E) (a0 : Int32) (u : ST) : MX E yX5_changes wsX5_changes rmX5_changes [.int a0] u (tR u (fX5_changes a0)) := by
  refine MX.of (cc := cX5_changes) (maxL := 1) (ret := (some .int)) (lv := [(0, .int a0)]) hE (by decide) rfl (fun _ => rfl) (Nat.le_of_ble_eq_true rfl) rfl (fun K hC => ?_)
  unfold fX5_changes
  refine g_iload_n 0 hC dX5_changes_0 0 rfl ?_
  refine g_bipush 1 hC (15 : Int32) dX5_changes_1 (by decide) ?_
  refine g_iand 3 hC dX5_changes_3 ?_
  refine g_byT (tR u) (fun h1 => ?_) (fun h1 => ?_)
  · refine g_tsIn 4 hC (1 : Int32) (72) 76 h1 dX5_changes_4 (by decide) (by decide) (by decide) (by decide) ?_
    refine g_bipush 76 hC (30 : Int32) dX5_changes_76 (by decide) ?_
    exact g_iretR 78 hC dX5_changes_78
  · skip
    refine g_byT (tR u) (fun h2 => ?_) (fun h2 => ?_)
    · refine g_tsIn 4 hC (2 : Int32) (72) 76 h2 dX5_changes_4 (by decide) (by decide) (by decide) (by decide) ?_
      refine g_bipush 76 hC (30 : Int32) dX5_changes_76 (by decide) ?_
      exact g_iretR 78 hC dX5_changes_78
    · skip
      refine g_byT (tR u) (fun h3 => ?_) (fun h3 => ?_)
      · refine g_tsIn 4 hC (3 : Int32) (81) 85 h3 dX5_changes_4 (by decide) (by decide) (by decide) (by decide) ?_
        refine g_iconst 85 hC (0 : Int32) dX5_changes_85 (by decide) ?_
        exact g_iretR 86 hC dX5_changes_86
      · skip
        refine g_byT (tR u) (fun h4 => ?_) (fun h4 => ?_)
        · refine g_tsIn 4 hC (4 : Int32) (81) 85 h4 dX5_changes_4 (by decide) (by decide) (by decide) (by decide) ?_
          refine g_iconst 85 hC (0 : Int32) dX5_changes_85 (by decide) ?_
          exact g_iretR 86 hC dX5_changes_86
        · skip
          refine g_byT (tR u) (fun h5 => ?_) (fun h5 => ?_)
          · refine g_tsIn 4 hC (5 : Int32) (72) 76 h5 dX5_changes_4 (by decide) (by decide) (by decide) (by decide) ?_
            refine g_bipush 76 hC (30 : Int32) dX5_changes_76 (by decide) ?_
            exact g_iretR 78 hC dX5_changes_78
          · skip
            refine g_byT (tR u) (fun h6 => ?_) (fun h6 => ?_)
            · refine g_tsIn 4 hC (6 : Int32) (81) 85 h6 dX5_changes_4 (by decide) (by decide) (by decide) (by decide) ?_
              refine g_iconst 85 hC (0 : Int32) dX5_changes_85 (by decide) ?_
              exact g_iretR 86 hC dX5_changes_86
            · skip
              refine g_byT (tR u) (fun h7 => ?_) (fun h7 => ?_)
              · refine g_tsIn 4 hC (7 : Int32) (81) 85 h7 dX5_changes_4 (by decide) (by decide) (by decide) (by decide) ?_
                refine g_iconst 85 hC (0 : Int32) dX5_changes_85 (by decide) ?_
                exact g_iretR 86 hC dX5_changes_86
              · skip
                refine g_byT (tR u) (fun h8 => ?_) (fun h8 => ?_)
                · refine g_tsIn 4 hC (8 : Int32) (81) 85 h8 dX5_changes_4 (by decide) (by decide) (by decide) (by decide) ?_
                  refine g_iconst 85 hC (0 : Int32) dX5_changes_85 (by decide) ?_
                  exact g_iretR 86 hC dX5_changes_86
                · skip
                  refine g_byT (tR u) (fun h9 => ?_) (fun h9 => ?_)
                  · refine g_tsIn 4 hC (9 : Int32) (75) 79 h9 dX5_changes_4 (by decide) (by decide) (by decide) (by decide) ?_
                    refine g_bipush 79 hC (28 : Int32) dX5_changes_79 (by decide) ?_
                    exact g_iretR 81 hC dX5_changes_81
                  · skip
                    refine g_byT (tR u) (fun h10 => ?_) (fun h10 => ?_)
                    · refine g_tsIn 4 hC (10 : Int32) (75) 79 h10 dX5_changes_4 (by decide) (by decide) (by decide) (by decide) ?_
                      refine g_bipush 79 hC (28 : Int32) dX5_changes_79 (by decide) ?_
                      exact g_iretR 81 hC dX5_changes_81
                    · skip
                      refine g_byT (tR u) (fun h11 => ?_) (fun h11 => ?_)
                      · refine g_tsIn 4 hC (11 : Int32) (81) 85 h11 dX5_changes_4 (by decide) (by decide) (by decide) (by decide) ?_
                        refine g_iconst 85 hC (0 : Int32) dX5_changes_85 (by decide) ?_
                        exact g_iretR 86 hC dX5_changes_86
                      · skip
                        refine g_byT (tR u) (fun h12 => ?_) (fun h12 => ?_)
                        · refine g_tsIn 4 hC (12 : Int32) (81) 85 h12 dX5_changes_4 (by decide) (by decide) (by decide) (by decide) ?_
                          refine g_iconst 85 hC (0 : Int32) dX5_changes_85 (by decide) ?_
                          exact g_iretR 86 hC dX5_changes_86
                        · skip
                          refine g_byT (tR u) (fun h13 => ?_) (fun h13 => ?_)
                          · refine g_tsIn 4 hC (13 : Int32) (78) 82 h13 dX5_changes_4 (by decide) (by decide) (by decide) (by decide) ?_
                            refine g_bipush 82 hC (26 : Int32) dX5_changes_82 (by decide) ?_
                            exact g_iretR 84 hC dX5_changes_84
                          · skip
                            refine g_byT (tR u) (fun h14 => ?_) (fun h14 => ?_)
                            · refine g_tsIn 4 hC (14 : Int32) (78) 82 h14 dX5_changes_4 (by decide) (by decide) (by decide) (by decide) ?_
                              refine g_bipush 82 hC (26 : Int32) dX5_changes_82 (by decide) ?_
                              exact g_iretR 84 hC dX5_changes_84
                            · skip
                              refine g_tsOut 4 hC 85 dX5_changes_4 (by have n0 := lv_neT h1 (a := 1) (by decide); have n1 := lv_neT h2 (a := 2) (by decide); have n2 := lv_neT h3 (a := 3) (by decide); have n3 := lv_neT h4 (a := 4) (by decide); have n4 := lv_neT h5 (a := 5) (by decide); have n5 := lv_neT h6 (a := 6) (by decide); have n6 := lv_neT h7 (a := 7) (by decide); have n7 := lv_neT h8 (a := 8) (by decide); have n8 := lv_neT h9 (a := 9) (by decide); have n9 := lv_neT h10 (a := 10) (by decide); have n10 := lv_neT h11 (a := 11) (by decide); have n11 := lv_neT h12 (a := 12) (by decide); have n12 := lv_neT h13 (a := 13) (by decide); have n13 := lv_neT h14 (a := 14) (by decide); omega) (by decide) ?_
                              refine g_iconst 85 hC (0 : Int32) dX5_changes_85 (by decide) ?_
                              exact g_iretR 86 hC dX5_changes_86
theorem kX5_changes {K : KT} {E : EV} {cc : ByteArray} {nL : Nat} {own : String} {Ts : List Cond} {rm : Room} {ret : Option FieldType} {T : ST × Option Value} {u : ST} {lv : List (Nat × Value)} {rest : List Value} {idx : Nat} {a0 : Int32} (pc : Nat) (hC : Cx K E cc nL own Ts rm ret) (hT : GoodIn Ts (va_wsS own idx yX5_changes wsX5_changes)) (hR : rmX5_changes.frames + 1 ≤ rm.frames ∧ 8 + (1 + 11) + rmX5_changes.locals ≤ rm.locals) (hdg : decode cc pc = .ok (.invokestatic idx, 3)) (hcat : (rest.map fun v => v.category).sum ≤ 8) (kk : G K E nL T u (pc + 3) lv (.int (fX5_changes a0) :: rest)) : G K E nL T u pc lv (.int a0 :: rest) := g_callS (n := 1) pc hC (As := [.int a0]) (rest := rest) (cX5_changes_ _ (Cx.ok hC) a0 u) hT rfl rfl rfl (by decide +kernel) hR rfl rfl hcat hdg kk

def fX5_isBadMemory (a0 : Int32) : Int32 :=
  if (a0 &&& (15 : Int32)) = (3 : Int32) then
    (1 : Int32)
  else
    if (a0 &&& (15 : Int32)) = (6 : Int32) then
      (1 : Int32)
    else
      if (a0 &&& (15 : Int32)) = (7 : Int32) then
        (1 : Int32)
      else
        if (a0 &&& (15 : Int32)) = (8 : Int32) then
          (1 : Int32)
        else
          if (a0 &&& (15 : Int32)) = (11 : Int32) then
            (1 : Int32)
          else
            if (if (a0 &&& (512 : Int32)) = 0 then (0 : Int32) else (1 : Int32)) = 0 then
              (if (fX5_changes a0) ≤ 0 then (0 : Int32) else (if (fX5_dOf a0) = (fX5_changes a0) then (1 : Int32) else (if (fX5_dOf a0) = ((fX5_changes a0) + (1 : Int32)) then (1 : Int32) else (0 : Int32))))
            else
              if (a0 &&& (15 : Int32)) = (4 : Int32) then
                (1 : Int32)
              else
                if (a0 &&& (15 : Int32)) = (5 : Int32) then
                  (1 : Int32)
                else
                  (if (fX5_changes a0) ≤ 0 then (0 : Int32) else (if (fX5_dOf a0) = (fX5_changes a0) then (1 : Int32) else (if (fX5_dOf a0) = ((fX5_changes a0) + (1 : Int32)) then (1 : Int32) else (0 : Int32))))
theorem boX5_isBadMemory (a0 : Int32) : isB (fX5_isBadMemory a0) := by
  unfold fX5_isBadMemory
  repeat' split
  all_goals first | exact nb0 | exact nb1
abbrev rmX5_isBadMemory : Room := { frames := 1, cells := 0, slots := 0, locals := 20 }
set_option maxRecDepth 20000 in
theorem cX5_isBadMemory_ (E : EV) (hE : okE E) (a0 : Int32) (u : ST) : MX E yX5_isBadMemory wsX5_isBadMemory rmX5_isBadMemory [.int a0] u (tR u (fX5_isBadMemory a0)) := by
  refine MX.of (cc := cX5_isBadMemory) (maxL := 4) (ret := (some .boolean)) (lv := [(0, .int a0)]) hE (by decide) rfl (fun _ => rfl) (Nat.le_of_ble_eq_true rfl) rfl (fun K hC => ?_)
  unfold fX5_isBadMemory
  refine g_iload_n 0 hC dX5_isBadMemory_0 0 rfl ?_
  refine g_bipush 1 hC (15 : Int32) dX5_isBadMemory_1 (by decide) ?_
  refine g_iand 3 hC dX5_isBadMemory_3 ?_
  refine g_istore_n 4 hC dX5_isBadMemory_4 (by decide) [(1, .int ((a0 &&& (15 : Int32)))), (0, .int a0)] rfl ?_
  refine g_iload_n 5 hC dX5_isBadMemory_5 1 rfl ?_
  refine g_sipush 6 hC (512 : Int32) dX5_isBadMemory_6 (by decide) ?_
  refine g_iand 9 hC dX5_isBadMemory_9 ?_
  refine g_cut 18 (if (a0 &&& (512 : Int32)) = 0 then (0 : Int32) else (1 : Int32)) [] ?_ (fun J2 => ?_)
  · skip
    refine g_istore_n 18 hC dX5_isBadMemory_18 (by decide) [(2, .int ((if (a0 &&& (512 : Int32)) = 0 then (0 : Int32) else (1 : Int32)))), (1, .int ((a0 &&& (15 : Int32)))), (0, .int a0)] rfl ?_
    refine g_iload_n 19 hC dX5_isBadMemory_19 1 rfl ?_
    refine g_iconst 20 hC (3 : Int32) dX5_isBadMemory_20 (by decide) ?_
    refine g_icmp_eqT (tR u) 21 hC 62 dX5_isBadMemory_21 (by decide) (fun h3 => ?_) (fun h3 => ?_)
    · skip
      refine g_iconst 62 hC (1 : Int32) dX5_isBadMemory_62 (by decide) ?_
      exact g_zretR 63 hC nb1 dX5_isBadMemory_63
    · skip
      refine g_iload_n 24 hC dX5_isBadMemory_24 1 rfl ?_
      refine g_bipush 25 hC (6 : Int32) dX5_isBadMemory_25 (by decide) ?_
      refine g_icmp_eqT (tR u) 27 hC 62 dX5_isBadMemory_27 (by decide) (fun h4 => ?_) (fun h4 => ?_)
      · skip
        refine g_iconst 62 hC (1 : Int32) dX5_isBadMemory_62 (by decide) ?_
        exact g_zretR 63 hC nb1 dX5_isBadMemory_63
      · skip
        refine g_iload_n 30 hC dX5_isBadMemory_30 1 rfl ?_
        refine g_bipush 31 hC (7 : Int32) dX5_isBadMemory_31 (by decide) ?_
        refine g_icmp_eqT (tR u) 33 hC 62 dX5_isBadMemory_33 (by decide) (fun h5 => ?_) (fun h5 => ?_)
        · skip
          refine g_iconst 62 hC (1 : Int32) dX5_isBadMemory_62 (by decide) ?_
          exact g_zretR 63 hC nb1 dX5_isBadMemory_63
        · skip
          refine g_iload_n 36 hC dX5_isBadMemory_36 1 rfl ?_
          refine g_bipush 37 hC (8 : Int32) dX5_isBadMemory_37 (by decide) ?_
          refine g_icmp_eqT (tR u) 39 hC 62 dX5_isBadMemory_39 (by decide) (fun h6 => ?_) (fun h6 => ?_)
          · skip
            refine g_iconst 62 hC (1 : Int32) dX5_isBadMemory_62 (by decide) ?_
            exact g_zretR 63 hC nb1 dX5_isBadMemory_63
          · skip
            refine g_iload_n 42 hC dX5_isBadMemory_42 1 rfl ?_
            refine g_bipush 43 hC (11 : Int32) dX5_isBadMemory_43 (by decide) ?_
            refine g_icmp_eqT (tR u) 45 hC 62 dX5_isBadMemory_45 (by decide) (fun h7 => ?_) (fun h7 => ?_)
            · skip
              refine g_iconst 62 hC (1 : Int32) dX5_isBadMemory_62 (by decide) ?_
              exact g_zretR 63 hC nb1 dX5_isBadMemory_63
            · skip
              refine g_iload_n 48 hC dX5_isBadMemory_48 0 rfl ?_
              refine g_if_eqT (tR u) 49 hC 64 dX5_isBadMemory_49 (by decide) (fun h8 => ?_) (fun h8 => ?_)
              · skip
                refine g_iload_n 64 hC dX5_isBadMemory_64 2 rfl ?_
                refine kX5_changes 65 hC gX5_isBadMemory_X5_changes ⟨Nat.le_of_ble_eq_true rfl, Nat.le_of_ble_eq_true rfl⟩ dX5_isBadMemory_65 (Nat.le_of_ble_eq_true rfl) ?_
                refine g_istore_n 68 hC dX5_isBadMemory_68 (by decide) [(3, .int ((fX5_changes a0))), (2, .int ((if (a0 &&& (512 : Int32)) = 0 then (0 : Int32) else (1 : Int32)))), (1, .int ((a0 &&& (15 : Int32)))), (0, .int a0)] rfl ?_
                refine g_iload_n 69 hC dX5_isBadMemory_69 0 rfl ?_
                refine g_cut 96 (if (fX5_changes a0) ≤ 0 then (0 : Int32) else (if (fX5_dOf a0) = (fX5_changes a0) then (1 : Int32) else (if (fX5_dOf a0) = ((fX5_changes a0) + (1 : Int32)) then (1 : Int32) else (0 : Int32)))) [] ?_ (fun J12 => ?_)
                · skip
                  exact g_zretR 96 hC (nbI nb0 (nbI nb1 (nbI nb1 nb0))) dX5_isBadMemory_96
                · skip
                  refine g_if_le 70 hC 95 dX5_isBadMemory_70 (by decide) (fun h9 => ?_) (fun h9 => ?_)
                  · skip
                    refine g_iconst 95 hC (0 : Int32) dX5_isBadMemory_95 (by decide) ?_
                    exact J12 _ (Eq.symm (if_pos h9))
                  · skip
                    refine g_iload_n 73 hC dX5_isBadMemory_73 3 rfl ?_
                    refine kX5_dOf 74 hC gX5_isBadMemory_X5_dOf ⟨Nat.le_of_ble_eq_true rfl, Nat.le_of_ble_eq_true rfl⟩ dX5_isBadMemory_74 (Nat.le_of_ble_eq_true rfl) ?_
                    refine g_iload_n 77 hC dX5_isBadMemory_77 0 rfl ?_
                    refine g_icmp_eq 78 hC 91 dX5_isBadMemory_78 (by decide) (fun h10 => ?_) (fun h10 => ?_)
                    · skip
                      refine g_iconst 91 hC (1 : Int32) dX5_isBadMemory_91 (by decide) ?_
                      refine g_goto 92 hC 96 dX5_isBadMemory_92 (by decide) ?_
                      exact J12 _ (Eq.symm (Eq.trans (if_neg h9) (if_pos h10)))
                    · skip
                      refine g_iload_n 81 hC dX5_isBadMemory_81 3 rfl ?_
                      refine kX5_dOf 82 hC gX5_isBadMemory_X5_dOf ⟨Nat.le_of_ble_eq_true rfl, Nat.le_of_ble_eq_true rfl⟩ dX5_isBadMemory_82 (Nat.le_of_ble_eq_true rfl) ?_
                      refine g_iload_n 85 hC dX5_isBadMemory_85 0 rfl ?_
                      refine g_iconst 86 hC (1 : Int32) dX5_isBadMemory_86 (by decide) ?_
                      refine g_iadd 87 hC dX5_isBadMemory_87 ?_
                      refine g_icmp_ne 88 hC 95 dX5_isBadMemory_88 (by decide) (fun h11 => ?_) (fun h11 => ?_)
                      · skip
                        refine g_iconst 95 hC (0 : Int32) dX5_isBadMemory_95 (by decide) ?_
                        exact J12 _ (Eq.symm (Eq.trans (if_neg h9) (Eq.trans (if_neg h10) (if_neg h11))))
                      · skip
                        refine g_iconst 91 hC (1 : Int32) dX5_isBadMemory_91 (by decide) ?_
                        refine g_goto 92 hC 96 dX5_isBadMemory_92 (by decide) ?_
                        exact J12 _ (Eq.symm (Eq.trans (if_neg h9) (Eq.trans (if_neg h10) (if_pos h11))))
              · skip
                refine g_iload_n 52 hC dX5_isBadMemory_52 1 rfl ?_
                refine g_iconst 53 hC (4 : Int32) dX5_isBadMemory_53 (by decide) ?_
                refine g_icmp_eqT (tR u) 54 hC 62 dX5_isBadMemory_54 (by decide) (fun h13 => ?_) (fun h13 => ?_)
                · skip
                  refine g_iconst 62 hC (1 : Int32) dX5_isBadMemory_62 (by decide) ?_
                  exact g_zretR 63 hC nb1 dX5_isBadMemory_63
                · skip
                  refine g_iload_n 57 hC dX5_isBadMemory_57 1 rfl ?_
                  refine g_iconst 58 hC (5 : Int32) dX5_isBadMemory_58 (by decide) ?_
                  refine g_icmp_neT (tR u) 59 hC 64 dX5_isBadMemory_59 (by decide) (fun h14 => ?_) (fun h14 => ?_)
                  · skip
                    refine g_iload_n 64 hC dX5_isBadMemory_64 2 rfl ?_
                    refine kX5_changes 65 hC gX5_isBadMemory_X5_changes ⟨Nat.le_of_ble_eq_true rfl, Nat.le_of_ble_eq_true rfl⟩ dX5_isBadMemory_65 (Nat.le_of_ble_eq_true rfl) ?_
                    refine g_istore_n 68 hC dX5_isBadMemory_68 (by decide) [(3, .int ((fX5_changes a0))), (2, .int ((if (a0 &&& (512 : Int32)) = 0 then (0 : Int32) else (1 : Int32)))), (1, .int ((a0 &&& (15 : Int32)))), (0, .int a0)] rfl ?_
                    refine g_iload_n 69 hC dX5_isBadMemory_69 0 rfl ?_
                    refine g_cut 96 (if (fX5_changes a0) ≤ 0 then (0 : Int32) else (if (fX5_dOf a0) = (fX5_changes a0) then (1 : Int32) else (if (fX5_dOf a0) = ((fX5_changes a0) + (1 : Int32)) then (1 : Int32) else (0 : Int32)))) [] ?_ (fun J18 => ?_)
                    · skip
                      exact g_zretR 96 hC (nbI nb0 (nbI nb1 (nbI nb1 nb0))) dX5_isBadMemory_96
                    · skip
                      refine g_if_le 70 hC 95 dX5_isBadMemory_70 (by decide) (fun h15 => ?_) (fun h15 => ?_)
                      · skip
                        refine g_iconst 95 hC (0 : Int32) dX5_isBadMemory_95 (by decide) ?_
                        exact J18 _ (Eq.symm (if_pos h15))
                      · skip
                        refine g_iload_n 73 hC dX5_isBadMemory_73 3 rfl ?_
                        refine kX5_dOf 74 hC gX5_isBadMemory_X5_dOf ⟨Nat.le_of_ble_eq_true rfl, Nat.le_of_ble_eq_true rfl⟩ dX5_isBadMemory_74 (Nat.le_of_ble_eq_true rfl) ?_
                        refine g_iload_n 77 hC dX5_isBadMemory_77 0 rfl ?_
                        refine g_icmp_eq 78 hC 91 dX5_isBadMemory_78 (by decide) (fun h16 => ?_) (fun h16 => ?_)
                        · skip
                          refine g_iconst 91 hC (1 : Int32) dX5_isBadMemory_91 (by decide) ?_
                          refine g_goto 92 hC 96 dX5_isBadMemory_92 (by decide) ?_
                          exact J18 _ (Eq.symm (Eq.trans (if_neg h15) (if_pos h16)))
                        · skip
                          refine g_iload_n 81 hC dX5_isBadMemory_81 3 rfl ?_
                          refine kX5_dOf 82 hC gX5_isBadMemory_X5_dOf ⟨Nat.le_of_ble_eq_true rfl, Nat.le_of_ble_eq_true rfl⟩ dX5_isBadMemory_82 (Nat.le_of_ble_eq_true rfl) ?_
                          refine g_iload_n 85 hC dX5_isBadMemory_85 0 rfl ?_
                          refine g_iconst 86 hC (1 : Int32) dX5_isBadMemory_86 (by decide) ?_
                          refine g_iadd 87 hC dX5_isBadMemory_87 ?_
                          refine g_icmp_ne 88 hC 95 dX5_isBadMemory_88 (by decide) (fun h17 => ?_) (fun h17 => ?_)
                          · skip
                            refine g_iconst 95 hC (0 : Int32) dX5_isBadMemory_95 (by decide) ?_
                            exact J18 _ (Eq.symm (Eq.trans (if_neg h15) (Eq.trans (if_neg h16) (if_neg h17))))
                          · skip
                            refine g_iconst 91 hC (1 : Int32) dX5_isBadMemory_91 (by decide) ?_
                            refine g_goto 92 hC 96 dX5_isBadMemory_92 (by decide) ?_
                            exact J18 _ (Eq.symm (Eq.trans (if_neg h15) (Eq.trans (if_neg h16) (if_pos h17))))
                  · skip
                    refine g_iconst 62 hC (1 : Int32) dX5_isBadMemory_62 (by decide) ?_
                    exact g_zretR 63 hC nb1 dX5_isBadMemory_63
  · skip
    refine g_if_eq 10 hC 17 dX5_isBadMemory_10 (by decide) (fun h1 => ?_) (fun h1 => ?_)
    · skip
      refine g_iconst 17 hC (0 : Int32) dX5_isBadMemory_17 (by decide) ?_
      exact J2 _ (Eq.symm (if_pos h1))
    · skip
      refine g_iconst 13 hC (1 : Int32) dX5_isBadMemory_13 (by decide) ?_
      refine g_goto 14 hC 18 dX5_isBadMemory_14 (by decide) ?_
      exact J2 _ (Eq.symm (if_neg h1))
theorem kX5_isBadMemory {K : KT} {E : EV} {cc : ByteArray} {nL : Nat} {own : String} {Ts : List Cond} {rm : Room} {ret : Option FieldType} {T : ST × Option Value} {u : ST} {lv : List (Nat × Value)} {rest : List Value} {idx : Nat} {a0 : Int32} (pc : Nat) (hC : Cx K E cc nL own Ts rm ret) (hT : GoodIn Ts (va_wsS own idx yX5_isBadMemory wsX5_isBadMemory)) (hR : rmX5_isBadMemory.frames + 1 ≤ rm.frames ∧ 8 + (4 + 11) + rmX5_isBadMemory.locals ≤ rm.locals) (hdg : decode cc pc = .ok (.invokestatic idx, 3)) (hcat : (rest.map fun v => v.category).sum ≤ 8) (kk : G K E nL T u (pc + 3) lv (.int (fX5_isBadMemory a0) :: rest)) : G K E nL T u pc lv (.int a0 :: rest) := g_callS (n := 1) pc hC (As := [.int a0]) (rest := rest) (cX5_isBadMemory_ _ (Cx.ok hC) a0 u) hT rfl rfl rfl (by decide +kernel) hR rfl rfl hcat hdg kk

def fX5_isBadOne (a0 : Int32) : Int32 :=
  if (a0 &&& (15 : Int32)) = (4 : Int32) then
    (1 : Int32)
  else
    if (a0 &&& (15 : Int32)) = (11 : Int32) then
      (1 : Int32)
    else
      if (a0 &&& (15 : Int32)) = (8 : Int32) then
        (if (a0 &&& (256 : Int32)) = 0 then (0 : Int32) else (if a0 = (38152 : Int32) then (0 : Int32) else (if a0 = (38168 : Int32) then (0 : Int32) else (if a0 = (38344 : Int32) then (0 : Int32) else (1 : Int32)))))
      else
        (if (a0 &&& (15 : Int32)) = (9 : Int32) then (if a0 = (37897 : Int32) then (0 : Int32) else (if a0 = (38153 : Int32) then (0 : Int32) else (1 : Int32))) else (0 : Int32))
theorem boX5_isBadOne (a0 : Int32) : isB (fX5_isBadOne a0) := by
  unfold fX5_isBadOne
  repeat' split
  all_goals first | exact nb0 | exact nb1
theorem cmX5_isBadOne_59 : Jvm.Cond.constant RX5 59 (37897 : Int32) ∈ wsX5_isBadOne := List.mem_of_getElem? (i := 4) rfl
theorem cmX5_isBadOne_60 : Jvm.Cond.constant RX5 60 (38153 : Int32) ∈ wsX5_isBadOne := List.mem_of_getElem? (i := 5) rfl
theorem cmX5_isBadOne_56 : Jvm.Cond.constant RX5 56 (38152 : Int32) ∈ wsX5_isBadOne := List.mem_of_getElem? (i := 1) rfl
theorem cmX5_isBadOne_57 : Jvm.Cond.constant RX5 57 (38168 : Int32) ∈ wsX5_isBadOne := List.mem_of_getElem? (i := 2) rfl
theorem cmX5_isBadOne_58 : Jvm.Cond.constant RX5 58 (38344 : Int32) ∈ wsX5_isBadOne := List.mem_of_getElem? (i := 3) rfl
abbrev rmX5_isBadOne : Room := { frames := 0, cells := 0, slots := 0, locals := 0 }
set_option maxRecDepth 20000 in
theorem cX5_isBadOne_ (E : EV) (hE : okE E) (a0 : Int32) (u : ST) : MX E yX5_isBadOne wsX5_isBadOne rmX5_isBadOne [.int a0] u (tR u (fX5_isBadOne a0)) := by
  refine MX.of (cc := cX5_isBadOne) (maxL := 2) (ret := (some .boolean)) (lv := [(0, .int a0)]) hE (by decide) rfl (fun _ => rfl) (Nat.le_of_ble_eq_true rfl) rfl (fun K hC => ?_)
  unfold fX5_isBadOne
  refine g_iload_n 0 hC dX5_isBadOne_0 0 rfl ?_
  refine g_bipush 1 hC (15 : Int32) dX5_isBadOne_1 (by decide) ?_
  refine g_iand 3 hC dX5_isBadOne_3 ?_
  refine g_istore_n 4 hC dX5_isBadOne_4 (by decide) [(1, .int ((a0 &&& (15 : Int32)))), (0, .int a0)] rfl ?_
  refine g_iload_n 5 hC dX5_isBadOne_5 0 rfl ?_
  refine g_iconst 6 hC (4 : Int32) dX5_isBadOne_6 (by decide) ?_
  refine g_icmp_eqT (tR u) 7 hC 16 dX5_isBadOne_7 (by decide) (fun h1 => ?_) (fun h1 => ?_)
  · skip
    refine g_iconst 16 hC (1 : Int32) dX5_isBadOne_16 (by decide) ?_
    exact g_zretR 17 hC nb1 dX5_isBadOne_17
  · skip
    refine g_iload_n 10 hC dX5_isBadOne_10 0 rfl ?_
    refine g_bipush 11 hC (11 : Int32) dX5_isBadOne_11 (by decide) ?_
    refine g_icmp_neT (tR u) 13 hC 18 dX5_isBadOne_13 (by decide) (fun h2 => ?_) (fun h2 => ?_)
    · skip
      refine g_iload_n 18 hC dX5_isBadOne_18 0 rfl ?_
      refine g_bipush 19 hC (8 : Int32) dX5_isBadOne_19 (by decide) ?_
      refine g_icmp_neT (tR u) 21 hC 56 dX5_isBadOne_21 (by decide) (fun h3 => ?_) (fun h3 => ?_)
      · skip
        refine g_iload_n 56 hC dX5_isBadOne_56 0 rfl ?_
        refine g_bipush 57 hC (9 : Int32) dX5_isBadOne_57 (by decide) ?_
        refine g_cut 79 (if (a0 &&& (15 : Int32)) = (9 : Int32) then (if a0 = (37897 : Int32) then (0 : Int32) else (if a0 = (38153 : Int32) then (0 : Int32) else (1 : Int32))) else (0 : Int32)) [] ?_ (fun J7 => ?_)
        · skip
          exact g_zretR 79 hC (nbI (nbI nb0 (nbI nb0 nb1)) nb0) dX5_isBadOne_79
        · skip
          refine g_icmp_ne 59 hC 78 dX5_isBadOne_59 (by decide) (fun h4 => ?_) (fun h4 => ?_)
          · skip
            refine g_iconst 78 hC (0 : Int32) dX5_isBadOne_78 (by decide) ?_
            exact J7 _ (Eq.symm (if_neg h4))
          · skip
            refine g_iload_n 62 hC dX5_isBadOne_62 1 rfl ?_
            refine g_ldc 63 hC (37897 : Int32) dX5_isBadOne_63 cmX5_isBadOne_59 ?_
            refine g_icmp_eq 65 hC 78 dX5_isBadOne_65 (by decide) (fun h5 => ?_) (fun h5 => ?_)
            · skip
              refine g_iconst 78 hC (0 : Int32) dX5_isBadOne_78 (by decide) ?_
              exact J7 _ (Eq.symm (Eq.trans (if_pos h4) (if_pos h5)))
            · skip
              refine g_iload_n 68 hC dX5_isBadOne_68 1 rfl ?_
              refine g_ldc 69 hC (38153 : Int32) dX5_isBadOne_69 cmX5_isBadOne_60 ?_
              refine g_icmp_eq 71 hC 78 dX5_isBadOne_71 (by decide) (fun h6 => ?_) (fun h6 => ?_)
              · skip
                refine g_iconst 78 hC (0 : Int32) dX5_isBadOne_78 (by decide) ?_
                exact J7 _ (Eq.symm (Eq.trans (if_pos h4) (Eq.trans (if_neg h5) (if_pos h6))))
              · skip
                refine g_iconst 74 hC (1 : Int32) dX5_isBadOne_74 (by decide) ?_
                refine g_goto 75 hC 79 dX5_isBadOne_75 (by decide) ?_
                exact J7 _ (Eq.symm (Eq.trans (if_pos h4) (Eq.trans (if_neg h5) (if_neg h6))))
      · skip
        refine g_iload_n 24 hC dX5_isBadOne_24 1 rfl ?_
        refine g_sipush 25 hC (256 : Int32) dX5_isBadOne_25 (by decide) ?_
        refine g_iand 28 hC dX5_isBadOne_28 ?_
        refine g_cut 55 (if (a0 &&& (256 : Int32)) = 0 then (0 : Int32) else (if a0 = (38152 : Int32) then (0 : Int32) else (if a0 = (38168 : Int32) then (0 : Int32) else (if a0 = (38344 : Int32) then (0 : Int32) else (1 : Int32))))) [] ?_ (fun J12 => ?_)
        · skip
          exact g_zretR 55 hC (nbI nb0 (nbI nb0 (nbI nb0 (nbI nb0 nb1)))) dX5_isBadOne_55
        · skip
          refine g_if_eq 29 hC 54 dX5_isBadOne_29 (by decide) (fun h8 => ?_) (fun h8 => ?_)
          · skip
            refine g_iconst 54 hC (0 : Int32) dX5_isBadOne_54 (by decide) ?_
            exact J12 _ (Eq.symm (if_pos h8))
          · skip
            refine g_iload_n 32 hC dX5_isBadOne_32 1 rfl ?_
            refine g_ldc 33 hC (38152 : Int32) dX5_isBadOne_33 cmX5_isBadOne_56 ?_
            refine g_icmp_eq 35 hC 54 dX5_isBadOne_35 (by decide) (fun h9 => ?_) (fun h9 => ?_)
            · skip
              refine g_iconst 54 hC (0 : Int32) dX5_isBadOne_54 (by decide) ?_
              exact J12 _ (Eq.symm (Eq.trans (if_neg h8) (if_pos h9)))
            · skip
              refine g_iload_n 38 hC dX5_isBadOne_38 1 rfl ?_
              refine g_ldc 39 hC (38168 : Int32) dX5_isBadOne_39 cmX5_isBadOne_57 ?_
              refine g_icmp_eq 41 hC 54 dX5_isBadOne_41 (by decide) (fun h10 => ?_) (fun h10 => ?_)
              · skip
                refine g_iconst 54 hC (0 : Int32) dX5_isBadOne_54 (by decide) ?_
                exact J12 _ (Eq.symm (Eq.trans (if_neg h8) (Eq.trans (if_neg h9) (if_pos h10))))
              · skip
                refine g_iload_n 44 hC dX5_isBadOne_44 1 rfl ?_
                refine g_ldc 45 hC (38344 : Int32) dX5_isBadOne_45 cmX5_isBadOne_58 ?_
                refine g_icmp_eq 47 hC 54 dX5_isBadOne_47 (by decide) (fun h11 => ?_) (fun h11 => ?_)
                · skip
                  refine g_iconst 54 hC (0 : Int32) dX5_isBadOne_54 (by decide) ?_
                  exact J12 _ (Eq.symm (Eq.trans (if_neg h8) (Eq.trans (if_neg h9) (Eq.trans (if_neg h10) (if_pos h11)))))
                · skip
                  refine g_iconst 50 hC (1 : Int32) dX5_isBadOne_50 (by decide) ?_
                  refine g_goto 51 hC 55 dX5_isBadOne_51 (by decide) ?_
                  exact J12 _ (Eq.symm (Eq.trans (if_neg h8) (Eq.trans (if_neg h9) (Eq.trans (if_neg h10) (if_neg h11)))))
    · skip
      refine g_iconst 16 hC (1 : Int32) dX5_isBadOne_16 (by decide) ?_
      exact g_zretR 17 hC nb1 dX5_isBadOne_17
theorem kX5_isBadOne {K : KT} {E : EV} {cc : ByteArray} {nL : Nat} {own : String} {Ts : List Cond} {rm : Room} {ret : Option FieldType} {T : ST × Option Value} {u : ST} {lv : List (Nat × Value)} {rest : List Value} {idx : Nat} {a0 : Int32} (pc : Nat) (hC : Cx K E cc nL own Ts rm ret) (hT : GoodIn Ts (va_wsS own idx yX5_isBadOne wsX5_isBadOne)) (hR : rmX5_isBadOne.frames + 1 ≤ rm.frames ∧ 8 + (2 + 11) + rmX5_isBadOne.locals ≤ rm.locals) (hdg : decode cc pc = .ok (.invokestatic idx, 3)) (hcat : (rest.map fun v => v.category).sum ≤ 8) (kk : G K E nL T u (pc + 3) lv (.int (fX5_isBadOne a0) :: rest)) : G K E nL T u pc lv (.int a0 :: rest) := g_callS (n := 1) pc hC (As := [.int a0]) (rest := rest) (cX5_isBadOne_ _ (Cx.ok hC) a0 u) hT rfl rfl rfl (by decide +kernel) hR rfl rfl hcat hdg kk

def fX5_isIllegal (a0 : Int32) : Int32 :=
  if (256 : Int32) ≤ a0 then
    if (fX5_isMemory a0) = 0 then
      if (fX5_isOne a0) = 0 then
        (if (a0 &&& (63496 : Int32)) = (63496 : Int32) then (1 : Int32) else (0 : Int32))
      else
        (fX5_isBadOne a0)
    else
      (fX5_isBadMemory a0)
  else
    (if a0 = 0 then (0 : Int32) else (1 : Int32))
theorem boX5_isIllegal (a0 : Int32) : isB (fX5_isIllegal a0) := by
  unfold fX5_isIllegal
  repeat' split
  all_goals first | exact nb0 | exact nb1 | exact boX5_isBadMemory _ | exact boX5_isBadOne _ | exact boX5_isMemory _ | exact boX5_isOne _
theorem cmX5_isIllegal_67 : Jvm.Cond.constant RX5 67 (63496 : Int32) ∈ wsX5_isIllegal := List.mem_of_getElem? (i := 1) rfl
abbrev rmX5_isIllegal : Room := { frames := 2, cells := 0, slots := 0, locals := 43 }
set_option maxRecDepth 20000 in
theorem cX5_isIllegal_ (E : EV) (hE : okE E) (a0 : Int32) (u : ST) : MX E yX5_isIllegal wsX5_isIllegal rmX5_isIllegal [.int a0] u (tR u (fX5_isIllegal a0)) := by
  refine MX.of (cc := cX5_isIllegal) (maxL := 1) (ret := (some .boolean)) (lv := [(0, .int a0)]) hE (by decide) rfl (fun _ => rfl) (Nat.le_of_ble_eq_true rfl) rfl (fun K hC => ?_)
  unfold fX5_isIllegal
  refine g_iload_n 0 hC dX5_isIllegal_0 0 rfl ?_
  refine g_sipush 1 hC (256 : Int32) dX5_isIllegal_1 (by decide) ?_
  refine g_icmp_geT (tR u) 4 hC 17 dX5_isIllegal_4 (by decide) (fun h1 => ?_) (fun h1 => ?_)
  · skip
    refine g_iload_n 17 hC dX5_isIllegal_17 0 rfl ?_
    refine kX5_isMemory 18 hC gX5_isIllegal_X5_isMemory ⟨Nat.le_of_ble_eq_true rfl, Nat.le_of_ble_eq_true rfl⟩ dX5_isIllegal_18 (Nat.le_of_ble_eq_true rfl) ?_
    refine g_if_eqT (tR u) 21 hC 29 dX5_isIllegal_21 (by decide) (fun h2 => ?_) (fun h2 => ?_)
    · skip
      refine g_iload_n 29 hC dX5_isIllegal_29 0 rfl ?_
      refine kX5_isOne 30 hC gX5_isIllegal_X5_isOne ⟨Nat.le_of_ble_eq_true rfl, Nat.le_of_ble_eq_true rfl⟩ dX5_isIllegal_30 (Nat.le_of_ble_eq_true rfl) ?_
      refine g_if_eqT (tR u) 33 hC 41 dX5_isIllegal_33 (by decide) (fun h3 => ?_) (fun h3 => ?_)
      · skip
        refine g_iload_n 41 hC dX5_isIllegal_41 0 rfl ?_
        refine g_ldc 42 hC (63496 : Int32) dX5_isIllegal_42 cmX5_isIllegal_67 ?_
        refine g_iand 44 hC dX5_isIllegal_44 ?_
        refine g_ldc 45 hC (63496 : Int32) dX5_isIllegal_45 cmX5_isIllegal_67 ?_
        refine g_cut 55 (if (a0 &&& (63496 : Int32)) = (63496 : Int32) then (1 : Int32) else (0 : Int32)) [] ?_ (fun J5 => ?_)
        · skip
          exact g_zretR 55 hC (nbI nb1 nb0) dX5_isIllegal_55
        · skip
          refine g_icmp_ne 47 hC 54 dX5_isIllegal_47 (by decide) (fun h4 => ?_) (fun h4 => ?_)
          · skip
            refine g_iconst 54 hC (0 : Int32) dX5_isIllegal_54 (by decide) ?_
            exact J5 _ (Eq.symm (if_neg h4))
          · skip
            refine g_iconst 50 hC (1 : Int32) dX5_isIllegal_50 (by decide) ?_
            refine g_goto 51 hC 55 dX5_isIllegal_51 (by decide) ?_
            exact J5 _ (Eq.symm (if_pos h4))
      · skip
        refine g_iload_n 36 hC dX5_isIllegal_36 0 rfl ?_
        refine kX5_isBadOne 37 hC gX5_isIllegal_X5_isBadOne ⟨Nat.le_of_ble_eq_true rfl, Nat.le_of_ble_eq_true rfl⟩ dX5_isIllegal_37 (Nat.le_of_ble_eq_true rfl) ?_
        exact g_zretR 40 hC (boX5_isBadOne _) dX5_isIllegal_40
    · skip
      refine g_iload_n 24 hC dX5_isIllegal_24 0 rfl ?_
      refine kX5_isBadMemory 25 hC gX5_isIllegal_X5_isBadMemory ⟨Nat.le_of_ble_eq_true rfl, Nat.le_of_ble_eq_true rfl⟩ dX5_isIllegal_25 (Nat.le_of_ble_eq_true rfl) ?_
      exact g_zretR 28 hC (boX5_isBadMemory _) dX5_isIllegal_28
  · skip
    refine g_iload_n 7 hC dX5_isIllegal_7 0 rfl ?_
    refine g_cut 16 (if a0 = 0 then (0 : Int32) else (1 : Int32)) [] ?_ (fun J7 => ?_)
    · skip
      exact g_zretR 16 hC (nbI nb0 nb1) dX5_isIllegal_16
    · skip
      refine g_if_eq 8 hC 15 dX5_isIllegal_8 (by decide) (fun h6 => ?_) (fun h6 => ?_)
      · skip
        refine g_iconst 15 hC (0 : Int32) dX5_isIllegal_15 (by decide) ?_
        exact J7 _ (Eq.symm (if_pos h6))
      · skip
        refine g_iconst 11 hC (1 : Int32) dX5_isIllegal_11 (by decide) ?_
        refine g_goto 12 hC 16 dX5_isIllegal_12 (by decide) ?_
        exact J7 _ (Eq.symm (if_neg h6))
theorem kX5_isIllegal {K : KT} {E : EV} {cc : ByteArray} {nL : Nat} {own : String} {Ts : List Cond} {rm : Room} {ret : Option FieldType} {T : ST × Option Value} {u : ST} {lv : List (Nat × Value)} {rest : List Value} {idx : Nat} {a0 : Int32} (pc : Nat) (hC : Cx K E cc nL own Ts rm ret) (hT : GoodIn Ts (va_wsS own idx yX5_isIllegal wsX5_isIllegal)) (hR : rmX5_isIllegal.frames + 1 ≤ rm.frames ∧ 8 + (1 + 11) + rmX5_isIllegal.locals ≤ rm.locals) (hdg : decode cc pc = .ok (.invokestatic idx, 3)) (hcat : (rest.map fun v => v.category).sum ≤ 8) (kk : G K E nL T u (pc + 3) lv (.int (fX5_isIllegal a0) :: rest)) : G K E nL T u pc lv (.int a0 :: rest) := g_callS (n := 1) pc hC (As := [.int a0]) (rest := rest) (cX5_isIllegal_ _ (Cx.ok hC) a0 u) hT rfl rfl rfl (by decide +kernel) hR rfl rfl hcat hdg kk

def fX5_reads (a1 : Int32) (a2 : Int32) (u : ST) : Int32 :=
  if (fX5_in a1 (0 : Int32) (65535 : Int32)) = 0 then
    (-1 : Int32)
  else
    if (fX5_in a2 (0 : Int32) (1 : Int32)) = 0 then
      (-1 : Int32)
    else
      (if a2 = 0 then (if (fX5_isIllegal a1) = 0 then (0 : Int32) else (1 : Int32)) else (if (fX5_hasNext a1) = 0 then (0 : Int32) else (1 : Int32)))
theorem cmX5_reads_27 : Jvm.Cond.constant RX5 27 (65535 : Int32) ∈ wsX5_reads := List.mem_of_getElem? (i := 1) rfl
abbrev rmX5_reads : Room := { frames := 3, cells := 0, slots := 0, locals := 63 }
set_option maxRecDepth 20000 in
theorem cX5_reads_ (h : HM) (hE : okE (EM h)) (a1 : Int32) (a2 : Int32) (u : ST) : MX (EM h) yX5_reads wsX5_reads rmX5_reads [.ref (mO h), .int a1, .int a2] u (tR u (fX5_reads a1 a2 u)) := by
  refine MX.of (cc := cX5_reads) (maxL := 3) (ret := (some .int)) (lv := [(0, .ref (mO h)), (1, .int a1), (2, .int a2)]) hE (by decide) rfl (fun _ => rfl) (Nat.le_of_ble_eq_true rfl) rfl (fun K hC => ?_)
  unfold fX5_reads
  refine g_iload_n 0 hC dX5_reads_0 1 rfl ?_
  refine g_iconst 1 hC (0 : Int32) dX5_reads_1 (by decide) ?_
  refine g_ldc 2 hC (65535 : Int32) dX5_reads_2 cmX5_reads_27 ?_
  refine kX5_in 4 hC gX5_reads_X5_in ⟨Nat.le_of_ble_eq_true rfl, Nat.le_of_ble_eq_true rfl⟩ dX5_reads_4 (Nat.le_of_ble_eq_true rfl) ?_
  refine g_if_eqT (tR u) 7 hC 19 dX5_reads_7 (by decide) (fun h1 => ?_) (fun h1 => ?_)
  · skip
    refine g_iconst 19 hC (-1 : Int32) dX5_reads_19 (by decide) ?_
    exact g_iretR 20 hC dX5_reads_20
  · skip
    refine g_iload_n 10 hC dX5_reads_10 2 rfl ?_
    refine g_iconst 11 hC (0 : Int32) dX5_reads_11 (by decide) ?_
    refine g_iconst 12 hC (1 : Int32) dX5_reads_12 (by decide) ?_
    refine kX5_in 13 hC gX5_reads_X5_in ⟨Nat.le_of_ble_eq_true rfl, Nat.le_of_ble_eq_true rfl⟩ dX5_reads_13 (Nat.le_of_ble_eq_true rfl) ?_
    refine g_if_neT (tR u) 16 hC 21 dX5_reads_16 (by decide) (fun h2 => ?_) (fun h2 => ?_)
    · skip
      refine g_iload_n 21 hC dX5_reads_21 2 rfl ?_
      refine g_cut 47 (if a2 = 0 then (if (fX5_isIllegal a1) = 0 then (0 : Int32) else (1 : Int32)) else (if (fX5_hasNext a1) = 0 then (0 : Int32) else (1 : Int32))) [] ?_ (fun J6 => ?_)
      · skip
        exact g_iretR 47 hC dX5_reads_47
      · skip
        refine g_if_ne 22 hC 35 dX5_reads_22 (by decide) (fun h3 => ?_) (fun h3 => ?_)
        · skip
          refine g_iload_n 35 hC dX5_reads_35 1 rfl ?_
          refine kX5_hasNext 36 hC gX5_reads_X5_hasNext ⟨Nat.le_of_ble_eq_true rfl, Nat.le_of_ble_eq_true rfl⟩ dX5_reads_36 (Nat.le_of_ble_eq_true rfl) ?_
          refine g_if_eq 39 hC 46 dX5_reads_39 (by decide) (fun h4 => ?_) (fun h4 => ?_)
          · skip
            refine g_iconst 46 hC (0 : Int32) dX5_reads_46 (by decide) ?_
            exact J6 _ (Eq.symm (Eq.trans (if_neg h3) (if_pos h4)))
          · skip
            refine g_iconst 42 hC (1 : Int32) dX5_reads_42 (by decide) ?_
            refine g_goto 43 hC 47 dX5_reads_43 (by decide) ?_
            exact J6 _ (Eq.symm (Eq.trans (if_neg h3) (if_neg h4)))
        · skip
          refine g_iload_n 25 hC dX5_reads_25 1 rfl ?_
          refine kX5_isIllegal 26 hC gX5_reads_X5_isIllegal ⟨Nat.le_of_ble_eq_true rfl, Nat.le_of_ble_eq_true rfl⟩ dX5_reads_26 (Nat.le_of_ble_eq_true rfl) ?_
          refine g_if_eq 29 hC 46 dX5_reads_29 (by decide) (fun h5 => ?_) (fun h5 => ?_)
          · skip
            refine g_iconst 46 hC (0 : Int32) dX5_reads_46 (by decide) ?_
            exact J6 _ (Eq.symm (Eq.trans (if_pos h3) (if_pos h5)))
          · skip
            refine g_goto 32 hC 42 dX5_reads_32 (by decide) ?_
            refine g_iconst 42 hC (1 : Int32) dX5_reads_42 (by decide) ?_
            refine g_goto 43 hC 47 dX5_reads_43 (by decide) ?_
            exact J6 _ (Eq.symm (Eq.trans (if_pos h3) (if_neg h5)))
    · skip
      refine g_iconst 19 hC (-1 : Int32) dX5_reads_19 (by decide) ?_
      exact g_iretR 20 hC dX5_reads_20
theorem kX5_reads {K : KT} {h : HM} {cc : ByteArray} {nL : Nat} {own : String} {Ts : List Cond} {rm : Room} {ret : Option FieldType} {T : ST × Option Value} {u : ST} {lv : List (Nat × Value)} {rest : List Value} {idx : Nat} {a1 : Int32} {a2 : Int32} (pc : Nat) (hC : Cx K (EM h) cc nL own Ts rm ret) (hT : GoodIn Ts (wsV own idx RX5 yX5_reads wsX5_reads)) (hR : rmX5_reads.frames + 1 ≤ rm.frames ∧ 8 + (3 + 11) + rmX5_reads.locals ≤ rm.locals) (hdg : decode cc pc = .ok (.invokevirtual idx, 3)) (hcat : (rest.map fun v => v.category).sum ≤ 8) (kk : G K (EM h) nL T u (pc + 3) lv (.int (fX5_reads a1 a2 u) :: rest)) : G K (EM h) nL T u pc lv (.int a2 :: .int a1 :: .ref (mO h) :: rest) := g_callV (n := 2) pc hC (As := [.int a1, .int a2]) (rest := rest) (cX5_reads_ _ (Cx.ok hC) a1 a2 u) hT rfl rfl rfl (by decide +kernel) hR 0 3 rfl rfl rfl rfl rfl hcat hdg kk

def fX5_has (a1 : Int32) (u : ST) : Int32 :=
  (if ((rD u (95 : Int32)) &&& a1) = 0 then (0 : Int32) else (1 : Int32))
theorem boX5_has (a1 : Int32) (u : ST) : isB (fX5_has a1 u) := by
  unfold fX5_has
  repeat' split
  all_goals first | exact nb0 | exact nb1
theorem fiX5_has_wsX50 : ∀ w ∈ wsX50, w ∈ wsX5_has := fun w h => List.mem_cons_of_mem _ (List.mem_append_right _ h)
theorem fmX5_has_13 : Cond.fieldLink RX5 13 "FlagCoreModel" "data" "[I" ∈ wsX5_has := List.mem_of_getElem? (i := 1) rfl
abbrev rmX5_has : Room := { frames := 0, cells := 0, slots := 0, locals := 0 }
set_option maxRecDepth 20000 in
theorem cX5_has_ (h : HM) (hE : okE (EM h)) (a1 : Int32) (u : ST) : MX (EM h) yX5_has wsX5_has rmX5_has [.ref (mO h), .int a1] u (tR u (fX5_has a1 u)) := by
  refine MX.of (cc := cX5_has) (maxL := 2) (ret := (some .boolean)) (lv := [(0, .ref (mO h)), (1, .int a1)]) hE (by decide) rfl (fun _ => rfl) (Nat.le_of_ble_eq_true rfl) rfl (fun K hC => ?_)
  unfold fX5_has
  refine g_aload_n 0 hC dX5_has_0 0 rfl ?_
  refine m_get_data 1 hC fiX5_has_wsX50 fmX5_has_13 dX5_has_1 ?_
  refine g_bipush 4 hC (95 : Int32) dX5_has_4 (by decide) ?_
  refine m_ldD 6 hC (vp_in_iff.mpr (by decide)) dX5_has_6 ?_
  refine g_iload_n 7 hC dX5_has_7 1 rfl ?_
  refine g_iand 8 hC dX5_has_8 ?_
  refine g_cut 17 (if ((rD u (95 : Int32)) &&& a1) = 0 then (0 : Int32) else (1 : Int32)) [] ?_ (fun J2 => ?_)
  · skip
    exact g_zretR 17 hC (nbI nb0 nb1) dX5_has_17
  · skip
    refine g_if_eq 9 hC 16 dX5_has_9 (by decide) (fun h1 => ?_) (fun h1 => ?_)
    · skip
      refine g_iconst 16 hC (0 : Int32) dX5_has_16 (by decide) ?_
      exact J2 _ (Eq.symm (if_pos h1))
    · skip
      refine g_iconst 12 hC (1 : Int32) dX5_has_12 (by decide) ?_
      refine g_goto 13 hC 17 dX5_has_13 (by decide) ?_
      exact J2 _ (Eq.symm (if_neg h1))
theorem kX5_has {K : KT} {h : HM} {cc : ByteArray} {nL : Nat} {own : String} {Ts : List Cond} {rm : Room} {ret : Option FieldType} {T : ST × Option Value} {u : ST} {lv : List (Nat × Value)} {rest : List Value} {idx : Nat} {a1 : Int32} (pc : Nat) (hC : Cx K (EM h) cc nL own Ts rm ret) (hT : GoodIn Ts (wsV own idx RX5 yX5_has wsX5_has)) (hR : rmX5_has.frames + 1 ≤ rm.frames ∧ 8 + (2 + 11) + rmX5_has.locals ≤ rm.locals) (hdg : decode cc pc = .ok (.invokevirtual idx, 3)) (hcat : (rest.map fun v => v.category).sum ≤ 8) (kk : G K (EM h) nL T u (pc + 3) lv (.int (fX5_has a1 u) :: rest)) : G K (EM h) nL T u pc lv (.int a1 :: .ref (mO h) :: rest) := g_callV (n := 1) pc hC (As := [.int a1]) (rest := rest) (cX5_has_ _ (Cx.ok hC) a1 u) hT rfl rfl rfl (by decide +kernel) hR 0 3 rfl rfl rfl rfl rfl hcat hdg kk

def fX5_flag (a1 : Int32) (a2 : Int32) (u : ST) : ST :=
  (wD u (95 : Int32) (if a2 = 0 then ((rD u (95 : Int32)) &&& (a1 ^^^ (-1 : Int32))) else ((rD u (95 : Int32)) ||| a1)))
theorem fiX5_flag_wsX50 : ∀ w ∈ wsX50, w ∈ wsX5_flag := fun w h => List.mem_cons_of_mem _ (List.mem_append_right _ h)
theorem fmX5_flag_13 : Cond.fieldLink RX5 13 "FlagCoreModel" "data" "[I" ∈ wsX5_flag := List.mem_of_getElem? (i := 1) rfl
abbrev rmX5_flag : Room := { frames := 0, cells := 0, slots := 0, locals := 0 }
set_option maxRecDepth 20000 in
theorem cX5_flag_ (h : HM) (hE : okE (EM h)) (a1 : Int32) (a2 : Int32) (u : ST) : MX (EM h) yX5_flag wsX5_flag rmX5_flag [.ref (mO h), .int a1, .int a2] u (tS (fX5_flag a1 a2 u)) := by
  refine MX.of (cc := cX5_flag) (maxL := 3) (ret := none) (lv := [(0, .ref (mO h)), (1, .int a1), (2, .int a2)]) hE (by decide) rfl (fun _ => rfl) (Nat.le_of_ble_eq_true rfl) rfl (fun K hC => ?_)
  unfold fX5_flag
  refine g_aload_n 0 hC dX5_flag_0 0 rfl ?_
  refine m_get_data 1 hC fiX5_flag_wsX50 fmX5_flag_13 dX5_flag_1 ?_
  refine g_bipush 4 hC (95 : Int32) dX5_flag_4 (by decide) ?_
  refine g_iload_n 6 hC dX5_flag_6 2 rfl ?_
  refine g_cut 33 (if a2 = 0 then ((rD u (95 : Int32)) &&& (a1 ^^^ (-1 : Int32))) else ((rD u (95 : Int32)) ||| a1)) [.int ((95 : Int32)), .ref (mD h)] ?_ (fun J2 => ?_)
  · skip
    refine m_stD 33 hC (vp_in_iff.mpr (by decide)) dX5_flag_33 ?_
    exact g_vretS 34 hC dX5_flag_34
  · skip
    refine g_if_eq 7 hC 22 dX5_flag_7 (by decide) (fun h1 => ?_) (fun h1 => ?_)
    · skip
      refine g_aload_n 22 hC dX5_flag_22 0 rfl ?_
      refine m_get_data 23 hC fiX5_flag_wsX50 fmX5_flag_13 dX5_flag_23 ?_
      refine g_bipush 26 hC (95 : Int32) dX5_flag_26 (by decide) ?_
      refine m_ldD 28 hC (vp_in_iff.mpr (by decide)) dX5_flag_28 ?_
      refine g_iload_n 29 hC dX5_flag_29 1 rfl ?_
      refine g_iconst 30 hC (-1 : Int32) dX5_flag_30 (by decide) ?_
      refine g_ixor 31 hC dX5_flag_31 ?_
      refine g_iand 32 hC dX5_flag_32 ?_
      exact J2 _ (Eq.symm (if_pos h1))
    · skip
      refine g_aload_n 10 hC dX5_flag_10 0 rfl ?_
      refine m_get_data 11 hC fiX5_flag_wsX50 fmX5_flag_13 dX5_flag_11 ?_
      refine g_bipush 14 hC (95 : Int32) dX5_flag_14 (by decide) ?_
      refine m_ldD 16 hC (vp_in_iff.mpr (by decide)) dX5_flag_16 ?_
      refine g_iload_n 17 hC dX5_flag_17 1 rfl ?_
      refine g_ior 18 hC dX5_flag_18 ?_
      refine g_goto 19 hC 33 dX5_flag_19 (by decide) ?_
      exact J2 _ (Eq.symm (if_neg h1))
theorem kX5_flag {K : KT} {h : HM} {cc : ByteArray} {nL : Nat} {own : String} {Ts : List Cond} {rm : Room} {ret : Option FieldType} {T : ST × Option Value} {u : ST} {lv : List (Nat × Value)} {rest : List Value} {idx : Nat} {a1 : Int32} {a2 : Int32} (pc : Nat) (hC : Cx K (EM h) cc nL own Ts rm ret) (hT : GoodIn Ts (wsV own idx RX5 yX5_flag wsX5_flag)) (hR : rmX5_flag.frames + 1 ≤ rm.frames ∧ 8 + (3 + 11) + rmX5_flag.locals ≤ rm.locals) (hdg : decode cc pc = .ok (.invokevirtual idx, 3)) (hcat : (rest.map fun v => v.category).sum ≤ 8) (kk : G K (EM h) nL T (fX5_flag a1 a2 u) (pc + 3) lv (rest)) : G K (EM h) nL T u pc lv (.int a2 :: .int a1 :: .ref (mO h) :: rest) := g_callV (n := 2) pc hC (As := [.int a1, .int a2]) (rest := rest) (cX5_flag_ _ (Cx.ok hC) a1 a2 u) hT rfl rfl rfl (by decide +kernel) hR 0 3 rfl rfl rfl rfl rfl hcat hdg kk

def fX5_signs (a1 : Int32) (a2 : Int32) (u : ST) : ST :=
  (fX5_flag (16 : Int32) (if (if a1 ≤ (127 : Int32) then (0 : Int32) else (1 : Int32)) = a2 then (0 : Int32) else (1 : Int32)) (fX5_flag (8 : Int32) a2 (fX5_flag (4 : Int32) (if a1 ≤ (127 : Int32) then (0 : Int32) else (1 : Int32)) (fX5_flag (2 : Int32) (if a1 = 0 then (1 : Int32) else (0 : Int32)) u))))
abbrev rmX5_signs : Room := { frames := 1, cells := 0, slots := 0, locals := 22 }
set_option maxRecDepth 20000 in
theorem cX5_signs_ (h : HM) (hE : okE (EM h)) (a1 : Int32) (a2 : Int32) (u : ST) : MX (EM h) yX5_signs wsX5_signs rmX5_signs [.ref (mO h), .int a1, .int a2] u (tS (fX5_signs a1 a2 u)) := by
  refine MX.of (cc := cX5_signs) (maxL := 3) (ret := none) (lv := [(0, .ref (mO h)), (1, .int a1), (2, .int a2)]) hE (by decide) rfl (fun _ => rfl) (Nat.le_of_ble_eq_true rfl) rfl (fun K hC => ?_)
  unfold fX5_signs
  refine g_aload_n 0 hC dX5_signs_0 0 rfl ?_
  refine g_iconst 1 hC (2 : Int32) dX5_signs_1 (by decide) ?_
  refine g_iload_n 2 hC dX5_signs_2 1 rfl ?_
  refine g_cut 11 (if a1 = 0 then (1 : Int32) else (0 : Int32)) [.int ((2 : Int32)), .ref (mO h)] ?_ (fun J2 => ?_)
  · skip
    refine kX5_flag 11 hC gX5_signs_X5_flag ⟨Nat.le_of_ble_eq_true rfl, Nat.le_of_ble_eq_true rfl⟩ dX5_signs_11 (Nat.le_of_ble_eq_true rfl) ?_
    refine g_aload_n 14 hC dX5_signs_14 0 rfl ?_
    refine g_iconst 15 hC (4 : Int32) dX5_signs_15 (by decide) ?_
    refine g_iload_n 16 hC dX5_signs_16 1 rfl ?_
    refine g_bipush 17 hC (127 : Int32) dX5_signs_17 (by decide) ?_
    refine g_cut 27 (if a1 ≤ (127 : Int32) then (0 : Int32) else (1 : Int32)) [.int ((4 : Int32)), .ref (mO h)] ?_ (fun J4 => ?_)
    · skip
      refine kX5_flag 27 hC gX5_signs_X5_flag ⟨Nat.le_of_ble_eq_true rfl, Nat.le_of_ble_eq_true rfl⟩ dX5_signs_27 (Nat.le_of_ble_eq_true rfl) ?_
      refine g_aload_n 30 hC dX5_signs_30 0 rfl ?_
      refine g_bipush 31 hC (8 : Int32) dX5_signs_31 (by decide) ?_
      refine g_iload_n 33 hC dX5_signs_33 2 rfl ?_
      refine kX5_flag 34 hC gX5_signs_X5_flag ⟨Nat.le_of_ble_eq_true rfl, Nat.le_of_ble_eq_true rfl⟩ dX5_signs_34 (Nat.le_of_ble_eq_true rfl) ?_
      refine g_aload_n 37 hC dX5_signs_37 0 rfl ?_
      refine g_bipush 38 hC (16 : Int32) dX5_signs_38 (by decide) ?_
      refine g_iload_n 40 hC dX5_signs_40 1 rfl ?_
      refine g_bipush 41 hC (127 : Int32) dX5_signs_41 (by decide) ?_
      refine g_cut 51 (if a1 ≤ (127 : Int32) then (0 : Int32) else (1 : Int32)) [.int ((16 : Int32)), .ref (mO h)] ?_ (fun J6 => ?_)
      · skip
        refine g_iload_n 51 hC dX5_signs_51 2 rfl ?_
        refine g_cut 60 (if (if a1 ≤ (127 : Int32) then (0 : Int32) else (1 : Int32)) = a2 then (0 : Int32) else (1 : Int32)) [.int ((16 : Int32)), .ref (mO h)] ?_ (fun J8 => ?_)
        · skip
          refine kX5_flag 60 hC gX5_signs_X5_flag ⟨Nat.le_of_ble_eq_true rfl, Nat.le_of_ble_eq_true rfl⟩ dX5_signs_60 (Nat.le_of_ble_eq_true rfl) ?_
          exact g_vretS 63 hC dX5_signs_63
        · skip
          refine g_icmp_eq 52 hC 59 dX5_signs_52 (by decide) (fun h7 => ?_) (fun h7 => ?_)
          · skip
            refine g_iconst 59 hC (0 : Int32) dX5_signs_59 (by decide) ?_
            exact J8 _ (Eq.symm (if_pos h7))
          · skip
            refine g_iconst 55 hC (1 : Int32) dX5_signs_55 (by decide) ?_
            refine g_goto 56 hC 60 dX5_signs_56 (by decide) ?_
            exact J8 _ (Eq.symm (if_neg h7))
      · skip
        refine g_icmp_le 43 hC 50 dX5_signs_43 (by decide) (fun h5 => ?_) (fun h5 => ?_)
        · skip
          refine g_iconst 50 hC (0 : Int32) dX5_signs_50 (by decide) ?_
          exact J6 _ (Eq.symm (if_pos h5))
        · skip
          refine g_iconst 46 hC (1 : Int32) dX5_signs_46 (by decide) ?_
          refine g_goto 47 hC 51 dX5_signs_47 (by decide) ?_
          exact J6 _ (Eq.symm (if_neg h5))
    · skip
      refine g_icmp_le 19 hC 26 dX5_signs_19 (by decide) (fun h3 => ?_) (fun h3 => ?_)
      · skip
        refine g_iconst 26 hC (0 : Int32) dX5_signs_26 (by decide) ?_
        exact J4 _ (Eq.symm (if_pos h3))
      · skip
        refine g_iconst 22 hC (1 : Int32) dX5_signs_22 (by decide) ?_
        refine g_goto 23 hC 27 dX5_signs_23 (by decide) ?_
        exact J4 _ (Eq.symm (if_neg h3))
  · skip
    refine g_if_ne 3 hC 10 dX5_signs_3 (by decide) (fun h1 => ?_) (fun h1 => ?_)
    · skip
      refine g_iconst 10 hC (0 : Int32) dX5_signs_10 (by decide) ?_
      exact J2 _ (Eq.symm (if_neg h1))
    · skip
      refine g_iconst 6 hC (1 : Int32) dX5_signs_6 (by decide) ?_
      refine g_goto 7 hC 11 dX5_signs_7 (by decide) ?_
      exact J2 _ (Eq.symm (if_pos h1))
theorem kX5_signs {K : KT} {h : HM} {cc : ByteArray} {nL : Nat} {own : String} {Ts : List Cond} {rm : Room} {ret : Option FieldType} {T : ST × Option Value} {u : ST} {lv : List (Nat × Value)} {rest : List Value} {idx : Nat} {a1 : Int32} {a2 : Int32} (pc : Nat) (hC : Cx K (EM h) cc nL own Ts rm ret) (hT : GoodIn Ts (wsV own idx RX5 yX5_signs wsX5_signs)) (hR : rmX5_signs.frames + 1 ≤ rm.frames ∧ 8 + (3 + 11) + rmX5_signs.locals ≤ rm.locals) (hdg : decode cc pc = .ok (.invokevirtual idx, 3)) (hcat : (rest.map fun v => v.category).sum ≤ 8) (kk : G K (EM h) nL T (fX5_signs a1 a2 u) (pc + 3) lv (rest)) : G K (EM h) nL T u pc lv (.int a2 :: .int a1 :: .ref (mO h) :: rest) := g_callV (n := 2) pc hC (As := [.int a1, .int a2]) (rest := rest) (cX5_signs_ _ (Cx.ok hC) a1 a2 u) hT rfl rfl rfl (by decide +kernel) hR 0 3 rfl rfl rfl rfl rfl hcat hdg kk

def fX5_add (a1 : Int32) (a2 : Int32) (a3 : Int32) (u : ST) : ST × Int32 :=
  ((fX5_signs (((a1 + a2) + a3) &&& (255 : Int32)) (if (if a1 ≤ (127 : Int32) then (0 : Int32) else (1 : Int32)) = (if a2 ≤ (127 : Int32) then (0 : Int32) else (1 : Int32)) then (if (if (((a1 + a2) + a3) &&& (255 : Int32)) ≤ (127 : Int32) then (0 : Int32) else (1 : Int32)) = (if a1 ≤ (127 : Int32) then (0 : Int32) else (1 : Int32)) then (0 : Int32) else (1 : Int32)) else (0 : Int32)) (fX5_flag (32 : Int32) (if (((a1 &&& (15 : Int32)) + (a2 &&& (15 : Int32))) + a3) ≤ (15 : Int32) then (0 : Int32) else (1 : Int32)) (fX5_flag (1 : Int32) (if ((a1 + a2) + a3) ≤ (255 : Int32) then (0 : Int32) else (1 : Int32)) u))), (((a1 + a2) + a3) &&& (255 : Int32)))
abbrev rmX5_add : Room := { frames := 2, cells := 0, slots := 0, locals := 44 }
set_option maxRecDepth 20000 in
theorem cX5_add_ (h : HM) (hE : okE (EM h)) (a1 : Int32) (a2 : Int32) (a3 : Int32) (u : ST) : MX (EM h) yX5_add wsX5_add rmX5_add [.ref (mO h), .int a1, .int a2, .int a3] u (tW (fX5_add a1 a2 a3 u)) := by
  refine MX.of (cc := cX5_add) (maxL := 5) (ret := (some .int)) (lv := [(0, .ref (mO h)), (1, .int a1), (2, .int a2), (3, .int a3)]) hE (by decide) rfl (fun _ => rfl) (Nat.le_of_ble_eq_true rfl) rfl (fun K hC => ?_)
  unfold fX5_add
  refine g_iload_n 0 hC dX5_add_0 1 rfl ?_
  refine g_iload_n 1 hC dX5_add_1 2 rfl ?_
  refine g_iadd 2 hC dX5_add_2 ?_
  refine g_iload_n 3 hC dX5_add_3 3 rfl ?_
  refine g_iadd 4 hC dX5_add_4 ?_
  refine g_sipush 5 hC (255 : Int32) dX5_add_5 (by decide) ?_
  refine g_iand 8 hC dX5_add_8 ?_
  refine g_istore 9 hC dX5_add_9 (by decide) [(4, .int ((((a1 + a2) + a3) &&& (255 : Int32)))), (0, .ref (mO h)), (1, .int a1), (2, .int a2), (3, .int a3)] rfl ?_
  refine g_aload_n 11 hC dX5_add_11 1 rfl ?_
  refine g_iconst 12 hC (1 : Int32) dX5_add_12 (by decide) ?_
  refine g_iload_n 13 hC dX5_add_13 2 rfl ?_
  refine g_iload_n 14 hC dX5_add_14 3 rfl ?_
  refine g_iadd 15 hC dX5_add_15 ?_
  refine g_iload_n 16 hC dX5_add_16 4 rfl ?_
  refine g_iadd 17 hC dX5_add_17 ?_
  refine g_sipush 18 hC (255 : Int32) dX5_add_18 (by decide) ?_
  refine g_cut 29 (if ((a1 + a2) + a3) ≤ (255 : Int32) then (0 : Int32) else (1 : Int32)) [.int ((1 : Int32)), .ref (mO h)] ?_ (fun J2 => ?_)
  · skip
    refine kX5_flag 29 hC gX5_add_X5_flag ⟨Nat.le_of_ble_eq_true rfl, Nat.le_of_ble_eq_true rfl⟩ dX5_add_29 (Nat.le_of_ble_eq_true rfl) ?_
    refine g_aload_n 32 hC dX5_add_32 1 rfl ?_
    refine g_bipush 33 hC (32 : Int32) dX5_add_33 (by decide) ?_
    refine g_iload_n 35 hC dX5_add_35 2 rfl ?_
    refine g_bipush 36 hC (15 : Int32) dX5_add_36 (by decide) ?_
    refine g_iand 38 hC dX5_add_38 ?_
    refine g_iload_n 39 hC dX5_add_39 3 rfl ?_
    refine g_bipush 40 hC (15 : Int32) dX5_add_40 (by decide) ?_
    refine g_iand 42 hC dX5_add_42 ?_
    refine g_iadd 43 hC dX5_add_43 ?_
    refine g_iload_n 44 hC dX5_add_44 4 rfl ?_
    refine g_iadd 45 hC dX5_add_45 ?_
    refine g_bipush 46 hC (15 : Int32) dX5_add_46 (by decide) ?_
    refine g_cut 56 (if (((a1 &&& (15 : Int32)) + (a2 &&& (15 : Int32))) + a3) ≤ (15 : Int32) then (0 : Int32) else (1 : Int32)) [.int ((32 : Int32)), .ref (mO h)] ?_ (fun J4 => ?_)
    · skip
      refine kX5_flag 56 hC gX5_add_X5_flag ⟨Nat.le_of_ble_eq_true rfl, Nat.le_of_ble_eq_true rfl⟩ dX5_add_56 (Nat.le_of_ble_eq_true rfl) ?_
      refine g_aload_n 59 hC dX5_add_59 1 rfl ?_
      refine g_iload 60 hC dX5_add_60 0 rfl ?_
      refine g_iload_n 62 hC dX5_add_62 2 rfl ?_
      refine g_bipush 63 hC (127 : Int32) dX5_add_63 (by decide) ?_
      refine g_cut 73 (if a1 ≤ (127 : Int32) then (0 : Int32) else (1 : Int32)) [.int ((((a1 + a2) + a3) &&& (255 : Int32))), .ref (mO h)] ?_ (fun J6 => ?_)
      · skip
        refine g_iload_n 73 hC dX5_add_73 3 rfl ?_
        refine g_bipush 74 hC (127 : Int32) dX5_add_74 (by decide) ?_
        refine g_cut 84 (if a2 ≤ (127 : Int32) then (0 : Int32) else (1 : Int32)) [.int ((if a1 ≤ (127 : Int32) then (0 : Int32) else (1 : Int32))), .int ((((a1 + a2) + a3) &&& (255 : Int32))), .ref (mO h)] ?_ (fun J8 => ?_)
        · skip
          refine g_cut 118 (if (if a1 ≤ (127 : Int32) then (0 : Int32) else (1 : Int32)) = (if a2 ≤ (127 : Int32) then (0 : Int32) else (1 : Int32)) then (if (if (((a1 + a2) + a3) &&& (255 : Int32)) ≤ (127 : Int32) then (0 : Int32) else (1 : Int32)) = (if a1 ≤ (127 : Int32) then (0 : Int32) else (1 : Int32)) then (0 : Int32) else (1 : Int32)) else (0 : Int32)) [.int ((((a1 + a2) + a3) &&& (255 : Int32))), .ref (mO h)] ?_ (fun J15 => ?_)
          · skip
            refine kX5_signs 118 hC gX5_add_X5_signs ⟨Nat.le_of_ble_eq_true rfl, Nat.le_of_ble_eq_true rfl⟩ dX5_add_118 (Nat.le_of_ble_eq_true rfl) ?_
            refine g_iload 121 hC dX5_add_121 0 rfl ?_
            exact g_iretW 123 hC dX5_add_123
          · skip
            refine g_icmp_ne 84 hC 117 dX5_add_84 (by decide) (fun h9 => ?_) (fun h9 => ?_)
            · skip
              refine g_iconst 117 hC (0 : Int32) dX5_add_117 (by decide) ?_
              exact J15 _ (Eq.symm (if_neg h9))
            · skip
              refine g_iload 87 hC dX5_add_87 0 rfl ?_
              refine g_bipush 89 hC (127 : Int32) dX5_add_89 (by decide) ?_
              refine g_cut 99 (if (((a1 + a2) + a3) &&& (255 : Int32)) ≤ (127 : Int32) then (0 : Int32) else (1 : Int32)) [.int ((((a1 + a2) + a3) &&& (255 : Int32))), .ref (mO h)] ?_ (fun J11 => ?_)
              · skip
                refine g_iload_n 99 hC dX5_add_99 2 rfl ?_
                refine g_bipush 100 hC (127 : Int32) dX5_add_100 (by decide) ?_
                refine g_cut 110 (if a1 ≤ (127 : Int32) then (0 : Int32) else (1 : Int32)) [.int ((if (((a1 + a2) + a3) &&& (255 : Int32)) ≤ (127 : Int32) then (0 : Int32) else (1 : Int32))), .int ((((a1 + a2) + a3) &&& (255 : Int32))), .ref (mO h)] ?_ (fun J13 => ?_)
                · skip
                  refine g_icmp_eq 110 hC 117 dX5_add_110 (by decide) (fun h14 => ?_) (fun h14 => ?_)
                  · skip
                    refine g_iconst 117 hC (0 : Int32) dX5_add_117 (by decide) ?_
                    exact J15 _ (Eq.symm (Eq.trans (if_pos h9) (if_pos h14)))
                  · skip
                    refine g_iconst 113 hC (1 : Int32) dX5_add_113 (by decide) ?_
                    refine g_goto 114 hC 118 dX5_add_114 (by decide) ?_
                    exact J15 _ (Eq.symm (Eq.trans (if_pos h9) (if_neg h14)))
                · skip
                  refine g_icmp_le 102 hC 109 dX5_add_102 (by decide) (fun h12 => ?_) (fun h12 => ?_)
                  · skip
                    refine g_iconst 109 hC (0 : Int32) dX5_add_109 (by decide) ?_
                    exact J13 _ (Eq.symm (if_pos h12))
                  · skip
                    refine g_iconst 105 hC (1 : Int32) dX5_add_105 (by decide) ?_
                    refine g_goto 106 hC 110 dX5_add_106 (by decide) ?_
                    exact J13 _ (Eq.symm (if_neg h12))
              · skip
                refine g_icmp_le 91 hC 98 dX5_add_91 (by decide) (fun h10 => ?_) (fun h10 => ?_)
                · skip
                  refine g_iconst 98 hC (0 : Int32) dX5_add_98 (by decide) ?_
                  exact J11 _ (Eq.symm (if_pos h10))
                · skip
                  refine g_iconst 94 hC (1 : Int32) dX5_add_94 (by decide) ?_
                  refine g_goto 95 hC 99 dX5_add_95 (by decide) ?_
                  exact J11 _ (Eq.symm (if_neg h10))
        · skip
          refine g_icmp_le 76 hC 83 dX5_add_76 (by decide) (fun h7 => ?_) (fun h7 => ?_)
          · skip
            refine g_iconst 83 hC (0 : Int32) dX5_add_83 (by decide) ?_
            exact J8 _ (Eq.symm (if_pos h7))
          · skip
            refine g_iconst 79 hC (1 : Int32) dX5_add_79 (by decide) ?_
            refine g_goto 80 hC 84 dX5_add_80 (by decide) ?_
            exact J8 _ (Eq.symm (if_neg h7))
      · skip
        refine g_icmp_le 65 hC 72 dX5_add_65 (by decide) (fun h5 => ?_) (fun h5 => ?_)
        · skip
          refine g_iconst 72 hC (0 : Int32) dX5_add_72 (by decide) ?_
          exact J6 _ (Eq.symm (if_pos h5))
        · skip
          refine g_iconst 68 hC (1 : Int32) dX5_add_68 (by decide) ?_
          refine g_goto 69 hC 73 dX5_add_69 (by decide) ?_
          exact J6 _ (Eq.symm (if_neg h5))
    · skip
      refine g_icmp_le 48 hC 55 dX5_add_48 (by decide) (fun h3 => ?_) (fun h3 => ?_)
      · skip
        refine g_iconst 55 hC (0 : Int32) dX5_add_55 (by decide) ?_
        exact J4 _ (Eq.symm (if_pos h3))
      · skip
        refine g_iconst 51 hC (1 : Int32) dX5_add_51 (by decide) ?_
        refine g_goto 52 hC 56 dX5_add_52 (by decide) ?_
        exact J4 _ (Eq.symm (if_neg h3))
  · skip
    refine g_icmp_le 21 hC 28 dX5_add_21 (by decide) (fun h1 => ?_) (fun h1 => ?_)
    · skip
      refine g_iconst 28 hC (0 : Int32) dX5_add_28 (by decide) ?_
      exact J2 _ (Eq.symm (if_pos h1))
    · skip
      refine g_iconst 24 hC (1 : Int32) dX5_add_24 (by decide) ?_
      refine g_goto 25 hC 29 dX5_add_25 (by decide) ?_
      exact J2 _ (Eq.symm (if_neg h1))
theorem kX5_add {K : KT} {h : HM} {cc : ByteArray} {nL : Nat} {own : String} {Ts : List Cond} {rm : Room} {ret : Option FieldType} {T : ST × Option Value} {u : ST} {lv : List (Nat × Value)} {rest : List Value} {idx : Nat} {a1 : Int32} {a2 : Int32} {a3 : Int32} (pc : Nat) (hC : Cx K (EM h) cc nL own Ts rm ret) (hT : GoodIn Ts (wsV own idx RX5 yX5_add wsX5_add)) (hR : rmX5_add.frames + 1 ≤ rm.frames ∧ 8 + (5 + 11) + rmX5_add.locals ≤ rm.locals) (hdg : decode cc pc = .ok (.invokevirtual idx, 3)) (hcat : (rest.map fun v => v.category).sum ≤ 8) (kk : G K (EM h) nL T (fX5_add a1 a2 a3 u).1 (pc + 3) lv (.int (fX5_add a1 a2 a3 u).2 :: rest)) : G K (EM h) nL T u pc lv (.int a3 :: .int a2 :: .int a1 :: .ref (mO h) :: rest) := g_callV (n := 3) pc hC (As := [.int a1, .int a2, .int a3]) (rest := rest) (cX5_add_ _ (Cx.ok hC) a1 a2 a3 u) hT rfl rfl rfl (by decide +kernel) hR 0 3 rfl rfl rfl rfl rfl hcat hdg kk

def fX5_subtract (a1 : Int32) (a2 : Int32) (a3 : Int32) (a4 : Int32) (u : ST) : ST × Int32 :=
  ((if a4 = 0 then (fX5_signs (((a1 - a2) - a3) &&& (255 : Int32)) (if (if a1 ≤ (127 : Int32) then (0 : Int32) else (1 : Int32)) = (if a2 ≤ (127 : Int32) then (0 : Int32) else (1 : Int32)) then (0 : Int32) else (if (if (((a1 - a2) - a3) &&& (255 : Int32)) ≤ (127 : Int32) then (0 : Int32) else (1 : Int32)) = (if a2 ≤ (127 : Int32) then (0 : Int32) else (1 : Int32)) then (1 : Int32) else (0 : Int32))) (fX5_flag (32 : Int32) (if 0 ≤ (((a1 &&& (15 : Int32)) - (a2 &&& (15 : Int32))) - a3) then (0 : Int32) else (1 : Int32)) (fX5_flag (1 : Int32) (if 0 ≤ ((a1 - a2) - a3) then (0 : Int32) else (1 : Int32)) u))) else (fX5_flag (2 : Int32) (if (((a1 - a2) - a3) &&& (255 : Int32)) = 0 then (if (fX5_has (2 : Int32) u) = 0 then (0 : Int32) else (1 : Int32)) else (0 : Int32)) (fX5_signs (((a1 - a2) - a3) &&& (255 : Int32)) (if (if a1 ≤ (127 : Int32) then (0 : Int32) else (1 : Int32)) = (if a2 ≤ (127 : Int32) then (0 : Int32) else (1 : Int32)) then (0 : Int32) else (if (if (((a1 - a2) - a3) &&& (255 : Int32)) ≤ (127 : Int32) then (0 : Int32) else (1 : Int32)) = (if a2 ≤ (127 : Int32) then (0 : Int32) else (1 : Int32)) then (1 : Int32) else (0 : Int32))) (fX5_flag (32 : Int32) (if 0 ≤ (((a1 &&& (15 : Int32)) - (a2 &&& (15 : Int32))) - a3) then (0 : Int32) else (1 : Int32)) (fX5_flag (1 : Int32) (if 0 ≤ ((a1 - a2) - a3) then (0 : Int32) else (1 : Int32)) u))))), (((a1 - a2) - a3) &&& (255 : Int32)))
abbrev rmX5_subtract : Room := { frames := 2, cells := 0, slots := 0, locals := 44 }
set_option maxRecDepth 20000 in
theorem cX5_subtract_ (h : HM) (hE : okE (EM h)) (a1 : Int32) (a2 : Int32) (a3 : Int32) (a4 : Int32) (u : ST) : MX (EM h) yX5_subtract wsX5_subtract rmX5_subtract [.ref (mO h), .int a1, .int a2, .int a3, .int a4] u (tW (fX5_subtract a1 a2 a3 a4 u)) := by
  refine MX.of (cc := cX5_subtract) (maxL := 7) (ret := (some .int)) (lv := [(0, .ref (mO h)), (1, .int a1), (2, .int a2), (3, .int a3), (4, .int a4)]) hE (by decide) rfl (fun _ => rfl) (Nat.le_of_ble_eq_true rfl) rfl (fun K hC => ?_)
  unfold fX5_subtract
  refine g_aload_n 0 hC dX5_subtract_0 0 rfl ?_
  refine g_iconst 1 hC (2 : Int32) dX5_subtract_1 (by decide) ?_
  refine kX5_has 2 hC gX5_subtract_X5_has ⟨Nat.le_of_ble_eq_true rfl, Nat.le_of_ble_eq_true rfl⟩ dX5_subtract_2 (Nat.le_of_ble_eq_true rfl) ?_
  refine g_istore 5 hC dX5_subtract_5 (by decide) [(5, .int ((fX5_has (2 : Int32) u))), (0, .ref (mO h)), (1, .int a1), (2, .int a2), (3, .int a3), (4, .int a4)] rfl ?_
  refine g_iload_n 7 hC dX5_subtract_7 2 rfl ?_
  refine g_iload_n 8 hC dX5_subtract_8 3 rfl ?_
  refine g_isub 9 hC dX5_subtract_9 ?_
  refine g_iload_n 10 hC dX5_subtract_10 4 rfl ?_
  refine g_isub 11 hC dX5_subtract_11 ?_
  refine g_sipush 12 hC (255 : Int32) dX5_subtract_12 (by decide) ?_
  refine g_iand 15 hC dX5_subtract_15 ?_
  refine g_istore 16 hC dX5_subtract_16 (by decide) [(6, .int ((((a1 - a2) - a3) &&& (255 : Int32)))), (5, .int ((fX5_has (2 : Int32) u))), (0, .ref (mO h)), (1, .int a1), (2, .int a2), (3, .int a3), (4, .int a4)] rfl ?_
  refine g_aload_n 18 hC dX5_subtract_18 2 rfl ?_
  refine g_iconst 19 hC (1 : Int32) dX5_subtract_19 (by decide) ?_
  refine g_iload_n 20 hC dX5_subtract_20 3 rfl ?_
  refine g_iload_n 21 hC dX5_subtract_21 4 rfl ?_
  refine g_isub 22 hC dX5_subtract_22 ?_
  refine g_iload_n 23 hC dX5_subtract_23 5 rfl ?_
  refine g_isub 24 hC dX5_subtract_24 ?_
  refine g_cut 33 (if 0 ≤ ((a1 - a2) - a3) then (0 : Int32) else (1 : Int32)) [.int ((1 : Int32)), .ref (mO h)] ?_ (fun J2 => ?_)
  · skip
    refine kX5_flag 33 hC gX5_subtract_X5_flag ⟨Nat.le_of_ble_eq_true rfl, Nat.le_of_ble_eq_true rfl⟩ dX5_subtract_33 (Nat.le_of_ble_eq_true rfl) ?_
    refine g_aload_n 36 hC dX5_subtract_36 2 rfl ?_
    refine g_bipush 37 hC (32 : Int32) dX5_subtract_37 (by decide) ?_
    refine g_iload_n 39 hC dX5_subtract_39 3 rfl ?_
    refine g_bipush 40 hC (15 : Int32) dX5_subtract_40 (by decide) ?_
    refine g_iand 42 hC dX5_subtract_42 ?_
    refine g_iload_n 43 hC dX5_subtract_43 4 rfl ?_
    refine g_bipush 44 hC (15 : Int32) dX5_subtract_44 (by decide) ?_
    refine g_iand 46 hC dX5_subtract_46 ?_
    refine g_isub 47 hC dX5_subtract_47 ?_
    refine g_iload_n 48 hC dX5_subtract_48 5 rfl ?_
    refine g_isub 49 hC dX5_subtract_49 ?_
    refine g_cut 58 (if 0 ≤ (((a1 &&& (15 : Int32)) - (a2 &&& (15 : Int32))) - a3) then (0 : Int32) else (1 : Int32)) [.int ((32 : Int32)), .ref (mO h)] ?_ (fun J4 => ?_)
    · skip
      refine kX5_flag 58 hC gX5_subtract_X5_flag ⟨Nat.le_of_ble_eq_true rfl, Nat.le_of_ble_eq_true rfl⟩ dX5_subtract_58 (Nat.le_of_ble_eq_true rfl) ?_
      refine g_aload_n 61 hC dX5_subtract_61 2 rfl ?_
      refine g_iload 62 hC dX5_subtract_62 0 rfl ?_
      refine g_iload_n 64 hC dX5_subtract_64 3 rfl ?_
      refine g_bipush 65 hC (127 : Int32) dX5_subtract_65 (by decide) ?_
      refine g_cut 75 (if a1 ≤ (127 : Int32) then (0 : Int32) else (1 : Int32)) [.int ((((a1 - a2) - a3) &&& (255 : Int32))), .ref (mO h)] ?_ (fun J6 => ?_)
      · skip
        refine g_iload_n 75 hC dX5_subtract_75 4 rfl ?_
        refine g_bipush 76 hC (127 : Int32) dX5_subtract_76 (by decide) ?_
        refine g_cut 86 (if a2 ≤ (127 : Int32) then (0 : Int32) else (1 : Int32)) [.int ((if a1 ≤ (127 : Int32) then (0 : Int32) else (1 : Int32))), .int ((((a1 - a2) - a3) &&& (255 : Int32))), .ref (mO h)] ?_ (fun J8 => ?_)
        · skip
          refine g_cut 120 (if (if a1 ≤ (127 : Int32) then (0 : Int32) else (1 : Int32)) = (if a2 ≤ (127 : Int32) then (0 : Int32) else (1 : Int32)) then (0 : Int32) else (if (if (((a1 - a2) - a3) &&& (255 : Int32)) ≤ (127 : Int32) then (0 : Int32) else (1 : Int32)) = (if a2 ≤ (127 : Int32) then (0 : Int32) else (1 : Int32)) then (1 : Int32) else (0 : Int32))) [.int ((((a1 - a2) - a3) &&& (255 : Int32))), .ref (mO h)] ?_ (fun J15 => ?_)
          · skip
            refine kX5_signs 120 hC gX5_subtract_X5_signs ⟨Nat.le_of_ble_eq_true rfl, Nat.le_of_ble_eq_true rfl⟩ dX5_subtract_120 (Nat.le_of_ble_eq_true rfl) ?_
            refine g_iload 123 hC dX5_subtract_123 6 rfl ?_
            refine g_cutS 148 (if a4 = 0 then (fX5_signs (((a1 - a2) - a3) &&& (255 : Int32)) (if (if a1 ≤ (127 : Int32) then (0 : Int32) else (1 : Int32)) = (if a2 ≤ (127 : Int32) then (0 : Int32) else (1 : Int32)) then (0 : Int32) else (if (if (((a1 - a2) - a3) &&& (255 : Int32)) ≤ (127 : Int32) then (0 : Int32) else (1 : Int32)) = (if a2 ≤ (127 : Int32) then (0 : Int32) else (1 : Int32)) then (1 : Int32) else (0 : Int32))) (fX5_flag (32 : Int32) (if 0 ≤ (((a1 &&& (15 : Int32)) - (a2 &&& (15 : Int32))) - a3) then (0 : Int32) else (1 : Int32)) (fX5_flag (1 : Int32) (if 0 ≤ ((a1 - a2) - a3) then (0 : Int32) else (1 : Int32)) u))) else (fX5_flag (2 : Int32) (if (((a1 - a2) - a3) &&& (255 : Int32)) = 0 then (if (fX5_has (2 : Int32) u) = 0 then (0 : Int32) else (1 : Int32)) else (0 : Int32)) (fX5_signs (((a1 - a2) - a3) &&& (255 : Int32)) (if (if a1 ≤ (127 : Int32) then (0 : Int32) else (1 : Int32)) = (if a2 ≤ (127 : Int32) then (0 : Int32) else (1 : Int32)) then (0 : Int32) else (if (if (((a1 - a2) - a3) &&& (255 : Int32)) ≤ (127 : Int32) then (0 : Int32) else (1 : Int32)) = (if a2 ≤ (127 : Int32) then (0 : Int32) else (1 : Int32)) then (1 : Int32) else (0 : Int32))) (fX5_flag (32 : Int32) (if 0 ≤ (((a1 &&& (15 : Int32)) - (a2 &&& (15 : Int32))) - a3) then (0 : Int32) else (1 : Int32)) (fX5_flag (1 : Int32) (if 0 ≤ ((a1 - a2) - a3) then (0 : Int32) else (1 : Int32)) u))))) [] ?_ (fun J20 => ?_)
            · skip
              refine g_iload 148 hC dX5_subtract_148 0 rfl ?_
              exact g_iretW 150 hC dX5_subtract_150
            · skip
              refine g_if_eq 125 hC 148 dX5_subtract_125 (by decide) (fun h16 => ?_) (fun h16 => ?_)
              · skip
                exact J20 _ (Eq.symm (if_pos h16))
              · skip
                refine g_aload_n 128 hC dX5_subtract_128 2 rfl ?_
                refine g_iconst 129 hC (2 : Int32) dX5_subtract_129 (by decide) ?_
                refine g_iload 130 hC dX5_subtract_130 0 rfl ?_
                refine g_cut 145 (if (((a1 - a2) - a3) &&& (255 : Int32)) = 0 then (if (fX5_has (2 : Int32) u) = 0 then (0 : Int32) else (1 : Int32)) else (0 : Int32)) [.int ((2 : Int32)), .ref (mO h)] ?_ (fun J19 => ?_)
                · skip
                  refine kX5_flag 145 hC gX5_subtract_X5_flag ⟨Nat.le_of_ble_eq_true rfl, Nat.le_of_ble_eq_true rfl⟩ dX5_subtract_145 (Nat.le_of_ble_eq_true rfl) ?_
                  exact J20 _ (Eq.symm (if_neg h16))
                · skip
                  refine g_if_ne 132 hC 144 dX5_subtract_132 (by decide) (fun h17 => ?_) (fun h17 => ?_)
                  · skip
                    refine g_iconst 144 hC (0 : Int32) dX5_subtract_144 (by decide) ?_
                    exact J19 _ (Eq.symm (if_neg h17))
                  · skip
                    refine g_iload 135 hC dX5_subtract_135 1 rfl ?_
                    refine g_if_eq 137 hC 144 dX5_subtract_137 (by decide) (fun h18 => ?_) (fun h18 => ?_)
                    · skip
                      refine g_iconst 144 hC (0 : Int32) dX5_subtract_144 (by decide) ?_
                      exact J19 _ (Eq.symm (Eq.trans (if_pos h17) (if_pos h18)))
                    · skip
                      refine g_iconst 140 hC (1 : Int32) dX5_subtract_140 (by decide) ?_
                      refine g_goto 141 hC 145 dX5_subtract_141 (by decide) ?_
                      exact J19 _ (Eq.symm (Eq.trans (if_pos h17) (if_neg h18)))
          · skip
            refine g_icmp_eq 86 hC 119 dX5_subtract_86 (by decide) (fun h9 => ?_) (fun h9 => ?_)
            · skip
              refine g_iconst 119 hC (0 : Int32) dX5_subtract_119 (by decide) ?_
              exact J15 _ (Eq.symm (if_pos h9))
            · skip
              refine g_iload 89 hC dX5_subtract_89 0 rfl ?_
              refine g_bipush 91 hC (127 : Int32) dX5_subtract_91 (by decide) ?_
              refine g_cut 101 (if (((a1 - a2) - a3) &&& (255 : Int32)) ≤ (127 : Int32) then (0 : Int32) else (1 : Int32)) [.int ((((a1 - a2) - a3) &&& (255 : Int32))), .ref (mO h)] ?_ (fun J11 => ?_)
              · skip
                refine g_iload_n 101 hC dX5_subtract_101 4 rfl ?_
                refine g_bipush 102 hC (127 : Int32) dX5_subtract_102 (by decide) ?_
                refine g_cut 112 (if a2 ≤ (127 : Int32) then (0 : Int32) else (1 : Int32)) [.int ((if (((a1 - a2) - a3) &&& (255 : Int32)) ≤ (127 : Int32) then (0 : Int32) else (1 : Int32))), .int ((((a1 - a2) - a3) &&& (255 : Int32))), .ref (mO h)] ?_ (fun J13 => ?_)
                · skip
                  refine g_icmp_ne 112 hC 119 dX5_subtract_112 (by decide) (fun h14 => ?_) (fun h14 => ?_)
                  · skip
                    refine g_iconst 119 hC (0 : Int32) dX5_subtract_119 (by decide) ?_
                    exact J15 _ (Eq.symm (Eq.trans (if_neg h9) (if_neg h14)))
                  · skip
                    refine g_iconst 115 hC (1 : Int32) dX5_subtract_115 (by decide) ?_
                    refine g_goto 116 hC 120 dX5_subtract_116 (by decide) ?_
                    exact J15 _ (Eq.symm (Eq.trans (if_neg h9) (if_pos h14)))
                · skip
                  refine g_icmp_le 104 hC 111 dX5_subtract_104 (by decide) (fun h12 => ?_) (fun h12 => ?_)
                  · skip
                    refine g_iconst 111 hC (0 : Int32) dX5_subtract_111 (by decide) ?_
                    exact J13 _ (Eq.symm (if_pos h12))
                  · skip
                    refine g_iconst 107 hC (1 : Int32) dX5_subtract_107 (by decide) ?_
                    refine g_goto 108 hC 112 dX5_subtract_108 (by decide) ?_
                    exact J13 _ (Eq.symm (if_neg h12))
              · skip
                refine g_icmp_le 93 hC 100 dX5_subtract_93 (by decide) (fun h10 => ?_) (fun h10 => ?_)
                · skip
                  refine g_iconst 100 hC (0 : Int32) dX5_subtract_100 (by decide) ?_
                  exact J11 _ (Eq.symm (if_pos h10))
                · skip
                  refine g_iconst 96 hC (1 : Int32) dX5_subtract_96 (by decide) ?_
                  refine g_goto 97 hC 101 dX5_subtract_97 (by decide) ?_
                  exact J11 _ (Eq.symm (if_neg h10))
        · skip
          refine g_icmp_le 78 hC 85 dX5_subtract_78 (by decide) (fun h7 => ?_) (fun h7 => ?_)
          · skip
            refine g_iconst 85 hC (0 : Int32) dX5_subtract_85 (by decide) ?_
            exact J8 _ (Eq.symm (if_pos h7))
          · skip
            refine g_iconst 81 hC (1 : Int32) dX5_subtract_81 (by decide) ?_
            refine g_goto 82 hC 86 dX5_subtract_82 (by decide) ?_
            exact J8 _ (Eq.symm (if_neg h7))
      · skip
        refine g_icmp_le 67 hC 74 dX5_subtract_67 (by decide) (fun h5 => ?_) (fun h5 => ?_)
        · skip
          refine g_iconst 74 hC (0 : Int32) dX5_subtract_74 (by decide) ?_
          exact J6 _ (Eq.symm (if_pos h5))
        · skip
          refine g_iconst 70 hC (1 : Int32) dX5_subtract_70 (by decide) ?_
          refine g_goto 71 hC 75 dX5_subtract_71 (by decide) ?_
          exact J6 _ (Eq.symm (if_neg h5))
    · skip
      refine g_if_ge 50 hC 57 dX5_subtract_50 (by decide) (fun h3 => ?_) (fun h3 => ?_)
      · skip
        refine g_iconst 57 hC (0 : Int32) dX5_subtract_57 (by decide) ?_
        exact J4 _ (Eq.symm (if_pos h3))
      · skip
        refine g_iconst 53 hC (1 : Int32) dX5_subtract_53 (by decide) ?_
        refine g_goto 54 hC 58 dX5_subtract_54 (by decide) ?_
        exact J4 _ (Eq.symm (if_neg h3))
  · skip
    refine g_if_ge 25 hC 32 dX5_subtract_25 (by decide) (fun h1 => ?_) (fun h1 => ?_)
    · skip
      refine g_iconst 32 hC (0 : Int32) dX5_subtract_32 (by decide) ?_
      exact J2 _ (Eq.symm (if_pos h1))
    · skip
      refine g_iconst 28 hC (1 : Int32) dX5_subtract_28 (by decide) ?_
      refine g_goto 29 hC 33 dX5_subtract_29 (by decide) ?_
      exact J2 _ (Eq.symm (if_neg h1))
theorem kX5_subtract {K : KT} {h : HM} {cc : ByteArray} {nL : Nat} {own : String} {Ts : List Cond} {rm : Room} {ret : Option FieldType} {T : ST × Option Value} {u : ST} {lv : List (Nat × Value)} {rest : List Value} {idx : Nat} {a1 : Int32} {a2 : Int32} {a3 : Int32} {a4 : Int32} (pc : Nat) (hC : Cx K (EM h) cc nL own Ts rm ret) (hT : GoodIn Ts (wsV own idx RX5 yX5_subtract wsX5_subtract)) (hR : rmX5_subtract.frames + 1 ≤ rm.frames ∧ 8 + (7 + 11) + rmX5_subtract.locals ≤ rm.locals) (hdg : decode cc pc = .ok (.invokevirtual idx, 3)) (hcat : (rest.map fun v => v.category).sum ≤ 8) (kk : G K (EM h) nL T (fX5_subtract a1 a2 a3 a4 u).1 (pc + 3) lv (.int (fX5_subtract a1 a2 a3 a4 u).2 :: rest)) : G K (EM h) nL T u pc lv (.int a4 :: .int a3 :: .int a2 :: .int a1 :: .ref (mO h) :: rest) := g_callV (n := 4) pc hC (As := [.int a1, .int a2, .int a3, .int a4]) (rest := rest) (cX5_subtract_ _ (Cx.ok hC) a1 a2 a3 a4 u) hT rfl rfl rfl (by decide +kernel) hR 0 3 rfl rfl rfl rfl rfl hcat hdg kk

def fX5_logic (a1 : Int32) (u : ST) : ST × Int32 :=
  ((fX5_signs a1 (0 : Int32) u), a1)
abbrev rmX5_logic : Room := { frames := 2, cells := 0, slots := 0, locals := 44 }
set_option maxRecDepth 20000 in
theorem cX5_logic_ (h : HM) (hE : okE (EM h)) (a1 : Int32) (u : ST) : MX (EM h) yX5_logic wsX5_logic rmX5_logic [.ref (mO h), .int a1] u (tW (fX5_logic a1 u)) := by
  refine MX.of (cc := cX5_logic) (maxL := 2) (ret := (some .int)) (lv := [(0, .ref (mO h)), (1, .int a1)]) hE (by decide) rfl (fun _ => rfl) (Nat.le_of_ble_eq_true rfl) rfl (fun K hC => ?_)
  unfold fX5_logic
  refine g_aload_n 0 hC dX5_logic_0 0 rfl ?_
  refine g_iload_n 1 hC dX5_logic_1 1 rfl ?_
  refine g_iconst 2 hC (0 : Int32) dX5_logic_2 (by decide) ?_
  refine kX5_signs 3 hC gX5_logic_X5_signs ⟨Nat.le_of_ble_eq_true rfl, Nat.le_of_ble_eq_true rfl⟩ dX5_logic_3 (Nat.le_of_ble_eq_true rfl) ?_
  refine g_iload_n 6 hC dX5_logic_6 1 rfl ?_
  exact g_iretW 7 hC dX5_logic_7
theorem kX5_logic {K : KT} {h : HM} {cc : ByteArray} {nL : Nat} {own : String} {Ts : List Cond} {rm : Room} {ret : Option FieldType} {T : ST × Option Value} {u : ST} {lv : List (Nat × Value)} {rest : List Value} {idx : Nat} {a1 : Int32} (pc : Nat) (hC : Cx K (EM h) cc nL own Ts rm ret) (hT : GoodIn Ts (wsV own idx RX5 yX5_logic wsX5_logic)) (hR : rmX5_logic.frames + 1 ≤ rm.frames ∧ 8 + (2 + 11) + rmX5_logic.locals ≤ rm.locals) (hdg : decode cc pc = .ok (.invokevirtual idx, 3)) (hcat : (rest.map fun v => v.category).sum ≤ 8) (kk : G K (EM h) nL T (fX5_logic a1 u).1 (pc + 3) lv (.int (fX5_logic a1 u).2 :: rest)) : G K (EM h) nL T u pc lv (.int a1 :: .ref (mO h) :: rest) := g_callV (n := 1) pc hC (As := [.int a1]) (rest := rest) (cX5_logic_ _ (Cx.ok hC) a1 u) hT rfl rfl rfl (by decide +kernel) hR 0 3 rfl rfl rfl rfl rfl hcat hdg kk

def fX5_carry (u : ST) : Int32 :=
  (if (fX5_has (1 : Int32) u) = 0 then (0 : Int32) else (1 : Int32))
abbrev rmX5_carry : Room := { frames := 1, cells := 0, slots := 0, locals := 21 }
set_option maxRecDepth 20000 in
theorem cX5_carry_ (h : HM) (hE : okE (EM h)) (u : ST) : MX (EM h) yX5_carry wsX5_carry rmX5_carry [.ref (mO h)] u (tR u (fX5_carry u)) := by
  refine MX.of (cc := cX5_carry) (maxL := 1) (ret := (some .int)) (lv := [(0, .ref (mO h))]) hE (by decide) rfl (fun _ => rfl) (Nat.le_of_ble_eq_true rfl) rfl (fun K hC => ?_)
  unfold fX5_carry
  refine g_aload_n 0 hC dX5_carry_0 0 rfl ?_
  refine g_iconst 1 hC (1 : Int32) dX5_carry_1 (by decide) ?_
  refine kX5_has 2 hC gX5_carry_X5_has ⟨Nat.le_of_ble_eq_true rfl, Nat.le_of_ble_eq_true rfl⟩ dX5_carry_2 (Nat.le_of_ble_eq_true rfl) ?_
  refine g_cut 13 (if (fX5_has (1 : Int32) u) = 0 then (0 : Int32) else (1 : Int32)) [] ?_ (fun J2 => ?_)
  · skip
    exact g_iretR 13 hC dX5_carry_13
  · skip
    refine g_if_eq 5 hC 12 dX5_carry_5 (by decide) (fun h1 => ?_) (fun h1 => ?_)
    · skip
      refine g_iconst 12 hC (0 : Int32) dX5_carry_12 (by decide) ?_
      exact J2 _ (Eq.symm (if_pos h1))
    · skip
      refine g_iconst 8 hC (1 : Int32) dX5_carry_8 (by decide) ?_
      refine g_goto 9 hC 13 dX5_carry_9 (by decide) ?_
      exact J2 _ (Eq.symm (if_neg h1))
theorem kX5_carry {K : KT} {h : HM} {cc : ByteArray} {nL : Nat} {own : String} {Ts : List Cond} {rm : Room} {ret : Option FieldType} {T : ST × Option Value} {u : ST} {lv : List (Nat × Value)} {rest : List Value} {idx : Nat} (pc : Nat) (hC : Cx K (EM h) cc nL own Ts rm ret) (hT : GoodIn Ts (wsV own idx RX5 yX5_carry wsX5_carry)) (hR : rmX5_carry.frames + 1 ≤ rm.frames ∧ 8 + (1 + 11) + rmX5_carry.locals ≤ rm.locals) (hdg : decode cc pc = .ok (.invokevirtual idx, 3)) (hcat : (rest.map fun v => v.category).sum ≤ 8) (kk : G K (EM h) nL T u (pc + 3) lv (.int (fX5_carry u) :: rest)) : G K (EM h) nL T u pc lv (.ref (mO h) :: rest) := g_callV (n := 0) pc hC (As := []) (rest := rest) (cX5_carry_ _ (Cx.ok hC) u) hT rfl rfl rfl (by decide +kernel) hR 0 3 rfl rfl rfl rfl rfl hcat hdg kk

