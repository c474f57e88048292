def fX5_ofStack (a1 : Int32) (u : ST) : ST × Int32 :=
  if (fX5_isFar (if (if (a1 &&& (512 : Int32)) = 0 then (0 : Int32) else (1 : Int32)) = 0 then (((fX5_pair (93 : Int32) u) + (1 : Int32)) &&& (65535 : Int32)) else (fX5_pair (93 : Int32) u))) = 0 then
    if (if (a1 &&& (512 : Int32)) = 0 then (0 : Int32) else (1 : Int32)) = 0 then
      ((wD ((fX5_pops u).1) (fX5_dOf a1) (fX5_pops u).2), (0 : Int32))
    else
      ((fX5_pushes (rD u (fX5_dOf a1)) u), (0 : Int32))
  else
    (u, (3 : Int32))
def okX5_ofStack (a1 : Int32) (u : ST) : Prop := (((if (a1 &&& (512 : Int32)) = 0 then (0 : Int32) else (1 : Int32)) = 0) → okX5_pair (93 : Int32) u) ∧ ((¬ (if (a1 &&& (512 : Int32)) = 0 then (0 : Int32) else (1 : Int32)) = 0) → okX5_pair (93 : Int32) u) ∧ (((fX5_isFar (if (if (a1 &&& (512 : Int32)) = 0 then (0 : Int32) else (1 : Int32)) = 0 then (((fX5_pair (93 : Int32) u) + (1 : Int32)) &&& (65535 : Int32)) else (fX5_pair (93 : Int32) u))) = 0) → ((if (a1 &&& (512 : Int32)) = 0 then (0 : Int32) else (1 : Int32)) = 0) → okX5_pops u) ∧ (((fX5_isFar (if (if (a1 &&& (512 : Int32)) = 0 then (0 : Int32) else (1 : Int32)) = 0 then (((fX5_pair (93 : Int32) u) + (1 : Int32)) &&& (65535 : Int32)) else (fX5_pair (93 : Int32) u))) = 0) → ((if (a1 &&& (512 : Int32)) = 0 then (0 : Int32) else (1 : Int32)) = 0) → vp_in (fX5_dOf a1) 1024) ∧ (((fX5_isFar (if (if (a1 &&& (512 : Int32)) = 0 then (0 : Int32) else (1 : Int32)) = 0 then (((fX5_pair (93 : Int32) u) + (1 : Int32)) &&& (65535 : Int32)) else (fX5_pair (93 : Int32) u))) = 0) → (¬ (if (a1 &&& (512 : Int32)) = 0 then (0 : Int32) else (1 : Int32)) = 0) → vp_in (fX5_dOf a1) 1024) ∧ (((fX5_isFar (if (if (a1 &&& (512 : Int32)) = 0 then (0 : Int32) else (1 : Int32)) = 0 then (((fX5_pair (93 : Int32) u) + (1 : Int32)) &&& (65535 : Int32)) else (fX5_pair (93 : Int32) u))) = 0) → (¬ (if (a1 &&& (512 : Int32)) = 0 then (0 : Int32) else (1 : Int32)) = 0) → okX5_pushes (rD u (fX5_dOf a1)) u) ∧ True
theorem cmX5_ofStack_27 : Jvm.Cond.constant RX5 27 (65535 : Int32) ∈ wsX5_ofStack := List.mem_of_getElem? (i := 1) rfl
theorem fiX5_ofStack_wsX50 : ∀ w ∈ wsX50, w ∈ wsX5_ofStack := fun w h => List.mem_cons_of_mem _ (List.mem_append_right _ h)
theorem fmX5_ofStack_13 : Cond.fieldLink RX5 13 "FlagCoreModel" "data" "[I" ∈ wsX5_ofStack := List.mem_of_getElem? (i := 2) rfl
abbrev rmX5_ofStack : Room := { frames := 2, cells := 0, slots := 0, locals := 44 }
set_option maxRecDepth 20000 in
theorem cX5_ofStack_ (h : HM) (hE : okE (EM h)) (a1 : Int32) (u : ST) (hok : okX5_ofStack a1 u) : MX (EM h) yX5_ofStack wsX5_ofStack rmX5_ofStack [.ref (mO h), .int a1] u (tW (fX5_ofStack a1 u)) := by
  obtain ⟨k0, k1, k2, k3, k4, k5, -⟩ := hok
  refine MX.of (cc := cX5_ofStack) (maxL := 6) (ret := (some .int)) (lv := [(0, .ref (mO h)), (1, .int a1)]) hE (by decide) rfl (fun _ => rfl) (Nat.le_of_ble_eq_true rfl) rfl (fun K hC => ?_)
  unfold fX5_ofStack
  refine g_iload_n 0 hC dX5_ofStack_0 1 rfl ?_
  refine kX5_dOf 1 hC gX5_ofStack_X5_dOf ⟨Nat.le_of_ble_eq_true rfl, Nat.le_of_ble_eq_true rfl⟩ dX5_ofStack_1 (Nat.le_of_ble_eq_true rfl) ?_
  refine g_istore_n 4 hC dX5_ofStack_4 (by decide) [(2, .int ((fX5_dOf a1))), (0, .ref (mO h)), (1, .int a1)] rfl ?_
  refine g_iload_n 5 hC dX5_ofStack_5 2 rfl ?_
  refine g_sipush 6 hC (512 : Int32) dX5_ofStack_6 (by decide) ?_
  refine g_iand 9 hC dX5_ofStack_9 ?_
  refine g_cut 18 (if (a1 &&& (512 : Int32)) = 0 then (0 : Int32) else (1 : Int32)) [] ?_ (fun J2 => ?_)
  · skip
    refine g_istore_n 18 hC dX5_ofStack_18 (by decide) [(3, .int ((if (a1 &&& (512 : Int32)) = 0 then (0 : Int32) else (1 : Int32)))), (2, .int ((fX5_dOf a1))), (0, .ref (mO h)), (1, .int a1)] rfl ?_
    refine g_iload_n 19 hC dX5_ofStack_19 0 rfl ?_
    refine g_cut 43 (if (if (a1 &&& (512 : Int32)) = 0 then (0 : Int32) else (1 : Int32)) = 0 then (((fX5_pair (93 : Int32) u) + (1 : Int32)) &&& (65535 : Int32)) else (fX5_pair (93 : Int32) u)) [] ?_ (fun J4 => ?_)
    · skip
      refine g_istore 43 hC dX5_ofStack_43 (by decide) [(4, .int ((if (if (a1 &&& (512 : Int32)) = 0 then (0 : Int32) else (1 : Int32)) = 0 then (((fX5_pair (93 : Int32) u) + (1 : Int32)) &&& (65535 : Int32)) else (fX5_pair (93 : Int32) u)))), (3, .int ((if (a1 &&& (512 : Int32)) = 0 then (0 : Int32) else (1 : Int32)))), (2, .int ((fX5_dOf a1))), (0, .ref (mO h)), (1, .int a1)] rfl ?_
      refine g_iload 45 hC dX5_ofStack_45 0 rfl ?_
      refine kX5_isFar 47 hC gX5_ofStack_X5_isFar ⟨Nat.le_of_ble_eq_true rfl, Nat.le_of_ble_eq_true rfl⟩ dX5_ofStack_47 (Nat.le_of_ble_eq_true rfl) ?_
      refine g_if_eqT (tW) 50 hC 55 dX5_ofStack_50 (by decide) (fun h5 => ?_) (fun h5 => ?_)
      · skip
        refine g_iload_n 55 hC dX5_ofStack_55 1 rfl ?_
        refine g_if_eqT (tW) 56 hC 72 dX5_ofStack_56 (by decide) (fun h6 => ?_) (fun h6 => ?_)
        · skip
          refine g_aload_n 72 hC dX5_ofStack_72 3 rfl ?_
          refine kX5_pops 73 hC (k2 h5 h6) gX5_ofStack_X5_pops ⟨Nat.le_of_ble_eq_true rfl, Nat.le_of_ble_eq_true rfl⟩ dX5_ofStack_73 (Nat.le_of_ble_eq_true rfl) ?_
          refine g_istore 76 hC dX5_ofStack_76 (by decide) [(5, .int ((fX5_pops u).2)), (4, .int ((if (if (a1 &&& (512 : Int32)) = 0 then (0 : Int32) else (1 : Int32)) = 0 then (((fX5_pair (93 : Int32) u) + (1 : Int32)) &&& (65535 : Int32)) else (fX5_pair (93 : Int32) u)))), (3, .int ((if (a1 &&& (512 : Int32)) = 0 then (0 : Int32) else (1 : Int32)))), (2, .int ((fX5_dOf a1))), (0, .ref (mO h)), (1, .int a1)] rfl ?_
          refine g_aload_n 78 hC dX5_ofStack_78 4 rfl ?_
          refine m_get_data 79 hC fiX5_ofStack_wsX50 fmX5_ofStack_13 dX5_ofStack_79 ?_
          refine g_iload_n 82 hC dX5_ofStack_82 3 rfl ?_
          refine g_iload 83 hC dX5_ofStack_83 0 rfl ?_
          refine m_stD 85 hC (k3 h5 h6) dX5_ofStack_85 ?_
          refine g_iconst 86 hC (0 : Int32) dX5_ofStack_86 (by decide) ?_
          exact g_iretW 87 hC dX5_ofStack_87
        · skip
          refine g_aload_n 59 hC dX5_ofStack_59 3 rfl ?_
          refine g_aload_n 60 hC dX5_ofStack_60 3 rfl ?_
          refine m_get_data 61 hC fiX5_ofStack_wsX50 fmX5_ofStack_13 dX5_ofStack_61 ?_
          refine g_iload_n 64 hC dX5_ofStack_64 2 rfl ?_
          refine m_ldD 65 hC (k4 h5 h6) dX5_ofStack_65 ?_
          refine kX5_pushes 66 hC (k5 h5 h6) gX5_ofStack_X5_pushes ⟨Nat.le_of_ble_eq_true rfl, Nat.le_of_ble_eq_true rfl⟩ dX5_ofStack_66 (Nat.le_of_ble_eq_true rfl) ?_
          refine g_goto 69 hC 86 dX5_ofStack_69 (by decide) ?_
          refine g_iconst 86 hC (0 : Int32) dX5_ofStack_86 (by decide) ?_
          exact g_iretW 87 hC dX5_ofStack_87
      · skip
        refine g_iconst 53 hC (3 : Int32) dX5_ofStack_53 (by decide) ?_
        exact g_iretW 54 hC dX5_ofStack_54
    · skip
      refine g_if_eq 20 hC 32 dX5_ofStack_20 (by decide) (fun h3 => ?_) (fun h3 => ?_)
      · skip
        refine g_aload_n 32 hC dX5_ofStack_32 2 rfl ?_
        refine g_bipush 33 hC (93 : Int32) dX5_ofStack_33 (by decide) ?_
        refine kX5_pair 35 hC (k0 h3) gX5_ofStack_X5_pair ⟨Nat.le_of_ble_eq_true rfl, Nat.le_of_ble_eq_true rfl⟩ dX5_ofStack_35 (Nat.le_of_ble_eq_true rfl) ?_
        refine g_iconst 38 hC (1 : Int32) dX5_ofStack_38 (by decide) ?_
        refine g_iadd 39 hC dX5_ofStack_39 ?_
        refine g_ldc 40 hC (65535 : Int32) dX5_ofStack_40 cmX5_ofStack_27 ?_
        refine g_iand 42 hC dX5_ofStack_42 ?_
        exact J4 _ (Eq.symm (if_pos h3))
      · skip
        refine g_aload_n 23 hC dX5_ofStack_23 2 rfl ?_
        refine g_bipush 24 hC (93 : Int32) dX5_ofStack_24 (by decide) ?_
        refine kX5_pair 26 hC (k1 h3) gX5_ofStack_X5_pair ⟨Nat.le_of_ble_eq_true rfl, Nat.le_of_ble_eq_true rfl⟩ dX5_ofStack_26 (Nat.le_of_ble_eq_true rfl) ?_
        refine g_goto 29 hC 43 dX5_ofStack_29 (by decide) ?_
        exact J4 _ (Eq.symm (if_neg h3))
  · skip
    refine g_if_eq 10 hC 17 dX5_ofStack_10 (by decide) (fun h1 => ?_) (fun h1 => ?_)
    · skip
      refine g_iconst 17 hC (0 : Int32) dX5_ofStack_17 (by decide) ?_
      exact J2 _ (Eq.symm (if_pos h1))
    · skip
      refine g_iconst 13 hC (1 : Int32) dX5_ofStack_13 (by decide) ?_
      refine g_goto 14 hC 18 dX5_ofStack_14 (by decide) ?_
      exact J2 _ (Eq.symm (if_neg h1))
theorem kX5_ofStack {K : KT} {h : HM} {cc : ByteArray} {nL : Nat} {own : String} {Ts : List Cond} {rm : Room} {ret : Option FieldType} {T : ST × Option Value} {u : ST} {lv : List (Nat × Value)} {rest : List Value} {idx : Nat} {a1 : Int32} (pc : Nat) (hC : Cx K (EM h) cc nL own Ts rm ret) (hok : okX5_ofStack a1 u) (hT : GoodIn Ts (wsV own idx RX5 yX5_ofStack wsX5_ofStack)) (hR : rmX5_ofStack.frames + 1 ≤ rm.frames ∧ 8 + (6 + 11) + rmX5_ofStack.locals ≤ rm.locals) (hdg : decode cc pc = .ok (.invokevirtual idx, 3)) (hcat : (rest.map fun v => v.category).sum ≤ 8) (kk : G K (EM h) nL T (fX5_ofStack a1 u).1 (pc + 3) lv (.int (fX5_ofStack a1 u).2 :: rest)) : G K (EM h) nL T u pc lv (.int a1 :: .ref (mO h) :: rest) := g_callV (n := 1) pc hC (As := [.int a1]) (rest := rest) (cX5_ofStack_ _ (Cx.ok hC) a1 u hok) hT rfl rfl rfl (by decide +kernel) hR 0 3 rfl rfl rfl rfl rfl hcat hdg kk

def fX5_moves (a1 : Int32) (a2 : Int32) (a3 : Int32) (u : ST) : ST × Int32 :=
  if (fX5_isFar a1) = 0 then
    ((if a3 = 0 then (wD u a2 (rD u a1)) else (wD u a1 (rD u a2))), (0 : Int32))
  else
    (u, (3 : Int32))
def okX5_moves (a1 : Int32) (a2 : Int32) (a3 : Int32) (u : ST) : Prop := (((fX5_isFar a1) = 0) → (a3 = 0) → vp_in a1 1024) ∧ (((fX5_isFar a1) = 0) → (a3 = 0) → vp_in a2 1024) ∧ (((fX5_isFar a1) = 0) → (¬ a3 = 0) → vp_in a2 1024) ∧ (((fX5_isFar a1) = 0) → (¬ a3 = 0) → vp_in a1 1024) ∧ True
theorem fiX5_moves_wsX50 : ∀ w ∈ wsX50, w ∈ wsX5_moves := fun w h => List.mem_cons_of_mem _ (List.mem_append_right _ h)
theorem fmX5_moves_13 : Cond.fieldLink RX5 13 "FlagCoreModel" "data" "[I" ∈ wsX5_moves := List.mem_of_getElem? (i := 1) rfl
abbrev rmX5_moves : Room := { frames := 1, cells := 0, slots := 0, locals := 20 }
set_option maxRecDepth 20000 in
theorem cX5_moves_ (h : HM) (hE : okE (EM h)) (a1 : Int32) (a2 : Int32) (a3 : Int32) (u : ST) (hok : okX5_moves a1 a2 a3 u) : MX (EM h) yX5_moves wsX5_moves rmX5_moves [.ref (mO h), .int a1, .int a2, .int a3] u (tW (fX5_moves a1 a2 a3 u)) := by
  obtain ⟨k0, k1, k2, k3, -⟩ := hok
  refine MX.of (cc := cX5_moves) (maxL := 4) (ret := (some .int)) (lv := [(0, .ref (mO h)), (1, .int a1), (2, .int a2), (3, .int a3)]) hE (by decide) rfl (fun _ => rfl) (Nat.le_of_ble_eq_true rfl) rfl (fun K hC => ?_)
  unfold fX5_moves
  refine g_iload_n 0 hC dX5_moves_0 1 rfl ?_
  refine kX5_isFar 1 hC gX5_moves_X5_isFar ⟨Nat.le_of_ble_eq_true rfl, Nat.le_of_ble_eq_true rfl⟩ dX5_moves_1 (Nat.le_of_ble_eq_true rfl) ?_
  refine g_if_eqT (tW) 4 hC 9 dX5_moves_4 (by decide) (fun h1 => ?_) (fun h1 => ?_)
  · skip
    refine g_iload_n 9 hC dX5_moves_9 3 rfl ?_
    refine g_cutS 40 (if a3 = 0 then (wD u a2 (rD u a1)) else (wD u a1 (rD u a2))) [] ?_ (fun J3 => ?_)
    · skip
      refine g_iconst 40 hC (0 : Int32) dX5_moves_40 (by decide) ?_
      exact g_iretW 41 hC dX5_moves_41
    · skip
      refine g_if_eq 10 hC 28 dX5_moves_10 (by decide) (fun h2 => ?_) (fun h2 => ?_)
      · skip
        refine g_aload_n 28 hC dX5_moves_28 0 rfl ?_
        refine m_get_data 29 hC fiX5_moves_wsX50 fmX5_moves_13 dX5_moves_29 ?_
        refine g_iload_n 32 hC dX5_moves_32 2 rfl ?_
        refine g_aload_n 33 hC dX5_moves_33 0 rfl ?_
        refine m_get_data 34 hC fiX5_moves_wsX50 fmX5_moves_13 dX5_moves_34 ?_
        refine g_iload_n 37 hC dX5_moves_37 1 rfl ?_
        refine m_ldD 38 hC (k0 h1 h2) dX5_moves_38 ?_
        refine m_stD 39 hC (k1 h1 h2) dX5_moves_39 ?_
        exact J3 _ (Eq.symm (if_pos h2))
      · skip
        refine g_aload_n 13 hC dX5_moves_13 0 rfl ?_
        refine m_get_data 14 hC fiX5_moves_wsX50 fmX5_moves_13 dX5_moves_14 ?_
        refine g_iload_n 17 hC dX5_moves_17 1 rfl ?_
        refine g_aload_n 18 hC dX5_moves_18 0 rfl ?_
        refine m_get_data 19 hC fiX5_moves_wsX50 fmX5_moves_13 dX5_moves_19 ?_
        refine g_iload_n 22 hC dX5_moves_22 2 rfl ?_
        refine m_ldD 23 hC (k2 h1 h2) dX5_moves_23 ?_
        refine m_stD 24 hC (k3 h1 h2) dX5_moves_24 ?_
        refine g_goto 25 hC 40 dX5_moves_25 (by decide) ?_
        exact J3 _ (Eq.symm (if_neg h2))
  · skip
    refine g_iconst 7 hC (3 : Int32) dX5_moves_7 (by decide) ?_
    exact g_iretW 8 hC dX5_moves_8
theorem kX5_moves {K : KT} {h : HM} {cc : ByteArray} {nL : Nat} {own : String} {Ts : List Cond} {rm : Room} {ret : Option FieldType} {T : ST × Option Value} {u : ST} {lv : List (Nat × Value)} {rest : List Value} {idx : Nat} {a1 : Int32} {a2 : Int32} {a3 : Int32} (pc : Nat) (hC : Cx K (EM h) cc nL own Ts rm ret) (hok : okX5_moves a1 a2 a3 u) (hT : GoodIn Ts (wsV own idx RX5 yX5_moves wsX5_moves)) (hR : rmX5_moves.frames + 1 ≤ rm.frames ∧ 8 + (4 + 11) + rmX5_moves.locals ≤ rm.locals) (hdg : decode cc pc = .ok (.invokevirtual idx, 3)) (hcat : (rest.map fun v => v.category).sum ≤ 8) (kk : G K (EM h) nL T (fX5_moves a1 a2 a3 u).1 (pc + 3) lv (.int (fX5_moves a1 a2 a3 u).2 :: rest)) : G K (EM h) nL T u pc lv (.int a3 :: .int a2 :: .int a1 :: .ref (mO h) :: rest) := g_callV (n := 3) pc hC (As := [.int a1, .int a2, .int a3]) (rest := rest) (cX5_moves_ _ (Cx.ok hC) a1 a2 a3 u hok) hT rfl rfl rfl (by decide +kernel) hR 0 3 rfl rfl rfl rfl rfl hcat hdg kk

def fX5_ofMemory (a1 : Int32) (u : ST) : ST × Int32 :=
  if (a1 &&& (15 : Int32)) = (15 : Int32) then
    (fX5_ofStack a1 u)
  else
    if (a1 &&& (15 : Int32)) = 0 then
      (fX5_moves (rC u (gNx u)) (fX5_dOf a1) (if (a1 &&& (512 : Int32)) = 0 then (0 : Int32) else (1 : Int32)) (sNx u (((gNx u) + (1 : Int32)) &&& (1023 : Int32))))
    else
      if (a1 &&& (15 : Int32)) = (4 : Int32) then
        ((if (a1 &&& (15 : Int32)) = (5 : Int32) then (fX5_setPair (30 : Int32) (((fX5_pair (30 : Int32) u) + (1 : Int32)) &&& (65535 : Int32)) (wD u (fX5_dOf a1) (fX5_codeByte (fX5_pair (30 : Int32) u) u))) else (wD u (fX5_dOf a1) (fX5_codeByte (fX5_pair (30 : Int32) u) u))), (0 : Int32))
      else
        if (a1 &&& (15 : Int32)) = (5 : Int32) then
          ((if (a1 &&& (15 : Int32)) = (5 : Int32) then (fX5_setPair (30 : Int32) (((fX5_pair (30 : Int32) u) + (1 : Int32)) &&& (65535 : Int32)) (wD u (fX5_dOf a1) (fX5_codeByte (fX5_pair (30 : Int32) u) u))) else (wD u (fX5_dOf a1) (fX5_codeByte (fX5_pair (30 : Int32) u) u))), (0 : Int32))
        else
          if (a1 &&& (15 : Int32)) = (12 : Int32) then
            (fX5_moves (fX5_pair (26 : Int32) u) (fX5_dOf a1) (if (a1 &&& (512 : Int32)) = 0 then (0 : Int32) else (1 : Int32)) u)
          else
            if (fX5_isFar (if (if (a1 &&& (15 : Int32)) = (2 : Int32) then (1 : Int32) else (if (a1 &&& (15 : Int32)) = (10 : Int32) then (1 : Int32) else (if (a1 &&& (15 : Int32)) = (14 : Int32) then (1 : Int32) else (0 : Int32)))) = 0 then (fX5_pair (fX5_changes a1) u) else (((fX5_pair (fX5_changes a1) u) - (1 : Int32)) &&& (65535 : Int32)))) = 0 then
              ((if (if (a1 &&& (15 : Int32)) = (2 : Int32) then (1 : Int32) else (if (a1 &&& (15 : Int32)) = (10 : Int32) then (1 : Int32) else (if (a1 &&& (15 : Int32)) = (14 : Int32) then (1 : Int32) else (0 : Int32)))) = 0 then (fX5_setPair (fX5_changes a1) (((fX5_pair (fX5_changes a1) u) + (1 : Int32)) &&& (65535 : Int32)) ((fX5_moves (if (if (a1 &&& (15 : Int32)) = (2 : Int32) then (1 : Int32) else (if (a1 &&& (15 : Int32)) = (10 : Int32) then (1 : Int32) else (if (a1 &&& (15 : Int32)) = (14 : Int32) then (1 : Int32) else (0 : Int32)))) = 0 then (fX5_pair (fX5_changes a1) u) else (((fX5_pair (fX5_changes a1) u) - (1 : Int32)) &&& (65535 : Int32))) (fX5_dOf a1) (if (a1 &&& (512 : Int32)) = 0 then (0 : Int32) else (1 : Int32)) (if (if (a1 &&& (15 : Int32)) = (2 : Int32) then (1 : Int32) else (if (a1 &&& (15 : Int32)) = (10 : Int32) then (1 : Int32) else (if (a1 &&& (15 : Int32)) = (14 : Int32) then (1 : Int32) else (0 : Int32)))) = 0 then u else (fX5_setPair (fX5_changes a1) (if (if (a1 &&& (15 : Int32)) = (2 : Int32) then (1 : Int32) else (if (a1 &&& (15 : Int32)) = (10 : Int32) then (1 : Int32) else (if (a1 &&& (15 : Int32)) = (14 : Int32) then (1 : Int32) else (0 : Int32)))) = 0 then (fX5_pair (fX5_changes a1) u) else (((fX5_pair (fX5_changes a1) u) - (1 : Int32)) &&& (65535 : Int32))) u))).1)) else ((fX5_moves (if (if (a1 &&& (15 : Int32)) = (2 : Int32) then (1 : Int32) else (if (a1 &&& (15 : Int32)) = (10 : Int32) then (1 : Int32) else (if (a1 &&& (15 : Int32)) = (14 : Int32) then (1 : Int32) else (0 : Int32)))) = 0 then (fX5_pair (fX5_changes a1) u) else (((fX5_pair (fX5_changes a1) u) - (1 : Int32)) &&& (65535 : Int32))) (fX5_dOf a1) (if (a1 &&& (512 : Int32)) = 0 then (0 : Int32) else (1 : Int32)) (if (if (a1 &&& (15 : Int32)) = (2 : Int32) then (1 : Int32) else (if (a1 &&& (15 : Int32)) = (10 : Int32) then (1 : Int32) else (if (a1 &&& (15 : Int32)) = (14 : Int32) then (1 : Int32) else (0 : Int32)))) = 0 then u else (fX5_setPair (fX5_changes a1) (if (if (a1 &&& (15 : Int32)) = (2 : Int32) then (1 : Int32) else (if (a1 &&& (15 : Int32)) = (10 : Int32) then (1 : Int32) else (if (a1 &&& (15 : Int32)) = (14 : Int32) then (1 : Int32) else (0 : Int32)))) = 0 then (fX5_pair (fX5_changes a1) u) else (((fX5_pair (fX5_changes a1) u) - (1 : Int32)) &&& (65535 : Int32))) u))).1)), (fX5_moves (if (if (a1 &&& (15 : Int32)) = (2 : Int32) then (1 : Int32) else (if (a1 &&& (15 : Int32)) = (10 : Int32) then (1 : Int32) else (if (a1 &&& (15 : Int32)) = (14 : Int32) then (1 : Int32) else (0 : Int32)))) = 0 then (fX5_pair (fX5_changes a1) u) else (((fX5_pair (fX5_changes a1) u) - (1 : Int32)) &&& (65535 : Int32))) (fX5_dOf a1) (if (a1 &&& (512 : Int32)) = 0 then (0 : Int32) else (1 : Int32)) (if (if (a1 &&& (15 : Int32)) = (2 : Int32) then (1 : Int32) else (if (a1 &&& (15 : Int32)) = (10 : Int32) then (1 : Int32) else (if (a1 &&& (15 : Int32)) = (14 : Int32) then (1 : Int32) else (0 : Int32)))) = 0 then u else (fX5_setPair (fX5_changes a1) (if (if (a1 &&& (15 : Int32)) = (2 : Int32) then (1 : Int32) else (if (a1 &&& (15 : Int32)) = (10 : Int32) then (1 : Int32) else (if (a1 &&& (15 : Int32)) = (14 : Int32) then (1 : Int32) else (0 : Int32)))) = 0 then (fX5_pair (fX5_changes a1) u) else (((fX5_pair (fX5_changes a1) u) - (1 : Int32)) &&& (65535 : Int32))) u))).2)
            else
              (u, (3 : Int32))
def okX5_ofMemory (a1 : Int32) (u : ST) : Prop := ((¬ (a1 &&& (15 : Int32)) = (15 : Int32)) → (¬ (a1 &&& (15 : Int32)) = 0) → ((a1 &&& (15 : Int32)) = (4 : Int32)) → okX5_pair (30 : Int32) u) ∧ ((¬ (a1 &&& (15 : Int32)) = (15 : Int32)) → (¬ (a1 &&& (15 : Int32)) = 0) → ((a1 &&& (15 : Int32)) = (4 : Int32)) → vp_in (fX5_dOf a1) 1024) ∧ ((¬ (a1 &&& (15 : Int32)) = (15 : Int32)) → (¬ (a1 &&& (15 : Int32)) = 0) → ((a1 &&& (15 : Int32)) = (4 : Int32)) → ((a1 &&& (15 : Int32)) = (5 : Int32)) → okX5_setPair (30 : Int32) (((fX5_pair (30 : Int32) u) + (1 : Int32)) &&& (65535 : Int32)) (wD u (fX5_dOf a1) (fX5_codeByte (fX5_pair (30 : Int32) u) u))) ∧ ((¬ (a1 &&& (15 : Int32)) = (15 : Int32)) → (¬ (a1 &&& (15 : Int32)) = 0) → (¬ (a1 &&& (15 : Int32)) = (4 : Int32)) → (¬ (a1 &&& (15 : Int32)) = (5 : Int32)) → (¬ (a1 &&& (15 : Int32)) = (12 : Int32)) → okX5_pair (fX5_changes a1) u) ∧ ((¬ (a1 &&& (15 : Int32)) = (15 : Int32)) → (¬ (a1 &&& (15 : Int32)) = 0) → (¬ (a1 &&& (15 : Int32)) = (4 : Int32)) → (¬ (a1 &&& (15 : Int32)) = (5 : Int32)) → (¬ (a1 &&& (15 : Int32)) = (12 : Int32)) → ((fX5_isFar (if (if (a1 &&& (15 : Int32)) = (2 : Int32) then (1 : Int32) else (if (a1 &&& (15 : Int32)) = (10 : Int32) then (1 : Int32) else (if (a1 &&& (15 : Int32)) = (14 : Int32) then (1 : Int32) else (0 : Int32)))) = 0 then (fX5_pair (fX5_changes a1) u) else (((fX5_pair (fX5_changes a1) u) - (1 : Int32)) &&& (65535 : Int32)))) = 0) → (¬ (if (a1 &&& (15 : Int32)) = (2 : Int32) then (1 : Int32) else (if (a1 &&& (15 : Int32)) = (10 : Int32) then (1 : Int32) else (if (a1 &&& (15 : Int32)) = (14 : Int32) then (1 : Int32) else (0 : Int32)))) = 0) → okX5_setPair (fX5_changes a1) (if (if (a1 &&& (15 : Int32)) = (2 : Int32) then (1 : Int32) else (if (a1 &&& (15 : Int32)) = (10 : Int32) then (1 : Int32) else (if (a1 &&& (15 : Int32)) = (14 : Int32) then (1 : Int32) else (0 : Int32)))) = 0 then (fX5_pair (fX5_changes a1) u) else (((fX5_pair (fX5_changes a1) u) - (1 : Int32)) &&& (65535 : Int32))) u) ∧ ((¬ (a1 &&& (15 : Int32)) = (15 : Int32)) → (¬ (a1 &&& (15 : Int32)) = 0) → (¬ (a1 &&& (15 : Int32)) = (4 : Int32)) → (¬ (a1 &&& (15 : Int32)) = (5 : Int32)) → (¬ (a1 &&& (15 : Int32)) = (12 : Int32)) → ((fX5_isFar (if (if (a1 &&& (15 : Int32)) = (2 : Int32) then (1 : Int32) else (if (a1 &&& (15 : Int32)) = (10 : Int32) then (1 : Int32) else (if (a1 &&& (15 : Int32)) = (14 : Int32) then (1 : Int32) else (0 : Int32)))) = 0 then (fX5_pair (fX5_changes a1) u) else (((fX5_pair (fX5_changes a1) u) - (1 : Int32)) &&& (65535 : Int32)))) = 0) → okX5_moves (if (if (a1 &&& (15 : Int32)) = (2 : Int32) then (1 : Int32) else (if (a1 &&& (15 : Int32)) = (10 : Int32) then (1 : Int32) else (if (a1 &&& (15 : Int32)) = (14 : Int32) then (1 : Int32) else (0 : Int32)))) = 0 then (fX5_pair (fX5_changes a1) u) else (((fX5_pair (fX5_changes a1) u) - (1 : Int32)) &&& (65535 : Int32))) (fX5_dOf a1) (if (a1 &&& (512 : Int32)) = 0 then (0 : Int32) else (1 : Int32)) (if (if (a1 &&& (15 : Int32)) = (2 : Int32) then (1 : Int32) else (if (a1 &&& (15 : Int32)) = (10 : Int32) then (1 : Int32) else (if (a1 &&& (15 : Int32)) = (14 : Int32) then (1 : Int32) else (0 : Int32)))) = 0 then u else (fX5_setPair (fX5_changes a1) (if (if (a1 &&& (15 : Int32)) = (2 : Int32) then (1 : Int32) else (if (a1 &&& (15 : Int32)) = (10 : Int32) then (1 : Int32) else (if (a1 &&& (15 : Int32)) = (14 : Int32) then (1 : Int32) else (0 : Int32)))) = 0 then (fX5_pair (fX5_changes a1) u) else (((fX5_pair (fX5_changes a1) u) - (1 : Int32)) &&& (65535 : Int32))) u))) ∧ ((¬ (a1 &&& (15 : Int32)) = (15 : Int32)) → (¬ (a1 &&& (15 : Int32)) = 0) → (¬ (a1 &&& (15 : Int32)) = (4 : Int32)) → (¬ (a1 &&& (15 : Int32)) = (5 : Int32)) → (¬ (a1 &&& (15 : Int32)) = (12 : Int32)) → ((fX5_isFar (if (if (a1 &&& (15 : Int32)) = (2 : Int32) then (1 : Int32) else (if (a1 &&& (15 : Int32)) = (10 : Int32) then (1 : Int32) else (if (a1 &&& (15 : Int32)) = (14 : Int32) then (1 : Int32) else (0 : Int32)))) = 0 then (fX5_pair (fX5_changes a1) u) else (((fX5_pair (fX5_changes a1) u) - (1 : Int32)) &&& (65535 : Int32)))) = 0) → ((if (a1 &&& (15 : Int32)) = (2 : Int32) then (1 : Int32) else (if (a1 &&& (15 : Int32)) = (10 : Int32) then (1 : Int32) else (if (a1 &&& (15 : Int32)) = (14 : Int32) then (1 : Int32) else (0 : Int32)))) = 0) → okX5_setPair (fX5_changes a1) (((fX5_pair (fX5_changes a1) u) + (1 : Int32)) &&& (65535 : Int32)) ((fX5_moves (if (if (a1 &&& (15 : Int32)) = (2 : Int32) then (1 : Int32) else (if (a1 &&& (15 : Int32)) = (10 : Int32) then (1 : Int32) else (if (a1 &&& (15 : Int32)) = (14 : Int32) then (1 : Int32) else (0 : Int32)))) = 0 then (fX5_pair (fX5_changes a1) u) else (((fX5_pair (fX5_changes a1) u) - (1 : Int32)) &&& (65535 : Int32))) (fX5_dOf a1) (if (a1 &&& (512 : Int32)) = 0 then (0 : Int32) else (1 : Int32)) (if (if (a1 &&& (15 : Int32)) = (2 : Int32) then (1 : Int32) else (if (a1 &&& (15 : Int32)) = (10 : Int32) then (1 : Int32) else (if (a1 &&& (15 : Int32)) = (14 : Int32) then (1 : Int32) else (0 : Int32)))) = 0 then u else (fX5_setPair (fX5_changes a1) (if (if (a1 &&& (15 : Int32)) = (2 : Int32) then (1 : Int32) else (if (a1 &&& (15 : Int32)) = (10 : Int32) then (1 : Int32) else (if (a1 &&& (15 : Int32)) = (14 : Int32) then (1 : Int32) else (0 : Int32)))) = 0 then (fX5_pair (fX5_changes a1) u) else (((fX5_pair (fX5_changes a1) u) - (1 : Int32)) &&& (65535 : Int32))) u))).1)) ∧ ((¬ (a1 &&& (15 : Int32)) = (15 : Int32)) → (¬ (a1 &&& (15 : Int32)) = 0) → (¬ (a1 &&& (15 : Int32)) = (4 : Int32)) → (¬ (a1 &&& (15 : Int32)) = (5 : Int32)) → ((a1 &&& (15 : Int32)) = (12 : Int32)) → okX5_pair (26 : Int32) u) ∧ ((¬ (a1 &&& (15 : Int32)) = (15 : Int32)) → (¬ (a1 &&& (15 : Int32)) = 0) → (¬ (a1 &&& (15 : Int32)) = (4 : Int32)) → (¬ (a1 &&& (15 : Int32)) = (5 : Int32)) → ((a1 &&& (15 : Int32)) = (12 : Int32)) → okX5_moves (fX5_pair (26 : Int32) u) (fX5_dOf a1) (if (a1 &&& (512 : Int32)) = 0 then (0 : Int32) else (1 : Int32)) u) ∧ ((¬ (a1 &&& (15 : Int32)) = (15 : Int32)) → (¬ (a1 &&& (15 : Int32)) = 0) → (¬ (a1 &&& (15 : Int32)) = (4 : Int32)) → ((a1 &&& (15 : Int32)) = (5 : Int32)) → okX5_pair (30 : Int32) u) ∧ ((¬ (a1 &&& (15 : Int32)) = (15 : Int32)) → (¬ (a1 &&& (15 : Int32)) = 0) → (¬ (a1 &&& (15 : Int32)) = (4 : Int32)) → ((a1 &&& (15 : Int32)) = (5 : Int32)) → vp_in (fX5_dOf a1) 1024) ∧ ((¬ (a1 &&& (15 : Int32)) = (15 : Int32)) → (¬ (a1 &&& (15 : Int32)) = 0) → (¬ (a1 &&& (15 : Int32)) = (4 : Int32)) → ((a1 &&& (15 : Int32)) = (5 : Int32)) → ((a1 &&& (15 : Int32)) = (5 : Int32)) → okX5_setPair (30 : Int32) (((fX5_pair (30 : Int32) u) + (1 : Int32)) &&& (65535 : Int32)) (wD u (fX5_dOf a1) (fX5_codeByte (fX5_pair (30 : Int32) u) u))) ∧ ((¬ (a1 &&& (15 : Int32)) = (15 : Int32)) → ((a1 &&& (15 : Int32)) = 0) → vp_in (gNx u) 1024) ∧ ((¬ (a1 &&& (15 : Int32)) = (15 : Int32)) → ((a1 &&& (15 : Int32)) = 0) → okX5_moves (rC u (gNx u)) (fX5_dOf a1) (if (a1 &&& (512 : Int32)) = 0 then (0 : Int32) else (1 : Int32)) (sNx u (((gNx u) + (1 : Int32)) &&& (1023 : Int32)))) ∧ (((a1 &&& (15 : Int32)) = (15 : Int32)) → okX5_ofStack a1 u) ∧ True
theorem fiX5_ofMemory_wsX50 : ∀ w ∈ wsX50, w ∈ wsX5_ofMemory := fun w h => List.mem_cons_of_mem _ (List.mem_append_right _ h)
theorem fmX5_ofMemory_13 : Cond.fieldLink RX5 13 "FlagCoreModel" "data" "[I" ∈ wsX5_ofMemory := List.mem_of_getElem? (i := 3) rfl
theorem cmX5_ofMemory_27 : Jvm.Cond.constant RX5 27 (65535 : Int32) ∈ wsX5_ofMemory := List.mem_of_getElem? (i := 4) rfl
theorem fmX5_ofMemory_7 : Cond.fieldLink RX5 7 "FlagCoreModel" "code" "[I" ∈ wsX5_ofMemory := List.mem_of_getElem? (i := 1) rfl
theorem fmX5_ofMemory_84 : Cond.fieldLink RX5 84 "FlagCoreModel" "next" "I" ∈ wsX5_ofMemory := List.mem_of_getElem? (i := 2) rfl
abbrev rmX5_ofMemory : Room := { frames := 3, cells := 0, slots := 0, locals := 69 }
set_option maxRecDepth 20000 in
theorem cX5_ofMemory_ (h : HM) (hE : okE (EM h)) (a1 : Int32) (u : ST) (hok : okX5_ofMemory a1 u) : MX (EM h) yX5_ofMemory wsX5_ofMemory rmX5_ofMemory [.ref (mO h), .int a1] u (tW (fX5_ofMemory a1 u)) := by
  obtain ⟨k0, k1, k2, k3, k4, k5, k6, k7, k8, k9, k10, k11, k12, k13, k14, -⟩ := hok
  refine MX.of (cc := cX5_ofMemory) (maxL := 10) (ret := (some .int)) (lv := [(0, .ref (mO h)), (1, .int a1)]) hE (by decide) rfl (fun _ => rfl) (Nat.le_of_ble_eq_true rfl) rfl (fun K hC => ?_)
  unfold fX5_ofMemory
  refine g_iload_n 0 hC dX5_ofMemory_0 1 rfl ?_
  refine kX5_dOf 1 hC gX5_ofMemory_X5_dOf ⟨Nat.le_of_ble_eq_true rfl, Nat.le_of_ble_eq_true rfl⟩ dX5_ofMemory_1 (Nat.le_of_ble_eq_true rfl) ?_
  refine g_istore_n 4 hC dX5_ofMemory_4 (by decide) [(2, .int ((fX5_dOf a1))), (0, .ref (mO h)), (1, .int a1)] rfl ?_
  refine g_iload_n 5 hC dX5_ofMemory_5 2 rfl ?_
  refine g_bipush 6 hC (15 : Int32) dX5_ofMemory_6 (by decide) ?_
  refine g_iand 8 hC dX5_ofMemory_8 ?_
  refine g_istore_n 9 hC dX5_ofMemory_9 (by decide) [(3, .int ((a1 &&& (15 : Int32)))), (2, .int ((fX5_dOf a1))), (0, .ref (mO h)), (1, .int a1)] rfl ?_
  refine g_iload_n 10 hC dX5_ofMemory_10 3 rfl ?_
  refine g_sipush 11 hC (512 : Int32) dX5_ofMemory_11 (by decide) ?_
  refine g_iand 14 hC dX5_ofMemory_14 ?_
  refine g_cut 23 (if (a1 &&& (512 : Int32)) = 0 then (0 : Int32) else (1 : Int32)) [] ?_ (fun J2 => ?_)
  · skip
    refine g_istore 23 hC dX5_ofMemory_23 (by decide) [(4, .int ((if (a1 &&& (512 : Int32)) = 0 then (0 : Int32) else (1 : Int32)))), (3, .int ((a1 &&& (15 : Int32)))), (2, .int ((fX5_dOf a1))), (0, .ref (mO h)), (1, .int a1)] rfl ?_
    refine g_iload_n 25 hC dX5_ofMemory_25 1 rfl ?_
    refine g_bipush 26 hC (15 : Int32) dX5_ofMemory_26 (by decide) ?_
    refine g_icmp_neT (tW) 28 hC 37 dX5_ofMemory_28 (by decide) (fun h3 => ?_) (fun h3 => ?_)
    · skip
      refine g_iload_n 37 hC dX5_ofMemory_37 1 rfl ?_
      refine g_if_neT (tW) 38 hC 76 dX5_ofMemory_38 (by decide) (fun h4 => ?_) (fun h4 => ?_)
      · skip
        refine g_iload_n 76 hC dX5_ofMemory_76 1 rfl ?_
        refine g_iconst 77 hC (4 : Int32) dX5_ofMemory_77 (by decide) ?_
        refine g_icmp_eqT (tW) 78 hC 86 dX5_ofMemory_78 (by decide) (fun h5 => ?_) (fun h5 => ?_)
        · skip
          refine g_aload_n 86 hC dX5_ofMemory_86 3 rfl ?_
          refine g_bipush 87 hC (30 : Int32) dX5_ofMemory_87 (by decide) ?_
          refine kX5_pair 89 hC (k0 h3 h4 h5) gX5_ofMemory_X5_pair ⟨Nat.le_of_ble_eq_true rfl, Nat.le_of_ble_eq_true rfl⟩ dX5_ofMemory_89 (Nat.le_of_ble_eq_true rfl) ?_
          refine g_istore 92 hC dX5_ofMemory_92 (by decide) [(5, .int ((fX5_pair (30 : Int32) u))), (4, .int ((if (a1 &&& (512 : Int32)) = 0 then (0 : Int32) else (1 : Int32)))), (3, .int ((a1 &&& (15 : Int32)))), (2, .int ((fX5_dOf a1))), (0, .ref (mO h)), (1, .int a1)] rfl ?_
          refine g_aload_n 94 hC dX5_ofMemory_94 4 rfl ?_
          refine m_get_data 95 hC fiX5_ofMemory_wsX50 fmX5_ofMemory_13 dX5_ofMemory_95 ?_
          refine g_iload_n 98 hC dX5_ofMemory_98 3 rfl ?_
          refine g_aload_n 99 hC dX5_ofMemory_99 4 rfl ?_
          refine g_iload 100 hC dX5_ofMemory_100 0 rfl ?_
          refine kX5_codeByte 102 hC gX5_ofMemory_X5_codeByte ⟨Nat.le_of_ble_eq_true rfl, Nat.le_of_ble_eq_true rfl⟩ dX5_ofMemory_102 (Nat.le_of_ble_eq_true rfl) ?_
          refine m_stD 105 hC (k1 h3 h4 h5) dX5_ofMemory_105 ?_
          refine g_iload_n 106 hC dX5_ofMemory_106 2 rfl ?_
          refine g_iconst 107 hC (5 : Int32) dX5_ofMemory_107 (by decide) ?_
          refine g_cutS 124 (if (a1 &&& (15 : Int32)) = (5 : Int32) then (fX5_setPair (30 : Int32) (((fX5_pair (30 : Int32) u) + (1 : Int32)) &&& (65535 : Int32)) (wD u (fX5_dOf a1) (fX5_codeByte (fX5_pair (30 : Int32) u) u))) else (wD u (fX5_dOf a1) (fX5_codeByte (fX5_pair (30 : Int32) u) u))) [] ?_ (fun J7 => ?_)
          · skip
            refine g_iconst 124 hC (0 : Int32) dX5_ofMemory_124 (by decide) ?_
            exact g_iretW 125 hC dX5_ofMemory_125
          · skip
            refine g_icmp_ne 108 hC 124 dX5_ofMemory_108 (by decide) (fun h6 => ?_) (fun h6 => ?_)
            · skip
              exact J7 _ (Eq.symm (if_neg h6))
            · skip
              refine g_aload_n 111 hC dX5_ofMemory_111 4 rfl ?_
              refine g_bipush 112 hC (30 : Int32) dX5_ofMemory_112 (by decide) ?_
              refine g_iload 114 hC dX5_ofMemory_114 0 rfl ?_
              refine g_iconst 116 hC (1 : Int32) dX5_ofMemory_116 (by decide) ?_
              refine g_iadd 117 hC dX5_ofMemory_117 ?_
              refine g_ldc 118 hC (65535 : Int32) dX5_ofMemory_118 cmX5_ofMemory_27 ?_
              refine g_iand 120 hC dX5_ofMemory_120 ?_
              refine kX5_setPair 121 hC (k2 h3 h4 h5 h6) gX5_ofMemory_X5_setPair ⟨Nat.le_of_ble_eq_true rfl, Nat.le_of_ble_eq_true rfl⟩ dX5_ofMemory_121 (Nat.le_of_ble_eq_true rfl) ?_
              exact J7 _ (Eq.symm (if_pos h6))
        · skip
          refine g_iload_n 81 hC dX5_ofMemory_81 1 rfl ?_
          refine g_iconst 82 hC (5 : Int32) dX5_ofMemory_82 (by decide) ?_
          refine g_icmp_neT (tW) 83 hC 126 dX5_ofMemory_83 (by decide) (fun h8 => ?_) (fun h8 => ?_)
          · skip
            refine g_iload_n 126 hC dX5_ofMemory_126 1 rfl ?_
            refine g_bipush 127 hC (12 : Int32) dX5_ofMemory_127 (by decide) ?_
            refine g_icmp_neT (tW) 129 hC 146 dX5_ofMemory_129 (by decide) (fun h9 => ?_) (fun h9 => ?_)
            · skip
              refine g_iload_n 146 hC dX5_ofMemory_146 4 rfl ?_
              refine kX5_changes 147 hC gX5_ofMemory_X5_changes ⟨Nat.le_of_ble_eq_true rfl, Nat.le_of_ble_eq_true rfl⟩ dX5_ofMemory_147 (Nat.le_of_ble_eq_true rfl) ?_
              refine g_istore 150 hC dX5_ofMemory_150 (by decide) [(5, .int ((fX5_changes a1))), (4, .int ((if (a1 &&& (512 : Int32)) = 0 then (0 : Int32) else (1 : Int32)))), (3, .int ((a1 &&& (15 : Int32)))), (2, .int ((fX5_dOf a1))), (0, .ref (mO h)), (1, .int a1)] rfl ?_
              refine g_aload_n 152 hC dX5_ofMemory_152 4 rfl ?_
              refine g_iload 153 hC dX5_ofMemory_153 0 rfl ?_
              refine kX5_pair 155 hC (k3 h3 h4 h5 h8 h9) gX5_ofMemory_X5_pair ⟨Nat.le_of_ble_eq_true rfl, Nat.le_of_ble_eq_true rfl⟩ dX5_ofMemory_155 (Nat.le_of_ble_eq_true rfl) ?_
              refine g_istore 158 hC dX5_ofMemory_158 (by decide) [(6, .int ((fX5_pair (fX5_changes a1) u))), (5, .int ((fX5_changes a1))), (4, .int ((if (a1 &&& (512 : Int32)) = 0 then (0 : Int32) else (1 : Int32)))), (3, .int ((a1 &&& (15 : Int32)))), (2, .int ((fX5_dOf a1))), (0, .ref (mO h)), (1, .int a1)] rfl ?_
              refine g_iload_n 160 hC dX5_ofMemory_160 3 rfl ?_
              refine g_iconst 161 hC (2 : Int32) dX5_ofMemory_161 (by decide) ?_
              refine g_cut 182 (if (a1 &&& (15 : Int32)) = (2 : Int32) then (1 : Int32) else (if (a1 &&& (15 : Int32)) = (10 : Int32) then (1 : Int32) else (if (a1 &&& (15 : Int32)) = (14 : Int32) then (1 : Int32) else (0 : Int32)))) [] ?_ (fun J13 => ?_)
              · skip
                refine g_istore 182 hC dX5_ofMemory_182 (by decide) [(7, .int ((if (a1 &&& (15 : Int32)) = (2 : Int32) then (1 : Int32) else (if (a1 &&& (15 : Int32)) = (10 : Int32) then (1 : Int32) else (if (a1 &&& (15 : Int32)) = (14 : Int32) then (1 : Int32) else (0 : Int32)))))), (6, .int ((fX5_pair (fX5_changes a1) u))), (5, .int ((fX5_changes a1))), (4, .int ((if (a1 &&& (512 : Int32)) = 0 then (0 : Int32) else (1 : Int32)))), (3, .int ((a1 &&& (15 : Int32)))), (2, .int ((fX5_dOf a1))), (0, .ref (mO h)), (1, .int a1)] rfl ?_
                refine g_iload 184 hC dX5_ofMemory_184 0 rfl ?_
                refine g_cut 201 (if (if (a1 &&& (15 : Int32)) = (2 : Int32) then (1 : Int32) else (if (a1 &&& (15 : Int32)) = (10 : Int32) then (1 : Int32) else (if (a1 &&& (15 : Int32)) = (14 : Int32) then (1 : Int32) else (0 : Int32)))) = 0 then (fX5_pair (fX5_changes a1) u) else (((fX5_pair (fX5_changes a1) u) - (1 : Int32)) &&& (65535 : Int32))) [] ?_ (fun J15 => ?_)
                · skip
                  refine g_istore 201 hC dX5_ofMemory_201 (by decide) [(8, .int ((if (if (a1 &&& (15 : Int32)) = (2 : Int32) then (1 : Int32) else (if (a1 &&& (15 : Int32)) = (10 : Int32) then (1 : Int32) else (if (a1 &&& (15 : Int32)) = (14 : Int32) then (1 : Int32) else (0 : Int32)))) = 0 then (fX5_pair (fX5_changes a1) u) else (((fX5_pair (fX5_changes a1) u) - (1 : Int32)) &&& (65535 : Int32))))), (7, .int ((if (a1 &&& (15 : Int32)) = (2 : Int32) then (1 : Int32) else (if (a1 &&& (15 : Int32)) = (10 : Int32) then (1 : Int32) else (if (a1 &&& (15 : Int32)) = (14 : Int32) then (1 : Int32) else (0 : Int32)))))), (6, .int ((fX5_pair (fX5_changes a1) u))), (5, .int ((fX5_changes a1))), (4, .int ((if (a1 &&& (512 : Int32)) = 0 then (0 : Int32) else (1 : Int32)))), (3, .int ((a1 &&& (15 : Int32)))), (2, .int ((fX5_dOf a1))), (0, .ref (mO h)), (1, .int a1)] rfl ?_
                  refine g_iload 203 hC dX5_ofMemory_203 0 rfl ?_
                  refine kX5_isFar 205 hC gX5_ofMemory_X5_isFar ⟨Nat.le_of_ble_eq_true rfl, Nat.le_of_ble_eq_true rfl⟩ dX5_ofMemory_205 (Nat.le_of_ble_eq_true rfl) ?_
                  refine g_if_eqT (tW) 208 hC 213 dX5_ofMemory_208 (by decide) (fun h16 => ?_) (fun h16 => ?_)
                  · skip
                    refine g_iload 213 hC dX5_ofMemory_213 1 rfl ?_
                    refine g_cutS 226 (if (if (a1 &&& (15 : Int32)) = (2 : Int32) then (1 : Int32) else (if (a1 &&& (15 : Int32)) = (10 : Int32) then (1 : Int32) else (if (a1 &&& (15 : Int32)) = (14 : Int32) then (1 : Int32) else (0 : Int32)))) = 0 then u else (fX5_setPair (fX5_changes a1) (if (if (a1 &&& (15 : Int32)) = (2 : Int32) then (1 : Int32) else (if (a1 &&& (15 : Int32)) = (10 : Int32) then (1 : Int32) else (if (a1 &&& (15 : Int32)) = (14 : Int32) then (1 : Int32) else (0 : Int32)))) = 0 then (fX5_pair (fX5_changes a1) u) else (((fX5_pair (fX5_changes a1) u) - (1 : Int32)) &&& (65535 : Int32))) u)) [] ?_ (fun J18 => ?_)
                    · skip
                      refine g_aload_n 226 hC dX5_ofMemory_226 7 rfl ?_
                      refine g_iload 227 hC dX5_ofMemory_227 0 rfl ?_
                      refine g_iload_n 229 hC dX5_ofMemory_229 6 rfl ?_
                      refine g_iload 230 hC dX5_ofMemory_230 4 rfl ?_
                      refine kX5_moves 232 hC (k5 h3 h4 h5 h8 h9 h16) gX5_ofMemory_X5_moves ⟨Nat.le_of_ble_eq_true rfl, Nat.le_of_ble_eq_true rfl⟩ dX5_ofMemory_232 (Nat.le_of_ble_eq_true rfl) ?_
                      refine g_istore 235 hC dX5_ofMemory_235 (by decide) [(9, .int ((fX5_moves (if (if (a1 &&& (15 : Int32)) = (2 : Int32) then (1 : Int32) else (if (a1 &&& (15 : Int32)) = (10 : Int32) then (1 : Int32) else (if (a1 &&& (15 : Int32)) = (14 : Int32) then (1 : Int32) else (0 : Int32)))) = 0 then (fX5_pair (fX5_changes a1) u) else (((fX5_pair (fX5_changes a1) u) - (1 : Int32)) &&& (65535 : Int32))) (fX5_dOf a1) (if (a1 &&& (512 : Int32)) = 0 then (0 : Int32) else (1 : Int32)) (if (if (a1 &&& (15 : Int32)) = (2 : Int32) then (1 : Int32) else (if (a1 &&& (15 : Int32)) = (10 : Int32) then (1 : Int32) else (if (a1 &&& (15 : Int32)) = (14 : Int32) then (1 : Int32) else (0 : Int32)))) = 0 then u else (fX5_setPair (fX5_changes a1) (if (if (a1 &&& (15 : Int32)) = (2 : Int32) then (1 : Int32) else (if (a1 &&& (15 : Int32)) = (10 : Int32) then (1 : Int32) else (if (a1 &&& (15 : Int32)) = (14 : Int32) then (1 : Int32) else (0 : Int32)))) = 0 then (fX5_pair (fX5_changes a1) u) else (((fX5_pair (fX5_changes a1) u) - (1 : Int32)) &&& (65535 : Int32))) u))).2)), (8, .int ((if (if (a1 &&& (15 : Int32)) = (2 : Int32) then (1 : Int32) else (if (a1 &&& (15 : Int32)) = (10 : Int32) then (1 : Int32) else (if (a1 &&& (15 : Int32)) = (14 : Int32) then (1 : Int32) else (0 : Int32)))) = 0 then (fX5_pair (fX5_changes a1) u) else (((fX5_pair (fX5_changes a1) u) - (1 : Int32)) &&& (65535 : Int32))))), (7, .int ((if (a1 &&& (15 : Int32)) = (2 : Int32) then (1 : Int32) else (if (a1 &&& (15 : Int32)) = (10 : Int32) then (1 : Int32) else (if (a1 &&& (15 : Int32)) = (14 : Int32) then (1 : Int32) else (0 : Int32)))))), (6, .int ((fX5_pair (fX5_changes a1) u))), (5, .int ((fX5_changes a1))), (4, .int ((if (a1 &&& (512 : Int32)) = 0 then (0 : Int32) else (1 : Int32)))), (3, .int ((a1 &&& (15 : Int32)))), (2, .int ((fX5_dOf a1))), (0, .ref (mO h)), (1, .int a1)] rfl ?_
                      refine g_iload 237 hC dX5_ofMemory_237 2 rfl ?_
                      refine g_cutS 255 (if (if (a1 &&& (15 : Int32)) = (2 : Int32) then (1 : Int32) else (if (a1 &&& (15 : Int32)) = (10 : Int32) then (1 : Int32) else (if (a1 &&& (15 : Int32)) = (14 : Int32) then (1 : Int32) else (0 : Int32)))) = 0 then (fX5_setPair (fX5_changes a1) (((fX5_pair (fX5_changes a1) u) + (1 : Int32)) &&& (65535 : Int32)) ((fX5_moves (if (if (a1 &&& (15 : Int32)) = (2 : Int32) then (1 : Int32) else (if (a1 &&& (15 : Int32)) = (10 : Int32) then (1 : Int32) else (if (a1 &&& (15 : Int32)) = (14 : Int32) then (1 : Int32) else (0 : Int32)))) = 0 then (fX5_pair (fX5_changes a1) u) else (((fX5_pair (fX5_changes a1) u) - (1 : Int32)) &&& (65535 : Int32))) (fX5_dOf a1) (if (a1 &&& (512 : Int32)) = 0 then (0 : Int32) else (1 : Int32)) (if (if (a1 &&& (15 : Int32)) = (2 : Int32) then (1 : Int32) else (if (a1 &&& (15 : Int32)) = (10 : Int32) then (1 : Int32) else (if (a1 &&& (15 : Int32)) = (14 : Int32) then (1 : Int32) else (0 : Int32)))) = 0 then u else (fX5_setPair (fX5_changes a1) (if (if (a1 &&& (15 : Int32)) = (2 : Int32) then (1 : Int32) else (if (a1 &&& (15 : Int32)) = (10 : Int32) then (1 : Int32) else (if (a1 &&& (15 : Int32)) = (14 : Int32) then (1 : Int32) else (0 : Int32)))) = 0 then (fX5_pair (fX5_changes a1) u) else (((fX5_pair (fX5_changes a1) u) - (1 : Int32)) &&& (65535 : Int32))) u))).1)) else ((fX5_moves (if (if (a1 &&& (15 : Int32)) = (2 : Int32) then (1 : Int32) else (if (a1 &&& (15 : Int32)) = (10 : Int32) then (1 : Int32) else (if (a1 &&& (15 : Int32)) = (14 : Int32) then (1 : Int32) else (0 : Int32)))) = 0 then (fX5_pair (fX5_changes a1) u) else (((fX5_pair (fX5_changes a1) u) - (1 : Int32)) &&& (65535 : Int32))) (fX5_dOf a1) (if (a1 &&& (512 : Int32)) = 0 then (0 : Int32) else (1 : Int32)) (if (if (a1 &&& (15 : Int32)) = (2 : Int32) then (1 : Int32) else (if (a1 &&& (15 : Int32)) = (10 : Int32) then (1 : Int32) else (if (a1 &&& (15 : Int32)) = (14 : Int32) then (1 : Int32) else (0 : Int32)))) = 0 then u else (fX5_setPair (fX5_changes a1) (if (if (a1 &&& (15 : Int32)) = (2 : Int32) then (1 : Int32) else (if (a1 &&& (15 : Int32)) = (10 : Int32) then (1 : Int32) else (if (a1 &&& (15 : Int32)) = (14 : Int32) then (1 : Int32) else (0 : Int32)))) = 0 then (fX5_pair (fX5_changes a1) u) else (((fX5_pair (fX5_changes a1) u) - (1 : Int32)) &&& (65535 : Int32))) u))).1)) [] ?_ (fun J20 => ?_)
                      · skip
                        refine g_iload 255 hC dX5_ofMemory_255 0 rfl ?_
                        exact g_iretW 257 hC dX5_ofMemory_257
                      · skip
                        refine g_if_ne 239 hC 255 dX5_ofMemory_239 (by decide) (fun h19 => ?_) (fun h19 => ?_)
                        · skip
                          exact J20 _ (Eq.symm (if_neg h19))
                        · skip
                          refine g_aload_n 242 hC dX5_ofMemory_242 8 rfl ?_
                          refine g_iload 243 hC dX5_ofMemory_243 4 rfl ?_
                          refine g_iload 245 hC dX5_ofMemory_245 3 rfl ?_
                          refine g_iconst 247 hC (1 : Int32) dX5_ofMemory_247 (by decide) ?_
                          refine g_iadd 248 hC dX5_ofMemory_248 ?_
                          refine g_ldc 249 hC (65535 : Int32) dX5_ofMemory_249 cmX5_ofMemory_27 ?_
                          refine g_iand 251 hC dX5_ofMemory_251 ?_
                          refine kX5_setPair 252 hC (k6 h3 h4 h5 h8 h9 h16 h19) gX5_ofMemory_X5_setPair ⟨Nat.le_of_ble_eq_true rfl, Nat.le_of_ble_eq_true rfl⟩ dX5_ofMemory_252 (Nat.le_of_ble_eq_true rfl) ?_
                          exact J20 _ (Eq.symm (if_pos h19))
                    · skip
                      refine g_if_eq 215 hC 226 dX5_ofMemory_215 (by decide) (fun h17 => ?_) (fun h17 => ?_)
                      · skip
                        exact J18 _ (Eq.symm (if_pos h17))
                      · skip
                        refine g_aload_n 218 hC dX5_ofMemory_218 7 rfl ?_
                        refine g_iload 219 hC dX5_ofMemory_219 3 rfl ?_
                        refine g_iload 221 hC dX5_ofMemory_221 0 rfl ?_
                        refine kX5_setPair 223 hC (k4 h3 h4 h5 h8 h9 h16 h17) gX5_ofMemory_X5_setPair ⟨Nat.le_of_ble_eq_true rfl, Nat.le_of_ble_eq_true rfl⟩ dX5_ofMemory_223 (Nat.le_of_ble_eq_true rfl) ?_
                        exact J18 _ (Eq.symm (if_neg h17))
                  · skip
                    refine g_iconst 211 hC (3 : Int32) dX5_ofMemory_211 (by decide) ?_
                    exact g_iretW 212 hC dX5_ofMemory_212
                · skip
                  refine g_if_eq 186 hC 199 dX5_ofMemory_186 (by decide) (fun h14 => ?_) (fun h14 => ?_)
                  · skip
                    refine g_iload 199 hC dX5_ofMemory_199 1 rfl ?_
                    exact J15 _ (Eq.symm (if_pos h14))
                  · skip
                    refine g_iload 189 hC dX5_ofMemory_189 1 rfl ?_
                    refine g_iconst 191 hC (1 : Int32) dX5_ofMemory_191 (by decide) ?_
                    refine g_isub 192 hC dX5_ofMemory_192 ?_
                    refine g_ldc 193 hC (65535 : Int32) dX5_ofMemory_193 cmX5_ofMemory_27 ?_
                    refine g_iand 195 hC dX5_ofMemory_195 ?_
                    refine g_goto 196 hC 201 dX5_ofMemory_196 (by decide) ?_
                    exact J15 _ (Eq.symm (if_neg h14))
              · skip
                refine g_icmp_eq 162 hC 177 dX5_ofMemory_162 (by decide) (fun h10 => ?_) (fun h10 => ?_)
                · skip
                  refine g_iconst 177 hC (1 : Int32) dX5_ofMemory_177 (by decide) ?_
                  refine g_goto 178 hC 182 dX5_ofMemory_178 (by decide) ?_
                  exact J13 _ (Eq.symm (if_pos h10))
                · skip
                  refine g_iload_n 165 hC dX5_ofMemory_165 3 rfl ?_
                  refine g_bipush 166 hC (10 : Int32) dX5_ofMemory_166 (by decide) ?_
                  refine g_icmp_eq 168 hC 177 dX5_ofMemory_168 (by decide) (fun h11 => ?_) (fun h11 => ?_)
                  · skip
                    refine g_iconst 177 hC (1 : Int32) dX5_ofMemory_177 (by decide) ?_
                    refine g_goto 178 hC 182 dX5_ofMemory_178 (by decide) ?_
                    exact J13 _ (Eq.symm (Eq.trans (if_neg h10) (if_pos h11)))
                  · skip
                    refine g_iload_n 171 hC dX5_ofMemory_171 3 rfl ?_
                    refine g_bipush 172 hC (14 : Int32) dX5_ofMemory_172 (by decide) ?_
                    refine g_icmp_ne 174 hC 181 dX5_ofMemory_174 (by decide) (fun h12 => ?_) (fun h12 => ?_)
                    · skip
                      refine g_iconst 181 hC (0 : Int32) dX5_ofMemory_181 (by decide) ?_
                      exact J13 _ (Eq.symm (Eq.trans (if_neg h10) (Eq.trans (if_neg h11) (if_neg h12))))
                    · skip
                      refine g_iconst 177 hC (1 : Int32) dX5_ofMemory_177 (by decide) ?_
                      refine g_goto 178 hC 182 dX5_ofMemory_178 (by decide) ?_
                      exact J13 _ (Eq.symm (Eq.trans (if_neg h10) (Eq.trans (if_neg h11) (if_pos h12))))
            · skip
              refine g_aload_n 132 hC dX5_ofMemory_132 3 rfl ?_
              refine g_aload_n 133 hC dX5_ofMemory_133 3 rfl ?_
              refine g_bipush 134 hC (26 : Int32) dX5_ofMemory_134 (by decide) ?_
              refine kX5_pair 136 hC (k7 h3 h4 h5 h8 h9) gX5_ofMemory_X5_pair ⟨Nat.le_of_ble_eq_true rfl, Nat.le_of_ble_eq_true rfl⟩ dX5_ofMemory_136 (Nat.le_of_ble_eq_true rfl) ?_
              refine g_iload_n 139 hC dX5_ofMemory_139 2 rfl ?_
              refine g_iload 140 hC dX5_ofMemory_140 0 rfl ?_
              refine kX5_moves 142 hC (k8 h3 h4 h5 h8 h9) gX5_ofMemory_X5_moves ⟨Nat.le_of_ble_eq_true rfl, Nat.le_of_ble_eq_true rfl⟩ dX5_ofMemory_142 (Nat.le_of_ble_eq_true rfl) ?_
              exact g_iret 145 hC dX5_ofMemory_145
          · skip
            refine g_aload_n 86 hC dX5_ofMemory_86 3 rfl ?_
            refine g_bipush 87 hC (30 : Int32) dX5_ofMemory_87 (by decide) ?_
            refine kX5_pair 89 hC (k9 h3 h4 h5 h8) gX5_ofMemory_X5_pair ⟨Nat.le_of_ble_eq_true rfl, Nat.le_of_ble_eq_true rfl⟩ dX5_ofMemory_89 (Nat.le_of_ble_eq_true rfl) ?_
            refine g_istore 92 hC dX5_ofMemory_92 (by decide) [(5, .int ((fX5_pair (30 : Int32) u))), (4, .int ((if (a1 &&& (512 : Int32)) = 0 then (0 : Int32) else (1 : Int32)))), (3, .int ((a1 &&& (15 : Int32)))), (2, .int ((fX5_dOf a1))), (0, .ref (mO h)), (1, .int a1)] rfl ?_
            refine g_aload_n 94 hC dX5_ofMemory_94 4 rfl ?_
            refine m_get_data 95 hC fiX5_ofMemory_wsX50 fmX5_ofMemory_13 dX5_ofMemory_95 ?_
            refine g_iload_n 98 hC dX5_ofMemory_98 3 rfl ?_
            refine g_aload_n 99 hC dX5_ofMemory_99 4 rfl ?_
            refine g_iload 100 hC dX5_ofMemory_100 0 rfl ?_
            refine kX5_codeByte 102 hC gX5_ofMemory_X5_codeByte ⟨Nat.le_of_ble_eq_true rfl, Nat.le_of_ble_eq_true rfl⟩ dX5_ofMemory_102 (Nat.le_of_ble_eq_true rfl) ?_
            refine m_stD 105 hC (k10 h3 h4 h5 h8) dX5_ofMemory_105 ?_
            refine g_iload_n 106 hC dX5_ofMemory_106 2 rfl ?_
            refine g_iconst 107 hC (5 : Int32) dX5_ofMemory_107 (by decide) ?_
            refine g_cutS 124 (if (a1 &&& (15 : Int32)) = (5 : Int32) then (fX5_setPair (30 : Int32) (((fX5_pair (30 : Int32) u) + (1 : Int32)) &&& (65535 : Int32)) (wD u (fX5_dOf a1) (fX5_codeByte (fX5_pair (30 : Int32) u) u))) else (wD u (fX5_dOf a1) (fX5_codeByte (fX5_pair (30 : Int32) u) u))) [] ?_ (fun J22 => ?_)
            · skip
              refine g_iconst 124 hC (0 : Int32) dX5_ofMemory_124 (by decide) ?_
              exact g_iretW 125 hC dX5_ofMemory_125
            · skip
              refine g_icmp_ne 108 hC 124 dX5_ofMemory_108 (by decide) (fun h21 => ?_) (fun h21 => ?_)
              · skip
                exact J22 _ (Eq.symm (if_neg h21))
              · skip
                refine g_aload_n 111 hC dX5_ofMemory_111 4 rfl ?_
                refine g_bipush 112 hC (30 : Int32) dX5_ofMemory_112 (by decide) ?_
                refine g_iload 114 hC dX5_ofMemory_114 0 rfl ?_
                refine g_iconst 116 hC (1 : Int32) dX5_ofMemory_116 (by decide) ?_
                refine g_iadd 117 hC dX5_ofMemory_117 ?_
                refine g_ldc 118 hC (65535 : Int32) dX5_ofMemory_118 cmX5_ofMemory_27 ?_
                refine g_iand 120 hC dX5_ofMemory_120 ?_
                refine kX5_setPair 121 hC (k11 h3 h4 h5 h8 h21) gX5_ofMemory_X5_setPair ⟨Nat.le_of_ble_eq_true rfl, Nat.le_of_ble_eq_true rfl⟩ dX5_ofMemory_121 (Nat.le_of_ble_eq_true rfl) ?_
                exact J22 _ (Eq.symm (if_pos h21))
      · skip
        refine g_aload_n 41 hC dX5_ofMemory_41 3 rfl ?_
        refine m_get_code 42 hC fiX5_ofMemory_wsX50 fmX5_ofMemory_7 dX5_ofMemory_42 ?_
        refine g_aload_n 45 hC dX5_ofMemory_45 3 rfl ?_
        refine m_get_next 46 hC fiX5_ofMemory_wsX50 fmX5_ofMemory_84 dX5_ofMemory_46 ?_
        refine m_ldC 49 hC (k12 h3 h4) dX5_ofMemory_49 ?_
        refine g_istore 50 hC dX5_ofMemory_50 (by decide) [(5, .int ((rC u (gNx u)))), (4, .int ((if (a1 &&& (512 : Int32)) = 0 then (0 : Int32) else (1 : Int32)))), (3, .int ((a1 &&& (15 : Int32)))), (2, .int ((fX5_dOf a1))), (0, .ref (mO h)), (1, .int a1)] rfl ?_
        refine g_aload_n 52 hC dX5_ofMemory_52 4 rfl ?_
        refine g_aload_n 53 hC dX5_ofMemory_53 4 rfl ?_
        refine m_get_next 54 hC fiX5_ofMemory_wsX50 fmX5_ofMemory_84 dX5_ofMemory_54 ?_
        refine g_iconst 57 hC (1 : Int32) dX5_ofMemory_57 (by decide) ?_
        refine g_iadd 58 hC dX5_ofMemory_58 ?_
        refine g_sipush 59 hC (1023 : Int32) dX5_ofMemory_59 (by decide) ?_
        refine g_iand 62 hC dX5_ofMemory_62 ?_
        refine m_put_next 63 hC fiX5_ofMemory_wsX50 fmX5_ofMemory_84 dX5_ofMemory_63 ?_
        refine g_aload_n 66 hC dX5_ofMemory_66 4 rfl ?_
        refine g_iload 67 hC dX5_ofMemory_67 0 rfl ?_
        refine g_iload_n 69 hC dX5_ofMemory_69 3 rfl ?_
        refine g_iload 70 hC dX5_ofMemory_70 1 rfl ?_
        refine kX5_moves 72 hC (k13 h3 h4) gX5_ofMemory_X5_moves ⟨Nat.le_of_ble_eq_true rfl, Nat.le_of_ble_eq_true rfl⟩ dX5_ofMemory_72 (Nat.le_of_ble_eq_true rfl) ?_
        exact g_iret 75 hC dX5_ofMemory_75
    · skip
      refine g_aload_n 31 hC dX5_ofMemory_31 3 rfl ?_
      refine g_iload_n 32 hC dX5_ofMemory_32 4 rfl ?_
      refine kX5_ofStack 33 hC (k14 h3) gX5_ofMemory_X5_ofStack ⟨Nat.le_of_ble_eq_true rfl, Nat.le_of_ble_eq_true rfl⟩ dX5_ofMemory_33 (Nat.le_of_ble_eq_true rfl) ?_
      exact g_iret 36 hC dX5_ofMemory_36
  · skip
    refine g_if_eq 15 hC 22 dX5_ofMemory_15 (by decide) (fun h1 => ?_) (fun h1 => ?_)
    · skip
      refine g_iconst 22 hC (0 : Int32) dX5_ofMemory_22 (by decide) ?_
      exact J2 _ (Eq.symm (if_pos h1))
    · skip
      refine g_iconst 18 hC (1 : Int32) dX5_ofMemory_18 (by decide) ?_
      refine g_goto 19 hC 23 dX5_ofMemory_19 (by decide) ?_
      exact J2 _ (Eq.symm (if_neg h1))
theorem kX5_ofMemory {K : KT} {h : HM} {cc : ByteArray} {nL : Nat} {own : String} {Ts : List Cond} {rm : Room} {ret : Option FieldType} {T : ST × Option Value} {u : ST} {lv : List (Nat × Value)} {rest : List Value} {idx : Nat} {a1 : Int32} (pc : Nat) (hC : Cx K (EM h) cc nL own Ts rm ret) (hok : okX5_ofMemory a1 u) (hT : GoodIn Ts (wsV own idx RX5 yX5_ofMemory wsX5_ofMemory)) (hR : rmX5_ofMemory.frames + 1 ≤ rm.frames ∧ 8 + (10 + 11) + rmX5_ofMemory.locals ≤ rm.locals) (hdg : decode cc pc = .ok (.invokevirtual idx, 3)) (hcat : (rest.map fun v => v.category).sum ≤ 8) (kk : G K (EM h) nL T (fX5_ofMemory a1 u).1 (pc + 3) lv (.int (fX5_ofMemory a1 u).2 :: rest)) : G K (EM h) nL T u pc lv (.int a1 :: .ref (mO h) :: rest) := g_callV (n := 1) pc hC (As := [.int a1]) (rest := rest) (cX5_ofMemory_ _ (Cx.ok hC) a1 u hok) hT rfl rfl rfl (by decide +kernel) hR 0 3 rfl rfl rfl rfl rfl hcat hdg kk

def fX5_ofPlaces (a1 : Int32) (u : ST) : ST × Int32 :=
  (fX5_moves (((fX5_pair (if (a1 &&& (8 : Int32)) = 0 then (30 : Int32) else (28 : Int32)) u) + ((((jshr a1 (8 : Int32)) &&& (32 : Int32)) ||| ((jshr a1 (7 : Int32)) &&& (24 : Int32))) ||| (a1 &&& (7 : Int32)))) &&& (65535 : Int32)) (fX5_dOf a1) (if (a1 &&& (512 : Int32)) = 0 then (0 : Int32) else (1 : Int32)) u)
def okX5_ofPlaces (a1 : Int32) (u : ST) : Prop := (okX5_pair (if (a1 &&& (8 : Int32)) = 0 then (30 : Int32) else (28 : Int32)) u) ∧ (okX5_moves (((fX5_pair (if (a1 &&& (8 : Int32)) = 0 then (30 : Int32) else (28 : Int32)) u) + ((((jshr a1 (8 : Int32)) &&& (32 : Int32)) ||| ((jshr a1 (7 : Int32)) &&& (24 : Int32))) ||| (a1 &&& (7 : Int32)))) &&& (65535 : Int32)) (fX5_dOf a1) (if (a1 &&& (512 : Int32)) = 0 then (0 : Int32) else (1 : Int32)) u) ∧ True
theorem cmX5_ofPlaces_27 : Jvm.Cond.constant RX5 27 (65535 : Int32) ∈ wsX5_ofPlaces := List.mem_of_getElem? (i := 1) rfl
abbrev rmX5_ofPlaces : Room := { frames := 2, cells := 0, slots := 0, locals := 43 }
set_option maxRecDepth 20000 in
theorem cX5_ofPlaces_ (h : HM) (hE : okE (EM h)) (a1 : Int32) (u : ST) (hok : okX5_ofPlaces a1 u) : MX (EM h) yX5_ofPlaces wsX5_ofPlaces rmX5_ofPlaces [.ref (mO h), .int a1] u (tW (fX5_ofPlaces a1 u)) := by
  obtain ⟨k0, k1, -⟩ := hok
  refine MX.of (cc := cX5_ofPlaces) (maxL := 4) (ret := (some .int)) (lv := [(0, .ref (mO h)), (1, .int a1)]) hE (by decide) rfl (fun _ => rfl) (Nat.le_of_ble_eq_true rfl) rfl (fun K hC => ?_)
  unfold fX5_ofPlaces
  refine g_iload_n 0 hC dX5_ofPlaces_0 1 rfl ?_
  refine g_bipush 1 hC (8 : Int32) dX5_ofPlaces_1 (by decide) ?_
  refine g_ishr 3 hC dX5_ofPlaces_3 ?_
  refine g_bipush 4 hC (32 : Int32) dX5_ofPlaces_4 (by decide) ?_
  refine g_iand 6 hC dX5_ofPlaces_6 ?_
  refine g_iload_n 7 hC dX5_ofPlaces_7 1 rfl ?_
  refine g_bipush 8 hC (7 : Int32) dX5_ofPlaces_8 (by decide) ?_
  refine g_ishr 10 hC dX5_ofPlaces_10 ?_
  refine g_bipush 11 hC (24 : Int32) dX5_ofPlaces_11 (by decide) ?_
  refine g_iand 13 hC dX5_ofPlaces_13 ?_
  refine g_ior 14 hC dX5_ofPlaces_14 ?_
  refine g_iload_n 15 hC dX5_ofPlaces_15 1 rfl ?_
  refine g_bipush 16 hC (7 : Int32) dX5_ofPlaces_16 (by decide) ?_
  refine g_iand 18 hC dX5_ofPlaces_18 ?_
  refine g_ior 19 hC dX5_ofPlaces_19 ?_
  refine g_istore_n 20 hC dX5_ofPlaces_20 (by decide) [(2, .int (((((jshr a1 (8 : Int32)) &&& (32 : Int32)) ||| ((jshr a1 (7 : Int32)) &&& (24 : Int32))) ||| (a1 &&& (7 : Int32))))), (0, .ref (mO h)), (1, .int a1)] rfl ?_
  refine g_aload_n 21 hC dX5_ofPlaces_21 1 rfl ?_
  refine g_iload_n 22 hC dX5_ofPlaces_22 2 rfl ?_
  refine g_bipush 23 hC (8 : Int32) dX5_ofPlaces_23 (by decide) ?_
  refine g_iand 25 hC dX5_ofPlaces_25 ?_
  refine g_cut 36 (if (a1 &&& (8 : Int32)) = 0 then (30 : Int32) else (28 : Int32)) [.ref (mO h)] ?_ (fun J2 => ?_)
  · skip
    refine kX5_pair 36 hC k0 gX5_ofPlaces_X5_pair ⟨Nat.le_of_ble_eq_true rfl, Nat.le_of_ble_eq_true rfl⟩ dX5_ofPlaces_36 (Nat.le_of_ble_eq_true rfl) ?_
    refine g_istore_n 39 hC dX5_ofPlaces_39 (by decide) [(3, .int ((fX5_pair (if (a1 &&& (8 : Int32)) = 0 then (30 : Int32) else (28 : Int32)) u))), (2, .int (((((jshr a1 (8 : Int32)) &&& (32 : Int32)) ||| ((jshr a1 (7 : Int32)) &&& (24 : Int32))) ||| (a1 &&& (7 : Int32))))), (0, .ref (mO h)), (1, .int a1)] rfl ?_
    refine g_aload_n 40 hC dX5_ofPlaces_40 2 rfl ?_
    refine g_iload_n 41 hC dX5_ofPlaces_41 0 rfl ?_
    refine g_iload_n 42 hC dX5_ofPlaces_42 1 rfl ?_
    refine g_iadd 43 hC dX5_ofPlaces_43 ?_
    refine g_ldc 44 hC (65535 : Int32) dX5_ofPlaces_44 cmX5_ofPlaces_27 ?_
    refine g_iand 46 hC dX5_ofPlaces_46 ?_
    refine g_iload_n 47 hC dX5_ofPlaces_47 3 rfl ?_
    refine kX5_dOf 48 hC gX5_ofPlaces_X5_dOf ⟨Nat.le_of_ble_eq_true rfl, Nat.le_of_ble_eq_true rfl⟩ dX5_ofPlaces_48 (Nat.le_of_ble_eq_true rfl) ?_
    refine g_iload_n 51 hC dX5_ofPlaces_51 3 rfl ?_
    refine g_sipush 52 hC (512 : Int32) dX5_ofPlaces_52 (by decide) ?_
    refine g_iand 55 hC dX5_ofPlaces_55 ?_
    refine g_cut 64 (if (a1 &&& (512 : Int32)) = 0 then (0 : Int32) else (1 : Int32)) [.int ((fX5_dOf a1)), .int ((((fX5_pair (if (a1 &&& (8 : Int32)) = 0 then (30 : Int32) else (28 : Int32)) u) + ((((jshr a1 (8 : Int32)) &&& (32 : Int32)) ||| ((jshr a1 (7 : Int32)) &&& (24 : Int32))) ||| (a1 &&& (7 : Int32)))) &&& (65535 : Int32))), .ref (mO h)] ?_ (fun J4 => ?_)
    · skip
      refine kX5_moves 64 hC k1 gX5_ofPlaces_X5_moves ⟨Nat.le_of_ble_eq_true rfl, Nat.le_of_ble_eq_true rfl⟩ dX5_ofPlaces_64 (Nat.le_of_ble_eq_true rfl) ?_
      exact g_iret 67 hC dX5_ofPlaces_67
    · skip
      refine g_if_eq 56 hC 63 dX5_ofPlaces_56 (by decide) (fun h3 => ?_) (fun h3 => ?_)
      · skip
        refine g_iconst 63 hC (0 : Int32) dX5_ofPlaces_63 (by decide) ?_
        exact J4 _ (Eq.symm (if_pos h3))
      · skip
        refine g_iconst 59 hC (1 : Int32) dX5_ofPlaces_59 (by decide) ?_
        refine g_goto 60 hC 64 dX5_ofPlaces_60 (by decide) ?_
        exact J4 _ (Eq.symm (if_neg h3))
  · skip
    refine g_if_eq 26 hC 34 dX5_ofPlaces_26 (by decide) (fun h1 => ?_) (fun h1 => ?_)
    · skip
      refine g_bipush 34 hC (30 : Int32) dX5_ofPlaces_34 (by decide) ?_
      exact J2 _ (Eq.symm (if_pos h1))
    · skip
      refine g_bipush 29 hC (28 : Int32) dX5_ofPlaces_29 (by decide) ?_
      refine g_goto 31 hC 36 dX5_ofPlaces_31 (by decide) ?_
      exact J2 _ (Eq.symm (if_neg h1))
theorem kX5_ofPlaces {K : KT} {h : HM} {cc : ByteArray} {nL : Nat} {own : String} {Ts : List Cond} {rm : Room} {ret : Option FieldType} {T : ST × Option Value} {u : ST} {lv : List (Nat × Value)} {rest : List Value} {idx : Nat} {a1 : Int32} (pc : Nat) (hC : Cx K (EM h) cc nL own Ts rm ret) (hok : okX5_ofPlaces a1 u) (hT : GoodIn Ts (wsV own idx RX5 yX5_ofPlaces wsX5_ofPlaces)) (hR : rmX5_ofPlaces.frames + 1 ≤ rm.frames ∧ 8 + (4 + 11) + rmX5_ofPlaces.locals ≤ rm.locals) (hdg : decode cc pc = .ok (.invokevirtual idx, 3)) (hcat : (rest.map fun v => v.category).sum ≤ 8) (kk : G K (EM h) nL T (fX5_ofPlaces a1 u).1 (pc + 3) lv (.int (fX5_ofPlaces a1 u).2 :: rest)) : G K (EM h) nL T u pc lv (.int a1 :: .ref (mO h) :: rest) := g_callV (n := 1) pc hC (As := [.int a1]) (rest := rest) (cX5_ofPlaces_ _ (Cx.ok hC) a1 u hok) hT rfl rfl rfl (by decide +kernel) hR 0 3 rfl rfl rfl rfl rfl hcat hdg kk

def fX5_ofPort (a1 : Int32) (u : ST) : ST :=
  (if (a1 &&& (2048 : Int32)) = 0 then (wD u (fX5_dOf a1) (rD u ((32 : Int32) + (((jshr a1 (5 : Int32)) &&& (48 : Int32)) ||| (a1 &&& (15 : Int32)))))) else (wD u ((32 : Int32) + (((jshr a1 (5 : Int32)) &&& (48 : Int32)) ||| (a1 &&& (15 : Int32)))) (rD u (fX5_dOf a1))))
def okX5_ofPort (a1 : Int32) (u : ST) : Prop := ((¬ (a1 &&& (2048 : Int32)) = 0) → vp_in (fX5_dOf a1) 1024) ∧ ((¬ (a1 &&& (2048 : Int32)) = 0) → vp_in ((32 : Int32) + (((jshr a1 (5 : Int32)) &&& (48 : Int32)) ||| (a1 &&& (15 : Int32)))) 1024) ∧ (((a1 &&& (2048 : Int32)) = 0) → vp_in ((32 : Int32) + (((jshr a1 (5 : Int32)) &&& (48 : Int32)) ||| (a1 &&& (15 : Int32)))) 1024) ∧ (((a1 &&& (2048 : Int32)) = 0) → vp_in (fX5_dOf a1) 1024) ∧ True
theorem fiX5_ofPort_wsX50 : ∀ w ∈ wsX50, w ∈ wsX5_ofPort := fun w h => List.mem_cons_of_mem _ (List.mem_append_right _ h)
theorem fmX5_ofPort_13 : Cond.fieldLink RX5 13 "FlagCoreModel" "data" "[I" ∈ wsX5_ofPort := List.mem_of_getElem? (i := 1) rfl
abbrev rmX5_ofPort : Room := { frames := 1, cells := 0, slots := 0, locals := 20 }
set_option maxRecDepth 20000 in
theorem cX5_ofPort_ (h : HM) (hE : okE (EM h)) (a1 : Int32) (u : ST) (hok : okX5_ofPort a1 u) : MX (EM h) yX5_ofPort wsX5_ofPort rmX5_ofPort [.ref (mO h), .int a1] u (tS (fX5_ofPort a1 u)) := by
  obtain ⟨k0, k1, k2, k3, -⟩ := hok
  refine MX.of (cc := cX5_ofPort) (maxL := 3) (ret := none) (lv := [(0, .ref (mO h)), (1, .int a1)]) hE (by decide) rfl (fun _ => rfl) (Nat.le_of_ble_eq_true rfl) rfl (fun K hC => ?_)
  unfold fX5_ofPort
  refine g_iload_n 0 hC dX5_ofPort_0 1 rfl ?_
  refine g_iconst 1 hC (5 : Int32) dX5_ofPort_1 (by decide) ?_
  refine g_ishr 2 hC dX5_ofPort_2 ?_
  refine g_bipush 3 hC (48 : Int32) dX5_ofPort_3 (by decide) ?_
  refine g_iand 5 hC dX5_ofPort_5 ?_
  refine g_iload_n 6 hC dX5_ofPort_6 1 rfl ?_
  refine g_bipush 7 hC (15 : Int32) dX5_ofPort_7 (by decide) ?_
  refine g_iand 9 hC dX5_ofPort_9 ?_
  refine g_ior 10 hC dX5_ofPort_10 ?_
  refine g_istore_n 11 hC dX5_ofPort_11 (by decide) [(2, .int ((((jshr a1 (5 : Int32)) &&& (48 : Int32)) ||| (a1 &&& (15 : Int32))))), (0, .ref (mO h)), (1, .int a1)] rfl ?_
  refine g_iload_n 12 hC dX5_ofPort_12 2 rfl ?_
  refine g_sipush 13 hC (2048 : Int32) dX5_ofPort_13 (by decide) ?_
  refine g_iand 16 hC dX5_ofPort_16 ?_
  refine g_cutS 59 (if (a1 &&& (2048 : Int32)) = 0 then (wD u (fX5_dOf a1) (rD u ((32 : Int32) + (((jshr a1 (5 : Int32)) &&& (48 : Int32)) ||| (a1 &&& (15 : Int32)))))) else (wD u ((32 : Int32) + (((jshr a1 (5 : Int32)) &&& (48 : Int32)) ||| (a1 &&& (15 : Int32)))) (rD u (fX5_dOf a1)))) [] ?_ (fun J2 => ?_)
  · skip
    exact g_vretS 59 hC dX5_ofPort_59
  · skip
    refine g_if_ne 17 hC 41 dX5_ofPort_17 (by decide) (fun h1 => ?_) (fun h1 => ?_)
    · skip
      refine g_aload_n 41 hC dX5_ofPort_41 1 rfl ?_
      refine m_get_data 42 hC fiX5_ofPort_wsX50 fmX5_ofPort_13 dX5_ofPort_42 ?_
      refine g_bipush 45 hC (32 : Int32) dX5_ofPort_45 (by decide) ?_
      refine g_iload_n 47 hC dX5_ofPort_47 0 rfl ?_
      refine g_iadd 48 hC dX5_ofPort_48 ?_
      refine g_aload_n 49 hC dX5_ofPort_49 1 rfl ?_
      refine m_get_data 50 hC fiX5_ofPort_wsX50 fmX5_ofPort_13 dX5_ofPort_50 ?_
      refine g_iload_n 53 hC dX5_ofPort_53 2 rfl ?_
      refine kX5_dOf 54 hC gX5_ofPort_X5_dOf ⟨Nat.le_of_ble_eq_true rfl, Nat.le_of_ble_eq_true rfl⟩ dX5_ofPort_54 (Nat.le_of_ble_eq_true rfl) ?_
      refine m_ldD 57 hC (k0 h1) dX5_ofPort_57 ?_
      refine m_stD 58 hC (k1 h1) dX5_ofPort_58 ?_
      exact J2 _ (Eq.symm (if_neg h1))
    · skip
      refine g_aload_n 20 hC dX5_ofPort_20 1 rfl ?_
      refine m_get_data 21 hC fiX5_ofPort_wsX50 fmX5_ofPort_13 dX5_ofPort_21 ?_
      refine g_iload_n 24 hC dX5_ofPort_24 2 rfl ?_
      refine kX5_dOf 25 hC gX5_ofPort_X5_dOf ⟨Nat.le_of_ble_eq_true rfl, Nat.le_of_ble_eq_true rfl⟩ dX5_ofPort_25 (Nat.le_of_ble_eq_true rfl) ?_
      refine g_aload_n 28 hC dX5_ofPort_28 1 rfl ?_
      refine m_get_data 29 hC fiX5_ofPort_wsX50 fmX5_ofPort_13 dX5_ofPort_29 ?_
      refine g_bipush 32 hC (32 : Int32) dX5_ofPort_32 (by decide) ?_
      refine g_iload_n 34 hC dX5_ofPort_34 0 rfl ?_
      refine g_iadd 35 hC dX5_ofPort_35 ?_
      refine m_ldD 36 hC (k2 h1) dX5_ofPort_36 ?_
      refine m_stD 37 hC (k3 h1) dX5_ofPort_37 ?_
      refine g_goto 38 hC 59 dX5_ofPort_38 (by decide) ?_
      exact J2 _ (Eq.symm (if_pos h1))
theorem kX5_ofPort {K : KT} {h : HM} {cc : ByteArray} {nL : Nat} {own : String} {Ts : List Cond} {rm : Room} {ret : Option FieldType} {T : ST × Option Value} {u : ST} {lv : List (Nat × Value)} {rest : List Value} {idx : Nat} {a1 : Int32} (pc : Nat) (hC : Cx K (EM h) cc nL own Ts rm ret) (hok : okX5_ofPort a1 u) (hT : GoodIn Ts (wsV own idx RX5 yX5_ofPort wsX5_ofPort)) (hR : rmX5_ofPort.frames + 1 ≤ rm.frames ∧ 8 + (3 + 11) + rmX5_ofPort.locals ≤ rm.locals) (hdg : decode cc pc = .ok (.invokevirtual idx, 3)) (hcat : (rest.map fun v => v.category).sum ≤ 8) (kk : G K (EM h) nL T (fX5_ofPort a1 u) (pc + 3) lv (rest)) : G K (EM h) nL T u pc lv (.int a1 :: .ref (mO h) :: rest) := g_callV (n := 1) pc hC (As := [.int a1]) (rest := rest) (cX5_ofPort_ _ (Cx.ok hC) a1 u hok) hT rfl rfl rfl (by decide +kernel) hR 0 3 rfl rfl rfl rfl rfl hcat hdg kk

def fX5_ofPortBit (a1 : Int32) (u : ST) : ST :=
  if ((jshr a1 (8 : Int32)) &&& (3 : Int32)) = (0 : Int32) then
    (wD u ((32 : Int32) + ((jshr a1 (3 : Int32)) &&& (31 : Int32))) ((rD u ((32 : Int32) + ((jshr a1 (3 : Int32)) &&& (31 : Int32)))) &&& ((jshl (1 : Int32) (a1 &&& (7 : Int32))) ^^^ (-1 : Int32))))
  else
    if ((jshr a1 (8 : Int32)) &&& (3 : Int32)) = (1 : Int32) then
      (fX5_skips (if (if ((rD u ((32 : Int32) + ((jshr a1 (3 : Int32)) &&& (31 : Int32)))) &&& (jshl (1 : Int32) (a1 &&& (7 : Int32)))) = 0 then (0 : Int32) else (1 : Int32)) = 0 then (1 : Int32) else (0 : Int32)) u)
    else
      if ((jshr a1 (8 : Int32)) &&& (3 : Int32)) = (2 : Int32) then
        (wD u ((32 : Int32) + ((jshr a1 (3 : Int32)) &&& (31 : Int32))) ((rD u ((32 : Int32) + ((jshr a1 (3 : Int32)) &&& (31 : Int32)))) ||| (jshl (1 : Int32) (a1 &&& (7 : Int32)))))
      else
        (fX5_skips (if ((rD u ((32 : Int32) + ((jshr a1 (3 : Int32)) &&& (31 : Int32)))) &&& (jshl (1 : Int32) (a1 &&& (7 : Int32)))) = 0 then (0 : Int32) else (1 : Int32)) u)
def okX5_ofPortBit (a1 : Int32) (u : ST) : Prop := (vp_in ((32 : Int32) + ((jshr a1 (3 : Int32)) &&& (31 : Int32))) 1024) ∧ ((((jshr a1 (8 : Int32)) &&& (3 : Int32)) = (0 : Int32)) → vp_in ((32 : Int32) + ((jshr a1 (3 : Int32)) &&& (31 : Int32))) 1024) ∧ ((¬ ((jshr a1 (8 : Int32)) &&& (3 : Int32)) = (0 : Int32)) → (((jshr a1 (8 : Int32)) &&& (3 : Int32)) = (1 : Int32)) → okX5_skips (if (if ((rD u ((32 : Int32) + ((jshr a1 (3 : Int32)) &&& (31 : Int32)))) &&& (jshl (1 : Int32) (a1 &&& (7 : Int32)))) = 0 then (0 : Int32) else (1 : Int32)) = 0 then (1 : Int32) else (0 : Int32)) u) ∧ ((¬ ((jshr a1 (8 : Int32)) &&& (3 : Int32)) = (0 : Int32)) → (¬ ((jshr a1 (8 : Int32)) &&& (3 : Int32)) = (1 : Int32)) → (((jshr a1 (8 : Int32)) &&& (3 : Int32)) = (2 : Int32)) → vp_in ((32 : Int32) + ((jshr a1 (3 : Int32)) &&& (31 : Int32))) 1024) ∧ ((¬ ((jshr a1 (8 : Int32)) &&& (3 : Int32)) = (0 : Int32)) → (¬ ((jshr a1 (8 : Int32)) &&& (3 : Int32)) = (1 : Int32)) → (¬ ((jshr a1 (8 : Int32)) &&& (3 : Int32)) = (2 : Int32)) → okX5_skips (if ((rD u ((32 : Int32) + ((jshr a1 (3 : Int32)) &&& (31 : Int32)))) &&& (jshl (1 : Int32) (a1 &&& (7 : Int32)))) = 0 then (0 : Int32) else (1 : Int32)) u) ∧ True
theorem fiX5_ofPortBit_wsX50 : ∀ w ∈ wsX50, w ∈ wsX5_ofPortBit := fun w h => List.mem_cons_of_mem _ (List.mem_append_right _ h)
theorem fmX5_ofPortBit_13 : Cond.fieldLink RX5 13 "FlagCoreModel" "data" "[I" ∈ wsX5_ofPortBit := List.mem_of_getElem? (i := 1) rfl
abbrev rmX5_ofPortBit : Room := { frames := 3, cells := 0, slots := 0, locals := 62 }
set_option maxRecDepth 20000 in
theorem cX5_ofPortBit_ (h : HM) (hE : okE (EM h)) (a1 : Int32) (u : ST) (hok : okX5_ofPortBit a1 u) : MX (EM h) yX5_ofPortBit wsX5_ofPortBit rmX5_ofPortBit [.ref (mO h), .int a1] u (tS (fX5_ofPortBit a1 u)) := by
  obtain ⟨k0, k1, k2, k3, k4, -⟩ := hok
  refine MX.of (cc := cX5_ofPortBit) (maxL := 5) (ret := none) (lv := [(0, .ref (mO h)), (1, .int a1)]) hE (by decide) rfl (fun _ => rfl) (Nat.le_of_ble_eq_true rfl) rfl (fun K hC => ?_)
  unfold fX5_ofPortBit
  refine g_bipush 0 hC (32 : Int32) dX5_ofPortBit_0 (by decide) ?_
  refine g_iload_n 2 hC dX5_ofPortBit_2 1 rfl ?_
  refine g_iconst 3 hC (3 : Int32) dX5_ofPortBit_3 (by decide) ?_
  refine g_ishr 4 hC dX5_ofPortBit_4 ?_
  refine g_bipush 5 hC (31 : Int32) dX5_ofPortBit_5 (by decide) ?_
  refine g_iand 7 hC dX5_ofPortBit_7 ?_
  refine g_iadd 8 hC dX5_ofPortBit_8 ?_
  refine g_istore_n 9 hC dX5_ofPortBit_9 (by decide) [(2, .int (((32 : Int32) + ((jshr a1 (3 : Int32)) &&& (31 : Int32))))), (0, .ref (mO h)), (1, .int a1)] rfl ?_
  refine g_iconst 10 hC (1 : Int32) dX5_ofPortBit_10 (by decide) ?_
  refine g_iload_n 11 hC dX5_ofPortBit_11 2 rfl ?_
  refine g_bipush 12 hC (7 : Int32) dX5_ofPortBit_12 (by decide) ?_
  refine g_iand 14 hC dX5_ofPortBit_14 ?_
  refine g_ishl 15 hC dX5_ofPortBit_15 ?_
  refine g_istore_n 16 hC dX5_ofPortBit_16 (by decide) [(3, .int ((jshl (1 : Int32) (a1 &&& (7 : Int32))))), (2, .int (((32 : Int32) + ((jshr a1 (3 : Int32)) &&& (31 : Int32))))), (0, .ref (mO h)), (1, .int a1)] rfl ?_
  refine g_aload_n 17 hC dX5_ofPortBit_17 2 rfl ?_
  refine m_get_data 18 hC fiX5_ofPortBit_wsX50 fmX5_ofPortBit_13 dX5_ofPortBit_18 ?_
  refine g_iload_n 21 hC dX5_ofPortBit_21 1 rfl ?_
  refine m_ldD 22 hC k0 dX5_ofPortBit_22 ?_
  refine g_iload_n 23 hC dX5_ofPortBit_23 0 rfl ?_
  refine g_iand 24 hC dX5_ofPortBit_24 ?_
  refine g_cut 33 (if ((rD u ((32 : Int32) + ((jshr a1 (3 : Int32)) &&& (31 : Int32)))) &&& (jshl (1 : Int32) (a1 &&& (7 : Int32)))) = 0 then (0 : Int32) else (1 : Int32)) [] ?_ (fun J2 => ?_)
  · skip
    refine g_istore 33 hC dX5_ofPortBit_33 (by decide) [(4, .int ((if ((rD u ((32 : Int32) + ((jshr a1 (3 : Int32)) &&& (31 : Int32)))) &&& (jshl (1 : Int32) (a1 &&& (7 : Int32)))) = 0 then (0 : Int32) else (1 : Int32)))), (3, .int ((jshl (1 : Int32) (a1 &&& (7 : Int32))))), (2, .int (((32 : Int32) + ((jshr a1 (3 : Int32)) &&& (31 : Int32))))), (0, .ref (mO h)), (1, .int a1)] rfl ?_
    refine g_iload_n 35 hC dX5_ofPortBit_35 4 rfl ?_
    refine g_bipush 36 hC (8 : Int32) dX5_ofPortBit_36 (by decide) ?_
    refine g_ishr 38 hC dX5_ofPortBit_38 ?_
    refine g_iconst 39 hC (3 : Int32) dX5_ofPortBit_39 (by decide) ?_
    refine g_iand 40 hC dX5_ofPortBit_40 ?_
    refine g_byT (tS) (fun h3 => ?_) (fun h3 => ?_)
    · refine g_tsIn 41 hC (0 : Int32) (27) 68 h3 dX5_ofPortBit_41 (by decide) (by decide) (by decide) (by decide) ?_
      refine g_aload_n 68 hC dX5_ofPortBit_68 3 rfl ?_
      refine m_get_data 69 hC fiX5_ofPortBit_wsX50 fmX5_ofPortBit_13 dX5_ofPortBit_69 ?_
      refine g_iload_n 72 hC dX5_ofPortBit_72 2 rfl ?_
      refine g_dup2 73 hC dX5_ofPortBit_73 rfl rfl ?_
      refine m_ldD 74 hC (k1 h3) dX5_ofPortBit_74 ?_
      refine g_iload_n 75 hC dX5_ofPortBit_75 1 rfl ?_
      refine g_iconst 76 hC (-1 : Int32) dX5_ofPortBit_76 (by decide) ?_
      refine g_ixor 77 hC dX5_ofPortBit_77 ?_
      refine g_iand 78 hC dX5_ofPortBit_78 ?_
      refine m_stD 79 hC (k1 h3) dX5_ofPortBit_79 ?_
      refine g_goto 80 hC 119 dX5_ofPortBit_80 (by decide) ?_
      exact g_vretS 119 hC dX5_ofPortBit_119
    · skip
      refine g_byT (tS) (fun h4 => ?_) (fun h4 => ?_)
      · refine g_tsIn 41 hC (1 : Int32) (42) 83 h4 dX5_ofPortBit_41 (by decide) (by decide) (by decide) (by decide) ?_
        refine g_aload_n 83 hC dX5_ofPortBit_83 3 rfl ?_
        refine g_iload 84 hC dX5_ofPortBit_84 0 rfl ?_
        refine g_cut 94 (if (if ((rD u ((32 : Int32) + ((jshr a1 (3 : Int32)) &&& (31 : Int32)))) &&& (jshl (1 : Int32) (a1 &&& (7 : Int32)))) = 0 then (0 : Int32) else (1 : Int32)) = 0 then (1 : Int32) else (0 : Int32)) [.ref (mO h)] ?_ (fun J6 => ?_)
        · skip
          refine kX5_skips 94 hC (k2 h3 h4) gX5_ofPortBit_X5_skips ⟨Nat.le_of_ble_eq_true rfl, Nat.le_of_ble_eq_true rfl⟩ dX5_ofPortBit_94 (Nat.le_of_ble_eq_true rfl) ?_
          refine g_goto 97 hC 119 dX5_ofPortBit_97 (by decide) ?_
          exact g_vretS 119 hC dX5_ofPortBit_119
        · skip
          refine g_if_ne 86 hC 93 dX5_ofPortBit_86 (by decide) (fun h5 => ?_) (fun h5 => ?_)
          · skip
            refine g_iconst 93 hC (0 : Int32) dX5_ofPortBit_93 (by decide) ?_
            exact J6 _ (Eq.symm (if_neg h5))
          · skip
            refine g_iconst 89 hC (1 : Int32) dX5_ofPortBit_89 (by decide) ?_
            refine g_goto 90 hC 94 dX5_ofPortBit_90 (by decide) ?_
            exact J6 _ (Eq.symm (if_pos h5))
      · skip
        refine g_byT (tS) (fun h7 => ?_) (fun h7 => ?_)
        · refine g_tsIn 41 hC (2 : Int32) (59) 100 h7 dX5_ofPortBit_41 (by decide) (by decide) (by decide) (by decide) ?_
          refine g_aload_n 100 hC dX5_ofPortBit_100 3 rfl ?_
          refine m_get_data 101 hC fiX5_ofPortBit_wsX50 fmX5_ofPortBit_13 dX5_ofPortBit_101 ?_
          refine g_iload_n 104 hC dX5_ofPortBit_104 2 rfl ?_
          refine g_dup2 105 hC dX5_ofPortBit_105 rfl rfl ?_
          refine m_ldD 106 hC (k3 h3 h4 h7) dX5_ofPortBit_106 ?_
          refine g_iload_n 107 hC dX5_ofPortBit_107 1 rfl ?_
          refine g_ior 108 hC dX5_ofPortBit_108 ?_
          refine m_stD 109 hC (k3 h3 h4 h7) dX5_ofPortBit_109 ?_
          refine g_goto 110 hC 119 dX5_ofPortBit_110 (by decide) ?_
          exact g_vretS 119 hC dX5_ofPortBit_119
        · skip
          refine g_tsOut 41 hC 113 dX5_ofPortBit_41 (by have n0 := lv_neT h3 (a := 0) (by decide); have n1 := lv_neT h4 (a := 1) (by decide); have n2 := lv_neT h7 (a := 2) (by decide); omega) (by decide) ?_
          refine g_aload_n 113 hC dX5_ofPortBit_113 3 rfl ?_
          refine g_iload 114 hC dX5_ofPortBit_114 0 rfl ?_
          refine kX5_skips 116 hC (k4 h3 h4 h7) gX5_ofPortBit_X5_skips ⟨Nat.le_of_ble_eq_true rfl, Nat.le_of_ble_eq_true rfl⟩ dX5_ofPortBit_116 (Nat.le_of_ble_eq_true rfl) ?_
          exact g_vretS 119 hC dX5_ofPortBit_119
  · skip
    refine g_if_eq 25 hC 32 dX5_ofPortBit_25 (by decide) (fun h1 => ?_) (fun h1 => ?_)
    · skip
      refine g_iconst 32 hC (0 : Int32) dX5_ofPortBit_32 (by decide) ?_
      exact J2 _ (Eq.symm (if_pos h1))
    · skip
      refine g_iconst 28 hC (1 : Int32) dX5_ofPortBit_28 (by decide) ?_
      refine g_goto 29 hC 33 dX5_ofPortBit_29 (by decide) ?_
      exact J2 _ (Eq.symm (if_neg h1))
theorem kX5_ofPortBit {K : KT} {h : HM} {cc : ByteArray} {nL : Nat} {own : String} {Ts : List Cond} {rm : Room} {ret : Option FieldType} {T : ST × Option Value} {u : ST} {lv : List (Nat × Value)} {rest : List Value} {idx : Nat} {a1 : Int32} (pc : Nat) (hC : Cx K (EM h) cc nL own Ts rm ret) (hok : okX5_ofPortBit a1 u) (hT : GoodIn Ts (wsV own idx RX5 yX5_ofPortBit wsX5_ofPortBit)) (hR : rmX5_ofPortBit.frames + 1 ≤ rm.frames ∧ 8 + (5 + 11) + rmX5_ofPortBit.locals ≤ rm.locals) (hdg : decode cc pc = .ok (.invokevirtual idx, 3)) (hcat : (rest.map fun v => v.category).sum ≤ 8) (kk : G K (EM h) nL T (fX5_ofPortBit a1 u) (pc + 3) lv (rest)) : G K (EM h) nL T u pc lv (.int a1 :: .ref (mO h) :: rest) := g_callV (n := 1) pc hC (As := [.int a1]) (rest := rest) (cX5_ofPortBit_ _ (Cx.ok hC) a1 u hok) hT rfl rfl rfl (by decide +kernel) hR 0 3 rfl rfl rfl rfl rfl hcat hdg kk

def fX5_ofBit (a1 : Int32) (u : ST) : ST :=
  if ((jshr a1 (9 : Int32)) &&& (3 : Int32)) = (0 : Int32) then
    (wD u (fX5_dOf a1) (if (fX5_has (64 : Int32) u) = 0 then ((rD u (fX5_dOf a1)) &&& ((jshl (1 : Int32) (a1 &&& (7 : Int32))) ^^^ (-1 : Int32))) else ((rD u (fX5_dOf a1)) ||| (jshl (1 : Int32) (a1 &&& (7 : Int32))))))
  else
    if ((jshr a1 (9 : Int32)) &&& (3 : Int32)) = (1 : Int32) then
      (fX5_flag (64 : Int32) (if ((rD u (fX5_dOf a1)) &&& (jshl (1 : Int32) (a1 &&& (7 : Int32)))) = 0 then (0 : Int32) else (1 : Int32)) u)
    else
      if ((jshr a1 (9 : Int32)) &&& (3 : Int32)) = (2 : Int32) then
        (fX5_skips (if (if ((rD u (fX5_dOf a1)) &&& (jshl (1 : Int32) (a1 &&& (7 : Int32)))) = 0 then (0 : Int32) else (1 : Int32)) = 0 then (1 : Int32) else (0 : Int32)) u)
      else
        (fX5_skips (if ((rD u (fX5_dOf a1)) &&& (jshl (1 : Int32) (a1 &&& (7 : Int32)))) = 0 then (0 : Int32) else (1 : Int32)) u)
def okX5_ofBit (a1 : Int32) (u : ST) : Prop := (vp_in (fX5_dOf a1) 1024) ∧ ((((jshr a1 (9 : Int32)) &&& (3 : Int32)) = (0 : Int32)) → ((fX5_has (64 : Int32) u) = 0) → vp_in (fX5_dOf a1) 1024) ∧ ((((jshr a1 (9 : Int32)) &&& (3 : Int32)) = (0 : Int32)) → (¬ (fX5_has (64 : Int32) u) = 0) → vp_in (fX5_dOf a1) 1024) ∧ ((((jshr a1 (9 : Int32)) &&& (3 : Int32)) = (0 : Int32)) → vp_in (fX5_dOf a1) 1024) ∧ ((¬ ((jshr a1 (9 : Int32)) &&& (3 : Int32)) = (0 : Int32)) → (¬ ((jshr a1 (9 : Int32)) &&& (3 : Int32)) = (1 : Int32)) → (((jshr a1 (9 : Int32)) &&& (3 : Int32)) = (2 : Int32)) → okX5_skips (if (if ((rD u (fX5_dOf a1)) &&& (jshl (1 : Int32) (a1 &&& (7 : Int32)))) = 0 then (0 : Int32) else (1 : Int32)) = 0 then (1 : Int32) else (0 : Int32)) u) ∧ ((¬ ((jshr a1 (9 : Int32)) &&& (3 : Int32)) = (0 : Int32)) → (¬ ((jshr a1 (9 : Int32)) &&& (3 : Int32)) = (1 : Int32)) → (¬ ((jshr a1 (9 : Int32)) &&& (3 : Int32)) = (2 : Int32)) → okX5_skips (if ((rD u (fX5_dOf a1)) &&& (jshl (1 : Int32) (a1 &&& (7 : Int32)))) = 0 then (0 : Int32) else (1 : Int32)) u) ∧ True
theorem fiX5_ofBit_wsX50 : ∀ w ∈ wsX50, w ∈ wsX5_ofBit := fun w h => List.mem_cons_of_mem _ (List.mem_append_right _ h)
theorem fmX5_ofBit_13 : Cond.fieldLink RX5 13 "FlagCoreModel" "data" "[I" ∈ wsX5_ofBit := List.mem_of_getElem? (i := 1) rfl
abbrev rmX5_ofBit : Room := { frames := 3, cells := 0, slots := 0, locals := 62 }
set_option maxRecDepth 20000 in
theorem cX5_ofBit_ (h : HM) (hE : okE (EM h)) (a1 : Int32) (u : ST) (hok : okX5_ofBit a1 u) : MX (EM h) yX5_ofBit wsX5_ofBit rmX5_ofBit [.ref (mO h), .int a1] u (tS (fX5_ofBit a1 u)) := by
  obtain ⟨k0, k1, k2, k3, k4, k5, -⟩ := hok
  refine MX.of (cc := cX5_ofBit) (maxL := 5) (ret := none) (lv := [(0, .ref (mO h)), (1, .int a1)]) hE (by decide) rfl (fun _ => rfl) (Nat.le_of_ble_eq_true rfl) rfl (fun K hC => ?_)
  unfold fX5_ofBit
  refine g_iload_n 0 hC dX5_ofBit_0 1 rfl ?_
  refine kX5_dOf 1 hC gX5_ofBit_X5_dOf ⟨Nat.le_of_ble_eq_true rfl, Nat.le_of_ble_eq_true rfl⟩ dX5_ofBit_1 (Nat.le_of_ble_eq_true rfl) ?_
  refine g_istore_n 4 hC dX5_ofBit_4 (by decide) [(2, .int ((fX5_dOf a1))), (0, .ref (mO h)), (1, .int a1)] rfl ?_
  refine g_iconst 5 hC (1 : Int32) dX5_ofBit_5 (by decide) ?_
  refine g_iload_n 6 hC dX5_ofBit_6 2 rfl ?_
  refine g_bipush 7 hC (7 : Int32) dX5_ofBit_7 (by decide) ?_
  refine g_iand 9 hC dX5_ofBit_9 ?_
  refine g_ishl 10 hC dX5_ofBit_10 ?_
  refine g_istore_n 11 hC dX5_ofBit_11 (by decide) [(3, .int ((jshl (1 : Int32) (a1 &&& (7 : Int32))))), (2, .int ((fX5_dOf a1))), (0, .ref (mO h)), (1, .int a1)] rfl ?_
  refine g_aload_n 12 hC dX5_ofBit_12 2 rfl ?_
  refine m_get_data 13 hC fiX5_ofBit_wsX50 fmX5_ofBit_13 dX5_ofBit_13 ?_
  refine g_iload_n 16 hC dX5_ofBit_16 1 rfl ?_
  refine m_ldD 17 hC k0 dX5_ofBit_17 ?_
  refine g_iload_n 18 hC dX5_ofBit_18 0 rfl ?_
  refine g_iand 19 hC dX5_ofBit_19 ?_
  refine g_cut 28 (if ((rD u (fX5_dOf a1)) &&& (jshl (1 : Int32) (a1 &&& (7 : Int32)))) = 0 then (0 : Int32) else (1 : Int32)) [] ?_ (fun J2 => ?_)
  · skip
    refine g_istore 28 hC dX5_ofBit_28 (by decide) [(4, .int ((if ((rD u (fX5_dOf a1)) &&& (jshl (1 : Int32) (a1 &&& (7 : Int32)))) = 0 then (0 : Int32) else (1 : Int32)))), (3, .int ((jshl (1 : Int32) (a1 &&& (7 : Int32))))), (2, .int ((fX5_dOf a1))), (0, .ref (mO h)), (1, .int a1)] rfl ?_
    refine g_iload_n 30 hC dX5_ofBit_30 4 rfl ?_
    refine g_bipush 31 hC (9 : Int32) dX5_ofBit_31 (by decide) ?_
    refine g_ishr 33 hC dX5_ofBit_33 ?_
    refine g_iconst 34 hC (3 : Int32) dX5_ofBit_34 (by decide) ?_
    refine g_iand 35 hC dX5_ofBit_35 ?_
    refine g_byT (tS) (fun h3 => ?_) (fun h3 => ?_)
    · refine g_tsIn 36 hC (0 : Int32) (28) 64 h3 dX5_ofBit_36 (by decide) (by decide) (by decide) (by decide) ?_
      refine g_aload_n 64 hC dX5_ofBit_64 3 rfl ?_
      refine m_get_data 65 hC fiX5_ofBit_wsX50 fmX5_ofBit_13 dX5_ofBit_65 ?_
      refine g_iload_n 68 hC dX5_ofBit_68 2 rfl ?_
      refine g_aload_n 69 hC dX5_ofBit_69 3 rfl ?_
      refine g_bipush 70 hC (64 : Int32) dX5_ofBit_70 (by decide) ?_
      refine kX5_has 72 hC gX5_ofBit_X5_has ⟨Nat.le_of_ble_eq_true rfl, Nat.le_of_ble_eq_true rfl⟩ dX5_ofBit_72 (Nat.le_of_ble_eq_true rfl) ?_
      refine g_cut 99 (if (fX5_has (64 : Int32) u) = 0 then ((rD u (fX5_dOf a1)) &&& ((jshl (1 : Int32) (a1 &&& (7 : Int32))) ^^^ (-1 : Int32))) else ((rD u (fX5_dOf a1)) ||| (jshl (1 : Int32) (a1 &&& (7 : Int32))))) [.int ((fX5_dOf a1)), .ref (mD h)] ?_ (fun J5 => ?_)
      · skip
        refine m_stD 99 hC (k3 h3) dX5_ofBit_99 ?_
        refine g_goto 100 hC 137 dX5_ofBit_100 (by decide) ?_
        exact g_vretS 137 hC dX5_ofBit_137
      · skip
        refine g_if_eq 75 hC 89 dX5_ofBit_75 (by decide) (fun h4 => ?_) (fun h4 => ?_)
        · skip
          refine g_aload_n 89 hC dX5_ofBit_89 3 rfl ?_
          refine m_get_data 90 hC fiX5_ofBit_wsX50 fmX5_ofBit_13 dX5_ofBit_90 ?_
          refine g_iload_n 93 hC dX5_ofBit_93 2 rfl ?_
          refine m_ldD 94 hC (k1 h3 h4) dX5_ofBit_94 ?_
          refine g_iload_n 95 hC dX5_ofBit_95 1 rfl ?_
          refine g_iconst 96 hC (-1 : Int32) dX5_ofBit_96 (by decide) ?_
          refine g_ixor 97 hC dX5_ofBit_97 ?_
          refine g_iand 98 hC dX5_ofBit_98 ?_
          exact J5 _ (Eq.symm (if_pos h4))
        · skip
          refine g_aload_n 78 hC dX5_ofBit_78 3 rfl ?_
          refine m_get_data 79 hC fiX5_ofBit_wsX50 fmX5_ofBit_13 dX5_ofBit_79 ?_
          refine g_iload_n 82 hC dX5_ofBit_82 2 rfl ?_
          refine m_ldD 83 hC (k2 h3 h4) dX5_ofBit_83 ?_
          refine g_iload_n 84 hC dX5_ofBit_84 1 rfl ?_
          refine g_ior 85 hC dX5_ofBit_85 ?_
          refine g_goto 86 hC 99 dX5_ofBit_86 (by decide) ?_
          exact J5 _ (Eq.symm (if_neg h4))
    · skip
      refine g_byT (tS) (fun h6 => ?_) (fun h6 => ?_)
      · refine g_tsIn 36 hC (1 : Int32) (67) 103 h6 dX5_ofBit_36 (by decide) (by decide) (by decide) (by decide) ?_
        refine g_aload_n 103 hC dX5_ofBit_103 3 rfl ?_
        refine g_bipush 104 hC (64 : Int32) dX5_ofBit_104 (by decide) ?_
        refine g_iload 106 hC dX5_ofBit_106 0 rfl ?_
        refine kX5_flag 108 hC gX5_ofBit_X5_flag ⟨Nat.le_of_ble_eq_true rfl, Nat.le_of_ble_eq_true rfl⟩ dX5_ofBit_108 (Nat.le_of_ble_eq_true rfl) ?_
        refine g_goto 111 hC 137 dX5_ofBit_111 (by decide) ?_
        exact g_vretS 137 hC dX5_ofBit_137
      · skip
        refine g_byT (tS) (fun h7 => ?_) (fun h7 => ?_)
        · refine g_tsIn 36 hC (2 : Int32) (78) 114 h7 dX5_ofBit_36 (by decide) (by decide) (by decide) (by decide) ?_
          refine g_aload_n 114 hC dX5_ofBit_114 3 rfl ?_
          refine g_iload 115 hC dX5_ofBit_115 0 rfl ?_
          refine g_cut 125 (if (if ((rD u (fX5_dOf a1)) &&& (jshl (1 : Int32) (a1 &&& (7 : Int32)))) = 0 then (0 : Int32) else (1 : Int32)) = 0 then (1 : Int32) else (0 : Int32)) [.ref (mO h)] ?_ (fun J9 => ?_)
          · skip
            refine kX5_skips 125 hC (k4 h3 h6 h7) gX5_ofBit_X5_skips ⟨Nat.le_of_ble_eq_true rfl, Nat.le_of_ble_eq_true rfl⟩ dX5_ofBit_125 (Nat.le_of_ble_eq_true rfl) ?_
            refine g_goto 128 hC 137 dX5_ofBit_128 (by decide) ?_
            exact g_vretS 137 hC dX5_ofBit_137
          · skip
            refine g_if_ne 117 hC 124 dX5_ofBit_117 (by decide) (fun h8 => ?_) (fun h8 => ?_)
            · skip
              refine g_iconst 124 hC (0 : Int32) dX5_ofBit_124 (by decide) ?_
              exact J9 _ (Eq.symm (if_neg h8))
            · skip
              refine g_iconst 120 hC (1 : Int32) dX5_ofBit_120 (by decide) ?_
              refine g_goto 121 hC 125 dX5_ofBit_121 (by decide) ?_
              exact J9 _ (Eq.symm (if_pos h8))
        · skip
          refine g_tsOut 36 hC 131 dX5_ofBit_36 (by have n0 := lv_neT h3 (a := 0) (by decide); have n1 := lv_neT h6 (a := 1) (by decide); have n2 := lv_neT h7 (a := 2) (by decide); omega) (by decide) ?_
          refine g_aload_n 131 hC dX5_ofBit_131 3 rfl ?_
          refine g_iload 132 hC dX5_ofBit_132 0 rfl ?_
          refine kX5_skips 134 hC (k5 h3 h6 h7) gX5_ofBit_X5_skips ⟨Nat.le_of_ble_eq_true rfl, Nat.le_of_ble_eq_true rfl⟩ dX5_ofBit_134 (Nat.le_of_ble_eq_true rfl) ?_
          exact g_vretS 137 hC dX5_ofBit_137
  · skip
    refine g_if_eq 20 hC 27 dX5_ofBit_20 (by decide) (fun h1 => ?_) (fun h1 => ?_)
    · skip
      refine g_iconst 27 hC (0 : Int32) dX5_ofBit_27 (by decide) ?_
      exact J2 _ (Eq.symm (if_pos h1))
    · skip
      refine g_iconst 23 hC (1 : Int32) dX5_ofBit_23 (by decide) ?_
      refine g_goto 24 hC 28 dX5_ofBit_24 (by decide) ?_
      exact J2 _ (Eq.symm (if_neg h1))
theorem kX5_ofBit {K : KT} {h : HM} {cc : ByteArray} {nL : Nat} {own : String} {Ts : List Cond} {rm : Room} {ret : Option FieldType} {T : ST × Option Value} {u : ST} {lv : List (Nat × Value)} {rest : List Value} {idx : Nat} {a1 : Int32} (pc : Nat) (hC : Cx K (EM h) cc nL own Ts rm ret) (hok : okX5_ofBit a1 u) (hT : GoodIn Ts (wsV own idx RX5 yX5_ofBit wsX5_ofBit)) (hR : rmX5_ofBit.frames + 1 ≤ rm.frames ∧ 8 + (5 + 11) + rmX5_ofBit.locals ≤ rm.locals) (hdg : decode cc pc = .ok (.invokevirtual idx, 3)) (hcat : (rest.map fun v => v.category).sum ≤ 8) (kk : G K (EM h) nL T (fX5_ofBit a1 u) (pc + 3) lv (rest)) : G K (EM h) nL T u pc lv (.int a1 :: .ref (mO h) :: rest) := g_callV (n := 1) pc hC (As := [.int a1]) (rest := rest) (cX5_ofBit_ _ (Cx.ok hC) a1 u hok) hT rfl rfl rfl (by decide +kernel) hR 0 3 rfl rfl rfl rfl rfl hcat hdg kk

def fX5_jumps (a1 : Int32) (a2 : Int32) (a3 : Int32) (u : ST) : ST × Int32 :=
  if a3 = 0 then
    ((sNx u (a2 &&& (1023 : Int32))), (0 : Int32))
  else
    if (fX5_canCall u) = 0 then
      (u, (3 : Int32))
    else
      ((wN (fX5_calls a1 a2 u) (6 : Int32) ((rN (fX5_calls a1 a2 u) (6 : Int32)) + (1 : Int32))), (0 : Int32))
def okX5_jumps (a1 : Int32) (a2 : Int32) (a3 : Int32) (u : ST) : Prop := ((¬ a3 = 0) → okX5_canCall u) ∧ ((¬ a3 = 0) → (¬ (fX5_canCall u) = 0) → okX5_calls a1 a2 u) ∧ True
theorem fiX5_jumps_wsX50 : ∀ w ∈ wsX50, w ∈ wsX5_jumps := fun w h => List.mem_cons_of_mem _ (List.mem_append_right _ h)
theorem fmX5_jumps_16 : Cond.fieldLink RX5 16 "FlagCoreModel" "count" "[I" ∈ wsX5_jumps := List.mem_of_getElem? (i := 2) rfl
theorem fmX5_jumps_84 : Cond.fieldLink RX5 84 "FlagCoreModel" "next" "I" ∈ wsX5_jumps := List.mem_of_getElem? (i := 1) rfl
abbrev rmX5_jumps : Room := { frames := 3, cells := 0, slots := 0, locals := 66 }
set_option maxRecDepth 20000 in
theorem cX5_jumps_ (h : HM) (hE : okE (EM h)) (a1 : Int32) (a2 : Int32) (a3 : Int32) (u : ST) (hok : okX5_jumps a1 a2 a3 u) : MX (EM h) yX5_jumps wsX5_jumps rmX5_jumps [.ref (mO h), .int a1, .int a2, .int a3] u (tW (fX5_jumps a1 a2 a3 u)) := by
  obtain ⟨k0, k1, -⟩ := hok
  refine MX.of (cc := cX5_jumps) (maxL := 4) (ret := (some .int)) (lv := [(0, .ref (mO h)), (1, .int a1), (2, .int a2), (3, .int a3)]) hE (by decide) rfl (fun _ => rfl) (Nat.le_of_ble_eq_true rfl) rfl (fun K hC => ?_)
  unfold fX5_jumps
  refine g_iload_n 0 hC dX5_jumps_0 3 rfl ?_
  refine g_if_neT (tW) 1 hC 15 dX5_jumps_1 (by decide) (fun h1 => ?_) (fun h1 => ?_)
  · skip
    refine g_aload_n 15 hC dX5_jumps_15 0 rfl ?_
    refine kX5_canCall 16 hC (k0 h1) gX5_jumps_X5_canCall ⟨Nat.le_of_ble_eq_true rfl, Nat.le_of_ble_eq_true rfl⟩ dX5_jumps_16 (Nat.le_of_ble_eq_true rfl) ?_
    refine g_if_neT (tW) 19 hC 24 dX5_jumps_19 (by decide) (fun h2 => ?_) (fun h2 => ?_)
    · skip
      refine g_aload_n 24 hC dX5_jumps_24 0 rfl ?_
      refine g_iload_n 25 hC dX5_jumps_25 1 rfl ?_
      refine g_iload_n 26 hC dX5_jumps_26 2 rfl ?_
      refine kX5_calls 27 hC (k1 h1 h2) gX5_jumps_X5_calls ⟨Nat.le_of_ble_eq_true rfl, Nat.le_of_ble_eq_true rfl⟩ dX5_jumps_27 (Nat.le_of_ble_eq_true rfl) ?_
      refine g_aload_n 30 hC dX5_jumps_30 0 rfl ?_
      refine m_get_count 31 hC fiX5_jumps_wsX50 fmX5_jumps_16 dX5_jumps_31 ?_
      refine g_bipush 34 hC (6 : Int32) dX5_jumps_34 (by decide) ?_
      refine g_dup2 36 hC dX5_jumps_36 rfl rfl ?_
      refine m_ldN 37 hC (vp_in_iff.mpr (by decide)) dX5_jumps_37 ?_
      refine g_iconst 38 hC (1 : Int32) dX5_jumps_38 (by decide) ?_
      refine g_iadd 39 hC dX5_jumps_39 ?_
      refine m_stN 40 hC (vp_in_iff.mpr (by decide)) dX5_jumps_40 ?_
      refine g_iconst 41 hC (0 : Int32) dX5_jumps_41 (by decide) ?_
      exact g_iretW 42 hC dX5_jumps_42
    · skip
      refine g_iconst 22 hC (3 : Int32) dX5_jumps_22 (by decide) ?_
      exact g_iretW 23 hC dX5_jumps_23
  · skip
    refine g_aload_n 4 hC dX5_jumps_4 0 rfl ?_
    refine g_iload_n 5 hC dX5_jumps_5 2 rfl ?_
    refine g_sipush 6 hC (1023 : Int32) dX5_jumps_6 (by decide) ?_
    refine g_iand 9 hC dX5_jumps_9 ?_
    refine m_put_next 10 hC fiX5_jumps_wsX50 fmX5_jumps_84 dX5_jumps_10 ?_
    refine g_iconst 13 hC (0 : Int32) dX5_jumps_13 (by decide) ?_
    exact g_iretW 14 hC dX5_jumps_14
theorem kX5_jumps {K : KT} {h : HM} {cc : ByteArray} {nL : Nat} {own : String} {Ts : List Cond} {rm : Room} {ret : Option FieldType} {T : ST × Option Value} {u : ST} {lv : List (Nat × Value)} {rest : List Value} {idx : Nat} {a1 : Int32} {a2 : Int32} {a3 : Int32} (pc : Nat) (hC : Cx K (EM h) cc nL own Ts rm ret) (hok : okX5_jumps a1 a2 a3 u) (hT : GoodIn Ts (wsV own idx RX5 yX5_jumps wsX5_jumps)) (hR : rmX5_jumps.frames + 1 ≤ rm.frames ∧ 8 + (4 + 11) + rmX5_jumps.locals ≤ rm.locals) (hdg : decode cc pc = .ok (.invokevirtual idx, 3)) (hcat : (rest.map fun v => v.category).sum ≤ 8) (kk : G K (EM h) nL T (fX5_jumps a1 a2 a3 u).1 (pc + 3) lv (.int (fX5_jumps a1 a2 a3 u).2 :: rest)) : G K (EM h) nL T u pc lv (.int a3 :: .int a2 :: .int a1 :: .ref (mO h) :: rest) := g_callV (n := 3) pc hC (As := [.int a1, .int a2, .int a3]) (rest := rest) (cX5_jumps_ _ (Cx.ok hC) a1 a2 a3 u hok) hT rfl rfl rfl (by decide +kernel) hR 0 3 rfl rfl rfl rfl rfl hcat hdg kk

def fX5_returns (a1 : Int32) (u : ST) : ST × Int32 :=
  if (fX5_isFar (((fX5_pair (93 : Int32) u) + (1 : Int32)) &&& (65535 : Int32))) = 0 then
    if (fX5_isFar (((fX5_pair (93 : Int32) u) + (2 : Int32)) &&& (65535 : Int32))) = 0 then
      ((if a1 = (38168 : Int32) then (fX5_flag (128 : Int32) (1 : Int32) (sNx ((fX5_pops ((fX5_pops u).1)).1) (((jshl (fX5_pops u).2 (8 : Int32)) ||| (fX5_pops ((fX5_pops u).1)).2) &&& (1023 : Int32)))) else (sNx ((fX5_pops ((fX5_pops u).1)).1) (((jshl (fX5_pops u).2 (8 : Int32)) ||| (fX5_pops ((fX5_pops u).1)).2) &&& (1023 : Int32)))), (0 : Int32))
    else
      (u, (3 : Int32))
  else
    (u, (3 : Int32))
def okX5_returns (a1 : Int32) (u : ST) : Prop := (okX5_pair (93 : Int32) u) ∧ (((fX5_isFar (((fX5_pair (93 : Int32) u) + (1 : Int32)) &&& (65535 : Int32))) = 0) → ((fX5_isFar (((fX5_pair (93 : Int32) u) + (2 : Int32)) &&& (65535 : Int32))) = 0) → okX5_pops u) ∧ (((fX5_isFar (((fX5_pair (93 : Int32) u) + (1 : Int32)) &&& (65535 : Int32))) = 0) → ((fX5_isFar (((fX5_pair (93 : Int32) u) + (2 : Int32)) &&& (65535 : Int32))) = 0) → okX5_pops ((fX5_pops u).1)) ∧ True
theorem cmX5_returns_27 : Jvm.Cond.constant RX5 27 (65535 : Int32) ∈ wsX5_returns := List.mem_of_getElem? (i := 1) rfl
theorem fiX5_returns_wsX50 : ∀ w ∈ wsX50, w ∈ wsX5_returns := fun w h => List.mem_cons_of_mem _ (List.mem_append_right _ h)
theorem fmX5_returns_84 : Cond.fieldLink RX5 84 "FlagCoreModel" "next" "I" ∈ wsX5_returns := List.mem_of_getElem? (i := 2) rfl
theorem cmX5_returns_57 : Jvm.Cond.constant RX5 57 (38168 : Int32) ∈ wsX5_returns := List.mem_of_getElem? (i := 3) rfl
abbrev rmX5_returns : Room := { frames := 2, cells := 0, slots := 0, locals := 43 }
set_option maxRecDepth 20000 in
theorem cX5_returns_ (h : HM) (hE : okE (EM h)) (a1 : Int32) (u : ST) (hok : okX5_returns a1 u) : MX (EM h) yX5_returns wsX5_returns rmX5_returns [.ref (mO h), .int a1] u (tW (fX5_returns a1 u)) := by
  obtain ⟨k0, k1, k2, -⟩ := hok
  refine MX.of (cc := cX5_returns) (maxL := 5) (ret := (some .int)) (lv := [(0, .ref (mO h)), (1, .int a1)]) hE (by decide) rfl (fun _ => rfl) (Nat.le_of_ble_eq_true rfl) rfl (fun K hC => ?_)
  unfold fX5_returns
  refine g_aload_n 0 hC dX5_returns_0 0 rfl ?_
  refine g_bipush 1 hC (93 : Int32) dX5_returns_1 (by decide) ?_
  refine kX5_pair 3 hC k0 gX5_returns_X5_pair ⟨Nat.le_of_ble_eq_true rfl, Nat.le_of_ble_eq_true rfl⟩ dX5_returns_3 (Nat.le_of_ble_eq_true rfl) ?_
  refine g_istore_n 6 hC dX5_returns_6 (by decide) [(2, .int ((fX5_pair (93 : Int32) u))), (0, .ref (mO h)), (1, .int a1)] rfl ?_
  refine g_iload_n 7 hC dX5_returns_7 0 rfl ?_
  refine g_iconst 8 hC (1 : Int32) dX5_returns_8 (by decide) ?_
  refine g_iadd 9 hC dX5_returns_9 ?_
  refine g_ldc 10 hC (65535 : Int32) dX5_returns_10 cmX5_returns_27 ?_
  refine g_iand 12 hC dX5_returns_12 ?_
  refine kX5_isFar 13 hC gX5_returns_X5_isFar ⟨Nat.le_of_ble_eq_true rfl, Nat.le_of_ble_eq_true rfl⟩ dX5_returns_13 (Nat.le_of_ble_eq_true rfl) ?_
  refine g_if_neT (tW) 16 hC 31 dX5_returns_16 (by decide) (fun h1 => ?_) (fun h1 => ?_)
  · skip
    refine g_iconst 31 hC (3 : Int32) dX5_returns_31 (by decide) ?_
    exact g_iretW 32 hC dX5_returns_32
  · skip
    refine g_iload_n 19 hC dX5_returns_19 0 rfl ?_
    refine g_iconst 20 hC (2 : Int32) dX5_returns_20 (by decide) ?_
    refine g_iadd 21 hC dX5_returns_21 ?_
    refine g_ldc 22 hC (65535 : Int32) dX5_returns_22 cmX5_returns_27 ?_
    refine g_iand 24 hC dX5_returns_24 ?_
    refine kX5_isFar 25 hC gX5_returns_X5_isFar ⟨Nat.le_of_ble_eq_true rfl, Nat.le_of_ble_eq_true rfl⟩ dX5_returns_25 (Nat.le_of_ble_eq_true rfl) ?_
    refine g_if_eqT (tW) 28 hC 33 dX5_returns_28 (by decide) (fun h2 => ?_) (fun h2 => ?_)
    · skip
      refine g_aload_n 33 hC dX5_returns_33 1 rfl ?_
      refine kX5_pops 34 hC (k1 h1 h2) gX5_returns_X5_pops ⟨Nat.le_of_ble_eq_true rfl, Nat.le_of_ble_eq_true rfl⟩ dX5_returns_34 (Nat.le_of_ble_eq_true rfl) ?_
      refine g_istore_n 37 hC dX5_returns_37 (by decide) [(3, .int ((fX5_pops u).2)), (2, .int ((fX5_pair (93 : Int32) u))), (0, .ref (mO h)), (1, .int a1)] rfl ?_
      refine g_aload_n 38 hC dX5_returns_38 2 rfl ?_
      refine kX5_pops 39 hC (k2 h1 h2) gX5_returns_X5_pops ⟨Nat.le_of_ble_eq_true rfl, Nat.le_of_ble_eq_true rfl⟩ dX5_returns_39 (Nat.le_of_ble_eq_true rfl) ?_
      refine g_istore 42 hC dX5_returns_42 (by decide) [(4, .int ((fX5_pops ((fX5_pops u).1)).2)), (3, .int ((fX5_pops u).2)), (2, .int ((fX5_pair (93 : Int32) u))), (0, .ref (mO h)), (1, .int a1)] rfl ?_
      refine g_aload_n 44 hC dX5_returns_44 3 rfl ?_
      refine g_iload_n 45 hC dX5_returns_45 1 rfl ?_
      refine g_bipush 46 hC (8 : Int32) dX5_returns_46 (by decide) ?_
      refine g_ishl 48 hC dX5_returns_48 ?_
      refine g_iload 49 hC dX5_returns_49 0 rfl ?_
      refine g_ior 51 hC dX5_returns_51 ?_
      refine g_sipush 52 hC (1023 : Int32) dX5_returns_52 (by decide) ?_
      refine g_iand 55 hC dX5_returns_55 ?_
      refine m_put_next 56 hC fiX5_returns_wsX50 fmX5_returns_84 dX5_returns_56 ?_
      refine g_iload_n 59 hC dX5_returns_59 4 rfl ?_
      refine g_ldc 60 hC (38168 : Int32) dX5_returns_60 cmX5_returns_57 ?_
      refine g_cutS 73 (if a1 = (38168 : Int32) then (fX5_flag (128 : Int32) (1 : Int32) (sNx ((fX5_pops ((fX5_pops u).1)).1) (((jshl (fX5_pops u).2 (8 : Int32)) ||| (fX5_pops ((fX5_pops u).1)).2) &&& (1023 : Int32)))) else (sNx ((fX5_pops ((fX5_pops u).1)).1) (((jshl (fX5_pops u).2 (8 : Int32)) ||| (fX5_pops ((fX5_pops u).1)).2) &&& (1023 : Int32)))) [] ?_ (fun J4 => ?_)
      · skip
        refine g_iconst 73 hC (0 : Int32) dX5_returns_73 (by decide) ?_
        exact g_iretW 74 hC dX5_returns_74
      · skip
        refine g_icmp_ne 62 hC 73 dX5_returns_62 (by decide) (fun h3 => ?_) (fun h3 => ?_)
        · skip
          exact J4 _ (Eq.symm (if_neg h3))
        · skip
          refine g_aload_n 65 hC dX5_returns_65 3 rfl ?_
          refine g_sipush 66 hC (128 : Int32) dX5_returns_66 (by decide) ?_
          refine g_iconst 69 hC (1 : Int32) dX5_returns_69 (by decide) ?_
          refine kX5_flag 70 hC gX5_returns_X5_flag ⟨Nat.le_of_ble_eq_true rfl, Nat.le_of_ble_eq_true rfl⟩ dX5_returns_70 (Nat.le_of_ble_eq_true rfl) ?_
          exact J4 _ (Eq.symm (if_pos h3))
    · skip
      refine g_iconst 31 hC (3 : Int32) dX5_returns_31 (by decide) ?_
      exact g_iretW 32 hC dX5_returns_32
theorem kX5_returns {K : KT} {h : HM} {cc : ByteArray} {nL : Nat} {own : String} {Ts : List Cond} {rm : Room} {ret : Option FieldType} {T : ST × Option Value} {u : ST} {lv : List (Nat × Value)} {rest : List Value} {idx : Nat} {a1 : Int32} (pc : Nat) (hC : Cx K (EM h) cc nL own Ts rm ret) (hok : okX5_returns a1 u) (hT : GoodIn Ts (wsV own idx RX5 yX5_returns wsX5_returns)) (hR : rmX5_returns.frames + 1 ≤ rm.frames ∧ 8 + (5 + 11) + rmX5_returns.locals ≤ rm.locals) (hdg : decode cc pc = .ok (.invokevirtual idx, 3)) (hcat : (rest.map fun v => v.category).sum ≤ 8) (kk : G K (EM h) nL T (fX5_returns a1 u).1 (pc + 3) lv (.int (fX5_returns a1 u).2 :: rest)) : G K (EM h) nL T u pc lv (.int a1 :: .ref (mO h) :: rest) := g_callV (n := 1) pc hC (As := [.int a1]) (rest := rest) (cX5_returns_ _ (Cx.ok hC) a1 u hok) hT rfl rfl rfl (by decide +kernel) hR 0 3 rfl rfl rfl rfl rfl hcat hdg kk

def fX5_ofOthers (a1 : Int32) (u : ST) : ST × Int32 :=
  if (a1 &&& (15 : Int32)) ≤ (11 : Int32) then
    if (a1 &&& (15 : Int32)) = (9 : Int32) then
      (fX5_jumps (gNx u) (fX5_pair (30 : Int32) u) (if a1 = (38153 : Int32) then (1 : Int32) else (0 : Int32)) u)
    else
      if a1 = (38152 : Int32) then
        (fX5_returns a1 u)
      else
        if a1 = (38168 : Int32) then
          (fX5_returns a1 u)
        else
          ((if a1 = (38344 : Int32) then (wD u (0 : Int32) (fX5_codeByte (fX5_pair (30 : Int32) u) u)) else (fX5_flag (jshl (1 : Int32) ((jshr a1 (4 : Int32)) &&& (7 : Int32))) (if (a1 &&& (128 : Int32)) = 0 then (1 : Int32) else (0 : Int32)) u)), (0 : Int32))
  else
    (fX5_jumps (gNx (sNx u (((gNx u) + (1 : Int32)) &&& (1023 : Int32)))) (rC u (gNx u)) (if (a1 &&& (15 : Int32)) ≤ (13 : Int32) then (0 : Int32) else (1 : Int32)) (sNx u (((gNx u) + (1 : Int32)) &&& (1023 : Int32))))
def okX5_ofOthers (a1 : Int32) (u : ST) : Prop := (((a1 &&& (15 : Int32)) ≤ (11 : Int32)) → (¬ (a1 &&& (15 : Int32)) = (9 : Int32)) → (a1 = (38152 : Int32)) → okX5_returns a1 u) ∧ (((a1 &&& (15 : Int32)) ≤ (11 : Int32)) → (¬ (a1 &&& (15 : Int32)) = (9 : Int32)) → (¬ a1 = (38152 : Int32)) → (¬ a1 = (38168 : Int32)) → (a1 = (38344 : Int32)) → okX5_pair (30 : Int32) u) ∧ (((a1 &&& (15 : Int32)) ≤ (11 : Int32)) → (¬ (a1 &&& (15 : Int32)) = (9 : Int32)) → (¬ a1 = (38152 : Int32)) → (a1 = (38168 : Int32)) → okX5_returns a1 u) ∧ (((a1 &&& (15 : Int32)) ≤ (11 : Int32)) → ((a1 &&& (15 : Int32)) = (9 : Int32)) → okX5_pair (30 : Int32) u) ∧ (((a1 &&& (15 : Int32)) ≤ (11 : Int32)) → ((a1 &&& (15 : Int32)) = (9 : Int32)) → okX5_jumps (gNx u) (fX5_pair (30 : Int32) u) (if a1 = (38153 : Int32) then (1 : Int32) else (0 : Int32)) u) ∧ ((¬ (a1 &&& (15 : Int32)) ≤ (11 : Int32)) → vp_in (gNx u) 1024) ∧ ((¬ (a1 &&& (15 : Int32)) ≤ (11 : Int32)) → okX5_jumps (gNx (sNx u (((gNx u) + (1 : Int32)) &&& (1023 : Int32)))) (rC u (gNx u)) (if (a1 &&& (15 : Int32)) ≤ (13 : Int32) then (0 : Int32) else (1 : Int32)) (sNx u (((gNx u) + (1 : Int32)) &&& (1023 : Int32)))) ∧ True
theorem cmX5_ofOthers_56 : Jvm.Cond.constant RX5 56 (38152 : Int32) ∈ wsX5_ofOthers := List.mem_of_getElem? (i := 4) rfl
theorem cmX5_ofOthers_57 : Jvm.Cond.constant RX5 57 (38168 : Int32) ∈ wsX5_ofOthers := List.mem_of_getElem? (i := 5) rfl
theorem cmX5_ofOthers_58 : Jvm.Cond.constant RX5 58 (38344 : Int32) ∈ wsX5_ofOthers := List.mem_of_getElem? (i := 6) rfl
theorem fiX5_ofOthers_wsX50 : ∀ w ∈ wsX50, w ∈ wsX5_ofOthers := fun w h => List.mem_cons_of_mem _ (List.mem_append_right _ h)
theorem fmX5_ofOthers_13 : Cond.fieldLink RX5 13 "FlagCoreModel" "data" "[I" ∈ wsX5_ofOthers := List.mem_of_getElem? (i := 7) rfl
theorem fmX5_ofOthers_84 : Cond.fieldLink RX5 84 "FlagCoreModel" "next" "I" ∈ wsX5_ofOthers := List.mem_of_getElem? (i := 2) rfl
theorem cmX5_ofOthers_60 : Jvm.Cond.constant RX5 60 (38153 : Int32) ∈ wsX5_ofOthers := List.mem_of_getElem? (i := 3) rfl
theorem fmX5_ofOthers_7 : Cond.fieldLink RX5 7 "FlagCoreModel" "code" "[I" ∈ wsX5_ofOthers := List.mem_of_getElem? (i := 1) rfl
abbrev rmX5_ofOthers : Room := { frames := 4, cells := 0, slots := 0, locals := 89 }
set_option maxRecDepth 20000 in
theorem cX5_ofOthers_ (h : HM) (hE : okE (EM h)) (a1 : Int32) (u : ST) (hok : okX5_ofOthers a1 u) : MX (EM h) yX5_ofOthers wsX5_ofOthers rmX5_ofOthers [.ref (mO h), .int a1] u (tW (fX5_ofOthers a1 u)) := by
  obtain ⟨k0, k1, k2, k3, k4, k5, k6, -⟩ := hok
  refine MX.of (cc := cX5_ofOthers) (maxL := 4) (ret := (some .int)) (lv := [(0, .ref (mO h)), (1, .int a1)]) hE (by decide) rfl (fun _ => rfl) (Nat.le_of_ble_eq_true rfl) rfl (fun K hC => ?_)
  unfold fX5_ofOthers
  refine g_iload_n 0 hC dX5_ofOthers_0 1 rfl ?_
  refine g_bipush 1 hC (15 : Int32) dX5_ofOthers_1 (by decide) ?_
  refine g_iand 3 hC dX5_ofOthers_3 ?_
  refine g_istore_n 4 hC dX5_ofOthers_4 (by decide) [(2, .int ((a1 &&& (15 : Int32)))), (0, .ref (mO h)), (1, .int a1)] rfl ?_
  refine g_iload_n 5 hC dX5_ofOthers_5 0 rfl ?_
  refine g_bipush 6 hC (11 : Int32) dX5_ofOthers_6 (by decide) ?_
  refine g_icmp_leT (tW) 8 hC 56 dX5_ofOthers_8 (by decide) (fun h1 => ?_) (fun h1 => ?_)
  · skip
    refine g_iload_n 56 hC dX5_ofOthers_56 0 rfl ?_
    refine g_bipush 57 hC (9 : Int32) dX5_ofOthers_57 (by decide) ?_
    refine g_icmp_neT (tW) 59 hC 88 dX5_ofOthers_59 (by decide) (fun h2 => ?_) (fun h2 => ?_)
    · skip
      refine g_iload_n 88 hC dX5_ofOthers_88 2 rfl ?_
      refine g_ldc 89 hC (38152 : Int32) dX5_ofOthers_89 cmX5_ofOthers_56 ?_
      refine g_icmp_eqT (tW) 91 hC 100 dX5_ofOthers_91 (by decide) (fun h3 => ?_) (fun h3 => ?_)
      · skip
        refine g_aload_n 100 hC dX5_ofOthers_100 1 rfl ?_
        refine g_iload_n 101 hC dX5_ofOthers_101 2 rfl ?_
        refine kX5_returns 102 hC (k0 h1 h2 h3) gX5_ofOthers_X5_returns ⟨Nat.le_of_ble_eq_true rfl, Nat.le_of_ble_eq_true rfl⟩ dX5_ofOthers_102 (Nat.le_of_ble_eq_true rfl) ?_
        exact g_iret 105 hC dX5_ofOthers_105
      · skip
        refine g_iload_n 94 hC dX5_ofOthers_94 2 rfl ?_
        refine g_ldc 95 hC (38168 : Int32) dX5_ofOthers_95 cmX5_ofOthers_57 ?_
        refine g_icmp_neT (tW) 97 hC 106 dX5_ofOthers_97 (by decide) (fun h4 => ?_) (fun h4 => ?_)
        · skip
          refine g_iload_n 106 hC dX5_ofOthers_106 2 rfl ?_
          refine g_ldc 107 hC (38344 : Int32) dX5_ofOthers_107 cmX5_ofOthers_58 ?_
          refine g_cutS 156 (if a1 = (38344 : Int32) then (wD u (0 : Int32) (fX5_codeByte (fX5_pair (30 : Int32) u) u)) else (fX5_flag (jshl (1 : Int32) ((jshr a1 (4 : Int32)) &&& (7 : Int32))) (if (a1 &&& (128 : Int32)) = 0 then (1 : Int32) else (0 : Int32)) u)) [] ?_ (fun J8 => ?_)
          · skip
            refine g_iconst 156 hC (0 : Int32) dX5_ofOthers_156 (by decide) ?_
            exact g_iretW 157 hC dX5_ofOthers_157
          · skip
            refine g_icmp_ne 109 hC 131 dX5_ofOthers_109 (by decide) (fun h5 => ?_) (fun h5 => ?_)
            · skip
              refine g_aload_n 131 hC dX5_ofOthers_131 1 rfl ?_
              refine g_iconst 132 hC (1 : Int32) dX5_ofOthers_132 (by decide) ?_
              refine g_iload_n 133 hC dX5_ofOthers_133 2 rfl ?_
              refine g_iconst 134 hC (4 : Int32) dX5_ofOthers_134 (by decide) ?_
              refine g_ishr 135 hC dX5_ofOthers_135 ?_
              refine g_bipush 136 hC (7 : Int32) dX5_ofOthers_136 (by decide) ?_
              refine g_iand 138 hC dX5_ofOthers_138 ?_
              refine g_ishl 139 hC dX5_ofOthers_139 ?_
              refine g_iload_n 140 hC dX5_ofOthers_140 2 rfl ?_
              refine g_sipush 141 hC (128 : Int32) dX5_ofOthers_141 (by decide) ?_
              refine g_iand 144 hC dX5_ofOthers_144 ?_
              refine g_cut 153 (if (a1 &&& (128 : Int32)) = 0 then (1 : Int32) else (0 : Int32)) [.int ((jshl (1 : Int32) ((jshr a1 (4 : Int32)) &&& (7 : Int32)))), .ref (mO h)] ?_ (fun J7 => ?_)
              · skip
                refine kX5_flag 153 hC gX5_ofOthers_X5_flag ⟨Nat.le_of_ble_eq_true rfl, Nat.le_of_ble_eq_true rfl⟩ dX5_ofOthers_153 (Nat.le_of_ble_eq_true rfl) ?_
                exact J8 _ (Eq.symm (if_neg h5))
              · skip
                refine g_if_ne 145 hC 152 dX5_ofOthers_145 (by decide) (fun h6 => ?_) (fun h6 => ?_)
                · skip
                  refine g_iconst 152 hC (0 : Int32) dX5_ofOthers_152 (by decide) ?_
                  exact J7 _ (Eq.symm (if_neg h6))
                · skip
                  refine g_iconst 148 hC (1 : Int32) dX5_ofOthers_148 (by decide) ?_
                  refine g_goto 149 hC 153 dX5_ofOthers_149 (by decide) ?_
                  exact J7 _ (Eq.symm (if_pos h6))
            · skip
              refine g_aload_n 112 hC dX5_ofOthers_112 1 rfl ?_
              refine m_get_data 113 hC fiX5_ofOthers_wsX50 fmX5_ofOthers_13 dX5_ofOthers_113 ?_
              refine g_iconst 116 hC (0 : Int32) dX5_ofOthers_116 (by decide) ?_
              refine g_aload_n 117 hC dX5_ofOthers_117 1 rfl ?_
              refine g_aload_n 118 hC dX5_ofOthers_118 1 rfl ?_
              refine g_bipush 119 hC (30 : Int32) dX5_ofOthers_119 (by decide) ?_
              refine kX5_pair 121 hC (k1 h1 h2 h3 h4 h5) gX5_ofOthers_X5_pair ⟨Nat.le_of_ble_eq_true rfl, Nat.le_of_ble_eq_true rfl⟩ dX5_ofOthers_121 (Nat.le_of_ble_eq_true rfl) ?_
              refine kX5_codeByte 124 hC gX5_ofOthers_X5_codeByte ⟨Nat.le_of_ble_eq_true rfl, Nat.le_of_ble_eq_true rfl⟩ dX5_ofOthers_124 (Nat.le_of_ble_eq_true rfl) ?_
              refine m_stD 127 hC (vp_in_iff.mpr (by decide)) dX5_ofOthers_127 ?_
              refine g_goto 128 hC 156 dX5_ofOthers_128 (by decide) ?_
              exact J8 _ (Eq.symm (if_pos h5))
        · skip
          refine g_aload_n 100 hC dX5_ofOthers_100 1 rfl ?_
          refine g_iload_n 101 hC dX5_ofOthers_101 2 rfl ?_
          refine kX5_returns 102 hC (k2 h1 h2 h3 h4) gX5_ofOthers_X5_returns ⟨Nat.le_of_ble_eq_true rfl, Nat.le_of_ble_eq_true rfl⟩ dX5_ofOthers_102 (Nat.le_of_ble_eq_true rfl) ?_
          exact g_iret 105 hC dX5_ofOthers_105
    · skip
      refine g_aload_n 62 hC dX5_ofOthers_62 1 rfl ?_
      refine g_aload_n 63 hC dX5_ofOthers_63 1 rfl ?_
      refine m_get_next 64 hC fiX5_ofOthers_wsX50 fmX5_ofOthers_84 dX5_ofOthers_64 ?_
      refine g_aload_n 67 hC dX5_ofOthers_67 1 rfl ?_
      refine g_bipush 68 hC (30 : Int32) dX5_ofOthers_68 (by decide) ?_
      refine kX5_pair 70 hC (k3 h1 h2) gX5_ofOthers_X5_pair ⟨Nat.le_of_ble_eq_true rfl, Nat.le_of_ble_eq_true rfl⟩ dX5_ofOthers_70 (Nat.le_of_ble_eq_true rfl) ?_
      refine g_iload_n 73 hC dX5_ofOthers_73 2 rfl ?_
      refine g_ldc 74 hC (38153 : Int32) dX5_ofOthers_74 cmX5_ofOthers_60 ?_
      refine g_cut 84 (if a1 = (38153 : Int32) then (1 : Int32) else (0 : Int32)) [.int ((fX5_pair (30 : Int32) u)), .int ((gNx u)), .ref (mO h)] ?_ (fun J10 => ?_)
      · skip
        refine kX5_jumps 84 hC (k4 h1 h2) gX5_ofOthers_X5_jumps ⟨Nat.le_of_ble_eq_true rfl, Nat.le_of_ble_eq_true rfl⟩ dX5_ofOthers_84 (Nat.le_of_ble_eq_true rfl) ?_
        exact g_iret 87 hC dX5_ofOthers_87
      · skip
        refine g_icmp_ne 76 hC 83 dX5_ofOthers_76 (by decide) (fun h9 => ?_) (fun h9 => ?_)
        · skip
          refine g_iconst 83 hC (0 : Int32) dX5_ofOthers_83 (by decide) ?_
          exact J10 _ (Eq.symm (if_neg h9))
        · skip
          refine g_iconst 79 hC (1 : Int32) dX5_ofOthers_79 (by decide) ?_
          refine g_goto 80 hC 84 dX5_ofOthers_80 (by decide) ?_
          exact J10 _ (Eq.symm (if_pos h9))
  · skip
    refine g_aload_n 11 hC dX5_ofOthers_11 1 rfl ?_
    refine m_get_code 12 hC fiX5_ofOthers_wsX50 fmX5_ofOthers_7 dX5_ofOthers_12 ?_
    refine g_aload_n 15 hC dX5_ofOthers_15 1 rfl ?_
    refine m_get_next 16 hC fiX5_ofOthers_wsX50 fmX5_ofOthers_84 dX5_ofOthers_16 ?_
    refine m_ldC 19 hC (k5 h1) dX5_ofOthers_19 ?_
    refine g_istore_n 20 hC dX5_ofOthers_20 (by decide) [(3, .int ((rC u (gNx u)))), (2, .int ((a1 &&& (15 : Int32)))), (0, .ref (mO h)), (1, .int a1)] rfl ?_
    refine g_aload_n 21 hC dX5_ofOthers_21 2 rfl ?_
    refine g_aload_n 22 hC dX5_ofOthers_22 2 rfl ?_
    refine m_get_next 23 hC fiX5_ofOthers_wsX50 fmX5_ofOthers_84 dX5_ofOthers_23 ?_
    refine g_iconst 26 hC (1 : Int32) dX5_ofOthers_26 (by decide) ?_
    refine g_iadd 27 hC dX5_ofOthers_27 ?_
    refine g_sipush 28 hC (1023 : Int32) dX5_ofOthers_28 (by decide) ?_
    refine g_iand 31 hC dX5_ofOthers_31 ?_
    refine m_put_next 32 hC fiX5_ofOthers_wsX50 fmX5_ofOthers_84 dX5_ofOthers_32 ?_
    refine g_aload_n 35 hC dX5_ofOthers_35 2 rfl ?_
    refine g_aload_n 36 hC dX5_ofOthers_36 2 rfl ?_
    refine m_get_next 37 hC fiX5_ofOthers_wsX50 fmX5_ofOthers_84 dX5_ofOthers_37 ?_
    refine g_iload_n 40 hC dX5_ofOthers_40 0 rfl ?_
    refine g_iload_n 41 hC dX5_ofOthers_41 1 rfl ?_
    refine g_bipush 42 hC (13 : Int32) dX5_ofOthers_42 (by decide) ?_
    refine g_cut 52 (if (a1 &&& (15 : Int32)) ≤ (13 : Int32) then (0 : Int32) else (1 : Int32)) [.int ((rC u (gNx u))), .int ((gNx (sNx u (((gNx u) + (1 : Int32)) &&& (1023 : Int32))))), .ref (mO h)] ?_ (fun J12 => ?_)
    · skip
      refine kX5_jumps 52 hC (k6 h1) gX5_ofOthers_X5_jumps ⟨Nat.le_of_ble_eq_true rfl, Nat.le_of_ble_eq_true rfl⟩ dX5_ofOthers_52 (Nat.le_of_ble_eq_true rfl) ?_
      exact g_iret 55 hC dX5_ofOthers_55
    · skip
      refine g_icmp_le 44 hC 51 dX5_ofOthers_44 (by decide) (fun h11 => ?_) (fun h11 => ?_)
      · skip
        refine g_iconst 51 hC (0 : Int32) dX5_ofOthers_51 (by decide) ?_
        exact J12 _ (Eq.symm (if_pos h11))
      · skip
        refine g_iconst 47 hC (1 : Int32) dX5_ofOthers_47 (by decide) ?_
        refine g_goto 48 hC 52 dX5_ofOthers_48 (by decide) ?_
        exact J12 _ (Eq.symm (if_neg h11))
theorem kX5_ofOthers {K : KT} {h : HM} {cc : ByteArray} {nL : Nat} {own : String} {Ts : List Cond} {rm : Room} {ret : Option FieldType} {T : ST × Option Value} {u : ST} {lv : List (Nat × Value)} {rest : List Value} {idx : Nat} {a1 : Int32} (pc : Nat) (hC : Cx K (EM h) cc nL own Ts rm ret) (hok : okX5_ofOthers a1 u) (hT : GoodIn Ts (wsV own idx RX5 yX5_ofOthers wsX5_ofOthers)) (hR : rmX5_ofOthers.frames + 1 ≤ rm.frames ∧ 8 + (4 + 11) + rmX5_ofOthers.locals ≤ rm.locals) (hdg : decode cc pc = .ok (.invokevirtual idx, 3)) (hcat : (rest.map fun v => v.category).sum ≤ 8) (kk : G K (EM h) nL T (fX5_ofOthers a1 u).1 (pc + 3) lv (.int (fX5_ofOthers a1 u).2 :: rest)) : G K (EM h) nL T u pc lv (.int a1 :: .ref (mO h) :: rest) := g_callV (n := 1) pc hC (As := [.int a1]) (rest := rest) (cX5_ofOthers_ _ (Cx.ok hC) a1 u hok) hT rfl rfl rfl (by decide +kernel) hR 0 3 rfl rfl rfl rfl rfl hcat hdg kk

def fX5_ofNine (a1 : Int32) (u : ST) : ST × Int32 :=
  if (fX5_isMemory a1) = 0 then
    if (fX5_isOne a1) = 0 then
      ((if (38912 : Int32) ≤ a1 then (if (39936 : Int32) ≤ a1 then (fX5_product ((rD u (fX5_dOf a1)) * (rD u (((jshr a1 (5 : Int32)) &&& (16 : Int32)) ||| (a1 &&& (15 : Int32))))) (0 : Int32) u) else (fX5_ofPortBit a1 u)) else (fX5_ofPair a1 u)), (0 : Int32))
    else
      if (10 : Int32) < (a1 &&& (15 : Int32)) then
        (fX5_ofOthers a1 u)
      else
        if (a1 &&& (15 : Int32)) = (8 : Int32) then
          (fX5_ofOthers a1 u)
        else
          if (a1 &&& (15 : Int32)) = (9 : Int32) then
            (fX5_ofOthers a1 u)
          else
            ((fX5_ofOne a1 u), (0 : Int32))
  else
    (fX5_ofMemory a1 u)
def okX5_ofNine (a1 : Int32) (u : ST) : Prop := (((fX5_isMemory a1) = 0) → ((fX5_isOne a1) = 0) → ((38912 : Int32) ≤ a1) → ((39936 : Int32) ≤ a1) → vp_in (fX5_dOf a1) 1024) ∧ (((fX5_isMemory a1) = 0) → ((fX5_isOne a1) = 0) → ((38912 : Int32) ≤ a1) → ((39936 : Int32) ≤ a1) → vp_in (((jshr a1 (5 : Int32)) &&& (16 : Int32)) ||| (a1 &&& (15 : Int32))) 1024) ∧ (((fX5_isMemory a1) = 0) → ((fX5_isOne a1) = 0) → ((38912 : Int32) ≤ a1) → ((39936 : Int32) ≤ a1) → okX5_product ((rD u (fX5_dOf a1)) * (rD u (((jshr a1 (5 : Int32)) &&& (16 : Int32)) ||| (a1 &&& (15 : Int32))))) (0 : Int32) u) ∧ (((fX5_isMemory a1) = 0) → ((fX5_isOne a1) = 0) → ((38912 : Int32) ≤ a1) → (¬ (39936 : Int32) ≤ a1) → okX5_ofPortBit a1 u) ∧ (((fX5_isMemory a1) = 0) → ((fX5_isOne a1) = 0) → (¬ (38912 : Int32) ≤ a1) → okX5_ofPair a1 u) ∧ (((fX5_isMemory a1) = 0) → (¬ (fX5_isOne a1) = 0) → ((10 : Int32) < (a1 &&& (15 : Int32))) → okX5_ofOthers a1 u) ∧ (((fX5_isMemory a1) = 0) → (¬ (fX5_isOne a1) = 0) → (¬ (10 : Int32) < (a1 &&& (15 : Int32))) → ((a1 &&& (15 : Int32)) = (8 : Int32)) → okX5_ofOthers a1 u) ∧ (((fX5_isMemory a1) = 0) → (¬ (fX5_isOne a1) = 0) → (¬ (10 : Int32) < (a1 &&& (15 : Int32))) → (¬ (a1 &&& (15 : Int32)) = (8 : Int32)) → (¬ (a1 &&& (15 : Int32)) = (9 : Int32)) → okX5_ofOne a1 u) ∧ (((fX5_isMemory a1) = 0) → (¬ (fX5_isOne a1) = 0) → (¬ (10 : Int32) < (a1 &&& (15 : Int32))) → (¬ (a1 &&& (15 : Int32)) = (8 : Int32)) → ((a1 &&& (15 : Int32)) = (9 : Int32)) → okX5_ofOthers a1 u) ∧ ((¬ (fX5_isMemory a1) = 0) → okX5_ofMemory a1 u) ∧ True
theorem cmX5_ofNine_163 : Jvm.Cond.constant RX5 163 (38912 : Int32) ∈ wsX5_ofNine := List.mem_of_getElem? (i := 1) rfl
theorem cmX5_ofNine_167 : Jvm.Cond.constant RX5 167 (39936 : Int32) ∈ wsX5_ofNine := List.mem_of_getElem? (i := 2) rfl
theorem fiX5_ofNine_wsX50 : ∀ w ∈ wsX50, w ∈ wsX5_ofNine := fun w h => List.mem_cons_of_mem _ (List.mem_append_right _ h)
theorem fmX5_ofNine_13 : Cond.fieldLink RX5 13 "FlagCoreModel" "data" "[I" ∈ wsX5_ofNine := List.mem_of_getElem? (i := 3) rfl
abbrev rmX5_ofNine : Room := { frames := 5, cells := 0, slots := 0, locals := 112 }
set_option maxRecDepth 20000 in
theorem cX5_ofNine_ (h : HM) (hE : okE (EM h)) (a1 : Int32) (u : ST) (hok : okX5_ofNine a1 u) : MX (EM h) yX5_ofNine wsX5_ofNine rmX5_ofNine [.ref (mO h), .int a1] u (tW (fX5_ofNine a1 u)) := by
  obtain ⟨k0, k1, k2, k3, k4, k5, k6, k7, k8, k9, -⟩ := hok
  refine MX.of (cc := cX5_ofNine) (maxL := 3) (ret := (some .int)) (lv := [(0, .ref (mO h)), (1, .int a1)]) hE (by decide) rfl (fun _ => rfl) (Nat.le_of_ble_eq_true rfl) rfl (fun K hC => ?_)
  unfold fX5_ofNine
  refine g_iload_n 0 hC dX5_ofNine_0 1 rfl ?_
  refine kX5_isMemory 1 hC gX5_ofNine_X5_isMemory ⟨Nat.le_of_ble_eq_true rfl, Nat.le_of_ble_eq_true rfl⟩ dX5_ofNine_1 (Nat.le_of_ble_eq_true rfl) ?_
  refine g_if_eqT (tW) 4 hC 13 dX5_ofNine_4 (by decide) (fun h1 => ?_) (fun h1 => ?_)
  · skip
    refine g_iload_n 13 hC dX5_ofNine_13 1 rfl ?_
    refine kX5_isOne 14 hC gX5_ofNine_X5_isOne ⟨Nat.le_of_ble_eq_true rfl, Nat.le_of_ble_eq_true rfl⟩ dX5_ofNine_14 (Nat.le_of_ble_eq_true rfl) ?_
    refine g_if_eqT (tW) 17 hC 57 dX5_ofNine_17 (by decide) (fun h2 => ?_) (fun h2 => ?_)
    · skip
      refine g_iload_n 57 hC dX5_ofNine_57 1 rfl ?_
      refine g_ldc 58 hC (38912 : Int32) dX5_ofNine_58 cmX5_ofNine_163 ?_
      refine g_cutS 116 (if (38912 : Int32) ≤ a1 then (if (39936 : Int32) ≤ a1 then (fX5_product ((rD u (fX5_dOf a1)) * (rD u (((jshr a1 (5 : Int32)) &&& (16 : Int32)) ||| (a1 &&& (15 : Int32))))) (0 : Int32) u) else (fX5_ofPortBit a1 u)) else (fX5_ofPair a1 u)) [] ?_ (fun J5 => ?_)
      · skip
        refine g_iconst 116 hC (0 : Int32) dX5_ofNine_116 (by decide) ?_
        exact g_iretW 117 hC dX5_ofNine_117
      · skip
        refine g_icmp_ge 60 hC 71 dX5_ofNine_60 (by decide) (fun h3 => ?_) (fun h3 => ?_)
        · skip
          refine g_iload_n 71 hC dX5_ofNine_71 1 rfl ?_
          refine g_ldc 72 hC (39936 : Int32) dX5_ofNine_72 cmX5_ofNine_167 ?_
          refine g_icmp_ge 74 hC 85 dX5_ofNine_74 (by decide) (fun h4 => ?_) (fun h4 => ?_)
          · skip
            refine g_aload_n 85 hC dX5_ofNine_85 0 rfl ?_
            refine g_aload_n 86 hC dX5_ofNine_86 0 rfl ?_
            refine m_get_data 87 hC fiX5_ofNine_wsX50 fmX5_ofNine_13 dX5_ofNine_87 ?_
            refine g_iload_n 90 hC dX5_ofNine_90 1 rfl ?_
            refine kX5_dOf 91 hC gX5_ofNine_X5_dOf ⟨Nat.le_of_ble_eq_true rfl, Nat.le_of_ble_eq_true rfl⟩ dX5_ofNine_91 (Nat.le_of_ble_eq_true rfl) ?_
            refine m_ldD 94 hC (k0 h1 h2 h3 h4) dX5_ofNine_94 ?_
            refine g_aload_n 95 hC dX5_ofNine_95 0 rfl ?_
            refine m_get_data 96 hC fiX5_ofNine_wsX50 fmX5_ofNine_13 dX5_ofNine_96 ?_
            refine g_iload_n 99 hC dX5_ofNine_99 1 rfl ?_
            refine g_iconst 100 hC (5 : Int32) dX5_ofNine_100 (by decide) ?_
            refine g_ishr 101 hC dX5_ofNine_101 ?_
            refine g_bipush 102 hC (16 : Int32) dX5_ofNine_102 (by decide) ?_
            refine g_iand 104 hC dX5_ofNine_104 ?_
            refine g_iload_n 105 hC dX5_ofNine_105 1 rfl ?_
            refine g_bipush 106 hC (15 : Int32) dX5_ofNine_106 (by decide) ?_
            refine g_iand 108 hC dX5_ofNine_108 ?_
            refine g_ior 109 hC dX5_ofNine_109 ?_
            refine m_ldD 110 hC (k1 h1 h2 h3 h4) dX5_ofNine_110 ?_
            refine g_imul 111 hC dX5_ofNine_111 ?_
            refine g_iconst 112 hC (0 : Int32) dX5_ofNine_112 (by decide) ?_
            refine kX5_product 113 hC (k2 h1 h2 h3 h4) gX5_ofNine_X5_product ⟨Nat.le_of_ble_eq_true rfl, Nat.le_of_ble_eq_true rfl⟩ dX5_ofNine_113 (Nat.le_of_ble_eq_true rfl) ?_
            exact J5 _ (Eq.symm (Eq.trans (if_pos h3) (if_pos h4)))
          · skip
            refine g_aload_n 77 hC dX5_ofNine_77 0 rfl ?_
            refine g_iload_n 78 hC dX5_ofNine_78 1 rfl ?_
            refine kX5_ofPortBit 79 hC (k3 h1 h2 h3 h4) gX5_ofNine_X5_ofPortBit ⟨Nat.le_of_ble_eq_true rfl, Nat.le_of_ble_eq_true rfl⟩ dX5_ofNine_79 (Nat.le_of_ble_eq_true rfl) ?_
            refine g_goto 82 hC 116 dX5_ofNine_82 (by decide) ?_
            exact J5 _ (Eq.symm (Eq.trans (if_pos h3) (if_neg h4)))
        · skip
          refine g_aload_n 63 hC dX5_ofNine_63 0 rfl ?_
          refine g_iload_n 64 hC dX5_ofNine_64 1 rfl ?_
          refine kX5_ofPair 65 hC (k4 h1 h2 h3) gX5_ofNine_X5_ofPair ⟨Nat.le_of_ble_eq_true rfl, Nat.le_of_ble_eq_true rfl⟩ dX5_ofNine_65 (Nat.le_of_ble_eq_true rfl) ?_
          refine g_goto 68 hC 116 dX5_ofNine_68 (by decide) ?_
          exact J5 _ (Eq.symm (if_neg h3))
    · skip
      refine g_iload_n 20 hC dX5_ofNine_20 1 rfl ?_
      refine g_bipush 21 hC (15 : Int32) dX5_ofNine_21 (by decide) ?_
      refine g_iand 23 hC dX5_ofNine_23 ?_
      refine g_istore_n 24 hC dX5_ofNine_24 (by decide) [(2, .int ((a1 &&& (15 : Int32)))), (0, .ref (mO h)), (1, .int a1)] rfl ?_
      refine g_iload_n 25 hC dX5_ofNine_25 0 rfl ?_
      refine g_bipush 26 hC (10 : Int32) dX5_ofNine_26 (by decide) ?_
      refine g_icmp_gtT (tW) 28 hC 43 dX5_ofNine_28 (by decide) (fun h6 => ?_) (fun h6 => ?_)
      · skip
        refine g_aload_n 43 hC dX5_ofNine_43 1 rfl ?_
        refine g_iload_n 44 hC dX5_ofNine_44 2 rfl ?_
        refine kX5_ofOthers 45 hC (k5 h1 h2 h6) gX5_ofNine_X5_ofOthers ⟨Nat.le_of_ble_eq_true rfl, Nat.le_of_ble_eq_true rfl⟩ dX5_ofNine_45 (Nat.le_of_ble_eq_true rfl) ?_
        exact g_iret 48 hC dX5_ofNine_48
      · skip
        refine g_iload_n 31 hC dX5_ofNine_31 0 rfl ?_
        refine g_bipush 32 hC (8 : Int32) dX5_ofNine_32 (by decide) ?_
        refine g_icmp_eqT (tW) 34 hC 43 dX5_ofNine_34 (by decide) (fun h7 => ?_) (fun h7 => ?_)
        · skip
          refine g_aload_n 43 hC dX5_ofNine_43 1 rfl ?_
          refine g_iload_n 44 hC dX5_ofNine_44 2 rfl ?_
          refine kX5_ofOthers 45 hC (k6 h1 h2 h6 h7) gX5_ofNine_X5_ofOthers ⟨Nat.le_of_ble_eq_true rfl, Nat.le_of_ble_eq_true rfl⟩ dX5_ofNine_45 (Nat.le_of_ble_eq_true rfl) ?_
          exact g_iret 48 hC dX5_ofNine_48
        · skip
          refine g_iload_n 37 hC dX5_ofNine_37 0 rfl ?_
          refine g_bipush 38 hC (9 : Int32) dX5_ofNine_38 (by decide) ?_
          refine g_icmp_neT (tW) 40 hC 49 dX5_ofNine_40 (by decide) (fun h8 => ?_) (fun h8 => ?_)
          · skip
            refine g_aload_n 49 hC dX5_ofNine_49 1 rfl ?_
            refine g_iload_n 50 hC dX5_ofNine_50 2 rfl ?_
            refine kX5_ofOne 51 hC (k7 h1 h2 h6 h7 h8) gX5_ofNine_X5_ofOne ⟨Nat.le_of_ble_eq_true rfl, Nat.le_of_ble_eq_true rfl⟩ dX5_ofNine_51 (Nat.le_of_ble_eq_true rfl) ?_
            refine g_goto 54 hC 116 dX5_ofNine_54 (by decide) ?_
            refine g_iconst 116 hC (0 : Int32) dX5_ofNine_116 (by decide) ?_
            exact g_iretW 117 hC dX5_ofNine_117
          · skip
            refine g_aload_n 43 hC dX5_ofNine_43 1 rfl ?_
            refine g_iload_n 44 hC dX5_ofNine_44 2 rfl ?_
            refine kX5_ofOthers 45 hC (k8 h1 h2 h6 h7 h8) gX5_ofNine_X5_ofOthers ⟨Nat.le_of_ble_eq_true rfl, Nat.le_of_ble_eq_true rfl⟩ dX5_ofNine_45 (Nat.le_of_ble_eq_true rfl) ?_
            exact g_iret 48 hC dX5_ofNine_48
  · skip
    refine g_aload_n 7 hC dX5_ofNine_7 0 rfl ?_
    refine g_iload_n 8 hC dX5_ofNine_8 1 rfl ?_
    refine kX5_ofMemory 9 hC (k9 h1) gX5_ofNine_X5_ofMemory ⟨Nat.le_of_ble_eq_true rfl, Nat.le_of_ble_eq_true rfl⟩ dX5_ofNine_9 (Nat.le_of_ble_eq_true rfl) ?_
    exact g_iret 12 hC dX5_ofNine_12
theorem kX5_ofNine {K : KT} {h : HM} {cc : ByteArray} {nL : Nat} {own : String} {Ts : List Cond} {rm : Room} {ret : Option FieldType} {T : ST × Option Value} {u : ST} {lv : List (Nat × Value)} {rest : List Value} {idx : Nat} {a1 : Int32} (pc : Nat) (hC : Cx K (EM h) cc nL own Ts rm ret) (hok : okX5_ofNine a1 u) (hT : GoodIn Ts (wsV own idx RX5 yX5_ofNine wsX5_ofNine)) (hR : rmX5_ofNine.frames + 1 ≤ rm.frames ∧ 8 + (3 + 11) + rmX5_ofNine.locals ≤ rm.locals) (hdg : decode cc pc = .ok (.invokevirtual idx, 3)) (hcat : (rest.map fun v => v.category).sum ≤ 8) (kk : G K (EM h) nL T (fX5_ofNine a1 u).1 (pc + 3) lv (.int (fX5_ofNine a1 u).2 :: rest)) : G K (EM h) nL T u pc lv (.int a1 :: .ref (mO h) :: rest) := g_callV (n := 1) pc hC (As := [.int a1]) (rest := rest) (cX5_ofNine_ _ (Cx.ok hC) a1 u hok) hT rfl rfl rfl (by decide +kernel) hR 0 3 rfl rfl rfl rfl rfl hcat hdg kk

def fX5_ofFifteen (a1 : Int32) (u : ST) : ST × Int32 :=
  if a1 < (63488 : Int32) then
    ((if (fX5_has (jshl (1 : Int32) (a1 &&& (7 : Int32))) u) = (if (1 : Int32) ≤ (a1 &&& (1024 : Int32)) then (0 : Int32) else (1 : Int32)) then (sNx u (((gNx u) + (if ((jshr a1 (3 : Int32)) &&& (127 : Int32)) ≤ (63 : Int32) then ((jshr a1 (3 : Int32)) &&& (127 : Int32)) else (((jshr a1 (3 : Int32)) &&& (127 : Int32)) - (128 : Int32)))) &&& (1023 : Int32))) else u), (0 : Int32))
  else
    ((fX5_ofBit a1 u), (0 : Int32))
def okX5_ofFifteen (a1 : Int32) (u : ST) : Prop := ((¬ a1 < (63488 : Int32)) → okX5_ofBit a1 u) ∧ True
theorem cmX5_ofFifteen_171 : Jvm.Cond.constant RX5 171 (63488 : Int32) ∈ wsX5_ofFifteen := List.mem_of_getElem? (i := 1) rfl
theorem fiX5_ofFifteen_wsX50 : ∀ w ∈ wsX50, w ∈ wsX5_ofFifteen := fun w h => List.mem_cons_of_mem _ (List.mem_append_right _ h)
theorem fmX5_ofFifteen_84 : Cond.fieldLink RX5 84 "FlagCoreModel" "next" "I" ∈ wsX5_ofFifteen := List.mem_of_getElem? (i := 2) rfl
abbrev rmX5_ofFifteen : Room := { frames := 4, cells := 0, slots := 0, locals := 86 }
set_option maxRecDepth 20000 in
theorem cX5_ofFifteen_ (h : HM) (hE : okE (EM h)) (a1 : Int32) (u : ST) (hok : okX5_ofFifteen a1 u) : MX (EM h) yX5_ofFifteen wsX5_ofFifteen rmX5_ofFifteen [.ref (mO h), .int a1] u (tW (fX5_ofFifteen a1 u)) := by
  obtain ⟨k0, -⟩ := hok
  refine MX.of (cc := cX5_ofFifteen) (maxL := 4) (ret := (some .int)) (lv := [(0, .ref (mO h)), (1, .int a1)]) hE (by decide) rfl (fun _ => rfl) (Nat.le_of_ble_eq_true rfl) rfl (fun K hC => ?_)
  unfold fX5_ofFifteen
  refine g_iload_n 0 hC dX5_ofFifteen_0 1 rfl ?_
  refine g_ldc 1 hC (63488 : Int32) dX5_ofFifteen_1 cmX5_ofFifteen_171 ?_
  refine g_icmp_ltT (tW) 3 hC 13 dX5_ofFifteen_3 (by decide) (fun h1 => ?_) (fun h1 => ?_)
  · skip
    refine g_iload_n 13 hC dX5_ofFifteen_13 1 rfl ?_
    refine g_iconst 14 hC (3 : Int32) dX5_ofFifteen_14 (by decide) ?_
    refine g_ishr 15 hC dX5_ofFifteen_15 ?_
    refine g_bipush 16 hC (127 : Int32) dX5_ofFifteen_16 (by decide) ?_
    refine g_iand 18 hC dX5_ofFifteen_18 ?_
    refine g_istore_n 19 hC dX5_ofFifteen_19 (by decide) [(2, .int (((jshr a1 (3 : Int32)) &&& (127 : Int32)))), (0, .ref (mO h)), (1, .int a1)] rfl ?_
    refine g_iload_n 20 hC dX5_ofFifteen_20 0 rfl ?_
    refine g_bipush 21 hC (63 : Int32) dX5_ofFifteen_21 (by decide) ?_
    refine g_cut 35 (if ((jshr a1 (3 : Int32)) &&& (127 : Int32)) ≤ (63 : Int32) then ((jshr a1 (3 : Int32)) &&& (127 : Int32)) else (((jshr a1 (3 : Int32)) &&& (127 : Int32)) - (128 : Int32))) [] ?_ (fun J3 => ?_)
    · skip
      refine g_istore_n 35 hC dX5_ofFifteen_35 (by decide) [(2, .int ((if ((jshr a1 (3 : Int32)) &&& (127 : Int32)) ≤ (63 : Int32) then ((jshr a1 (3 : Int32)) &&& (127 : Int32)) else (((jshr a1 (3 : Int32)) &&& (127 : Int32)) - (128 : Int32))))), (0, .ref (mO h)), (1, .int a1)] rfl ?_
      refine g_aload_n 36 hC dX5_ofFifteen_36 1 rfl ?_
      refine g_iconst 37 hC (1 : Int32) dX5_ofFifteen_37 (by decide) ?_
      refine g_iload_n 38 hC dX5_ofFifteen_38 2 rfl ?_
      refine g_bipush 39 hC (7 : Int32) dX5_ofFifteen_39 (by decide) ?_
      refine g_iand 41 hC dX5_ofFifteen_41 ?_
      refine g_ishl 42 hC dX5_ofFifteen_42 ?_
      refine kX5_has 43 hC gX5_ofFifteen_X5_has ⟨Nat.le_of_ble_eq_true rfl, Nat.le_of_ble_eq_true rfl⟩ dX5_ofFifteen_43 (Nat.le_of_ble_eq_true rfl) ?_
      refine g_istore_n 46 hC dX5_ofFifteen_46 (by decide) [(3, .int ((fX5_has (jshl (1 : Int32) (a1 &&& (7 : Int32))) u))), (2, .int ((if ((jshr a1 (3 : Int32)) &&& (127 : Int32)) ≤ (63 : Int32) then ((jshr a1 (3 : Int32)) &&& (127 : Int32)) else (((jshr a1 (3 : Int32)) &&& (127 : Int32)) - (128 : Int32))))), (0, .ref (mO h)), (1, .int a1)] rfl ?_
      refine g_iload_n 47 hC dX5_ofFifteen_47 0 rfl ?_
      refine g_iload_n 48 hC dX5_ofFifteen_48 3 rfl ?_
      refine g_sipush 49 hC (1024 : Int32) dX5_ofFifteen_49 (by decide) ?_
      refine g_iand 52 hC dX5_ofFifteen_52 ?_
      refine g_iconst 53 hC (1 : Int32) dX5_ofFifteen_53 (by decide) ?_
      refine g_cut 62 (if (1 : Int32) ≤ (a1 &&& (1024 : Int32)) then (0 : Int32) else (1 : Int32)) [.int ((fX5_has (jshl (1 : Int32) (a1 &&& (7 : Int32))) u))] ?_ (fun J5 => ?_)
      · skip
        refine g_cutS 79 (if (fX5_has (jshl (1 : Int32) (a1 &&& (7 : Int32))) u) = (if (1 : Int32) ≤ (a1 &&& (1024 : Int32)) then (0 : Int32) else (1 : Int32)) then (sNx u (((gNx u) + (if ((jshr a1 (3 : Int32)) &&& (127 : Int32)) ≤ (63 : Int32) then ((jshr a1 (3 : Int32)) &&& (127 : Int32)) else (((jshr a1 (3 : Int32)) &&& (127 : Int32)) - (128 : Int32)))) &&& (1023 : Int32))) else u) [] ?_ (fun J7 => ?_)
        · skip
          refine g_iconst 79 hC (0 : Int32) dX5_ofFifteen_79 (by decide) ?_
          exact g_iretW 80 hC dX5_ofFifteen_80
        · skip
          refine g_icmp_ne 62 hC 79 dX5_ofFifteen_62 (by decide) (fun h6 => ?_) (fun h6 => ?_)
          · skip
            exact J7 _ (Eq.symm (if_neg h6))
          · skip
            refine g_aload_n 65 hC dX5_ofFifteen_65 2 rfl ?_
            refine g_aload_n 66 hC dX5_ofFifteen_66 2 rfl ?_
            refine m_get_next 67 hC fiX5_ofFifteen_wsX50 fmX5_ofFifteen_84 dX5_ofFifteen_67 ?_
            refine g_iload_n 70 hC dX5_ofFifteen_70 1 rfl ?_
            refine g_iadd 71 hC dX5_ofFifteen_71 ?_
            refine g_sipush 72 hC (1023 : Int32) dX5_ofFifteen_72 (by decide) ?_
            refine g_iand 75 hC dX5_ofFifteen_75 ?_
            refine m_put_next 76 hC fiX5_ofFifteen_wsX50 fmX5_ofFifteen_84 dX5_ofFifteen_76 ?_
            exact J7 _ (Eq.symm (if_pos h6))
      · skip
        refine g_icmp_ge 54 hC 61 dX5_ofFifteen_54 (by decide) (fun h4 => ?_) (fun h4 => ?_)
        · skip
          refine g_iconst 61 hC (0 : Int32) dX5_ofFifteen_61 (by decide) ?_
          exact J5 _ (Eq.symm (if_pos h4))
        · skip
          refine g_iconst 57 hC (1 : Int32) dX5_ofFifteen_57 (by decide) ?_
          refine g_goto 58 hC 62 dX5_ofFifteen_58 (by decide) ?_
          exact J5 _ (Eq.symm (if_neg h4))
    · skip
      refine g_icmp_le 23 hC 34 dX5_ofFifteen_23 (by decide) (fun h2 => ?_) (fun h2 => ?_)
      · skip
        refine g_iload_n 34 hC dX5_ofFifteen_34 0 rfl ?_
        exact J3 _ (Eq.symm (if_pos h2))
      · skip
        refine g_iload_n 26 hC dX5_ofFifteen_26 0 rfl ?_
        refine g_sipush 27 hC (128 : Int32) dX5_ofFifteen_27 (by decide) ?_
        refine g_isub 30 hC dX5_ofFifteen_30 ?_
        refine g_goto 31 hC 35 dX5_ofFifteen_31 (by decide) ?_
        exact J3 _ (Eq.symm (if_neg h2))
  · skip
    refine g_aload_n 6 hC dX5_ofFifteen_6 0 rfl ?_
    refine g_iload_n 7 hC dX5_ofFifteen_7 1 rfl ?_
    refine kX5_ofBit 8 hC (k0 h1) gX5_ofFifteen_X5_ofBit ⟨Nat.le_of_ble_eq_true rfl, Nat.le_of_ble_eq_true rfl⟩ dX5_ofFifteen_8 (Nat.le_of_ble_eq_true rfl) ?_
    refine g_iconst 11 hC (0 : Int32) dX5_ofFifteen_11 (by decide) ?_
    exact g_iretW 12 hC dX5_ofFifteen_12
theorem kX5_ofFifteen {K : KT} {h : HM} {cc : ByteArray} {nL : Nat} {own : String} {Ts : List Cond} {rm : Room} {ret : Option FieldType} {T : ST × Option Value} {u : ST} {lv : List (Nat × Value)} {rest : List Value} {idx : Nat} {a1 : Int32} (pc : Nat) (hC : Cx K (EM h) cc nL own Ts rm ret) (hok : okX5_ofFifteen a1 u) (hT : GoodIn Ts (wsV own idx RX5 yX5_ofFifteen wsX5_ofFifteen)) (hR : rmX5_ofFifteen.frames + 1 ≤ rm.frames ∧ 8 + (4 + 11) + rmX5_ofFifteen.locals ≤ rm.locals) (hdg : decode cc pc = .ok (.invokevirtual idx, 3)) (hcat : (rest.map fun v => v.category).sum ≤ 8) (kk : G K (EM h) nL T (fX5_ofFifteen a1 u).1 (pc + 3) lv (.int (fX5_ofFifteen a1 u).2 :: rest)) : G K (EM h) nL T u pc lv (.int a1 :: .ref (mO h) :: rest) := g_callV (n := 1) pc hC (As := [.int a1]) (rest := rest) (cX5_ofFifteen_ _ (Cx.ok hC) a1 u hok) hT rfl rfl rfl (by decide +kernel) hR 0 3 rfl rfl rfl rfl rfl hcat hdg kk

