def fX5_skips (a1 : Int32) (u : ST) : ST :=
  if a1 = 0 then
    u
  else
    (wN (sNx u (((gNx u) + (if (fX5_hasNext (rC u (gNx u))) = 0 then (1 : Int32) else (2 : Int32))) &&& (1023 : Int32))) (if (fX5_hasNext (rC u (gNx u))) = 0 then (4 : Int32) else (5 : Int32)) ((rN (sNx u (((gNx u) + (if (fX5_hasNext (rC u (gNx u))) = 0 then (1 : Int32) else (2 : Int32))) &&& (1023 : Int32))) (if (fX5_hasNext (rC u (gNx u))) = 0 then (4 : Int32) else (5 : Int32))) + (1 : Int32)))
def okX5_skips (a1 : Int32) (u : ST) : Prop := ((¬ a1 = 0) → vp_in (gNx u) 1024) ∧ ((¬ a1 = 0) → vp_in (if (fX5_hasNext (rC u (gNx u))) = 0 then (4 : Int32) else (5 : Int32)) 7) ∧ True
theorem fiX5_skips_wsX50 : ∀ w ∈ wsX50, w ∈ wsX5_skips := fun w h => List.mem_cons_of_mem _ (List.mem_append_right _ h)
theorem fmX5_skips_7 : Cond.fieldLink RX5 7 "FlagCoreModel" "code" "[I" ∈ wsX5_skips := List.mem_of_getElem? (i := 1) rfl
theorem fmX5_skips_84 : Cond.fieldLink RX5 84 "FlagCoreModel" "next" "I" ∈ wsX5_skips := List.mem_of_getElem? (i := 2) rfl
theorem fmX5_skips_16 : Cond.fieldLink RX5 16 "FlagCoreModel" "count" "[I" ∈ wsX5_skips := List.mem_of_getElem? (i := 3) rfl
abbrev rmX5_skips : Room := { frames := 2, cells := 0, slots := 0, locals := 40 }
set_option maxRecDepth 20000 in
theorem cX5_skips_ (h : HM) (hE : okE (EM h)) (a1 : Int32) (u : ST) (hok : okX5_skips a1 u) : MX (EM h) yX5_skips wsX5_skips rmX5_skips [.ref (mO h), .int a1] u (tS (fX5_skips a1 u)) := by
  obtain ⟨k0, k1, -⟩ := hok
  refine MX.of (cc := cX5_skips) (maxL := 3) (ret := none) (lv := [(0, .ref (mO h)), (1, .int a1)]) hE (by decide) rfl (fun _ => rfl) (Nat.le_of_ble_eq_true rfl) rfl (fun K hC => ?_)
  unfold fX5_skips
  refine g_iload_n 0 hC dX5_skips_0 1 rfl ?_
  refine g_if_eqT (tS) 1 hC 57 dX5_skips_1 (by decide) (fun h1 => ?_) (fun h1 => ?_)
  · skip
    exact g_vretS 57 hC dX5_skips_57
  · skip
    refine g_aload_n 4 hC dX5_skips_4 0 rfl ?_
    refine m_get_code 5 hC fiX5_skips_wsX50 fmX5_skips_7 dX5_skips_5 ?_
    refine g_aload_n 8 hC dX5_skips_8 0 rfl ?_
    refine m_get_next 9 hC fiX5_skips_wsX50 fmX5_skips_84 dX5_skips_9 ?_
    refine m_ldC 12 hC (k0 h1) dX5_skips_12 ?_
    refine kX5_hasNext 13 hC gX5_skips_X5_hasNext ⟨Nat.le_of_ble_eq_true rfl, Nat.le_of_ble_eq_true rfl⟩ dX5_skips_13 (Nat.le_of_ble_eq_true rfl) ?_
    refine g_istore_n 16 hC dX5_skips_16 (by decide) [(2, .int ((fX5_hasNext (rC u (gNx u))))), (0, .ref (mO h)), (1, .int a1)] rfl ?_
    refine g_aload_n 17 hC dX5_skips_17 1 rfl ?_
    refine g_aload_n 18 hC dX5_skips_18 1 rfl ?_
    refine m_get_next 19 hC fiX5_skips_wsX50 fmX5_skips_84 dX5_skips_19 ?_
    refine g_iload_n 22 hC dX5_skips_22 0 rfl ?_
    refine g_cut 31 (if (fX5_hasNext (rC u (gNx u))) = 0 then (1 : Int32) else (2 : Int32)) [.int ((gNx u)), .ref (mO h)] ?_ (fun J3 => ?_)
    · skip
      refine g_iadd 31 hC dX5_skips_31 ?_
      refine g_sipush 32 hC (1023 : Int32) dX5_skips_32 (by decide) ?_
      refine g_iand 35 hC dX5_skips_35 ?_
      refine m_put_next 36 hC fiX5_skips_wsX50 fmX5_skips_84 dX5_skips_36 ?_
      refine g_aload_n 39 hC dX5_skips_39 1 rfl ?_
      refine m_get_count 40 hC fiX5_skips_wsX50 fmX5_skips_16 dX5_skips_40 ?_
      refine g_iload_n 43 hC dX5_skips_43 0 rfl ?_
      refine g_cut 52 (if (fX5_hasNext (rC u (gNx u))) = 0 then (4 : Int32) else (5 : Int32)) [.ref (mN h)] ?_ (fun J5 => ?_)
      · skip
        refine g_dup2 52 hC dX5_skips_52 rfl rfl ?_
        refine m_ldN 53 hC (k1 h1) dX5_skips_53 ?_
        refine g_iconst 54 hC (1 : Int32) dX5_skips_54 (by decide) ?_
        refine g_iadd 55 hC dX5_skips_55 ?_
        refine m_stN 56 hC (k1 h1) dX5_skips_56 ?_
        exact g_vretS 57 hC dX5_skips_57
      · skip
        refine g_if_eq 44 hC 51 dX5_skips_44 (by decide) (fun h4 => ?_) (fun h4 => ?_)
        · skip
          refine g_iconst 51 hC (4 : Int32) dX5_skips_51 (by decide) ?_
          exact J5 _ (Eq.symm (if_pos h4))
        · skip
          refine g_iconst 47 hC (5 : Int32) dX5_skips_47 (by decide) ?_
          refine g_goto 48 hC 52 dX5_skips_48 (by decide) ?_
          exact J5 _ (Eq.symm (if_neg h4))
    · skip
      refine g_if_eq 23 hC 30 dX5_skips_23 (by decide) (fun h2 => ?_) (fun h2 => ?_)
      · skip
        refine g_iconst 30 hC (1 : Int32) dX5_skips_30 (by decide) ?_
        exact J3 _ (Eq.symm (if_pos h2))
      · skip
        refine g_iconst 26 hC (2 : Int32) dX5_skips_26 (by decide) ?_
        refine g_goto 27 hC 31 dX5_skips_27 (by decide) ?_
        exact J3 _ (Eq.symm (if_neg h2))
theorem kX5_skips {K : KT} {h : HM} {cc : ByteArray} {nL : Nat} {own : String} {Ts : List Cond} {rm : Room} {ret : Option FieldType} {T : ST × Option Value} {u : ST} {lv : List (Nat × Value)} {rest : List Value} {idx : Nat} {a1 : Int32} (pc : Nat) (hC : Cx K (EM h) cc nL own Ts rm ret) (hok : okX5_skips a1 u) (hT : GoodIn Ts (wsV own idx RX5 yX5_skips wsX5_skips)) (hR : rmX5_skips.frames + 1 ≤ rm.frames ∧ 8 + (3 + 11) + rmX5_skips.locals ≤ rm.locals) (hdg : decode cc pc = .ok (.invokevirtual idx, 3)) (hcat : (rest.map fun v => v.category).sum ≤ 8) (kk : G K (EM h) nL T (fX5_skips a1 u) (pc + 3) lv (rest)) : G K (EM h) nL T u pc lv (.int a1 :: .ref (mO h) :: rest) := g_callV (n := 1) pc hC (As := [.int a1]) (rest := rest) (cX5_skips_ _ (Cx.ok hC) a1 u hok) hT rfl rfl rfl (by decide +kernel) hR 0 3 rfl rfl rfl rfl rfl hcat hdg kk

def fX5_ofTwo (a1 : Int32) (u : ST) : ST :=
  if (jshr a1 (10 : Int32)) = (1 : Int32) then
    ((fX5_subtract (rD u (fX5_dOf a1)) (rD u (((jshr a1 (5 : Int32)) &&& (16 : Int32)) ||| (a1 &&& (15 : Int32)))) (fX5_carry u) (1 : Int32) u).1)
  else
    if (jshr a1 (10 : Int32)) = (2 : Int32) then
      (wD ((fX5_subtract (rD u (fX5_dOf a1)) (rD u (((jshr a1 (5 : Int32)) &&& (16 : Int32)) ||| (a1 &&& (15 : Int32)))) (fX5_carry u) (1 : Int32) u).1) (fX5_dOf a1) (fX5_subtract (rD u (fX5_dOf a1)) (rD u (((jshr a1 (5 : Int32)) &&& (16 : Int32)) ||| (a1 &&& (15 : Int32)))) (fX5_carry u) (1 : Int32) u).2)
    else
      if (jshr a1 (10 : Int32)) = (3 : Int32) then
        (wD ((fX5_add (rD u (fX5_dOf a1)) (rD u (((jshr a1 (5 : Int32)) &&& (16 : Int32)) ||| (a1 &&& (15 : Int32)))) (0 : Int32) u).1) (fX5_dOf a1) (fX5_add (rD u (fX5_dOf a1)) (rD u (((jshr a1 (5 : Int32)) &&& (16 : Int32)) ||| (a1 &&& (15 : Int32)))) (0 : Int32) u).2)
      else
        if (jshr a1 (10 : Int32)) = (4 : Int32) then
          (fX5_skips (if (rD u (fX5_dOf a1)) = (rD u (((jshr a1 (5 : Int32)) &&& (16 : Int32)) ||| (a1 &&& (15 : Int32)))) then (1 : Int32) else (0 : Int32)) u)
        else
          if (jshr a1 (10 : Int32)) = (5 : Int32) then
            ((fX5_subtract (rD u (fX5_dOf a1)) (rD u (((jshr a1 (5 : Int32)) &&& (16 : Int32)) ||| (a1 &&& (15 : Int32)))) (0 : Int32) (0 : Int32) u).1)
          else
            if (jshr a1 (10 : Int32)) = (6 : Int32) then
              (wD ((fX5_subtract (rD u (fX5_dOf a1)) (rD u (((jshr a1 (5 : Int32)) &&& (16 : Int32)) ||| (a1 &&& (15 : Int32)))) (0 : Int32) (0 : Int32) u).1) (fX5_dOf a1) (fX5_subtract (rD u (fX5_dOf a1)) (rD u (((jshr a1 (5 : Int32)) &&& (16 : Int32)) ||| (a1 &&& (15 : Int32)))) (0 : Int32) (0 : Int32) u).2)
            else
              if (jshr a1 (10 : Int32)) = (7 : Int32) then
                (wD ((fX5_add (rD u (fX5_dOf a1)) (rD u (((jshr a1 (5 : Int32)) &&& (16 : Int32)) ||| (a1 &&& (15 : Int32)))) (fX5_carry u) u).1) (fX5_dOf a1) (fX5_add (rD u (fX5_dOf a1)) (rD u (((jshr a1 (5 : Int32)) &&& (16 : Int32)) ||| (a1 &&& (15 : Int32)))) (fX5_carry u) u).2)
              else
                if (jshr a1 (10 : Int32)) = (8 : Int32) then
                  (wD ((fX5_logic ((rD u (fX5_dOf a1)) &&& (rD u (((jshr a1 (5 : Int32)) &&& (16 : Int32)) ||| (a1 &&& (15 : Int32))))) u).1) (fX5_dOf a1) (fX5_logic ((rD u (fX5_dOf a1)) &&& (rD u (((jshr a1 (5 : Int32)) &&& (16 : Int32)) ||| (a1 &&& (15 : Int32))))) u).2)
                else
                  if (jshr a1 (10 : Int32)) = (9 : Int32) then
                    (wD ((fX5_logic ((rD u (fX5_dOf a1)) ^^^ (rD u (((jshr a1 (5 : Int32)) &&& (16 : Int32)) ||| (a1 &&& (15 : Int32))))) u).1) (fX5_dOf a1) (fX5_logic ((rD u (fX5_dOf a1)) ^^^ (rD u (((jshr a1 (5 : Int32)) &&& (16 : Int32)) ||| (a1 &&& (15 : Int32))))) u).2)
                  else
                    if (jshr a1 (10 : Int32)) = (10 : Int32) then
                      (wD ((fX5_logic ((rD u (fX5_dOf a1)) ||| (rD u (((jshr a1 (5 : Int32)) &&& (16 : Int32)) ||| (a1 &&& (15 : Int32))))) u).1) (fX5_dOf a1) (fX5_logic ((rD u (fX5_dOf a1)) ||| (rD u (((jshr a1 (5 : Int32)) &&& (16 : Int32)) ||| (a1 &&& (15 : Int32))))) u).2)
                    else
                      (wD u (fX5_dOf a1) (rD u (((jshr a1 (5 : Int32)) &&& (16 : Int32)) ||| (a1 &&& (15 : Int32)))))
def okX5_ofTwo (a1 : Int32) (u : ST) : Prop := (vp_in (fX5_dOf a1) 1024) ∧ (vp_in (((jshr a1 (5 : Int32)) &&& (16 : Int32)) ||| (a1 &&& (15 : Int32))) 1024) ∧ ((¬ (jshr a1 (10 : Int32)) = (1 : Int32)) → ((jshr a1 (10 : Int32)) = (2 : Int32)) → vp_in (fX5_dOf a1) 1024) ∧ ((¬ (jshr a1 (10 : Int32)) = (1 : Int32)) → (¬ (jshr a1 (10 : Int32)) = (2 : Int32)) → ((jshr a1 (10 : Int32)) = (3 : Int32)) → vp_in (fX5_dOf a1) 1024) ∧ ((¬ (jshr a1 (10 : Int32)) = (1 : Int32)) → (¬ (jshr a1 (10 : Int32)) = (2 : Int32)) → (¬ (jshr a1 (10 : Int32)) = (3 : Int32)) → ((jshr a1 (10 : Int32)) = (4 : Int32)) → okX5_skips (if (rD u (fX5_dOf a1)) = (rD u (((jshr a1 (5 : Int32)) &&& (16 : Int32)) ||| (a1 &&& (15 : Int32)))) then (1 : Int32) else (0 : Int32)) u) ∧ ((¬ (jshr a1 (10 : Int32)) = (1 : Int32)) → (¬ (jshr a1 (10 : Int32)) = (2 : Int32)) → (¬ (jshr a1 (10 : Int32)) = (3 : Int32)) → (¬ (jshr a1 (10 : Int32)) = (4 : Int32)) → (¬ (jshr a1 (10 : Int32)) = (5 : Int32)) → ((jshr a1 (10 : Int32)) = (6 : Int32)) → vp_in (fX5_dOf a1) 1024) ∧ ((¬ (jshr a1 (10 : Int32)) = (1 : Int32)) → (¬ (jshr a1 (10 : Int32)) = (2 : Int32)) → (¬ (jshr a1 (10 : Int32)) = (3 : Int32)) → (¬ (jshr a1 (10 : Int32)) = (4 : Int32)) → (¬ (jshr a1 (10 : Int32)) = (5 : Int32)) → (¬ (jshr a1 (10 : Int32)) = (6 : Int32)) → ((jshr a1 (10 : Int32)) = (7 : Int32)) → vp_in (fX5_dOf a1) 1024) ∧ ((¬ (jshr a1 (10 : Int32)) = (1 : Int32)) → (¬ (jshr a1 (10 : Int32)) = (2 : Int32)) → (¬ (jshr a1 (10 : Int32)) = (3 : Int32)) → (¬ (jshr a1 (10 : Int32)) = (4 : Int32)) → (¬ (jshr a1 (10 : Int32)) = (5 : Int32)) → (¬ (jshr a1 (10 : Int32)) = (6 : Int32)) → (¬ (jshr a1 (10 : Int32)) = (7 : Int32)) → ((jshr a1 (10 : Int32)) = (8 : Int32)) → vp_in (fX5_dOf a1) 1024) ∧ ((¬ (jshr a1 (10 : Int32)) = (1 : Int32)) → (¬ (jshr a1 (10 : Int32)) = (2 : Int32)) → (¬ (jshr a1 (10 : Int32)) = (3 : Int32)) → (¬ (jshr a1 (10 : Int32)) = (4 : Int32)) → (¬ (jshr a1 (10 : Int32)) = (5 : Int32)) → (¬ (jshr a1 (10 : Int32)) = (6 : Int32)) → (¬ (jshr a1 (10 : Int32)) = (7 : Int32)) → (¬ (jshr a1 (10 : Int32)) = (8 : Int32)) → ((jshr a1 (10 : Int32)) = (9 : Int32)) → vp_in (fX5_dOf a1) 1024) ∧ ((¬ (jshr a1 (10 : Int32)) = (1 : Int32)) → (¬ (jshr a1 (10 : Int32)) = (2 : Int32)) → (¬ (jshr a1 (10 : Int32)) = (3 : Int32)) → (¬ (jshr a1 (10 : Int32)) = (4 : Int32)) → (¬ (jshr a1 (10 : Int32)) = (5 : Int32)) → (¬ (jshr a1 (10 : Int32)) = (6 : Int32)) → (¬ (jshr a1 (10 : Int32)) = (7 : Int32)) → (¬ (jshr a1 (10 : Int32)) = (8 : Int32)) → (¬ (jshr a1 (10 : Int32)) = (9 : Int32)) → ((jshr a1 (10 : Int32)) = (10 : Int32)) → vp_in (fX5_dOf a1) 1024) ∧ ((¬ (jshr a1 (10 : Int32)) = (1 : Int32)) → (¬ (jshr a1 (10 : Int32)) = (2 : Int32)) → (¬ (jshr a1 (10 : Int32)) = (3 : Int32)) → (¬ (jshr a1 (10 : Int32)) = (4 : Int32)) → (¬ (jshr a1 (10 : Int32)) = (5 : Int32)) → (¬ (jshr a1 (10 : Int32)) = (6 : Int32)) → (¬ (jshr a1 (10 : Int32)) = (7 : Int32)) → (¬ (jshr a1 (10 : Int32)) = (8 : Int32)) → (¬ (jshr a1 (10 : Int32)) = (9 : Int32)) → (¬ (jshr a1 (10 : Int32)) = (10 : Int32)) → vp_in (fX5_dOf a1) 1024) ∧ True
theorem fiX5_ofTwo_wsX50 : ∀ w ∈ wsX50, w ∈ wsX5_ofTwo := fun w h => List.mem_cons_of_mem _ (List.mem_append_right _ h)
theorem fmX5_ofTwo_13 : Cond.fieldLink RX5 13 "FlagCoreModel" "data" "[I" ∈ wsX5_ofTwo := List.mem_of_getElem? (i := 1) rfl
abbrev rmX5_ofTwo : Room := { frames := 3, cells := 0, slots := 0, locals := 70 }
set_option maxRecDepth 20000 in
theorem cX5_ofTwo_ (h : HM) (hE : okE (EM h)) (a1 : Int32) (u : ST) (hok : okX5_ofTwo a1 u) : MX (EM h) yX5_ofTwo wsX5_ofTwo rmX5_ofTwo [.ref (mO h), .int a1] u (tS (fX5_ofTwo a1 u)) := by
  obtain ⟨k0, k1, k2, k3, k4, k5, k6, k7, k8, k9, k10, -⟩ := hok
  refine MX.of (cc := cX5_ofTwo) (maxL := 8) (ret := none) (lv := [(0, .ref (mO h)), (1, .int a1)]) hE (by decide) rfl (fun _ => rfl) (Nat.le_of_ble_eq_true rfl) rfl (fun K hC => ?_)
  unfold fX5_ofTwo
  refine g_iload_n 0 hC dX5_ofTwo_0 1 rfl ?_
  refine kX5_dOf 1 hC gX5_ofTwo_X5_dOf ⟨Nat.le_of_ble_eq_true rfl, Nat.le_of_ble_eq_true rfl⟩ dX5_ofTwo_1 (Nat.le_of_ble_eq_true rfl) ?_
  refine g_istore_n 4 hC dX5_ofTwo_4 (by decide) [(2, .int ((fX5_dOf a1))), (0, .ref (mO h)), (1, .int a1)] rfl ?_
  refine g_aload_n 5 hC dX5_ofTwo_5 1 rfl ?_
  refine m_get_data 6 hC fiX5_ofTwo_wsX50 fmX5_ofTwo_13 dX5_ofTwo_6 ?_
  refine g_iload_n 9 hC dX5_ofTwo_9 0 rfl ?_
  refine m_ldD 10 hC k0 dX5_ofTwo_10 ?_
  refine g_istore_n 11 hC dX5_ofTwo_11 (by decide) [(3, .int ((rD u (fX5_dOf a1)))), (2, .int ((fX5_dOf a1))), (0, .ref (mO h)), (1, .int a1)] rfl ?_
  refine g_aload_n 12 hC dX5_ofTwo_12 2 rfl ?_
  refine m_get_data 13 hC fiX5_ofTwo_wsX50 fmX5_ofTwo_13 dX5_ofTwo_13 ?_
  refine g_iload_n 16 hC dX5_ofTwo_16 3 rfl ?_
  refine g_iconst 17 hC (5 : Int32) dX5_ofTwo_17 (by decide) ?_
  refine g_ishr 18 hC dX5_ofTwo_18 ?_
  refine g_bipush 19 hC (16 : Int32) dX5_ofTwo_19 (by decide) ?_
  refine g_iand 21 hC dX5_ofTwo_21 ?_
  refine g_iload_n 22 hC dX5_ofTwo_22 3 rfl ?_
  refine g_bipush 23 hC (15 : Int32) dX5_ofTwo_23 (by decide) ?_
  refine g_iand 25 hC dX5_ofTwo_25 ?_
  refine g_ior 26 hC dX5_ofTwo_26 ?_
  refine m_ldD 27 hC k1 dX5_ofTwo_27 ?_
  refine g_istore 28 hC dX5_ofTwo_28 (by decide) [(4, .int ((rD u (((jshr a1 (5 : Int32)) &&& (16 : Int32)) ||| (a1 &&& (15 : Int32)))))), (3, .int ((rD u (fX5_dOf a1)))), (2, .int ((fX5_dOf a1))), (0, .ref (mO h)), (1, .int a1)] rfl ?_
  refine g_iload_n 30 hC dX5_ofTwo_30 4 rfl ?_
  refine g_bipush 31 hC (10 : Int32) dX5_ofTwo_31 (by decide) ?_
  refine g_ishr 33 hC dX5_ofTwo_33 ?_
  refine g_byT (tS) (fun h1 => ?_) (fun h1 => ?_)
  · refine g_tsIn 34 hC (1 : Int32) (54) 88 h1 dX5_ofTwo_34 (by decide) (by decide) (by decide) (by decide) ?_
    refine g_aload_n 88 hC dX5_ofTwo_88 3 rfl ?_
    refine g_iload_n 89 hC dX5_ofTwo_89 1 rfl ?_
    refine g_iload 90 hC dX5_ofTwo_90 0 rfl ?_
    refine g_aload_n 92 hC dX5_ofTwo_92 3 rfl ?_
    refine kX5_carry 93 hC gX5_ofTwo_X5_carry ⟨Nat.le_of_ble_eq_true rfl, Nat.le_of_ble_eq_true rfl⟩ dX5_ofTwo_93 (Nat.le_of_ble_eq_true rfl) ?_
    refine g_iconst 96 hC (1 : Int32) dX5_ofTwo_96 (by decide) ?_
    refine kX5_subtract 97 hC gX5_ofTwo_X5_subtract ⟨Nat.le_of_ble_eq_true rfl, Nat.le_of_ble_eq_true rfl⟩ dX5_ofTwo_97 (Nat.le_of_ble_eq_true rfl) ?_
    refine g_istore 100 hC dX5_ofTwo_100 (by decide) [(5, .int ((fX5_subtract (rD u (fX5_dOf a1)) (rD u (((jshr a1 (5 : Int32)) &&& (16 : Int32)) ||| (a1 &&& (15 : Int32)))) (fX5_carry u) (1 : Int32) u).2)), (4, .int ((rD u (((jshr a1 (5 : Int32)) &&& (16 : Int32)) ||| (a1 &&& (15 : Int32)))))), (3, .int ((rD u (fX5_dOf a1)))), (2, .int ((fX5_dOf a1))), (0, .ref (mO h)), (1, .int a1)] rfl ?_
    refine g_goto 102 hC 276 dX5_ofTwo_102 (by decide) ?_
    exact g_vretS 276 hC dX5_ofTwo_276
  · skip
    refine g_byT (tS) (fun h2 => ?_) (fun h2 => ?_)
    · refine g_tsIn 34 hC (2 : Int32) (71) 105 h2 dX5_ofTwo_34 (by decide) (by decide) (by decide) (by decide) ?_
      refine g_aload_n 105 hC dX5_ofTwo_105 3 rfl ?_
      refine g_iload_n 106 hC dX5_ofTwo_106 1 rfl ?_
      refine g_iload 107 hC dX5_ofTwo_107 0 rfl ?_
      refine g_aload_n 109 hC dX5_ofTwo_109 3 rfl ?_
      refine kX5_carry 110 hC gX5_ofTwo_X5_carry ⟨Nat.le_of_ble_eq_true rfl, Nat.le_of_ble_eq_true rfl⟩ dX5_ofTwo_110 (Nat.le_of_ble_eq_true rfl) ?_
      refine g_iconst 113 hC (1 : Int32) dX5_ofTwo_113 (by decide) ?_
      refine kX5_subtract 114 hC gX5_ofTwo_X5_subtract ⟨Nat.le_of_ble_eq_true rfl, Nat.le_of_ble_eq_true rfl⟩ dX5_ofTwo_114 (Nat.le_of_ble_eq_true rfl) ?_
      refine g_istore 117 hC dX5_ofTwo_117 (by decide) [(6, .int ((fX5_subtract (rD u (fX5_dOf a1)) (rD u (((jshr a1 (5 : Int32)) &&& (16 : Int32)) ||| (a1 &&& (15 : Int32)))) (fX5_carry u) (1 : Int32) u).2)), (4, .int ((rD u (((jshr a1 (5 : Int32)) &&& (16 : Int32)) ||| (a1 &&& (15 : Int32)))))), (3, .int ((rD u (fX5_dOf a1)))), (2, .int ((fX5_dOf a1))), (0, .ref (mO h)), (1, .int a1)] rfl ?_
      refine g_aload_n 119 hC dX5_ofTwo_119 4 rfl ?_
      refine m_get_data 120 hC fiX5_ofTwo_wsX50 fmX5_ofTwo_13 dX5_ofTwo_120 ?_
      refine g_iload_n 123 hC dX5_ofTwo_123 3 rfl ?_
      refine g_iload 124 hC dX5_ofTwo_124 0 rfl ?_
      refine m_stD 126 hC (k2 h1 h2) dX5_ofTwo_126 ?_
      refine g_goto 127 hC 276 dX5_ofTwo_127 (by decide) ?_
      exact g_vretS 276 hC dX5_ofTwo_276
    · skip
      refine g_byT (tS) (fun h3 => ?_) (fun h3 => ?_)
      · refine g_tsIn 34 hC (3 : Int32) (96) 130 h3 dX5_ofTwo_34 (by decide) (by decide) (by decide) (by decide) ?_
        refine g_aload_n 130 hC dX5_ofTwo_130 3 rfl ?_
        refine m_get_data 131 hC fiX5_ofTwo_wsX50 fmX5_ofTwo_13 dX5_ofTwo_131 ?_
        refine g_iload_n 134 hC dX5_ofTwo_134 2 rfl ?_
        refine g_aload_n 135 hC dX5_ofTwo_135 3 rfl ?_
        refine g_iload_n 136 hC dX5_ofTwo_136 1 rfl ?_
        refine g_iload 137 hC dX5_ofTwo_137 0 rfl ?_
        refine g_iconst 139 hC (0 : Int32) dX5_ofTwo_139 (by decide) ?_
        refine kX5_add 140 hC gX5_ofTwo_X5_add ⟨Nat.le_of_ble_eq_true rfl, Nat.le_of_ble_eq_true rfl⟩ dX5_ofTwo_140 (Nat.le_of_ble_eq_true rfl) ?_
        refine m_stD 143 hC (k3 h1 h2 h3) dX5_ofTwo_143 ?_
        refine g_goto 144 hC 276 dX5_ofTwo_144 (by decide) ?_
        exact g_vretS 276 hC dX5_ofTwo_276
      · skip
        refine g_byT (tS) (fun h4 => ?_) (fun h4 => ?_)
        · refine g_tsIn 34 hC (4 : Int32) (113) 147 h4 dX5_ofTwo_34 (by decide) (by decide) (by decide) (by decide) ?_
          refine g_aload_n 147 hC dX5_ofTwo_147 3 rfl ?_
          refine g_iload_n 148 hC dX5_ofTwo_148 1 rfl ?_
          refine g_iload 149 hC dX5_ofTwo_149 0 rfl ?_
          refine g_cut 159 (if (rD u (fX5_dOf a1)) = (rD u (((jshr a1 (5 : Int32)) &&& (16 : Int32)) ||| (a1 &&& (15 : Int32)))) then (1 : Int32) else (0 : Int32)) [.ref (mO h)] ?_ (fun J6 => ?_)
          · skip
            refine kX5_skips 159 hC (k4 h1 h2 h3 h4) gX5_ofTwo_X5_skips ⟨Nat.le_of_ble_eq_true rfl, Nat.le_of_ble_eq_true rfl⟩ dX5_ofTwo_159 (Nat.le_of_ble_eq_true rfl) ?_
            refine g_goto 162 hC 276 dX5_ofTwo_162 (by decide) ?_
            exact g_vretS 276 hC dX5_ofTwo_276
          · skip
            refine g_icmp_ne 151 hC 158 dX5_ofTwo_151 (by decide) (fun h5 => ?_) (fun h5 => ?_)
            · skip
              refine g_iconst 158 hC (0 : Int32) dX5_ofTwo_158 (by decide) ?_
              exact J6 _ (Eq.symm (if_neg h5))
            · skip
              refine g_iconst 154 hC (1 : Int32) dX5_ofTwo_154 (by decide) ?_
              refine g_goto 155 hC 159 dX5_ofTwo_155 (by decide) ?_
              exact J6 _ (Eq.symm (if_pos h5))
        · skip
          refine g_byT (tS) (fun h7 => ?_) (fun h7 => ?_)
          · refine g_tsIn 34 hC (5 : Int32) (131) 165 h7 dX5_ofTwo_34 (by decide) (by decide) (by decide) (by decide) ?_
            refine g_aload_n 165 hC dX5_ofTwo_165 3 rfl ?_
            refine g_iload_n 166 hC dX5_ofTwo_166 1 rfl ?_
            refine g_iload 167 hC dX5_ofTwo_167 0 rfl ?_
            refine g_iconst 169 hC (0 : Int32) dX5_ofTwo_169 (by decide) ?_
            refine g_iconst 170 hC (0 : Int32) dX5_ofTwo_170 (by decide) ?_
            refine kX5_subtract 171 hC gX5_ofTwo_X5_subtract ⟨Nat.le_of_ble_eq_true rfl, Nat.le_of_ble_eq_true rfl⟩ dX5_ofTwo_171 (Nat.le_of_ble_eq_true rfl) ?_
            refine g_istore 174 hC dX5_ofTwo_174 (by decide) [(7, .int ((fX5_subtract (rD u (fX5_dOf a1)) (rD u (((jshr a1 (5 : Int32)) &&& (16 : Int32)) ||| (a1 &&& (15 : Int32)))) (0 : Int32) (0 : Int32) u).2)), (4, .int ((rD u (((jshr a1 (5 : Int32)) &&& (16 : Int32)) ||| (a1 &&& (15 : Int32)))))), (3, .int ((rD u (fX5_dOf a1)))), (2, .int ((fX5_dOf a1))), (0, .ref (mO h)), (1, .int a1)] rfl ?_
            refine g_goto 176 hC 276 dX5_ofTwo_176 (by decide) ?_
            exact g_vretS 276 hC dX5_ofTwo_276
          · skip
            refine g_byT (tS) (fun h8 => ?_) (fun h8 => ?_)
            · refine g_tsIn 34 hC (6 : Int32) (145) 179 h8 dX5_ofTwo_34 (by decide) (by decide) (by decide) (by decide) ?_
              refine g_aload_n 179 hC dX5_ofTwo_179 3 rfl ?_
              refine m_get_data 180 hC fiX5_ofTwo_wsX50 fmX5_ofTwo_13 dX5_ofTwo_180 ?_
              refine g_iload_n 183 hC dX5_ofTwo_183 2 rfl ?_
              refine g_aload_n 184 hC dX5_ofTwo_184 3 rfl ?_
              refine g_iload_n 185 hC dX5_ofTwo_185 1 rfl ?_
              refine g_iload 186 hC dX5_ofTwo_186 0 rfl ?_
              refine g_iconst 188 hC (0 : Int32) dX5_ofTwo_188 (by decide) ?_
              refine g_iconst 189 hC (0 : Int32) dX5_ofTwo_189 (by decide) ?_
              refine kX5_subtract 190 hC gX5_ofTwo_X5_subtract ⟨Nat.le_of_ble_eq_true rfl, Nat.le_of_ble_eq_true rfl⟩ dX5_ofTwo_190 (Nat.le_of_ble_eq_true rfl) ?_
              refine m_stD 193 hC (k5 h1 h2 h3 h4 h7 h8) dX5_ofTwo_193 ?_
              refine g_goto 194 hC 276 dX5_ofTwo_194 (by decide) ?_
              exact g_vretS 276 hC dX5_ofTwo_276
            · skip
              refine g_byT (tS) (fun h9 => ?_) (fun h9 => ?_)
              · refine g_tsIn 34 hC (7 : Int32) (163) 197 h9 dX5_ofTwo_34 (by decide) (by decide) (by decide) (by decide) ?_
                refine g_aload_n 197 hC dX5_ofTwo_197 3 rfl ?_
                refine m_get_data 198 hC fiX5_ofTwo_wsX50 fmX5_ofTwo_13 dX5_ofTwo_198 ?_
                refine g_iload_n 201 hC dX5_ofTwo_201 2 rfl ?_
                refine g_aload_n 202 hC dX5_ofTwo_202 3 rfl ?_
                refine g_iload_n 203 hC dX5_ofTwo_203 1 rfl ?_
                refine g_iload 204 hC dX5_ofTwo_204 0 rfl ?_
                refine g_aload_n 206 hC dX5_ofTwo_206 3 rfl ?_
                refine kX5_carry 207 hC gX5_ofTwo_X5_carry ⟨Nat.le_of_ble_eq_true rfl, Nat.le_of_ble_eq_true rfl⟩ dX5_ofTwo_207 (Nat.le_of_ble_eq_true rfl) ?_
                refine kX5_add 210 hC gX5_ofTwo_X5_add ⟨Nat.le_of_ble_eq_true rfl, Nat.le_of_ble_eq_true rfl⟩ dX5_ofTwo_210 (Nat.le_of_ble_eq_true rfl) ?_
                refine m_stD 213 hC (k6 h1 h2 h3 h4 h7 h8 h9) dX5_ofTwo_213 ?_
                refine g_goto 214 hC 276 dX5_ofTwo_214 (by decide) ?_
                exact g_vretS 276 hC dX5_ofTwo_276
              · skip
                refine g_byT (tS) (fun h10 => ?_) (fun h10 => ?_)
                · refine g_tsIn 34 hC (8 : Int32) (183) 217 h10 dX5_ofTwo_34 (by decide) (by decide) (by decide) (by decide) ?_
                  refine g_aload_n 217 hC dX5_ofTwo_217 3 rfl ?_
                  refine m_get_data 218 hC fiX5_ofTwo_wsX50 fmX5_ofTwo_13 dX5_ofTwo_218 ?_
                  refine g_iload_n 221 hC dX5_ofTwo_221 2 rfl ?_
                  refine g_aload_n 222 hC dX5_ofTwo_222 3 rfl ?_
                  refine g_iload_n 223 hC dX5_ofTwo_223 1 rfl ?_
                  refine g_iload 224 hC dX5_ofTwo_224 0 rfl ?_
                  refine g_iand 226 hC dX5_ofTwo_226 ?_
                  refine kX5_logic 227 hC gX5_ofTwo_X5_logic ⟨Nat.le_of_ble_eq_true rfl, Nat.le_of_ble_eq_true rfl⟩ dX5_ofTwo_227 (Nat.le_of_ble_eq_true rfl) ?_
                  refine m_stD 230 hC (k7 h1 h2 h3 h4 h7 h8 h9 h10) dX5_ofTwo_230 ?_
                  refine g_goto 231 hC 276 dX5_ofTwo_231 (by decide) ?_
                  exact g_vretS 276 hC dX5_ofTwo_276
                · skip
                  refine g_byT (tS) (fun h11 => ?_) (fun h11 => ?_)
                  · refine g_tsIn 34 hC (9 : Int32) (200) 234 h11 dX5_ofTwo_34 (by decide) (by decide) (by decide) (by decide) ?_
                    refine g_aload_n 234 hC dX5_ofTwo_234 3 rfl ?_
                    refine m_get_data 235 hC fiX5_ofTwo_wsX50 fmX5_ofTwo_13 dX5_ofTwo_235 ?_
                    refine g_iload_n 238 hC dX5_ofTwo_238 2 rfl ?_
                    refine g_aload_n 239 hC dX5_ofTwo_239 3 rfl ?_
                    refine g_iload_n 240 hC dX5_ofTwo_240 1 rfl ?_
                    refine g_iload 241 hC dX5_ofTwo_241 0 rfl ?_
                    refine g_ixor 243 hC dX5_ofTwo_243 ?_
                    refine kX5_logic 244 hC gX5_ofTwo_X5_logic ⟨Nat.le_of_ble_eq_true rfl, Nat.le_of_ble_eq_true rfl⟩ dX5_ofTwo_244 (Nat.le_of_ble_eq_true rfl) ?_
                    refine m_stD 247 hC (k8 h1 h2 h3 h4 h7 h8 h9 h10 h11) dX5_ofTwo_247 ?_
                    refine g_goto 248 hC 276 dX5_ofTwo_248 (by decide) ?_
                    exact g_vretS 276 hC dX5_ofTwo_276
                  · skip
                    refine g_byT (tS) (fun h12 => ?_) (fun h12 => ?_)
                    · refine g_tsIn 34 hC (10 : Int32) (217) 251 h12 dX5_ofTwo_34 (by decide) (by decide) (by decide) (by decide) ?_
                      refine g_aload_n 251 hC dX5_ofTwo_251 3 rfl ?_
                      refine m_get_data 252 hC fiX5_ofTwo_wsX50 fmX5_ofTwo_13 dX5_ofTwo_252 ?_
                      refine g_iload_n 255 hC dX5_ofTwo_255 2 rfl ?_
                      refine g_aload_n 256 hC dX5_ofTwo_256 3 rfl ?_
                      refine g_iload_n 257 hC dX5_ofTwo_257 1 rfl ?_
                      refine g_iload 258 hC dX5_ofTwo_258 0 rfl ?_
                      refine g_ior 260 hC dX5_ofTwo_260 ?_
                      refine kX5_logic 261 hC gX5_ofTwo_X5_logic ⟨Nat.le_of_ble_eq_true rfl, Nat.le_of_ble_eq_true rfl⟩ dX5_ofTwo_261 (Nat.le_of_ble_eq_true rfl) ?_
                      refine m_stD 264 hC (k9 h1 h2 h3 h4 h7 h8 h9 h10 h11 h12) dX5_ofTwo_264 ?_
                      refine g_goto 265 hC 276 dX5_ofTwo_265 (by decide) ?_
                      exact g_vretS 276 hC dX5_ofTwo_276
                    · skip
                      refine g_tsOut 34 hC 268 dX5_ofTwo_34 (by have n0 := lv_neT h1 (a := 1) (by decide); have n1 := lv_neT h2 (a := 2) (by decide); have n2 := lv_neT h3 (a := 3) (by decide); have n3 := lv_neT h4 (a := 4) (by decide); have n4 := lv_neT h7 (a := 5) (by decide); have n5 := lv_neT h8 (a := 6) (by decide); have n6 := lv_neT h9 (a := 7) (by decide); have n7 := lv_neT h10 (a := 8) (by decide); have n8 := lv_neT h11 (a := 9) (by decide); have n9 := lv_neT h12 (a := 10) (by decide); omega) (by decide) ?_
                      refine g_aload_n 268 hC dX5_ofTwo_268 3 rfl ?_
                      refine m_get_data 269 hC fiX5_ofTwo_wsX50 fmX5_ofTwo_13 dX5_ofTwo_269 ?_
                      refine g_iload_n 272 hC dX5_ofTwo_272 2 rfl ?_
                      refine g_iload 273 hC dX5_ofTwo_273 0 rfl ?_
                      refine m_stD 275 hC (k10 h1 h2 h3 h4 h7 h8 h9 h10 h11 h12) dX5_ofTwo_275 ?_
                      exact g_vretS 276 hC dX5_ofTwo_276
theorem kX5_ofTwo {K : KT} {h : HM} {cc : ByteArray} {nL : Nat} {own : String} {Ts : List Cond} {rm : Room} {ret : Option FieldType} {T : ST × Option Value} {u : ST} {lv : List (Nat × Value)} {rest : List Value} {idx : Nat} {a1 : Int32} (pc : Nat) (hC : Cx K (EM h) cc nL own Ts rm ret) (hok : okX5_ofTwo a1 u) (hT : GoodIn Ts (wsV own idx RX5 yX5_ofTwo wsX5_ofTwo)) (hR : rmX5_ofTwo.frames + 1 ≤ rm.frames ∧ 8 + (8 + 11) + rmX5_ofTwo.locals ≤ rm.locals) (hdg : decode cc pc = .ok (.invokevirtual idx, 3)) (hcat : (rest.map fun v => v.category).sum ≤ 8) (kk : G K (EM h) nL T (fX5_ofTwo a1 u) (pc + 3) lv (rest)) : G K (EM h) nL T u pc lv (.int a1 :: .ref (mO h) :: rest) := g_callV (n := 1) pc hC (As := [.int a1]) (rest := rest) (cX5_ofTwo_ _ (Cx.ok hC) a1 u hok) hT rfl rfl rfl (by decide +kernel) hR 0 3 rfl rfl rfl rfl rfl hcat hdg kk

def fX5_ofNumber (a1 : Int32) (u : ST) : ST :=
  if (jshr a1 (12 : Int32)) = (3 : Int32) then
    ((fX5_subtract (rD u ((16 : Int32) + ((jshr a1 (4 : Int32)) &&& (15 : Int32)))) (((jshr a1 (4 : Int32)) &&& (240 : Int32)) ||| (a1 &&& (15 : Int32))) (0 : Int32) (0 : Int32) u).1)
  else
    if (jshr a1 (12 : Int32)) = (4 : Int32) then
      (wD ((fX5_subtract (rD u ((16 : Int32) + ((jshr a1 (4 : Int32)) &&& (15 : Int32)))) (((jshr a1 (4 : Int32)) &&& (240 : Int32)) ||| (a1 &&& (15 : Int32))) (fX5_carry u) (1 : Int32) u).1) ((16 : Int32) + ((jshr a1 (4 : Int32)) &&& (15 : Int32))) (fX5_subtract (rD u ((16 : Int32) + ((jshr a1 (4 : Int32)) &&& (15 : Int32)))) (((jshr a1 (4 : Int32)) &&& (240 : Int32)) ||| (a1 &&& (15 : Int32))) (fX5_carry u) (1 : Int32) u).2)
    else
      if (jshr a1 (12 : Int32)) = (5 : Int32) then
        (wD ((fX5_subtract (rD u ((16 : Int32) + ((jshr a1 (4 : Int32)) &&& (15 : Int32)))) (((jshr a1 (4 : Int32)) &&& (240 : Int32)) ||| (a1 &&& (15 : Int32))) (0 : Int32) (0 : Int32) u).1) ((16 : Int32) + ((jshr a1 (4 : Int32)) &&& (15 : Int32))) (fX5_subtract (rD u ((16 : Int32) + ((jshr a1 (4 : Int32)) &&& (15 : Int32)))) (((jshr a1 (4 : Int32)) &&& (240 : Int32)) ||| (a1 &&& (15 : Int32))) (0 : Int32) (0 : Int32) u).2)
      else
        if (jshr a1 (12 : Int32)) = (6 : Int32) then
          (wD ((fX5_logic ((rD u ((16 : Int32) + ((jshr a1 (4 : Int32)) &&& (15 : Int32)))) ||| (((jshr a1 (4 : Int32)) &&& (240 : Int32)) ||| (a1 &&& (15 : Int32)))) u).1) ((16 : Int32) + ((jshr a1 (4 : Int32)) &&& (15 : Int32))) (fX5_logic ((rD u ((16 : Int32) + ((jshr a1 (4 : Int32)) &&& (15 : Int32)))) ||| (((jshr a1 (4 : Int32)) &&& (240 : Int32)) ||| (a1 &&& (15 : Int32)))) u).2)
        else
          if (jshr a1 (12 : Int32)) = (7 : Int32) then
            (wD ((fX5_logic ((rD u ((16 : Int32) + ((jshr a1 (4 : Int32)) &&& (15 : Int32)))) &&& (((jshr a1 (4 : Int32)) &&& (240 : Int32)) ||| (a1 &&& (15 : Int32)))) u).1) ((16 : Int32) + ((jshr a1 (4 : Int32)) &&& (15 : Int32))) (fX5_logic ((rD u ((16 : Int32) + ((jshr a1 (4 : Int32)) &&& (15 : Int32)))) &&& (((jshr a1 (4 : Int32)) &&& (240 : Int32)) ||| (a1 &&& (15 : Int32)))) u).2)
          else
            (wD u ((16 : Int32) + ((jshr a1 (4 : Int32)) &&& (15 : Int32))) (((jshr a1 (4 : Int32)) &&& (240 : Int32)) ||| (a1 &&& (15 : Int32))))
def okX5_ofNumber (a1 : Int32) (u : ST) : Prop := (vp_in ((16 : Int32) + ((jshr a1 (4 : Int32)) &&& (15 : Int32))) 1024) ∧ ((¬ (jshr a1 (12 : Int32)) = (3 : Int32)) → ((jshr a1 (12 : Int32)) = (4 : Int32)) → vp_in ((16 : Int32) + ((jshr a1 (4 : Int32)) &&& (15 : Int32))) 1024) ∧ ((¬ (jshr a1 (12 : Int32)) = (3 : Int32)) → (¬ (jshr a1 (12 : Int32)) = (4 : Int32)) → ((jshr a1 (12 : Int32)) = (5 : Int32)) → vp_in ((16 : Int32) + ((jshr a1 (4 : Int32)) &&& (15 : Int32))) 1024) ∧ ((¬ (jshr a1 (12 : Int32)) = (3 : Int32)) → (¬ (jshr a1 (12 : Int32)) = (4 : Int32)) → (¬ (jshr a1 (12 : Int32)) = (5 : Int32)) → ((jshr a1 (12 : Int32)) = (6 : Int32)) → vp_in ((16 : Int32) + ((jshr a1 (4 : Int32)) &&& (15 : Int32))) 1024) ∧ ((¬ (jshr a1 (12 : Int32)) = (3 : Int32)) → (¬ (jshr a1 (12 : Int32)) = (4 : Int32)) → (¬ (jshr a1 (12 : Int32)) = (5 : Int32)) → (¬ (jshr a1 (12 : Int32)) = (6 : Int32)) → ((jshr a1 (12 : Int32)) = (7 : Int32)) → vp_in ((16 : Int32) + ((jshr a1 (4 : Int32)) &&& (15 : Int32))) 1024) ∧ ((¬ (jshr a1 (12 : Int32)) = (3 : Int32)) → (¬ (jshr a1 (12 : Int32)) = (4 : Int32)) → (¬ (jshr a1 (12 : Int32)) = (5 : Int32)) → (¬ (jshr a1 (12 : Int32)) = (6 : Int32)) → (¬ (jshr a1 (12 : Int32)) = (7 : Int32)) → vp_in ((16 : Int32) + ((jshr a1 (4 : Int32)) &&& (15 : Int32))) 1024) ∧ True
theorem fiX5_ofNumber_wsX50 : ∀ w ∈ wsX50, w ∈ wsX5_ofNumber := fun w h => List.mem_cons_of_mem _ (List.mem_append_right _ h)
theorem fmX5_ofNumber_13 : Cond.fieldLink RX5 13 "FlagCoreModel" "data" "[I" ∈ wsX5_ofNumber := List.mem_of_getElem? (i := 1) rfl
abbrev rmX5_ofNumber : Room := { frames := 3, cells := 0, slots := 0, locals := 70 }
set_option maxRecDepth 20000 in
theorem cX5_ofNumber_ (h : HM) (hE : okE (EM h)) (a1 : Int32) (u : ST) (hok : okX5_ofNumber a1 u) : MX (EM h) yX5_ofNumber wsX5_ofNumber rmX5_ofNumber [.ref (mO h), .int a1] u (tS (fX5_ofNumber a1 u)) := by
  obtain ⟨k0, k1, k2, k3, k4, k5, -⟩ := hok
  refine MX.of (cc := cX5_ofNumber) (maxL := 6) (ret := none) (lv := [(0, .ref (mO h)), (1, .int a1)]) hE (by decide) rfl (fun _ => rfl) (Nat.le_of_ble_eq_true rfl) rfl (fun K hC => ?_)
  unfold fX5_ofNumber
  refine g_bipush 0 hC (16 : Int32) dX5_ofNumber_0 (by decide) ?_
  refine g_iload_n 2 hC dX5_ofNumber_2 1 rfl ?_
  refine g_iconst 3 hC (4 : Int32) dX5_ofNumber_3 (by decide) ?_
  refine g_ishr 4 hC dX5_ofNumber_4 ?_
  refine g_bipush 5 hC (15 : Int32) dX5_ofNumber_5 (by decide) ?_
  refine g_iand 7 hC dX5_ofNumber_7 ?_
  refine g_iadd 8 hC dX5_ofNumber_8 ?_
  refine g_istore_n 9 hC dX5_ofNumber_9 (by decide) [(2, .int (((16 : Int32) + ((jshr a1 (4 : Int32)) &&& (15 : Int32))))), (0, .ref (mO h)), (1, .int a1)] rfl ?_
  refine g_iload_n 10 hC dX5_ofNumber_10 2 rfl ?_
  refine g_iconst 11 hC (4 : Int32) dX5_ofNumber_11 (by decide) ?_
  refine g_ishr 12 hC dX5_ofNumber_12 ?_
  refine g_sipush 13 hC (240 : Int32) dX5_ofNumber_13 (by decide) ?_
  refine g_iand 16 hC dX5_ofNumber_16 ?_
  refine g_iload_n 17 hC dX5_ofNumber_17 2 rfl ?_
  refine g_bipush 18 hC (15 : Int32) dX5_ofNumber_18 (by decide) ?_
  refine g_iand 20 hC dX5_ofNumber_20 ?_
  refine g_ior 21 hC dX5_ofNumber_21 ?_
  refine g_istore_n 22 hC dX5_ofNumber_22 (by decide) [(3, .int ((((jshr a1 (4 : Int32)) &&& (240 : Int32)) ||| (a1 &&& (15 : Int32))))), (2, .int (((16 : Int32) + ((jshr a1 (4 : Int32)) &&& (15 : Int32))))), (0, .ref (mO h)), (1, .int a1)] rfl ?_
  refine g_aload_n 23 hC dX5_ofNumber_23 2 rfl ?_
  refine m_get_data 24 hC fiX5_ofNumber_wsX50 fmX5_ofNumber_13 dX5_ofNumber_24 ?_
  refine g_iload_n 27 hC dX5_ofNumber_27 1 rfl ?_
  refine m_ldD 28 hC k0 dX5_ofNumber_28 ?_
  refine g_istore 29 hC dX5_ofNumber_29 (by decide) [(4, .int ((rD u ((16 : Int32) + ((jshr a1 (4 : Int32)) &&& (15 : Int32)))))), (3, .int ((((jshr a1 (4 : Int32)) &&& (240 : Int32)) ||| (a1 &&& (15 : Int32))))), (2, .int (((16 : Int32) + ((jshr a1 (4 : Int32)) &&& (15 : Int32))))), (0, .ref (mO h)), (1, .int a1)] rfl ?_
  refine g_iload_n 31 hC dX5_ofNumber_31 4 rfl ?_
  refine g_bipush 32 hC (12 : Int32) dX5_ofNumber_32 (by decide) ?_
  refine g_ishr 34 hC dX5_ofNumber_34 ?_
  refine g_byT (tS) (fun h1 => ?_) (fun h1 => ?_)
  · refine g_tsIn 35 hC (3 : Int32) (33) 68 h1 dX5_ofNumber_35 (by decide) (by decide) (by decide) (by decide) ?_
    refine g_aload_n 68 hC dX5_ofNumber_68 3 rfl ?_
    refine g_iload 69 hC dX5_ofNumber_69 0 rfl ?_
    refine g_iload_n 71 hC dX5_ofNumber_71 1 rfl ?_
    refine g_iconst 72 hC (0 : Int32) dX5_ofNumber_72 (by decide) ?_
    refine g_iconst 73 hC (0 : Int32) dX5_ofNumber_73 (by decide) ?_
    refine kX5_subtract 74 hC gX5_ofNumber_X5_subtract ⟨Nat.le_of_ble_eq_true rfl, Nat.le_of_ble_eq_true rfl⟩ dX5_ofNumber_74 (Nat.le_of_ble_eq_true rfl) ?_
    refine g_istore 77 hC dX5_ofNumber_77 (by decide) [(5, .int ((fX5_subtract (rD u ((16 : Int32) + ((jshr a1 (4 : Int32)) &&& (15 : Int32)))) (((jshr a1 (4 : Int32)) &&& (240 : Int32)) ||| (a1 &&& (15 : Int32))) (0 : Int32) (0 : Int32) u).2)), (4, .int ((rD u ((16 : Int32) + ((jshr a1 (4 : Int32)) &&& (15 : Int32)))))), (3, .int ((((jshr a1 (4 : Int32)) &&& (240 : Int32)) ||| (a1 &&& (15 : Int32))))), (2, .int (((16 : Int32) + ((jshr a1 (4 : Int32)) &&& (15 : Int32))))), (0, .ref (mO h)), (1, .int a1)] rfl ?_
    refine g_goto 79 hC 162 dX5_ofNumber_79 (by decide) ?_
    exact g_vretS 162 hC dX5_ofNumber_162
  · skip
    refine g_byT (tS) (fun h2 => ?_) (fun h2 => ?_)
    · refine g_tsIn 35 hC (4 : Int32) (47) 82 h2 dX5_ofNumber_35 (by decide) (by decide) (by decide) (by decide) ?_
      refine g_aload_n 82 hC dX5_ofNumber_82 3 rfl ?_
      refine m_get_data 83 hC fiX5_ofNumber_wsX50 fmX5_ofNumber_13 dX5_ofNumber_83 ?_
      refine g_iload_n 86 hC dX5_ofNumber_86 2 rfl ?_
      refine g_aload_n 87 hC dX5_ofNumber_87 3 rfl ?_
      refine g_iload 88 hC dX5_ofNumber_88 0 rfl ?_
      refine g_iload_n 90 hC dX5_ofNumber_90 1 rfl ?_
      refine g_aload_n 91 hC dX5_ofNumber_91 3 rfl ?_
      refine kX5_carry 92 hC gX5_ofNumber_X5_carry ⟨Nat.le_of_ble_eq_true rfl, Nat.le_of_ble_eq_true rfl⟩ dX5_ofNumber_92 (Nat.le_of_ble_eq_true rfl) ?_
      refine g_iconst 95 hC (1 : Int32) dX5_ofNumber_95 (by decide) ?_
      refine kX5_subtract 96 hC gX5_ofNumber_X5_subtract ⟨Nat.le_of_ble_eq_true rfl, Nat.le_of_ble_eq_true rfl⟩ dX5_ofNumber_96 (Nat.le_of_ble_eq_true rfl) ?_
      refine m_stD 99 hC (k1 h1 h2) dX5_ofNumber_99 ?_
      refine g_goto 100 hC 162 dX5_ofNumber_100 (by decide) ?_
      exact g_vretS 162 hC dX5_ofNumber_162
    · skip
      refine g_byT (tS) (fun h3 => ?_) (fun h3 => ?_)
      · refine g_tsIn 35 hC (5 : Int32) (68) 103 h3 dX5_ofNumber_35 (by decide) (by decide) (by decide) (by decide) ?_
        refine g_aload_n 103 hC dX5_ofNumber_103 3 rfl ?_
        refine m_get_data 104 hC fiX5_ofNumber_wsX50 fmX5_ofNumber_13 dX5_ofNumber_104 ?_
        refine g_iload_n 107 hC dX5_ofNumber_107 2 rfl ?_
        refine g_aload_n 108 hC dX5_ofNumber_108 3 rfl ?_
        refine g_iload 109 hC dX5_ofNumber_109 0 rfl ?_
        refine g_iload_n 111 hC dX5_ofNumber_111 1 rfl ?_
        refine g_iconst 112 hC (0 : Int32) dX5_ofNumber_112 (by decide) ?_
        refine g_iconst 113 hC (0 : Int32) dX5_ofNumber_113 (by decide) ?_
        refine kX5_subtract 114 hC gX5_ofNumber_X5_subtract ⟨Nat.le_of_ble_eq_true rfl, Nat.le_of_ble_eq_true rfl⟩ dX5_ofNumber_114 (Nat.le_of_ble_eq_true rfl) ?_
        refine m_stD 117 hC (k2 h1 h2 h3) dX5_ofNumber_117 ?_
        refine g_goto 118 hC 162 dX5_ofNumber_118 (by decide) ?_
        exact g_vretS 162 hC dX5_ofNumber_162
      · skip
        refine g_byT (tS) (fun h4 => ?_) (fun h4 => ?_)
        · refine g_tsIn 35 hC (6 : Int32) (86) 121 h4 dX5_ofNumber_35 (by decide) (by decide) (by decide) (by decide) ?_
          refine g_aload_n 121 hC dX5_ofNumber_121 3 rfl ?_
          refine m_get_data 122 hC fiX5_ofNumber_wsX50 fmX5_ofNumber_13 dX5_ofNumber_122 ?_
          refine g_iload_n 125 hC dX5_ofNumber_125 2 rfl ?_
          refine g_aload_n 126 hC dX5_ofNumber_126 3 rfl ?_
          refine g_iload 127 hC dX5_ofNumber_127 0 rfl ?_
          refine g_iload_n 129 hC dX5_ofNumber_129 1 rfl ?_
          refine g_ior 130 hC dX5_ofNumber_130 ?_
          refine kX5_logic 131 hC gX5_ofNumber_X5_logic ⟨Nat.le_of_ble_eq_true rfl, Nat.le_of_ble_eq_true rfl⟩ dX5_ofNumber_131 (Nat.le_of_ble_eq_true rfl) ?_
          refine m_stD 134 hC (k3 h1 h2 h3 h4) dX5_ofNumber_134 ?_
          refine g_goto 135 hC 162 dX5_ofNumber_135 (by decide) ?_
          exact g_vretS 162 hC dX5_ofNumber_162
        · skip
          refine g_byT (tS) (fun h5 => ?_) (fun h5 => ?_)
          · refine g_tsIn 35 hC (7 : Int32) (103) 138 h5 dX5_ofNumber_35 (by decide) (by decide) (by decide) (by decide) ?_
            refine g_aload_n 138 hC dX5_ofNumber_138 3 rfl ?_
            refine m_get_data 139 hC fiX5_ofNumber_wsX50 fmX5_ofNumber_13 dX5_ofNumber_139 ?_
            refine g_iload_n 142 hC dX5_ofNumber_142 2 rfl ?_
            refine g_aload_n 143 hC dX5_ofNumber_143 3 rfl ?_
            refine g_iload 144 hC dX5_ofNumber_144 0 rfl ?_
            refine g_iload_n 146 hC dX5_ofNumber_146 1 rfl ?_
            refine g_iand 147 hC dX5_ofNumber_147 ?_
            refine kX5_logic 148 hC gX5_ofNumber_X5_logic ⟨Nat.le_of_ble_eq_true rfl, Nat.le_of_ble_eq_true rfl⟩ dX5_ofNumber_148 (Nat.le_of_ble_eq_true rfl) ?_
            refine m_stD 151 hC (k4 h1 h2 h3 h4 h5) dX5_ofNumber_151 ?_
            refine g_goto 152 hC 162 dX5_ofNumber_152 (by decide) ?_
            exact g_vretS 162 hC dX5_ofNumber_162
          · skip
            refine g_tsOut 35 hC 155 dX5_ofNumber_35 (by have n0 := lv_neT h1 (a := 3) (by decide); have n1 := lv_neT h2 (a := 4) (by decide); have n2 := lv_neT h3 (a := 5) (by decide); have n3 := lv_neT h4 (a := 6) (by decide); have n4 := lv_neT h5 (a := 7) (by decide); omega) (by decide) ?_
            refine g_aload_n 155 hC dX5_ofNumber_155 3 rfl ?_
            refine m_get_data 156 hC fiX5_ofNumber_wsX50 fmX5_ofNumber_13 dX5_ofNumber_156 ?_
            refine g_iload_n 159 hC dX5_ofNumber_159 2 rfl ?_
            refine g_iload_n 160 hC dX5_ofNumber_160 1 rfl ?_
            refine m_stD 161 hC (k5 h1 h2 h3 h4 h5) dX5_ofNumber_161 ?_
            exact g_vretS 162 hC dX5_ofNumber_162
theorem kX5_ofNumber {K : KT} {h : HM} {cc : ByteArray} {nL : Nat} {own : String} {Ts : List Cond} {rm : Room} {ret : Option FieldType} {T : ST × Option Value} {u : ST} {lv : List (Nat × Value)} {rest : List Value} {idx : Nat} {a1 : Int32} (pc : Nat) (hC : Cx K (EM h) cc nL own Ts rm ret) (hok : okX5_ofNumber a1 u) (hT : GoodIn Ts (wsV own idx RX5 yX5_ofNumber wsX5_ofNumber)) (hR : rmX5_ofNumber.frames + 1 ≤ rm.frames ∧ 8 + (6 + 11) + rmX5_ofNumber.locals ≤ rm.locals) (hdg : decode cc pc = .ok (.invokevirtual idx, 3)) (hcat : (rest.map fun v => v.category).sum ≤ 8) (kk : G K (EM h) nL T (fX5_ofNumber a1 u) (pc + 3) lv (rest)) : G K (EM h) nL T u pc lv (.int a1 :: .ref (mO h) :: rest) := g_callV (n := 1) pc hC (As := [.int a1]) (rest := rest) (cX5_ofNumber_ _ (Cx.ok hC) a1 u hok) hT rfl rfl rfl (by decide +kernel) hR 0 3 rfl rfl rfl rfl rfl hcat hdg kk

def fX5_signed (a0 : Int32) : Int32 :=
  (if a0 ≤ (127 : Int32) then a0 else (a0 - (256 : Int32)))
abbrev rmX5_signed : Room := { frames := 0, cells := 0, slots := 0, locals := 0 }
set_option maxRecDepth 20000 in
theorem cX5_signed_ (E : EV) (hE : okE E) (a0 : Int32) (u : ST) : MX E yX5_signed wsX5_signed rmX5_signed [.int a0] u (tR u (fX5_signed a0)) := by
  refine MX.of (cc := cX5_signed) (maxL := 1) (ret := (some .int)) (lv := [(0, .int a0)]) hE (by decide) rfl (fun _ => rfl) (Nat.le_of_ble_eq_true rfl) rfl (fun K hC => ?_)
  unfold fX5_signed
  refine g_iload_n 0 hC dX5_signed_0 0 rfl ?_
  refine g_bipush 1 hC (127 : Int32) dX5_signed_1 (by decide) ?_
  refine g_cut 15 (if a0 ≤ (127 : Int32) then a0 else (a0 - (256 : Int32))) [] ?_ (fun J2 => ?_)
  · skip
    exact g_iretR 15 hC dX5_signed_15
  · skip
    refine g_icmp_le 3 hC 14 dX5_signed_3 (by decide) (fun h1 => ?_) (fun h1 => ?_)
    · skip
      refine g_iload_n 14 hC dX5_signed_14 0 rfl ?_
      exact J2 _ (Eq.symm (if_pos h1))
    · skip
      refine g_iload_n 6 hC dX5_signed_6 0 rfl ?_
      refine g_sipush 7 hC (256 : Int32) dX5_signed_7 (by decide) ?_
      refine g_isub 10 hC dX5_signed_10 ?_
      refine g_goto 11 hC 15 dX5_signed_11 (by decide) ?_
      exact J2 _ (Eq.symm (if_neg h1))
theorem kX5_signed {K : KT} {E : EV} {cc : ByteArray} {nL : Nat} {own : String} {Ts : List Cond} {rm : Room} {ret : Option FieldType} {T : ST × Option Value} {u : ST} {lv : List (Nat × Value)} {rest : List Value} {idx : Nat} {a0 : Int32} (pc : Nat) (hC : Cx K E cc nL own Ts rm ret) (hT : GoodIn Ts (va_wsS own idx yX5_signed wsX5_signed)) (hR : rmX5_signed.frames + 1 ≤ rm.frames ∧ 8 + (1 + 11) + rmX5_signed.locals ≤ rm.locals) (hdg : decode cc pc = .ok (.invokestatic idx, 3)) (hcat : (rest.map fun v => v.category).sum ≤ 8) (kk : G K E nL T u (pc + 3) lv (.int (fX5_signed a0) :: rest)) : G K E nL T u pc lv (.int a0 :: rest) := g_callS (n := 1) pc hC (As := [.int a0]) (rest := rest) (cX5_signed_ _ (Cx.ok hC) a0 u) hT rfl rfl rfl (by decide +kernel) hR rfl rfl hcat hdg kk

def fX5_product (a1 : Int32) (a2 : Int32) (u : ST) : ST :=
  (fX5_setPair (0 : Int32) (if a2 = 0 then (a1 &&& (65535 : Int32)) else ((jshl (a1 &&& (65535 : Int32)) (1 : Int32)) &&& (65535 : Int32))) (fX5_flag (2 : Int32) (if (if a2 = 0 then (a1 &&& (65535 : Int32)) else ((jshl (a1 &&& (65535 : Int32)) (1 : Int32)) &&& (65535 : Int32))) = 0 then (1 : Int32) else (0 : Int32)) (fX5_flag (1 : Int32) (if (a1 &&& (65535 : Int32)) ≤ (32767 : Int32) then (0 : Int32) else (1 : Int32)) u)))
def okX5_product (a1 : Int32) (a2 : Int32) (u : ST) : Prop := (okX5_setPair (0 : Int32) (if a2 = 0 then (a1 &&& (65535 : Int32)) else ((jshl (a1 &&& (65535 : Int32)) (1 : Int32)) &&& (65535 : Int32))) (fX5_flag (2 : Int32) (if (if a2 = 0 then (a1 &&& (65535 : Int32)) else ((jshl (a1 &&& (65535 : Int32)) (1 : Int32)) &&& (65535 : Int32))) = 0 then (1 : Int32) else (0 : Int32)) (fX5_flag (1 : Int32) (if (a1 &&& (65535 : Int32)) ≤ (32767 : Int32) then (0 : Int32) else (1 : Int32)) u))) ∧ True
theorem cmX5_product_27 : Jvm.Cond.constant RX5 27 (65535 : Int32) ∈ wsX5_product := List.mem_of_getElem? (i := 1) rfl
abbrev rmX5_product : Room := { frames := 1, cells := 0, slots := 0, locals := 22 }
set_option maxRecDepth 20000 in
theorem cX5_product_ (h : HM) (hE : okE (EM h)) (a1 : Int32) (a2 : Int32) (u : ST) (hok : okX5_product a1 a2 u) : MX (EM h) yX5_product wsX5_product rmX5_product [.ref (mO h), .int a1, .int a2] u (tS (fX5_product a1 a2 u)) := by
  obtain ⟨k0, -⟩ := hok
  refine MX.of (cc := cX5_product) (maxL := 4) (ret := none) (lv := [(0, .ref (mO h)), (1, .int a1), (2, .int a2)]) hE (by decide) rfl (fun _ => rfl) (Nat.le_of_ble_eq_true rfl) rfl (fun K hC => ?_)
  unfold fX5_product
  refine g_iload_n 0 hC dX5_product_0 1 rfl ?_
  refine g_ldc 1 hC (65535 : Int32) dX5_product_1 cmX5_product_27 ?_
  refine g_iand 3 hC dX5_product_3 ?_
  refine g_istore_n 4 hC dX5_product_4 (by decide) [(3, .int ((a1 &&& (65535 : Int32)))), (0, .ref (mO h)), (1, .int a1), (2, .int a2)] rfl ?_
  refine g_aload_n 5 hC dX5_product_5 1 rfl ?_
  refine g_iconst 6 hC (1 : Int32) dX5_product_6 (by decide) ?_
  refine g_iload_n 7 hC dX5_product_7 0 rfl ?_
  refine g_sipush 8 hC (32767 : Int32) dX5_product_8 (by decide) ?_
  refine g_cut 19 (if (a1 &&& (65535 : Int32)) ≤ (32767 : Int32) then (0 : Int32) else (1 : Int32)) [.int ((1 : Int32)), .ref (mO h)] ?_ (fun J2 => ?_)
  · skip
    refine kX5_flag 19 hC gX5_product_X5_flag ⟨Nat.le_of_ble_eq_true rfl, Nat.le_of_ble_eq_true rfl⟩ dX5_product_19 (Nat.le_of_ble_eq_true rfl) ?_
    refine g_iload_n 22 hC dX5_product_22 3 rfl ?_
    refine g_cut 36 (if a2 = 0 then (a1 &&& (65535 : Int32)) else ((jshl (a1 &&& (65535 : Int32)) (1 : Int32)) &&& (65535 : Int32))) [] ?_ (fun J4 => ?_)
    · skip
      refine g_istore_n 36 hC dX5_product_36 (by decide) [(3, .int ((if a2 = 0 then (a1 &&& (65535 : Int32)) else ((jshl (a1 &&& (65535 : Int32)) (1 : Int32)) &&& (65535 : Int32))))), (0, .ref (mO h)), (1, .int a1), (2, .int a2)] rfl ?_
      refine g_aload_n 37 hC dX5_product_37 1 rfl ?_
      refine g_iconst 38 hC (2 : Int32) dX5_product_38 (by decide) ?_
      refine g_iload_n 39 hC dX5_product_39 0 rfl ?_
      refine g_cut 48 (if (if a2 = 0 then (a1 &&& (65535 : Int32)) else ((jshl (a1 &&& (65535 : Int32)) (1 : Int32)) &&& (65535 : Int32))) = 0 then (1 : Int32) else (0 : Int32)) [.int ((2 : Int32)), .ref (mO h)] ?_ (fun J6 => ?_)
      · skip
        refine kX5_flag 48 hC gX5_product_X5_flag ⟨Nat.le_of_ble_eq_true rfl, Nat.le_of_ble_eq_true rfl⟩ dX5_product_48 (Nat.le_of_ble_eq_true rfl) ?_
        refine g_aload_n 51 hC dX5_product_51 1 rfl ?_
        refine g_iconst 52 hC (0 : Int32) dX5_product_52 (by decide) ?_
        refine g_iload_n 53 hC dX5_product_53 0 rfl ?_
        refine kX5_setPair 54 hC k0 gX5_product_X5_setPair ⟨Nat.le_of_ble_eq_true rfl, Nat.le_of_ble_eq_true rfl⟩ dX5_product_54 (Nat.le_of_ble_eq_true rfl) ?_
        exact g_vretS 57 hC dX5_product_57
      · skip
        refine g_if_ne 40 hC 47 dX5_product_40 (by decide) (fun h5 => ?_) (fun h5 => ?_)
        · skip
          refine g_iconst 47 hC (0 : Int32) dX5_product_47 (by decide) ?_
          exact J6 _ (Eq.symm (if_neg h5))
        · skip
          refine g_iconst 43 hC (1 : Int32) dX5_product_43 (by decide) ?_
          refine g_goto 44 hC 48 dX5_product_44 (by decide) ?_
          exact J6 _ (Eq.symm (if_pos h5))
    · skip
      refine g_if_eq 23 hC 35 dX5_product_23 (by decide) (fun h3 => ?_) (fun h3 => ?_)
      · skip
        refine g_iload_n 35 hC dX5_product_35 0 rfl ?_
        exact J4 _ (Eq.symm (if_pos h3))
      · skip
        refine g_iload_n 26 hC dX5_product_26 0 rfl ?_
        refine g_iconst 27 hC (1 : Int32) dX5_product_27 (by decide) ?_
        refine g_ishl 28 hC dX5_product_28 ?_
        refine g_ldc 29 hC (65535 : Int32) dX5_product_29 cmX5_product_27 ?_
        refine g_iand 31 hC dX5_product_31 ?_
        refine g_goto 32 hC 36 dX5_product_32 (by decide) ?_
        exact J4 _ (Eq.symm (if_neg h3))
  · skip
    refine g_icmp_le 11 hC 18 dX5_product_11 (by decide) (fun h1 => ?_) (fun h1 => ?_)
    · skip
      refine g_iconst 18 hC (0 : Int32) dX5_product_18 (by decide) ?_
      exact J2 _ (Eq.symm (if_pos h1))
    · skip
      refine g_iconst 14 hC (1 : Int32) dX5_product_14 (by decide) ?_
      refine g_goto 15 hC 19 dX5_product_15 (by decide) ?_
      exact J2 _ (Eq.symm (if_neg h1))
theorem kX5_product {K : KT} {h : HM} {cc : ByteArray} {nL : Nat} {own : String} {Ts : List Cond} {rm : Room} {ret : Option FieldType} {T : ST × Option Value} {u : ST} {lv : List (Nat × Value)} {rest : List Value} {idx : Nat} {a1 : Int32} {a2 : Int32} (pc : Nat) (hC : Cx K (EM h) cc nL own Ts rm ret) (hok : okX5_product a1 a2 u) (hT : GoodIn Ts (wsV own idx RX5 yX5_product wsX5_product)) (hR : rmX5_product.frames + 1 ≤ rm.frames ∧ 8 + (4 + 11) + rmX5_product.locals ≤ rm.locals) (hdg : decode cc pc = .ok (.invokevirtual idx, 3)) (hcat : (rest.map fun v => v.category).sum ≤ 8) (kk : G K (EM h) nL T (fX5_product a1 a2 u) (pc + 3) lv (rest)) : G K (EM h) nL T u pc lv (.int a2 :: .int a1 :: .ref (mO h) :: rest) := g_callV (n := 2) pc hC (As := [.int a1, .int a2]) (rest := rest) (cX5_product_ _ (Cx.ok hC) a1 a2 u hok) hT rfl rfl rfl (by decide +kernel) hR 0 3 rfl rfl rfl rfl rfl hcat hdg kk

def fX5_products (a1 : Int32) (u : ST) : ST :=
  if (jshr a1 (8 : Int32)) = (2 : Int32) then
    (fX5_product ((fX5_signed (rD u ((16 : Int32) + ((jshr a1 (4 : Int32)) &&& (15 : Int32))))) * (fX5_signed (rD u ((16 : Int32) + (a1 &&& (15 : Int32)))))) (0 : Int32) u)
  else
    if (a1 &&& (136 : Int32)) = (0 : Int32) then
      (fX5_product ((fX5_signed (rD u ((16 : Int32) + ((jshr a1 (4 : Int32)) &&& (7 : Int32))))) * (rD u ((16 : Int32) + (a1 &&& (7 : Int32))))) (0 : Int32) u)
    else
      if (a1 &&& (136 : Int32)) = (8 : Int32) then
        (fX5_product ((rD u ((16 : Int32) + ((jshr a1 (4 : Int32)) &&& (7 : Int32)))) * (rD u ((16 : Int32) + (a1 &&& (7 : Int32))))) (1 : Int32) u)
      else
        if (a1 &&& (136 : Int32)) = (128 : Int32) then
          (fX5_product ((fX5_signed (rD u ((16 : Int32) + ((jshr a1 (4 : Int32)) &&& (7 : Int32))))) * (fX5_signed (rD u ((16 : Int32) + (a1 &&& (7 : Int32)))))) (1 : Int32) u)
        else
          (fX5_product ((fX5_signed (rD u ((16 : Int32) + ((jshr a1 (4 : Int32)) &&& (7 : Int32))))) * (rD u ((16 : Int32) + (a1 &&& (7 : Int32))))) (1 : Int32) u)
def okX5_products (a1 : Int32) (u : ST) : Prop := ((¬ (jshr a1 (8 : Int32)) = (2 : Int32)) → vp_in ((16 : Int32) + ((jshr a1 (4 : Int32)) &&& (7 : Int32))) 1024) ∧ ((¬ (jshr a1 (8 : Int32)) = (2 : Int32)) → vp_in ((16 : Int32) + (a1 &&& (7 : Int32))) 1024) ∧ ((¬ (jshr a1 (8 : Int32)) = (2 : Int32)) → ((a1 &&& (136 : Int32)) = (0 : Int32)) → okX5_product ((fX5_signed (rD u ((16 : Int32) + ((jshr a1 (4 : Int32)) &&& (7 : Int32))))) * (rD u ((16 : Int32) + (a1 &&& (7 : Int32))))) (0 : Int32) u) ∧ ((¬ (jshr a1 (8 : Int32)) = (2 : Int32)) → (¬ (a1 &&& (136 : Int32)) = (0 : Int32)) → ((a1 &&& (136 : Int32)) = (8 : Int32)) → okX5_product ((rD u ((16 : Int32) + ((jshr a1 (4 : Int32)) &&& (7 : Int32)))) * (rD u ((16 : Int32) + (a1 &&& (7 : Int32))))) (1 : Int32) u) ∧ ((¬ (jshr a1 (8 : Int32)) = (2 : Int32)) → (¬ (a1 &&& (136 : Int32)) = (0 : Int32)) → (¬ (a1 &&& (136 : Int32)) = (8 : Int32)) → ((a1 &&& (136 : Int32)) = (128 : Int32)) → okX5_product ((fX5_signed (rD u ((16 : Int32) + ((jshr a1 (4 : Int32)) &&& (7 : Int32))))) * (fX5_signed (rD u ((16 : Int32) + (a1 &&& (7 : Int32)))))) (1 : Int32) u) ∧ ((¬ (jshr a1 (8 : Int32)) = (2 : Int32)) → (¬ (a1 &&& (136 : Int32)) = (0 : Int32)) → (¬ (a1 &&& (136 : Int32)) = (8 : Int32)) → (¬ (a1 &&& (136 : Int32)) = (128 : Int32)) → okX5_product ((fX5_signed (rD u ((16 : Int32) + ((jshr a1 (4 : Int32)) &&& (7 : Int32))))) * (rD u ((16 : Int32) + (a1 &&& (7 : Int32))))) (1 : Int32) u) ∧ (((jshr a1 (8 : Int32)) = (2 : Int32)) → vp_in ((16 : Int32) + ((jshr a1 (4 : Int32)) &&& (15 : Int32))) 1024) ∧ (((jshr a1 (8 : Int32)) = (2 : Int32)) → vp_in ((16 : Int32) + (a1 &&& (15 : Int32))) 1024) ∧ (((jshr a1 (8 : Int32)) = (2 : Int32)) → okX5_product ((fX5_signed (rD u ((16 : Int32) + ((jshr a1 (4 : Int32)) &&& (15 : Int32))))) * (fX5_signed (rD u ((16 : Int32) + (a1 &&& (15 : Int32)))))) (0 : Int32) u) ∧ True
theorem fiX5_products_wsX50 : ∀ w ∈ wsX50, w ∈ wsX5_products := fun w h => List.mem_cons_of_mem _ (List.mem_append_right _ h)
theorem fmX5_products_13 : Cond.fieldLink RX5 13 "FlagCoreModel" "data" "[I" ∈ wsX5_products := List.mem_of_getElem? (i := 1) rfl
abbrev rmX5_products : Room := { frames := 2, cells := 0, slots := 0, locals := 45 }
set_option maxRecDepth 20000 in
theorem cX5_products_ (h : HM) (hE : okE (EM h)) (a1 : Int32) (u : ST) (hok : okX5_products a1 u) : MX (EM h) yX5_products wsX5_products rmX5_products [.ref (mO h), .int a1] u (tS (fX5_products a1 u)) := by
  obtain ⟨k0, k1, k2, k3, k4, k5, k6, k7, k8, -⟩ := hok
  refine MX.of (cc := cX5_products) (maxL := 4) (ret := none) (lv := [(0, .ref (mO h)), (1, .int a1)]) hE (by decide) rfl (fun _ => rfl) (Nat.le_of_ble_eq_true rfl) rfl (fun K hC => ?_)
  unfold fX5_products
  refine g_iload_n 0 hC dX5_products_0 1 rfl ?_
  refine g_bipush 1 hC (8 : Int32) dX5_products_1 (by decide) ?_
  refine g_ishr 3 hC dX5_products_3 ?_
  refine g_iconst 4 hC (2 : Int32) dX5_products_4 (by decide) ?_
  refine g_icmp_neT (tS) 5 hC 47 dX5_products_5 (by decide) (fun h1 => ?_) (fun h1 => ?_)
  · skip
    refine g_aload_n 47 hC dX5_products_47 0 rfl ?_
    refine m_get_data 48 hC fiX5_products_wsX50 fmX5_products_13 dX5_products_48 ?_
    refine g_bipush 51 hC (16 : Int32) dX5_products_51 (by decide) ?_
    refine g_iload_n 53 hC dX5_products_53 1 rfl ?_
    refine g_iconst 54 hC (4 : Int32) dX5_products_54 (by decide) ?_
    refine g_ishr 55 hC dX5_products_55 ?_
    refine g_bipush 56 hC (7 : Int32) dX5_products_56 (by decide) ?_
    refine g_iand 58 hC dX5_products_58 ?_
    refine g_iadd 59 hC dX5_products_59 ?_
    refine m_ldD 60 hC (k0 h1) dX5_products_60 ?_
    refine g_istore_n 61 hC dX5_products_61 (by decide) [(2, .int ((rD u ((16 : Int32) + ((jshr a1 (4 : Int32)) &&& (7 : Int32)))))), (0, .ref (mO h)), (1, .int a1)] rfl ?_
    refine g_aload_n 62 hC dX5_products_62 1 rfl ?_
    refine m_get_data 63 hC fiX5_products_wsX50 fmX5_products_13 dX5_products_63 ?_
    refine g_bipush 66 hC (16 : Int32) dX5_products_66 (by decide) ?_
    refine g_iload_n 68 hC dX5_products_68 2 rfl ?_
    refine g_bipush 69 hC (7 : Int32) dX5_products_69 (by decide) ?_
    refine g_iand 71 hC dX5_products_71 ?_
    refine g_iadd 72 hC dX5_products_72 ?_
    refine m_ldD 73 hC (k1 h1) dX5_products_73 ?_
    refine g_istore_n 74 hC dX5_products_74 (by decide) [(3, .int ((rD u ((16 : Int32) + (a1 &&& (7 : Int32)))))), (2, .int ((rD u ((16 : Int32) + ((jshr a1 (4 : Int32)) &&& (7 : Int32)))))), (0, .ref (mO h)), (1, .int a1)] rfl ?_
    refine g_iload_n 75 hC dX5_products_75 3 rfl ?_
    refine g_sipush 76 hC (136 : Int32) dX5_products_76 (by decide) ?_
    refine g_iand 79 hC dX5_products_79 ?_
    refine g_byT (tS) (fun h2 => ?_) (fun h2 => ?_)
    · refine g_ls 80 hC (36) 116 dX5_products_80 (by decide) (by rw [h2]; decide) (by decide) ?_
      refine g_aload_n 116 hC dX5_products_116 2 rfl ?_
      refine g_iload_n 117 hC dX5_products_117 1 rfl ?_
      refine kX5_signed 118 hC gX5_products_X5_signed ⟨Nat.le_of_ble_eq_true rfl, Nat.le_of_ble_eq_true rfl⟩ dX5_products_118 (Nat.le_of_ble_eq_true rfl) ?_
      refine g_iload_n 121 hC dX5_products_121 0 rfl ?_
      refine g_imul 122 hC dX5_products_122 ?_
      refine g_iconst 123 hC (0 : Int32) dX5_products_123 (by decide) ?_
      refine kX5_product 124 hC (k2 h1 h2) gX5_products_X5_product ⟨Nat.le_of_ble_eq_true rfl, Nat.le_of_ble_eq_true rfl⟩ dX5_products_124 (Nat.le_of_ble_eq_true rfl) ?_
      refine g_goto 127 hC 169 dX5_products_127 (by decide) ?_
      exact g_vretS 169 hC dX5_products_169
    · skip
      refine g_byT (tS) (fun h3 => ?_) (fun h3 => ?_)
      · refine g_ls 80 hC (50) 130 dX5_products_80 (by decide) (by rw [h3]; decide) (by decide) ?_
        refine g_aload_n 130 hC dX5_products_130 2 rfl ?_
        refine g_iload_n 131 hC dX5_products_131 1 rfl ?_
        refine g_iload_n 132 hC dX5_products_132 0 rfl ?_
        refine g_imul 133 hC dX5_products_133 ?_
        refine g_iconst 134 hC (1 : Int32) dX5_products_134 (by decide) ?_
        refine kX5_product 135 hC (k3 h1 h2 h3) gX5_products_X5_product ⟨Nat.le_of_ble_eq_true rfl, Nat.le_of_ble_eq_true rfl⟩ dX5_products_135 (Nat.le_of_ble_eq_true rfl) ?_
        refine g_goto 138 hC 169 dX5_products_138 (by decide) ?_
        exact g_vretS 169 hC dX5_products_169
      · skip
        refine g_byT (tS) (fun h4 => ?_) (fun h4 => ?_)
        · refine g_ls 80 hC (61) 141 dX5_products_80 (by decide) (by rw [h4]; decide) (by decide) ?_
          refine g_aload_n 141 hC dX5_products_141 2 rfl ?_
          refine g_iload_n 142 hC dX5_products_142 1 rfl ?_
          refine kX5_signed 143 hC gX5_products_X5_signed ⟨Nat.le_of_ble_eq_true rfl, Nat.le_of_ble_eq_true rfl⟩ dX5_products_143 (Nat.le_of_ble_eq_true rfl) ?_
          refine g_iload_n 146 hC dX5_products_146 0 rfl ?_
          refine kX5_signed 147 hC gX5_products_X5_signed ⟨Nat.le_of_ble_eq_true rfl, Nat.le_of_ble_eq_true rfl⟩ dX5_products_147 (Nat.le_of_ble_eq_true rfl) ?_
          refine g_imul 150 hC dX5_products_150 ?_
          refine g_iconst 151 hC (1 : Int32) dX5_products_151 (by decide) ?_
          refine kX5_product 152 hC (k4 h1 h2 h3 h4) gX5_products_X5_product ⟨Nat.le_of_ble_eq_true rfl, Nat.le_of_ble_eq_true rfl⟩ dX5_products_152 (Nat.le_of_ble_eq_true rfl) ?_
          refine g_goto 155 hC 169 dX5_products_155 (by decide) ?_
          exact g_vretS 169 hC dX5_products_169
        · skip
          refine g_ls 80 hC (78) 158 dX5_products_80 (by decide) ((lv_osw h2 (a := 0) (by decide)).trans ((lv_osw h3 (a := 8) (by decide)).trans ((lv_osw h4 (a := 128) (by decide)).trans rfl))) (by decide) ?_
          refine g_aload_n 158 hC dX5_products_158 2 rfl ?_
          refine g_iload_n 159 hC dX5_products_159 1 rfl ?_
          refine kX5_signed 160 hC gX5_products_X5_signed ⟨Nat.le_of_ble_eq_true rfl, Nat.le_of_ble_eq_true rfl⟩ dX5_products_160 (Nat.le_of_ble_eq_true rfl) ?_
          refine g_iload_n 163 hC dX5_products_163 0 rfl ?_
          refine g_imul 164 hC dX5_products_164 ?_
          refine g_iconst 165 hC (1 : Int32) dX5_products_165 (by decide) ?_
          refine kX5_product 166 hC (k5 h1 h2 h3 h4) gX5_products_X5_product ⟨Nat.le_of_ble_eq_true rfl, Nat.le_of_ble_eq_true rfl⟩ dX5_products_166 (Nat.le_of_ble_eq_true rfl) ?_
          exact g_vretS 169 hC dX5_products_169
  · skip
    refine g_aload_n 8 hC dX5_products_8 0 rfl ?_
    refine g_aload_n 9 hC dX5_products_9 0 rfl ?_
    refine m_get_data 10 hC fiX5_products_wsX50 fmX5_products_13 dX5_products_10 ?_
    refine g_bipush 13 hC (16 : Int32) dX5_products_13 (by decide) ?_
    refine g_iload_n 15 hC dX5_products_15 1 rfl ?_
    refine g_iconst 16 hC (4 : Int32) dX5_products_16 (by decide) ?_
    refine g_ishr 17 hC dX5_products_17 ?_
    refine g_bipush 18 hC (15 : Int32) dX5_products_18 (by decide) ?_
    refine g_iand 20 hC dX5_products_20 ?_
    refine g_iadd 21 hC dX5_products_21 ?_
    refine m_ldD 22 hC (k6 h1) dX5_products_22 ?_
    refine kX5_signed 23 hC gX5_products_X5_signed ⟨Nat.le_of_ble_eq_true rfl, Nat.le_of_ble_eq_true rfl⟩ dX5_products_23 (Nat.le_of_ble_eq_true rfl) ?_
    refine g_aload_n 26 hC dX5_products_26 0 rfl ?_
    refine m_get_data 27 hC fiX5_products_wsX50 fmX5_products_13 dX5_products_27 ?_
    refine g_bipush 30 hC (16 : Int32) dX5_products_30 (by decide) ?_
    refine g_iload_n 32 hC dX5_products_32 1 rfl ?_
    refine g_bipush 33 hC (15 : Int32) dX5_products_33 (by decide) ?_
    refine g_iand 35 hC dX5_products_35 ?_
    refine g_iadd 36 hC dX5_products_36 ?_
    refine m_ldD 37 hC (k7 h1) dX5_products_37 ?_
    refine kX5_signed 38 hC gX5_products_X5_signed ⟨Nat.le_of_ble_eq_true rfl, Nat.le_of_ble_eq_true rfl⟩ dX5_products_38 (Nat.le_of_ble_eq_true rfl) ?_
    refine g_imul 41 hC dX5_products_41 ?_
    refine g_iconst 42 hC (0 : Int32) dX5_products_42 (by decide) ?_
    refine kX5_product 43 hC (k8 h1) gX5_products_X5_product ⟨Nat.le_of_ble_eq_true rfl, Nat.le_of_ble_eq_true rfl⟩ dX5_products_43 (Nat.le_of_ble_eq_true rfl) ?_
    exact g_vretS 46 hC dX5_products_46
theorem kX5_products {K : KT} {h : HM} {cc : ByteArray} {nL : Nat} {own : String} {Ts : List Cond} {rm : Room} {ret : Option FieldType} {T : ST × Option Value} {u : ST} {lv : List (Nat × Value)} {rest : List Value} {idx : Nat} {a1 : Int32} (pc : Nat) (hC : Cx K (EM h) cc nL own Ts rm ret) (hok : okX5_products a1 u) (hT : GoodIn Ts (wsV own idx RX5 yX5_products wsX5_products)) (hR : rmX5_products.frames + 1 ≤ rm.frames ∧ 8 + (4 + 11) + rmX5_products.locals ≤ rm.locals) (hdg : decode cc pc = .ok (.invokevirtual idx, 3)) (hcat : (rest.map fun v => v.category).sum ≤ 8) (kk : G K (EM h) nL T (fX5_products a1 u) (pc + 3) lv (rest)) : G K (EM h) nL T u pc lv (.int a1 :: .ref (mO h) :: rest) := g_callV (n := 1) pc hC (As := [.int a1]) (rest := rest) (cX5_products_ _ (Cx.ok hC) a1 u hok) hT rfl rfl rfl (by decide +kernel) hR 0 3 rfl rfl rfl rfl rfl hcat hdg kk

def fX5_right (a1 : Int32) (a2 : Int32) (u : ST) : ST × Int32 :=
  ((fX5_signs ((jshr a1 (1 : Int32)) ||| a2) (if (if ((jshr a1 (1 : Int32)) ||| a2) ≤ (127 : Int32) then (0 : Int32) else (1 : Int32)) = (if (a1 &&& (1 : Int32)) = (1 : Int32) then (1 : Int32) else (0 : Int32)) then (0 : Int32) else (1 : Int32)) (fX5_flag (1 : Int32) (if (a1 &&& (1 : Int32)) = (1 : Int32) then (1 : Int32) else (0 : Int32)) u)), ((jshr a1 (1 : Int32)) ||| a2))
abbrev rmX5_right : Room := { frames := 2, cells := 0, slots := 0, locals := 44 }
set_option maxRecDepth 20000 in
theorem cX5_right_ (h : HM) (hE : okE (EM h)) (a1 : Int32) (a2 : Int32) (u : ST) : MX (EM h) yX5_right wsX5_right rmX5_right [.ref (mO h), .int a1, .int a2] u (tW (fX5_right a1 a2 u)) := by
  refine MX.of (cc := cX5_right) (maxL := 5) (ret := (some .int)) (lv := [(0, .ref (mO h)), (1, .int a1), (2, .int a2)]) hE (by decide) rfl (fun _ => rfl) (Nat.le_of_ble_eq_true rfl) rfl (fun K hC => ?_)
  unfold fX5_right
  refine g_iload_n 0 hC dX5_right_0 1 rfl ?_
  refine g_iconst 1 hC (1 : Int32) dX5_right_1 (by decide) ?_
  refine g_ishr 2 hC dX5_right_2 ?_
  refine g_iload_n 3 hC dX5_right_3 2 rfl ?_
  refine g_ior 4 hC dX5_right_4 ?_
  refine g_istore_n 5 hC dX5_right_5 (by decide) [(3, .int (((jshr a1 (1 : Int32)) ||| a2))), (0, .ref (mO h)), (1, .int a1), (2, .int a2)] rfl ?_
  refine g_iload_n 6 hC dX5_right_6 2 rfl ?_
  refine g_iconst 7 hC (1 : Int32) dX5_right_7 (by decide) ?_
  refine g_iand 8 hC dX5_right_8 ?_
  refine g_iconst 9 hC (1 : Int32) dX5_right_9 (by decide) ?_
  refine g_cut 18 (if (a1 &&& (1 : Int32)) = (1 : Int32) then (1 : Int32) else (0 : Int32)) [] ?_ (fun J2 => ?_)
  · skip
    refine g_istore 18 hC dX5_right_18 (by decide) [(4, .int ((if (a1 &&& (1 : Int32)) = (1 : Int32) then (1 : Int32) else (0 : Int32)))), (3, .int (((jshr a1 (1 : Int32)) ||| a2))), (0, .ref (mO h)), (1, .int a1), (2, .int a2)] rfl ?_
    refine g_aload_n 20 hC dX5_right_20 2 rfl ?_
    refine g_iconst 21 hC (1 : Int32) dX5_right_21 (by decide) ?_
    refine g_iload 22 hC dX5_right_22 0 rfl ?_
    refine kX5_flag 24 hC gX5_right_X5_flag ⟨Nat.le_of_ble_eq_true rfl, Nat.le_of_ble_eq_true rfl⟩ dX5_right_24 (Nat.le_of_ble_eq_true rfl) ?_
    refine g_aload_n 27 hC dX5_right_27 2 rfl ?_
    refine g_iload_n 28 hC dX5_right_28 1 rfl ?_
    refine g_iload_n 29 hC dX5_right_29 1 rfl ?_
    refine g_bipush 30 hC (127 : Int32) dX5_right_30 (by decide) ?_
    refine g_cut 40 (if ((jshr a1 (1 : Int32)) ||| a2) ≤ (127 : Int32) then (0 : Int32) else (1 : Int32)) [.int (((jshr a1 (1 : Int32)) ||| a2)), .ref (mO h)] ?_ (fun J4 => ?_)
    · skip
      refine g_iload 40 hC dX5_right_40 0 rfl ?_
      refine g_cut 50 (if (if ((jshr a1 (1 : Int32)) ||| a2) ≤ (127 : Int32) then (0 : Int32) else (1 : Int32)) = (if (a1 &&& (1 : Int32)) = (1 : Int32) then (1 : Int32) else (0 : Int32)) then (0 : Int32) else (1 : Int32)) [.int (((jshr a1 (1 : Int32)) ||| a2)), .ref (mO h)] ?_ (fun J6 => ?_)
      · skip
        refine kX5_signs 50 hC gX5_right_X5_signs ⟨Nat.le_of_ble_eq_true rfl, Nat.le_of_ble_eq_true rfl⟩ dX5_right_50 (Nat.le_of_ble_eq_true rfl) ?_
        refine g_iload_n 53 hC dX5_right_53 1 rfl ?_
        exact g_iretW 54 hC dX5_right_54
      · skip
        refine g_icmp_eq 42 hC 49 dX5_right_42 (by decide) (fun h5 => ?_) (fun h5 => ?_)
        · skip
          refine g_iconst 49 hC (0 : Int32) dX5_right_49 (by decide) ?_
          exact J6 _ (Eq.symm (if_pos h5))
        · skip
          refine g_iconst 45 hC (1 : Int32) dX5_right_45 (by decide) ?_
          refine g_goto 46 hC 50 dX5_right_46 (by decide) ?_
          exact J6 _ (Eq.symm (if_neg h5))
    · skip
      refine g_icmp_le 32 hC 39 dX5_right_32 (by decide) (fun h3 => ?_) (fun h3 => ?_)
      · skip
        refine g_iconst 39 hC (0 : Int32) dX5_right_39 (by decide) ?_
        exact J4 _ (Eq.symm (if_pos h3))
      · skip
        refine g_iconst 35 hC (1 : Int32) dX5_right_35 (by decide) ?_
        refine g_goto 36 hC 40 dX5_right_36 (by decide) ?_
        exact J4 _ (Eq.symm (if_neg h3))
  · skip
    refine g_icmp_ne 10 hC 17 dX5_right_10 (by decide) (fun h1 => ?_) (fun h1 => ?_)
    · skip
      refine g_iconst 17 hC (0 : Int32) dX5_right_17 (by decide) ?_
      exact J2 _ (Eq.symm (if_neg h1))
    · skip
      refine g_iconst 13 hC (1 : Int32) dX5_right_13 (by decide) ?_
      refine g_goto 14 hC 18 dX5_right_14 (by decide) ?_
      exact J2 _ (Eq.symm (if_pos h1))
theorem kX5_right {K : KT} {h : HM} {cc : ByteArray} {nL : Nat} {own : String} {Ts : List Cond} {rm : Room} {ret : Option FieldType} {T : ST × Option Value} {u : ST} {lv : List (Nat × Value)} {rest : List Value} {idx : Nat} {a1 : Int32} {a2 : Int32} (pc : Nat) (hC : Cx K (EM h) cc nL own Ts rm ret) (hT : GoodIn Ts (wsV own idx RX5 yX5_right wsX5_right)) (hR : rmX5_right.frames + 1 ≤ rm.frames ∧ 8 + (5 + 11) + rmX5_right.locals ≤ rm.locals) (hdg : decode cc pc = .ok (.invokevirtual idx, 3)) (hcat : (rest.map fun v => v.category).sum ≤ 8) (kk : G K (EM h) nL T (fX5_right a1 a2 u).1 (pc + 3) lv (.int (fX5_right a1 a2 u).2 :: rest)) : G K (EM h) nL T u pc lv (.int a2 :: .int a1 :: .ref (mO h) :: rest) := g_callV (n := 2) pc hC (As := [.int a1, .int a2]) (rest := rest) (cX5_right_ _ (Cx.ok hC) a1 a2 u) hT rfl rfl rfl (by decide +kernel) hR 0 3 rfl rfl rfl rfl rfl hcat hdg kk

def fX5_ofOne (a1 : Int32) (u : ST) : ST :=
  if (a1 &&& (15 : Int32)) = (0 : Int32) then
    (wD (fX5_flag (1 : Int32) (1 : Int32) ((fX5_logic ((255 : Int32) - (rD u (fX5_dOf a1))) u).1)) (fX5_dOf a1) (fX5_logic ((255 : Int32) - (rD u (fX5_dOf a1))) u).2)
  else
    if (a1 &&& (15 : Int32)) = (1 : Int32) then
      (wD ((fX5_subtract (0 : Int32) (rD u (fX5_dOf a1)) (0 : Int32) (0 : Int32) u).1) (fX5_dOf a1) (fX5_subtract (0 : Int32) (rD u (fX5_dOf a1)) (0 : Int32) (0 : Int32) u).2)
    else
      if (a1 &&& (15 : Int32)) = (2 : Int32) then
        (wD u (fX5_dOf a1) ((jshr (rD u (fX5_dOf a1)) (4 : Int32)) ||| ((jshl (rD u (fX5_dOf a1)) (4 : Int32)) &&& (240 : Int32))))
      else
        if (a1 &&& (15 : Int32)) = (3 : Int32) then
          (wD (fX5_signs (((rD u (fX5_dOf a1)) + (1 : Int32)) &&& (255 : Int32)) (if (((rD u (fX5_dOf a1)) + (1 : Int32)) &&& (255 : Int32)) = (128 : Int32) then (1 : Int32) else (0 : Int32)) u) (fX5_dOf a1) (((rD u (fX5_dOf a1)) + (1 : Int32)) &&& (255 : Int32)))
        else
          if (a1 &&& (15 : Int32)) = (4 : Int32) then
            (wD (fX5_signs (((rD u (fX5_dOf a1)) - (1 : Int32)) &&& (255 : Int32)) (if (((rD u (fX5_dOf a1)) - (1 : Int32)) &&& (255 : Int32)) = (127 : Int32) then (1 : Int32) else (0 : Int32)) u) (fX5_dOf a1) (((rD u (fX5_dOf a1)) - (1 : Int32)) &&& (255 : Int32)))
          else
            if (a1 &&& (15 : Int32)) = (5 : Int32) then
              (wD ((fX5_right (rD u (fX5_dOf a1)) ((rD u (fX5_dOf a1)) &&& (128 : Int32)) u).1) (fX5_dOf a1) (fX5_right (rD u (fX5_dOf a1)) ((rD u (fX5_dOf a1)) &&& (128 : Int32)) u).2)
            else
              if (a1 &&& (15 : Int32)) = (6 : Int32) then
                (wD ((fX5_right (rD u (fX5_dOf a1)) (0 : Int32) u).1) (fX5_dOf a1) (fX5_right (rD u (fX5_dOf a1)) (0 : Int32) u).2)
              else
                if (a1 &&& (15 : Int32)) = (7 : Int32) then
                  (wD ((fX5_right (rD u (fX5_dOf a1)) (jshl (fX5_carry u) (7 : Int32)) u).1) (fX5_dOf a1) (fX5_right (rD u (fX5_dOf a1)) (jshl (fX5_carry u) (7 : Int32)) u).2)
                else
                  (wD (fX5_signs (((rD u (fX5_dOf a1)) - (1 : Int32)) &&& (255 : Int32)) (if (((rD u (fX5_dOf a1)) - (1 : Int32)) &&& (255 : Int32)) = (127 : Int32) then (1 : Int32) else (0 : Int32)) u) (fX5_dOf a1) (((rD u (fX5_dOf a1)) - (1 : Int32)) &&& (255 : Int32)))
def okX5_ofOne (a1 : Int32) (u : ST) : Prop := (vp_in (fX5_dOf a1) 1024) ∧ (((a1 &&& (15 : Int32)) = (0 : Int32)) → vp_in (fX5_dOf a1) 1024) ∧ ((¬ (a1 &&& (15 : Int32)) = (0 : Int32)) → ((a1 &&& (15 : Int32)) = (1 : Int32)) → vp_in (fX5_dOf a1) 1024) ∧ ((¬ (a1 &&& (15 : Int32)) = (0 : Int32)) → (¬ (a1 &&& (15 : Int32)) = (1 : Int32)) → ((a1 &&& (15 : Int32)) = (2 : Int32)) → vp_in (fX5_dOf a1) 1024) ∧ ((¬ (a1 &&& (15 : Int32)) = (0 : Int32)) → (¬ (a1 &&& (15 : Int32)) = (1 : Int32)) → (¬ (a1 &&& (15 : Int32)) = (2 : Int32)) → ((a1 &&& (15 : Int32)) = (3 : Int32)) → vp_in (fX5_dOf a1) 1024) ∧ ((¬ (a1 &&& (15 : Int32)) = (0 : Int32)) → (¬ (a1 &&& (15 : Int32)) = (1 : Int32)) → (¬ (a1 &&& (15 : Int32)) = (2 : Int32)) → (¬ (a1 &&& (15 : Int32)) = (3 : Int32)) → ((a1 &&& (15 : Int32)) = (4 : Int32)) → vp_in (fX5_dOf a1) 1024) ∧ ((¬ (a1 &&& (15 : Int32)) = (0 : Int32)) → (¬ (a1 &&& (15 : Int32)) = (1 : Int32)) → (¬ (a1 &&& (15 : Int32)) = (2 : Int32)) → (¬ (a1 &&& (15 : Int32)) = (3 : Int32)) → (¬ (a1 &&& (15 : Int32)) = (4 : Int32)) → ((a1 &&& (15 : Int32)) = (5 : Int32)) → vp_in (fX5_dOf a1) 1024) ∧ ((¬ (a1 &&& (15 : Int32)) = (0 : Int32)) → (¬ (a1 &&& (15 : Int32)) = (1 : Int32)) → (¬ (a1 &&& (15 : Int32)) = (2 : Int32)) → (¬ (a1 &&& (15 : Int32)) = (3 : Int32)) → (¬ (a1 &&& (15 : Int32)) = (4 : Int32)) → (¬ (a1 &&& (15 : Int32)) = (5 : Int32)) → ((a1 &&& (15 : Int32)) = (6 : Int32)) → vp_in (fX5_dOf a1) 1024) ∧ ((¬ (a1 &&& (15 : Int32)) = (0 : Int32)) → (¬ (a1 &&& (15 : Int32)) = (1 : Int32)) → (¬ (a1 &&& (15 : Int32)) = (2 : Int32)) → (¬ (a1 &&& (15 : Int32)) = (3 : Int32)) → (¬ (a1 &&& (15 : Int32)) = (4 : Int32)) → (¬ (a1 &&& (15 : Int32)) = (5 : Int32)) → (¬ (a1 &&& (15 : Int32)) = (6 : Int32)) → ((a1 &&& (15 : Int32)) = (7 : Int32)) → vp_in (fX5_dOf a1) 1024) ∧ ((¬ (a1 &&& (15 : Int32)) = (0 : Int32)) → (¬ (a1 &&& (15 : Int32)) = (1 : Int32)) → (¬ (a1 &&& (15 : Int32)) = (2 : Int32)) → (¬ (a1 &&& (15 : Int32)) = (3 : Int32)) → (¬ (a1 &&& (15 : Int32)) = (4 : Int32)) → (¬ (a1 &&& (15 : Int32)) = (5 : Int32)) → (¬ (a1 &&& (15 : Int32)) = (6 : Int32)) → (¬ (a1 &&& (15 : Int32)) = (7 : Int32)) → vp_in (fX5_dOf a1) 1024) ∧ True
theorem fiX5_ofOne_wsX50 : ∀ w ∈ wsX50, w ∈ wsX5_ofOne := fun w h => List.mem_cons_of_mem _ (List.mem_append_right _ h)
theorem fmX5_ofOne_13 : Cond.fieldLink RX5 13 "FlagCoreModel" "data" "[I" ∈ wsX5_ofOne := List.mem_of_getElem? (i := 1) rfl
abbrev rmX5_ofOne : Room := { frames := 3, cells := 0, slots := 0, locals := 70 }
set_option maxRecDepth 20000 in
theorem cX5_ofOne_ (h : HM) (hE : okE (EM h)) (a1 : Int32) (u : ST) (hok : okX5_ofOne a1 u) : MX (EM h) yX5_ofOne wsX5_ofOne rmX5_ofOne [.ref (mO h), .int a1] u (tS (fX5_ofOne a1 u)) := by
  obtain ⟨k0, k1, k2, k3, k4, k5, k6, k7, k8, k9, -⟩ := hok
  refine MX.of (cc := cX5_ofOne) (maxL := 5) (ret := none) (lv := [(0, .ref (mO h)), (1, .int a1)]) hE (by decide) rfl (fun _ => rfl) (Nat.le_of_ble_eq_true rfl) rfl (fun K hC => ?_)
  unfold fX5_ofOne
  refine g_iload_n 0 hC dX5_ofOne_0 1 rfl ?_
  refine kX5_dOf 1 hC gX5_ofOne_X5_dOf ⟨Nat.le_of_ble_eq_true rfl, Nat.le_of_ble_eq_true rfl⟩ dX5_ofOne_1 (Nat.le_of_ble_eq_true rfl) ?_
  refine g_istore_n 4 hC dX5_ofOne_4 (by decide) [(2, .int ((fX5_dOf a1))), (0, .ref (mO h)), (1, .int a1)] rfl ?_
  refine g_aload_n 5 hC dX5_ofOne_5 1 rfl ?_
  refine m_get_data 6 hC fiX5_ofOne_wsX50 fmX5_ofOne_13 dX5_ofOne_6 ?_
  refine g_iload_n 9 hC dX5_ofOne_9 0 rfl ?_
  refine m_ldD 10 hC k0 dX5_ofOne_10 ?_
  refine g_istore_n 11 hC dX5_ofOne_11 (by decide) [(3, .int ((rD u (fX5_dOf a1)))), (2, .int ((fX5_dOf a1))), (0, .ref (mO h)), (1, .int a1)] rfl ?_
  refine g_iload_n 12 hC dX5_ofOne_12 0 rfl ?_
  refine g_istore 13 hC dX5_ofOne_13 (by decide) [(4, .int ((rD u (fX5_dOf a1)))), (3, .int ((rD u (fX5_dOf a1)))), (2, .int ((fX5_dOf a1))), (0, .ref (mO h)), (1, .int a1)] rfl ?_
  refine g_iload_n 15 hC dX5_ofOne_15 4 rfl ?_
  refine g_bipush 16 hC (15 : Int32) dX5_ofOne_16 (by decide) ?_
  refine g_iand 18 hC dX5_ofOne_18 ?_
  refine g_byT (tS) (fun h1 => ?_) (fun h1 => ?_)
  · refine g_tsIn 19 hC (0 : Int32) (45) 64 h1 dX5_ofOne_19 (by decide) (by decide) (by decide) (by decide) ?_
    refine g_aload_n 64 hC dX5_ofOne_64 3 rfl ?_
    refine g_sipush 65 hC (255 : Int32) dX5_ofOne_65 (by decide) ?_
    refine g_iload_n 68 hC dX5_ofOne_68 1 rfl ?_
    refine g_isub 69 hC dX5_ofOne_69 ?_
    refine kX5_logic 70 hC gX5_ofOne_X5_logic ⟨Nat.le_of_ble_eq_true rfl, Nat.le_of_ble_eq_true rfl⟩ dX5_ofOne_70 (Nat.le_of_ble_eq_true rfl) ?_
    refine g_istore 73 hC dX5_ofOne_73 (by decide) [(4, .int ((fX5_logic ((255 : Int32) - (rD u (fX5_dOf a1))) u).2)), (3, .int ((rD u (fX5_dOf a1)))), (2, .int ((fX5_dOf a1))), (0, .ref (mO h)), (1, .int a1)] rfl ?_
    refine g_aload_n 75 hC dX5_ofOne_75 3 rfl ?_
    refine g_iconst 76 hC (1 : Int32) dX5_ofOne_76 (by decide) ?_
    refine g_iconst 77 hC (1 : Int32) dX5_ofOne_77 (by decide) ?_
    refine kX5_flag 78 hC gX5_ofOne_X5_flag ⟨Nat.le_of_ble_eq_true rfl, Nat.le_of_ble_eq_true rfl⟩ dX5_ofOne_78 (Nat.le_of_ble_eq_true rfl) ?_
    refine g_goto 81 hC 214 dX5_ofOne_81 (by decide) ?_
    refine g_aload_n 214 hC dX5_ofOne_214 3 rfl ?_
    refine m_get_data 215 hC fiX5_ofOne_wsX50 fmX5_ofOne_13 dX5_ofOne_215 ?_
    refine g_iload_n 218 hC dX5_ofOne_218 2 rfl ?_
    refine g_iload 219 hC dX5_ofOne_219 0 rfl ?_
    refine m_stD 221 hC (k1 h1) dX5_ofOne_221 ?_
    exact g_vretS 222 hC dX5_ofOne_222
  · skip
    refine g_byT (tS) (fun h2 => ?_) (fun h2 => ?_)
    · refine g_tsIn 19 hC (1 : Int32) (65) 84 h2 dX5_ofOne_19 (by decide) (by decide) (by decide) (by decide) ?_
      refine g_aload_n 84 hC dX5_ofOne_84 3 rfl ?_
      refine g_iconst 85 hC (0 : Int32) dX5_ofOne_85 (by decide) ?_
      refine g_iload_n 86 hC dX5_ofOne_86 1 rfl ?_
      refine g_iconst 87 hC (0 : Int32) dX5_ofOne_87 (by decide) ?_
      refine g_iconst 88 hC (0 : Int32) dX5_ofOne_88 (by decide) ?_
      refine kX5_subtract 89 hC gX5_ofOne_X5_subtract ⟨Nat.le_of_ble_eq_true rfl, Nat.le_of_ble_eq_true rfl⟩ dX5_ofOne_89 (Nat.le_of_ble_eq_true rfl) ?_
      refine g_istore 92 hC dX5_ofOne_92 (by decide) [(4, .int ((fX5_subtract (0 : Int32) (rD u (fX5_dOf a1)) (0 : Int32) (0 : Int32) u).2)), (3, .int ((rD u (fX5_dOf a1)))), (2, .int ((fX5_dOf a1))), (0, .ref (mO h)), (1, .int a1)] rfl ?_
      refine g_goto 94 hC 214 dX5_ofOne_94 (by decide) ?_
      refine g_aload_n 214 hC dX5_ofOne_214 3 rfl ?_
      refine m_get_data 215 hC fiX5_ofOne_wsX50 fmX5_ofOne_13 dX5_ofOne_215 ?_
      refine g_iload_n 218 hC dX5_ofOne_218 2 rfl ?_
      refine g_iload 219 hC dX5_ofOne_219 0 rfl ?_
      refine m_stD 221 hC (k2 h1 h2) dX5_ofOne_221 ?_
      exact g_vretS 222 hC dX5_ofOne_222
    · skip
      refine g_byT (tS) (fun h3 => ?_) (fun h3 => ?_)
      · refine g_tsIn 19 hC (2 : Int32) (78) 97 h3 dX5_ofOne_19 (by decide) (by decide) (by decide) (by decide) ?_
        refine g_iload_n 97 hC dX5_ofOne_97 1 rfl ?_
        refine g_iconst 98 hC (4 : Int32) dX5_ofOne_98 (by decide) ?_
        refine g_ishr 99 hC dX5_ofOne_99 ?_
        refine g_iload_n 100 hC dX5_ofOne_100 1 rfl ?_
        refine g_iconst 101 hC (4 : Int32) dX5_ofOne_101 (by decide) ?_
        refine g_ishl 102 hC dX5_ofOne_102 ?_
        refine g_sipush 103 hC (240 : Int32) dX5_ofOne_103 (by decide) ?_
        refine g_iand 106 hC dX5_ofOne_106 ?_
        refine g_ior 107 hC dX5_ofOne_107 ?_
        refine g_istore 108 hC dX5_ofOne_108 (by decide) [(4, .int (((jshr (rD u (fX5_dOf a1)) (4 : Int32)) ||| ((jshl (rD u (fX5_dOf a1)) (4 : Int32)) &&& (240 : Int32))))), (3, .int ((rD u (fX5_dOf a1)))), (2, .int ((fX5_dOf a1))), (0, .ref (mO h)), (1, .int a1)] rfl ?_
        refine g_goto 110 hC 214 dX5_ofOne_110 (by decide) ?_
        refine g_aload_n 214 hC dX5_ofOne_214 3 rfl ?_
        refine m_get_data 215 hC fiX5_ofOne_wsX50 fmX5_ofOne_13 dX5_ofOne_215 ?_
        refine g_iload_n 218 hC dX5_ofOne_218 2 rfl ?_
        refine g_iload 219 hC dX5_ofOne_219 0 rfl ?_
        refine m_stD 221 hC (k3 h1 h2 h3) dX5_ofOne_221 ?_
        exact g_vretS 222 hC dX5_ofOne_222
      · skip
        refine g_byT (tS) (fun h4 => ?_) (fun h4 => ?_)
        · refine g_tsIn 19 hC (3 : Int32) (94) 113 h4 dX5_ofOne_19 (by decide) (by decide) (by decide) (by decide) ?_
          refine g_iload_n 113 hC dX5_ofOne_113 1 rfl ?_
          refine g_iconst 114 hC (1 : Int32) dX5_ofOne_114 (by decide) ?_
          refine g_iadd 115 hC dX5_ofOne_115 ?_
          refine g_sipush 116 hC (255 : Int32) dX5_ofOne_116 (by decide) ?_
          refine g_iand 119 hC dX5_ofOne_119 ?_
          refine g_istore 120 hC dX5_ofOne_120 (by decide) [(4, .int ((((rD u (fX5_dOf a1)) + (1 : Int32)) &&& (255 : Int32)))), (3, .int ((rD u (fX5_dOf a1)))), (2, .int ((fX5_dOf a1))), (0, .ref (mO h)), (1, .int a1)] rfl ?_
          refine g_aload_n 122 hC dX5_ofOne_122 3 rfl ?_
          refine g_iload 123 hC dX5_ofOne_123 0 rfl ?_
          refine g_iload 125 hC dX5_ofOne_125 0 rfl ?_
          refine g_sipush 127 hC (128 : Int32) dX5_ofOne_127 (by decide) ?_
          refine g_cut 138 (if (((rD u (fX5_dOf a1)) + (1 : Int32)) &&& (255 : Int32)) = (128 : Int32) then (1 : Int32) else (0 : Int32)) [.int ((((rD u (fX5_dOf a1)) + (1 : Int32)) &&& (255 : Int32))), .ref (mO h)] ?_ (fun J6 => ?_)
          · skip
            refine kX5_signs 138 hC gX5_ofOne_X5_signs ⟨Nat.le_of_ble_eq_true rfl, Nat.le_of_ble_eq_true rfl⟩ dX5_ofOne_138 (Nat.le_of_ble_eq_true rfl) ?_
            refine g_goto 141 hC 214 dX5_ofOne_141 (by decide) ?_
            refine g_aload_n 214 hC dX5_ofOne_214 3 rfl ?_
            refine m_get_data 215 hC fiX5_ofOne_wsX50 fmX5_ofOne_13 dX5_ofOne_215 ?_
            refine g_iload_n 218 hC dX5_ofOne_218 2 rfl ?_
            refine g_iload 219 hC dX5_ofOne_219 0 rfl ?_
            refine m_stD 221 hC (k4 h1 h2 h3 h4) dX5_ofOne_221 ?_
            exact g_vretS 222 hC dX5_ofOne_222
          · skip
            refine g_icmp_ne 130 hC 137 dX5_ofOne_130 (by decide) (fun h5 => ?_) (fun h5 => ?_)
            · skip
              refine g_iconst 137 hC (0 : Int32) dX5_ofOne_137 (by decide) ?_
              exact J6 _ (Eq.symm (if_neg h5))
            · skip
              refine g_iconst 133 hC (1 : Int32) dX5_ofOne_133 (by decide) ?_
              refine g_goto 134 hC 138 dX5_ofOne_134 (by decide) ?_
              exact J6 _ (Eq.symm (if_pos h5))
        · skip
          refine g_byT (tS) (fun h7 => ?_) (fun h7 => ?_)
          · refine g_tsIn 19 hC (4 : Int32) (168) 187 h7 dX5_ofOne_19 (by decide) (by decide) (by decide) (by decide) ?_
            refine g_iload_n 187 hC dX5_ofOne_187 1 rfl ?_
            refine g_iconst 188 hC (1 : Int32) dX5_ofOne_188 (by decide) ?_
            refine g_isub 189 hC dX5_ofOne_189 ?_
            refine g_sipush 190 hC (255 : Int32) dX5_ofOne_190 (by decide) ?_
            refine g_iand 193 hC dX5_ofOne_193 ?_
            refine g_istore 194 hC dX5_ofOne_194 (by decide) [(4, .int ((((rD u (fX5_dOf a1)) - (1 : Int32)) &&& (255 : Int32)))), (3, .int ((rD u (fX5_dOf a1)))), (2, .int ((fX5_dOf a1))), (0, .ref (mO h)), (1, .int a1)] rfl ?_
            refine g_aload_n 196 hC dX5_ofOne_196 3 rfl ?_
            refine g_iload 197 hC dX5_ofOne_197 0 rfl ?_
            refine g_iload 199 hC dX5_ofOne_199 0 rfl ?_
            refine g_bipush 201 hC (127 : Int32) dX5_ofOne_201 (by decide) ?_
            refine g_cut 211 (if (((rD u (fX5_dOf a1)) - (1 : Int32)) &&& (255 : Int32)) = (127 : Int32) then (1 : Int32) else (0 : Int32)) [.int ((((rD u (fX5_dOf a1)) - (1 : Int32)) &&& (255 : Int32))), .ref (mO h)] ?_ (fun J9 => ?_)
            · skip
              refine kX5_signs 211 hC gX5_ofOne_X5_signs ⟨Nat.le_of_ble_eq_true rfl, Nat.le_of_ble_eq_true rfl⟩ dX5_ofOne_211 (Nat.le_of_ble_eq_true rfl) ?_
              refine g_aload_n 214 hC dX5_ofOne_214 3 rfl ?_
              refine m_get_data 215 hC fiX5_ofOne_wsX50 fmX5_ofOne_13 dX5_ofOne_215 ?_
              refine g_iload_n 218 hC dX5_ofOne_218 2 rfl ?_
              refine g_iload 219 hC dX5_ofOne_219 0 rfl ?_
              refine m_stD 221 hC (k5 h1 h2 h3 h4 h7) dX5_ofOne_221 ?_
              exact g_vretS 222 hC dX5_ofOne_222
            · skip
              refine g_icmp_ne 203 hC 210 dX5_ofOne_203 (by decide) (fun h8 => ?_) (fun h8 => ?_)
              · skip
                refine g_iconst 210 hC (0 : Int32) dX5_ofOne_210 (by decide) ?_
                exact J9 _ (Eq.symm (if_neg h8))
              · skip
                refine g_iconst 206 hC (1 : Int32) dX5_ofOne_206 (by decide) ?_
                refine g_goto 207 hC 211 dX5_ofOne_207 (by decide) ?_
                exact J9 _ (Eq.symm (if_pos h8))
          · skip
            refine g_byT (tS) (fun h10 => ?_) (fun h10 => ?_)
            · refine g_tsIn 19 hC (5 : Int32) (125) 144 h10 dX5_ofOne_19 (by decide) (by decide) (by decide) (by decide) ?_
              refine g_aload_n 144 hC dX5_ofOne_144 3 rfl ?_
              refine g_iload_n 145 hC dX5_ofOne_145 1 rfl ?_
              refine g_iload_n 146 hC dX5_ofOne_146 1 rfl ?_
              refine g_sipush 147 hC (128 : Int32) dX5_ofOne_147 (by decide) ?_
              refine g_iand 150 hC dX5_ofOne_150 ?_
              refine kX5_right 151 hC gX5_ofOne_X5_right ⟨Nat.le_of_ble_eq_true rfl, Nat.le_of_ble_eq_true rfl⟩ dX5_ofOne_151 (Nat.le_of_ble_eq_true rfl) ?_
              refine g_istore 154 hC dX5_ofOne_154 (by decide) [(4, .int ((fX5_right (rD u (fX5_dOf a1)) ((rD u (fX5_dOf a1)) &&& (128 : Int32)) u).2)), (3, .int ((rD u (fX5_dOf a1)))), (2, .int ((fX5_dOf a1))), (0, .ref (mO h)), (1, .int a1)] rfl ?_
              refine g_goto 156 hC 214 dX5_ofOne_156 (by decide) ?_
              refine g_aload_n 214 hC dX5_ofOne_214 3 rfl ?_
              refine m_get_data 215 hC fiX5_ofOne_wsX50 fmX5_ofOne_13 dX5_ofOne_215 ?_
              refine g_iload_n 218 hC dX5_ofOne_218 2 rfl ?_
              refine g_iload 219 hC dX5_ofOne_219 0 rfl ?_
              refine m_stD 221 hC (k6 h1 h2 h3 h4 h7 h10) dX5_ofOne_221 ?_
              exact g_vretS 222 hC dX5_ofOne_222
            · skip
              refine g_byT (tS) (fun h11 => ?_) (fun h11 => ?_)
              · refine g_tsIn 19 hC (6 : Int32) (140) 159 h11 dX5_ofOne_19 (by decide) (by decide) (by decide) (by decide) ?_
                refine g_aload_n 159 hC dX5_ofOne_159 3 rfl ?_
                refine g_iload_n 160 hC dX5_ofOne_160 1 rfl ?_
                refine g_iconst 161 hC (0 : Int32) dX5_ofOne_161 (by decide) ?_
                refine kX5_right 162 hC gX5_ofOne_X5_right ⟨Nat.le_of_ble_eq_true rfl, Nat.le_of_ble_eq_true rfl⟩ dX5_ofOne_162 (Nat.le_of_ble_eq_true rfl) ?_
                refine g_istore 165 hC dX5_ofOne_165 (by decide) [(4, .int ((fX5_right (rD u (fX5_dOf a1)) (0 : Int32) u).2)), (3, .int ((rD u (fX5_dOf a1)))), (2, .int ((fX5_dOf a1))), (0, .ref (mO h)), (1, .int a1)] rfl ?_
                refine g_goto 167 hC 214 dX5_ofOne_167 (by decide) ?_
                refine g_aload_n 214 hC dX5_ofOne_214 3 rfl ?_
                refine m_get_data 215 hC fiX5_ofOne_wsX50 fmX5_ofOne_13 dX5_ofOne_215 ?_
                refine g_iload_n 218 hC dX5_ofOne_218 2 rfl ?_
                refine g_iload 219 hC dX5_ofOne_219 0 rfl ?_
                refine m_stD 221 hC (k7 h1 h2 h3 h4 h7 h10 h11) dX5_ofOne_221 ?_
                exact g_vretS 222 hC dX5_ofOne_222
              · skip
                refine g_byT (tS) (fun h12 => ?_) (fun h12 => ?_)
                · refine g_tsIn 19 hC (7 : Int32) (151) 170 h12 dX5_ofOne_19 (by decide) (by decide) (by decide) (by decide) ?_
                  refine g_aload_n 170 hC dX5_ofOne_170 3 rfl ?_
                  refine g_iload_n 171 hC dX5_ofOne_171 1 rfl ?_
                  refine g_aload_n 172 hC dX5_ofOne_172 3 rfl ?_
                  refine kX5_carry 173 hC gX5_ofOne_X5_carry ⟨Nat.le_of_ble_eq_true rfl, Nat.le_of_ble_eq_true rfl⟩ dX5_ofOne_173 (Nat.le_of_ble_eq_true rfl) ?_
                  refine g_bipush 176 hC (7 : Int32) dX5_ofOne_176 (by decide) ?_
                  refine g_ishl 178 hC dX5_ofOne_178 ?_
                  refine kX5_right 179 hC gX5_ofOne_X5_right ⟨Nat.le_of_ble_eq_true rfl, Nat.le_of_ble_eq_true rfl⟩ dX5_ofOne_179 (Nat.le_of_ble_eq_true rfl) ?_
                  refine g_istore 182 hC dX5_ofOne_182 (by decide) [(4, .int ((fX5_right (rD u (fX5_dOf a1)) (jshl (fX5_carry u) (7 : Int32)) u).2)), (3, .int ((rD u (fX5_dOf a1)))), (2, .int ((fX5_dOf a1))), (0, .ref (mO h)), (1, .int a1)] rfl ?_
                  refine g_goto 184 hC 214 dX5_ofOne_184 (by decide) ?_
                  refine g_aload_n 214 hC dX5_ofOne_214 3 rfl ?_
                  refine m_get_data 215 hC fiX5_ofOne_wsX50 fmX5_ofOne_13 dX5_ofOne_215 ?_
                  refine g_iload_n 218 hC dX5_ofOne_218 2 rfl ?_
                  refine g_iload 219 hC dX5_ofOne_219 0 rfl ?_
                  refine m_stD 221 hC (k8 h1 h2 h3 h4 h7 h10 h11 h12) dX5_ofOne_221 ?_
                  exact g_vretS 222 hC dX5_ofOne_222
                · skip
                  refine g_tsOut 19 hC 187 dX5_ofOne_19 (by have n0 := lv_neT h1 (a := 0) (by decide); have n1 := lv_neT h2 (a := 1) (by decide); have n2 := lv_neT h3 (a := 2) (by decide); have n3 := lv_neT h4 (a := 3) (by decide); have n4 := lv_neT h7 (a := 4) (by decide); have n5 := lv_neT h10 (a := 5) (by decide); have n6 := lv_neT h11 (a := 6) (by decide); have n7 := lv_neT h12 (a := 7) (by decide); omega) (by decide) ?_
                  refine g_iload_n 187 hC dX5_ofOne_187 1 rfl ?_
                  refine g_iconst 188 hC (1 : Int32) dX5_ofOne_188 (by decide) ?_
                  refine g_isub 189 hC dX5_ofOne_189 ?_
                  refine g_sipush 190 hC (255 : Int32) dX5_ofOne_190 (by decide) ?_
                  refine g_iand 193 hC dX5_ofOne_193 ?_
                  refine g_istore 194 hC dX5_ofOne_194 (by decide) [(4, .int ((((rD u (fX5_dOf a1)) - (1 : Int32)) &&& (255 : Int32)))), (3, .int ((rD u (fX5_dOf a1)))), (2, .int ((fX5_dOf a1))), (0, .ref (mO h)), (1, .int a1)] rfl ?_
                  refine g_aload_n 196 hC dX5_ofOne_196 3 rfl ?_
                  refine g_iload 197 hC dX5_ofOne_197 0 rfl ?_
                  refine g_iload 199 hC dX5_ofOne_199 0 rfl ?_
                  refine g_bipush 201 hC (127 : Int32) dX5_ofOne_201 (by decide) ?_
                  refine g_cut 211 (if (((rD u (fX5_dOf a1)) - (1 : Int32)) &&& (255 : Int32)) = (127 : Int32) then (1 : Int32) else (0 : Int32)) [.int ((((rD u (fX5_dOf a1)) - (1 : Int32)) &&& (255 : Int32))), .ref (mO h)] ?_ (fun J14 => ?_)
                  · skip
                    refine kX5_signs 211 hC gX5_ofOne_X5_signs ⟨Nat.le_of_ble_eq_true rfl, Nat.le_of_ble_eq_true rfl⟩ dX5_ofOne_211 (Nat.le_of_ble_eq_true rfl) ?_
                    refine g_aload_n 214 hC dX5_ofOne_214 3 rfl ?_
                    refine m_get_data 215 hC fiX5_ofOne_wsX50 fmX5_ofOne_13 dX5_ofOne_215 ?_
                    refine g_iload_n 218 hC dX5_ofOne_218 2 rfl ?_
                    refine g_iload 219 hC dX5_ofOne_219 0 rfl ?_
                    refine m_stD 221 hC (k9 h1 h2 h3 h4 h7 h10 h11 h12) dX5_ofOne_221 ?_
                    exact g_vretS 222 hC dX5_ofOne_222
                  · skip
                    refine g_icmp_ne 203 hC 210 dX5_ofOne_203 (by decide) (fun h13 => ?_) (fun h13 => ?_)
                    · skip
                      refine g_iconst 210 hC (0 : Int32) dX5_ofOne_210 (by decide) ?_
                      exact J14 _ (Eq.symm (if_neg h13))
                    · skip
                      refine g_iconst 206 hC (1 : Int32) dX5_ofOne_206 (by decide) ?_
                      refine g_goto 207 hC 211 dX5_ofOne_207 (by decide) ?_
                      exact J14 _ (Eq.symm (if_pos h13))
theorem kX5_ofOne {K : KT} {h : HM} {cc : ByteArray} {nL : Nat} {own : String} {Ts : List Cond} {rm : Room} {ret : Option FieldType} {T : ST × Option Value} {u : ST} {lv : List (Nat × Value)} {rest : List Value} {idx : Nat} {a1 : Int32} (pc : Nat) (hC : Cx K (EM h) cc nL own Ts rm ret) (hok : okX5_ofOne a1 u) (hT : GoodIn Ts (wsV own idx RX5 yX5_ofOne wsX5_ofOne)) (hR : rmX5_ofOne.frames + 1 ≤ rm.frames ∧ 8 + (5 + 11) + rmX5_ofOne.locals ≤ rm.locals) (hdg : decode cc pc = .ok (.invokevirtual idx, 3)) (hcat : (rest.map fun v => v.category).sum ≤ 8) (kk : G K (EM h) nL T (fX5_ofOne a1 u) (pc + 3) lv (rest)) : G K (EM h) nL T u pc lv (.int a1 :: .ref (mO h) :: rest) := g_callV (n := 1) pc hC (As := [.int a1]) (rest := rest) (cX5_ofOne_ _ (Cx.ok hC) a1 u hok) hT rfl rfl rfl (by decide +kernel) hR 0 3 rfl rfl rfl rfl rfl hcat hdg kk

def fX5_ofPair (a1 : Int32) (u : ST) : ST :=
  (fX5_flag (16 : Int32) (if (if ((if (if (a1 &&& (256 : Int32)) = 0 then (0 : Int32) else (1 : Int32)) = 0 then ((fX5_pair ((24 : Int32) + ((2 : Int32) * ((jshr a1 (4 : Int32)) &&& (3 : Int32)))) u) + (((jshr a1 (2 : Int32)) &&& (48 : Int32)) ||| (a1 &&& (15 : Int32)))) else ((fX5_pair ((24 : Int32) + ((2 : Int32) * ((jshr a1 (4 : Int32)) &&& (3 : Int32)))) u) - (((jshr a1 (2 : Int32)) &&& (48 : Int32)) ||| (a1 &&& (15 : Int32))))) &&& (65535 : Int32)) ≤ (32767 : Int32) then (0 : Int32) else (1 : Int32)) = (if (if (a1 &&& (256 : Int32)) = 0 then (0 : Int32) else (1 : Int32)) = 0 then (if (32768 : Int32) ≤ (fX5_pair ((24 : Int32) + ((2 : Int32) * ((jshr a1 (4 : Int32)) &&& (3 : Int32)))) u) then (0 : Int32) else (if ((if (if (a1 &&& (256 : Int32)) = 0 then (0 : Int32) else (1 : Int32)) = 0 then ((fX5_pair ((24 : Int32) + ((2 : Int32) * ((jshr a1 (4 : Int32)) &&& (3 : Int32)))) u) + (((jshr a1 (2 : Int32)) &&& (48 : Int32)) ||| (a1 &&& (15 : Int32)))) else ((fX5_pair ((24 : Int32) + ((2 : Int32) * ((jshr a1 (4 : Int32)) &&& (3 : Int32)))) u) - (((jshr a1 (2 : Int32)) &&& (48 : Int32)) ||| (a1 &&& (15 : Int32))))) &&& (65535 : Int32)) ≤ (32767 : Int32) then (0 : Int32) else (1 : Int32))) else (if (fX5_pair ((24 : Int32) + ((2 : Int32) * ((jshr a1 (4 : Int32)) &&& (3 : Int32)))) u) ≤ (32767 : Int32) then (0 : Int32) else (if (32768 : Int32) ≤ ((if (if (a1 &&& (256 : Int32)) = 0 then (0 : Int32) else (1 : Int32)) = 0 then ((fX5_pair ((24 : Int32) + ((2 : Int32) * ((jshr a1 (4 : Int32)) &&& (3 : Int32)))) u) + (((jshr a1 (2 : Int32)) &&& (48 : Int32)) ||| (a1 &&& (15 : Int32)))) else ((fX5_pair ((24 : Int32) + ((2 : Int32) * ((jshr a1 (4 : Int32)) &&& (3 : Int32)))) u) - (((jshr a1 (2 : Int32)) &&& (48 : Int32)) ||| (a1 &&& (15 : Int32))))) &&& (65535 : Int32)) then (0 : Int32) else (1 : Int32)))) then (0 : Int32) else (1 : Int32)) (fX5_flag (1 : Int32) (if (if (a1 &&& (256 : Int32)) = 0 then (0 : Int32) else (1 : Int32)) = 0 then (if (fX5_pair ((24 : Int32) + ((2 : Int32) * ((jshr a1 (4 : Int32)) &&& (3 : Int32)))) u) ≤ (32767 : Int32) then (0 : Int32) else (if (32768 : Int32) ≤ ((if (if (a1 &&& (256 : Int32)) = 0 then (0 : Int32) else (1 : Int32)) = 0 then ((fX5_pair ((24 : Int32) + ((2 : Int32) * ((jshr a1 (4 : Int32)) &&& (3 : Int32)))) u) + (((jshr a1 (2 : Int32)) &&& (48 : Int32)) ||| (a1 &&& (15 : Int32)))) else ((fX5_pair ((24 : Int32) + ((2 : Int32) * ((jshr a1 (4 : Int32)) &&& (3 : Int32)))) u) - (((jshr a1 (2 : Int32)) &&& (48 : Int32)) ||| (a1 &&& (15 : Int32))))) &&& (65535 : Int32)) then (0 : Int32) else (1 : Int32))) else (if (32768 : Int32) ≤ (fX5_pair ((24 : Int32) + ((2 : Int32) * ((jshr a1 (4 : Int32)) &&& (3 : Int32)))) u) then (0 : Int32) else (if ((if (if (a1 &&& (256 : Int32)) = 0 then (0 : Int32) else (1 : Int32)) = 0 then ((fX5_pair ((24 : Int32) + ((2 : Int32) * ((jshr a1 (4 : Int32)) &&& (3 : Int32)))) u) + (((jshr a1 (2 : Int32)) &&& (48 : Int32)) ||| (a1 &&& (15 : Int32)))) else ((fX5_pair ((24 : Int32) + ((2 : Int32) * ((jshr a1 (4 : Int32)) &&& (3 : Int32)))) u) - (((jshr a1 (2 : Int32)) &&& (48 : Int32)) ||| (a1 &&& (15 : Int32))))) &&& (65535 : Int32)) ≤ (32767 : Int32) then (0 : Int32) else (1 : Int32)))) (fX5_flag (8 : Int32) (if (if (a1 &&& (256 : Int32)) = 0 then (0 : Int32) else (1 : Int32)) = 0 then (if (32768 : Int32) ≤ (fX5_pair ((24 : Int32) + ((2 : Int32) * ((jshr a1 (4 : Int32)) &&& (3 : Int32)))) u) then (0 : Int32) else (if ((if (if (a1 &&& (256 : Int32)) = 0 then (0 : Int32) else (1 : Int32)) = 0 then ((fX5_pair ((24 : Int32) + ((2 : Int32) * ((jshr a1 (4 : Int32)) &&& (3 : Int32)))) u) + (((jshr a1 (2 : Int32)) &&& (48 : Int32)) ||| (a1 &&& (15 : Int32)))) else ((fX5_pair ((24 : Int32) + ((2 : Int32) * ((jshr a1 (4 : Int32)) &&& (3 : Int32)))) u) - (((jshr a1 (2 : Int32)) &&& (48 : Int32)) ||| (a1 &&& (15 : Int32))))) &&& (65535 : Int32)) ≤ (32767 : Int32) then (0 : Int32) else (1 : Int32))) else (if (fX5_pair ((24 : Int32) + ((2 : Int32) * ((jshr a1 (4 : Int32)) &&& (3 : Int32)))) u) ≤ (32767 : Int32) then (0 : Int32) else (if (32768 : Int32) ≤ ((if (if (a1 &&& (256 : Int32)) = 0 then (0 : Int32) else (1 : Int32)) = 0 then ((fX5_pair ((24 : Int32) + ((2 : Int32) * ((jshr a1 (4 : Int32)) &&& (3 : Int32)))) u) + (((jshr a1 (2 : Int32)) &&& (48 : Int32)) ||| (a1 &&& (15 : Int32)))) else ((fX5_pair ((24 : Int32) + ((2 : Int32) * ((jshr a1 (4 : Int32)) &&& (3 : Int32)))) u) - (((jshr a1 (2 : Int32)) &&& (48 : Int32)) ||| (a1 &&& (15 : Int32))))) &&& (65535 : Int32)) then (0 : Int32) else (1 : Int32)))) (fX5_flag (4 : Int32) (if ((if (if (a1 &&& (256 : Int32)) = 0 then (0 : Int32) else (1 : Int32)) = 0 then ((fX5_pair ((24 : Int32) + ((2 : Int32) * ((jshr a1 (4 : Int32)) &&& (3 : Int32)))) u) + (((jshr a1 (2 : Int32)) &&& (48 : Int32)) ||| (a1 &&& (15 : Int32)))) else ((fX5_pair ((24 : Int32) + ((2 : Int32) * ((jshr a1 (4 : Int32)) &&& (3 : Int32)))) u) - (((jshr a1 (2 : Int32)) &&& (48 : Int32)) ||| (a1 &&& (15 : Int32))))) &&& (65535 : Int32)) ≤ (32767 : Int32) then (0 : Int32) else (1 : Int32)) (fX5_flag (2 : Int32) (if ((if (if (a1 &&& (256 : Int32)) = 0 then (0 : Int32) else (1 : Int32)) = 0 then ((fX5_pair ((24 : Int32) + ((2 : Int32) * ((jshr a1 (4 : Int32)) &&& (3 : Int32)))) u) + (((jshr a1 (2 : Int32)) &&& (48 : Int32)) ||| (a1 &&& (15 : Int32)))) else ((fX5_pair ((24 : Int32) + ((2 : Int32) * ((jshr a1 (4 : Int32)) &&& (3 : Int32)))) u) - (((jshr a1 (2 : Int32)) &&& (48 : Int32)) ||| (a1 &&& (15 : Int32))))) &&& (65535 : Int32)) = 0 then (1 : Int32) else (0 : Int32)) (fX5_setPair ((24 : Int32) + ((2 : Int32) * ((jshr a1 (4 : Int32)) &&& (3 : Int32)))) ((if (if (a1 &&& (256 : Int32)) = 0 then (0 : Int32) else (1 : Int32)) = 0 then ((fX5_pair ((24 : Int32) + ((2 : Int32) * ((jshr a1 (4 : Int32)) &&& (3 : Int32)))) u) + (((jshr a1 (2 : Int32)) &&& (48 : Int32)) ||| (a1 &&& (15 : Int32)))) else ((fX5_pair ((24 : Int32) + ((2 : Int32) * ((jshr a1 (4 : Int32)) &&& (3 : Int32)))) u) - (((jshr a1 (2 : Int32)) &&& (48 : Int32)) ||| (a1 &&& (15 : Int32))))) &&& (65535 : Int32)) u))))))
def okX5_ofPair (a1 : Int32) (u : ST) : Prop := (okX5_pair ((24 : Int32) + ((2 : Int32) * ((jshr a1 (4 : Int32)) &&& (3 : Int32)))) u) ∧ (okX5_setPair ((24 : Int32) + ((2 : Int32) * ((jshr a1 (4 : Int32)) &&& (3 : Int32)))) ((if (if (a1 &&& (256 : Int32)) = 0 then (0 : Int32) else (1 : Int32)) = 0 then ((fX5_pair ((24 : Int32) + ((2 : Int32) * ((jshr a1 (4 : Int32)) &&& (3 : Int32)))) u) + (((jshr a1 (2 : Int32)) &&& (48 : Int32)) ||| (a1 &&& (15 : Int32)))) else ((fX5_pair ((24 : Int32) + ((2 : Int32) * ((jshr a1 (4 : Int32)) &&& (3 : Int32)))) u) - (((jshr a1 (2 : Int32)) &&& (48 : Int32)) ||| (a1 &&& (15 : Int32))))) &&& (65535 : Int32)) u) ∧ True
theorem cmX5_ofPair_27 : Jvm.Cond.constant RX5 27 (65535 : Int32) ∈ wsX5_ofPair := List.mem_of_getElem? (i := 1) rfl
theorem cmX5_ofPair_120 : Jvm.Cond.constant RX5 120 (32768 : Int32) ∈ wsX5_ofPair := List.mem_of_getElem? (i := 2) rfl
abbrev rmX5_ofPair : Room := { frames := 1, cells := 0, slots := 0, locals := 22 }
set_option maxRecDepth 20000 in
theorem cX5_ofPair_ (h : HM) (hE : okE (EM h)) (a1 : Int32) (u : ST) (hok : okX5_ofPair a1 u) : MX (EM h) yX5_ofPair wsX5_ofPair rmX5_ofPair [.ref (mO h), .int a1] u (tS (fX5_ofPair a1 u)) := by
  obtain ⟨k0, k1, -⟩ := hok
  refine MX.of (cc := cX5_ofPair) (maxL := 9) (ret := none) (lv := [(0, .ref (mO h)), (1, .int a1)]) hE (by decide) rfl (fun _ => rfl) (Nat.le_of_ble_eq_true rfl) rfl (fun K hC => ?_)
  unfold fX5_ofPair
  refine g_bipush 0 hC (24 : Int32) dX5_ofPair_0 (by decide) ?_
  refine g_iconst 2 hC (2 : Int32) dX5_ofPair_2 (by decide) ?_
  refine g_iload_n 3 hC dX5_ofPair_3 1 rfl ?_
  refine g_iconst 4 hC (4 : Int32) dX5_ofPair_4 (by decide) ?_
  refine g_ishr 5 hC dX5_ofPair_5 ?_
  refine g_iconst 6 hC (3 : Int32) dX5_ofPair_6 (by decide) ?_
  refine g_iand 7 hC dX5_ofPair_7 ?_
  refine g_imul 8 hC dX5_ofPair_8 ?_
  refine g_iadd 9 hC dX5_ofPair_9 ?_
  refine g_istore_n 10 hC dX5_ofPair_10 (by decide) [(2, .int (((24 : Int32) + ((2 : Int32) * ((jshr a1 (4 : Int32)) &&& (3 : Int32)))))), (0, .ref (mO h)), (1, .int a1)] rfl ?_
  refine g_iload_n 11 hC dX5_ofPair_11 2 rfl ?_
  refine g_iconst 12 hC (2 : Int32) dX5_ofPair_12 (by decide) ?_
  refine g_ishr 13 hC dX5_ofPair_13 ?_
  refine g_bipush 14 hC (48 : Int32) dX5_ofPair_14 (by decide) ?_
  refine g_iand 16 hC dX5_ofPair_16 ?_
  refine g_iload_n 17 hC dX5_ofPair_17 2 rfl ?_
  refine g_bipush 18 hC (15 : Int32) dX5_ofPair_18 (by decide) ?_
  refine g_iand 20 hC dX5_ofPair_20 ?_
  refine g_ior 21 hC dX5_ofPair_21 ?_
  refine g_istore_n 22 hC dX5_ofPair_22 (by decide) [(3, .int ((((jshr a1 (2 : Int32)) &&& (48 : Int32)) ||| (a1 &&& (15 : Int32))))), (2, .int (((24 : Int32) + ((2 : Int32) * ((jshr a1 (4 : Int32)) &&& (3 : Int32)))))), (0, .ref (mO h)), (1, .int a1)] rfl ?_
  refine g_aload_n 23 hC dX5_ofPair_23 2 rfl ?_
  refine g_iload_n 24 hC dX5_ofPair_24 1 rfl ?_
  refine kX5_pair 25 hC k0 gX5_ofPair_X5_pair ⟨Nat.le_of_ble_eq_true rfl, Nat.le_of_ble_eq_true rfl⟩ dX5_ofPair_25 (Nat.le_of_ble_eq_true rfl) ?_
  refine g_istore 28 hC dX5_ofPair_28 (by decide) [(4, .int ((fX5_pair ((24 : Int32) + ((2 : Int32) * ((jshr a1 (4 : Int32)) &&& (3 : Int32)))) u))), (3, .int ((((jshr a1 (2 : Int32)) &&& (48 : Int32)) ||| (a1 &&& (15 : Int32))))), (2, .int (((24 : Int32) + ((2 : Int32) * ((jshr a1 (4 : Int32)) &&& (3 : Int32)))))), (0, .ref (mO h)), (1, .int a1)] rfl ?_
  refine g_iload_n 30 hC dX5_ofPair_30 4 rfl ?_
  refine g_sipush 31 hC (256 : Int32) dX5_ofPair_31 (by decide) ?_
  refine g_iand 34 hC dX5_ofPair_34 ?_
  refine g_cut 43 (if (a1 &&& (256 : Int32)) = 0 then (0 : Int32) else (1 : Int32)) [] ?_ (fun J2 => ?_)
  · skip
    refine g_istore 43 hC dX5_ofPair_43 (by decide) [(5, .int ((if (a1 &&& (256 : Int32)) = 0 then (0 : Int32) else (1 : Int32)))), (4, .int ((fX5_pair ((24 : Int32) + ((2 : Int32) * ((jshr a1 (4 : Int32)) &&& (3 : Int32)))) u))), (3, .int ((((jshr a1 (2 : Int32)) &&& (48 : Int32)) ||| (a1 &&& (15 : Int32))))), (2, .int (((24 : Int32) + ((2 : Int32) * ((jshr a1 (4 : Int32)) &&& (3 : Int32)))))), (0, .ref (mO h)), (1, .int a1)] rfl ?_
    refine g_iload 45 hC dX5_ofPair_45 0 rfl ?_
    refine g_cut 61 (if (if (a1 &&& (256 : Int32)) = 0 then (0 : Int32) else (1 : Int32)) = 0 then ((fX5_pair ((24 : Int32) + ((2 : Int32) * ((jshr a1 (4 : Int32)) &&& (3 : Int32)))) u) + (((jshr a1 (2 : Int32)) &&& (48 : Int32)) ||| (a1 &&& (15 : Int32)))) else ((fX5_pair ((24 : Int32) + ((2 : Int32) * ((jshr a1 (4 : Int32)) &&& (3 : Int32)))) u) - (((jshr a1 (2 : Int32)) &&& (48 : Int32)) ||| (a1 &&& (15 : Int32))))) [] ?_ (fun J4 => ?_)
    · skip
      refine g_ldc 61 hC (65535 : Int32) dX5_ofPair_61 cmX5_ofPair_27 ?_
      refine g_iand 63 hC dX5_ofPair_63 ?_
      refine g_istore 64 hC dX5_ofPair_64 (by decide) [(6, .int (((if (if (a1 &&& (256 : Int32)) = 0 then (0 : Int32) else (1 : Int32)) = 0 then ((fX5_pair ((24 : Int32) + ((2 : Int32) * ((jshr a1 (4 : Int32)) &&& (3 : Int32)))) u) + (((jshr a1 (2 : Int32)) &&& (48 : Int32)) ||| (a1 &&& (15 : Int32)))) else ((fX5_pair ((24 : Int32) + ((2 : Int32) * ((jshr a1 (4 : Int32)) &&& (3 : Int32)))) u) - (((jshr a1 (2 : Int32)) &&& (48 : Int32)) ||| (a1 &&& (15 : Int32))))) &&& (65535 : Int32)))), (5, .int ((if (a1 &&& (256 : Int32)) = 0 then (0 : Int32) else (1 : Int32)))), (4, .int ((fX5_pair ((24 : Int32) + ((2 : Int32) * ((jshr a1 (4 : Int32)) &&& (3 : Int32)))) u))), (3, .int ((((jshr a1 (2 : Int32)) &&& (48 : Int32)) ||| (a1 &&& (15 : Int32))))), (2, .int (((24 : Int32) + ((2 : Int32) * ((jshr a1 (4 : Int32)) &&& (3 : Int32)))))), (0, .ref (mO h)), (1, .int a1)] rfl ?_
      refine g_iload 66 hC dX5_ofPair_66 2 rfl ?_
      refine g_ldc 68 hC (32768 : Int32) dX5_ofPair_68 cmX5_ofPair_120 ?_
      refine g_cut 86 (if (32768 : Int32) ≤ (fX5_pair ((24 : Int32) + ((2 : Int32) * ((jshr a1 (4 : Int32)) &&& (3 : Int32)))) u) then (0 : Int32) else (if ((if (if (a1 &&& (256 : Int32)) = 0 then (0 : Int32) else (1 : Int32)) = 0 then ((fX5_pair ((24 : Int32) + ((2 : Int32) * ((jshr a1 (4 : Int32)) &&& (3 : Int32)))) u) + (((jshr a1 (2 : Int32)) &&& (48 : Int32)) ||| (a1 &&& (15 : Int32)))) else ((fX5_pair ((24 : Int32) + ((2 : Int32) * ((jshr a1 (4 : Int32)) &&& (3 : Int32)))) u) - (((jshr a1 (2 : Int32)) &&& (48 : Int32)) ||| (a1 &&& (15 : Int32))))) &&& (65535 : Int32)) ≤ (32767 : Int32) then (0 : Int32) else (1 : Int32))) [] ?_ (fun J7 => ?_)
      · skip
        refine g_istore 86 hC dX5_ofPair_86 (by decide) [(7, .int ((if (32768 : Int32) ≤ (fX5_pair ((24 : Int32) + ((2 : Int32) * ((jshr a1 (4 : Int32)) &&& (3 : Int32)))) u) then (0 : Int32) else (if ((if (if (a1 &&& (256 : Int32)) = 0 then (0 : Int32) else (1 : Int32)) = 0 then ((fX5_pair ((24 : Int32) + ((2 : Int32) * ((jshr a1 (4 : Int32)) &&& (3 : Int32)))) u) + (((jshr a1 (2 : Int32)) &&& (48 : Int32)) ||| (a1 &&& (15 : Int32)))) else ((fX5_pair ((24 : Int32) + ((2 : Int32) * ((jshr a1 (4 : Int32)) &&& (3 : Int32)))) u) - (((jshr a1 (2 : Int32)) &&& (48 : Int32)) ||| (a1 &&& (15 : Int32))))) &&& (65535 : Int32)) ≤ (32767 : Int32) then (0 : Int32) else (1 : Int32))))), (6, .int (((if (if (a1 &&& (256 : Int32)) = 0 then (0 : Int32) else (1 : Int32)) = 0 then ((fX5_pair ((24 : Int32) + ((2 : Int32) * ((jshr a1 (4 : Int32)) &&& (3 : Int32)))) u) + (((jshr a1 (2 : Int32)) &&& (48 : Int32)) ||| (a1 &&& (15 : Int32)))) else ((fX5_pair ((24 : Int32) + ((2 : Int32) * ((jshr a1 (4 : Int32)) &&& (3 : Int32)))) u) - (((jshr a1 (2 : Int32)) &&& (48 : Int32)) ||| (a1 &&& (15 : Int32))))) &&& (65535 : Int32)))), (5, .int ((if (a1 &&& (256 : Int32)) = 0 then (0 : Int32) else (1 : Int32)))), (4, .int ((fX5_pair ((24 : Int32) + ((2 : Int32) * ((jshr a1 (4 : Int32)) &&& (3 : Int32)))) u))), (3, .int ((((jshr a1 (2 : Int32)) &&& (48 : Int32)) ||| (a1 &&& (15 : Int32))))), (2, .int (((24 : Int32) + ((2 : Int32) * ((jshr a1 (4 : Int32)) &&& (3 : Int32)))))), (0, .ref (mO h)), (1, .int a1)] rfl ?_
        refine g_iload 88 hC dX5_ofPair_88 3 rfl ?_
        refine g_sipush 90 hC (32767 : Int32) dX5_ofPair_90 (by decide) ?_
        refine g_cut 108 (if (fX5_pair ((24 : Int32) + ((2 : Int32) * ((jshr a1 (4 : Int32)) &&& (3 : Int32)))) u) ≤ (32767 : Int32) then (0 : Int32) else (if (32768 : Int32) ≤ ((if (if (a1 &&& (256 : Int32)) = 0 then (0 : Int32) else (1 : Int32)) = 0 then ((fX5_pair ((24 : Int32) + ((2 : Int32) * ((jshr a1 (4 : Int32)) &&& (3 : Int32)))) u) + (((jshr a1 (2 : Int32)) &&& (48 : Int32)) ||| (a1 &&& (15 : Int32)))) else ((fX5_pair ((24 : Int32) + ((2 : Int32) * ((jshr a1 (4 : Int32)) &&& (3 : Int32)))) u) - (((jshr a1 (2 : Int32)) &&& (48 : Int32)) ||| (a1 &&& (15 : Int32))))) &&& (65535 : Int32)) then (0 : Int32) else (1 : Int32))) [] ?_ (fun J10 => ?_)
        · skip
          refine g_istore 108 hC dX5_ofPair_108 (by decide) [(8, .int ((if (fX5_pair ((24 : Int32) + ((2 : Int32) * ((jshr a1 (4 : Int32)) &&& (3 : Int32)))) u) ≤ (32767 : Int32) then (0 : Int32) else (if (32768 : Int32) ≤ ((if (if (a1 &&& (256 : Int32)) = 0 then (0 : Int32) else (1 : Int32)) = 0 then ((fX5_pair ((24 : Int32) + ((2 : Int32) * ((jshr a1 (4 : Int32)) &&& (3 : Int32)))) u) + (((jshr a1 (2 : Int32)) &&& (48 : Int32)) ||| (a1 &&& (15 : Int32)))) else ((fX5_pair ((24 : Int32) + ((2 : Int32) * ((jshr a1 (4 : Int32)) &&& (3 : Int32)))) u) - (((jshr a1 (2 : Int32)) &&& (48 : Int32)) ||| (a1 &&& (15 : Int32))))) &&& (65535 : Int32)) then (0 : Int32) else (1 : Int32))))), (7, .int ((if (32768 : Int32) ≤ (fX5_pair ((24 : Int32) + ((2 : Int32) * ((jshr a1 (4 : Int32)) &&& (3 : Int32)))) u) then (0 : Int32) else (if ((if (if (a1 &&& (256 : Int32)) = 0 then (0 : Int32) else (1 : Int32)) = 0 then ((fX5_pair ((24 : Int32) + ((2 : Int32) * ((jshr a1 (4 : Int32)) &&& (3 : Int32)))) u) + (((jshr a1 (2 : Int32)) &&& (48 : Int32)) ||| (a1 &&& (15 : Int32)))) else ((fX5_pair ((24 : Int32) + ((2 : Int32) * ((jshr a1 (4 : Int32)) &&& (3 : Int32)))) u) - (((jshr a1 (2 : Int32)) &&& (48 : Int32)) ||| (a1 &&& (15 : Int32))))) &&& (65535 : Int32)) ≤ (32767 : Int32) then (0 : Int32) else (1 : Int32))))), (6, .int (((if (if (a1 &&& (256 : Int32)) = 0 then (0 : Int32) else (1 : Int32)) = 0 then ((fX5_pair ((24 : Int32) + ((2 : Int32) * ((jshr a1 (4 : Int32)) &&& (3 : Int32)))) u) + (((jshr a1 (2 : Int32)) &&& (48 : Int32)) ||| (a1 &&& (15 : Int32)))) else ((fX5_pair ((24 : Int32) + ((2 : Int32) * ((jshr a1 (4 : Int32)) &&& (3 : Int32)))) u) - (((jshr a1 (2 : Int32)) &&& (48 : Int32)) ||| (a1 &&& (15 : Int32))))) &&& (65535 : Int32)))), (5, .int ((if (a1 &&& (256 : Int32)) = 0 then (0 : Int32) else (1 : Int32)))), (4, .int ((fX5_pair ((24 : Int32) + ((2 : Int32) * ((jshr a1 (4 : Int32)) &&& (3 : Int32)))) u))), (3, .int ((((jshr a1 (2 : Int32)) &&& (48 : Int32)) ||| (a1 &&& (15 : Int32))))), (2, .int (((24 : Int32) + ((2 : Int32) * ((jshr a1 (4 : Int32)) &&& (3 : Int32)))))), (0, .ref (mO h)), (1, .int a1)] rfl ?_
          refine g_aload_n 110 hC dX5_ofPair_110 7 rfl ?_
          refine g_iload_n 111 hC dX5_ofPair_111 6 rfl ?_
          refine g_iload 112 hC dX5_ofPair_112 2 rfl ?_
          refine kX5_setPair 114 hC k1 gX5_ofPair_X5_setPair ⟨Nat.le_of_ble_eq_true rfl, Nat.le_of_ble_eq_true rfl⟩ dX5_ofPair_114 (Nat.le_of_ble_eq_true rfl) ?_
          refine g_aload_n 117 hC dX5_ofPair_117 7 rfl ?_
          refine g_iconst 118 hC (2 : Int32) dX5_ofPair_118 (by decide) ?_
          refine g_iload 119 hC dX5_ofPair_119 2 rfl ?_
          refine g_cut 129 (if ((if (if (a1 &&& (256 : Int32)) = 0 then (0 : Int32) else (1 : Int32)) = 0 then ((fX5_pair ((24 : Int32) + ((2 : Int32) * ((jshr a1 (4 : Int32)) &&& (3 : Int32)))) u) + (((jshr a1 (2 : Int32)) &&& (48 : Int32)) ||| (a1 &&& (15 : Int32)))) else ((fX5_pair ((24 : Int32) + ((2 : Int32) * ((jshr a1 (4 : Int32)) &&& (3 : Int32)))) u) - (((jshr a1 (2 : Int32)) &&& (48 : Int32)) ||| (a1 &&& (15 : Int32))))) &&& (65535 : Int32)) = 0 then (1 : Int32) else (0 : Int32)) [.int ((2 : Int32)), .ref (mO h)] ?_ (fun J12 => ?_)
          · skip
            refine kX5_flag 129 hC gX5_ofPair_X5_flag ⟨Nat.le_of_ble_eq_true rfl, Nat.le_of_ble_eq_true rfl⟩ dX5_ofPair_129 (Nat.le_of_ble_eq_true rfl) ?_
            refine g_aload_n 132 hC dX5_ofPair_132 7 rfl ?_
            refine g_iconst 133 hC (4 : Int32) dX5_ofPair_133 (by decide) ?_
            refine g_iload 134 hC dX5_ofPair_134 2 rfl ?_
            refine g_sipush 136 hC (32767 : Int32) dX5_ofPair_136 (by decide) ?_
            refine g_cut 147 (if ((if (if (a1 &&& (256 : Int32)) = 0 then (0 : Int32) else (1 : Int32)) = 0 then ((fX5_pair ((24 : Int32) + ((2 : Int32) * ((jshr a1 (4 : Int32)) &&& (3 : Int32)))) u) + (((jshr a1 (2 : Int32)) &&& (48 : Int32)) ||| (a1 &&& (15 : Int32)))) else ((fX5_pair ((24 : Int32) + ((2 : Int32) * ((jshr a1 (4 : Int32)) &&& (3 : Int32)))) u) - (((jshr a1 (2 : Int32)) &&& (48 : Int32)) ||| (a1 &&& (15 : Int32))))) &&& (65535 : Int32)) ≤ (32767 : Int32) then (0 : Int32) else (1 : Int32)) [.int ((4 : Int32)), .ref (mO h)] ?_ (fun J14 => ?_)
            · skip
              refine kX5_flag 147 hC gX5_ofPair_X5_flag ⟨Nat.le_of_ble_eq_true rfl, Nat.le_of_ble_eq_true rfl⟩ dX5_ofPair_147 (Nat.le_of_ble_eq_true rfl) ?_
              refine g_aload_n 150 hC dX5_ofPair_150 7 rfl ?_
              refine g_bipush 151 hC (8 : Int32) dX5_ofPair_151 (by decide) ?_
              refine g_iload 153 hC dX5_ofPair_153 3 rfl ?_
              refine g_cut 165 (if (if (a1 &&& (256 : Int32)) = 0 then (0 : Int32) else (1 : Int32)) = 0 then (if (32768 : Int32) ≤ (fX5_pair ((24 : Int32) + ((2 : Int32) * ((jshr a1 (4 : Int32)) &&& (3 : Int32)))) u) then (0 : Int32) else (if ((if (if (a1 &&& (256 : Int32)) = 0 then (0 : Int32) else (1 : Int32)) = 0 then ((fX5_pair ((24 : Int32) + ((2 : Int32) * ((jshr a1 (4 : Int32)) &&& (3 : Int32)))) u) + (((jshr a1 (2 : Int32)) &&& (48 : Int32)) ||| (a1 &&& (15 : Int32)))) else ((fX5_pair ((24 : Int32) + ((2 : Int32) * ((jshr a1 (4 : Int32)) &&& (3 : Int32)))) u) - (((jshr a1 (2 : Int32)) &&& (48 : Int32)) ||| (a1 &&& (15 : Int32))))) &&& (65535 : Int32)) ≤ (32767 : Int32) then (0 : Int32) else (1 : Int32))) else (if (fX5_pair ((24 : Int32) + ((2 : Int32) * ((jshr a1 (4 : Int32)) &&& (3 : Int32)))) u) ≤ (32767 : Int32) then (0 : Int32) else (if (32768 : Int32) ≤ ((if (if (a1 &&& (256 : Int32)) = 0 then (0 : Int32) else (1 : Int32)) = 0 then ((fX5_pair ((24 : Int32) + ((2 : Int32) * ((jshr a1 (4 : Int32)) &&& (3 : Int32)))) u) + (((jshr a1 (2 : Int32)) &&& (48 : Int32)) ||| (a1 &&& (15 : Int32)))) else ((fX5_pair ((24 : Int32) + ((2 : Int32) * ((jshr a1 (4 : Int32)) &&& (3 : Int32)))) u) - (((jshr a1 (2 : Int32)) &&& (48 : Int32)) ||| (a1 &&& (15 : Int32))))) &&& (65535 : Int32)) then (0 : Int32) else (1 : Int32)))) [.int ((8 : Int32)), .ref (mO h)] ?_ (fun J16 => ?_)
              · skip
                refine kX5_flag 165 hC gX5_ofPair_X5_flag ⟨Nat.le_of_ble_eq_true rfl, Nat.le_of_ble_eq_true rfl⟩ dX5_ofPair_165 (Nat.le_of_ble_eq_true rfl) ?_
                refine g_aload_n 168 hC dX5_ofPair_168 7 rfl ?_
                refine g_iconst 169 hC (1 : Int32) dX5_ofPair_169 (by decide) ?_
                refine g_iload 170 hC dX5_ofPair_170 3 rfl ?_
                refine g_cut 182 (if (if (a1 &&& (256 : Int32)) = 0 then (0 : Int32) else (1 : Int32)) = 0 then (if (fX5_pair ((24 : Int32) + ((2 : Int32) * ((jshr a1 (4 : Int32)) &&& (3 : Int32)))) u) ≤ (32767 : Int32) then (0 : Int32) else (if (32768 : Int32) ≤ ((if (if (a1 &&& (256 : Int32)) = 0 then (0 : Int32) else (1 : Int32)) = 0 then ((fX5_pair ((24 : Int32) + ((2 : Int32) * ((jshr a1 (4 : Int32)) &&& (3 : Int32)))) u) + (((jshr a1 (2 : Int32)) &&& (48 : Int32)) ||| (a1 &&& (15 : Int32)))) else ((fX5_pair ((24 : Int32) + ((2 : Int32) * ((jshr a1 (4 : Int32)) &&& (3 : Int32)))) u) - (((jshr a1 (2 : Int32)) &&& (48 : Int32)) ||| (a1 &&& (15 : Int32))))) &&& (65535 : Int32)) then (0 : Int32) else (1 : Int32))) else (if (32768 : Int32) ≤ (fX5_pair ((24 : Int32) + ((2 : Int32) * ((jshr a1 (4 : Int32)) &&& (3 : Int32)))) u) then (0 : Int32) else (if ((if (if (a1 &&& (256 : Int32)) = 0 then (0 : Int32) else (1 : Int32)) = 0 then ((fX5_pair ((24 : Int32) + ((2 : Int32) * ((jshr a1 (4 : Int32)) &&& (3 : Int32)))) u) + (((jshr a1 (2 : Int32)) &&& (48 : Int32)) ||| (a1 &&& (15 : Int32)))) else ((fX5_pair ((24 : Int32) + ((2 : Int32) * ((jshr a1 (4 : Int32)) &&& (3 : Int32)))) u) - (((jshr a1 (2 : Int32)) &&& (48 : Int32)) ||| (a1 &&& (15 : Int32))))) &&& (65535 : Int32)) ≤ (32767 : Int32) then (0 : Int32) else (1 : Int32)))) [.int ((1 : Int32)), .ref (mO h)] ?_ (fun J18 => ?_)
                · skip
                  refine kX5_flag 182 hC gX5_ofPair_X5_flag ⟨Nat.le_of_ble_eq_true rfl, Nat.le_of_ble_eq_true rfl⟩ dX5_ofPair_182 (Nat.le_of_ble_eq_true rfl) ?_
                  refine g_aload_n 185 hC dX5_ofPair_185 7 rfl ?_
                  refine g_bipush 186 hC (16 : Int32) dX5_ofPair_186 (by decide) ?_
                  refine g_iload 188 hC dX5_ofPair_188 2 rfl ?_
                  refine g_sipush 190 hC (32767 : Int32) dX5_ofPair_190 (by decide) ?_
                  refine g_cut 201 (if ((if (if (a1 &&& (256 : Int32)) = 0 then (0 : Int32) else (1 : Int32)) = 0 then ((fX5_pair ((24 : Int32) + ((2 : Int32) * ((jshr a1 (4 : Int32)) &&& (3 : Int32)))) u) + (((jshr a1 (2 : Int32)) &&& (48 : Int32)) ||| (a1 &&& (15 : Int32)))) else ((fX5_pair ((24 : Int32) + ((2 : Int32) * ((jshr a1 (4 : Int32)) &&& (3 : Int32)))) u) - (((jshr a1 (2 : Int32)) &&& (48 : Int32)) ||| (a1 &&& (15 : Int32))))) &&& (65535 : Int32)) ≤ (32767 : Int32) then (0 : Int32) else (1 : Int32)) [.int ((16 : Int32)), .ref (mO h)] ?_ (fun J20 => ?_)
                  · skip
                    refine g_iload 201 hC dX5_ofPair_201 3 rfl ?_
                    refine g_cut 213 (if (if (a1 &&& (256 : Int32)) = 0 then (0 : Int32) else (1 : Int32)) = 0 then (if (32768 : Int32) ≤ (fX5_pair ((24 : Int32) + ((2 : Int32) * ((jshr a1 (4 : Int32)) &&& (3 : Int32)))) u) then (0 : Int32) else (if ((if (if (a1 &&& (256 : Int32)) = 0 then (0 : Int32) else (1 : Int32)) = 0 then ((fX5_pair ((24 : Int32) + ((2 : Int32) * ((jshr a1 (4 : Int32)) &&& (3 : Int32)))) u) + (((jshr a1 (2 : Int32)) &&& (48 : Int32)) ||| (a1 &&& (15 : Int32)))) else ((fX5_pair ((24 : Int32) + ((2 : Int32) * ((jshr a1 (4 : Int32)) &&& (3 : Int32)))) u) - (((jshr a1 (2 : Int32)) &&& (48 : Int32)) ||| (a1 &&& (15 : Int32))))) &&& (65535 : Int32)) ≤ (32767 : Int32) then (0 : Int32) else (1 : Int32))) else (if (fX5_pair ((24 : Int32) + ((2 : Int32) * ((jshr a1 (4 : Int32)) &&& (3 : Int32)))) u) ≤ (32767 : Int32) then (0 : Int32) else (if (32768 : Int32) ≤ ((if (if (a1 &&& (256 : Int32)) = 0 then (0 : Int32) else (1 : Int32)) = 0 then ((fX5_pair ((24 : Int32) + ((2 : Int32) * ((jshr a1 (4 : Int32)) &&& (3 : Int32)))) u) + (((jshr a1 (2 : Int32)) &&& (48 : Int32)) ||| (a1 &&& (15 : Int32)))) else ((fX5_pair ((24 : Int32) + ((2 : Int32) * ((jshr a1 (4 : Int32)) &&& (3 : Int32)))) u) - (((jshr a1 (2 : Int32)) &&& (48 : Int32)) ||| (a1 &&& (15 : Int32))))) &&& (65535 : Int32)) then (0 : Int32) else (1 : Int32)))) [.int ((if ((if (if (a1 &&& (256 : Int32)) = 0 then (0 : Int32) else (1 : Int32)) = 0 then ((fX5_pair ((24 : Int32) + ((2 : Int32) * ((jshr a1 (4 : Int32)) &&& (3 : Int32)))) u) + (((jshr a1 (2 : Int32)) &&& (48 : Int32)) ||| (a1 &&& (15 : Int32)))) else ((fX5_pair ((24 : Int32) + ((2 : Int32) * ((jshr a1 (4 : Int32)) &&& (3 : Int32)))) u) - (((jshr a1 (2 : Int32)) &&& (48 : Int32)) ||| (a1 &&& (15 : Int32))))) &&& (65535 : Int32)) ≤ (32767 : Int32) then (0 : Int32) else (1 : Int32))), .int ((16 : Int32)), .ref (mO h)] ?_ (fun J22 => ?_)
                    · skip
                      refine g_cut 221 (if (if ((if (if (a1 &&& (256 : Int32)) = 0 then (0 : Int32) else (1 : Int32)) = 0 then ((fX5_pair ((24 : Int32) + ((2 : Int32) * ((jshr a1 (4 : Int32)) &&& (3 : Int32)))) u) + (((jshr a1 (2 : Int32)) &&& (48 : Int32)) ||| (a1 &&& (15 : Int32)))) else ((fX5_pair ((24 : Int32) + ((2 : Int32) * ((jshr a1 (4 : Int32)) &&& (3 : Int32)))) u) - (((jshr a1 (2 : Int32)) &&& (48 : Int32)) ||| (a1 &&& (15 : Int32))))) &&& (65535 : Int32)) ≤ (32767 : Int32) then (0 : Int32) else (1 : Int32)) = (if (if (a1 &&& (256 : Int32)) = 0 then (0 : Int32) else (1 : Int32)) = 0 then (if (32768 : Int32) ≤ (fX5_pair ((24 : Int32) + ((2 : Int32) * ((jshr a1 (4 : Int32)) &&& (3 : Int32)))) u) then (0 : Int32) else (if ((if (if (a1 &&& (256 : Int32)) = 0 then (0 : Int32) else (1 : Int32)) = 0 then ((fX5_pair ((24 : Int32) + ((2 : Int32) * ((jshr a1 (4 : Int32)) &&& (3 : Int32)))) u) + (((jshr a1 (2 : Int32)) &&& (48 : Int32)) ||| (a1 &&& (15 : Int32)))) else ((fX5_pair ((24 : Int32) + ((2 : Int32) * ((jshr a1 (4 : Int32)) &&& (3 : Int32)))) u) - (((jshr a1 (2 : Int32)) &&& (48 : Int32)) ||| (a1 &&& (15 : Int32))))) &&& (65535 : Int32)) ≤ (32767 : Int32) then (0 : Int32) else (1 : Int32))) else (if (fX5_pair ((24 : Int32) + ((2 : Int32) * ((jshr a1 (4 : Int32)) &&& (3 : Int32)))) u) ≤ (32767 : Int32) then (0 : Int32) else (if (32768 : Int32) ≤ ((if (if (a1 &&& (256 : Int32)) = 0 then (0 : Int32) else (1 : Int32)) = 0 then ((fX5_pair ((24 : Int32) + ((2 : Int32) * ((jshr a1 (4 : Int32)) &&& (3 : Int32)))) u) + (((jshr a1 (2 : Int32)) &&& (48 : Int32)) ||| (a1 &&& (15 : Int32)))) else ((fX5_pair ((24 : Int32) + ((2 : Int32) * ((jshr a1 (4 : Int32)) &&& (3 : Int32)))) u) - (((jshr a1 (2 : Int32)) &&& (48 : Int32)) ||| (a1 &&& (15 : Int32))))) &&& (65535 : Int32)) then (0 : Int32) else (1 : Int32)))) then (0 : Int32) else (1 : Int32)) [.int ((16 : Int32)), .ref (mO h)] ?_ (fun J24 => ?_)
                      · skip
                        refine kX5_flag 221 hC gX5_ofPair_X5_flag ⟨Nat.le_of_ble_eq_true rfl, Nat.le_of_ble_eq_true rfl⟩ dX5_ofPair_221 (Nat.le_of_ble_eq_true rfl) ?_
                        exact g_vretS 224 hC dX5_ofPair_224
                      · skip
                        refine g_icmp_eq 213 hC 220 dX5_ofPair_213 (by decide) (fun h23 => ?_) (fun h23 => ?_)
                        · skip
                          refine g_iconst 220 hC (0 : Int32) dX5_ofPair_220 (by decide) ?_
                          exact J24 _ (Eq.symm (if_pos h23))
                        · skip
                          refine g_iconst 216 hC (1 : Int32) dX5_ofPair_216 (by decide) ?_
                          refine g_goto 217 hC 221 dX5_ofPair_217 (by decide) ?_
                          exact J24 _ (Eq.symm (if_neg h23))
                    · skip
                      refine g_if_eq 203 hC 211 dX5_ofPair_203 (by decide) (fun h21 => ?_) (fun h21 => ?_)
                      · skip
                        refine g_iload 211 hC dX5_ofPair_211 1 rfl ?_
                        exact J22 _ (Eq.symm (if_pos h21))
                      · skip
                        refine g_iload 206 hC dX5_ofPair_206 0 rfl ?_
                        refine g_goto 208 hC 213 dX5_ofPair_208 (by decide) ?_
                        exact J22 _ (Eq.symm (if_neg h21))
                  · skip
                    refine g_icmp_le 193 hC 200 dX5_ofPair_193 (by decide) (fun h19 => ?_) (fun h19 => ?_)
                    · skip
                      refine g_iconst 200 hC (0 : Int32) dX5_ofPair_200 (by decide) ?_
                      exact J20 _ (Eq.symm (if_pos h19))
                    · skip
                      refine g_iconst 196 hC (1 : Int32) dX5_ofPair_196 (by decide) ?_
                      refine g_goto 197 hC 201 dX5_ofPair_197 (by decide) ?_
                      exact J20 _ (Eq.symm (if_neg h19))
                · skip
                  refine g_if_eq 172 hC 180 dX5_ofPair_172 (by decide) (fun h17 => ?_) (fun h17 => ?_)
                  · skip
                    refine g_iload 180 hC dX5_ofPair_180 0 rfl ?_
                    exact J18 _ (Eq.symm (if_pos h17))
                  · skip
                    refine g_iload 175 hC dX5_ofPair_175 1 rfl ?_
                    refine g_goto 177 hC 182 dX5_ofPair_177 (by decide) ?_
                    exact J18 _ (Eq.symm (if_neg h17))
              · skip
                refine g_if_eq 155 hC 163 dX5_ofPair_155 (by decide) (fun h15 => ?_) (fun h15 => ?_)
                · skip
                  refine g_iload 163 hC dX5_ofPair_163 1 rfl ?_
                  exact J16 _ (Eq.symm (if_pos h15))
                · skip
                  refine g_iload 158 hC dX5_ofPair_158 0 rfl ?_
                  refine g_goto 160 hC 165 dX5_ofPair_160 (by decide) ?_
                  exact J16 _ (Eq.symm (if_neg h15))
            · skip
              refine g_icmp_le 139 hC 146 dX5_ofPair_139 (by decide) (fun h13 => ?_) (fun h13 => ?_)
              · skip
                refine g_iconst 146 hC (0 : Int32) dX5_ofPair_146 (by decide) ?_
                exact J14 _ (Eq.symm (if_pos h13))
              · skip
                refine g_iconst 142 hC (1 : Int32) dX5_ofPair_142 (by decide) ?_
                refine g_goto 143 hC 147 dX5_ofPair_143 (by decide) ?_
                exact J14 _ (Eq.symm (if_neg h13))
          · skip
            refine g_if_ne 121 hC 128 dX5_ofPair_121 (by decide) (fun h11 => ?_) (fun h11 => ?_)
            · skip
              refine g_iconst 128 hC (0 : Int32) dX5_ofPair_128 (by decide) ?_
              exact J12 _ (Eq.symm (if_neg h11))
            · skip
              refine g_iconst 124 hC (1 : Int32) dX5_ofPair_124 (by decide) ?_
              refine g_goto 125 hC 129 dX5_ofPair_125 (by decide) ?_
              exact J12 _ (Eq.symm (if_pos h11))
        · skip
          refine g_icmp_le 93 hC 107 dX5_ofPair_93 (by decide) (fun h8 => ?_) (fun h8 => ?_)
          · skip
            refine g_iconst 107 hC (0 : Int32) dX5_ofPair_107 (by decide) ?_
            exact J10 _ (Eq.symm (if_pos h8))
          · skip
            refine g_iload 96 hC dX5_ofPair_96 1 rfl ?_
            refine g_ldc 98 hC (32768 : Int32) dX5_ofPair_98 cmX5_ofPair_120 ?_
            refine g_icmp_ge 100 hC 107 dX5_ofPair_100 (by decide) (fun h9 => ?_) (fun h9 => ?_)
            · skip
              refine g_iconst 107 hC (0 : Int32) dX5_ofPair_107 (by decide) ?_
              exact J10 _ (Eq.symm (Eq.trans (if_neg h8) (if_pos h9)))
            · skip
              refine g_iconst 103 hC (1 : Int32) dX5_ofPair_103 (by decide) ?_
              refine g_goto 104 hC 108 dX5_ofPair_104 (by decide) ?_
              exact J10 _ (Eq.symm (Eq.trans (if_neg h8) (if_neg h9)))
      · skip
        refine g_icmp_ge 70 hC 85 dX5_ofPair_70 (by decide) (fun h5 => ?_) (fun h5 => ?_)
        · skip
          refine g_iconst 85 hC (0 : Int32) dX5_ofPair_85 (by decide) ?_
          exact J7 _ (Eq.symm (if_pos h5))
        · skip
          refine g_iload 73 hC dX5_ofPair_73 0 rfl ?_
          refine g_sipush 75 hC (32767 : Int32) dX5_ofPair_75 (by decide) ?_
          refine g_icmp_le 78 hC 85 dX5_ofPair_78 (by decide) (fun h6 => ?_) (fun h6 => ?_)
          · skip
            refine g_iconst 85 hC (0 : Int32) dX5_ofPair_85 (by decide) ?_
            exact J7 _ (Eq.symm (Eq.trans (if_neg h5) (if_pos h6)))
          · skip
            refine g_iconst 81 hC (1 : Int32) dX5_ofPair_81 (by decide) ?_
            refine g_goto 82 hC 86 dX5_ofPair_82 (by decide) ?_
            exact J7 _ (Eq.symm (Eq.trans (if_neg h5) (if_neg h6)))
    · skip
      refine g_if_eq 47 hC 57 dX5_ofPair_47 (by decide) (fun h3 => ?_) (fun h3 => ?_)
      · skip
        refine g_iload 57 hC dX5_ofPair_57 1 rfl ?_
        refine g_iload_n 59 hC dX5_ofPair_59 2 rfl ?_
        refine g_iadd 60 hC dX5_ofPair_60 ?_
        exact J4 _ (Eq.symm (if_pos h3))
      · skip
        refine g_iload 50 hC dX5_ofPair_50 1 rfl ?_
        refine g_iload_n 52 hC dX5_ofPair_52 2 rfl ?_
        refine g_isub 53 hC dX5_ofPair_53 ?_
        refine g_goto 54 hC 61 dX5_ofPair_54 (by decide) ?_
        exact J4 _ (Eq.symm (if_neg h3))
  · skip
    refine g_if_eq 35 hC 42 dX5_ofPair_35 (by decide) (fun h1 => ?_) (fun h1 => ?_)
    · skip
      refine g_iconst 42 hC (0 : Int32) dX5_ofPair_42 (by decide) ?_
      exact J2 _ (Eq.symm (if_pos h1))
    · skip
      refine g_iconst 38 hC (1 : Int32) dX5_ofPair_38 (by decide) ?_
      refine g_goto 39 hC 43 dX5_ofPair_39 (by decide) ?_
      exact J2 _ (Eq.symm (if_neg h1))
theorem kX5_ofPair {K : KT} {h : HM} {cc : ByteArray} {nL : Nat} {own : String} {Ts : List Cond} {rm : Room} {ret : Option FieldType} {T : ST × Option Value} {u : ST} {lv : List (Nat × Value)} {rest : List Value} {idx : Nat} {a1 : Int32} (pc : Nat) (hC : Cx K (EM h) cc nL own Ts rm ret) (hok : okX5_ofPair a1 u) (hT : GoodIn Ts (wsV own idx RX5 yX5_ofPair wsX5_ofPair)) (hR : rmX5_ofPair.frames + 1 ≤ rm.frames ∧ 8 + (9 + 11) + rmX5_ofPair.locals ≤ rm.locals) (hdg : decode cc pc = .ok (.invokevirtual idx, 3)) (hcat : (rest.map fun v => v.category).sum ≤ 8) (kk : G K (EM h) nL T (fX5_ofPair a1 u) (pc + 3) lv (rest)) : G K (EM h) nL T u pc lv (.int a1 :: .ref (mO h) :: rest) := g_callV (n := 1) pc hC (As := [.int a1]) (rest := rest) (cX5_ofPair_ _ (Cx.ok hC) a1 u hok) hT rfl rfl rfl (by decide +kernel) hR 0 3 rfl rfl rfl rfl rfl hcat hdg kk

def fX5_isFar (a0 : Int32) : Int32 :=
  (if a0 ≤ (1023 : Int32) then (0 : Int32) else (1 : Int32))
theorem boX5_isFar (a0 : Int32) : isB (fX5_isFar a0) := by
  unfold fX5_isFar
  repeat' split
  all_goals first | exact nb0 | exact nb1
abbrev rmX5_isFar : Room := { frames := 0, cells := 0, slots := 0, locals := 0 }
set_option maxRecDepth 20000 in
theorem cX5_isFar_ (E : EV) (hE : okE E) (a0 : Int32) (u : ST) : MX E yX5_isFar wsX5_isFar rmX5_isFar [.int a0] u (tR u (fX5_isFar a0)) := by
  refine MX.of (cc := cX5_isFar) (maxL := 1) (ret := (some .boolean)) (lv := [(0, .int a0)]) hE (by decide) rfl (fun _ => rfl) (Nat.le_of_ble_eq_true rfl) rfl (fun K hC => ?_)
  unfold fX5_isFar
  refine g_iload_n 0 hC dX5_isFar_0 0 rfl ?_
  refine g_sipush 1 hC (1023 : Int32) dX5_isFar_1 (by decide) ?_
  refine g_cut 12 (if a0 ≤ (1023 : Int32) then (0 : Int32) else (1 : Int32)) [] ?_ (fun J2 => ?_)
  · skip
    exact g_zretR 12 hC (nbI nb0 nb1) dX5_isFar_12
  · skip
    refine g_icmp_le 4 hC 11 dX5_isFar_4 (by decide) (fun h1 => ?_) (fun h1 => ?_)
    · skip
      refine g_iconst 11 hC (0 : Int32) dX5_isFar_11 (by decide) ?_
      exact J2 _ (Eq.symm (if_pos h1))
    · skip
      refine g_iconst 7 hC (1 : Int32) dX5_isFar_7 (by decide) ?_
      refine g_goto 8 hC 12 dX5_isFar_8 (by decide) ?_
      exact J2 _ (Eq.symm (if_neg h1))
theorem kX5_isFar {K : KT} {E : EV} {cc : ByteArray} {nL : Nat} {own : String} {Ts : List Cond} {rm : Room} {ret : Option FieldType} {T : ST × Option Value} {u : ST} {lv : List (Nat × Value)} {rest : List Value} {idx : Nat} {a0 : Int32} (pc : Nat) (hC : Cx K E cc nL own Ts rm ret) (hT : GoodIn Ts (va_wsS own idx yX5_isFar wsX5_isFar)) (hR : rmX5_isFar.frames + 1 ≤ rm.frames ∧ 8 + (1 + 11) + rmX5_isFar.locals ≤ rm.locals) (hdg : decode cc pc = .ok (.invokestatic idx, 3)) (hcat : (rest.map fun v => v.category).sum ≤ 8) (kk : G K E nL T u (pc + 3) lv (.int (fX5_isFar a0) :: rest)) : G K E nL T u pc lv (.int a0 :: rest) := g_callS (n := 1) pc hC (As := [.int a0]) (rest := rest) (cX5_isFar_ _ (Cx.ok hC) a0 u) hT rfl rfl rfl (by decide +kernel) hR rfl rfl hcat hdg kk

def fX5_pushes (a1 : Int32) (u : ST) : ST :=
  (fX5_setPair (93 : Int32) (((fX5_pair (93 : Int32) u) - (1 : Int32)) &&& (65535 : Int32)) (wD u (fX5_pair (93 : Int32) u) a1))
def okX5_pushes (a1 : Int32) (u : ST) : Prop := (okX5_pair (93 : Int32) u) ∧ (vp_in (fX5_pair (93 : Int32) u) 1024) ∧ (okX5_setPair (93 : Int32) (((fX5_pair (93 : Int32) u) - (1 : Int32)) &&& (65535 : Int32)) (wD u (fX5_pair (93 : Int32) u) a1)) ∧ True
theorem fiX5_pushes_wsX50 : ∀ w ∈ wsX50, w ∈ wsX5_pushes := fun w h => List.mem_cons_of_mem _ (List.mem_append_right _ h)
theorem fmX5_pushes_13 : Cond.fieldLink RX5 13 "FlagCoreModel" "data" "[I" ∈ wsX5_pushes := List.mem_of_getElem? (i := 1) rfl
theorem cmX5_pushes_27 : Jvm.Cond.constant RX5 27 (65535 : Int32) ∈ wsX5_pushes := List.mem_of_getElem? (i := 2) rfl
abbrev rmX5_pushes : Room := { frames := 1, cells := 0, slots := 0, locals := 22 }
set_option maxRecDepth 20000 in
theorem cX5_pushes_ (h : HM) (hE : okE (EM h)) (a1 : Int32) (u : ST) (hok : okX5_pushes a1 u) : MX (EM h) yX5_pushes wsX5_pushes rmX5_pushes [.ref (mO h), .int a1] u (tS (fX5_pushes a1 u)) := by
  obtain ⟨k0, k1, k2, -⟩ := hok
  refine MX.of (cc := cX5_pushes) (maxL := 3) (ret := none) (lv := [(0, .ref (mO h)), (1, .int a1)]) hE (by decide) rfl (fun _ => rfl) (Nat.le_of_ble_eq_true rfl) rfl (fun K hC => ?_)
  unfold fX5_pushes
  refine g_aload_n 0 hC dX5_pushes_0 0 rfl ?_
  refine g_bipush 1 hC (93 : Int32) dX5_pushes_1 (by decide) ?_
  refine kX5_pair 3 hC k0 gX5_pushes_X5_pair ⟨Nat.le_of_ble_eq_true rfl, Nat.le_of_ble_eq_true rfl⟩ dX5_pushes_3 (Nat.le_of_ble_eq_true rfl) ?_
  refine g_istore_n 6 hC dX5_pushes_6 (by decide) [(2, .int ((fX5_pair (93 : Int32) u))), (0, .ref (mO h)), (1, .int a1)] rfl ?_
  refine g_aload_n 7 hC dX5_pushes_7 1 rfl ?_
  refine m_get_data 8 hC fiX5_pushes_wsX50 fmX5_pushes_13 dX5_pushes_8 ?_
  refine g_iload_n 11 hC dX5_pushes_11 0 rfl ?_
  refine g_iload_n 12 hC dX5_pushes_12 2 rfl ?_
  refine m_stD 13 hC k1 dX5_pushes_13 ?_
  refine g_aload_n 14 hC dX5_pushes_14 1 rfl ?_
  refine g_bipush 15 hC (93 : Int32) dX5_pushes_15 (by decide) ?_
  refine g_iload_n 17 hC dX5_pushes_17 0 rfl ?_
  refine g_iconst 18 hC (1 : Int32) dX5_pushes_18 (by decide) ?_
  refine g_isub 19 hC dX5_pushes_19 ?_
  refine g_ldc 20 hC (65535 : Int32) dX5_pushes_20 cmX5_pushes_27 ?_
  refine g_iand 22 hC dX5_pushes_22 ?_
  refine kX5_setPair 23 hC k2 gX5_pushes_X5_setPair ⟨Nat.le_of_ble_eq_true rfl, Nat.le_of_ble_eq_true rfl⟩ dX5_pushes_23 (Nat.le_of_ble_eq_true rfl) ?_
  exact g_vretS 26 hC dX5_pushes_26
theorem kX5_pushes {K : KT} {h : HM} {cc : ByteArray} {nL : Nat} {own : String} {Ts : List Cond} {rm : Room} {ret : Option FieldType} {T : ST × Option Value} {u : ST} {lv : List (Nat × Value)} {rest : List Value} {idx : Nat} {a1 : Int32} (pc : Nat) (hC : Cx K (EM h) cc nL own Ts rm ret) (hok : okX5_pushes a1 u) (hT : GoodIn Ts (wsV own idx RX5 yX5_pushes wsX5_pushes)) (hR : rmX5_pushes.frames + 1 ≤ rm.frames ∧ 8 + (3 + 11) + rmX5_pushes.locals ≤ rm.locals) (hdg : decode cc pc = .ok (.invokevirtual idx, 3)) (hcat : (rest.map fun v => v.category).sum ≤ 8) (kk : G K (EM h) nL T (fX5_pushes a1 u) (pc + 3) lv (rest)) : G K (EM h) nL T u pc lv (.int a1 :: .ref (mO h) :: rest) := g_callV (n := 1) pc hC (As := [.int a1]) (rest := rest) (cX5_pushes_ _ (Cx.ok hC) a1 u hok) hT rfl rfl rfl (by decide +kernel) hR 0 3 rfl rfl rfl rfl rfl hcat hdg kk

def fX5_pops (u : ST) : ST × Int32 :=
  ((fX5_setPair (93 : Int32) (((fX5_pair (93 : Int32) u) + (1 : Int32)) &&& (65535 : Int32)) u), (rD (fX5_setPair (93 : Int32) (((fX5_pair (93 : Int32) u) + (1 : Int32)) &&& (65535 : Int32)) u) (((fX5_pair (93 : Int32) u) + (1 : Int32)) &&& (65535 : Int32))))
def okX5_pops (u : ST) : Prop := (okX5_pair (93 : Int32) u) ∧ (okX5_setPair (93 : Int32) (((fX5_pair (93 : Int32) u) + (1 : Int32)) &&& (65535 : Int32)) u) ∧ (vp_in (((fX5_pair (93 : Int32) u) + (1 : Int32)) &&& (65535 : Int32)) 1024) ∧ True
theorem cmX5_pops_27 : Jvm.Cond.constant RX5 27 (65535 : Int32) ∈ wsX5_pops := List.mem_of_getElem? (i := 1) rfl
theorem fiX5_pops_wsX50 : ∀ w ∈ wsX50, w ∈ wsX5_pops := fun w h => List.mem_cons_of_mem _ (List.mem_append_right _ h)
theorem fmX5_pops_13 : Cond.fieldLink RX5 13 "FlagCoreModel" "data" "[I" ∈ wsX5_pops := List.mem_of_getElem? (i := 2) rfl
abbrev rmX5_pops : Room := { frames := 1, cells := 0, slots := 0, locals := 22 }
set_option maxRecDepth 20000 in
theorem cX5_pops_ (h : HM) (hE : okE (EM h)) (u : ST) (hok : okX5_pops u) : MX (EM h) yX5_pops wsX5_pops rmX5_pops [.ref (mO h)] u (tW (fX5_pops u)) := by
  obtain ⟨k0, k1, k2, -⟩ := hok
  refine MX.of (cc := cX5_pops) (maxL := 2) (ret := (some .int)) (lv := [(0, .ref (mO h))]) hE (by decide) rfl (fun _ => rfl) (Nat.le_of_ble_eq_true rfl) rfl (fun K hC => ?_)
  unfold fX5_pops
  refine g_aload_n 0 hC dX5_pops_0 0 rfl ?_
  refine g_bipush 1 hC (93 : Int32) dX5_pops_1 (by decide) ?_
  refine kX5_pair 3 hC k0 gX5_pops_X5_pair ⟨Nat.le_of_ble_eq_true rfl, Nat.le_of_ble_eq_true rfl⟩ dX5_pops_3 (Nat.le_of_ble_eq_true rfl) ?_
  refine g_iconst 6 hC (1 : Int32) dX5_pops_6 (by decide) ?_
  refine g_iadd 7 hC dX5_pops_7 ?_
  refine g_ldc 8 hC (65535 : Int32) dX5_pops_8 cmX5_pops_27 ?_
  refine g_iand 10 hC dX5_pops_10 ?_
  refine g_istore_n 11 hC dX5_pops_11 (by decide) [(1, .int ((((fX5_pair (93 : Int32) u) + (1 : Int32)) &&& (65535 : Int32)))), (0, .ref (mO h))] rfl ?_
  refine g_aload_n 12 hC dX5_pops_12 1 rfl ?_
  refine g_bipush 13 hC (93 : Int32) dX5_pops_13 (by decide) ?_
  refine g_iload_n 15 hC dX5_pops_15 0 rfl ?_
  refine kX5_setPair 16 hC k1 gX5_pops_X5_setPair ⟨Nat.le_of_ble_eq_true rfl, Nat.le_of_ble_eq_true rfl⟩ dX5_pops_16 (Nat.le_of_ble_eq_true rfl) ?_
  refine g_aload_n 19 hC dX5_pops_19 1 rfl ?_
  refine m_get_data 20 hC fiX5_pops_wsX50 fmX5_pops_13 dX5_pops_20 ?_
  refine g_iload_n 23 hC dX5_pops_23 0 rfl ?_
  refine m_ldD 24 hC k2 dX5_pops_24 ?_
  exact g_iretW 25 hC dX5_pops_25
theorem kX5_pops {K : KT} {h : HM} {cc : ByteArray} {nL : Nat} {own : String} {Ts : List Cond} {rm : Room} {ret : Option FieldType} {T : ST × Option Value} {u : ST} {lv : List (Nat × Value)} {rest : List Value} {idx : Nat} (pc : Nat) (hC : Cx K (EM h) cc nL own Ts rm ret) (hok : okX5_pops u) (hT : GoodIn Ts (wsV own idx RX5 yX5_pops wsX5_pops)) (hR : rmX5_pops.frames + 1 ≤ rm.frames ∧ 8 + (2 + 11) + rmX5_pops.locals ≤ rm.locals) (hdg : decode cc pc = .ok (.invokevirtual idx, 3)) (hcat : (rest.map fun v => v.category).sum ≤ 8) (kk : G K (EM h) nL T (fX5_pops u).1 (pc + 3) lv (.int (fX5_pops u).2 :: rest)) : G K (EM h) nL T u pc lv (.ref (mO h) :: rest) := g_callV (n := 0) pc hC (As := []) (rest := rest) (cX5_pops_ _ (Cx.ok hC) u hok) hT rfl rfl rfl (by decide +kernel) hR 0 3 rfl rfl rfl rfl rfl hcat hdg kk

def fX5_canCall (u : ST) : Int32 :=
  (if (fX5_isFar (fX5_pair (93 : Int32) u)) = 0 then (if (fX5_isFar (((fX5_pair (93 : Int32) u) - (1 : Int32)) &&& (65535 : Int32))) = 0 then (1 : Int32) else (0 : Int32)) else (0 : Int32))
theorem boX5_canCall (u : ST) : isB (fX5_canCall u) := by
  unfold fX5_canCall
  repeat' split
  all_goals first | exact nb0 | exact nb1 | exact boX5_isFar _
def okX5_canCall (u : ST) : Prop := (okX5_pair (93 : Int32) u) ∧ True
theorem cmX5_canCall_27 : Jvm.Cond.constant RX5 27 (65535 : Int32) ∈ wsX5_canCall := List.mem_of_getElem? (i := 1) rfl
abbrev rmX5_canCall : Room := { frames := 1, cells := 0, slots := 0, locals := 21 }
set_option maxRecDepth 20000 in
theorem cX5_canCall_ (h : HM) (hE : okE (EM h)) (u : ST) (hok : okX5_canCall u) : MX (EM h) yX5_canCall wsX5_canCall rmX5_canCall [.ref (mO h)] u (tR u (fX5_canCall u)) := by
  obtain ⟨k0, -⟩ := hok
  refine MX.of (cc := cX5_canCall) (maxL := 2) (ret := (some .boolean)) (lv := [(0, .ref (mO h))]) hE (by decide) rfl (fun _ => rfl) (Nat.le_of_ble_eq_true rfl) rfl (fun K hC => ?_)
  unfold fX5_canCall
  refine g_aload_n 0 hC dX5_canCall_0 0 rfl ?_
  refine g_bipush 1 hC (93 : Int32) dX5_canCall_1 (by decide) ?_
  refine kX5_pair 3 hC k0 gX5_canCall_X5_pair ⟨Nat.le_of_ble_eq_true rfl, Nat.le_of_ble_eq_true rfl⟩ dX5_canCall_3 (Nat.le_of_ble_eq_true rfl) ?_
  refine g_istore_n 6 hC dX5_canCall_6 (by decide) [(1, .int ((fX5_pair (93 : Int32) u))), (0, .ref (mO h))] rfl ?_
  refine g_iload_n 7 hC dX5_canCall_7 0 rfl ?_
  refine kX5_isFar 8 hC gX5_canCall_X5_isFar ⟨Nat.le_of_ble_eq_true rfl, Nat.le_of_ble_eq_true rfl⟩ dX5_canCall_8 (Nat.le_of_ble_eq_true rfl) ?_
  refine g_cut 31 (if (fX5_isFar (fX5_pair (93 : Int32) u)) = 0 then (if (fX5_isFar (((fX5_pair (93 : Int32) u) - (1 : Int32)) &&& (65535 : Int32))) = 0 then (1 : Int32) else (0 : Int32)) else (0 : Int32)) [] ?_ (fun J3 => ?_)
  · skip
    exact g_zretR 31 hC (nbI (nbI nb1 nb0) nb0) dX5_canCall_31
  · skip
    refine g_if_ne 11 hC 30 dX5_canCall_11 (by decide) (fun h1 => ?_) (fun h1 => ?_)
    · skip
      refine g_iconst 30 hC (0 : Int32) dX5_canCall_30 (by decide) ?_
      exact J3 _ (Eq.symm (if_neg h1))
    · skip
      refine g_iload_n 14 hC dX5_canCall_14 0 rfl ?_
      refine g_iconst 15 hC (1 : Int32) dX5_canCall_15 (by decide) ?_
      refine g_isub 16 hC dX5_canCall_16 ?_
      refine g_ldc 17 hC (65535 : Int32) dX5_canCall_17 cmX5_canCall_27 ?_
      refine g_iand 19 hC dX5_canCall_19 ?_
      refine kX5_isFar 20 hC gX5_canCall_X5_isFar ⟨Nat.le_of_ble_eq_true rfl, Nat.le_of_ble_eq_true rfl⟩ dX5_canCall_20 (Nat.le_of_ble_eq_true rfl) ?_
      refine g_if_ne 23 hC 30 dX5_canCall_23 (by decide) (fun h2 => ?_) (fun h2 => ?_)
      · skip
        refine g_iconst 30 hC (0 : Int32) dX5_canCall_30 (by decide) ?_
        exact J3 _ (Eq.symm (Eq.trans (if_pos h1) (if_neg h2)))
      · skip
        refine g_iconst 26 hC (1 : Int32) dX5_canCall_26 (by decide) ?_
        refine g_goto 27 hC 31 dX5_canCall_27 (by decide) ?_
        exact J3 _ (Eq.symm (Eq.trans (if_pos h1) (if_pos h2)))
theorem kX5_canCall {K : KT} {h : HM} {cc : ByteArray} {nL : Nat} {own : String} {Ts : List Cond} {rm : Room} {ret : Option FieldType} {T : ST × Option Value} {u : ST} {lv : List (Nat × Value)} {rest : List Value} {idx : Nat} (pc : Nat) (hC : Cx K (EM h) cc nL own Ts rm ret) (hok : okX5_canCall u) (hT : GoodIn Ts (wsV own idx RX5 yX5_canCall wsX5_canCall)) (hR : rmX5_canCall.frames + 1 ≤ rm.frames ∧ 8 + (2 + 11) + rmX5_canCall.locals ≤ rm.locals) (hdg : decode cc pc = .ok (.invokevirtual idx, 3)) (hcat : (rest.map fun v => v.category).sum ≤ 8) (kk : G K (EM h) nL T u (pc + 3) lv (.int (fX5_canCall u) :: rest)) : G K (EM h) nL T u pc lv (.ref (mO h) :: rest) := g_callV (n := 0) pc hC (As := []) (rest := rest) (cX5_canCall_ _ (Cx.ok hC) u hok) hT rfl rfl rfl (by decide +kernel) hR 0 3 rfl rfl rfl rfl rfl hcat hdg kk

def fX5_calls (a1 : Int32) (a2 : Int32) (u : ST) : ST :=
  (sNx (fX5_pushes (jshr a1 (8 : Int32)) (fX5_pushes (a1 &&& (255 : Int32)) u)) (a2 &&& (1023 : Int32)))
def okX5_calls (a1 : Int32) (a2 : Int32) (u : ST) : Prop := (okX5_pushes (a1 &&& (255 : Int32)) u) ∧ (okX5_pushes (jshr a1 (8 : Int32)) (fX5_pushes (a1 &&& (255 : Int32)) u)) ∧ True
theorem fiX5_calls_wsX50 : ∀ w ∈ wsX50, w ∈ wsX5_calls := fun w h => List.mem_cons_of_mem _ (List.mem_append_right _ h)
theorem fmX5_calls_84 : Cond.fieldLink RX5 84 "FlagCoreModel" "next" "I" ∈ wsX5_calls := List.mem_of_getElem? (i := 1) rfl
abbrev rmX5_calls : Room := { frames := 2, cells := 0, slots := 0, locals := 44 }
set_option maxRecDepth 20000 in
theorem cX5_calls_ (h : HM) (hE : okE (EM h)) (a1 : Int32) (a2 : Int32) (u : ST) (hok : okX5_calls a1 a2 u) : MX (EM h) yX5_calls wsX5_calls rmX5_calls [.ref (mO h), .int a1, .int a2] u (tS (fX5_calls a1 a2 u)) := by
  obtain ⟨k0, k1, -⟩ := hok
  refine MX.of (cc := cX5_calls) (maxL := 3) (ret := none) (lv := [(0, .ref (mO h)), (1, .int a1), (2, .int a2)]) hE (by decide) rfl (fun _ => rfl) (Nat.le_of_ble_eq_true rfl) rfl (fun K hC => ?_)
  unfold fX5_calls
  refine g_aload_n 0 hC dX5_calls_0 0 rfl ?_
  refine g_iload_n 1 hC dX5_calls_1 1 rfl ?_
  refine g_sipush 2 hC (255 : Int32) dX5_calls_2 (by decide) ?_
  refine g_iand 5 hC dX5_calls_5 ?_
  refine kX5_pushes 6 hC k0 gX5_calls_X5_pushes ⟨Nat.le_of_ble_eq_true rfl, Nat.le_of_ble_eq_true rfl⟩ dX5_calls_6 (Nat.le_of_ble_eq_true rfl) ?_
  refine g_aload_n 9 hC dX5_calls_9 0 rfl ?_
  refine g_iload_n 10 hC dX5_calls_10 1 rfl ?_
  refine g_bipush 11 hC (8 : Int32) dX5_calls_11 (by decide) ?_
  refine g_ishr 13 hC dX5_calls_13 ?_
  refine kX5_pushes 14 hC k1 gX5_calls_X5_pushes ⟨Nat.le_of_ble_eq_true rfl, Nat.le_of_ble_eq_true rfl⟩ dX5_calls_14 (Nat.le_of_ble_eq_true rfl) ?_
  refine g_aload_n 17 hC dX5_calls_17 0 rfl ?_
  refine g_iload_n 18 hC dX5_calls_18 2 rfl ?_
  refine g_sipush 19 hC (1023 : Int32) dX5_calls_19 (by decide) ?_
  refine g_iand 22 hC dX5_calls_22 ?_
  refine m_put_next 23 hC fiX5_calls_wsX50 fmX5_calls_84 dX5_calls_23 ?_
  exact g_vretS 26 hC dX5_calls_26
theorem kX5_calls {K : KT} {h : HM} {cc : ByteArray} {nL : Nat} {own : String} {Ts : List Cond} {rm : Room} {ret : Option FieldType} {T : ST × Option Value} {u : ST} {lv : List (Nat × Value)} {rest : List Value} {idx : Nat} {a1 : Int32} {a2 : Int32} (pc : Nat) (hC : Cx K (EM h) cc nL own Ts rm ret) (hok : okX5_calls a1 a2 u) (hT : GoodIn Ts (wsV own idx RX5 yX5_calls wsX5_calls)) (hR : rmX5_calls.frames + 1 ≤ rm.frames ∧ 8 + (3 + 11) + rmX5_calls.locals ≤ rm.locals) (hdg : decode cc pc = .ok (.invokevirtual idx, 3)) (hcat : (rest.map fun v => v.category).sum ≤ 8) (kk : G K (EM h) nL T (fX5_calls a1 a2 u) (pc + 3) lv (rest)) : G K (EM h) nL T u pc lv (.int a2 :: .int a1 :: .ref (mO h) :: rest) := g_callV (n := 2) pc hC (As := [.int a1, .int a2]) (rest := rest) (cX5_calls_ _ (Cx.ok hC) a1 a2 u hok) hT rfl rfl rfl (by decide +kernel) hR 0 3 rfl rfl rfl rfl rfl hcat hdg kk

def fX5_codeByte (a1 : Int32) (u : ST) : Int32 :=
  (if (a1 &&& (1 : Int32)) = 0 then ((rC u ((jshr a1 (1 : Int32)) &&& (1023 : Int32))) &&& (255 : Int32)) else (jshr (rC u ((jshr a1 (1 : Int32)) &&& (1023 : Int32))) (8 : Int32)))
theorem fiX5_codeByte_wsX50 : ∀ w ∈ wsX50, w ∈ wsX5_codeByte := fun w h => List.mem_cons_of_mem _ (List.mem_append_right _ h)
theorem fmX5_codeByte_7 : Cond.fieldLink RX5 7 "FlagCoreModel" "code" "[I" ∈ wsX5_codeByte := List.mem_of_getElem? (i := 1) rfl
abbrev rmX5_codeByte : Room := { frames := 0, cells := 0, slots := 0, locals := 0 }
set_option maxRecDepth 20000 in
theorem cX5_codeByte_ (h : HM) (hE : okE (EM h)) (a1 : Int32) (u : ST) : MX (EM h) yX5_codeByte wsX5_codeByte rmX5_codeByte [.ref (mO h), .int a1] u (tR u (fX5_codeByte a1 u)) := by
  refine MX.of (cc := cX5_codeByte) (maxL := 3) (ret := (some .int)) (lv := [(0, .ref (mO h)), (1, .int a1)]) hE (by decide) rfl (fun _ => rfl) (Nat.le_of_ble_eq_true rfl) rfl (fun K hC => ?_)
  unfold fX5_codeByte
  refine g_aload_n 0 hC dX5_codeByte_0 0 rfl ?_
  refine m_get_code 1 hC fiX5_codeByte_wsX50 fmX5_codeByte_7 dX5_codeByte_1 ?_
  refine g_iload_n 4 hC dX5_codeByte_4 1 rfl ?_
  refine g_iconst 5 hC (1 : Int32) dX5_codeByte_5 (by decide) ?_
  refine g_ishr 6 hC dX5_codeByte_6 ?_
  refine g_sipush 7 hC (1023 : Int32) dX5_codeByte_7 (by decide) ?_
  refine g_iand 10 hC dX5_codeByte_10 ?_
  refine m_ldC 11 hC (vin_1023 _) dX5_codeByte_11 ?_
  refine g_istore_n 12 hC dX5_codeByte_12 (by decide) [(2, .int ((rC u ((jshr a1 (1 : Int32)) &&& (1023 : Int32))))), (0, .ref (mO h)), (1, .int a1)] rfl ?_
  refine g_iload_n 13 hC dX5_codeByte_13 2 rfl ?_
  refine g_iconst 14 hC (1 : Int32) dX5_codeByte_14 (by decide) ?_
  refine g_iand 15 hC dX5_codeByte_15 ?_
  refine g_cut 31 (if (a1 &&& (1 : Int32)) = 0 then ((rC u ((jshr a1 (1 : Int32)) &&& (1023 : Int32))) &&& (255 : Int32)) else (jshr (rC u ((jshr a1 (1 : Int32)) &&& (1023 : Int32))) (8 : Int32))) [] ?_ (fun J2 => ?_)
  · skip
    exact g_iretR 31 hC dX5_codeByte_31
  · skip
    refine g_if_ne 16 hC 27 dX5_codeByte_16 (by decide) (fun h1 => ?_) (fun h1 => ?_)
    · skip
      refine g_iload_n 27 hC dX5_codeByte_27 0 rfl ?_
      refine g_bipush 28 hC (8 : Int32) dX5_codeByte_28 (by decide) ?_
      refine g_ishr 30 hC dX5_codeByte_30 ?_
      exact J2 _ (Eq.symm (if_neg h1))
    · skip
      refine g_iload_n 19 hC dX5_codeByte_19 0 rfl ?_
      refine g_sipush 20 hC (255 : Int32) dX5_codeByte_20 (by decide) ?_
      refine g_iand 23 hC dX5_codeByte_23 ?_
      refine g_goto 24 hC 31 dX5_codeByte_24 (by decide) ?_
      exact J2 _ (Eq.symm (if_pos h1))
theorem kX5_codeByte {K : KT} {h : HM} {cc : ByteArray} {nL : Nat} {own : String} {Ts : List Cond} {rm : Room} {ret : Option FieldType} {T : ST × Option Value} {u : ST} {lv : List (Nat × Value)} {rest : List Value} {idx : Nat} {a1 : Int32} (pc : Nat) (hC : Cx K (EM h) cc nL own Ts rm ret) (hT : GoodIn Ts (wsV own idx RX5 yX5_codeByte wsX5_codeByte)) (hR : rmX5_codeByte.frames + 1 ≤ rm.frames ∧ 8 + (3 + 11) + rmX5_codeByte.locals ≤ rm.locals) (hdg : decode cc pc = .ok (.invokevirtual idx, 3)) (hcat : (rest.map fun v => v.category).sum ≤ 8) (kk : G K (EM h) nL T u (pc + 3) lv (.int (fX5_codeByte a1 u) :: rest)) : G K (EM h) nL T u pc lv (.int a1 :: .ref (mO h) :: rest) := g_callV (n := 1) pc hC (As := [.int a1]) (rest := rest) (cX5_codeByte_ _ (Cx.ok hC) a1 u) hT rfl rfl rfl (by decide +kernel) hR 0 3 rfl rfl rfl rfl rfl hcat hdg kk

