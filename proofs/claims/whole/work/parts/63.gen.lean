def fX5_does (a1 : Int32) (u : ST) : ST × Int32 :=
  if (a1 &&& (53248 : Int32)) = (32768 : Int32) then
    (fX5_ofPlaces a1 u)
  else
    if (jshr a1 (12 : Int32)) = (0 : Int32) then
      ((if a1 ≤ (1023 : Int32) then (if a1 ≤ (511 : Int32) then (if a1 ≤ (255 : Int32) then u else (fX5_setPair ((2 : Int32) * ((jshr a1 (4 : Int32)) &&& (15 : Int32))) (fX5_pair ((2 : Int32) * (a1 &&& (15 : Int32))) u) u)) else (fX5_products a1 u)) else (fX5_ofTwo a1 u)), (0 : Int32))
    else
      if (jshr a1 (12 : Int32)) = (1 : Int32) then
        ((fX5_ofTwo a1 u), (0 : Int32))
      else
        if (jshr a1 (12 : Int32)) = (2 : Int32) then
          ((fX5_ofTwo a1 u), (0 : Int32))
        else
          if (jshr a1 (12 : Int32)) = (3 : Int32) then
            ((fX5_ofNumber a1 u), (0 : Int32))
          else
            if (jshr a1 (12 : Int32)) = (4 : Int32) then
              ((fX5_ofNumber a1 u), (0 : Int32))
            else
              if (jshr a1 (12 : Int32)) = (5 : Int32) then
                ((fX5_ofNumber a1 u), (0 : Int32))
              else
                if (jshr a1 (12 : Int32)) = (6 : Int32) then
                  ((fX5_ofNumber a1 u), (0 : Int32))
                else
                  if (jshr a1 (12 : Int32)) = (7 : Int32) then
                    ((fX5_ofNumber a1 u), (0 : Int32))
                  else
                    if (jshr a1 (12 : Int32)) = (8 : Int32) then
                      ((fX5_ofNumber a1 u), (0 : Int32))
                    else
                      if (jshr a1 (12 : Int32)) = (9 : Int32) then
                        (fX5_ofNine a1 u)
                      else
                        if (jshr a1 (12 : Int32)) = (10 : Int32) then
                          ((fX5_ofNumber a1 u), (0 : Int32))
                        else
                          if (jshr a1 (12 : Int32)) = (11 : Int32) then
                            ((fX5_ofPort a1 u), (0 : Int32))
                          else
                            if (jshr a1 (12 : Int32)) = (12 : Int32) then
                              (fX5_jumps (gNx u) ((gNx u) + (if (a1 &&& (4095 : Int32)) ≤ (2047 : Int32) then (a1 &&& (4095 : Int32)) else ((a1 &&& (4095 : Int32)) - (4096 : Int32)))) (if (jshr a1 (12 : Int32)) = (13 : Int32) then (1 : Int32) else (0 : Int32)) u)
                            else
                              if (jshr a1 (12 : Int32)) = (13 : Int32) then
                                (fX5_jumps (gNx u) ((gNx u) + (if (a1 &&& (4095 : Int32)) ≤ (2047 : Int32) then (a1 &&& (4095 : Int32)) else ((a1 &&& (4095 : Int32)) - (4096 : Int32)))) (if (jshr a1 (12 : Int32)) = (13 : Int32) then (1 : Int32) else (0 : Int32)) u)
                              else
                                if (jshr a1 (12 : Int32)) = (14 : Int32) then
                                  ((fX5_ofNumber a1 u), (0 : Int32))
                                else
                                  if (jshr a1 (12 : Int32)) = (15 : Int32) then
                                    (fX5_ofFifteen a1 u)
                                  else
                                    ((fX5_ofNumber a1 u), (0 : Int32))
def okX5_does (a1 : Int32) (u : ST) : Prop := ((¬ (a1 &&& (53248 : Int32)) = (32768 : Int32)) → ((jshr a1 (12 : Int32)) = (0 : Int32)) → (a1 ≤ (1023 : Int32)) → (a1 ≤ (511 : Int32)) → (¬ a1 ≤ (255 : Int32)) → okX5_pair ((2 : Int32) * (a1 &&& (15 : Int32))) u) ∧ ((¬ (a1 &&& (53248 : Int32)) = (32768 : Int32)) → ((jshr a1 (12 : Int32)) = (0 : Int32)) → (a1 ≤ (1023 : Int32)) → (a1 ≤ (511 : Int32)) → (¬ a1 ≤ (255 : Int32)) → okX5_setPair ((2 : Int32) * ((jshr a1 (4 : Int32)) &&& (15 : Int32))) (fX5_pair ((2 : Int32) * (a1 &&& (15 : Int32))) u) u) ∧ ((¬ (a1 &&& (53248 : Int32)) = (32768 : Int32)) → ((jshr a1 (12 : Int32)) = (0 : Int32)) → (a1 ≤ (1023 : Int32)) → (¬ a1 ≤ (511 : Int32)) → okX5_products a1 u) ∧ ((¬ (a1 &&& (53248 : Int32)) = (32768 : Int32)) → ((jshr a1 (12 : Int32)) = (0 : Int32)) → (¬ a1 ≤ (1023 : Int32)) → okX5_ofTwo a1 u) ∧ ((¬ (a1 &&& (53248 : Int32)) = (32768 : Int32)) → (¬ (jshr a1 (12 : Int32)) = (0 : Int32)) → ((jshr a1 (12 : Int32)) = (1 : Int32)) → okX5_ofTwo a1 u) ∧ ((¬ (a1 &&& (53248 : Int32)) = (32768 : Int32)) → (¬ (jshr a1 (12 : Int32)) = (0 : Int32)) → (¬ (jshr a1 (12 : Int32)) = (1 : Int32)) → ((jshr a1 (12 : Int32)) = (2 : Int32)) → okX5_ofTwo a1 u) ∧ ((¬ (a1 &&& (53248 : Int32)) = (32768 : Int32)) → (¬ (jshr a1 (12 : Int32)) = (0 : Int32)) → (¬ (jshr a1 (12 : Int32)) = (1 : Int32)) → (¬ (jshr a1 (12 : Int32)) = (2 : Int32)) → ((jshr a1 (12 : Int32)) = (3 : Int32)) → okX5_ofNumber a1 u) ∧ ((¬ (a1 &&& (53248 : Int32)) = (32768 : Int32)) → (¬ (jshr a1 (12 : Int32)) = (0 : Int32)) → (¬ (jshr a1 (12 : Int32)) = (1 : Int32)) → (¬ (jshr a1 (12 : Int32)) = (2 : Int32)) → (¬ (jshr a1 (12 : Int32)) = (3 : Int32)) → ((jshr a1 (12 : Int32)) = (4 : Int32)) → okX5_ofNumber a1 u) ∧ ((¬ (a1 &&& (53248 : Int32)) = (32768 : Int32)) → (¬ (jshr a1 (12 : Int32)) = (0 : Int32)) → (¬ (jshr a1 (12 : Int32)) = (1 : Int32)) → (¬ (jshr a1 (12 : Int32)) = (2 : Int32)) → (¬ (jshr a1 (12 : Int32)) = (3 : Int32)) → (¬ (jshr a1 (12 : Int32)) = (4 : Int32)) → ((jshr a1 (12 : Int32)) = (5 : Int32)) → okX5_ofNumber a1 u) ∧ ((¬ (a1 &&& (53248 : Int32)) = (32768 : Int32)) → (¬ (jshr a1 (12 : Int32)) = (0 : Int32)) → (¬ (jshr a1 (12 : Int32)) = (1 : Int32)) → (¬ (jshr a1 (12 : Int32)) = (2 : Int32)) → (¬ (jshr a1 (12 : Int32)) = (3 : Int32)) → (¬ (jshr a1 (12 : Int32)) = (4 : Int32)) → (¬ (jshr a1 (12 : Int32)) = (5 : Int32)) → ((jshr a1 (12 : Int32)) = (6 : Int32)) → okX5_ofNumber a1 u) ∧ ((¬ (a1 &&& (53248 : Int32)) = (32768 : Int32)) → (¬ (jshr a1 (12 : Int32)) = (0 : Int32)) → (¬ (jshr a1 (12 : Int32)) = (1 : Int32)) → (¬ (jshr a1 (12 : Int32)) = (2 : Int32)) → (¬ (jshr a1 (12 : Int32)) = (3 : Int32)) → (¬ (jshr a1 (12 : Int32)) = (4 : Int32)) → (¬ (jshr a1 (12 : Int32)) = (5 : Int32)) → (¬ (jshr a1 (12 : Int32)) = (6 : Int32)) → ((jshr a1 (12 : Int32)) = (7 : Int32)) → okX5_ofNumber a1 u) ∧ ((¬ (a1 &&& (53248 : Int32)) = (32768 : Int32)) → (¬ (jshr a1 (12 : Int32)) = (0 : Int32)) → (¬ (jshr a1 (12 : Int32)) = (1 : Int32)) → (¬ (jshr a1 (12 : Int32)) = (2 : Int32)) → (¬ (jshr a1 (12 : Int32)) = (3 : Int32)) → (¬ (jshr a1 (12 : Int32)) = (4 : Int32)) → (¬ (jshr a1 (12 : Int32)) = (5 : Int32)) → (¬ (jshr a1 (12 : Int32)) = (6 : Int32)) → (¬ (jshr a1 (12 : Int32)) = (7 : Int32)) → ((jshr a1 (12 : Int32)) = (8 : Int32)) → okX5_ofNumber a1 u) ∧ ((¬ (a1 &&& (53248 : Int32)) = (32768 : Int32)) → (¬ (jshr a1 (12 : Int32)) = (0 : Int32)) → (¬ (jshr a1 (12 : Int32)) = (1 : Int32)) → (¬ (jshr a1 (12 : Int32)) = (2 : Int32)) → (¬ (jshr a1 (12 : Int32)) = (3 : Int32)) → (¬ (jshr a1 (12 : Int32)) = (4 : Int32)) → (¬ (jshr a1 (12 : Int32)) = (5 : Int32)) → (¬ (jshr a1 (12 : Int32)) = (6 : Int32)) → (¬ (jshr a1 (12 : Int32)) = (7 : Int32)) → (¬ (jshr a1 (12 : Int32)) = (8 : Int32)) → ((jshr a1 (12 : Int32)) = (9 : Int32)) → okX5_ofNine a1 u) ∧ ((¬ (a1 &&& (53248 : Int32)) = (32768 : Int32)) → (¬ (jshr a1 (12 : Int32)) = (0 : Int32)) → (¬ (jshr a1 (12 : Int32)) = (1 : Int32)) → (¬ (jshr a1 (12 : Int32)) = (2 : Int32)) → (¬ (jshr a1 (12 : Int32)) = (3 : Int32)) → (¬ (jshr a1 (12 : Int32)) = (4 : Int32)) → (¬ (jshr a1 (12 : Int32)) = (5 : Int32)) → (¬ (jshr a1 (12 : Int32)) = (6 : Int32)) → (¬ (jshr a1 (12 : Int32)) = (7 : Int32)) → (¬ (jshr a1 (12 : Int32)) = (8 : Int32)) → (¬ (jshr a1 (12 : Int32)) = (9 : Int32)) → ((jshr a1 (12 : Int32)) = (10 : Int32)) → okX5_ofNumber a1 u) ∧ ((¬ (a1 &&& (53248 : Int32)) = (32768 : Int32)) → (¬ (jshr a1 (12 : Int32)) = (0 : Int32)) → (¬ (jshr a1 (12 : Int32)) = (1 : Int32)) → (¬ (jshr a1 (12 : Int32)) = (2 : Int32)) → (¬ (jshr a1 (12 : Int32)) = (3 : Int32)) → (¬ (jshr a1 (12 : Int32)) = (4 : Int32)) → (¬ (jshr a1 (12 : Int32)) = (5 : Int32)) → (¬ (jshr a1 (12 : Int32)) = (6 : Int32)) → (¬ (jshr a1 (12 : Int32)) = (7 : Int32)) → (¬ (jshr a1 (12 : Int32)) = (8 : Int32)) → (¬ (jshr a1 (12 : Int32)) = (9 : Int32)) → (¬ (jshr a1 (12 : Int32)) = (10 : Int32)) → ((jshr a1 (12 : Int32)) = (11 : Int32)) → okX5_ofPort a1 u) ∧ ((¬ (a1 &&& (53248 : Int32)) = (32768 : Int32)) → (¬ (jshr a1 (12 : Int32)) = (0 : Int32)) → (¬ (jshr a1 (12 : Int32)) = (1 : Int32)) → (¬ (jshr a1 (12 : Int32)) = (2 : Int32)) → (¬ (jshr a1 (12 : Int32)) = (3 : Int32)) → (¬ (jshr a1 (12 : Int32)) = (4 : Int32)) → (¬ (jshr a1 (12 : Int32)) = (5 : Int32)) → (¬ (jshr a1 (12 : Int32)) = (6 : Int32)) → (¬ (jshr a1 (12 : Int32)) = (7 : Int32)) → (¬ (jshr a1 (12 : Int32)) = (8 : Int32)) → (¬ (jshr a1 (12 : Int32)) = (9 : Int32)) → (¬ (jshr a1 (12 : Int32)) = (10 : Int32)) → (¬ (jshr a1 (12 : Int32)) = (11 : Int32)) → ((jshr a1 (12 : Int32)) = (12 : Int32)) → okX5_jumps (gNx u) ((gNx u) + (if (a1 &&& (4095 : Int32)) ≤ (2047 : Int32) then (a1 &&& (4095 : Int32)) else ((a1 &&& (4095 : Int32)) - (4096 : Int32)))) (if (jshr a1 (12 : Int32)) = (13 : Int32) then (1 : Int32) else (0 : Int32)) u) ∧ ((¬ (a1 &&& (53248 : Int32)) = (32768 : Int32)) → (¬ (jshr a1 (12 : Int32)) = (0 : Int32)) → (¬ (jshr a1 (12 : Int32)) = (1 : Int32)) → (¬ (jshr a1 (12 : Int32)) = (2 : Int32)) → (¬ (jshr a1 (12 : Int32)) = (3 : Int32)) → (¬ (jshr a1 (12 : Int32)) = (4 : Int32)) → (¬ (jshr a1 (12 : Int32)) = (5 : Int32)) → (¬ (jshr a1 (12 : Int32)) = (6 : Int32)) → (¬ (jshr a1 (12 : Int32)) = (7 : Int32)) → (¬ (jshr a1 (12 : Int32)) = (8 : Int32)) → (¬ (jshr a1 (12 : Int32)) = (9 : Int32)) → (¬ (jshr a1 (12 : Int32)) = (10 : Int32)) → (¬ (jshr a1 (12 : Int32)) = (11 : Int32)) → (¬ (jshr a1 (12 : Int32)) = (12 : Int32)) → ((jshr a1 (12 : Int32)) = (13 : Int32)) → okX5_jumps (gNx u) ((gNx u) + (if (a1 &&& (4095 : Int32)) ≤ (2047 : Int32) then (a1 &&& (4095 : Int32)) else ((a1 &&& (4095 : Int32)) - (4096 : Int32)))) (if (jshr a1 (12 : Int32)) = (13 : Int32) then (1 : Int32) else (0 : Int32)) u) ∧ ((¬ (a1 &&& (53248 : Int32)) = (32768 : Int32)) → (¬ (jshr a1 (12 : Int32)) = (0 : Int32)) → (¬ (jshr a1 (12 : Int32)) = (1 : Int32)) → (¬ (jshr a1 (12 : Int32)) = (2 : Int32)) → (¬ (jshr a1 (12 : Int32)) = (3 : Int32)) → (¬ (jshr a1 (12 : Int32)) = (4 : Int32)) → (¬ (jshr a1 (12 : Int32)) = (5 : Int32)) → (¬ (jshr a1 (12 : Int32)) = (6 : Int32)) → (¬ (jshr a1 (12 : Int32)) = (7 : Int32)) → (¬ (jshr a1 (12 : Int32)) = (8 : Int32)) → (¬ (jshr a1 (12 : Int32)) = (9 : Int32)) → (¬ (jshr a1 (12 : Int32)) = (10 : Int32)) → (¬ (jshr a1 (12 : Int32)) = (11 : Int32)) → (¬ (jshr a1 (12 : Int32)) = (12 : Int32)) → (¬ (jshr a1 (12 : Int32)) = (13 : Int32)) → ((jshr a1 (12 : Int32)) = (14 : Int32)) → okX5_ofNumber a1 u) ∧ ((¬ (a1 &&& (53248 : Int32)) = (32768 : Int32)) → (¬ (jshr a1 (12 : Int32)) = (0 : Int32)) → (¬ (jshr a1 (12 : Int32)) = (1 : Int32)) → (¬ (jshr a1 (12 : Int32)) = (2 : Int32)) → (¬ (jshr a1 (12 : Int32)) = (3 : Int32)) → (¬ (jshr a1 (12 : Int32)) = (4 : Int32)) → (¬ (jshr a1 (12 : Int32)) = (5 : Int32)) → (¬ (jshr a1 (12 : Int32)) = (6 : Int32)) → (¬ (jshr a1 (12 : Int32)) = (7 : Int32)) → (¬ (jshr a1 (12 : Int32)) = (8 : Int32)) → (¬ (jshr a1 (12 : Int32)) = (9 : Int32)) → (¬ (jshr a1 (12 : Int32)) = (10 : Int32)) → (¬ (jshr a1 (12 : Int32)) = (11 : Int32)) → (¬ (jshr a1 (12 : Int32)) = (12 : Int32)) → (¬ (jshr a1 (12 : Int32)) = (13 : Int32)) → (¬ (jshr a1 (12 : Int32)) = (14 : Int32)) → ((jshr a1 (12 : Int32)) = (15 : Int32)) → okX5_ofFifteen a1 u) ∧ ((¬ (a1 &&& (53248 : Int32)) = (32768 : Int32)) → (¬ (jshr a1 (12 : Int32)) = (0 : Int32)) → (¬ (jshr a1 (12 : Int32)) = (1 : Int32)) → (¬ (jshr a1 (12 : Int32)) = (2 : Int32)) → (¬ (jshr a1 (12 : Int32)) = (3 : Int32)) → (¬ (jshr a1 (12 : Int32)) = (4 : Int32)) → (¬ (jshr a1 (12 : Int32)) = (5 : Int32)) → (¬ (jshr a1 (12 : Int32)) = (6 : Int32)) → (¬ (jshr a1 (12 : Int32)) = (7 : Int32)) → (¬ (jshr a1 (12 : Int32)) = (8 : Int32)) → (¬ (jshr a1 (12 : Int32)) = (9 : Int32)) → (¬ (jshr a1 (12 : Int32)) = (10 : Int32)) → (¬ (jshr a1 (12 : Int32)) = (11 : Int32)) → (¬ (jshr a1 (12 : Int32)) = (12 : Int32)) → (¬ (jshr a1 (12 : Int32)) = (13 : Int32)) → (¬ (jshr a1 (12 : Int32)) = (14 : Int32)) → (¬ (jshr a1 (12 : Int32)) = (15 : Int32)) → okX5_ofNumber a1 u) ∧ (((a1 &&& (53248 : Int32)) = (32768 : Int32)) → okX5_ofPlaces a1 u) ∧ True
theorem cmX5_does_175 : Jvm.Cond.constant RX5 175 (53248 : Int32) ∈ wsX5_does := List.mem_of_getElem? (i := 1) rfl
theorem cmX5_does_120 : Jvm.Cond.constant RX5 120 (32768 : Int32) ∈ wsX5_does := List.mem_of_getElem? (i := 2) rfl
theorem fiX5_does_wsX50 : ∀ w ∈ wsX50, w ∈ wsX5_does := fun w h => List.mem_cons_of_mem _ (List.mem_append_right _ h)
theorem fmX5_does_84 : Cond.fieldLink RX5 84 "FlagCoreModel" "next" "I" ∈ wsX5_does := List.mem_of_getElem? (i := 3) rfl
abbrev rmX5_does : Room := { frames := 6, cells := 0, slots := 0, locals := 134 }
set_option maxRecDepth 20000 in
theorem cX5_does_ (h : HM) (hE : okE (EM h)) (a1 : Int32) (u : ST) (hok : okX5_does a1 u) : MX (EM h) yX5_does wsX5_does rmX5_does [.ref (mO h), .int a1] u (tW (fX5_does a1 u)) := by
  obtain ⟨k0, k1, k2, k3, k4, k5, k6, k7, k8, k9, k10, k11, k12, k13, k14, k15, k16, k17, k18, k19, k20, -⟩ := hok
  refine MX.of (cc := cX5_does) (maxL := 4) (ret := (some .int)) (lv := [(0, .ref (mO h)), (1, .int a1)]) hE (by decide) rfl (fun _ => rfl) (Nat.le_of_ble_eq_true rfl) rfl (fun K hC => ?_)
  unfold fX5_does
  refine g_iload_n 0 hC dX5_does_0 1 rfl ?_
  refine g_bipush 1 hC (12 : Int32) dX5_does_1 (by decide) ?_
  refine g_ishr 3 hC dX5_does_3 ?_
  refine g_istore_n 4 hC dX5_does_4 (by decide) [(2, .int ((jshr a1 (12 : Int32)))), (0, .ref (mO h)), (1, .int a1)] rfl ?_
  refine g_iload_n 5 hC dX5_does_5 2 rfl ?_
  refine g_ldc 6 hC (53248 : Int32) dX5_does_6 cmX5_does_175 ?_
  refine g_iand 8 hC dX5_does_8 ?_
  refine g_ldc 9 hC (32768 : Int32) dX5_does_9 cmX5_does_120 ?_
  refine g_icmp_neT (tW) 11 hC 20 dX5_does_11 (by decide) (fun h1 => ?_) (fun h1 => ?_)
  · skip
    refine g_iload_n 20 hC dX5_does_20 0 rfl ?_
    refine g_byT (tW) (fun h2 => ?_) (fun h2 => ?_)
    · refine g_tsIn 21 hC (0 : Int32) (79) 100 h2 dX5_does_21 (by decide) (by decide) (by decide) (by decide) ?_
      refine g_iload_n 100 hC dX5_does_100 2 rfl ?_
      refine g_sipush 101 hC (1023 : Int32) dX5_does_101 (by decide) ?_
      refine g_cutS 159 (if a1 ≤ (1023 : Int32) then (if a1 ≤ (511 : Int32) then (if a1 ≤ (255 : Int32) then u else (fX5_setPair ((2 : Int32) * ((jshr a1 (4 : Int32)) &&& (15 : Int32))) (fX5_pair ((2 : Int32) * (a1 &&& (15 : Int32))) u) u)) else (fX5_products a1 u)) else (fX5_ofTwo a1 u)) [] ?_ (fun J6 => ?_)
      · skip
        refine g_iconst 159 hC (0 : Int32) dX5_does_159 (by decide) ?_
        exact g_iretW 160 hC dX5_does_160
      · skip
        refine g_icmp_le 104 hC 115 dX5_does_104 (by decide) (fun h3 => ?_) (fun h3 => ?_)
        · skip
          refine g_iload_n 115 hC dX5_does_115 2 rfl ?_
          refine g_sipush 116 hC (511 : Int32) dX5_does_116 (by decide) ?_
          refine g_icmp_le 119 hC 130 dX5_does_119 (by decide) (fun h4 => ?_) (fun h4 => ?_)
          · skip
            refine g_iload_n 130 hC dX5_does_130 2 rfl ?_
            refine g_sipush 131 hC (255 : Int32) dX5_does_131 (by decide) ?_
            refine g_icmp_le 134 hC 159 dX5_does_134 (by decide) (fun h5 => ?_) (fun h5 => ?_)
            · skip
              exact J6 _ (Eq.symm (Eq.trans (if_pos h3) (Eq.trans (if_pos h4) (if_pos h5))))
            · skip
              refine g_aload_n 137 hC dX5_does_137 1 rfl ?_
              refine g_iconst 138 hC (2 : Int32) dX5_does_138 (by decide) ?_
              refine g_iload_n 139 hC dX5_does_139 2 rfl ?_
              refine g_iconst 140 hC (4 : Int32) dX5_does_140 (by decide) ?_
              refine g_ishr 141 hC dX5_does_141 ?_
              refine g_bipush 142 hC (15 : Int32) dX5_does_142 (by decide) ?_
              refine g_iand 144 hC dX5_does_144 ?_
              refine g_imul 145 hC dX5_does_145 ?_
              refine g_aload_n 146 hC dX5_does_146 1 rfl ?_
              refine g_iconst 147 hC (2 : Int32) dX5_does_147 (by decide) ?_
              refine g_iload_n 148 hC dX5_does_148 2 rfl ?_
              refine g_bipush 149 hC (15 : Int32) dX5_does_149 (by decide) ?_
              refine g_iand 151 hC dX5_does_151 ?_
              refine g_imul 152 hC dX5_does_152 ?_
              refine kX5_pair 153 hC (k0 h1 h2 h3 h4 h5) gX5_does_X5_pair ⟨Nat.le_of_ble_eq_true rfl, Nat.le_of_ble_eq_true rfl⟩ dX5_does_153 (Nat.le_of_ble_eq_true rfl) ?_
              refine kX5_setPair 156 hC (k1 h1 h2 h3 h4 h5) gX5_does_X5_setPair ⟨Nat.le_of_ble_eq_true rfl, Nat.le_of_ble_eq_true rfl⟩ dX5_does_156 (Nat.le_of_ble_eq_true rfl) ?_
              exact J6 _ (Eq.symm (Eq.trans (if_pos h3) (Eq.trans (if_pos h4) (if_neg h5))))
          · skip
            refine g_aload_n 122 hC dX5_does_122 1 rfl ?_
            refine g_iload_n 123 hC dX5_does_123 2 rfl ?_
            refine kX5_products 124 hC (k2 h1 h2 h3 h4) gX5_does_X5_products ⟨Nat.le_of_ble_eq_true rfl, Nat.le_of_ble_eq_true rfl⟩ dX5_does_124 (Nat.le_of_ble_eq_true rfl) ?_
            refine g_goto 127 hC 159 dX5_does_127 (by decide) ?_
            exact J6 _ (Eq.symm (Eq.trans (if_pos h3) (if_neg h4)))
        · skip
          refine g_aload_n 107 hC dX5_does_107 1 rfl ?_
          refine g_iload_n 108 hC dX5_does_108 2 rfl ?_
          refine kX5_ofTwo 109 hC (k3 h1 h2 h3) gX5_does_X5_ofTwo ⟨Nat.le_of_ble_eq_true rfl, Nat.le_of_ble_eq_true rfl⟩ dX5_does_109 (Nat.le_of_ble_eq_true rfl) ?_
          refine g_goto 112 hC 159 dX5_does_112 (by decide) ?_
          exact J6 _ (Eq.symm (if_neg h3))
    · skip
      refine g_byT (tW) (fun h7 => ?_) (fun h7 => ?_)
      · refine g_tsIn 21 hC (1 : Int32) (140) 161 h7 dX5_does_21 (by decide) (by decide) (by decide) (by decide) ?_
        refine g_aload_n 161 hC dX5_does_161 1 rfl ?_
        refine g_iload_n 162 hC dX5_does_162 2 rfl ?_
        refine kX5_ofTwo 163 hC (k4 h1 h2 h7) gX5_does_X5_ofTwo ⟨Nat.le_of_ble_eq_true rfl, Nat.le_of_ble_eq_true rfl⟩ dX5_does_163 (Nat.le_of_ble_eq_true rfl) ?_
        refine g_iconst 166 hC (0 : Int32) dX5_does_166 (by decide) ?_
        exact g_iretW 167 hC dX5_does_167
      · skip
        refine g_byT (tW) (fun h8 => ?_) (fun h8 => ?_)
        · refine g_tsIn 21 hC (2 : Int32) (140) 161 h8 dX5_does_21 (by decide) (by decide) (by decide) (by decide) ?_
          refine g_aload_n 161 hC dX5_does_161 1 rfl ?_
          refine g_iload_n 162 hC dX5_does_162 2 rfl ?_
          refine kX5_ofTwo 163 hC (k5 h1 h2 h7 h8) gX5_does_X5_ofTwo ⟨Nat.le_of_ble_eq_true rfl, Nat.le_of_ble_eq_true rfl⟩ dX5_does_163 (Nat.le_of_ble_eq_true rfl) ?_
          refine g_iconst 166 hC (0 : Int32) dX5_does_166 (by decide) ?_
          exact g_iretW 167 hC dX5_does_167
        · skip
          refine g_byT (tW) (fun h9 => ?_) (fun h9 => ?_)
          · refine g_tsIn 21 hC (3 : Int32) (213) 234 h9 dX5_does_21 (by decide) (by decide) (by decide) (by decide) ?_
            refine g_aload_n 234 hC dX5_does_234 1 rfl ?_
            refine g_iload_n 235 hC dX5_does_235 2 rfl ?_
            refine kX5_ofNumber 236 hC (k6 h1 h2 h7 h8 h9) gX5_does_X5_ofNumber ⟨Nat.le_of_ble_eq_true rfl, Nat.le_of_ble_eq_true rfl⟩ dX5_does_236 (Nat.le_of_ble_eq_true rfl) ?_
            refine g_iconst 239 hC (0 : Int32) dX5_does_239 (by decide) ?_
            exact g_iretW 240 hC dX5_does_240
          · skip
            refine g_byT (tW) (fun h10 => ?_) (fun h10 => ?_)
            · refine g_tsIn 21 hC (4 : Int32) (213) 234 h10 dX5_does_21 (by decide) (by decide) (by decide) (by decide) ?_
              refine g_aload_n 234 hC dX5_does_234 1 rfl ?_
              refine g_iload_n 235 hC dX5_does_235 2 rfl ?_
              refine kX5_ofNumber 236 hC (k7 h1 h2 h7 h8 h9 h10) gX5_does_X5_ofNumber ⟨Nat.le_of_ble_eq_true rfl, Nat.le_of_ble_eq_true rfl⟩ dX5_does_236 (Nat.le_of_ble_eq_true rfl) ?_
              refine g_iconst 239 hC (0 : Int32) dX5_does_239 (by decide) ?_
              exact g_iretW 240 hC dX5_does_240
            · skip
              refine g_byT (tW) (fun h11 => ?_) (fun h11 => ?_)
              · refine g_tsIn 21 hC (5 : Int32) (213) 234 h11 dX5_does_21 (by decide) (by decide) (by decide) (by decide) ?_
                refine g_aload_n 234 hC dX5_does_234 1 rfl ?_
                refine g_iload_n 235 hC dX5_does_235 2 rfl ?_
                refine kX5_ofNumber 236 hC (k8 h1 h2 h7 h8 h9 h10 h11) gX5_does_X5_ofNumber ⟨Nat.le_of_ble_eq_true rfl, Nat.le_of_ble_eq_true rfl⟩ dX5_does_236 (Nat.le_of_ble_eq_true rfl) ?_
                refine g_iconst 239 hC (0 : Int32) dX5_does_239 (by decide) ?_
                exact g_iretW 240 hC dX5_does_240
              · skip
                refine g_byT (tW) (fun h12 => ?_) (fun h12 => ?_)
                · refine g_tsIn 21 hC (6 : Int32) (213) 234 h12 dX5_does_21 (by decide) (by decide) (by decide) (by decide) ?_
                  refine g_aload_n 234 hC dX5_does_234 1 rfl ?_
                  refine g_iload_n 235 hC dX5_does_235 2 rfl ?_
                  refine kX5_ofNumber 236 hC (k9 h1 h2 h7 h8 h9 h10 h11 h12) gX5_does_X5_ofNumber ⟨Nat.le_of_ble_eq_true rfl, Nat.le_of_ble_eq_true rfl⟩ dX5_does_236 (Nat.le_of_ble_eq_true rfl) ?_
                  refine g_iconst 239 hC (0 : Int32) dX5_does_239 (by decide) ?_
                  exact g_iretW 240 hC dX5_does_240
                · skip
                  refine g_byT (tW) (fun h13 => ?_) (fun h13 => ?_)
                  · refine g_tsIn 21 hC (7 : Int32) (213) 234 h13 dX5_does_21 (by decide) (by decide) (by decide) (by decide) ?_
                    refine g_aload_n 234 hC dX5_does_234 1 rfl ?_
                    refine g_iload_n 235 hC dX5_does_235 2 rfl ?_
                    refine kX5_ofNumber 236 hC (k10 h1 h2 h7 h8 h9 h10 h11 h12 h13) gX5_does_X5_ofNumber ⟨Nat.le_of_ble_eq_true rfl, Nat.le_of_ble_eq_true rfl⟩ dX5_does_236 (Nat.le_of_ble_eq_true rfl) ?_
                    refine g_iconst 239 hC (0 : Int32) dX5_does_239 (by decide) ?_
                    exact g_iretW 240 hC dX5_does_240
                  · skip
                    refine g_byT (tW) (fun h14 => ?_) (fun h14 => ?_)
                    · refine g_tsIn 21 hC (8 : Int32) (213) 234 h14 dX5_does_21 (by decide) (by decide) (by decide) (by decide) ?_
                      refine g_aload_n 234 hC dX5_does_234 1 rfl ?_
                      refine g_iload_n 235 hC dX5_does_235 2 rfl ?_
                      refine kX5_ofNumber 236 hC (k11 h1 h2 h7 h8 h9 h10 h11 h12 h13 h14) gX5_does_X5_ofNumber ⟨Nat.le_of_ble_eq_true rfl, Nat.le_of_ble_eq_true rfl⟩ dX5_does_236 (Nat.le_of_ble_eq_true rfl) ?_
                      refine g_iconst 239 hC (0 : Int32) dX5_does_239 (by decide) ?_
                      exact g_iretW 240 hC dX5_does_240
                    · skip
                      refine g_byT (tW) (fun h15 => ?_) (fun h15 => ?_)
                      · refine g_tsIn 21 hC (9 : Int32) (147) 168 h15 dX5_does_21 (by decide) (by decide) (by decide) (by decide) ?_
                        refine g_aload_n 168 hC dX5_does_168 1 rfl ?_
                        refine g_iload_n 169 hC dX5_does_169 2 rfl ?_
                        refine kX5_ofNine 170 hC (k12 h1 h2 h7 h8 h9 h10 h11 h12 h13 h14 h15) gX5_does_X5_ofNine ⟨Nat.le_of_ble_eq_true rfl, Nat.le_of_ble_eq_true rfl⟩ dX5_does_170 (Nat.le_of_ble_eq_true rfl) ?_
                        exact g_iret 173 hC dX5_does_173
                      · skip
                        refine g_byT (tW) (fun h16 => ?_) (fun h16 => ?_)
                        · refine g_tsIn 21 hC (10 : Int32) (213) 234 h16 dX5_does_21 (by decide) (by decide) (by decide) (by decide) ?_
                          refine g_aload_n 234 hC dX5_does_234 1 rfl ?_
                          refine g_iload_n 235 hC dX5_does_235 2 rfl ?_
                          refine kX5_ofNumber 236 hC (k13 h1 h2 h7 h8 h9 h10 h11 h12 h13 h14 h15 h16) gX5_does_X5_ofNumber ⟨Nat.le_of_ble_eq_true rfl, Nat.le_of_ble_eq_true rfl⟩ dX5_does_236 (Nat.le_of_ble_eq_true rfl) ?_
                          refine g_iconst 239 hC (0 : Int32) dX5_does_239 (by decide) ?_
                          exact g_iretW 240 hC dX5_does_240
                        · skip
                          refine g_byT (tW) (fun h17 => ?_) (fun h17 => ?_)
                          · refine g_tsIn 21 hC (11 : Int32) (153) 174 h17 dX5_does_21 (by decide) (by decide) (by decide) (by decide) ?_
                            refine g_aload_n 174 hC dX5_does_174 1 rfl ?_
                            refine g_iload_n 175 hC dX5_does_175 2 rfl ?_
                            refine kX5_ofPort 176 hC (k14 h1 h2 h7 h8 h9 h10 h11 h12 h13 h14 h15 h16 h17) gX5_does_X5_ofPort ⟨Nat.le_of_ble_eq_true rfl, Nat.le_of_ble_eq_true rfl⟩ dX5_does_176 (Nat.le_of_ble_eq_true rfl) ?_
                            refine g_iconst 179 hC (0 : Int32) dX5_does_179 (by decide) ?_
                            exact g_iretW 180 hC dX5_does_180
                          · skip
                            refine g_byT (tW) (fun h18 => ?_) (fun h18 => ?_)
                            · refine g_tsIn 21 hC (12 : Int32) (160) 181 h18 dX5_does_21 (by decide) (by decide) (by decide) (by decide) ?_
                              refine g_iload_n 181 hC dX5_does_181 2 rfl ?_
                              refine g_sipush 182 hC (4095 : Int32) dX5_does_182 (by decide) ?_
                              refine g_iand 185 hC dX5_does_185 ?_
                              refine g_istore_n 186 hC dX5_does_186 (by decide) [(3, .int ((a1 &&& (4095 : Int32)))), (2, .int ((jshr a1 (12 : Int32)))), (0, .ref (mO h)), (1, .int a1)] rfl ?_
                              refine g_aload_n 187 hC dX5_does_187 2 rfl ?_
                              refine g_aload_n 188 hC dX5_does_188 2 rfl ?_
                              refine m_get_next 189 hC fiX5_does_wsX50 fmX5_does_84 dX5_does_189 ?_
                              refine g_aload_n 192 hC dX5_does_192 2 rfl ?_
                              refine m_get_next 193 hC fiX5_does_wsX50 fmX5_does_84 dX5_does_193 ?_
                              refine g_iload_n 196 hC dX5_does_196 0 rfl ?_
                              refine g_sipush 197 hC (2047 : Int32) dX5_does_197 (by decide) ?_
                              refine g_cut 212 (if (a1 &&& (4095 : Int32)) ≤ (2047 : Int32) then (a1 &&& (4095 : Int32)) else ((a1 &&& (4095 : Int32)) - (4096 : Int32))) [.int ((gNx u)), .int ((gNx u)), .ref (mO h)] ?_ (fun J20 => ?_)
                              · skip
                                refine g_iadd 212 hC dX5_does_212 ?_
                                refine g_iload_n 213 hC dX5_does_213 1 rfl ?_
                                refine g_bipush 214 hC (13 : Int32) dX5_does_214 (by decide) ?_
                                refine g_cut 224 (if (jshr a1 (12 : Int32)) = (13 : Int32) then (1 : Int32) else (0 : Int32)) [.int (((gNx u) + (if (a1 &&& (4095 : Int32)) ≤ (2047 : Int32) then (a1 &&& (4095 : Int32)) else ((a1 &&& (4095 : Int32)) - (4096 : Int32))))), .int ((gNx u)), .ref (mO h)] ?_ (fun J22 => ?_)
                                · skip
                                  refine kX5_jumps 224 hC (k15 h1 h2 h7 h8 h9 h10 h11 h12 h13 h14 h15 h16 h17 h18) gX5_does_X5_jumps ⟨Nat.le_of_ble_eq_true rfl, Nat.le_of_ble_eq_true rfl⟩ dX5_does_224 (Nat.le_of_ble_eq_true rfl) ?_
                                  exact g_iret 227 hC dX5_does_227
                                · skip
                                  refine g_icmp_ne 216 hC 223 dX5_does_216 (by decide) (fun h21 => ?_) (fun h21 => ?_)
                                  · skip
                                    refine g_iconst 223 hC (0 : Int32) dX5_does_223 (by decide) ?_
                                    exact J22 _ (Eq.symm (if_neg h21))
                                  · skip
                                    refine g_iconst 219 hC (1 : Int32) dX5_does_219 (by decide) ?_
                                    refine g_goto 220 hC 224 dX5_does_220 (by decide) ?_
                                    exact J22 _ (Eq.symm (if_pos h21))
                              · skip
                                refine g_icmp_le 200 hC 211 dX5_does_200 (by decide) (fun h19 => ?_) (fun h19 => ?_)
                                · skip
                                  refine g_iload_n 211 hC dX5_does_211 0 rfl ?_
                                  exact J20 _ (Eq.symm (if_pos h19))
                                · skip
                                  refine g_iload_n 203 hC dX5_does_203 0 rfl ?_
                                  refine g_sipush 204 hC (4096 : Int32) dX5_does_204 (by decide) ?_
                                  refine g_isub 207 hC dX5_does_207 ?_
                                  refine g_goto 208 hC 212 dX5_does_208 (by decide) ?_
                                  exact J20 _ (Eq.symm (if_neg h19))
                            · skip
                              refine g_byT (tW) (fun h23 => ?_) (fun h23 => ?_)
                              · refine g_tsIn 21 hC (13 : Int32) (160) 181 h23 dX5_does_21 (by decide) (by decide) (by decide) (by decide) ?_
                                refine g_iload_n 181 hC dX5_does_181 2 rfl ?_
                                refine g_sipush 182 hC (4095 : Int32) dX5_does_182 (by decide) ?_
                                refine g_iand 185 hC dX5_does_185 ?_
                                refine g_istore_n 186 hC dX5_does_186 (by decide) [(3, .int ((a1 &&& (4095 : Int32)))), (2, .int ((jshr a1 (12 : Int32)))), (0, .ref (mO h)), (1, .int a1)] rfl ?_
                                refine g_aload_n 187 hC dX5_does_187 2 rfl ?_
                                refine g_aload_n 188 hC dX5_does_188 2 rfl ?_
                                refine m_get_next 189 hC fiX5_does_wsX50 fmX5_does_84 dX5_does_189 ?_
                                refine g_aload_n 192 hC dX5_does_192 2 rfl ?_
                                refine m_get_next 193 hC fiX5_does_wsX50 fmX5_does_84 dX5_does_193 ?_
                                refine g_iload_n 196 hC dX5_does_196 0 rfl ?_
                                refine g_sipush 197 hC (2047 : Int32) dX5_does_197 (by decide) ?_
                                refine g_cut 212 (if (a1 &&& (4095 : Int32)) ≤ (2047 : Int32) then (a1 &&& (4095 : Int32)) else ((a1 &&& (4095 : Int32)) - (4096 : Int32))) [.int ((gNx u)), .int ((gNx u)), .ref (mO h)] ?_ (fun J25 => ?_)
                                · skip
                                  refine g_iadd 212 hC dX5_does_212 ?_
                                  refine g_iload_n 213 hC dX5_does_213 1 rfl ?_
                                  refine g_bipush 214 hC (13 : Int32) dX5_does_214 (by decide) ?_
                                  refine g_cut 224 (if (jshr a1 (12 : Int32)) = (13 : Int32) then (1 : Int32) else (0 : Int32)) [.int (((gNx u) + (if (a1 &&& (4095 : Int32)) ≤ (2047 : Int32) then (a1 &&& (4095 : Int32)) else ((a1 &&& (4095 : Int32)) - (4096 : Int32))))), .int ((gNx u)), .ref (mO h)] ?_ (fun J27 => ?_)
                                  · skip
                                    refine kX5_jumps 224 hC (k16 h1 h2 h7 h8 h9 h10 h11 h12 h13 h14 h15 h16 h17 h18 h23) gX5_does_X5_jumps ⟨Nat.le_of_ble_eq_true rfl, Nat.le_of_ble_eq_true rfl⟩ dX5_does_224 (Nat.le_of_ble_eq_true rfl) ?_
                                    exact g_iret 227 hC dX5_does_227
                                  · skip
                                    refine g_icmp_ne 216 hC 223 dX5_does_216 (by decide) (fun h26 => ?_) (fun h26 => ?_)
                                    · skip
                                      refine g_iconst 223 hC (0 : Int32) dX5_does_223 (by decide) ?_
                                      exact J27 _ (Eq.symm (if_neg h26))
                                    · skip
                                      refine g_iconst 219 hC (1 : Int32) dX5_does_219 (by decide) ?_
                                      refine g_goto 220 hC 224 dX5_does_220 (by decide) ?_
                                      exact J27 _ (Eq.symm (if_pos h26))
                                · skip
                                  refine g_icmp_le 200 hC 211 dX5_does_200 (by decide) (fun h24 => ?_) (fun h24 => ?_)
                                  · skip
                                    refine g_iload_n 211 hC dX5_does_211 0 rfl ?_
                                    exact J25 _ (Eq.symm (if_pos h24))
                                  · skip
                                    refine g_iload_n 203 hC dX5_does_203 0 rfl ?_
                                    refine g_sipush 204 hC (4096 : Int32) dX5_does_204 (by decide) ?_
                                    refine g_isub 207 hC dX5_does_207 ?_
                                    refine g_goto 208 hC 212 dX5_does_208 (by decide) ?_
                                    exact J25 _ (Eq.symm (if_neg h24))
                              · skip
                                refine g_byT (tW) (fun h28 => ?_) (fun h28 => ?_)
                                · refine g_tsIn 21 hC (14 : Int32) (213) 234 h28 dX5_does_21 (by decide) (by decide) (by decide) (by decide) ?_
                                  refine g_aload_n 234 hC dX5_does_234 1 rfl ?_
                                  refine g_iload_n 235 hC dX5_does_235 2 rfl ?_
                                  refine kX5_ofNumber 236 hC (k17 h1 h2 h7 h8 h9 h10 h11 h12 h13 h14 h15 h16 h17 h18 h23 h28) gX5_does_X5_ofNumber ⟨Nat.le_of_ble_eq_true rfl, Nat.le_of_ble_eq_true rfl⟩ dX5_does_236 (Nat.le_of_ble_eq_true rfl) ?_
                                  refine g_iconst 239 hC (0 : Int32) dX5_does_239 (by decide) ?_
                                  exact g_iretW 240 hC dX5_does_240
                                · skip
                                  refine g_byT (tW) (fun h29 => ?_) (fun h29 => ?_)
                                  · refine g_tsIn 21 hC (15 : Int32) (207) 228 h29 dX5_does_21 (by decide) (by decide) (by decide) (by decide) ?_
                                    refine g_aload_n 228 hC dX5_does_228 1 rfl ?_
                                    refine g_iload_n 229 hC dX5_does_229 2 rfl ?_
                                    refine kX5_ofFifteen 230 hC (k18 h1 h2 h7 h8 h9 h10 h11 h12 h13 h14 h15 h16 h17 h18 h23 h28 h29) gX5_does_X5_ofFifteen ⟨Nat.le_of_ble_eq_true rfl, Nat.le_of_ble_eq_true rfl⟩ dX5_does_230 (Nat.le_of_ble_eq_true rfl) ?_
                                    exact g_iret 233 hC dX5_does_233
                                  · skip
                                    refine g_tsOut 21 hC 234 dX5_does_21 (by have n0 := lv_neT h2 (a := 0) (by decide); have n1 := lv_neT h7 (a := 1) (by decide); have n2 := lv_neT h8 (a := 2) (by decide); have n3 := lv_neT h9 (a := 3) (by decide); have n4 := lv_neT h10 (a := 4) (by decide); have n5 := lv_neT h11 (a := 5) (by decide); have n6 := lv_neT h12 (a := 6) (by decide); have n7 := lv_neT h13 (a := 7) (by decide); have n8 := lv_neT h14 (a := 8) (by decide); have n9 := lv_neT h15 (a := 9) (by decide); have n10 := lv_neT h16 (a := 10) (by decide); have n11 := lv_neT h17 (a := 11) (by decide); have n12 := lv_neT h18 (a := 12) (by decide); have n13 := lv_neT h23 (a := 13) (by decide); have n14 := lv_neT h28 (a := 14) (by decide); have n15 := lv_neT h29 (a := 15) (by decide); omega) (by decide) ?_
                                    refine g_aload_n 234 hC dX5_does_234 1 rfl ?_
                                    refine g_iload_n 235 hC dX5_does_235 2 rfl ?_
                                    refine kX5_ofNumber 236 hC (k19 h1 h2 h7 h8 h9 h10 h11 h12 h13 h14 h15 h16 h17 h18 h23 h28 h29) gX5_does_X5_ofNumber ⟨Nat.le_of_ble_eq_true rfl, Nat.le_of_ble_eq_true rfl⟩ dX5_does_236 (Nat.le_of_ble_eq_true rfl) ?_
                                    refine g_iconst 239 hC (0 : Int32) dX5_does_239 (by decide) ?_
                                    exact g_iretW 240 hC dX5_does_240
  · skip
    refine g_aload_n 14 hC dX5_does_14 1 rfl ?_
    refine g_iload_n 15 hC dX5_does_15 2 rfl ?_
    refine kX5_ofPlaces 16 hC (k20 h1) gX5_does_X5_ofPlaces ⟨Nat.le_of_ble_eq_true rfl, Nat.le_of_ble_eq_true rfl⟩ dX5_does_16 (Nat.le_of_ble_eq_true rfl) ?_
    exact g_iret 19 hC dX5_does_19
theorem kX5_does {K : KT} {h : HM} {cc : ByteArray} {nL : Nat} {own : String} {Ts : List Cond} {rm : Room} {ret : Option FieldType} {T : ST × Option Value} {u : ST} {lv : List (Nat × Value)} {rest : List Value} {idx : Nat} {a1 : Int32} (pc : Nat) (hC : Cx K (EM h) cc nL own Ts rm ret) (hok : okX5_does a1 u) (hT : GoodIn Ts (wsV own idx RX5 yX5_does wsX5_does)) (hR : rmX5_does.frames + 1 ≤ rm.frames ∧ 8 + (4 + 11) + rmX5_does.locals ≤ rm.locals) (hdg : decode cc pc = .ok (.invokevirtual idx, 3)) (hcat : (rest.map fun v => v.category).sum ≤ 8) (kk : G K (EM h) nL T (fX5_does a1 u).1 (pc + 3) lv (.int (fX5_does a1 u).2 :: rest)) : G K (EM h) nL T u pc lv (.int a1 :: .ref (mO h) :: rest) := g_callV (n := 1) pc hC (As := [.int a1]) (rest := rest) (cX5_does_ _ (Cx.ok hC) a1 u hok) hT rfl rfl rfl (by decide +kernel) hR 0 3 rfl rfl rfl rfl rfl hcat hdg kk

def fX5_enters (u : ST) : ST × Int32 :=
  if (fX5_canCall u) = 0 then
    (u, (3 : Int32))
  else
    ((fX5_flag (128 : Int32) (0 : Int32) (sPc (fX5_calls (gPc (sAs u ((gAs u) &&& ((jshl (1 : Int32) (nI (lowv (gAs u)))) ^^^ (-1 : Int32))))) ((2 : Int32) * (nI (lowv (gAs u)))) (sAs u ((gAs u) &&& ((jshl (1 : Int32) (nI (lowv (gAs u)))) ^^^ (-1 : Int32))))) (gNx (fX5_calls (gPc (sAs u ((gAs u) &&& ((jshl (1 : Int32) (nI (lowv (gAs u)))) ^^^ (-1 : Int32))))) ((2 : Int32) * (nI (lowv (gAs u)))) (sAs u ((gAs u) &&& ((jshl (1 : Int32) (nI (lowv (gAs u)))) ^^^ (-1 : Int32)))))))), (1 : Int32))
def okX5_enters (u : ST) : Prop := (okX5_canCall u) ∧ ((¬ (fX5_canCall u) = 0) → lowOk (gAs u)) ∧ ((¬ (fX5_canCall u) = 0) → okX5_calls (gPc (sAs u ((gAs u) &&& ((jshl (1 : Int32) (nI (lowv (gAs u)))) ^^^ (-1 : Int32))))) ((2 : Int32) * (nI (lowv (gAs u)))) (sAs u ((gAs u) &&& ((jshl (1 : Int32) (nI (lowv (gAs u)))) ^^^ (-1 : Int32))))) ∧ True
theorem fiX5_enters_wsX50 : ∀ w ∈ wsX50, w ∈ wsX5_enters := fun w h => List.mem_cons_of_mem _ (List.mem_append_right _ h)
theorem fmX5_enters_36 : Cond.fieldLink RX5 36 "FlagCoreModel" "asked" "I" ∈ wsX5_enters := List.mem_of_getElem? (i := 1) rfl
theorem fmX5_enters_19 : Cond.fieldLink RX5 19 "FlagCoreModel" "pc" "I" ∈ wsX5_enters := List.mem_of_getElem? (i := 2) rfl
theorem fmX5_enters_84 : Cond.fieldLink RX5 84 "FlagCoreModel" "next" "I" ∈ wsX5_enters := List.mem_of_getElem? (i := 3) rfl
abbrev rmX5_enters : Room := { frames := 3, cells := 0, slots := 0, locals := 66 }
theorem entersLoop1 {K : KT} {h : HM} {T : ST × Option Value} {u : ST} {rm : Room} (hC : Cx K (EM h) cX5_enters 2 yX5_enters.cls wsX5_enters rm (some .int)) : ∀ (n j : Nat), j + n < 2 ^ 31 → (∃ k, k < n ∧ ¬ (jshr (gAs u) (nI (j + k)) &&& (1 : Int32)) = 0) → G K (EM h) 2 T u 28 [(1, .int (nI (lowFrom (gAs u) n j))), (0, .ref (mO h))] [] → G K (EM h) 2 T u 11 [(1, .int (nI j)), (0, .ref (mO h))] [] := by
  intro n
  induction n with
  | zero => intro j _ h1 _; obtain ⟨k, h, _⟩ := h1; exact absurd h (Nat.not_lt_zero k)
  | succ n ih =>
    intro j hj h1 kk
    refine g_aload_n 11 hC dX5_enters_11 1 rfl ?_
    refine m_get_asked 12 hC fiX5_enters_wsX50 fmX5_enters_36 dX5_enters_12 ?_
    refine g_iload_n 15 hC dX5_enters_15 0 rfl ?_
    refine g_ishr 16 hC dX5_enters_16 ?_
    refine g_iconst 17 hC (1 : Int32) dX5_enters_17 (by decide) ?_
    refine g_iand 18 hC dX5_enters_18 ?_
    refine g_if_ne 19 hC 28 dX5_enters_19 (by decide) (fun h2 => ?_) (fun h2 => ?_)
    · have e : lowFrom (gAs u) (n + 1) j = j := if_neg h2
      rw [e] at kk
      exact kk
    · have e : lowFrom (gAs u) (n + 1) j = lowFrom (gAs u) n (j + 1) := if_pos h2
      rw [e] at kk
      refine g_iinc 22 hC (nI (j + 1)) dX5_enters_22 (by decide) 0 rfl (nI_1 j) [(1, .int (nI (j + 1))), (0, .ref (mO h))] rfl ?_
      refine g_goto 25 hC 11 dX5_enters_25 (by decide) ?_
      refine ih (j + 1) (by omega) ?_ kk
      obtain ⟨k, hk, h3⟩ := h1
      cases k with
      | zero => exact absurd h2 h3
      | succ k => exact ⟨k, by omega, by rw [show j + 1 + k = j + (k + 1) by omega]; exact h3⟩
theorem entersLoop {K : KT} {h : HM} {T : ST × Option Value} {rm : Room} (hC : Cx K (EM h) cX5_enters 2 yX5_enters.cls wsX5_enters rm (some .int)) (u : ST) (hk : lowOk (gAs u)) (kk : G K (EM h) 2 T u 28 [(1, .int (nI (lowv (gAs u)))), (0, .ref (mO h))] []) : G K (EM h) 2 T u 11 [(1, .int (1 : Int32)), (0, .ref (mO h))] [] := entersLoop1 hC 31 1 (by decide) hk kk
set_option maxRecDepth 20000 in
theorem cX5_enters_ (h : HM) (hE : okE (EM h)) (u : ST) (hok : okX5_enters u) : MX (EM h) yX5_enters wsX5_enters rmX5_enters [.ref (mO h)] u (tW (fX5_enters u)) := by
  obtain ⟨k0, k1, k2, -⟩ := hok
  refine MX.of (cc := cX5_enters) (maxL := 2) (ret := (some .int)) (lv := [(0, .ref (mO h))]) hE (by decide) rfl (fun _ => rfl) (Nat.le_of_ble_eq_true rfl) rfl (fun K hC => ?_)
  unfold fX5_enters
  refine g_aload_n 0 hC dX5_enters_0 0 rfl ?_
  refine kX5_canCall 1 hC k0 gX5_enters_X5_canCall ⟨Nat.le_of_ble_eq_true rfl, Nat.le_of_ble_eq_true rfl⟩ dX5_enters_1 (Nat.le_of_ble_eq_true rfl) ?_
  refine g_if_neT (tW) 4 hC 9 dX5_enters_4 (by decide) (fun h1 => ?_) (fun h1 => ?_)
  · skip
    refine g_iconst 9 hC (1 : Int32) dX5_enters_9 (by decide) ?_
    refine g_istore_n 10 hC dX5_enters_10 (by decide) [(1, .int ((1 : Int32))), (0, .ref (mO h))] rfl ?_
    refine entersLoop hC _ (k1 h1) ?_
    refine g_aload_n 28 hC dX5_enters_28 1 rfl ?_
    refine g_dup 29 hC dX5_enters_29 rfl ?_
    refine m_get_asked 30 hC fiX5_enters_wsX50 fmX5_enters_36 dX5_enters_30 ?_
    refine g_iconst 33 hC (1 : Int32) dX5_enters_33 (by decide) ?_
    refine g_iload_n 34 hC dX5_enters_34 0 rfl ?_
    refine g_ishl 35 hC dX5_enters_35 ?_
    refine g_iconst 36 hC (-1 : Int32) dX5_enters_36 (by decide) ?_
    refine g_ixor 37 hC dX5_enters_37 ?_
    refine g_iand 38 hC dX5_enters_38 ?_
    refine m_put_asked 39 hC fiX5_enters_wsX50 fmX5_enters_36 dX5_enters_39 ?_
    refine g_aload_n 42 hC dX5_enters_42 1 rfl ?_
    refine g_aload_n 43 hC dX5_enters_43 1 rfl ?_
    refine m_get_pc 44 hC fiX5_enters_wsX50 fmX5_enters_19 dX5_enters_44 ?_
    refine g_iconst 47 hC (2 : Int32) dX5_enters_47 (by decide) ?_
    refine g_iload_n 48 hC dX5_enters_48 0 rfl ?_
    refine g_imul 49 hC dX5_enters_49 ?_
    refine kX5_calls 50 hC (k2 h1) gX5_enters_X5_calls ⟨Nat.le_of_ble_eq_true rfl, Nat.le_of_ble_eq_true rfl⟩ dX5_enters_50 (Nat.le_of_ble_eq_true rfl) ?_
    refine g_aload_n 53 hC dX5_enters_53 1 rfl ?_
    refine g_aload_n 54 hC dX5_enters_54 1 rfl ?_
    refine m_get_next 55 hC fiX5_enters_wsX50 fmX5_enters_84 dX5_enters_55 ?_
    refine m_put_pc 58 hC fiX5_enters_wsX50 fmX5_enters_19 dX5_enters_58 ?_
    refine g_aload_n 61 hC dX5_enters_61 1 rfl ?_
    refine g_sipush 62 hC (128 : Int32) dX5_enters_62 (by decide) ?_
    refine g_iconst 65 hC (0 : Int32) dX5_enters_65 (by decide) ?_
    refine kX5_flag 66 hC gX5_enters_X5_flag ⟨Nat.le_of_ble_eq_true rfl, Nat.le_of_ble_eq_true rfl⟩ dX5_enters_66 (Nat.le_of_ble_eq_true rfl) ?_
    refine g_iconst 69 hC (1 : Int32) dX5_enters_69 (by decide) ?_
    exact g_iretW 70 hC dX5_enters_70
  · skip
    refine g_iconst 7 hC (3 : Int32) dX5_enters_7 (by decide) ?_
    exact g_iretW 8 hC dX5_enters_8
theorem kX5_enters {K : KT} {h : HM} {cc : ByteArray} {nL : Nat} {own : String} {Ts : List Cond} {rm : Room} {ret : Option FieldType} {T : ST × Option Value} {u : ST} {lv : List (Nat × Value)} {rest : List Value} {idx : Nat} (pc : Nat) (hC : Cx K (EM h) cc nL own Ts rm ret) (hok : okX5_enters u) (hT : GoodIn Ts (wsV own idx RX5 yX5_enters wsX5_enters)) (hR : rmX5_enters.frames + 1 ≤ rm.frames ∧ 8 + (2 + 11) + rmX5_enters.locals ≤ rm.locals) (hdg : decode cc pc = .ok (.invokevirtual idx, 3)) (hcat : (rest.map fun v => v.category).sum ≤ 8) (kk : G K (EM h) nL T (fX5_enters u).1 (pc + 3) lv (.int (fX5_enters u).2 :: rest)) : G K (EM h) nL T u pc lv (.ref (mO h) :: rest) := g_callV (n := 0) pc hC (As := []) (rest := rest) (cX5_enters_ _ (Cx.ok hC) u hok) hT rfl rfl rfl (by decide +kernel) hR 0 3 rfl rfl rfl rfl rfl hcat hdg kk

def fX5_stepOnce (u : ST) : ST × Int32 :=
  if (fX5_has (128 : Int32) u) = 0 then
    if (fX5_isIllegal (rC u (gPc u))) = 0 then
      ((if (fX5_does (rC u (gPc u)) (sNx u (((gPc u) + (1 : Int32)) &&& (1023 : Int32)))).2 = 0 then (sWa (sPc ((fX5_does (rC u (gPc u)) (sNx u (((gPc u) + (1 : Int32)) &&& (1023 : Int32)))).1) (gNx ((fX5_does (rC u (gPc u)) (sNx u (((gPc u) + (1 : Int32)) &&& (1023 : Int32)))).1))) (if (rC u (gPc u)) = (38008 : Int32) then (1 : Int32) else (if (rC u (gPc u)) = (38168 : Int32) then (1 : Int32) else (0 : Int32)))) else ((fX5_does (rC u (gPc u)) (sNx u (((gPc u) + (1 : Int32)) &&& (1023 : Int32)))).1)), (fX5_does (rC u (gPc u)) (sNx u (((gPc u) + (1 : Int32)) &&& (1023 : Int32)))).2)
    else
      (u, (2 : Int32))
  else
    if (gAs u) = 0 then
      if (fX5_isIllegal (rC u (gPc u))) = 0 then
        ((if (fX5_does (rC u (gPc u)) (sNx u (((gPc u) + (1 : Int32)) &&& (1023 : Int32)))).2 = 0 then (sWa (sPc ((fX5_does (rC u (gPc u)) (sNx u (((gPc u) + (1 : Int32)) &&& (1023 : Int32)))).1) (gNx ((fX5_does (rC u (gPc u)) (sNx u (((gPc u) + (1 : Int32)) &&& (1023 : Int32)))).1))) (if (rC u (gPc u)) = (38008 : Int32) then (1 : Int32) else (if (rC u (gPc u)) = (38168 : Int32) then (1 : Int32) else (0 : Int32)))) else ((fX5_does (rC u (gPc u)) (sNx u (((gPc u) + (1 : Int32)) &&& (1023 : Int32)))).1)), (fX5_does (rC u (gPc u)) (sNx u (((gPc u) + (1 : Int32)) &&& (1023 : Int32)))).2)
      else
        (u, (2 : Int32))
    else
      if (gWa u) = 0 then
        (fX5_enters u)
      else
        if (fX5_isIllegal (rC u (gPc u))) = 0 then
          ((if (fX5_does (rC u (gPc u)) (sNx u (((gPc u) + (1 : Int32)) &&& (1023 : Int32)))).2 = 0 then (sWa (sPc ((fX5_does (rC u (gPc u)) (sNx u (((gPc u) + (1 : Int32)) &&& (1023 : Int32)))).1) (gNx ((fX5_does (rC u (gPc u)) (sNx u (((gPc u) + (1 : Int32)) &&& (1023 : Int32)))).1))) (if (rC u (gPc u)) = (38008 : Int32) then (1 : Int32) else (if (rC u (gPc u)) = (38168 : Int32) then (1 : Int32) else (0 : Int32)))) else ((fX5_does (rC u (gPc u)) (sNx u (((gPc u) + (1 : Int32)) &&& (1023 : Int32)))).1)), (fX5_does (rC u (gPc u)) (sNx u (((gPc u) + (1 : Int32)) &&& (1023 : Int32)))).2)
        else
          (u, (2 : Int32))
def okX5_stepOnce (u : ST) : Prop := (((fX5_has (128 : Int32) u) = 0) → vp_in (gPc u) 1024) ∧ (((fX5_has (128 : Int32) u) = 0) → ((fX5_isIllegal (rC u (gPc u))) = 0) → okX5_does (rC u (gPc u)) (sNx u (((gPc u) + (1 : Int32)) &&& (1023 : Int32)))) ∧ ((¬ (fX5_has (128 : Int32) u) = 0) → ((gAs u) = 0) → vp_in (gPc u) 1024) ∧ ((¬ (fX5_has (128 : Int32) u) = 0) → ((gAs u) = 0) → ((fX5_isIllegal (rC u (gPc u))) = 0) → okX5_does (rC u (gPc u)) (sNx u (((gPc u) + (1 : Int32)) &&& (1023 : Int32)))) ∧ ((¬ (fX5_has (128 : Int32) u) = 0) → (¬ (gAs u) = 0) → (¬ (gWa u) = 0) → vp_in (gPc u) 1024) ∧ ((¬ (fX5_has (128 : Int32) u) = 0) → (¬ (gAs u) = 0) → (¬ (gWa u) = 0) → ((fX5_isIllegal (rC u (gPc u))) = 0) → okX5_does (rC u (gPc u)) (sNx u (((gPc u) + (1 : Int32)) &&& (1023 : Int32)))) ∧ ((¬ (fX5_has (128 : Int32) u) = 0) → (¬ (gAs u) = 0) → ((gWa u) = 0) → okX5_enters u) ∧ True
theorem fiX5_stepOnce_wsX50 : ∀ w ∈ wsX50, w ∈ wsX5_stepOnce := fun w h => List.mem_cons_of_mem _ (List.mem_append_right _ h)
theorem fmX5_stepOnce_7 : Cond.fieldLink RX5 7 "FlagCoreModel" "code" "[I" ∈ wsX5_stepOnce := List.mem_of_getElem? (i := 3) rfl
theorem fmX5_stepOnce_19 : Cond.fieldLink RX5 19 "FlagCoreModel" "pc" "I" ∈ wsX5_stepOnce := List.mem_of_getElem? (i := 4) rfl
theorem fmX5_stepOnce_84 : Cond.fieldLink RX5 84 "FlagCoreModel" "next" "I" ∈ wsX5_stepOnce := List.mem_of_getElem? (i := 5) rfl
theorem cmX5_stepOnce_203 : Jvm.Cond.constant RX5 203 (38008 : Int32) ∈ wsX5_stepOnce := List.mem_of_getElem? (i := 6) rfl
theorem cmX5_stepOnce_57 : Jvm.Cond.constant RX5 57 (38168 : Int32) ∈ wsX5_stepOnce := List.mem_of_getElem? (i := 7) rfl
theorem fmX5_stepOnce_32 : Cond.fieldLink RX5 32 "FlagCoreModel" "isWaited" "Z" ∈ wsX5_stepOnce := List.mem_of_getElem? (i := 2) rfl
theorem fmX5_stepOnce_36 : Cond.fieldLink RX5 36 "FlagCoreModel" "asked" "I" ∈ wsX5_stepOnce := List.mem_of_getElem? (i := 1) rfl
abbrev rmX5_stepOnce : Room := { frames := 7, cells := 0, slots := 0, locals := 157 }
set_option maxRecDepth 20000 in
theorem cX5_stepOnce_ (h : HM) (hE : okE (EM h)) (u : ST) (hok : okX5_stepOnce u) : MX (EM h) yX5_stepOnce wsX5_stepOnce rmX5_stepOnce [.ref (mO h)] u (tW (fX5_stepOnce u)) := by
  obtain ⟨k0, k1, k2, k3, k4, k5, k6, -⟩ := hok
  refine MX.of (cc := cX5_stepOnce) (maxL := 3) (ret := (some .int)) (lv := [(0, .ref (mO h))]) hE (by decide) rfl (fun _ => rfl) (Nat.le_of_ble_eq_true rfl) rfl (fun K hC => ?_)
  unfold fX5_stepOnce
  refine g_aload_n 0 hC dX5_stepOnce_0 0 rfl ?_
  refine g_sipush 1 hC (128 : Int32) dX5_stepOnce_1 (by decide) ?_
  refine kX5_has 4 hC gX5_stepOnce_X5_has ⟨Nat.le_of_ble_eq_true rfl, Nat.le_of_ble_eq_true rfl⟩ dX5_stepOnce_4 (Nat.le_of_ble_eq_true rfl) ?_
  refine g_if_eqT (tW) 7 hC 29 dX5_stepOnce_7 (by decide) (fun h1 => ?_) (fun h1 => ?_)
  · skip
    refine g_aload_n 29 hC dX5_stepOnce_29 0 rfl ?_
    refine m_get_code 30 hC fiX5_stepOnce_wsX50 fmX5_stepOnce_7 dX5_stepOnce_30 ?_
    refine g_aload_n 33 hC dX5_stepOnce_33 0 rfl ?_
    refine m_get_pc 34 hC fiX5_stepOnce_wsX50 fmX5_stepOnce_19 dX5_stepOnce_34 ?_
    refine m_ldC 37 hC (k0 h1) dX5_stepOnce_37 ?_
    refine g_istore_n 38 hC dX5_stepOnce_38 (by decide) [(1, .int ((rC u (gPc u)))), (0, .ref (mO h))] rfl ?_
    refine g_iload_n 39 hC dX5_stepOnce_39 0 rfl ?_
    refine kX5_isIllegal 40 hC gX5_stepOnce_X5_isIllegal ⟨Nat.le_of_ble_eq_true rfl, Nat.le_of_ble_eq_true rfl⟩ dX5_stepOnce_40 (Nat.le_of_ble_eq_true rfl) ?_
    refine g_if_eqT (tW) 43 hC 48 dX5_stepOnce_43 (by decide) (fun h2 => ?_) (fun h2 => ?_)
    · skip
      refine g_aload_n 48 hC dX5_stepOnce_48 1 rfl ?_
      refine g_aload_n 49 hC dX5_stepOnce_49 1 rfl ?_
      refine m_get_pc 50 hC fiX5_stepOnce_wsX50 fmX5_stepOnce_19 dX5_stepOnce_50 ?_
      refine g_iconst 53 hC (1 : Int32) dX5_stepOnce_53 (by decide) ?_
      refine g_iadd 54 hC dX5_stepOnce_54 ?_
      refine g_sipush 55 hC (1023 : Int32) dX5_stepOnce_55 (by decide) ?_
      refine g_iand 58 hC dX5_stepOnce_58 ?_
      refine m_put_next 59 hC fiX5_stepOnce_wsX50 fmX5_stepOnce_84 dX5_stepOnce_59 ?_
      refine g_aload_n 62 hC dX5_stepOnce_62 1 rfl ?_
      refine g_iload_n 63 hC dX5_stepOnce_63 0 rfl ?_
      refine kX5_does 64 hC (k1 h1 h2) gX5_stepOnce_X5_does ⟨Nat.le_of_ble_eq_true rfl, Nat.le_of_ble_eq_true rfl⟩ dX5_stepOnce_64 (Nat.le_of_ble_eq_true rfl) ?_
      refine g_istore_n 67 hC dX5_stepOnce_67 (by decide) [(2, .int ((fX5_does (rC u (gPc u)) (sNx u (((gPc u) + (1 : Int32)) &&& (1023 : Int32)))).2)), (1, .int ((rC u (gPc u)))), (0, .ref (mO h))] rfl ?_
      refine g_iload_n 68 hC dX5_stepOnce_68 0 rfl ?_
      refine g_cutS 101 (if (fX5_does (rC u (gPc u)) (sNx u (((gPc u) + (1 : Int32)) &&& (1023 : Int32)))).2 = 0 then (sWa (sPc ((fX5_does (rC u (gPc u)) (sNx u (((gPc u) + (1 : Int32)) &&& (1023 : Int32)))).1) (gNx ((fX5_does (rC u (gPc u)) (sNx u (((gPc u) + (1 : Int32)) &&& (1023 : Int32)))).1))) (if (rC u (gPc u)) = (38008 : Int32) then (1 : Int32) else (if (rC u (gPc u)) = (38168 : Int32) then (1 : Int32) else (0 : Int32)))) else ((fX5_does (rC u (gPc u)) (sNx u (((gPc u) + (1 : Int32)) &&& (1023 : Int32)))).1)) [] ?_ (fun J7 => ?_)
      · skip
        refine g_iload_n 101 hC dX5_stepOnce_101 0 rfl ?_
        exact g_iretW 102 hC dX5_stepOnce_102
      · skip
        refine g_if_ne 69 hC 101 dX5_stepOnce_69 (by decide) (fun h3 => ?_) (fun h3 => ?_)
        · skip
          exact J7 _ (Eq.symm (if_neg h3))
        · skip
          refine g_aload_n 72 hC dX5_stepOnce_72 2 rfl ?_
          refine g_aload_n 73 hC dX5_stepOnce_73 2 rfl ?_
          refine m_get_next 74 hC fiX5_stepOnce_wsX50 fmX5_stepOnce_84 dX5_stepOnce_74 ?_
          refine m_put_pc 77 hC fiX5_stepOnce_wsX50 fmX5_stepOnce_19 dX5_stepOnce_77 ?_
          refine g_aload_n 80 hC dX5_stepOnce_80 2 rfl ?_
          refine g_iload_n 81 hC dX5_stepOnce_81 1 rfl ?_
          refine g_ldc 82 hC (38008 : Int32) dX5_stepOnce_82 cmX5_stepOnce_203 ?_
          refine g_cut 98 (if (rC u (gPc u)) = (38008 : Int32) then (1 : Int32) else (if (rC u (gPc u)) = (38168 : Int32) then (1 : Int32) else (0 : Int32))) [.ref (mO h)] ?_ (fun J6 => ?_)
          · skip
            refine m_put_isWaited 98 hC fiX5_stepOnce_wsX50 fmX5_stepOnce_32 (nbI nb1 (nbI nb1 nb0)) dX5_stepOnce_98 ?_
            exact J7 _ (Eq.symm (if_pos h3))
          · skip
            refine g_icmp_eq 84 hC 93 dX5_stepOnce_84 (by decide) (fun h4 => ?_) (fun h4 => ?_)
            · skip
              refine g_iconst 93 hC (1 : Int32) dX5_stepOnce_93 (by decide) ?_
              refine g_goto 94 hC 98 dX5_stepOnce_94 (by decide) ?_
              exact J6 _ (Eq.symm (if_pos h4))
            · skip
              refine g_iload_n 87 hC dX5_stepOnce_87 1 rfl ?_
              refine g_ldc 88 hC (38168 : Int32) dX5_stepOnce_88 cmX5_stepOnce_57 ?_
              refine g_icmp_ne 90 hC 97 dX5_stepOnce_90 (by decide) (fun h5 => ?_) (fun h5 => ?_)
              · skip
                refine g_iconst 97 hC (0 : Int32) dX5_stepOnce_97 (by decide) ?_
                exact J6 _ (Eq.symm (Eq.trans (if_neg h4) (if_neg h5)))
              · skip
                refine g_iconst 93 hC (1 : Int32) dX5_stepOnce_93 (by decide) ?_
                refine g_goto 94 hC 98 dX5_stepOnce_94 (by decide) ?_
                exact J6 _ (Eq.symm (Eq.trans (if_neg h4) (if_pos h5)))
    · skip
      refine g_iconst 46 hC (2 : Int32) dX5_stepOnce_46 (by decide) ?_
      exact g_iretW 47 hC dX5_stepOnce_47
  · skip
    refine g_aload_n 10 hC dX5_stepOnce_10 0 rfl ?_
    refine m_get_asked 11 hC fiX5_stepOnce_wsX50 fmX5_stepOnce_36 dX5_stepOnce_11 ?_
    refine g_if_eqT (tW) 14 hC 29 dX5_stepOnce_14 (by decide) (fun h8 => ?_) (fun h8 => ?_)
    · skip
      refine g_aload_n 29 hC dX5_stepOnce_29 0 rfl ?_
      refine m_get_code 30 hC fiX5_stepOnce_wsX50 fmX5_stepOnce_7 dX5_stepOnce_30 ?_
      refine g_aload_n 33 hC dX5_stepOnce_33 0 rfl ?_
      refine m_get_pc 34 hC fiX5_stepOnce_wsX50 fmX5_stepOnce_19 dX5_stepOnce_34 ?_
      refine m_ldC 37 hC (k2 h1 h8) dX5_stepOnce_37 ?_
      refine g_istore_n 38 hC dX5_stepOnce_38 (by decide) [(1, .int ((rC u (gPc u)))), (0, .ref (mO h))] rfl ?_
      refine g_iload_n 39 hC dX5_stepOnce_39 0 rfl ?_
      refine kX5_isIllegal 40 hC gX5_stepOnce_X5_isIllegal ⟨Nat.le_of_ble_eq_true rfl, Nat.le_of_ble_eq_true rfl⟩ dX5_stepOnce_40 (Nat.le_of_ble_eq_true rfl) ?_
      refine g_if_eqT (tW) 43 hC 48 dX5_stepOnce_43 (by decide) (fun h9 => ?_) (fun h9 => ?_)
      · skip
        refine g_aload_n 48 hC dX5_stepOnce_48 1 rfl ?_
        refine g_aload_n 49 hC dX5_stepOnce_49 1 rfl ?_
        refine m_get_pc 50 hC fiX5_stepOnce_wsX50 fmX5_stepOnce_19 dX5_stepOnce_50 ?_
        refine g_iconst 53 hC (1 : Int32) dX5_stepOnce_53 (by decide) ?_
        refine g_iadd 54 hC dX5_stepOnce_54 ?_
        refine g_sipush 55 hC (1023 : Int32) dX5_stepOnce_55 (by decide) ?_
        refine g_iand 58 hC dX5_stepOnce_58 ?_
        refine m_put_next 59 hC fiX5_stepOnce_wsX50 fmX5_stepOnce_84 dX5_stepOnce_59 ?_
        refine g_aload_n 62 hC dX5_stepOnce_62 1 rfl ?_
        refine g_iload_n 63 hC dX5_stepOnce_63 0 rfl ?_
        refine kX5_does 64 hC (k3 h1 h8 h9) gX5_stepOnce_X5_does ⟨Nat.le_of_ble_eq_true rfl, Nat.le_of_ble_eq_true rfl⟩ dX5_stepOnce_64 (Nat.le_of_ble_eq_true rfl) ?_
        refine g_istore_n 67 hC dX5_stepOnce_67 (by decide) [(2, .int ((fX5_does (rC u (gPc u)) (sNx u (((gPc u) + (1 : Int32)) &&& (1023 : Int32)))).2)), (1, .int ((rC u (gPc u)))), (0, .ref (mO h))] rfl ?_
        refine g_iload_n 68 hC dX5_stepOnce_68 0 rfl ?_
        refine g_cutS 101 (if (fX5_does (rC u (gPc u)) (sNx u (((gPc u) + (1 : Int32)) &&& (1023 : Int32)))).2 = 0 then (sWa (sPc ((fX5_does (rC u (gPc u)) (sNx u (((gPc u) + (1 : Int32)) &&& (1023 : Int32)))).1) (gNx ((fX5_does (rC u (gPc u)) (sNx u (((gPc u) + (1 : Int32)) &&& (1023 : Int32)))).1))) (if (rC u (gPc u)) = (38008 : Int32) then (1 : Int32) else (if (rC u (gPc u)) = (38168 : Int32) then (1 : Int32) else (0 : Int32)))) else ((fX5_does (rC u (gPc u)) (sNx u (((gPc u) + (1 : Int32)) &&& (1023 : Int32)))).1)) [] ?_ (fun J14 => ?_)
        · skip
          refine g_iload_n 101 hC dX5_stepOnce_101 0 rfl ?_
          exact g_iretW 102 hC dX5_stepOnce_102
        · skip
          refine g_if_ne 69 hC 101 dX5_stepOnce_69 (by decide) (fun h10 => ?_) (fun h10 => ?_)
          · skip
            exact J14 _ (Eq.symm (if_neg h10))
          · skip
            refine g_aload_n 72 hC dX5_stepOnce_72 2 rfl ?_
            refine g_aload_n 73 hC dX5_stepOnce_73 2 rfl ?_
            refine m_get_next 74 hC fiX5_stepOnce_wsX50 fmX5_stepOnce_84 dX5_stepOnce_74 ?_
            refine m_put_pc 77 hC fiX5_stepOnce_wsX50 fmX5_stepOnce_19 dX5_stepOnce_77 ?_
            refine g_aload_n 80 hC dX5_stepOnce_80 2 rfl ?_
            refine g_iload_n 81 hC dX5_stepOnce_81 1 rfl ?_
            refine g_ldc 82 hC (38008 : Int32) dX5_stepOnce_82 cmX5_stepOnce_203 ?_
            refine g_cut 98 (if (rC u (gPc u)) = (38008 : Int32) then (1 : Int32) else (if (rC u (gPc u)) = (38168 : Int32) then (1 : Int32) else (0 : Int32))) [.ref (mO h)] ?_ (fun J13 => ?_)
            · skip
              refine m_put_isWaited 98 hC fiX5_stepOnce_wsX50 fmX5_stepOnce_32 (nbI nb1 (nbI nb1 nb0)) dX5_stepOnce_98 ?_
              exact J14 _ (Eq.symm (if_pos h10))
            · skip
              refine g_icmp_eq 84 hC 93 dX5_stepOnce_84 (by decide) (fun h11 => ?_) (fun h11 => ?_)
              · skip
                refine g_iconst 93 hC (1 : Int32) dX5_stepOnce_93 (by decide) ?_
                refine g_goto 94 hC 98 dX5_stepOnce_94 (by decide) ?_
                exact J13 _ (Eq.symm (if_pos h11))
              · skip
                refine g_iload_n 87 hC dX5_stepOnce_87 1 rfl ?_
                refine g_ldc 88 hC (38168 : Int32) dX5_stepOnce_88 cmX5_stepOnce_57 ?_
                refine g_icmp_ne 90 hC 97 dX5_stepOnce_90 (by decide) (fun h12 => ?_) (fun h12 => ?_)
                · skip
                  refine g_iconst 97 hC (0 : Int32) dX5_stepOnce_97 (by decide) ?_
                  exact J13 _ (Eq.symm (Eq.trans (if_neg h11) (if_neg h12)))
                · skip
                  refine g_iconst 93 hC (1 : Int32) dX5_stepOnce_93 (by decide) ?_
                  refine g_goto 94 hC 98 dX5_stepOnce_94 (by decide) ?_
                  exact J13 _ (Eq.symm (Eq.trans (if_neg h11) (if_pos h12)))
      · skip
        refine g_iconst 46 hC (2 : Int32) dX5_stepOnce_46 (by decide) ?_
        exact g_iretW 47 hC dX5_stepOnce_47
    · skip
      refine g_aload_n 17 hC dX5_stepOnce_17 0 rfl ?_
      refine m_get_isWaited 18 hC fiX5_stepOnce_wsX50 fmX5_stepOnce_32 dX5_stepOnce_18 ?_
      refine g_if_neT (tW) 21 hC 29 dX5_stepOnce_21 (by decide) (fun h15 => ?_) (fun h15 => ?_)
      · skip
        refine g_aload_n 29 hC dX5_stepOnce_29 0 rfl ?_
        refine m_get_code 30 hC fiX5_stepOnce_wsX50 fmX5_stepOnce_7 dX5_stepOnce_30 ?_
        refine g_aload_n 33 hC dX5_stepOnce_33 0 rfl ?_
        refine m_get_pc 34 hC fiX5_stepOnce_wsX50 fmX5_stepOnce_19 dX5_stepOnce_34 ?_
        refine m_ldC 37 hC (k4 h1 h8 h15) dX5_stepOnce_37 ?_
        refine g_istore_n 38 hC dX5_stepOnce_38 (by decide) [(1, .int ((rC u (gPc u)))), (0, .ref (mO h))] rfl ?_
        refine g_iload_n 39 hC dX5_stepOnce_39 0 rfl ?_
        refine kX5_isIllegal 40 hC gX5_stepOnce_X5_isIllegal ⟨Nat.le_of_ble_eq_true rfl, Nat.le_of_ble_eq_true rfl⟩ dX5_stepOnce_40 (Nat.le_of_ble_eq_true rfl) ?_
        refine g_if_eqT (tW) 43 hC 48 dX5_stepOnce_43 (by decide) (fun h16 => ?_) (fun h16 => ?_)
        · skip
          refine g_aload_n 48 hC dX5_stepOnce_48 1 rfl ?_
          refine g_aload_n 49 hC dX5_stepOnce_49 1 rfl ?_
          refine m_get_pc 50 hC fiX5_stepOnce_wsX50 fmX5_stepOnce_19 dX5_stepOnce_50 ?_
          refine g_iconst 53 hC (1 : Int32) dX5_stepOnce_53 (by decide) ?_
          refine g_iadd 54 hC dX5_stepOnce_54 ?_
          refine g_sipush 55 hC (1023 : Int32) dX5_stepOnce_55 (by decide) ?_
          refine g_iand 58 hC dX5_stepOnce_58 ?_
          refine m_put_next 59 hC fiX5_stepOnce_wsX50 fmX5_stepOnce_84 dX5_stepOnce_59 ?_
          refine g_aload_n 62 hC dX5_stepOnce_62 1 rfl ?_
          refine g_iload_n 63 hC dX5_stepOnce_63 0 rfl ?_
          refine kX5_does 64 hC (k5 h1 h8 h15 h16) gX5_stepOnce_X5_does ⟨Nat.le_of_ble_eq_true rfl, Nat.le_of_ble_eq_true rfl⟩ dX5_stepOnce_64 (Nat.le_of_ble_eq_true rfl) ?_
          refine g_istore_n 67 hC dX5_stepOnce_67 (by decide) [(2, .int ((fX5_does (rC u (gPc u)) (sNx u (((gPc u) + (1 : Int32)) &&& (1023 : Int32)))).2)), (1, .int ((rC u (gPc u)))), (0, .ref (mO h))] rfl ?_
          refine g_iload_n 68 hC dX5_stepOnce_68 0 rfl ?_
          refine g_cutS 101 (if (fX5_does (rC u (gPc u)) (sNx u (((gPc u) + (1 : Int32)) &&& (1023 : Int32)))).2 = 0 then (sWa (sPc ((fX5_does (rC u (gPc u)) (sNx u (((gPc u) + (1 : Int32)) &&& (1023 : Int32)))).1) (gNx ((fX5_does (rC u (gPc u)) (sNx u (((gPc u) + (1 : Int32)) &&& (1023 : Int32)))).1))) (if (rC u (gPc u)) = (38008 : Int32) then (1 : Int32) else (if (rC u (gPc u)) = (38168 : Int32) then (1 : Int32) else (0 : Int32)))) else ((fX5_does (rC u (gPc u)) (sNx u (((gPc u) + (1 : Int32)) &&& (1023 : Int32)))).1)) [] ?_ (fun J21 => ?_)
          · skip
            refine g_iload_n 101 hC dX5_stepOnce_101 0 rfl ?_
            exact g_iretW 102 hC dX5_stepOnce_102
          · skip
            refine g_if_ne 69 hC 101 dX5_stepOnce_69 (by decide) (fun h17 => ?_) (fun h17 => ?_)
            · skip
              exact J21 _ (Eq.symm (if_neg h17))
            · skip
              refine g_aload_n 72 hC dX5_stepOnce_72 2 rfl ?_
              refine g_aload_n 73 hC dX5_stepOnce_73 2 rfl ?_
              refine m_get_next 74 hC fiX5_stepOnce_wsX50 fmX5_stepOnce_84 dX5_stepOnce_74 ?_
              refine m_put_pc 77 hC fiX5_stepOnce_wsX50 fmX5_stepOnce_19 dX5_stepOnce_77 ?_
              refine g_aload_n 80 hC dX5_stepOnce_80 2 rfl ?_
              refine g_iload_n 81 hC dX5_stepOnce_81 1 rfl ?_
              refine g_ldc 82 hC (38008 : Int32) dX5_stepOnce_82 cmX5_stepOnce_203 ?_
              refine g_cut 98 (if (rC u (gPc u)) = (38008 : Int32) then (1 : Int32) else (if (rC u (gPc u)) = (38168 : Int32) then (1 : Int32) else (0 : Int32))) [.ref (mO h)] ?_ (fun J20 => ?_)
              · skip
                refine m_put_isWaited 98 hC fiX5_stepOnce_wsX50 fmX5_stepOnce_32 (nbI nb1 (nbI nb1 nb0)) dX5_stepOnce_98 ?_
                exact J21 _ (Eq.symm (if_pos h17))
              · skip
                refine g_icmp_eq 84 hC 93 dX5_stepOnce_84 (by decide) (fun h18 => ?_) (fun h18 => ?_)
                · skip
                  refine g_iconst 93 hC (1 : Int32) dX5_stepOnce_93 (by decide) ?_
                  refine g_goto 94 hC 98 dX5_stepOnce_94 (by decide) ?_
                  exact J20 _ (Eq.symm (if_pos h18))
                · skip
                  refine g_iload_n 87 hC dX5_stepOnce_87 1 rfl ?_
                  refine g_ldc 88 hC (38168 : Int32) dX5_stepOnce_88 cmX5_stepOnce_57 ?_
                  refine g_icmp_ne 90 hC 97 dX5_stepOnce_90 (by decide) (fun h19 => ?_) (fun h19 => ?_)
                  · skip
                    refine g_iconst 97 hC (0 : Int32) dX5_stepOnce_97 (by decide) ?_
                    exact J20 _ (Eq.symm (Eq.trans (if_neg h18) (if_neg h19)))
                  · skip
                    refine g_iconst 93 hC (1 : Int32) dX5_stepOnce_93 (by decide) ?_
                    refine g_goto 94 hC 98 dX5_stepOnce_94 (by decide) ?_
                    exact J20 _ (Eq.symm (Eq.trans (if_neg h18) (if_pos h19)))
        · skip
          refine g_iconst 46 hC (2 : Int32) dX5_stepOnce_46 (by decide) ?_
          exact g_iretW 47 hC dX5_stepOnce_47
      · skip
        refine g_aload_n 24 hC dX5_stepOnce_24 0 rfl ?_
        refine kX5_enters 25 hC (k6 h1 h8 h15) gX5_stepOnce_X5_enters ⟨Nat.le_of_ble_eq_true rfl, Nat.le_of_ble_eq_true rfl⟩ dX5_stepOnce_25 (Nat.le_of_ble_eq_true rfl) ?_
        exact g_iret 28 hC dX5_stepOnce_28
theorem kX5_stepOnce {K : KT} {h : HM} {cc : ByteArray} {nL : Nat} {own : String} {Ts : List Cond} {rm : Room} {ret : Option FieldType} {T : ST × Option Value} {u : ST} {lv : List (Nat × Value)} {rest : List Value} {idx : Nat} (pc : Nat) (hC : Cx K (EM h) cc nL own Ts rm ret) (hok : okX5_stepOnce u) (hT : GoodIn Ts (wsV own idx RX5 yX5_stepOnce wsX5_stepOnce)) (hR : rmX5_stepOnce.frames + 1 ≤ rm.frames ∧ 8 + (3 + 11) + rmX5_stepOnce.locals ≤ rm.locals) (hdg : decode cc pc = .ok (.invokevirtual idx, 3)) (hcat : (rest.map fun v => v.category).sum ≤ 8) (kk : G K (EM h) nL T (fX5_stepOnce u).1 (pc + 3) lv (.int (fX5_stepOnce u).2 :: rest)) : G K (EM h) nL T u pc lv (.ref (mO h) :: rest) := g_callV (n := 0) pc hC (As := []) (rest := rest) (cX5_stepOnce_ _ (Cx.ok hC) u hok) hT rfl rfl rfl (by decide +kernel) hR 0 3 rfl rfl rfl rfl rfl hcat hdg kk

def fX5_step (u : ST) : ST × Int32 :=
  ((wN (sEn ((fX5_stepOnce u).1) (fX5_stepOnce u).2) (gEn (sEn ((fX5_stepOnce u).1) (fX5_stepOnce u).2)) ((rN (sEn ((fX5_stepOnce u).1) (fX5_stepOnce u).2) (gEn (sEn ((fX5_stepOnce u).1) (fX5_stepOnce u).2))) + (1 : Int32))), (gEn (wN (sEn ((fX5_stepOnce u).1) (fX5_stepOnce u).2) (gEn (sEn ((fX5_stepOnce u).1) (fX5_stepOnce u).2)) ((rN (sEn ((fX5_stepOnce u).1) (fX5_stepOnce u).2) (gEn (sEn ((fX5_stepOnce u).1) (fX5_stepOnce u).2))) + (1 : Int32)))))
def okX5_step (u : ST) : Prop := (okX5_stepOnce u) ∧ (vp_in (gEn (sEn ((fX5_stepOnce u).1) (fX5_stepOnce u).2)) 7) ∧ True
theorem fiX5_step_wsX50 : ∀ w ∈ wsX50, w ∈ wsX5_step := fun w h => List.mem_cons_of_mem _ (List.mem_append_right _ h)
theorem fmX5_step_207 : Cond.fieldLink RX5 207 "FlagCoreModel" "ended" "I" ∈ wsX5_step := List.mem_of_getElem? (i := 1) rfl
theorem fmX5_step_16 : Cond.fieldLink RX5 16 "FlagCoreModel" "count" "[I" ∈ wsX5_step := List.mem_of_getElem? (i := 2) rfl
abbrev rmX5_step : Room := { frames := 8, cells := 0, slots := 0, locals := 179 }
set_option maxRecDepth 20000 in
theorem cX5_step_ (h : HM) (hE : okE (EM h)) (u : ST) (hok : okX5_step u) : MX (EM h) yX5_step wsX5_step rmX5_step [.ref (mO h)] u (tW (fX5_step u)) := by
  obtain ⟨k0, k1, -⟩ := hok
  refine MX.of (cc := cX5_step) (maxL := 1) (ret := (some .int)) (lv := [(0, .ref (mO h))]) hE (by decide) rfl (fun _ => rfl) (Nat.le_of_ble_eq_true rfl) rfl (fun K hC => ?_)
  unfold fX5_step
  refine g_aload_n 0 hC dX5_step_0 0 rfl ?_
  refine g_aload_n 1 hC dX5_step_1 0 rfl ?_
  refine kX5_stepOnce 2 hC k0 gX5_step_X5_stepOnce ⟨Nat.le_of_ble_eq_true rfl, Nat.le_of_ble_eq_true rfl⟩ dX5_step_2 (Nat.le_of_ble_eq_true rfl) ?_
  refine m_put_ended 5 hC fiX5_step_wsX50 fmX5_step_207 dX5_step_5 ?_
  refine g_aload_n 8 hC dX5_step_8 0 rfl ?_
  refine m_get_count 9 hC fiX5_step_wsX50 fmX5_step_16 dX5_step_9 ?_
  refine g_aload_n 12 hC dX5_step_12 0 rfl ?_
  refine m_get_ended 13 hC fiX5_step_wsX50 fmX5_step_207 dX5_step_13 ?_
  refine g_dup2 16 hC dX5_step_16 rfl rfl ?_
  refine m_ldN 17 hC k1 dX5_step_17 ?_
  refine g_iconst 18 hC (1 : Int32) dX5_step_18 (by decide) ?_
  refine g_iadd 19 hC dX5_step_19 ?_
  refine m_stN 20 hC k1 dX5_step_20 ?_
  refine g_aload_n 21 hC dX5_step_21 0 rfl ?_
  refine m_get_ended 22 hC fiX5_step_wsX50 fmX5_step_207 dX5_step_22 ?_
  exact g_iretW 25 hC dX5_step_25
theorem kX5_step {K : KT} {h : HM} {cc : ByteArray} {nL : Nat} {own : String} {Ts : List Cond} {rm : Room} {ret : Option FieldType} {T : ST × Option Value} {u : ST} {lv : List (Nat × Value)} {rest : List Value} {idx : Nat} (pc : Nat) (hC : Cx K (EM h) cc nL own Ts rm ret) (hok : okX5_step u) (hT : GoodIn Ts (wsV own idx RX5 yX5_step wsX5_step)) (hR : rmX5_step.frames + 1 ≤ rm.frames ∧ 8 + (1 + 11) + rmX5_step.locals ≤ rm.locals) (hdg : decode cc pc = .ok (.invokevirtual idx, 3)) (hcat : (rest.map fun v => v.category).sum ≤ 8) (kk : G K (EM h) nL T (fX5_step u).1 (pc + 3) lv (.int (fX5_step u).2 :: rest)) : G K (EM h) nL T u pc lv (.ref (mO h) :: rest) := g_callV (n := 0) pc hC (As := []) (rest := rest) (cX5_step_ _ (Cx.ok hC) u hok) hT rfl rfl rfl (by decide +kernel) hR 0 3 rfl rfl rfl rfl rfl hcat hdg kk

def runM : Nat → Nat → ST → ST × Int32
  | 0, i, u => (u, nI i)
  | n + 1, i, u => if 2 ≤ (fX5_step u).2 then ((fX5_step u).1, nI i) else runM n (i + 1) (fX5_step u).1
def okRun : Nat → ST → Prop
  | 0, _ => True
  | n + 1, u => okX5_step u ∧ (¬ 2 ≤ (fX5_step u).2 → okRun n (fX5_step u).1)
def fX5_run (a1 : Int32) (u : ST) : ST × Int32 :=
  if (fX5_in a1 (1 : Int32) (3000 : Int32)) = 0 then
    (u, (-1 : Int32))
  else
    (runM (Int32.toNatClampNeg a1) 0 u)
def okX5_run (a1 : Int32) (u : ST) : Prop := ((¬ (fX5_in a1 (1 : Int32) (3000 : Int32)) = 0) → okRun (Int32.toNatClampNeg a1) u) ∧ True
abbrev rmX5_run : Room := { frames := 9, cells := 0, slots := 0, locals := 199 }
theorem X5_runLoop1 {K : KT} {h : HM} {rm : Room} (hC : Cx K (EM h) cX5_run 4 yX5_run.cls wsX5_run rm (some .int)) (hR : rmX5_step.frames + 1 ≤ rm.frames ∧ 8 + (1 + 11) + rmX5_step.locals ≤ rm.locals) (N : Nat) (hN : N ≤ 3000) : ∀ (n i : Nat) (u : ST), okRun n u → i + n = N → G K (EM h) 4 (tW (runM n i u)) u 17 [(2, .int (nI i)), (3, .int 1), (1, .int (nI N)), (0, .ref (mO h))] [] := by
  intro n
  induction n with
  | zero =>
    intro i u _ hi
    refine g_iload_n 17 hC dX5_run_17 1 rfl ?_
    refine g_if_eq 18 hC 55 dX5_run_18 (by decide) (fun h2 => absurd h2 (by decide)) (fun _ => ?_)
    refine g_iload_n 21 hC dX5_run_21 0 rfl ?_
    refine g_iload_n 22 hC dX5_run_22 2 rfl ?_
    refine g_icmp_ge 23 hC 55 dX5_run_23 (by decide) (fun _ => ?_) (fun h2 => absurd (nI_le (by omega) (by omega)) h2)
    refine g_iload_n 55 hC dX5_run_55 0 rfl ?_
    exact g_iret 56 hC dX5_run_56
  | succ n ih =>
    intro i u hok hi
    refine g_iload_n 17 hC dX5_run_17 1 rfl ?_
    refine g_if_eq 18 hC 55 dX5_run_18 (by decide) (fun h2 => absurd h2 (by decide)) (fun _ => ?_)
    refine g_iload_n 21 hC dX5_run_21 0 rfl ?_
    refine g_iload_n 22 hC dX5_run_22 2 rfl ?_
    refine g_icmp_ge 23 hC 55 dX5_run_23 (by decide) (fun h2 => absurd h2 (nI_ge (by omega) (by omega))) (fun _ => ?_)
    refine g_aload_n 26 hC dX5_run_26 3 rfl ?_
    refine kX5_step 27 hC hok.1 gX5_run_X5_step hR dX5_run_27 (Nat.le_of_ble_eq_true rfl) ?_
    refine g_iconst 30 hC (2 : Int32) dX5_run_30 (by decide) ?_
    unfold runM
    refine g_icmp_geT (tW) 31 hC 38 dX5_run_31 (by decide) (fun h3 => ?_) (fun h3 => ?_)
    · refine g_iconst 38 hC (0 : Int32) dX5_run_38 (by decide) ?_
      refine g_istore_n 39 hC dX5_run_39 (by decide) [(3, .int 0), (2, .int (nI i)), (1, .int (nI N)), (0, .ref (mO h))] rfl ?_
      refine g_iload_n 40 hC dX5_run_40 1 rfl ?_
      refine g_iload_n 41 hC dX5_run_41 0 rfl ?_
      refine g_if_eq 42 hC 49 dX5_run_42 (by decide) (fun _ => ?_) (fun h2 => absurd rfl h2)
      refine g_iconst 49 hC (0 : Int32) dX5_run_49 (by decide) ?_
      refine g_iadd 50 hC dX5_run_50 ?_
      rw [show nI i + (0 : Int32) = nI i by exact nI_add i 0]
      refine g_istore_n 51 hC dX5_run_51 (by decide) [(2, .int (nI i)), (3, .int 0), (1, .int (nI N)), (0, .ref (mO h))] rfl ?_
      refine g_goto 52 hC 17 dX5_run_52 (by decide) ?_
      refine g_iload_n 17 hC dX5_run_17 1 rfl ?_
      refine g_if_eq 18 hC 55 dX5_run_18 (by decide) (fun _ => ?_) (fun h2 => absurd rfl h2)
      refine g_iload_n 55 hC dX5_run_55 0 rfl ?_
      exact g_iret 56 hC dX5_run_56
    · refine g_iconst 34 hC (1 : Int32) dX5_run_34 (by decide) ?_
      refine g_goto 35 hC 39 dX5_run_35 (by decide) ?_
      refine g_istore_n 39 hC dX5_run_39 (by decide) [(3, .int 1), (2, .int (nI i)), (1, .int (nI N)), (0, .ref (mO h))] rfl ?_
      refine g_iload_n 40 hC dX5_run_40 1 rfl ?_
      refine g_iload_n 41 hC dX5_run_41 0 rfl ?_
      refine g_if_eq 42 hC 49 dX5_run_42 (by decide) (fun h2 => absurd h2 (by decide)) (fun _ => ?_)
      refine g_iconst 45 hC (1 : Int32) dX5_run_45 (by decide) ?_
      refine g_goto 46 hC 50 dX5_run_46 (by decide) ?_
      refine g_iadd 50 hC dX5_run_50 ?_
      rw [nI_1 i]
      refine g_istore_n 51 hC dX5_run_51 (by decide) [(2, .int (nI (i + 1))), (3, .int 1), (1, .int (nI N)), (0, .ref (mO h))] rfl ?_
      refine g_goto 52 hC 17 dX5_run_52 (by decide) ?_
      exact ih (i + 1) _ (hok.2 h3) (by omega)
theorem X5_runLoop {K : KT} {h : HM} {rm : Room} {a1 : Int32} {u : ST} (hC : Cx K (EM h) cX5_run 4 yX5_run.cls wsX5_run rm (some .int)) (hR : rmX5_step.frames + 1 ≤ rm.frames ∧ 8 + (1 + 11) + rmX5_step.locals ≤ rm.locals) (hin : ¬ fX5_in a1 (1 : Int32) (3000 : Int32) = 0) (hok : okRun a1.toNatClampNeg u) : G K (EM h) 4 (tW (runM a1.toNatClampNeg 0 u)) u 17 [(3, .int (1 : Int32)), (2, .int (0 : Int32)), (0, .ref (mO h)), (1, .int a1)] [] := by
  have h12 : ¬ a1 < 1 ∧ a1 ≤ 3000 := by
    unfold fX5_in at hin
    constructor
    · intro q
      rw [if_pos q] at hin
      exact hin rfl
    · by_cases q : a1 < 1
      · rw [if_pos q] at hin; exact absurd rfl hin
      · rw [if_neg q] at hin
        by_cases q2 : a1 ≤ 3000
        · exact q2
        · simp [q2] at hin
  obtain ⟨h1, h2⟩ := h12
  have h3 : ¬ a1 < 0 := fun q => h1 (Int32.lt_iff_toInt_lt.mpr (by have := Int32.lt_iff_toInt_lt.mp q; have e0 : (0 : Int32).toInt = 0 := by decide
                                                                   have e1 : (1 : Int32).toInt = 1 := by decide
                                                                   omega))
  obtain ⟨N, hN, rfl⟩ := nI_of2 (M := (3000 : Int32)) (n := 3000) (by decide) h3 h2
  rw [nI_clamp (by omega)] at hok ⊢
  exact g_sub [1, 0, 3, 2] _ rfl (X5_runLoop1 hC hR N hN N 0 u hok (by omega))
set_option maxRecDepth 20000 in
theorem cX5_run_ (h : HM) (hE : okE (EM h)) (a1 : Int32) (u : ST) (hok : okX5_run a1 u) : MX (EM h) yX5_run wsX5_run rmX5_run [.ref (mO h), .int a1] u (tW (fX5_run a1 u)) := by
  obtain ⟨k0, -⟩ := hok
  refine MX.of (cc := cX5_run) (maxL := 4) (ret := (some .int)) (lv := [(0, .ref (mO h)), (1, .int a1)]) hE (by decide) rfl (fun _ => rfl) (Nat.le_of_ble_eq_true rfl) rfl (fun K hC => ?_)
  unfold fX5_run
  refine g_iload_n 0 hC dX5_run_0 1 rfl ?_
  refine g_iconst 1 hC (1 : Int32) dX5_run_1 (by decide) ?_
  refine g_sipush 2 hC (3000 : Int32) dX5_run_2 (by decide) ?_
  refine kX5_in 5 hC gX5_run_X5_in ⟨Nat.le_of_ble_eq_true rfl, Nat.le_of_ble_eq_true rfl⟩ dX5_run_5 (Nat.le_of_ble_eq_true rfl) ?_
  refine g_if_neT (tW) 8 hC 13 dX5_run_8 (by decide) (fun h1 => ?_) (fun h1 => ?_)
  · skip
    refine g_iconst 13 hC (0 : Int32) dX5_run_13 (by decide) ?_
    refine g_istore_n 14 hC dX5_run_14 (by decide) [(2, .int ((0 : Int32))), (0, .ref (mO h)), (1, .int a1)] rfl ?_
    refine g_iconst 15 hC (1 : Int32) dX5_run_15 (by decide) ?_
    refine g_istore_n 16 hC dX5_run_16 (by decide) [(3, .int ((1 : Int32))), (2, .int ((0 : Int32))), (0, .ref (mO h)), (1, .int a1)] rfl ?_
    exact X5_runLoop hC ⟨Nat.le_of_ble_eq_true rfl, Nat.le_of_ble_eq_true rfl⟩ h1 (k0 h1)
  · skip
    refine g_iconst 11 hC (-1 : Int32) dX5_run_11 (by decide) ?_
    exact g_iretW 12 hC dX5_run_12
theorem kX5_run {K : KT} {h : HM} {cc : ByteArray} {nL : Nat} {own : String} {Ts : List Cond} {rm : Room} {ret : Option FieldType} {T : ST × Option Value} {u : ST} {lv : List (Nat × Value)} {rest : List Value} {idx : Nat} {a1 : Int32} (pc : Nat) (hC : Cx K (EM h) cc nL own Ts rm ret) (hok : okX5_run a1 u) (hT : GoodIn Ts (wsV own idx RX5 yX5_run wsX5_run)) (hR : rmX5_run.frames + 1 ≤ rm.frames ∧ 8 + (4 + 11) + rmX5_run.locals ≤ rm.locals) (hdg : decode cc pc = .ok (.invokevirtual idx, 3)) (hcat : (rest.map fun v => v.category).sum ≤ 8) (kk : G K (EM h) nL T (fX5_run a1 u).1 (pc + 3) lv (.int (fX5_run a1 u).2 :: rest)) : G K (EM h) nL T u pc lv (.int a1 :: .ref (mO h) :: rest) := g_callV (n := 1) pc hC (As := [.int a1]) (rest := rest) (cX5_run_ _ (Cx.ok hC) a1 u hok) hT rfl rfl rfl (by decide +kernel) hR 0 3 rfl rfl rfl rfl rfl hcat hdg kk

def fX5_ended (u : ST) : Int32 :=
  (gEn u)
theorem fiX5_ended_wsX50 : ∀ w ∈ wsX50, w ∈ wsX5_ended := fun w h => List.mem_cons_of_mem _ (List.mem_append_right _ h)
theorem fmX5_ended_207 : Cond.fieldLink RX5 207 "FlagCoreModel" "ended" "I" ∈ wsX5_ended := List.mem_of_getElem? (i := 1) rfl
abbrev rmX5_ended : Room := { frames := 0, cells := 0, slots := 0, locals := 0 }
set_option maxRecDepth 20000 in
theorem cX5_ended_ (h : HM) (hE : okE (EM h)) (u : ST) : MX (EM h) yX5_ended wsX5_ended rmX5_ended [.ref (mO h)] u (tR u (fX5_ended u)) := by
  refine MX.of (cc := cX5_ended) (maxL := 1) (ret := (some .int)) (lv := [(0, .ref (mO h))]) hE (by decide) rfl (fun _ => rfl) (Nat.le_of_ble_eq_true rfl) rfl (fun K hC => ?_)
  unfold fX5_ended
  refine g_aload_n 0 hC dX5_ended_0 0 rfl ?_
  refine m_get_ended 1 hC fiX5_ended_wsX50 fmX5_ended_207 dX5_ended_1 ?_
  exact g_iretR 4 hC dX5_ended_4
theorem kX5_ended {K : KT} {h : HM} {cc : ByteArray} {nL : Nat} {own : String} {Ts : List Cond} {rm : Room} {ret : Option FieldType} {T : ST × Option Value} {u : ST} {lv : List (Nat × Value)} {rest : List Value} {idx : Nat} (pc : Nat) (hC : Cx K (EM h) cc nL own Ts rm ret) (hT : GoodIn Ts (wsV own idx RX5 yX5_ended wsX5_ended)) (hR : rmX5_ended.frames + 1 ≤ rm.frames ∧ 8 + (1 + 11) + rmX5_ended.locals ≤ rm.locals) (hdg : decode cc pc = .ok (.invokevirtual idx, 3)) (hcat : (rest.map fun v => v.category).sum ≤ 8) (kk : G K (EM h) nL T u (pc + 3) lv (.int (fX5_ended u) :: rest)) : G K (EM h) nL T u pc lv (.ref (mO h) :: rest) := g_callV (n := 0) pc hC (As := []) (rest := rest) (cX5_ended_ _ (Cx.ok hC) u) hT rfl rfl rfl (by decide +kernel) hR 0 3 rfl rfl rfl rfl rfl hcat hdg kk

def fX5_digest (u : ST) : Int32 :=
  (((31 : Int32) * (dg u 1024)) + (gPc u))
theorem fiX5_digest_wsX50 : ∀ w ∈ wsX50, w ∈ wsX5_digest := fun w h => List.mem_cons_of_mem _ (List.mem_append_right _ h)
theorem fmX5_digest_13 : Cond.fieldLink RX5 13 "FlagCoreModel" "data" "[I" ∈ wsX5_digest := List.mem_of_getElem? (i := 1) rfl
theorem fmX5_digest_19 : Cond.fieldLink RX5 19 "FlagCoreModel" "pc" "I" ∈ wsX5_digest := List.mem_of_getElem? (i := 2) rfl
abbrev rmX5_digest : Room := { frames := 0, cells := 0, slots := 0, locals := 0 }
theorem X5_digestLoop {K : KT} {h : HM} {T : ST × Option Value} {u : ST} {rm : Room} (hC : Cx K (EM h) cX5_digest 3 yX5_digest.cls wsX5_digest rm (some .int)) : ∀ (n k : Nat), k + n = 1024 → G K (EM h) 3 T u 30 [(2, .int (nI 1024)), (1, .int (dg u 1024)), (0, .ref (mO h))] [] → G K (EM h) 3 T u 5 [(2, .int (nI k)), (1, .int (dg u k)), (0, .ref (mO h))] [] := by
  intro n
  induction n with
  | zero =>
    intro k hk kk
    obtain rfl : k = 1024 := by omega
    refine g_iload_n 5 hC dX5_digest_5 0 rfl ?_
    refine g_sipush 6 hC (1024 : Int32) dX5_digest_6 (by decide) ?_
    refine g_icmp_ge 9 hC 30 dX5_digest_9 (by decide) (fun _ => kk) (fun h2 => absurd (show nI 1024 ≤ nI 1024 from nI_le (by decide) (by decide)) h2)
  | succ n ih =>
    intro k hk kk
    refine g_iload_n 5 hC dX5_digest_5 0 rfl ?_
    refine g_sipush 6 hC (1024 : Int32) dX5_digest_6 (by decide) ?_
    refine g_icmp_ge 9 hC 30 dX5_digest_9 (by decide) (fun h2 => absurd h2 (show ¬ nI 1024 ≤ nI k from nI_ge (by omega) (by decide))) (fun _ => ?_)
    refine g_bipush 12 hC (31 : Int32) dX5_digest_12 (by decide) ?_
    refine g_iload_n 14 hC dX5_digest_14 1 rfl ?_
    refine g_imul 15 hC dX5_digest_15 ?_
    refine g_aload_n 16 hC dX5_digest_16 2 rfl ?_
    refine m_get_data 17 hC fiX5_digest_wsX50 fmX5_digest_13 dX5_digest_17 ?_
    refine g_iload_n 20 hC dX5_digest_20 0 rfl ?_
    refine m_ldD 21 hC (vp_in_nI (by omega) (by decide)) dX5_digest_21 ?_
    refine g_iadd 22 hC dX5_digest_22 ?_
    rw [show (31 : Int32) * dg u k + rD u (nI k) = dg u (k + 1) by unfold rD; rw [nI_clamp (by omega)]; rfl]
    refine g_istore_n 23 hC dX5_digest_23 (by decide) [(1, .int (dg u (k + 1))), (2, .int (nI k)), (0, .ref (mO h))] rfl ?_
    refine g_iinc 24 hC (nI (k + 1)) dX5_digest_24 (by decide) 1 rfl (nI_1 k) [(2, .int (nI (k + 1))), (1, .int (dg u (k + 1))), (0, .ref (mO h))] rfl ?_
    refine g_goto 27 hC 5 dX5_digest_27 (by decide) ?_
    exact ih (k + 1) (by omega) kk

set_option maxRecDepth 20000 in
theorem cX5_digest_ (h : HM) (hE : okE (EM h)) (u : ST) : MX (EM h) yX5_digest wsX5_digest rmX5_digest [.ref (mO h)] u (tR u (fX5_digest u)) := by
  refine MX.of (cc := cX5_digest) (maxL := 3) (ret := (some .int)) (lv := [(0, .ref (mO h))]) hE (by decide) rfl (fun _ => rfl) (Nat.le_of_ble_eq_true rfl) rfl (fun K hC => ?_)
  unfold fX5_digest
  refine g_bipush 0 hC (7 : Int32) dX5_digest_0 (by decide) ?_
  refine g_istore_n 2 hC dX5_digest_2 (by decide) [(1, .int ((7 : Int32))), (0, .ref (mO h))] rfl ?_
  refine g_iconst 3 hC (0 : Int32) dX5_digest_3 (by decide) ?_
  refine g_istore_n 4 hC dX5_digest_4 (by decide) [(2, .int ((0 : Int32))), (1, .int ((7 : Int32))), (0, .ref (mO h))] rfl ?_
  refine X5_digestLoop hC 1024 0 rfl ?_
  refine g_bipush 30 hC (31 : Int32) dX5_digest_30 (by decide) ?_
  refine g_iload_n 32 hC dX5_digest_32 1 rfl ?_
  refine g_imul 33 hC dX5_digest_33 ?_
  refine g_aload_n 34 hC dX5_digest_34 2 rfl ?_
  refine m_get_pc 35 hC fiX5_digest_wsX50 fmX5_digest_19 dX5_digest_35 ?_
  refine g_iadd 38 hC dX5_digest_38 ?_
  exact g_iretR 39 hC dX5_digest_39
theorem kX5_digest {K : KT} {h : HM} {cc : ByteArray} {nL : Nat} {own : String} {Ts : List Cond} {rm : Room} {ret : Option FieldType} {T : ST × Option Value} {u : ST} {lv : List (Nat × Value)} {rest : List Value} {idx : Nat} (pc : Nat) (hC : Cx K (EM h) cc nL own Ts rm ret) (hT : GoodIn Ts (wsV own idx RX5 yX5_digest wsX5_digest)) (hR : rmX5_digest.frames + 1 ≤ rm.frames ∧ 8 + (3 + 11) + rmX5_digest.locals ≤ rm.locals) (hdg : decode cc pc = .ok (.invokevirtual idx, 3)) (hcat : (rest.map fun v => v.category).sum ≤ 8) (kk : G K (EM h) nL T u (pc + 3) lv (.int (fX5_digest u) :: rest)) : G K (EM h) nL T u pc lv (.ref (mO h) :: rest) := g_callV (n := 0) pc hC (As := []) (rest := rest) (cX5_digest_ _ (Cx.ok hC) u) hT rfl rfl rfl (by decide +kernel) hR 0 3 rfl rfl rfl rfl rfl hcat hdg kk

def fX5_count (a1 : Int32) (u : ST) : Int32 :=
  (if (fX5_in a1 (0 : Int32) (6 : Int32)) = 0 then (-1 : Int32) else (rN u a1))
def okX5_count (a1 : Int32) (u : ST) : Prop := ((¬ (fX5_in a1 (0 : Int32) (6 : Int32)) = 0) → vp_in a1 7) ∧ True
theorem fiX5_count_wsX50 : ∀ w ∈ wsX50, w ∈ wsX5_count := fun w h => List.mem_cons_of_mem _ (List.mem_append_right _ h)
theorem fmX5_count_16 : Cond.fieldLink RX5 16 "FlagCoreModel" "count" "[I" ∈ wsX5_count := List.mem_of_getElem? (i := 1) rfl
abbrev rmX5_count : Room := { frames := 1, cells := 0, slots := 0, locals := 22 }
set_option maxRecDepth 20000 in
theorem cX5_count_ (h : HM) (hE : okE (EM h)) (a1 : Int32) (u : ST) (hok : okX5_count a1 u) : MX (EM h) yX5_count wsX5_count rmX5_count [.ref (mO h), .int a1] u (tR u (fX5_count a1 u)) := by
  obtain ⟨k0, -⟩ := hok
  refine MX.of (cc := cX5_count) (maxL := 2) (ret := (some .int)) (lv := [(0, .ref (mO h)), (1, .int a1)]) hE (by decide) rfl (fun _ => rfl) (Nat.le_of_ble_eq_true rfl) rfl (fun K hC => ?_)
  unfold fX5_count
  refine g_iload_n 0 hC dX5_count_0 1 rfl ?_
  refine g_iconst 1 hC (0 : Int32) dX5_count_1 (by decide) ?_
  refine g_bipush 2 hC (6 : Int32) dX5_count_2 (by decide) ?_
  refine kX5_in 4 hC gX5_count_X5_in ⟨Nat.le_of_ble_eq_true rfl, Nat.le_of_ble_eq_true rfl⟩ dX5_count_4 (Nat.le_of_ble_eq_true rfl) ?_
  refine g_cut 20 (if (fX5_in a1 (0 : Int32) (6 : Int32)) = 0 then (-1 : Int32) else (rN u a1)) [] ?_ (fun J2 => ?_)
  · skip
    exact g_iretR 20 hC dX5_count_20
  · skip
    refine g_if_eq 7 hC 19 dX5_count_7 (by decide) (fun h1 => ?_) (fun h1 => ?_)
    · skip
      refine g_iconst 19 hC (-1 : Int32) dX5_count_19 (by decide) ?_
      exact J2 _ (Eq.symm (if_pos h1))
    · skip
      refine g_aload_n 10 hC dX5_count_10 0 rfl ?_
      refine m_get_count 11 hC fiX5_count_wsX50 fmX5_count_16 dX5_count_11 ?_
      refine g_iload_n 14 hC dX5_count_14 1 rfl ?_
      refine m_ldN 15 hC (k0 h1) dX5_count_15 ?_
      refine g_goto 16 hC 20 dX5_count_16 (by decide) ?_
      exact J2 _ (Eq.symm (if_neg h1))
theorem kX5_count {K : KT} {h : HM} {cc : ByteArray} {nL : Nat} {own : String} {Ts : List Cond} {rm : Room} {ret : Option FieldType} {T : ST × Option Value} {u : ST} {lv : List (Nat × Value)} {rest : List Value} {idx : Nat} {a1 : Int32} (pc : Nat) (hC : Cx K (EM h) cc nL own Ts rm ret) (hok : okX5_count a1 u) (hT : GoodIn Ts (wsV own idx RX5 yX5_count wsX5_count)) (hR : rmX5_count.frames + 1 ≤ rm.frames ∧ 8 + (2 + 11) + rmX5_count.locals ≤ rm.locals) (hdg : decode cc pc = .ok (.invokevirtual idx, 3)) (hcat : (rest.map fun v => v.category).sum ≤ 8) (kk : G K (EM h) nL T u (pc + 3) lv (.int (fX5_count a1 u) :: rest)) : G K (EM h) nL T u pc lv (.int a1 :: .ref (mO h) :: rest) := g_callV (n := 1) pc hC (As := [.int a1]) (rest := rest) (cX5_count_ _ (Cx.ok hC) a1 u hok) hT rfl rfl rfl (by decide +kernel) hR 0 3 rfl rfl rfl rfl rfl hcat hdg kk

