def fX0_get (a1 : Int32) (u : ST) : Int32 :=
  (rD u (a1 &&& (1023 : Int32)))
theorem fiX0_get_wsX00 : ∀ w ∈ wsX00, w ∈ wsX0_get := fun w h => List.mem_cons_of_mem _ (List.mem_append_right _ h)
theorem fmX0_get_9 : Cond.fieldLink RX0 9 "FlagCore$Bytes" "row" "[I" ∈ wsX0_get := List.mem_of_getElem? (i := 1) rfl
abbrev rmX0_get : Room := { frames := 0, cells := 0, slots := 0, locals := 0 }
set_option maxRecDepth 20000 in
theorem cX0_get_ (h : HX) (hE : okE (EX h)) (a1 : Int32) (u : ST) : MX (EX h) yX0_get wsX0_get rmX0_get [.ref (xB h), .int a1] u (tR u (fX0_get a1 u)) := by
  refine MX.of (cc := cX0_get) (maxL := 2) (ret := (some .int)) (lv := [(0, .ref (xB h)), (1, .int a1)]) hE (by decide) rfl (fun _ => rfl) (Nat.le_of_ble_eq_true rfl) rfl (fun K hC => ?_)
  unfold fX0_get
  refine g_aload_n 0 hC dX0_get_0 0 rfl ?_
  refine x_get_row 1 hC fiX0_get_wsX00 fmX0_get_9 dX0_get_1 ?_
  refine g_iload_n 4 hC dX0_get_4 1 rfl ?_
  refine g_sipush 5 hC (1023 : Int32) dX0_get_5 (by decide) ?_
  refine g_iand 8 hC dX0_get_8 ?_
  refine x_ldD 9 hC (vin_1023 _) dX0_get_9 ?_
  exact g_iret 10 hC dX0_get_10
theorem kX0_get {K : KT} {h : HX} {cc : ByteArray} {nL : Nat} {own : String} {Ts : List Cond} {rm : Room} {ret : Option FieldType} {T : ST × Option Value} {u : ST} {lv : List (Nat × Value)} {rest : List Value} {idx : Nat} {a1 : Int32} (pc : Nat) (hC : Cx K (EX h) cc nL own Ts rm ret) (hT : GoodIn Ts (wsV own idx RX0 yX0_get wsX0_get)) (hR : rmX0_get.frames + 1 ≤ rm.frames ∧ 8 + (2 + 11) + rmX0_get.locals ≤ rm.locals) (hdg : decode cc pc = .ok (.invokevirtual idx, 3)) (hcat : (rest.map fun v => v.category).sum ≤ 8) (kk : G K (EX h) nL T u (pc + 3) lv (.int (fX0_get a1 u) :: rest)) : G K (EX h) nL T u pc lv (.int a1 :: .ref (xB h) :: rest) := g_callV (n := 1) pc hC (As := [.int a1]) (rest := rest) (cX0_get_ _ (Cx.ok hC) a1 u) hT rfl rfl rfl (by decide +kernel) hR 2 0 rfl rfl rfl rfl rfl hcat hdg kk

def fX0_set (a1 : Int32) (a2 : Int32) (u : ST) : ST :=
  (wD u (a1 &&& (1023 : Int32)) (a2 &&& (255 : Int32)))
theorem fiX0_set_wsX00 : ∀ w ∈ wsX00, w ∈ wsX0_set := fun w h => List.mem_cons_of_mem _ (List.mem_append_right _ h)
theorem fmX0_set_9 : Cond.fieldLink RX0 9 "FlagCore$Bytes" "row" "[I" ∈ wsX0_set := List.mem_of_getElem? (i := 1) rfl
abbrev rmX0_set : Room := { frames := 0, cells := 0, slots := 0, locals := 0 }
set_option maxRecDepth 20000 in
theorem cX0_set_ (h : HX) (hE : okE (EX h)) (a1 : Int32) (a2 : Int32) (u : ST) : MX (EX h) yX0_set wsX0_set rmX0_set [.ref (xB h), .int a1, .int a2] u (tS (fX0_set a1 a2 u)) := by
  refine MX.of (cc := cX0_set) (maxL := 3) (ret := none) (lv := [(0, .ref (xB h)), (1, .int a1), (2, .int a2)]) hE (by decide) rfl (fun _ => rfl) (Nat.le_of_ble_eq_true rfl) rfl (fun K hC => ?_)
  unfold fX0_set
  refine g_aload_n 0 hC dX0_set_0 0 rfl ?_
  refine x_get_row 1 hC fiX0_set_wsX00 fmX0_set_9 dX0_set_1 ?_
  refine g_iload_n 4 hC dX0_set_4 1 rfl ?_
  refine g_sipush 5 hC (1023 : Int32) dX0_set_5 (by decide) ?_
  refine g_iand 8 hC dX0_set_8 ?_
  refine g_iload_n 9 hC dX0_set_9 2 rfl ?_
  refine g_sipush 10 hC (255 : Int32) dX0_set_10 (by decide) ?_
  refine g_iand 13 hC dX0_set_13 ?_
  refine x_stD 14 hC (vin_1023 _) dX0_set_14 ?_
  exact g_vret 15 hC dX0_set_15
theorem kX0_set {K : KT} {h : HX} {cc : ByteArray} {nL : Nat} {own : String} {Ts : List Cond} {rm : Room} {ret : Option FieldType} {T : ST × Option Value} {u : ST} {lv : List (Nat × Value)} {rest : List Value} {idx : Nat} {a1 : Int32} {a2 : Int32} (pc : Nat) (hC : Cx K (EX h) cc nL own Ts rm ret) (hT : GoodIn Ts (wsV own idx RX0 yX0_set wsX0_set)) (hR : rmX0_set.frames + 1 ≤ rm.frames ∧ 8 + (3 + 11) + rmX0_set.locals ≤ rm.locals) (hdg : decode cc pc = .ok (.invokevirtual idx, 3)) (hcat : (rest.map fun v => v.category).sum ≤ 8) (kk : G K (EX h) nL T (fX0_set a1 a2 u) (pc + 3) lv (rest)) : G K (EX h) nL T u pc lv (.int a2 :: .int a1 :: .ref (xB h) :: rest) := g_callV (n := 2) pc hC (As := [.int a1, .int a2]) (rest := rest) (cX0_set_ _ (Cx.ok hC) a1 a2 u) hT rfl rfl rfl (by decide +kernel) hR 2 0 rfl rfl rfl rfl rfl hcat hdg kk

def fX0_signed (a1 : Int32) (u : ST) : Int32 :=
  (Int8.toInt32 (Int32.toInt8 (rD u (a1 &&& (1023 : Int32)))))
theorem fiX0_signed_wsX00 : ∀ w ∈ wsX00, w ∈ wsX0_signed := fun w h => List.mem_cons_of_mem _ (List.mem_append_right _ h)
theorem fmX0_signed_9 : Cond.fieldLink RX0 9 "FlagCore$Bytes" "row" "[I" ∈ wsX0_signed := List.mem_of_getElem? (i := 1) rfl
abbrev rmX0_signed : Room := { frames := 0, cells := 0, slots := 0, locals := 0 }
set_option maxRecDepth 20000 in
theorem cX0_signed_ (h : HX) (hE : okE (EX h)) (a1 : Int32) (u : ST) : MX (EX h) yX0_signed wsX0_signed rmX0_signed [.ref (xB h), .int a1] u (tR u (fX0_signed a1 u)) := by
  refine MX.of (cc := cX0_signed) (maxL := 2) (ret := (some .int)) (lv := [(0, .ref (xB h)), (1, .int a1)]) hE (by decide) rfl (fun _ => rfl) (Nat.le_of_ble_eq_true rfl) rfl (fun K hC => ?_)
  unfold fX0_signed
  refine g_aload_n 0 hC dX0_signed_0 0 rfl ?_
  refine x_get_row 1 hC fiX0_signed_wsX00 fmX0_signed_9 dX0_signed_1 ?_
  refine g_iload_n 4 hC dX0_signed_4 1 rfl ?_
  refine g_sipush 5 hC (1023 : Int32) dX0_signed_5 (by decide) ?_
  refine g_iand 8 hC dX0_signed_8 ?_
  refine x_ldD 9 hC (vin_1023 _) dX0_signed_9 ?_
  refine g_i2b 10 hC dX0_signed_10 ?_
  exact g_iret 11 hC dX0_signed_11
theorem kX0_signed {K : KT} {h : HX} {cc : ByteArray} {nL : Nat} {own : String} {Ts : List Cond} {rm : Room} {ret : Option FieldType} {T : ST × Option Value} {u : ST} {lv : List (Nat × Value)} {rest : List Value} {idx : Nat} {a1 : Int32} (pc : Nat) (hC : Cx K (EX h) cc nL own Ts rm ret) (hT : GoodIn Ts (wsV own idx RX0 yX0_signed wsX0_signed)) (hR : rmX0_signed.frames + 1 ≤ rm.frames ∧ 8 + (2 + 11) + rmX0_signed.locals ≤ rm.locals) (hdg : decode cc pc = .ok (.invokevirtual idx, 3)) (hcat : (rest.map fun v => v.category).sum ≤ 8) (kk : G K (EX h) nL T u (pc + 3) lv (.int (fX0_signed a1 u) :: rest)) : G K (EX h) nL T u pc lv (.int a1 :: .ref (xB h) :: rest) := g_callV (n := 1) pc hC (As := [.int a1]) (rest := rest) (cX0_signed_ _ (Cx.ok hC) a1 u) hT rfl rfl rfl (by decide +kernel) hR 2 0 rfl rfl rfl rfl rfl hcat hdg kk

def fX0_pair (a1 : Int32) (u : ST) : Int32 :=
  ((rD u (a1 &&& (1023 : Int32))) ||| (jshl (rD u ((a1 + (1 : Int32)) &&& (1023 : Int32))) (8 : Int32)))
theorem fiX0_pair_wsX00 : ∀ w ∈ wsX00, w ∈ wsX0_pair := fun w h => List.mem_cons_of_mem _ (List.mem_append_right _ h)
theorem fmX0_pair_9 : Cond.fieldLink RX0 9 "FlagCore$Bytes" "row" "[I" ∈ wsX0_pair := List.mem_of_getElem? (i := 1) rfl
abbrev rmX0_pair : Room := { frames := 0, cells := 0, slots := 0, locals := 0 }
set_option maxRecDepth 20000 in
theorem cX0_pair_ (h : HX) (hE : okE (EX h)) (a1 : Int32) (u : ST) : MX (EX h) yX0_pair wsX0_pair rmX0_pair [.ref (xB h), .int a1] u (tR u (fX0_pair a1 u)) := by
  refine MX.of (cc := cX0_pair) (maxL := 2) (ret := (some .int)) (lv := [(0, .ref (xB h)), (1, .int a1)]) hE (by decide) rfl (fun _ => rfl) (Nat.le_of_ble_eq_true rfl) rfl (fun K hC => ?_)
  unfold fX0_pair
  refine g_aload_n 0 hC dX0_pair_0 0 rfl ?_
  refine x_get_row 1 hC fiX0_pair_wsX00 fmX0_pair_9 dX0_pair_1 ?_
  refine g_iload_n 4 hC dX0_pair_4 1 rfl ?_
  refine g_sipush 5 hC (1023 : Int32) dX0_pair_5 (by decide) ?_
  refine g_iand 8 hC dX0_pair_8 ?_
  refine x_ldD 9 hC (vin_1023 _) dX0_pair_9 ?_
  refine g_aload_n 10 hC dX0_pair_10 0 rfl ?_
  refine x_get_row 11 hC fiX0_pair_wsX00 fmX0_pair_9 dX0_pair_11 ?_
  refine g_iload_n 14 hC dX0_pair_14 1 rfl ?_
  refine g_iconst 15 hC (1 : Int32) dX0_pair_15 (by decide) ?_
  refine g_iadd 16 hC dX0_pair_16 ?_
  refine g_sipush 17 hC (1023 : Int32) dX0_pair_17 (by decide) ?_
  refine g_iand 20 hC dX0_pair_20 ?_
  refine x_ldD 21 hC (vin_1023 _) dX0_pair_21 ?_
  refine g_bipush 22 hC (8 : Int32) dX0_pair_22 (by decide) ?_
  refine g_ishl 24 hC dX0_pair_24 ?_
  refine g_ior 25 hC dX0_pair_25 ?_
  exact g_iret 26 hC dX0_pair_26
theorem kX0_pair {K : KT} {h : HX} {cc : ByteArray} {nL : Nat} {own : String} {Ts : List Cond} {rm : Room} {ret : Option FieldType} {T : ST × Option Value} {u : ST} {lv : List (Nat × Value)} {rest : List Value} {idx : Nat} {a1 : Int32} (pc : Nat) (hC : Cx K (EX h) cc nL own Ts rm ret) (hT : GoodIn Ts (wsV own idx RX0 yX0_pair wsX0_pair)) (hR : rmX0_pair.frames + 1 ≤ rm.frames ∧ 8 + (2 + 11) + rmX0_pair.locals ≤ rm.locals) (hdg : decode cc pc = .ok (.invokevirtual idx, 3)) (hcat : (rest.map fun v => v.category).sum ≤ 8) (kk : G K (EX h) nL T u (pc + 3) lv (.int (fX0_pair a1 u) :: rest)) : G K (EX h) nL T u pc lv (.int a1 :: .ref (xB h) :: rest) := g_callV (n := 1) pc hC (As := [.int a1]) (rest := rest) (cX0_pair_ _ (Cx.ok hC) a1 u) hT rfl rfl rfl (by decide +kernel) hR 2 0 rfl rfl rfl rfl rfl hcat hdg kk

def fX0_setPair (a1 : Int32) (a2 : Int32) (u : ST) : ST :=
  (wD (wD u (a1 &&& (1023 : Int32)) (a2 &&& (255 : Int32))) ((a1 + (1 : Int32)) &&& (1023 : Int32)) ((jshr a2 (8 : Int32)) &&& (255 : Int32)))
theorem fiX0_setPair_wsX00 : ∀ w ∈ wsX00, w ∈ wsX0_setPair := fun w h => List.mem_cons_of_mem _ (List.mem_append_right _ h)
theorem fmX0_setPair_9 : Cond.fieldLink RX0 9 "FlagCore$Bytes" "row" "[I" ∈ wsX0_setPair := List.mem_of_getElem? (i := 1) rfl
abbrev rmX0_setPair : Room := { frames := 0, cells := 0, slots := 0, locals := 0 }
set_option maxRecDepth 20000 in
theorem cX0_setPair_ (h : HX) (hE : okE (EX h)) (a1 : Int32) (a2 : Int32) (u : ST) : MX (EX h) yX0_setPair wsX0_setPair rmX0_setPair [.ref (xB h), .int a1, .int a2] u (tS (fX0_setPair a1 a2 u)) := by
  refine MX.of (cc := cX0_setPair) (maxL := 3) (ret := none) (lv := [(0, .ref (xB h)), (1, .int a1), (2, .int a2)]) hE (by decide) rfl (fun _ => rfl) (Nat.le_of_ble_eq_true rfl) rfl (fun K hC => ?_)
  unfold fX0_setPair
  refine g_aload_n 0 hC dX0_setPair_0 0 rfl ?_
  refine x_get_row 1 hC fiX0_setPair_wsX00 fmX0_setPair_9 dX0_setPair_1 ?_
  refine g_iload_n 4 hC dX0_setPair_4 1 rfl ?_
  refine g_sipush 5 hC (1023 : Int32) dX0_setPair_5 (by decide) ?_
  refine g_iand 8 hC dX0_setPair_8 ?_
  refine g_iload_n 9 hC dX0_setPair_9 2 rfl ?_
  refine g_sipush 10 hC (255 : Int32) dX0_setPair_10 (by decide) ?_
  refine g_iand 13 hC dX0_setPair_13 ?_
  refine x_stD 14 hC (vin_1023 _) dX0_setPair_14 ?_
  refine g_aload_n 15 hC dX0_setPair_15 0 rfl ?_
  refine x_get_row 16 hC fiX0_setPair_wsX00 fmX0_setPair_9 dX0_setPair_16 ?_
  refine g_iload_n 19 hC dX0_setPair_19 1 rfl ?_
  refine g_iconst 20 hC (1 : Int32) dX0_setPair_20 (by decide) ?_
  refine g_iadd 21 hC dX0_setPair_21 ?_
  refine g_sipush 22 hC (1023 : Int32) dX0_setPair_22 (by decide) ?_
  refine g_iand 25 hC dX0_setPair_25 ?_
  refine g_iload_n 26 hC dX0_setPair_26 2 rfl ?_
  refine g_bipush 27 hC (8 : Int32) dX0_setPair_27 (by decide) ?_
  refine g_ishr 29 hC dX0_setPair_29 ?_
  refine g_sipush 30 hC (255 : Int32) dX0_setPair_30 (by decide) ?_
  refine g_iand 33 hC dX0_setPair_33 ?_
  refine x_stD 34 hC (vin_1023 _) dX0_setPair_34 ?_
  exact g_vret 35 hC dX0_setPair_35
theorem kX0_setPair {K : KT} {h : HX} {cc : ByteArray} {nL : Nat} {own : String} {Ts : List Cond} {rm : Room} {ret : Option FieldType} {T : ST × Option Value} {u : ST} {lv : List (Nat × Value)} {rest : List Value} {idx : Nat} {a1 : Int32} {a2 : Int32} (pc : Nat) (hC : Cx K (EX h) cc nL own Ts rm ret) (hT : GoodIn Ts (wsV own idx RX0 yX0_setPair wsX0_setPair)) (hR : rmX0_setPair.frames + 1 ≤ rm.frames ∧ 8 + (3 + 11) + rmX0_setPair.locals ≤ rm.locals) (hdg : decode cc pc = .ok (.invokevirtual idx, 3)) (hcat : (rest.map fun v => v.category).sum ≤ 8) (kk : G K (EX h) nL T (fX0_setPair a1 a2 u) (pc + 3) lv (rest)) : G K (EX h) nL T u pc lv (.int a2 :: .int a1 :: .ref (xB h) :: rest) := g_callV (n := 2) pc hC (As := [.int a1, .int a2]) (rest := rest) (cX0_setPair_ _ (Cx.ok hC) a1 a2 u) hT rfl rfl rfl (by decide +kernel) hR 2 0 rfl rfl rfl rfl rfl hcat hdg kk

def fX0_bit (a1 : Int32) (a2 : Int32) (u : ST) : Int32 :=
  ((jshr (rD u (a1 &&& (1023 : Int32))) a2) &&& (1 : Int32))
theorem fiX0_bit_wsX00 : ∀ w ∈ wsX00, w ∈ wsX0_bit := fun w h => List.mem_cons_of_mem _ (List.mem_append_right _ h)
theorem fmX0_bit_9 : Cond.fieldLink RX0 9 "FlagCore$Bytes" "row" "[I" ∈ wsX0_bit := List.mem_of_getElem? (i := 1) rfl
abbrev rmX0_bit : Room := { frames := 0, cells := 0, slots := 0, locals := 0 }
set_option maxRecDepth 20000 in
theorem cX0_bit_ (h : HX) (hE : okE (EX h)) (a1 : Int32) (a2 : Int32) (u : ST) : MX (EX h) yX0_bit wsX0_bit rmX0_bit [.ref (xB h), .int a1, .int a2] u (tR u (fX0_bit a1 a2 u)) := by
  refine MX.of (cc := cX0_bit) (maxL := 3) (ret := (some .int)) (lv := [(0, .ref (xB h)), (1, .int a1), (2, .int a2)]) hE (by decide) rfl (fun _ => rfl) (Nat.le_of_ble_eq_true rfl) rfl (fun K hC => ?_)
  unfold fX0_bit
  refine g_aload_n 0 hC dX0_bit_0 0 rfl ?_
  refine x_get_row 1 hC fiX0_bit_wsX00 fmX0_bit_9 dX0_bit_1 ?_
  refine g_iload_n 4 hC dX0_bit_4 1 rfl ?_
  refine g_sipush 5 hC (1023 : Int32) dX0_bit_5 (by decide) ?_
  refine g_iand 8 hC dX0_bit_8 ?_
  refine x_ldD 9 hC (vin_1023 _) dX0_bit_9 ?_
  refine g_iload_n 10 hC dX0_bit_10 2 rfl ?_
  refine g_ishr 11 hC dX0_bit_11 ?_
  refine g_iconst 12 hC (1 : Int32) dX0_bit_12 (by decide) ?_
  refine g_iand 13 hC dX0_bit_13 ?_
  exact g_iret 14 hC dX0_bit_14
theorem kX0_bit {K : KT} {h : HX} {cc : ByteArray} {nL : Nat} {own : String} {Ts : List Cond} {rm : Room} {ret : Option FieldType} {T : ST × Option Value} {u : ST} {lv : List (Nat × Value)} {rest : List Value} {idx : Nat} {a1 : Int32} {a2 : Int32} (pc : Nat) (hC : Cx K (EX h) cc nL own Ts rm ret) (hT : GoodIn Ts (wsV own idx RX0 yX0_bit wsX0_bit)) (hR : rmX0_bit.frames + 1 ≤ rm.frames ∧ 8 + (3 + 11) + rmX0_bit.locals ≤ rm.locals) (hdg : decode cc pc = .ok (.invokevirtual idx, 3)) (hcat : (rest.map fun v => v.category).sum ≤ 8) (kk : G K (EX h) nL T u (pc + 3) lv (.int (fX0_bit a1 a2 u) :: rest)) : G K (EX h) nL T u pc lv (.int a2 :: .int a1 :: .ref (xB h) :: rest) := g_callV (n := 2) pc hC (As := [.int a1, .int a2]) (rest := rest) (cX0_bit_ _ (Cx.ok hC) a1 a2 u) hT rfl rfl rfl (by decide +kernel) hR 2 0 rfl rfl rfl rfl rfl hcat hdg kk

def fX0_setBit (a1 : Int32) (a2 : Int32) (a3 : Int32) (u : ST) : ST :=
  (fX0_set a1 (((fX0_get a1 u) &&& ((jshl (1 : Int32) a2) ^^^ (-1 : Int32))) ||| (jshl a3 a2)) u)
abbrev rmX0_setBit : Room := { frames := 1, cells := 0, slots := 0, locals := 22 }
set_option maxRecDepth 20000 in
theorem cX0_setBit_ (h : HX) (hE : okE (EX h)) (a1 : Int32) (a2 : Int32) (a3 : Int32) (u : ST) : MX (EX h) yX0_setBit wsX0_setBit rmX0_setBit [.ref (xB h), .int a1, .int a2, .int a3] u (tS (fX0_setBit a1 a2 a3 u)) := by
  refine MX.of (cc := cX0_setBit) (maxL := 4) (ret := none) (lv := [(0, .ref (xB h)), (1, .int a1), (2, .int a2), (3, .int a3)]) hE (by decide) rfl (fun _ => rfl) (Nat.le_of_ble_eq_true rfl) rfl (fun K hC => ?_)
  unfold fX0_setBit
  refine g_aload_n 0 hC dX0_setBit_0 0 rfl ?_
  refine g_iload_n 1 hC dX0_setBit_1 1 rfl ?_
  refine g_aload_n 2 hC dX0_setBit_2 0 rfl ?_
  refine g_iload_n 3 hC dX0_setBit_3 1 rfl ?_
  refine kX0_get 4 hC gX0_setBit_X0_get ⟨Nat.le_of_ble_eq_true rfl, Nat.le_of_ble_eq_true rfl⟩ dX0_setBit_4 (Nat.le_of_ble_eq_true rfl) ?_
  refine g_iconst 7 hC (1 : Int32) dX0_setBit_7 (by decide) ?_
  refine g_iload_n 8 hC dX0_setBit_8 2 rfl ?_
  refine g_ishl 9 hC dX0_setBit_9 ?_
  refine g_iconst 10 hC (-1 : Int32) dX0_setBit_10 (by decide) ?_
  refine g_ixor 11 hC dX0_setBit_11 ?_
  refine g_iand 12 hC dX0_setBit_12 ?_
  refine g_iload_n 13 hC dX0_setBit_13 3 rfl ?_
  refine g_iload_n 14 hC dX0_setBit_14 2 rfl ?_
  refine g_ishl 15 hC dX0_setBit_15 ?_
  refine g_ior 16 hC dX0_setBit_16 ?_
  refine kX0_set 17 hC gX0_setBit_X0_set ⟨Nat.le_of_ble_eq_true rfl, Nat.le_of_ble_eq_true rfl⟩ dX0_setBit_17 (Nat.le_of_ble_eq_true rfl) ?_
  exact g_vret 20 hC dX0_setBit_20
theorem kX0_setBit {K : KT} {h : HX} {cc : ByteArray} {nL : Nat} {own : String} {Ts : List Cond} {rm : Room} {ret : Option FieldType} {T : ST × Option Value} {u : ST} {lv : List (Nat × Value)} {rest : List Value} {idx : Nat} {a1 : Int32} {a2 : Int32} {a3 : Int32} (pc : Nat) (hC : Cx K (EX h) cc nL own Ts rm ret) (hT : GoodIn Ts (wsV own idx RX0 yX0_setBit wsX0_setBit)) (hR : rmX0_setBit.frames + 1 ≤ rm.frames ∧ 8 + (4 + 11) + rmX0_setBit.locals ≤ rm.locals) (hdg : decode cc pc = .ok (.invokevirtual idx, 3)) (hcat : (rest.map fun v => v.category).sum ≤ 8) (kk : G K (EX h) nL T (fX0_setBit a1 a2 a3 u) (pc + 3) lv (rest)) : G K (EX h) nL T u pc lv (.int a3 :: .int a2 :: .int a1 :: .ref (xB h) :: rest) := g_callV (n := 3) pc hC (As := [.int a1, .int a2, .int a3]) (rest := rest) (cX0_setBit_ _ (Cx.ok hC) a1 a2 a3 u) hT rfl rfl rfl (by decide +kernel) hR 2 0 rfl rfl rfl rfl rfl hcat hdg kk

def fX0_flag (a1 : Int32) (u : ST) : Int32 :=
  ((jshr (rD u (95 : Int32)) a1) &&& (1 : Int32))
theorem fiX0_flag_wsX00 : ∀ w ∈ wsX00, w ∈ wsX0_flag := fun w h => List.mem_cons_of_mem _ (List.mem_append_right _ h)
theorem fmX0_flag_9 : Cond.fieldLink RX0 9 "FlagCore$Bytes" "row" "[I" ∈ wsX0_flag := List.mem_of_getElem? (i := 1) rfl
abbrev rmX0_flag : Room := { frames := 0, cells := 0, slots := 0, locals := 0 }
set_option maxRecDepth 20000 in
theorem cX0_flag_ (h : HX) (hE : okE (EX h)) (a1 : Int32) (u : ST) : MX (EX h) yX0_flag wsX0_flag rmX0_flag [.ref (xB h), .int a1] u (tR u (fX0_flag a1 u)) := by
  refine MX.of (cc := cX0_flag) (maxL := 2) (ret := (some .int)) (lv := [(0, .ref (xB h)), (1, .int a1)]) hE (by decide) rfl (fun _ => rfl) (Nat.le_of_ble_eq_true rfl) rfl (fun K hC => ?_)
  unfold fX0_flag
  refine g_aload_n 0 hC dX0_flag_0 0 rfl ?_
  refine x_get_row 1 hC fiX0_flag_wsX00 fmX0_flag_9 dX0_flag_1 ?_
  refine g_bipush 4 hC (95 : Int32) dX0_flag_4 (by decide) ?_
  refine x_ldD 6 hC (vp_in_iff.mpr (by decide)) dX0_flag_6 ?_
  refine g_iload_n 7 hC dX0_flag_7 1 rfl ?_
  refine g_ishr 8 hC dX0_flag_8 ?_
  refine g_iconst 9 hC (1 : Int32) dX0_flag_9 (by decide) ?_
  refine g_iand 10 hC dX0_flag_10 ?_
  exact g_iret 11 hC dX0_flag_11
theorem kX0_flag {K : KT} {h : HX} {cc : ByteArray} {nL : Nat} {own : String} {Ts : List Cond} {rm : Room} {ret : Option FieldType} {T : ST × Option Value} {u : ST} {lv : List (Nat × Value)} {rest : List Value} {idx : Nat} {a1 : Int32} (pc : Nat) (hC : Cx K (EX h) cc nL own Ts rm ret) (hT : GoodIn Ts (wsV own idx RX0 yX0_flag wsX0_flag)) (hR : rmX0_flag.frames + 1 ≤ rm.frames ∧ 8 + (2 + 11) + rmX0_flag.locals ≤ rm.locals) (hdg : decode cc pc = .ok (.invokevirtual idx, 3)) (hcat : (rest.map fun v => v.category).sum ≤ 8) (kk : G K (EX h) nL T u (pc + 3) lv (.int (fX0_flag a1 u) :: rest)) : G K (EX h) nL T u pc lv (.int a1 :: .ref (xB h) :: rest) := g_callV (n := 1) pc hC (As := [.int a1]) (rest := rest) (cX0_flag_ _ (Cx.ok hC) a1 u) hT rfl rfl rfl (by decide +kernel) hR 2 0 rfl rfl rfl rfl rfl hcat hdg kk

def fX0_setFlag (a1 : Int32) (a2 : Int32) (u : ST) : ST :=
  (fX0_setBit (95 : Int32) a1 a2 u)
abbrev rmX0_setFlag : Room := { frames := 2, cells := 0, slots := 0, locals := 45 }
set_option maxRecDepth 20000 in
theorem cX0_setFlag_ (h : HX) (hE : okE (EX h)) (a1 : Int32) (a2 : Int32) (u : ST) : MX (EX h) yX0_setFlag wsX0_setFlag rmX0_setFlag [.ref (xB h), .int a1, .int a2] u (tS (fX0_setFlag a1 a2 u)) := by
  refine MX.of (cc := cX0_setFlag) (maxL := 3) (ret := none) (lv := [(0, .ref (xB h)), (1, .int a1), (2, .int a2)]) hE (by decide) rfl (fun _ => rfl) (Nat.le_of_ble_eq_true rfl) rfl (fun K hC => ?_)
  unfold fX0_setFlag
  refine g_aload_n 0 hC dX0_setFlag_0 0 rfl ?_
  refine g_bipush 1 hC (95 : Int32) dX0_setFlag_1 (by decide) ?_
  refine g_iload_n 3 hC dX0_setFlag_3 1 rfl ?_
  refine g_iload_n 4 hC dX0_setFlag_4 2 rfl ?_
  refine kX0_setBit 5 hC gX0_setFlag_X0_setBit ⟨Nat.le_of_ble_eq_true rfl, Nat.le_of_ble_eq_true rfl⟩ dX0_setFlag_5 (Nat.le_of_ble_eq_true rfl) ?_
  exact g_vret 8 hC dX0_setFlag_8
theorem kX0_setFlag {K : KT} {h : HX} {cc : ByteArray} {nL : Nat} {own : String} {Ts : List Cond} {rm : Room} {ret : Option FieldType} {T : ST × Option Value} {u : ST} {lv : List (Nat × Value)} {rest : List Value} {idx : Nat} {a1 : Int32} {a2 : Int32} (pc : Nat) (hC : Cx K (EX h) cc nL own Ts rm ret) (hT : GoodIn Ts (wsV own idx RX0 yX0_setFlag wsX0_setFlag)) (hR : rmX0_setFlag.frames + 1 ≤ rm.frames ∧ 8 + (3 + 11) + rmX0_setFlag.locals ≤ rm.locals) (hdg : decode cc pc = .ok (.invokevirtual idx, 3)) (hcat : (rest.map fun v => v.category).sum ≤ 8) (kk : G K (EX h) nL T (fX0_setFlag a1 a2 u) (pc + 3) lv (rest)) : G K (EX h) nL T u pc lv (.int a2 :: .int a1 :: .ref (xB h) :: rest) := g_callV (n := 2) pc hC (As := [.int a1, .int a2]) (rest := rest) (cX0_setFlag_ _ (Cx.ok hC) a1 a2 u) hT rfl rfl rfl (by decide +kernel) hR 2 0 rfl rfl rfl rfl rfl hcat hdg kk

def fX0_setFlags (a1 : Int32) (a2 : Int32) (u : ST) : ST :=
  (wD u (95 : Int32) (((rD u (95 : Int32)) &&& (a1 ^^^ (-1 : Int32))) ||| (a2 &&& a1)))
theorem fiX0_setFlags_wsX00 : ∀ w ∈ wsX00, w ∈ wsX0_setFlags := fun w h => List.mem_cons_of_mem _ (List.mem_append_right _ h)
theorem fmX0_setFlags_9 : Cond.fieldLink RX0 9 "FlagCore$Bytes" "row" "[I" ∈ wsX0_setFlags := List.mem_of_getElem? (i := 1) rfl
abbrev rmX0_setFlags : Room := { frames := 0, cells := 0, slots := 0, locals := 0 }
set_option maxRecDepth 20000 in
theorem cX0_setFlags_ (h : HX) (hE : okE (EX h)) (a1 : Int32) (a2 : Int32) (u : ST) : MX (EX h) yX0_setFlags wsX0_setFlags rmX0_setFlags [.ref (xB h), .int a1, .int a2] u (tS (fX0_setFlags a1 a2 u)) := by
  refine MX.of (cc := cX0_setFlags) (maxL := 3) (ret := none) (lv := [(0, .ref (xB h)), (1, .int a1), (2, .int a2)]) hE (by decide) rfl (fun _ => rfl) (Nat.le_of_ble_eq_true rfl) rfl (fun K hC => ?_)
  unfold fX0_setFlags
  refine g_aload_n 0 hC dX0_setFlags_0 0 rfl ?_
  refine x_get_row 1 hC fiX0_setFlags_wsX00 fmX0_setFlags_9 dX0_setFlags_1 ?_
  refine g_bipush 4 hC (95 : Int32) dX0_setFlags_4 (by decide) ?_
  refine g_aload_n 6 hC dX0_setFlags_6 0 rfl ?_
  refine x_get_row 7 hC fiX0_setFlags_wsX00 fmX0_setFlags_9 dX0_setFlags_7 ?_
  refine g_bipush 10 hC (95 : Int32) dX0_setFlags_10 (by decide) ?_
  refine x_ldD 12 hC (vp_in_iff.mpr (by decide)) dX0_setFlags_12 ?_
  refine g_iload_n 13 hC dX0_setFlags_13 1 rfl ?_
  refine g_iconst 14 hC (-1 : Int32) dX0_setFlags_14 (by decide) ?_
  refine g_ixor 15 hC dX0_setFlags_15 ?_
  refine g_iand 16 hC dX0_setFlags_16 ?_
  refine g_iload_n 17 hC dX0_setFlags_17 2 rfl ?_
  refine g_iload_n 18 hC dX0_setFlags_18 1 rfl ?_
  refine g_iand 19 hC dX0_setFlags_19 ?_
  refine g_ior 20 hC dX0_setFlags_20 ?_
  refine x_stD 21 hC (vp_in_iff.mpr (by decide)) dX0_setFlags_21 ?_
  exact g_vret 22 hC dX0_setFlags_22
theorem kX0_setFlags {K : KT} {h : HX} {cc : ByteArray} {nL : Nat} {own : String} {Ts : List Cond} {rm : Room} {ret : Option FieldType} {T : ST × Option Value} {u : ST} {lv : List (Nat × Value)} {rest : List Value} {idx : Nat} {a1 : Int32} {a2 : Int32} (pc : Nat) (hC : Cx K (EX h) cc nL own Ts rm ret) (hT : GoodIn Ts (wsV own idx RX0 yX0_setFlags wsX0_setFlags)) (hR : rmX0_setFlags.frames + 1 ≤ rm.frames ∧ 8 + (3 + 11) + rmX0_setFlags.locals ≤ rm.locals) (hdg : decode cc pc = .ok (.invokevirtual idx, 3)) (hcat : (rest.map fun v => v.category).sum ≤ 8) (kk : G K (EX h) nL T (fX0_setFlags a1 a2 u) (pc + 3) lv (rest)) : G K (EX h) nL T u pc lv (.int a2 :: .int a1 :: .ref (xB h) :: rest) := g_callV (n := 2) pc hC (As := [.int a1, .int a2]) (rest := rest) (cX0_setFlags_ _ (Cx.ok hC) a1 a2 u) hT rfl rfl rfl (by decide +kernel) hR 2 0 rfl rfl rfl rfl rfl hcat hdg kk

def fX0_push (a1 : Int32) (u : ST) : ST :=
  (fX0_setPair (93 : Int32) ((fX0_pair (93 : Int32) u) - (1 : Int32)) (fX0_set (fX0_pair (93 : Int32) u) a1 u))
abbrev rmX0_push : Room := { frames := 1, cells := 0, slots := 0, locals := 22 }
set_option maxRecDepth 20000 in
theorem cX0_push_ (h : HX) (hE : okE (EX h)) (a1 : Int32) (u : ST) : MX (EX h) yX0_push wsX0_push rmX0_push [.ref (xB h), .int a1] u (tS (fX0_push a1 u)) := by
  refine MX.of (cc := cX0_push) (maxL := 3) (ret := none) (lv := [(0, .ref (xB h)), (1, .int a1)]) hE (by decide) rfl (fun _ => rfl) (Nat.le_of_ble_eq_true rfl) rfl (fun K hC => ?_)
  unfold fX0_push
  refine g_aload_n 0 hC dX0_push_0 0 rfl ?_
  refine g_bipush 1 hC (93 : Int32) dX0_push_1 (by decide) ?_
  refine kX0_pair 3 hC gX0_push_X0_pair ⟨Nat.le_of_ble_eq_true rfl, Nat.le_of_ble_eq_true rfl⟩ dX0_push_3 (Nat.le_of_ble_eq_true rfl) ?_
  refine g_istore_n 6 hC dX0_push_6 (by decide) [(2, .int ((fX0_pair (93 : Int32) u))), (0, .ref (xB h)), (1, .int a1)] rfl ?_
  refine g_aload_n 7 hC dX0_push_7 1 rfl ?_
  refine g_iload_n 8 hC dX0_push_8 0 rfl ?_
  refine g_iload_n 9 hC dX0_push_9 2 rfl ?_
  refine kX0_set 10 hC gX0_push_X0_set ⟨Nat.le_of_ble_eq_true rfl, Nat.le_of_ble_eq_true rfl⟩ dX0_push_10 (Nat.le_of_ble_eq_true rfl) ?_
  refine g_aload_n 13 hC dX0_push_13 1 rfl ?_
  refine g_bipush 14 hC (93 : Int32) dX0_push_14 (by decide) ?_
  refine g_iload_n 16 hC dX0_push_16 0 rfl ?_
  refine g_iconst 17 hC (1 : Int32) dX0_push_17 (by decide) ?_
  refine g_isub 18 hC dX0_push_18 ?_
  refine kX0_setPair 19 hC gX0_push_X0_setPair ⟨Nat.le_of_ble_eq_true rfl, Nat.le_of_ble_eq_true rfl⟩ dX0_push_19 (Nat.le_of_ble_eq_true rfl) ?_
  exact g_vret 22 hC dX0_push_22
theorem kX0_push {K : KT} {h : HX} {cc : ByteArray} {nL : Nat} {own : String} {Ts : List Cond} {rm : Room} {ret : Option FieldType} {T : ST × Option Value} {u : ST} {lv : List (Nat × Value)} {rest : List Value} {idx : Nat} {a1 : Int32} (pc : Nat) (hC : Cx K (EX h) cc nL own Ts rm ret) (hT : GoodIn Ts (wsV own idx RX0 yX0_push wsX0_push)) (hR : rmX0_push.frames + 1 ≤ rm.frames ∧ 8 + (3 + 11) + rmX0_push.locals ≤ rm.locals) (hdg : decode cc pc = .ok (.invokevirtual idx, 3)) (hcat : (rest.map fun v => v.category).sum ≤ 8) (kk : G K (EX h) nL T (fX0_push a1 u) (pc + 3) lv (rest)) : G K (EX h) nL T u pc lv (.int a1 :: .ref (xB h) :: rest) := g_callV (n := 1) pc hC (As := [.int a1]) (rest := rest) (cX0_push_ _ (Cx.ok hC) a1 u) hT rfl rfl rfl (by decide +kernel) hR 2 0 rfl rfl rfl rfl rfl hcat hdg kk

def fX0_stacks (a1 : Int32) (u : ST) : ST × Int32 :=
  if (fX0_pair (93 : Int32) u) < (1 : Int32) then
    (u, (0 : Int32))
  else
    if (fX0_pair (93 : Int32) u) ≤ (1023 : Int32) then
      ((fX0_setPair (93 : Int32) ((fX0_pair (93 : Int32) u) - (2 : Int32)) (fX0_set ((fX0_pair (93 : Int32) u) - (1 : Int32)) (jshr a1 (8 : Int32)) (fX0_set (fX0_pair (93 : Int32) u) a1 u))), (1 : Int32))
    else
      (u, (0 : Int32))
abbrev rmX0_stacks : Room := { frames := 1, cells := 0, slots := 0, locals := 22 }
set_option maxRecDepth 20000 in
theorem cX0_stacks_ (h : HX) (hE : okE (EX h)) (a1 : Int32) (u : ST) : MX (EX h) yX0_stacks wsX0_stacks rmX0_stacks [.ref (xB h), .int a1] u (tW (fX0_stacks a1 u)) := by
  refine MX.of (cc := cX0_stacks) (maxL := 3) (ret := (some .boolean)) (lv := [(0, .ref (xB h)), (1, .int a1)]) hE (by decide) rfl (fun _ => rfl) (Nat.le_of_ble_eq_true rfl) rfl (fun K hC => ?_)
  unfold fX0_stacks
  refine g_aload_n 0 hC dX0_stacks_0 0 rfl ?_
  refine g_bipush 1 hC (93 : Int32) dX0_stacks_1 (by decide) ?_
  refine kX0_pair 3 hC gX0_stacks_X0_pair ⟨Nat.le_of_ble_eq_true rfl, Nat.le_of_ble_eq_true rfl⟩ dX0_stacks_3 (Nat.le_of_ble_eq_true rfl) ?_
  refine g_istore_n 6 hC dX0_stacks_6 (by decide) [(2, .int ((fX0_pair (93 : Int32) u))), (0, .ref (xB h)), (1, .int a1)] rfl ?_
  refine g_iload_n 7 hC dX0_stacks_7 0 rfl ?_
  refine g_iconst 8 hC (1 : Int32) dX0_stacks_8 (by decide) ?_
  refine g_icmp_ltT (tW) 9 hC 19 dX0_stacks_9 (by decide) (fun h1 => ?_) (fun h1 => ?_)
  · skip
    refine g_iconst 19 hC (0 : Int32) dX0_stacks_19 (by decide) ?_
    exact g_zret 20 hC nb0 dX0_stacks_20
  · skip
    refine g_iload_n 12 hC dX0_stacks_12 0 rfl ?_
    refine g_sipush 13 hC (1023 : Int32) dX0_stacks_13 (by decide) ?_
    refine g_icmp_leT (tW) 16 hC 21 dX0_stacks_16 (by decide) (fun h2 => ?_) (fun h2 => ?_)
    · skip
      refine g_aload_n 21 hC dX0_stacks_21 1 rfl ?_
      refine g_iload_n 22 hC dX0_stacks_22 0 rfl ?_
      refine g_iload_n 23 hC dX0_stacks_23 2 rfl ?_
      refine kX0_set 24 hC gX0_stacks_X0_set ⟨Nat.le_of_ble_eq_true rfl, Nat.le_of_ble_eq_true rfl⟩ dX0_stacks_24 (Nat.le_of_ble_eq_true rfl) ?_
      refine g_aload_n 27 hC dX0_stacks_27 1 rfl ?_
      refine g_iload_n 28 hC dX0_stacks_28 0 rfl ?_
      refine g_iconst 29 hC (1 : Int32) dX0_stacks_29 (by decide) ?_
      refine g_isub 30 hC dX0_stacks_30 ?_
      refine g_iload_n 31 hC dX0_stacks_31 2 rfl ?_
      refine g_bipush 32 hC (8 : Int32) dX0_stacks_32 (by decide) ?_
      refine g_ishr 34 hC dX0_stacks_34 ?_
      refine kX0_set 35 hC gX0_stacks_X0_set ⟨Nat.le_of_ble_eq_true rfl, Nat.le_of_ble_eq_true rfl⟩ dX0_stacks_35 (Nat.le_of_ble_eq_true rfl) ?_
      refine g_aload_n 38 hC dX0_stacks_38 1 rfl ?_
      refine g_bipush 39 hC (93 : Int32) dX0_stacks_39 (by decide) ?_
      refine g_iload_n 41 hC dX0_stacks_41 0 rfl ?_
      refine g_iconst 42 hC (2 : Int32) dX0_stacks_42 (by decide) ?_
      refine g_isub 43 hC dX0_stacks_43 ?_
      refine kX0_setPair 44 hC gX0_stacks_X0_setPair ⟨Nat.le_of_ble_eq_true rfl, Nat.le_of_ble_eq_true rfl⟩ dX0_stacks_44 (Nat.le_of_ble_eq_true rfl) ?_
      refine g_iconst 47 hC (1 : Int32) dX0_stacks_47 (by decide) ?_
      exact g_zret 48 hC nb1 dX0_stacks_48
    · skip
      refine g_iconst 19 hC (0 : Int32) dX0_stacks_19 (by decide) ?_
      exact g_zret 20 hC nb0 dX0_stacks_20
theorem kX0_stacks {K : KT} {h : HX} {cc : ByteArray} {nL : Nat} {own : String} {Ts : List Cond} {rm : Room} {ret : Option FieldType} {T : ST × Option Value} {u : ST} {lv : List (Nat × Value)} {rest : List Value} {idx : Nat} {a1 : Int32} (pc : Nat) (hC : Cx K (EX h) cc nL own Ts rm ret) (hT : GoodIn Ts (wsV own idx RX0 yX0_stacks wsX0_stacks)) (hR : rmX0_stacks.frames + 1 ≤ rm.frames ∧ 8 + (3 + 11) + rmX0_stacks.locals ≤ rm.locals) (hdg : decode cc pc = .ok (.invokevirtual idx, 3)) (hcat : (rest.map fun v => v.category).sum ≤ 8) (kk : G K (EX h) nL T (fX0_stacks a1 u).1 (pc + 3) lv (.int (fX0_stacks a1 u).2 :: rest)) : G K (EX h) nL T u pc lv (.int a1 :: .ref (xB h) :: rest) := g_callV (n := 1) pc hC (As := [.int a1]) (rest := rest) (cX0_stacks_ _ (Cx.ok hC) a1 u) hT rfl rfl rfl (by decide +kernel) hR 2 0 rfl rfl rfl rfl rfl hcat hdg kk

def fX0_pull (u : ST) : ST × Int32 :=
  ((fX0_setPair (93 : Int32) ((fX0_pair (93 : Int32) u) + (1 : Int32)) u), (fX0_get ((fX0_pair (93 : Int32) u) + (1 : Int32)) (fX0_setPair (93 : Int32) ((fX0_pair (93 : Int32) u) + (1 : Int32)) u)))
abbrev rmX0_pull : Room := { frames := 1, cells := 0, slots := 0, locals := 22 }
set_option maxRecDepth 20000 in
theorem cX0_pull_ (h : HX) (hE : okE (EX h)) (u : ST) : MX (EX h) yX0_pull wsX0_pull rmX0_pull [.ref (xB h)] u (tW (fX0_pull u)) := by
  refine MX.of (cc := cX0_pull) (maxL := 2) (ret := (some .int)) (lv := [(0, .ref (xB h))]) hE (by decide) rfl (fun _ => rfl) (Nat.le_of_ble_eq_true rfl) rfl (fun K hC => ?_)
  unfold fX0_pull
  refine g_aload_n 0 hC dX0_pull_0 0 rfl ?_
  refine g_bipush 1 hC (93 : Int32) dX0_pull_1 (by decide) ?_
  refine kX0_pair 3 hC gX0_pull_X0_pair ⟨Nat.le_of_ble_eq_true rfl, Nat.le_of_ble_eq_true rfl⟩ dX0_pull_3 (Nat.le_of_ble_eq_true rfl) ?_
  refine g_iconst 6 hC (1 : Int32) dX0_pull_6 (by decide) ?_
  refine g_iadd 7 hC dX0_pull_7 ?_
  refine g_istore_n 8 hC dX0_pull_8 (by decide) [(1, .int (((fX0_pair (93 : Int32) u) + (1 : Int32)))), (0, .ref (xB h))] rfl ?_
  refine g_aload_n 9 hC dX0_pull_9 1 rfl ?_
  refine g_bipush 10 hC (93 : Int32) dX0_pull_10 (by decide) ?_
  refine g_iload_n 12 hC dX0_pull_12 0 rfl ?_
  refine kX0_setPair 13 hC gX0_pull_X0_setPair ⟨Nat.le_of_ble_eq_true rfl, Nat.le_of_ble_eq_true rfl⟩ dX0_pull_13 (Nat.le_of_ble_eq_true rfl) ?_
  refine g_aload_n 16 hC dX0_pull_16 1 rfl ?_
  refine g_iload_n 17 hC dX0_pull_17 0 rfl ?_
  refine kX0_get 18 hC gX0_pull_X0_get ⟨Nat.le_of_ble_eq_true rfl, Nat.le_of_ble_eq_true rfl⟩ dX0_pull_18 (Nat.le_of_ble_eq_true rfl) ?_
  exact g_iret 21 hC dX0_pull_21
theorem kX0_pull {K : KT} {h : HX} {cc : ByteArray} {nL : Nat} {own : String} {Ts : List Cond} {rm : Room} {ret : Option FieldType} {T : ST × Option Value} {u : ST} {lv : List (Nat × Value)} {rest : List Value} {idx : Nat} (pc : Nat) (hC : Cx K (EX h) cc nL own Ts rm ret) (hT : GoodIn Ts (wsV own idx RX0 yX0_pull wsX0_pull)) (hR : rmX0_pull.frames + 1 ≤ rm.frames ∧ 8 + (2 + 11) + rmX0_pull.locals ≤ rm.locals) (hdg : decode cc pc = .ok (.invokevirtual idx, 3)) (hcat : (rest.map fun v => v.category).sum ≤ 8) (kk : G K (EX h) nL T (fX0_pull u).1 (pc + 3) lv (.int (fX0_pull u).2 :: rest)) : G K (EX h) nL T u pc lv (.ref (xB h) :: rest) := g_callV (n := 0) pc hC (As := []) (rest := rest) (cX0_pull_ _ (Cx.ok hC) u) hT rfl rfl rfl (by decide +kernel) hR 2 0 rfl rfl rfl rfl rfl hcat hdg kk

def fX2_signs (a0 : Int32) (a1 : Int32) : Int32 :=
  ((((if a0 = 0 then (2 : Int32) else (0 : Int32)) ||| (jshl ((jshr a0 (7 : Int32)) &&& (1 : Int32)) (2 : Int32))) ||| (jshl (if a1 = 0 then (0 : Int32) else (1 : Int32)) (3 : Int32))) ||| (jshl (((jshr a0 (7 : Int32)) &&& (1 : Int32)) ^^^ (if a1 = 0 then (0 : Int32) else (1 : Int32))) (4 : Int32)))
abbrev rmX2_signs : Room := { frames := 0, cells := 0, slots := 0, locals := 0 }
set_option maxRecDepth 20000 in
theorem cX2_signs_ (E : EV) (hE : okE E) (a0 : Int32) (a1 : Int32) (u : ST) : MX E yX2_signs wsX2_signs rmX2_signs [.int a0, .int a1] u (tR u (fX2_signs a0 a1)) := by
  refine MX.of (cc := cX2_signs) (maxL := 4) (ret := (some .int)) (lv := [(0, .int a0), (1, .int a1)]) hE (by decide) rfl (fun _ => rfl) (Nat.le_of_ble_eq_true rfl) rfl (fun K hC => ?_)
  unfold fX2_signs
  refine g_iload_n 0 hC dX2_signs_0 0 rfl ?_
  refine g_bipush 1 hC (7 : Int32) dX2_signs_1 (by decide) ?_
  refine g_ishr 3 hC dX2_signs_3 ?_
  refine g_iconst 4 hC (1 : Int32) dX2_signs_4 (by decide) ?_
  refine g_iand 5 hC dX2_signs_5 ?_
  refine g_istore_n 6 hC dX2_signs_6 (by decide) [(2, .int (((jshr a0 (7 : Int32)) &&& (1 : Int32)))), (0, .int a0), (1, .int a1)] rfl ?_
  refine g_iload_n 7 hC dX2_signs_7 2 rfl ?_
  refine g_cut 16 (if a1 = 0 then (0 : Int32) else (1 : Int32)) [] ?_ (fun J2 => ?_)
  · skip
    refine g_istore_n 16 hC dX2_signs_16 (by decide) [(3, .int ((if a1 = 0 then (0 : Int32) else (1 : Int32)))), (2, .int (((jshr a0 (7 : Int32)) &&& (1 : Int32)))), (0, .int a0), (1, .int a1)] rfl ?_
    refine g_iload_n 17 hC dX2_signs_17 2 rfl ?_
    refine g_cut 26 (if a0 = 0 then (2 : Int32) else (0 : Int32)) [] ?_ (fun J4 => ?_)
    · skip
      refine g_iload_n 26 hC dX2_signs_26 1 rfl ?_
      refine g_iconst 27 hC (2 : Int32) dX2_signs_27 (by decide) ?_
      refine g_ishl 28 hC dX2_signs_28 ?_
      refine g_ior 29 hC dX2_signs_29 ?_
      refine g_iload_n 30 hC dX2_signs_30 0 rfl ?_
      refine g_iconst 31 hC (3 : Int32) dX2_signs_31 (by decide) ?_
      refine g_ishl 32 hC dX2_signs_32 ?_
      refine g_ior 33 hC dX2_signs_33 ?_
      refine g_iload_n 34 hC dX2_signs_34 1 rfl ?_
      refine g_iload_n 35 hC dX2_signs_35 0 rfl ?_
      refine g_ixor 36 hC dX2_signs_36 ?_
      refine g_iconst 37 hC (4 : Int32) dX2_signs_37 (by decide) ?_
      refine g_ishl 38 hC dX2_signs_38 ?_
      refine g_ior 39 hC dX2_signs_39 ?_
      exact g_iret 40 hC dX2_signs_40
    · skip
      refine g_if_ne 18 hC 25 dX2_signs_18 (by decide) (fun h3 => ?_) (fun h3 => ?_)
      · skip
        refine g_iconst 25 hC (0 : Int32) dX2_signs_25 (by decide) ?_
        exact J4 _ (Eq.symm (if_neg h3))
      · skip
        refine g_iconst 21 hC (2 : Int32) dX2_signs_21 (by decide) ?_
        refine g_goto 22 hC 26 dX2_signs_22 (by decide) ?_
        exact J4 _ (Eq.symm (if_pos h3))
  · skip
    refine g_if_eq 8 hC 15 dX2_signs_8 (by decide) (fun h1 => ?_) (fun h1 => ?_)
    · skip
      refine g_iconst 15 hC (0 : Int32) dX2_signs_15 (by decide) ?_
      exact J2 _ (Eq.symm (if_pos h1))
    · skip
      refine g_iconst 11 hC (1 : Int32) dX2_signs_11 (by decide) ?_
      refine g_goto 12 hC 16 dX2_signs_12 (by decide) ?_
      exact J2 _ (Eq.symm (if_neg h1))
theorem kX2_signs {K : KT} {E : EV} {cc : ByteArray} {nL : Nat} {own : String} {Ts : List Cond} {rm : Room} {ret : Option FieldType} {T : ST × Option Value} {u : ST} {lv : List (Nat × Value)} {rest : List Value} {idx : Nat} {a0 : Int32} {a1 : Int32} (pc : Nat) (hC : Cx K E cc nL own Ts rm ret) (hT : GoodIn Ts (va_wsS own idx yX2_signs wsX2_signs)) (hR : rmX2_signs.frames + 1 ≤ rm.frames ∧ 8 + (4 + 11) + rmX2_signs.locals ≤ rm.locals) (hdg : decode cc pc = .ok (.invokestatic idx, 3)) (hcat : (rest.map fun v => v.category).sum ≤ 8) (kk : G K E nL T u (pc + 3) lv (.int (fX2_signs a0 a1) :: rest)) : G K E nL T u pc lv (.int a1 :: .int a0 :: rest) := g_callS (n := 2) pc hC (As := [.int a0, .int a1]) (rest := rest) (cX2_signs_ _ (Cx.ok hC) a0 a1 u) hT rfl rfl rfl (by decide +kernel) hR rfl rfl hcat hdg kk

def fX2_sum (a1 : Int32) (a2 : Int32) (a3 : Int32) (u : ST) : ST × Int32 :=
  ((fX0_setFlags (63 : Int32) (((fX2_signs (((a1 + a2) + a3) &&& (255 : Int32)) (if (((a1 ^^^ (((a1 + a2) + a3) &&& (255 : Int32))) &&& (a2 ^^^ (((a1 + a2) + a3) &&& (255 : Int32)))) &&& (128 : Int32)) = 0 then (0 : Int32) else (1 : Int32))) ||| (if ((a1 + a2) + a3) ≤ (255 : Int32) then (0 : Int32) else (1 : Int32))) ||| (if (((a1 &&& (15 : Int32)) + (a2 &&& (15 : Int32))) + a3) ≤ (15 : Int32) then (0 : Int32) else (32 : Int32))) u), (((a1 + a2) + a3) &&& (255 : Int32)))
theorem fiX2_sum_wsX20 : ∀ w ∈ wsX20, w ∈ wsX2_sum := fun w h => List.mem_cons_of_mem _ (List.mem_append_left _ (List.mem_append_right _ h))
theorem fmX2_sum_13 : Cond.fieldLink RX2 13 "FlagCore$Sums" "bytes" "LFlagCore$Bytes;" ∈ wsX2_sum := List.mem_of_getElem? (i := 1) rfl
abbrev rmX2_sum : Room := { frames := 1, cells := 0, slots := 0, locals := 23 }
set_option maxRecDepth 20000 in
theorem cX2_sum_ (h : HX) (hE : okE (EX h)) (a1 : Int32) (a2 : Int32) (a3 : Int32) (u : ST) : MX (EX h) yX2_sum wsX2_sum rmX2_sum [.ref (xS h), .int a1, .int a2, .int a3] u (tW (fX2_sum a1 a2 a3 u)) := by
  refine MX.of (cc := cX2_sum) (maxL := 8) (ret := (some .int)) (lv := [(0, .ref (xS h)), (1, .int a1), (2, .int a2), (3, .int a3)]) hE (by decide) rfl (fun _ => rfl) (Nat.le_of_ble_eq_true rfl) rfl (fun K hC => ?_)
  unfold fX2_sum
  refine g_iload_n 0 hC dX2_sum_0 1 rfl ?_
  refine g_iload_n 1 hC dX2_sum_1 2 rfl ?_
  refine g_iadd 2 hC dX2_sum_2 ?_
  refine g_iload_n 3 hC dX2_sum_3 3 rfl ?_
  refine g_iadd 4 hC dX2_sum_4 ?_
  refine g_istore 5 hC dX2_sum_5 (by decide) [(4, .int (((a1 + a2) + a3))), (0, .ref (xS h)), (1, .int a1), (2, .int a2), (3, .int a3)] rfl ?_
  refine g_iload 7 hC dX2_sum_7 0 rfl ?_
  refine g_sipush 9 hC (255 : Int32) dX2_sum_9 (by decide) ?_
  refine g_iand 12 hC dX2_sum_12 ?_
  refine g_istore 13 hC dX2_sum_13 (by decide) [(5, .int ((((a1 + a2) + a3) &&& (255 : Int32)))), (4, .int (((a1 + a2) + a3))), (0, .ref (xS h)), (1, .int a1), (2, .int a2), (3, .int a3)] rfl ?_
  refine g_iload_n 15 hC dX2_sum_15 3 rfl ?_
  refine g_bipush 16 hC (15 : Int32) dX2_sum_16 (by decide) ?_
  refine g_iand 18 hC dX2_sum_18 ?_
  refine g_iload_n 19 hC dX2_sum_19 4 rfl ?_
  refine g_bipush 20 hC (15 : Int32) dX2_sum_20 (by decide) ?_
  refine g_iand 22 hC dX2_sum_22 ?_
  refine g_iadd 23 hC dX2_sum_23 ?_
  refine g_iload_n 24 hC dX2_sum_24 5 rfl ?_
  refine g_iadd 25 hC dX2_sum_25 ?_
  refine g_istore 26 hC dX2_sum_26 (by decide) [(6, .int ((((a1 &&& (15 : Int32)) + (a2 &&& (15 : Int32))) + a3))), (5, .int ((((a1 + a2) + a3) &&& (255 : Int32)))), (4, .int (((a1 + a2) + a3))), (0, .ref (xS h)), (1, .int a1), (2, .int a2), (3, .int a3)] rfl ?_
  refine g_iload_n 28 hC dX2_sum_28 4 rfl ?_
  refine g_iload 29 hC dX2_sum_29 1 rfl ?_
  refine g_ixor 31 hC dX2_sum_31 ?_
  refine g_iload_n 32 hC dX2_sum_32 5 rfl ?_
  refine g_iload 33 hC dX2_sum_33 1 rfl ?_
  refine g_ixor 35 hC dX2_sum_35 ?_
  refine g_iand 36 hC dX2_sum_36 ?_
  refine g_sipush 37 hC (128 : Int32) dX2_sum_37 (by decide) ?_
  refine g_iand 40 hC dX2_sum_40 ?_
  refine g_cut 49 (if (((a1 ^^^ (((a1 + a2) + a3) &&& (255 : Int32))) &&& (a2 ^^^ (((a1 + a2) + a3) &&& (255 : Int32)))) &&& (128 : Int32)) = 0 then (0 : Int32) else (1 : Int32)) [] ?_ (fun J2 => ?_)
  · skip
    refine g_istore 49 hC dX2_sum_49 (by decide) [(7, .int ((if (((a1 ^^^ (((a1 + a2) + a3) &&& (255 : Int32))) &&& (a2 ^^^ (((a1 + a2) + a3) &&& (255 : Int32)))) &&& (128 : Int32)) = 0 then (0 : Int32) else (1 : Int32)))), (6, .int ((((a1 &&& (15 : Int32)) + (a2 &&& (15 : Int32))) + a3))), (5, .int ((((a1 + a2) + a3) &&& (255 : Int32)))), (4, .int (((a1 + a2) + a3))), (0, .ref (xS h)), (1, .int a1), (2, .int a2), (3, .int a3)] rfl ?_
    refine g_aload_n 51 hC dX2_sum_51 4 rfl ?_
    refine x_get_sbytes 52 hC fiX2_sum_wsX20 fmX2_sum_13 dX2_sum_52 ?_
    refine g_bipush 55 hC (63 : Int32) dX2_sum_55 (by decide) ?_
    refine g_iload 57 hC dX2_sum_57 2 rfl ?_
    refine g_iload 59 hC dX2_sum_59 0 rfl ?_
    refine kX2_signs 61 hC gX2_sum_X2_signs ⟨Nat.le_of_ble_eq_true rfl, Nat.le_of_ble_eq_true rfl⟩ dX2_sum_61 (Nat.le_of_ble_eq_true rfl) ?_
    refine g_iload 64 hC dX2_sum_64 3 rfl ?_
    refine g_sipush 66 hC (255 : Int32) dX2_sum_66 (by decide) ?_
    refine g_cut 77 (if ((a1 + a2) + a3) ≤ (255 : Int32) then (0 : Int32) else (1 : Int32)) [.int ((fX2_signs (((a1 + a2) + a3) &&& (255 : Int32)) (if (((a1 ^^^ (((a1 + a2) + a3) &&& (255 : Int32))) &&& (a2 ^^^ (((a1 + a2) + a3) &&& (255 : Int32)))) &&& (128 : Int32)) = 0 then (0 : Int32) else (1 : Int32)))), .int ((63 : Int32)), .ref (xB h)] ?_ (fun J4 => ?_)
    · skip
      refine g_ior 77 hC dX2_sum_77 ?_
      refine g_iload 78 hC dX2_sum_78 1 rfl ?_
      refine g_bipush 80 hC (15 : Int32) dX2_sum_80 (by decide) ?_
      refine g_cut 91 (if (((a1 &&& (15 : Int32)) + (a2 &&& (15 : Int32))) + a3) ≤ (15 : Int32) then (0 : Int32) else (32 : Int32)) [.int (((fX2_signs (((a1 + a2) + a3) &&& (255 : Int32)) (if (((a1 ^^^ (((a1 + a2) + a3) &&& (255 : Int32))) &&& (a2 ^^^ (((a1 + a2) + a3) &&& (255 : Int32)))) &&& (128 : Int32)) = 0 then (0 : Int32) else (1 : Int32))) ||| (if ((a1 + a2) + a3) ≤ (255 : Int32) then (0 : Int32) else (1 : Int32)))), .int ((63 : Int32)), .ref (xB h)] ?_ (fun J6 => ?_)
      · skip
        refine g_ior 91 hC dX2_sum_91 ?_
        refine kX0_setFlags 92 hC gX2_sum_X0_setFlags ⟨Nat.le_of_ble_eq_true rfl, Nat.le_of_ble_eq_true rfl⟩ dX2_sum_92 (Nat.le_of_ble_eq_true rfl) ?_
        refine g_iload 95 hC dX2_sum_95 2 rfl ?_
        exact g_iret 97 hC dX2_sum_97
      · skip
        refine g_icmp_le 82 hC 90 dX2_sum_82 (by decide) (fun h5 => ?_) (fun h5 => ?_)
        · skip
          refine g_iconst 90 hC (0 : Int32) dX2_sum_90 (by decide) ?_
          exact J6 _ (Eq.symm (if_pos h5))
        · skip
          refine g_bipush 85 hC (32 : Int32) dX2_sum_85 (by decide) ?_
          refine g_goto 87 hC 91 dX2_sum_87 (by decide) ?_
          exact J6 _ (Eq.symm (if_neg h5))
    · skip
      refine g_icmp_le 69 hC 76 dX2_sum_69 (by decide) (fun h3 => ?_) (fun h3 => ?_)
      · skip
        refine g_iconst 76 hC (0 : Int32) dX2_sum_76 (by decide) ?_
        exact J4 _ (Eq.symm (if_pos h3))
      · skip
        refine g_iconst 72 hC (1 : Int32) dX2_sum_72 (by decide) ?_
        refine g_goto 73 hC 77 dX2_sum_73 (by decide) ?_
        exact J4 _ (Eq.symm (if_neg h3))
  · skip
    refine g_if_eq 41 hC 48 dX2_sum_41 (by decide) (fun h1 => ?_) (fun h1 => ?_)
    · skip
      refine g_iconst 48 hC (0 : Int32) dX2_sum_48 (by decide) ?_
      exact J2 _ (Eq.symm (if_pos h1))
    · skip
      refine g_iconst 44 hC (1 : Int32) dX2_sum_44 (by decide) ?_
      refine g_goto 45 hC 49 dX2_sum_45 (by decide) ?_
      exact J2 _ (Eq.symm (if_neg h1))
theorem kX2_sum {K : KT} {h : HX} {cc : ByteArray} {nL : Nat} {own : String} {Ts : List Cond} {rm : Room} {ret : Option FieldType} {T : ST × Option Value} {u : ST} {lv : List (Nat × Value)} {rest : List Value} {idx : Nat} {a1 : Int32} {a2 : Int32} {a3 : Int32} (pc : Nat) (hC : Cx K (EX h) cc nL own Ts rm ret) (hT : GoodIn Ts (wsV own idx RX2 yX2_sum wsX2_sum)) (hR : rmX2_sum.frames + 1 ≤ rm.frames ∧ 8 + (8 + 11) + rmX2_sum.locals ≤ rm.locals) (hdg : decode cc pc = .ok (.invokevirtual idx, 3)) (hcat : (rest.map fun v => v.category).sum ≤ 8) (kk : G K (EX h) nL T (fX2_sum a1 a2 a3 u).1 (pc + 3) lv (.int (fX2_sum a1 a2 a3 u).2 :: rest)) : G K (EX h) nL T u pc lv (.int a3 :: .int a2 :: .int a1 :: .ref (xS h) :: rest) := g_callV (n := 3) pc hC (As := [.int a1, .int a2, .int a3]) (rest := rest) (cX2_sum_ _ (Cx.ok hC) a1 a2 a3 u) hT rfl rfl rfl (by decide +kernel) hR 4 1 rfl rfl rfl rfl rfl hcat hdg kk

def fX2_subtract (a1 : Int32) (a2 : Int32) (a3 : Int32) (a4 : Int32) (u : ST) : ST × Int32 :=
  ((fX0_setFlags ((a4 ||| (1 : Int32)) ||| (32 : Int32)) (((fX2_signs (((a1 - a2) - a3) &&& (255 : Int32)) (if (((a1 ^^^ a2) &&& (a1 ^^^ (((a1 - a2) - a3) &&& (255 : Int32)))) &&& (128 : Int32)) = 0 then (0 : Int32) else (1 : Int32))) ||| (if 0 ≤ ((a1 - a2) - a3) then (0 : Int32) else (1 : Int32))) ||| (if 0 ≤ (((a1 &&& (15 : Int32)) - (a2 &&& (15 : Int32))) - a3) then (0 : Int32) else (32 : Int32))) u), (((a1 - a2) - a3) &&& (255 : Int32)))
theorem fiX2_subtract_wsX20 : ∀ w ∈ wsX20, w ∈ wsX2_subtract := fun w h => List.mem_cons_of_mem _ (List.mem_append_left _ (List.mem_append_right _ h))
theorem fmX2_subtract_13 : Cond.fieldLink RX2 13 "FlagCore$Sums" "bytes" "LFlagCore$Bytes;" ∈ wsX2_subtract := List.mem_of_getElem? (i := 1) rfl
abbrev rmX2_subtract : Room := { frames := 1, cells := 0, slots := 0, locals := 23 }
set_option maxRecDepth 20000 in
theorem cX2_subtract_ (h : HX) (hE : okE (EX h)) (a1 : Int32) (a2 : Int32) (a3 : Int32) (a4 : Int32) (u : ST) : MX (EX h) yX2_subtract wsX2_subtract rmX2_subtract [.ref (xS h), .int a1, .int a2, .int a3, .int a4] u (tW (fX2_subtract a1 a2 a3 a4 u)) := by
  refine MX.of (cc := cX2_subtract) (maxL := 9) (ret := (some .int)) (lv := [(0, .ref (xS h)), (1, .int a1), (2, .int a2), (3, .int a3), (4, .int a4)]) hE (by decide) rfl (fun _ => rfl) (Nat.le_of_ble_eq_true rfl) rfl (fun K hC => ?_)
  unfold fX2_subtract
  refine g_iload_n 0 hC dX2_subtract_0 1 rfl ?_
  refine g_iload_n 1 hC dX2_subtract_1 2 rfl ?_
  refine g_isub 2 hC dX2_subtract_2 ?_
  refine g_iload_n 3 hC dX2_subtract_3 3 rfl ?_
  refine g_isub 4 hC dX2_subtract_4 ?_
  refine g_istore 5 hC dX2_subtract_5 (by decide) [(5, .int (((a1 - a2) - a3))), (0, .ref (xS h)), (1, .int a1), (2, .int a2), (3, .int a3), (4, .int a4)] rfl ?_
  refine g_iload 7 hC dX2_subtract_7 0 rfl ?_
  refine g_sipush 9 hC (255 : Int32) dX2_subtract_9 (by decide) ?_
  refine g_iand 12 hC dX2_subtract_12 ?_
  refine g_istore 13 hC dX2_subtract_13 (by decide) [(6, .int ((((a1 - a2) - a3) &&& (255 : Int32)))), (5, .int (((a1 - a2) - a3))), (0, .ref (xS h)), (1, .int a1), (2, .int a2), (3, .int a3), (4, .int a4)] rfl ?_
  refine g_iload_n 15 hC dX2_subtract_15 3 rfl ?_
  refine g_bipush 16 hC (15 : Int32) dX2_subtract_16 (by decide) ?_
  refine g_iand 18 hC dX2_subtract_18 ?_
  refine g_iload_n 19 hC dX2_subtract_19 4 rfl ?_
  refine g_bipush 20 hC (15 : Int32) dX2_subtract_20 (by decide) ?_
  refine g_iand 22 hC dX2_subtract_22 ?_
  refine g_isub 23 hC dX2_subtract_23 ?_
  refine g_iload_n 24 hC dX2_subtract_24 5 rfl ?_
  refine g_isub 25 hC dX2_subtract_25 ?_
  refine g_istore 26 hC dX2_subtract_26 (by decide) [(7, .int ((((a1 &&& (15 : Int32)) - (a2 &&& (15 : Int32))) - a3))), (6, .int ((((a1 - a2) - a3) &&& (255 : Int32)))), (5, .int (((a1 - a2) - a3))), (0, .ref (xS h)), (1, .int a1), (2, .int a2), (3, .int a3), (4, .int a4)] rfl ?_
  refine g_iload_n 28 hC dX2_subtract_28 4 rfl ?_
  refine g_iload_n 29 hC dX2_subtract_29 5 rfl ?_
  refine g_ixor 30 hC dX2_subtract_30 ?_
  refine g_iload_n 31 hC dX2_subtract_31 4 rfl ?_
  refine g_iload 32 hC dX2_subtract_32 1 rfl ?_
  refine g_ixor 34 hC dX2_subtract_34 ?_
  refine g_iand 35 hC dX2_subtract_35 ?_
  refine g_sipush 36 hC (128 : Int32) dX2_subtract_36 (by decide) ?_
  refine g_iand 39 hC dX2_subtract_39 ?_
  refine g_cut 48 (if (((a1 ^^^ a2) &&& (a1 ^^^ (((a1 - a2) - a3) &&& (255 : Int32)))) &&& (128 : Int32)) = 0 then (0 : Int32) else (1 : Int32)) [] ?_ (fun J2 => ?_)
  · skip
    refine g_istore 48 hC dX2_subtract_48 (by decide) [(8, .int ((if (((a1 ^^^ a2) &&& (a1 ^^^ (((a1 - a2) - a3) &&& (255 : Int32)))) &&& (128 : Int32)) = 0 then (0 : Int32) else (1 : Int32)))), (7, .int ((((a1 &&& (15 : Int32)) - (a2 &&& (15 : Int32))) - a3))), (6, .int ((((a1 - a2) - a3) &&& (255 : Int32)))), (5, .int (((a1 - a2) - a3))), (0, .ref (xS h)), (1, .int a1), (2, .int a2), (3, .int a3), (4, .int a4)] rfl ?_
    refine g_aload_n 50 hC dX2_subtract_50 4 rfl ?_
    refine x_get_sbytes 51 hC fiX2_subtract_wsX20 fmX2_subtract_13 dX2_subtract_51 ?_
    refine g_iload 54 hC dX2_subtract_54 8 rfl ?_
    refine g_iconst 56 hC (1 : Int32) dX2_subtract_56 (by decide) ?_
    refine g_ior 57 hC dX2_subtract_57 ?_
    refine g_bipush 58 hC (32 : Int32) dX2_subtract_58 (by decide) ?_
    refine g_ior 60 hC dX2_subtract_60 ?_
    refine g_iload 61 hC dX2_subtract_61 2 rfl ?_
    refine g_iload 63 hC dX2_subtract_63 0 rfl ?_
    refine kX2_signs 65 hC gX2_subtract_X2_signs ⟨Nat.le_of_ble_eq_true rfl, Nat.le_of_ble_eq_true rfl⟩ dX2_subtract_65 (Nat.le_of_ble_eq_true rfl) ?_
    refine g_iload 68 hC dX2_subtract_68 3 rfl ?_
    refine g_cut 78 (if 0 ≤ ((a1 - a2) - a3) then (0 : Int32) else (1 : Int32)) [.int ((fX2_signs (((a1 - a2) - a3) &&& (255 : Int32)) (if (((a1 ^^^ a2) &&& (a1 ^^^ (((a1 - a2) - a3) &&& (255 : Int32)))) &&& (128 : Int32)) = 0 then (0 : Int32) else (1 : Int32)))), .int (((a4 ||| (1 : Int32)) ||| (32 : Int32))), .ref (xB h)] ?_ (fun J4 => ?_)
    · skip
      refine g_ior 78 hC dX2_subtract_78 ?_
      refine g_iload 79 hC dX2_subtract_79 1 rfl ?_
      refine g_cut 90 (if 0 ≤ (((a1 &&& (15 : Int32)) - (a2 &&& (15 : Int32))) - a3) then (0 : Int32) else (32 : Int32)) [.int (((fX2_signs (((a1 - a2) - a3) &&& (255 : Int32)) (if (((a1 ^^^ a2) &&& (a1 ^^^ (((a1 - a2) - a3) &&& (255 : Int32)))) &&& (128 : Int32)) = 0 then (0 : Int32) else (1 : Int32))) ||| (if 0 ≤ ((a1 - a2) - a3) then (0 : Int32) else (1 : Int32)))), .int (((a4 ||| (1 : Int32)) ||| (32 : Int32))), .ref (xB h)] ?_ (fun J6 => ?_)
      · skip
        refine g_ior 90 hC dX2_subtract_90 ?_
        refine kX0_setFlags 91 hC gX2_subtract_X0_setFlags ⟨Nat.le_of_ble_eq_true rfl, Nat.le_of_ble_eq_true rfl⟩ dX2_subtract_91 (Nat.le_of_ble_eq_true rfl) ?_
        refine g_iload 94 hC dX2_subtract_94 2 rfl ?_
        exact g_iret 96 hC dX2_subtract_96
      · skip
        refine g_if_ge 81 hC 89 dX2_subtract_81 (by decide) (fun h5 => ?_) (fun h5 => ?_)
        · skip
          refine g_iconst 89 hC (0 : Int32) dX2_subtract_89 (by decide) ?_
          exact J6 _ (Eq.symm (if_pos h5))
        · skip
          refine g_bipush 84 hC (32 : Int32) dX2_subtract_84 (by decide) ?_
          refine g_goto 86 hC 90 dX2_subtract_86 (by decide) ?_
          exact J6 _ (Eq.symm (if_neg h5))
    · skip
      refine g_if_ge 70 hC 77 dX2_subtract_70 (by decide) (fun h3 => ?_) (fun h3 => ?_)
      · skip
        refine g_iconst 77 hC (0 : Int32) dX2_subtract_77 (by decide) ?_
        exact J4 _ (Eq.symm (if_pos h3))
      · skip
        refine g_iconst 73 hC (1 : Int32) dX2_subtract_73 (by decide) ?_
        refine g_goto 74 hC 78 dX2_subtract_74 (by decide) ?_
        exact J4 _ (Eq.symm (if_neg h3))
  · skip
    refine g_if_eq 40 hC 47 dX2_subtract_40 (by decide) (fun h1 => ?_) (fun h1 => ?_)
    · skip
      refine g_iconst 47 hC (0 : Int32) dX2_subtract_47 (by decide) ?_
      exact J2 _ (Eq.symm (if_pos h1))
    · skip
      refine g_iconst 43 hC (1 : Int32) dX2_subtract_43 (by decide) ?_
      refine g_goto 44 hC 48 dX2_subtract_44 (by decide) ?_
      exact J2 _ (Eq.symm (if_neg h1))
theorem kX2_subtract {K : KT} {h : HX} {cc : ByteArray} {nL : Nat} {own : String} {Ts : List Cond} {rm : Room} {ret : Option FieldType} {T : ST × Option Value} {u : ST} {lv : List (Nat × Value)} {rest : List Value} {idx : Nat} {a1 : Int32} {a2 : Int32} {a3 : Int32} {a4 : Int32} (pc : Nat) (hC : Cx K (EX h) cc nL own Ts rm ret) (hT : GoodIn Ts (wsV own idx RX2 yX2_subtract wsX2_subtract)) (hR : rmX2_subtract.frames + 1 ≤ rm.frames ∧ 8 + (9 + 11) + rmX2_subtract.locals ≤ rm.locals) (hdg : decode cc pc = .ok (.invokevirtual idx, 3)) (hcat : (rest.map fun v => v.category).sum ≤ 8) (kk : G K (EX h) nL T (fX2_subtract a1 a2 a3 a4 u).1 (pc + 3) lv (.int (fX2_subtract a1 a2 a3 a4 u).2 :: rest)) : G K (EX h) nL T u pc lv (.int a4 :: .int a3 :: .int a2 :: .int a1 :: .ref (xS h) :: rest) := g_callV (n := 4) pc hC (As := [.int a1, .int a2, .int a3, .int a4]) (rest := rest) (cX2_subtract_ _ (Cx.ok hC) a1 a2 a3 a4 u) hT rfl rfl rfl (by decide +kernel) hR 4 1 rfl rfl rfl rfl rfl hcat hdg kk

def fX2_difference (a1 : Int32) (a2 : Int32) (u : ST) : ST × Int32 :=
  (fX2_subtract a1 a2 (0 : Int32) (30 : Int32) u)
abbrev rmX2_difference : Room := { frames := 2, cells := 0, slots := 0, locals := 51 }
set_option maxRecDepth 20000 in
theorem cX2_difference_ (h : HX) (hE : okE (EX h)) (a1 : Int32) (a2 : Int32) (u : ST) : MX (EX h) yX2_difference wsX2_difference rmX2_difference [.ref (xS h), .int a1, .int a2] u (tW (fX2_difference a1 a2 u)) := by
  refine MX.of (cc := cX2_difference) (maxL := 3) (ret := (some .int)) (lv := [(0, .ref (xS h)), (1, .int a1), (2, .int a2)]) hE (by decide) rfl (fun _ => rfl) (Nat.le_of_ble_eq_true rfl) rfl (fun K hC => ?_)
  unfold fX2_difference
  refine g_aload_n 0 hC dX2_difference_0 0 rfl ?_
  refine g_iload_n 1 hC dX2_difference_1 1 rfl ?_
  refine g_iload_n 2 hC dX2_difference_2 2 rfl ?_
  refine g_iconst 3 hC (0 : Int32) dX2_difference_3 (by decide) ?_
  refine g_bipush 4 hC (30 : Int32) dX2_difference_4 (by decide) ?_
  refine kX2_subtract 6 hC gX2_difference_X2_subtract ⟨Nat.le_of_ble_eq_true rfl, Nat.le_of_ble_eq_true rfl⟩ dX2_difference_6 (Nat.le_of_ble_eq_true rfl) ?_
  exact g_iret 9 hC dX2_difference_9
theorem kX2_difference {K : KT} {h : HX} {cc : ByteArray} {nL : Nat} {own : String} {Ts : List Cond} {rm : Room} {ret : Option FieldType} {T : ST × Option Value} {u : ST} {lv : List (Nat × Value)} {rest : List Value} {idx : Nat} {a1 : Int32} {a2 : Int32} (pc : Nat) (hC : Cx K (EX h) cc nL own Ts rm ret) (hT : GoodIn Ts (wsV own idx RX2 yX2_difference wsX2_difference)) (hR : rmX2_difference.frames + 1 ≤ rm.frames ∧ 8 + (3 + 11) + rmX2_difference.locals ≤ rm.locals) (hdg : decode cc pc = .ok (.invokevirtual idx, 3)) (hcat : (rest.map fun v => v.category).sum ≤ 8) (kk : G K (EX h) nL T (fX2_difference a1 a2 u).1 (pc + 3) lv (.int (fX2_difference a1 a2 u).2 :: rest)) : G K (EX h) nL T u pc lv (.int a2 :: .int a1 :: .ref (xS h) :: rest) := g_callV (n := 2) pc hC (As := [.int a1, .int a2]) (rest := rest) (cX2_difference_ _ (Cx.ok hC) a1 a2 u) hT rfl rfl rfl (by decide +kernel) hR 4 1 rfl rfl rfl rfl rfl hcat hdg kk

def fX2_differenceOn (a1 : Int32) (a2 : Int32) (a3 : Int32) (u : ST) : ST × Int32 :=
  (fX2_subtract a1 a2 a3 (if (fX0_flag (1 : Int32) u) = (1 : Int32) then (30 : Int32) else (28 : Int32)) u)
theorem fiX2_differenceOn_wsX20 : ∀ w ∈ wsX20, w ∈ wsX2_differenceOn := fun w h => List.mem_cons_of_mem _ (List.mem_append_left _ (List.mem_append_right _ h))
theorem fmX2_differenceOn_13 : Cond.fieldLink RX2 13 "FlagCore$Sums" "bytes" "LFlagCore$Bytes;" ∈ wsX2_differenceOn := List.mem_of_getElem? (i := 1) rfl
abbrev rmX2_differenceOn : Room := { frames := 2, cells := 0, slots := 0, locals := 51 }
set_option maxRecDepth 20000 in
theorem cX2_differenceOn_ (h : HX) (hE : okE (EX h)) (a1 : Int32) (a2 : Int32) (a3 : Int32) (u : ST) : MX (EX h) yX2_differenceOn wsX2_differenceOn rmX2_differenceOn [.ref (xS h), .int a1, .int a2, .int a3] u (tW (fX2_differenceOn a1 a2 a3 u)) := by
  refine MX.of (cc := cX2_differenceOn) (maxL := 5) (ret := (some .int)) (lv := [(0, .ref (xS h)), (1, .int a1), (2, .int a2), (3, .int a3)]) hE (by decide) rfl (fun _ => rfl) (Nat.le_of_ble_eq_true rfl) rfl (fun K hC => ?_)
  unfold fX2_differenceOn
  refine g_aload_n 0 hC dX2_differenceOn_0 0 rfl ?_
  refine x_get_sbytes 1 hC fiX2_differenceOn_wsX20 fmX2_differenceOn_13 dX2_differenceOn_1 ?_
  refine g_iconst 4 hC (1 : Int32) dX2_differenceOn_4 (by decide) ?_
  refine kX0_flag 5 hC gX2_differenceOn_X0_flag ⟨Nat.le_of_ble_eq_true rfl, Nat.le_of_ble_eq_true rfl⟩ dX2_differenceOn_5 (Nat.le_of_ble_eq_true rfl) ?_
  refine g_iconst 8 hC (1 : Int32) dX2_differenceOn_8 (by decide) ?_
  refine g_cut 19 (if (fX0_flag (1 : Int32) u) = (1 : Int32) then (30 : Int32) else (28 : Int32)) [] ?_ (fun J2 => ?_)
  · skip
    refine g_istore 19 hC dX2_differenceOn_19 (by decide) [(4, .int ((if (fX0_flag (1 : Int32) u) = (1 : Int32) then (30 : Int32) else (28 : Int32)))), (0, .ref (xS h)), (1, .int a1), (2, .int a2), (3, .int a3)] rfl ?_
    refine g_aload_n 21 hC dX2_differenceOn_21 1 rfl ?_
    refine g_iload_n 22 hC dX2_differenceOn_22 2 rfl ?_
    refine g_iload_n 23 hC dX2_differenceOn_23 3 rfl ?_
    refine g_iload_n 24 hC dX2_differenceOn_24 4 rfl ?_
    refine g_iload 25 hC dX2_differenceOn_25 0 rfl ?_
    refine kX2_subtract 27 hC gX2_differenceOn_X2_subtract ⟨Nat.le_of_ble_eq_true rfl, Nat.le_of_ble_eq_true rfl⟩ dX2_differenceOn_27 (Nat.le_of_ble_eq_true rfl) ?_
    exact g_iret 30 hC dX2_differenceOn_30
  · skip
    refine g_icmp_ne 9 hC 17 dX2_differenceOn_9 (by decide) (fun h1 => ?_) (fun h1 => ?_)
    · skip
      refine g_bipush 17 hC (28 : Int32) dX2_differenceOn_17 (by decide) ?_
      exact J2 _ (Eq.symm (if_neg h1))
    · skip
      refine g_bipush 12 hC (30 : Int32) dX2_differenceOn_12 (by decide) ?_
      refine g_goto 14 hC 19 dX2_differenceOn_14 (by decide) ?_
      exact J2 _ (Eq.symm (if_pos h1))
theorem kX2_differenceOn {K : KT} {h : HX} {cc : ByteArray} {nL : Nat} {own : String} {Ts : List Cond} {rm : Room} {ret : Option FieldType} {T : ST × Option Value} {u : ST} {lv : List (Nat × Value)} {rest : List Value} {idx : Nat} {a1 : Int32} {a2 : Int32} {a3 : Int32} (pc : Nat) (hC : Cx K (EX h) cc nL own Ts rm ret) (hT : GoodIn Ts (wsV own idx RX2 yX2_differenceOn wsX2_differenceOn)) (hR : rmX2_differenceOn.frames + 1 ≤ rm.frames ∧ 8 + (5 + 11) + rmX2_differenceOn.locals ≤ rm.locals) (hdg : decode cc pc = .ok (.invokevirtual idx, 3)) (hcat : (rest.map fun v => v.category).sum ≤ 8) (kk : G K (EX h) nL T (fX2_differenceOn a1 a2 a3 u).1 (pc + 3) lv (.int (fX2_differenceOn a1 a2 a3 u).2 :: rest)) : G K (EX h) nL T u pc lv (.int a3 :: .int a2 :: .int a1 :: .ref (xS h) :: rest) := g_callV (n := 3) pc hC (As := [.int a1, .int a2, .int a3]) (rest := rest) (cX2_differenceOn_ _ (Cx.ok hC) a1 a2 a3 u) hT rfl rfl rfl (by decide +kernel) hR 4 1 rfl rfl rfl rfl rfl hcat hdg kk

def fX2_logic (a1 : Int32) (u : ST) : ST × Int32 :=
  ((fX0_setFlags (30 : Int32) (fX2_signs a1 (0 : Int32)) u), a1)
theorem fiX2_logic_wsX20 : ∀ w ∈ wsX20, w ∈ wsX2_logic := fun w h => List.mem_cons_of_mem _ (List.mem_append_left _ (List.mem_append_right _ h))
theorem fmX2_logic_13 : Cond.fieldLink RX2 13 "FlagCore$Sums" "bytes" "LFlagCore$Bytes;" ∈ wsX2_logic := List.mem_of_getElem? (i := 1) rfl
abbrev rmX2_logic : Room := { frames := 1, cells := 0, slots := 0, locals := 23 }
set_option maxRecDepth 20000 in
theorem cX2_logic_ (h : HX) (hE : okE (EX h)) (a1 : Int32) (u : ST) : MX (EX h) yX2_logic wsX2_logic rmX2_logic [.ref (xS h), .int a1] u (tW (fX2_logic a1 u)) := by
  refine MX.of (cc := cX2_logic) (maxL := 2) (ret := (some .int)) (lv := [(0, .ref (xS h)), (1, .int a1)]) hE (by decide) rfl (fun _ => rfl) (Nat.le_of_ble_eq_true rfl) rfl (fun K hC => ?_)
  unfold fX2_logic
  refine g_aload_n 0 hC dX2_logic_0 0 rfl ?_
  refine x_get_sbytes 1 hC fiX2_logic_wsX20 fmX2_logic_13 dX2_logic_1 ?_
  refine g_bipush 4 hC (30 : Int32) dX2_logic_4 (by decide) ?_
  refine g_iload_n 6 hC dX2_logic_6 1 rfl ?_
  refine g_iconst 7 hC (0 : Int32) dX2_logic_7 (by decide) ?_
  refine kX2_signs 8 hC gX2_logic_X2_signs ⟨Nat.le_of_ble_eq_true rfl, Nat.le_of_ble_eq_true rfl⟩ dX2_logic_8 (Nat.le_of_ble_eq_true rfl) ?_
  refine kX0_setFlags 11 hC gX2_logic_X0_setFlags ⟨Nat.le_of_ble_eq_true rfl, Nat.le_of_ble_eq_true rfl⟩ dX2_logic_11 (Nat.le_of_ble_eq_true rfl) ?_
  refine g_iload_n 14 hC dX2_logic_14 1 rfl ?_
  exact g_iret 15 hC dX2_logic_15
theorem kX2_logic {K : KT} {h : HX} {cc : ByteArray} {nL : Nat} {own : String} {Ts : List Cond} {rm : Room} {ret : Option FieldType} {T : ST × Option Value} {u : ST} {lv : List (Nat × Value)} {rest : List Value} {idx : Nat} {a1 : Int32} (pc : Nat) (hC : Cx K (EX h) cc nL own Ts rm ret) (hT : GoodIn Ts (wsV own idx RX2 yX2_logic wsX2_logic)) (hR : rmX2_logic.frames + 1 ≤ rm.frames ∧ 8 + (2 + 11) + rmX2_logic.locals ≤ rm.locals) (hdg : decode cc pc = .ok (.invokevirtual idx, 3)) (hcat : (rest.map fun v => v.category).sum ≤ 8) (kk : G K (EX h) nL T (fX2_logic a1 u).1 (pc + 3) lv (.int (fX2_logic a1 u).2 :: rest)) : G K (EX h) nL T u pc lv (.int a1 :: .ref (xS h) :: rest) := g_callV (n := 1) pc hC (As := [.int a1]) (rest := rest) (cX2_logic_ _ (Cx.ok hC) a1 u) hT rfl rfl rfl (by decide +kernel) hR 4 1 rfl rfl rfl rfl rfl hcat hdg kk

def fX2_inverse (a1 : Int32) (u : ST) : ST × Int32 :=
  ((fX0_setFlags (31 : Int32) ((fX2_signs ((255 : Int32) - a1) (0 : Int32)) ||| (1 : Int32)) u), ((255 : Int32) - a1))
theorem fiX2_inverse_wsX20 : ∀ w ∈ wsX20, w ∈ wsX2_inverse := fun w h => List.mem_cons_of_mem _ (List.mem_append_left _ (List.mem_append_right _ h))
theorem fmX2_inverse_13 : Cond.fieldLink RX2 13 "FlagCore$Sums" "bytes" "LFlagCore$Bytes;" ∈ wsX2_inverse := List.mem_of_getElem? (i := 1) rfl
abbrev rmX2_inverse : Room := { frames := 1, cells := 0, slots := 0, locals := 23 }
set_option maxRecDepth 20000 in
theorem cX2_inverse_ (h : HX) (hE : okE (EX h)) (a1 : Int32) (u : ST) : MX (EX h) yX2_inverse wsX2_inverse rmX2_inverse [.ref (xS h), .int a1] u (tW (fX2_inverse a1 u)) := by
  refine MX.of (cc := cX2_inverse) (maxL := 3) (ret := (some .int)) (lv := [(0, .ref (xS h)), (1, .int a1)]) hE (by decide) rfl (fun _ => rfl) (Nat.le_of_ble_eq_true rfl) rfl (fun K hC => ?_)
  unfold fX2_inverse
  refine g_sipush 0 hC (255 : Int32) dX2_inverse_0 (by decide) ?_
  refine g_iload_n 3 hC dX2_inverse_3 1 rfl ?_
  refine g_isub 4 hC dX2_inverse_4 ?_
  refine g_istore_n 5 hC dX2_inverse_5 (by decide) [(2, .int (((255 : Int32) - a1))), (0, .ref (xS h)), (1, .int a1)] rfl ?_
  refine g_aload_n 6 hC dX2_inverse_6 1 rfl ?_
  refine x_get_sbytes 7 hC fiX2_inverse_wsX20 fmX2_inverse_13 dX2_inverse_7 ?_
  refine g_bipush 10 hC (31 : Int32) dX2_inverse_10 (by decide) ?_
  refine g_iload_n 12 hC dX2_inverse_12 0 rfl ?_
  refine g_iconst 13 hC (0 : Int32) dX2_inverse_13 (by decide) ?_
  refine kX2_signs 14 hC gX2_inverse_X2_signs ⟨Nat.le_of_ble_eq_true rfl, Nat.le_of_ble_eq_true rfl⟩ dX2_inverse_14 (Nat.le_of_ble_eq_true rfl) ?_
  refine g_iconst 17 hC (1 : Int32) dX2_inverse_17 (by decide) ?_
  refine g_ior 18 hC dX2_inverse_18 ?_
  refine kX0_setFlags 19 hC gX2_inverse_X0_setFlags ⟨Nat.le_of_ble_eq_true rfl, Nat.le_of_ble_eq_true rfl⟩ dX2_inverse_19 (Nat.le_of_ble_eq_true rfl) ?_
  refine g_iload_n 22 hC dX2_inverse_22 0 rfl ?_
  exact g_iret 23 hC dX2_inverse_23
theorem kX2_inverse {K : KT} {h : HX} {cc : ByteArray} {nL : Nat} {own : String} {Ts : List Cond} {rm : Room} {ret : Option FieldType} {T : ST × Option Value} {u : ST} {lv : List (Nat × Value)} {rest : List Value} {idx : Nat} {a1 : Int32} (pc : Nat) (hC : Cx K (EX h) cc nL own Ts rm ret) (hT : GoodIn Ts (wsV own idx RX2 yX2_inverse wsX2_inverse)) (hR : rmX2_inverse.frames + 1 ≤ rm.frames ∧ 8 + (3 + 11) + rmX2_inverse.locals ≤ rm.locals) (hdg : decode cc pc = .ok (.invokevirtual idx, 3)) (hcat : (rest.map fun v => v.category).sum ≤ 8) (kk : G K (EX h) nL T (fX2_inverse a1 u).1 (pc + 3) lv (.int (fX2_inverse a1 u).2 :: rest)) : G K (EX h) nL T u pc lv (.int a1 :: .ref (xS h) :: rest) := g_callV (n := 1) pc hC (As := [.int a1]) (rest := rest) (cX2_inverse_ _ (Cx.ok hC) a1 u) hT rfl rfl rfl (by decide +kernel) hR 4 1 rfl rfl rfl rfl rfl hcat hdg kk

def fX2_more (a1 : Int32) (u : ST) : ST × Int32 :=
  ((fX0_setFlags (30 : Int32) (fX2_signs ((a1 + (1 : Int32)) &&& (255 : Int32)) (if ((a1 + (1 : Int32)) &&& (255 : Int32)) = (128 : Int32) then (1 : Int32) else (0 : Int32))) u), ((a1 + (1 : Int32)) &&& (255 : Int32)))
theorem fiX2_more_wsX20 : ∀ w ∈ wsX20, w ∈ wsX2_more := fun w h => List.mem_cons_of_mem _ (List.mem_append_left _ (List.mem_append_right _ h))
theorem fmX2_more_13 : Cond.fieldLink RX2 13 "FlagCore$Sums" "bytes" "LFlagCore$Bytes;" ∈ wsX2_more := List.mem_of_getElem? (i := 1) rfl
abbrev rmX2_more : Room := { frames := 1, cells := 0, slots := 0, locals := 23 }
set_option maxRecDepth 20000 in
theorem cX2_more_ (h : HX) (hE : okE (EX h)) (a1 : Int32) (u : ST) : MX (EX h) yX2_more wsX2_more rmX2_more [.ref (xS h), .int a1] u (tW (fX2_more a1 u)) := by
  refine MX.of (cc := cX2_more) (maxL := 3) (ret := (some .int)) (lv := [(0, .ref (xS h)), (1, .int a1)]) hE (by decide) rfl (fun _ => rfl) (Nat.le_of_ble_eq_true rfl) rfl (fun K hC => ?_)
  unfold fX2_more
  refine g_iload_n 0 hC dX2_more_0 1 rfl ?_
  refine g_iconst 1 hC (1 : Int32) dX2_more_1 (by decide) ?_
  refine g_iadd 2 hC dX2_more_2 ?_
  refine g_sipush 3 hC (255 : Int32) dX2_more_3 (by decide) ?_
  refine g_iand 6 hC dX2_more_6 ?_
  refine g_istore_n 7 hC dX2_more_7 (by decide) [(2, .int (((a1 + (1 : Int32)) &&& (255 : Int32)))), (0, .ref (xS h)), (1, .int a1)] rfl ?_
  refine g_aload_n 8 hC dX2_more_8 1 rfl ?_
  refine x_get_sbytes 9 hC fiX2_more_wsX20 fmX2_more_13 dX2_more_9 ?_
  refine g_bipush 12 hC (30 : Int32) dX2_more_12 (by decide) ?_
  refine g_iload_n 14 hC dX2_more_14 0 rfl ?_
  refine g_iload_n 15 hC dX2_more_15 0 rfl ?_
  refine g_sipush 16 hC (128 : Int32) dX2_more_16 (by decide) ?_
  refine g_cut 27 (if ((a1 + (1 : Int32)) &&& (255 : Int32)) = (128 : Int32) then (1 : Int32) else (0 : Int32)) [.int (((a1 + (1 : Int32)) &&& (255 : Int32))), .int ((30 : Int32)), .ref (xB h)] ?_ (fun J2 => ?_)
  · skip
    refine kX2_signs 27 hC gX2_more_X2_signs ⟨Nat.le_of_ble_eq_true rfl, Nat.le_of_ble_eq_true rfl⟩ dX2_more_27 (Nat.le_of_ble_eq_true rfl) ?_
    refine kX0_setFlags 30 hC gX2_more_X0_setFlags ⟨Nat.le_of_ble_eq_true rfl, Nat.le_of_ble_eq_true rfl⟩ dX2_more_30 (Nat.le_of_ble_eq_true rfl) ?_
    refine g_iload_n 33 hC dX2_more_33 0 rfl ?_
    exact g_iret 34 hC dX2_more_34
  · skip
    refine g_icmp_ne 19 hC 26 dX2_more_19 (by decide) (fun h1 => ?_) (fun h1 => ?_)
    · skip
      refine g_iconst 26 hC (0 : Int32) dX2_more_26 (by decide) ?_
      exact J2 _ (Eq.symm (if_neg h1))
    · skip
      refine g_iconst 22 hC (1 : Int32) dX2_more_22 (by decide) ?_
      refine g_goto 23 hC 27 dX2_more_23 (by decide) ?_
      exact J2 _ (Eq.symm (if_pos h1))
theorem kX2_more {K : KT} {h : HX} {cc : ByteArray} {nL : Nat} {own : String} {Ts : List Cond} {rm : Room} {ret : Option FieldType} {T : ST × Option Value} {u : ST} {lv : List (Nat × Value)} {rest : List Value} {idx : Nat} {a1 : Int32} (pc : Nat) (hC : Cx K (EX h) cc nL own Ts rm ret) (hT : GoodIn Ts (wsV own idx RX2 yX2_more wsX2_more)) (hR : rmX2_more.frames + 1 ≤ rm.frames ∧ 8 + (3 + 11) + rmX2_more.locals ≤ rm.locals) (hdg : decode cc pc = .ok (.invokevirtual idx, 3)) (hcat : (rest.map fun v => v.category).sum ≤ 8) (kk : G K (EX h) nL T (fX2_more a1 u).1 (pc + 3) lv (.int (fX2_more a1 u).2 :: rest)) : G K (EX h) nL T u pc lv (.int a1 :: .ref (xS h) :: rest) := g_callV (n := 1) pc hC (As := [.int a1]) (rest := rest) (cX2_more_ _ (Cx.ok hC) a1 u) hT rfl rfl rfl (by decide +kernel) hR 4 1 rfl rfl rfl rfl rfl hcat hdg kk

def fX2_less (a1 : Int32) (u : ST) : ST × Int32 :=
  ((fX0_setFlags (30 : Int32) (fX2_signs ((a1 - (1 : Int32)) &&& (255 : Int32)) (if ((a1 - (1 : Int32)) &&& (255 : Int32)) = (127 : Int32) then (1 : Int32) else (0 : Int32))) u), ((a1 - (1 : Int32)) &&& (255 : Int32)))
theorem fiX2_less_wsX20 : ∀ w ∈ wsX20, w ∈ wsX2_less := fun w h => List.mem_cons_of_mem _ (List.mem_append_left _ (List.mem_append_right _ h))
theorem fmX2_less_13 : Cond.fieldLink RX2 13 "FlagCore$Sums" "bytes" "LFlagCore$Bytes;" ∈ wsX2_less := List.mem_of_getElem? (i := 1) rfl
abbrev rmX2_less : Room := { frames := 1, cells := 0, slots := 0, locals := 23 }
set_option maxRecDepth 20000 in
theorem cX2_less_ (h : HX) (hE : okE (EX h)) (a1 : Int32) (u : ST) : MX (EX h) yX2_less wsX2_less rmX2_less [.ref (xS h), .int a1] u (tW (fX2_less a1 u)) := by
  refine MX.of (cc := cX2_less) (maxL := 3) (ret := (some .int)) (lv := [(0, .ref (xS h)), (1, .int a1)]) hE (by decide) rfl (fun _ => rfl) (Nat.le_of_ble_eq_true rfl) rfl (fun K hC => ?_)
  unfold fX2_less
  refine g_iload_n 0 hC dX2_less_0 1 rfl ?_
  refine g_iconst 1 hC (1 : Int32) dX2_less_1 (by decide) ?_
  refine g_isub 2 hC dX2_less_2 ?_
  refine g_sipush 3 hC (255 : Int32) dX2_less_3 (by decide) ?_
  refine g_iand 6 hC dX2_less_6 ?_
  refine g_istore_n 7 hC dX2_less_7 (by decide) [(2, .int (((a1 - (1 : Int32)) &&& (255 : Int32)))), (0, .ref (xS h)), (1, .int a1)] rfl ?_
  refine g_aload_n 8 hC dX2_less_8 1 rfl ?_
  refine x_get_sbytes 9 hC fiX2_less_wsX20 fmX2_less_13 dX2_less_9 ?_
  refine g_bipush 12 hC (30 : Int32) dX2_less_12 (by decide) ?_
  refine g_iload_n 14 hC dX2_less_14 0 rfl ?_
  refine g_iload_n 15 hC dX2_less_15 0 rfl ?_
  refine g_bipush 16 hC (127 : Int32) dX2_less_16 (by decide) ?_
  refine g_cut 26 (if ((a1 - (1 : Int32)) &&& (255 : Int32)) = (127 : Int32) then (1 : Int32) else (0 : Int32)) [.int (((a1 - (1 : Int32)) &&& (255 : Int32))), .int ((30 : Int32)), .ref (xB h)] ?_ (fun J2 => ?_)
  · skip
    refine kX2_signs 26 hC gX2_less_X2_signs ⟨Nat.le_of_ble_eq_true rfl, Nat.le_of_ble_eq_true rfl⟩ dX2_less_26 (Nat.le_of_ble_eq_true rfl) ?_
    refine kX0_setFlags 29 hC gX2_less_X0_setFlags ⟨Nat.le_of_ble_eq_true rfl, Nat.le_of_ble_eq_true rfl⟩ dX2_less_29 (Nat.le_of_ble_eq_true rfl) ?_
    refine g_iload_n 32 hC dX2_less_32 0 rfl ?_
    exact g_iret 33 hC dX2_less_33
  · skip
    refine g_icmp_ne 18 hC 25 dX2_less_18 (by decide) (fun h1 => ?_) (fun h1 => ?_)
    · skip
      refine g_iconst 25 hC (0 : Int32) dX2_less_25 (by decide) ?_
      exact J2 _ (Eq.symm (if_neg h1))
    · skip
      refine g_iconst 21 hC (1 : Int32) dX2_less_21 (by decide) ?_
      refine g_goto 22 hC 26 dX2_less_22 (by decide) ?_
      exact J2 _ (Eq.symm (if_pos h1))
theorem kX2_less {K : KT} {h : HX} {cc : ByteArray} {nL : Nat} {own : String} {Ts : List Cond} {rm : Room} {ret : Option FieldType} {T : ST × Option Value} {u : ST} {lv : List (Nat × Value)} {rest : List Value} {idx : Nat} {a1 : Int32} (pc : Nat) (hC : Cx K (EX h) cc nL own Ts rm ret) (hT : GoodIn Ts (wsV own idx RX2 yX2_less wsX2_less)) (hR : rmX2_less.frames + 1 ≤ rm.frames ∧ 8 + (3 + 11) + rmX2_less.locals ≤ rm.locals) (hdg : decode cc pc = .ok (.invokevirtual idx, 3)) (hcat : (rest.map fun v => v.category).sum ≤ 8) (kk : G K (EX h) nL T (fX2_less a1 u).1 (pc + 3) lv (.int (fX2_less a1 u).2 :: rest)) : G K (EX h) nL T u pc lv (.int a1 :: .ref (xS h) :: rest) := g_callV (n := 1) pc hC (As := [.int a1]) (rest := rest) (cX2_less_ _ (Cx.ok hC) a1 u) hT rfl rfl rfl (by decide +kernel) hR 4 1 rfl rfl rfl rfl rfl hcat hdg kk

def fX2_right (a1 : Int32) (a2 : Int32) (u : ST) : ST × Int32 :=
  ((fX0_setFlags (31 : Int32) ((fX2_signs ((jshr a1 (1 : Int32)) ||| (jshl a2 (7 : Int32))) (if a2 = (a1 &&& (1 : Int32)) then (0 : Int32) else (1 : Int32))) ||| (if (a1 &&& (1 : Int32)) = (1 : Int32) then (1 : Int32) else (0 : Int32))) u), ((jshr a1 (1 : Int32)) ||| (jshl a2 (7 : Int32))))
theorem fiX2_right_wsX20 : ∀ w ∈ wsX20, w ∈ wsX2_right := fun w h => List.mem_cons_of_mem _ (List.mem_append_left _ (List.mem_append_right _ h))
theorem fmX2_right_13 : Cond.fieldLink RX2 13 "FlagCore$Sums" "bytes" "LFlagCore$Bytes;" ∈ wsX2_right := List.mem_of_getElem? (i := 1) rfl
abbrev rmX2_right : Room := { frames := 1, cells := 0, slots := 0, locals := 23 }
set_option maxRecDepth 20000 in
theorem cX2_right_ (h : HX) (hE : okE (EX h)) (a1 : Int32) (a2 : Int32) (u : ST) : MX (EX h) yX2_right wsX2_right rmX2_right [.ref (xS h), .int a1, .int a2] u (tW (fX2_right a1 a2 u)) := by
  refine MX.of (cc := cX2_right) (maxL := 5) (ret := (some .int)) (lv := [(0, .ref (xS h)), (1, .int a1), (2, .int a2)]) hE (by decide) rfl (fun _ => rfl) (Nat.le_of_ble_eq_true rfl) rfl (fun K hC => ?_)
  unfold fX2_right
  refine g_iload_n 0 hC dX2_right_0 1 rfl ?_
  refine g_iconst 1 hC (1 : Int32) dX2_right_1 (by decide) ?_
  refine g_ishr 2 hC dX2_right_2 ?_
  refine g_iload_n 3 hC dX2_right_3 2 rfl ?_
  refine g_bipush 4 hC (7 : Int32) dX2_right_4 (by decide) ?_
  refine g_ishl 6 hC dX2_right_6 ?_
  refine g_ior 7 hC dX2_right_7 ?_
  refine g_istore_n 8 hC dX2_right_8 (by decide) [(3, .int (((jshr a1 (1 : Int32)) ||| (jshl a2 (7 : Int32))))), (0, .ref (xS h)), (1, .int a1), (2, .int a2)] rfl ?_
  refine g_iload_n 9 hC dX2_right_9 2 rfl ?_
  refine g_iconst 10 hC (1 : Int32) dX2_right_10 (by decide) ?_
  refine g_iand 11 hC dX2_right_11 ?_
  refine g_istore 12 hC dX2_right_12 (by decide) [(4, .int ((a1 &&& (1 : Int32)))), (3, .int (((jshr a1 (1 : Int32)) ||| (jshl a2 (7 : Int32))))), (0, .ref (xS h)), (1, .int a1), (2, .int a2)] rfl ?_
  refine g_aload_n 14 hC dX2_right_14 2 rfl ?_
  refine x_get_sbytes 15 hC fiX2_right_wsX20 fmX2_right_13 dX2_right_15 ?_
  refine g_bipush 18 hC (31 : Int32) dX2_right_18 (by decide) ?_
  refine g_iload_n 20 hC dX2_right_20 1 rfl ?_
  refine g_iload_n 21 hC dX2_right_21 4 rfl ?_
  refine g_iload 22 hC dX2_right_22 0 rfl ?_
  refine g_cut 32 (if a2 = (a1 &&& (1 : Int32)) then (0 : Int32) else (1 : Int32)) [.int (((jshr a1 (1 : Int32)) ||| (jshl a2 (7 : Int32)))), .int ((31 : Int32)), .ref (xB h)] ?_ (fun J2 => ?_)
  · skip
    refine kX2_signs 32 hC gX2_right_X2_signs ⟨Nat.le_of_ble_eq_true rfl, Nat.le_of_ble_eq_true rfl⟩ dX2_right_32 (Nat.le_of_ble_eq_true rfl) ?_
    refine g_iload 35 hC dX2_right_35 0 rfl ?_
    refine g_iconst 37 hC (1 : Int32) dX2_right_37 (by decide) ?_
    refine g_cut 46 (if (a1 &&& (1 : Int32)) = (1 : Int32) then (1 : Int32) else (0 : Int32)) [.int ((fX2_signs ((jshr a1 (1 : Int32)) ||| (jshl a2 (7 : Int32))) (if a2 = (a1 &&& (1 : Int32)) then (0 : Int32) else (1 : Int32)))), .int ((31 : Int32)), .ref (xB h)] ?_ (fun J4 => ?_)
    · skip
      refine g_ior 46 hC dX2_right_46 ?_
      refine kX0_setFlags 47 hC gX2_right_X0_setFlags ⟨Nat.le_of_ble_eq_true rfl, Nat.le_of_ble_eq_true rfl⟩ dX2_right_47 (Nat.le_of_ble_eq_true rfl) ?_
      refine g_iload_n 50 hC dX2_right_50 1 rfl ?_
      exact g_iret 51 hC dX2_right_51
    · skip
      refine g_icmp_ne 38 hC 45 dX2_right_38 (by decide) (fun h3 => ?_) (fun h3 => ?_)
      · skip
        refine g_iconst 45 hC (0 : Int32) dX2_right_45 (by decide) ?_
        exact J4 _ (Eq.symm (if_neg h3))
      · skip
        refine g_iconst 41 hC (1 : Int32) dX2_right_41 (by decide) ?_
        refine g_goto 42 hC 46 dX2_right_42 (by decide) ?_
        exact J4 _ (Eq.symm (if_pos h3))
  · skip
    refine g_icmp_eq 24 hC 31 dX2_right_24 (by decide) (fun h1 => ?_) (fun h1 => ?_)
    · skip
      refine g_iconst 31 hC (0 : Int32) dX2_right_31 (by decide) ?_
      exact J2 _ (Eq.symm (if_pos h1))
    · skip
      refine g_iconst 27 hC (1 : Int32) dX2_right_27 (by decide) ?_
      refine g_goto 28 hC 32 dX2_right_28 (by decide) ?_
      exact J2 _ (Eq.symm (if_neg h1))
theorem kX2_right {K : KT} {h : HX} {cc : ByteArray} {nL : Nat} {own : String} {Ts : List Cond} {rm : Room} {ret : Option FieldType} {T : ST × Option Value} {u : ST} {lv : List (Nat × Value)} {rest : List Value} {idx : Nat} {a1 : Int32} {a2 : Int32} (pc : Nat) (hC : Cx K (EX h) cc nL own Ts rm ret) (hT : GoodIn Ts (wsV own idx RX2 yX2_right wsX2_right)) (hR : rmX2_right.frames + 1 ≤ rm.frames ∧ 8 + (5 + 11) + rmX2_right.locals ≤ rm.locals) (hdg : decode cc pc = .ok (.invokevirtual idx, 3)) (hcat : (rest.map fun v => v.category).sum ≤ 8) (kk : G K (EX h) nL T (fX2_right a1 a2 u).1 (pc + 3) lv (.int (fX2_right a1 a2 u).2 :: rest)) : G K (EX h) nL T u pc lv (.int a2 :: .int a1 :: .ref (xS h) :: rest) := g_callV (n := 2) pc hC (As := [.int a1, .int a2]) (rest := rest) (cX2_right_ _ (Cx.ok hC) a1 a2 u) hT rfl rfl rfl (by decide +kernel) hR 4 1 rfl rfl rfl rfl rfl hcat hdg kk

def fX2_pairFlags (a1 : Int32) (a2 : Int32) (a3 : Int32) (u : ST) : ST :=
  (fX0_setFlags (31 : Int32) ((((fX2_signs (jshr a1 (8 : Int32)) (if (a2 &&& (32768 : Int32)) = 0 then (0 : Int32) else (1 : Int32))) &&& (-3 : Int32)) ||| (if a1 = 0 then (2 : Int32) else (0 : Int32))) ||| (if (a3 &&& (32768 : Int32)) = 0 then (0 : Int32) else (1 : Int32))) u)
theorem cmX2_pairFlags_40 : Jvm.Cond.constant RX2 40 (32768 : Int32) ∈ wsX2_pairFlags := List.mem_of_getElem? (i := 1) rfl
theorem fiX2_pairFlags_wsX20 : ∀ w ∈ wsX20, w ∈ wsX2_pairFlags := fun w h => List.mem_cons_of_mem _ (List.mem_append_left _ (List.mem_append_right _ h))
theorem fmX2_pairFlags_13 : Cond.fieldLink RX2 13 "FlagCore$Sums" "bytes" "LFlagCore$Bytes;" ∈ wsX2_pairFlags := List.mem_of_getElem? (i := 2) rfl
abbrev rmX2_pairFlags : Room := { frames := 1, cells := 0, slots := 0, locals := 23 }
set_option maxRecDepth 20000 in
theorem cX2_pairFlags_ (h : HX) (hE : okE (EX h)) (a1 : Int32) (a2 : Int32) (a3 : Int32) (u : ST) : MX (EX h) yX2_pairFlags wsX2_pairFlags rmX2_pairFlags [.ref (xS h), .int a1, .int a2, .int a3] u (tS (fX2_pairFlags a1 a2 a3 u)) := by
  refine MX.of (cc := cX2_pairFlags) (maxL := 5) (ret := none) (lv := [(0, .ref (xS h)), (1, .int a1), (2, .int a2), (3, .int a3)]) hE (by decide) rfl (fun _ => rfl) (Nat.le_of_ble_eq_true rfl) rfl (fun K hC => ?_)
  unfold fX2_pairFlags
  refine g_iload_n 0 hC dX2_pairFlags_0 1 rfl ?_
  refine g_bipush 1 hC (8 : Int32) dX2_pairFlags_1 (by decide) ?_
  refine g_ishr 3 hC dX2_pairFlags_3 ?_
  refine g_iload_n 4 hC dX2_pairFlags_4 2 rfl ?_
  refine g_ldc 5 hC (32768 : Int32) dX2_pairFlags_5 cmX2_pairFlags_40 ?_
  refine g_iand 7 hC dX2_pairFlags_7 ?_
  refine g_cut 16 (if (a2 &&& (32768 : Int32)) = 0 then (0 : Int32) else (1 : Int32)) [.int ((jshr a1 (8 : Int32)))] ?_ (fun J2 => ?_)
  · skip
    refine kX2_signs 16 hC gX2_pairFlags_X2_signs ⟨Nat.le_of_ble_eq_true rfl, Nat.le_of_ble_eq_true rfl⟩ dX2_pairFlags_16 (Nat.le_of_ble_eq_true rfl) ?_
    refine g_bipush 19 hC (-3 : Int32) dX2_pairFlags_19 (by decide) ?_
    refine g_iand 21 hC dX2_pairFlags_21 ?_
    refine g_istore 22 hC dX2_pairFlags_22 (by decide) [(4, .int (((fX2_signs (jshr a1 (8 : Int32)) (if (a2 &&& (32768 : Int32)) = 0 then (0 : Int32) else (1 : Int32))) &&& (-3 : Int32)))), (0, .ref (xS h)), (1, .int a1), (2, .int a2), (3, .int a3)] rfl ?_
    refine g_aload_n 24 hC dX2_pairFlags_24 1 rfl ?_
    refine x_get_sbytes 25 hC fiX2_pairFlags_wsX20 fmX2_pairFlags_13 dX2_pairFlags_25 ?_
    refine g_bipush 28 hC (31 : Int32) dX2_pairFlags_28 (by decide) ?_
    refine g_iload 30 hC dX2_pairFlags_30 0 rfl ?_
    refine g_iload_n 32 hC dX2_pairFlags_32 2 rfl ?_
    refine g_cut 41 (if a1 = 0 then (2 : Int32) else (0 : Int32)) [.int (((fX2_signs (jshr a1 (8 : Int32)) (if (a2 &&& (32768 : Int32)) = 0 then (0 : Int32) else (1 : Int32))) &&& (-3 : Int32))), .int ((31 : Int32)), .ref (xB h)] ?_ (fun J4 => ?_)
    · skip
      refine g_ior 41 hC dX2_pairFlags_41 ?_
      refine g_iload_n 42 hC dX2_pairFlags_42 4 rfl ?_
      refine g_ldc 43 hC (32768 : Int32) dX2_pairFlags_43 cmX2_pairFlags_40 ?_
      refine g_iand 45 hC dX2_pairFlags_45 ?_
      refine g_cut 54 (if (a3 &&& (32768 : Int32)) = 0 then (0 : Int32) else (1 : Int32)) [.int ((((fX2_signs (jshr a1 (8 : Int32)) (if (a2 &&& (32768 : Int32)) = 0 then (0 : Int32) else (1 : Int32))) &&& (-3 : Int32)) ||| (if a1 = 0 then (2 : Int32) else (0 : Int32)))), .int ((31 : Int32)), .ref (xB h)] ?_ (fun J6 => ?_)
      · skip
        refine g_ior 54 hC dX2_pairFlags_54 ?_
        refine kX0_setFlags 55 hC gX2_pairFlags_X0_setFlags ⟨Nat.le_of_ble_eq_true rfl, Nat.le_of_ble_eq_true rfl⟩ dX2_pairFlags_55 (Nat.le_of_ble_eq_true rfl) ?_
        exact g_vret 58 hC dX2_pairFlags_58
      · skip
        refine g_if_eq 46 hC 53 dX2_pairFlags_46 (by decide) (fun h5 => ?_) (fun h5 => ?_)
        · skip
          refine g_iconst 53 hC (0 : Int32) dX2_pairFlags_53 (by decide) ?_
          exact J6 _ (Eq.symm (if_pos h5))
        · skip
          refine g_iconst 49 hC (1 : Int32) dX2_pairFlags_49 (by decide) ?_
          refine g_goto 50 hC 54 dX2_pairFlags_50 (by decide) ?_
          exact J6 _ (Eq.symm (if_neg h5))
    · skip
      refine g_if_ne 33 hC 40 dX2_pairFlags_33 (by decide) (fun h3 => ?_) (fun h3 => ?_)
      · skip
        refine g_iconst 40 hC (0 : Int32) dX2_pairFlags_40 (by decide) ?_
        exact J4 _ (Eq.symm (if_neg h3))
      · skip
        refine g_iconst 36 hC (2 : Int32) dX2_pairFlags_36 (by decide) ?_
        refine g_goto 37 hC 41 dX2_pairFlags_37 (by decide) ?_
        exact J4 _ (Eq.symm (if_pos h3))
  · skip
    refine g_if_eq 8 hC 15 dX2_pairFlags_8 (by decide) (fun h1 => ?_) (fun h1 => ?_)
    · skip
      refine g_iconst 15 hC (0 : Int32) dX2_pairFlags_15 (by decide) ?_
      exact J2 _ (Eq.symm (if_pos h1))
    · skip
      refine g_iconst 11 hC (1 : Int32) dX2_pairFlags_11 (by decide) ?_
      refine g_goto 12 hC 16 dX2_pairFlags_12 (by decide) ?_
      exact J2 _ (Eq.symm (if_neg h1))
theorem kX2_pairFlags {K : KT} {h : HX} {cc : ByteArray} {nL : Nat} {own : String} {Ts : List Cond} {rm : Room} {ret : Option FieldType} {T : ST × Option Value} {u : ST} {lv : List (Nat × Value)} {rest : List Value} {idx : Nat} {a1 : Int32} {a2 : Int32} {a3 : Int32} (pc : Nat) (hC : Cx K (EX h) cc nL own Ts rm ret) (hT : GoodIn Ts (wsV own idx RX2 yX2_pairFlags wsX2_pairFlags)) (hR : rmX2_pairFlags.frames + 1 ≤ rm.frames ∧ 8 + (5 + 11) + rmX2_pairFlags.locals ≤ rm.locals) (hdg : decode cc pc = .ok (.invokevirtual idx, 3)) (hcat : (rest.map fun v => v.category).sum ≤ 8) (kk : G K (EX h) nL T (fX2_pairFlags a1 a2 a3 u) (pc + 3) lv (rest)) : G K (EX h) nL T u pc lv (.int a3 :: .int a2 :: .int a1 :: .ref (xS h) :: rest) := g_callV (n := 3) pc hC (As := [.int a1, .int a2, .int a3]) (rest := rest) (cX2_pairFlags_ _ (Cx.ok hC) a1 a2 a3 u) hT rfl rfl rfl (by decide +kernel) hR 4 1 rfl rfl rfl rfl rfl hcat hdg kk

def fX2_pairMore (a1 : Int32) (a2 : Int32) (u : ST) : ST × Int32 :=
  ((fX2_pairFlags ((a1 + a2) &&& (65535 : Int32)) ((a1 ^^^ (-1 : Int32)) &&& ((a1 + a2) &&& (65535 : Int32))) (a1 &&& (((a1 + a2) &&& (65535 : Int32)) ^^^ (-1 : Int32))) u), ((a1 + a2) &&& (65535 : Int32)))
theorem cmX2_pairMore_35 : Jvm.Cond.constant RX2 35 (65535 : Int32) ∈ wsX2_pairMore := List.mem_of_getElem? (i := 1) rfl
abbrev rmX2_pairMore : Room := { frames := 2, cells := 0, slots := 0, locals := 47 }
set_option maxRecDepth 20000 in
theorem cX2_pairMore_ (h : HX) (hE : okE (EX h)) (a1 : Int32) (a2 : Int32) (u : ST) : MX (EX h) yX2_pairMore wsX2_pairMore rmX2_pairMore [.ref (xS h), .int a1, .int a2] u (tW (fX2_pairMore a1 a2 u)) := by
  refine MX.of (cc := cX2_pairMore) (maxL := 4) (ret := (some .int)) (lv := [(0, .ref (xS h)), (1, .int a1), (2, .int a2)]) hE (by decide) rfl (fun _ => rfl) (Nat.le_of_ble_eq_true rfl) rfl (fun K hC => ?_)
  unfold fX2_pairMore
  refine g_iload_n 0 hC dX2_pairMore_0 1 rfl ?_
  refine g_iload_n 1 hC dX2_pairMore_1 2 rfl ?_
  refine g_iadd 2 hC dX2_pairMore_2 ?_
  refine g_ldc 3 hC (65535 : Int32) dX2_pairMore_3 cmX2_pairMore_35 ?_
  refine g_iand 5 hC dX2_pairMore_5 ?_
  refine g_istore_n 6 hC dX2_pairMore_6 (by decide) [(3, .int (((a1 + a2) &&& (65535 : Int32)))), (0, .ref (xS h)), (1, .int a1), (2, .int a2)] rfl ?_
  refine g_aload_n 7 hC dX2_pairMore_7 1 rfl ?_
  refine g_iload_n 8 hC dX2_pairMore_8 0 rfl ?_
  refine g_iload_n 9 hC dX2_pairMore_9 2 rfl ?_
  refine g_iconst 10 hC (-1 : Int32) dX2_pairMore_10 (by decide) ?_
  refine g_ixor 11 hC dX2_pairMore_11 ?_
  refine g_iload_n 12 hC dX2_pairMore_12 0 rfl ?_
  refine g_iand 13 hC dX2_pairMore_13 ?_
  refine g_iload_n 14 hC dX2_pairMore_14 2 rfl ?_
  refine g_iload_n 15 hC dX2_pairMore_15 0 rfl ?_
  refine g_iconst 16 hC (-1 : Int32) dX2_pairMore_16 (by decide) ?_
  refine g_ixor 17 hC dX2_pairMore_17 ?_
  refine g_iand 18 hC dX2_pairMore_18 ?_
  refine kX2_pairFlags 19 hC gX2_pairMore_X2_pairFlags ⟨Nat.le_of_ble_eq_true rfl, Nat.le_of_ble_eq_true rfl⟩ dX2_pairMore_19 (Nat.le_of_ble_eq_true rfl) ?_
  refine g_iload_n 22 hC dX2_pairMore_22 0 rfl ?_
  exact g_iret 23 hC dX2_pairMore_23
theorem kX2_pairMore {K : KT} {h : HX} {cc : ByteArray} {nL : Nat} {own : String} {Ts : List Cond} {rm : Room} {ret : Option FieldType} {T : ST × Option Value} {u : ST} {lv : List (Nat × Value)} {rest : List Value} {idx : Nat} {a1 : Int32} {a2 : Int32} (pc : Nat) (hC : Cx K (EX h) cc nL own Ts rm ret) (hT : GoodIn Ts (wsV own idx RX2 yX2_pairMore wsX2_pairMore)) (hR : rmX2_pairMore.frames + 1 ≤ rm.frames ∧ 8 + (4 + 11) + rmX2_pairMore.locals ≤ rm.locals) (hdg : decode cc pc = .ok (.invokevirtual idx, 3)) (hcat : (rest.map fun v => v.category).sum ≤ 8) (kk : G K (EX h) nL T (fX2_pairMore a1 a2 u).1 (pc + 3) lv (.int (fX2_pairMore a1 a2 u).2 :: rest)) : G K (EX h) nL T u pc lv (.int a2 :: .int a1 :: .ref (xS h) :: rest) := g_callV (n := 2) pc hC (As := [.int a1, .int a2]) (rest := rest) (cX2_pairMore_ _ (Cx.ok hC) a1 a2 u) hT rfl rfl rfl (by decide +kernel) hR 4 1 rfl rfl rfl rfl rfl hcat hdg kk

def fX2_pairLess (a1 : Int32) (a2 : Int32) (u : ST) : ST × Int32 :=
  ((fX2_pairFlags ((a1 - a2) &&& (65535 : Int32)) (a1 &&& (((a1 - a2) &&& (65535 : Int32)) ^^^ (-1 : Int32))) ((a1 ^^^ (-1 : Int32)) &&& ((a1 - a2) &&& (65535 : Int32))) u), ((a1 - a2) &&& (65535 : Int32)))
theorem cmX2_pairLess_35 : Jvm.Cond.constant RX2 35 (65535 : Int32) ∈ wsX2_pairLess := List.mem_of_getElem? (i := 1) rfl
abbrev rmX2_pairLess : Room := { frames := 2, cells := 0, slots := 0, locals := 47 }
set_option maxRecDepth 20000 in
theorem cX2_pairLess_ (h : HX) (hE : okE (EX h)) (a1 : Int32) (a2 : Int32) (u : ST) : MX (EX h) yX2_pairLess wsX2_pairLess rmX2_pairLess [.ref (xS h), .int a1, .int a2] u (tW (fX2_pairLess a1 a2 u)) := by
  refine MX.of (cc := cX2_pairLess) (maxL := 4) (ret := (some .int)) (lv := [(0, .ref (xS h)), (1, .int a1), (2, .int a2)]) hE (by decide) rfl (fun _ => rfl) (Nat.le_of_ble_eq_true rfl) rfl (fun K hC => ?_)
  unfold fX2_pairLess
  refine g_iload_n 0 hC dX2_pairLess_0 1 rfl ?_
  refine g_iload_n 1 hC dX2_pairLess_1 2 rfl ?_
  refine g_isub 2 hC dX2_pairLess_2 ?_
  refine g_ldc 3 hC (65535 : Int32) dX2_pairLess_3 cmX2_pairLess_35 ?_
  refine g_iand 5 hC dX2_pairLess_5 ?_
  refine g_istore_n 6 hC dX2_pairLess_6 (by decide) [(3, .int (((a1 - a2) &&& (65535 : Int32)))), (0, .ref (xS h)), (1, .int a1), (2, .int a2)] rfl ?_
  refine g_aload_n 7 hC dX2_pairLess_7 1 rfl ?_
  refine g_iload_n 8 hC dX2_pairLess_8 0 rfl ?_
  refine g_iload_n 9 hC dX2_pairLess_9 2 rfl ?_
  refine g_iload_n 10 hC dX2_pairLess_10 0 rfl ?_
  refine g_iconst 11 hC (-1 : Int32) dX2_pairLess_11 (by decide) ?_
  refine g_ixor 12 hC dX2_pairLess_12 ?_
  refine g_iand 13 hC dX2_pairLess_13 ?_
  refine g_iload_n 14 hC dX2_pairLess_14 2 rfl ?_
  refine g_iconst 15 hC (-1 : Int32) dX2_pairLess_15 (by decide) ?_
  refine g_ixor 16 hC dX2_pairLess_16 ?_
  refine g_iload_n 17 hC dX2_pairLess_17 0 rfl ?_
  refine g_iand 18 hC dX2_pairLess_18 ?_
  refine kX2_pairFlags 19 hC gX2_pairLess_X2_pairFlags ⟨Nat.le_of_ble_eq_true rfl, Nat.le_of_ble_eq_true rfl⟩ dX2_pairLess_19 (Nat.le_of_ble_eq_true rfl) ?_
  refine g_iload_n 22 hC dX2_pairLess_22 0 rfl ?_
  exact g_iret 23 hC dX2_pairLess_23
theorem kX2_pairLess {K : KT} {h : HX} {cc : ByteArray} {nL : Nat} {own : String} {Ts : List Cond} {rm : Room} {ret : Option FieldType} {T : ST × Option Value} {u : ST} {lv : List (Nat × Value)} {rest : List Value} {idx : Nat} {a1 : Int32} {a2 : Int32} (pc : Nat) (hC : Cx K (EX h) cc nL own Ts rm ret) (hT : GoodIn Ts (wsV own idx RX2 yX2_pairLess wsX2_pairLess)) (hR : rmX2_pairLess.frames + 1 ≤ rm.frames ∧ 8 + (4 + 11) + rmX2_pairLess.locals ≤ rm.locals) (hdg : decode cc pc = .ok (.invokevirtual idx, 3)) (hcat : (rest.map fun v => v.category).sum ≤ 8) (kk : G K (EX h) nL T (fX2_pairLess a1 a2 u).1 (pc + 3) lv (.int (fX2_pairLess a1 a2 u).2 :: rest)) : G K (EX h) nL T u pc lv (.int a2 :: .int a1 :: .ref (xS h) :: rest) := g_callV (n := 2) pc hC (As := [.int a1, .int a2]) (rest := rest) (cX2_pairLess_ _ (Cx.ok hC) a1 a2 u) hT rfl rfl rfl (by decide +kernel) hR 4 1 rfl rfl rfl rfl rfl hcat hdg kk

def fX2_keepProduct (a1 : Int32) (a2 : Int32) (u : ST) : ST :=
  (fX0_setFlags (3 : Int32) ((if (a1 &&& (32768 : Int32)) = 0 then (0 : Int32) else (1 : Int32)) ||| (if (a2 &&& (65535 : Int32)) = 0 then (2 : Int32) else (0 : Int32))) (fX0_setPair (0 : Int32) a2 u))
theorem fiX2_keepProduct_wsX20 : ∀ w ∈ wsX20, w ∈ wsX2_keepProduct := fun w h => List.mem_cons_of_mem _ (List.mem_append_left _ (List.mem_append_right _ h))
theorem fmX2_keepProduct_13 : Cond.fieldLink RX2 13 "FlagCore$Sums" "bytes" "LFlagCore$Bytes;" ∈ wsX2_keepProduct := List.mem_of_getElem? (i := 1) rfl
theorem cmX2_keepProduct_40 : Jvm.Cond.constant RX2 40 (32768 : Int32) ∈ wsX2_keepProduct := List.mem_of_getElem? (i := 2) rfl
theorem cmX2_keepProduct_35 : Jvm.Cond.constant RX2 35 (65535 : Int32) ∈ wsX2_keepProduct := List.mem_of_getElem? (i := 3) rfl
abbrev rmX2_keepProduct : Room := { frames := 1, cells := 0, slots := 0, locals := 22 }
set_option maxRecDepth 20000 in
theorem cX2_keepProduct_ (h : HX) (hE : okE (EX h)) (a1 : Int32) (a2 : Int32) (u : ST) : MX (EX h) yX2_keepProduct wsX2_keepProduct rmX2_keepProduct [.ref (xS h), .int a1, .int a2] u (tS (fX2_keepProduct a1 a2 u)) := by
  refine MX.of (cc := cX2_keepProduct) (maxL := 3) (ret := none) (lv := [(0, .ref (xS h)), (1, .int a1), (2, .int a2)]) hE (by decide) rfl (fun _ => rfl) (Nat.le_of_ble_eq_true rfl) rfl (fun K hC => ?_)
  unfold fX2_keepProduct
  refine g_aload_n 0 hC dX2_keepProduct_0 0 rfl ?_
  refine x_get_sbytes 1 hC fiX2_keepProduct_wsX20 fmX2_keepProduct_13 dX2_keepProduct_1 ?_
  refine g_iconst 4 hC (0 : Int32) dX2_keepProduct_4 (by decide) ?_
  refine g_iload_n 5 hC dX2_keepProduct_5 2 rfl ?_
  refine kX0_setPair 6 hC gX2_keepProduct_X0_setPair ⟨Nat.le_of_ble_eq_true rfl, Nat.le_of_ble_eq_true rfl⟩ dX2_keepProduct_6 (Nat.le_of_ble_eq_true rfl) ?_
  refine g_aload_n 9 hC dX2_keepProduct_9 0 rfl ?_
  refine x_get_sbytes 10 hC fiX2_keepProduct_wsX20 fmX2_keepProduct_13 dX2_keepProduct_10 ?_
  refine g_iconst 13 hC (3 : Int32) dX2_keepProduct_13 (by decide) ?_
  refine g_iload_n 14 hC dX2_keepProduct_14 1 rfl ?_
  refine g_ldc 15 hC (32768 : Int32) dX2_keepProduct_15 cmX2_keepProduct_40 ?_
  refine g_iand 17 hC dX2_keepProduct_17 ?_
  refine g_cut 26 (if (a1 &&& (32768 : Int32)) = 0 then (0 : Int32) else (1 : Int32)) [.int ((3 : Int32)), .ref (xB h)] ?_ (fun J2 => ?_)
  · skip
    refine g_iload_n 26 hC dX2_keepProduct_26 2 rfl ?_
    refine g_ldc 27 hC (65535 : Int32) dX2_keepProduct_27 cmX2_keepProduct_35 ?_
    refine g_iand 29 hC dX2_keepProduct_29 ?_
    refine g_cut 38 (if (a2 &&& (65535 : Int32)) = 0 then (2 : Int32) else (0 : Int32)) [.int ((if (a1 &&& (32768 : Int32)) = 0 then (0 : Int32) else (1 : Int32))), .int ((3 : Int32)), .ref (xB h)] ?_ (fun J4 => ?_)
    · skip
      refine g_ior 38 hC dX2_keepProduct_38 ?_
      refine kX0_setFlags 39 hC gX2_keepProduct_X0_setFlags ⟨Nat.le_of_ble_eq_true rfl, Nat.le_of_ble_eq_true rfl⟩ dX2_keepProduct_39 (Nat.le_of_ble_eq_true rfl) ?_
      exact g_vret 42 hC dX2_keepProduct_42
    · skip
      refine g_if_ne 30 hC 37 dX2_keepProduct_30 (by decide) (fun h3 => ?_) (fun h3 => ?_)
      · skip
        refine g_iconst 37 hC (0 : Int32) dX2_keepProduct_37 (by decide) ?_
        exact J4 _ (Eq.symm (if_neg h3))
      · skip
        refine g_iconst 33 hC (2 : Int32) dX2_keepProduct_33 (by decide) ?_
        refine g_goto 34 hC 38 dX2_keepProduct_34 (by decide) ?_
        exact J4 _ (Eq.symm (if_pos h3))
  · skip
    refine g_if_eq 18 hC 25 dX2_keepProduct_18 (by decide) (fun h1 => ?_) (fun h1 => ?_)
    · skip
      refine g_iconst 25 hC (0 : Int32) dX2_keepProduct_25 (by decide) ?_
      exact J2 _ (Eq.symm (if_pos h1))
    · skip
      refine g_iconst 21 hC (1 : Int32) dX2_keepProduct_21 (by decide) ?_
      refine g_goto 22 hC 26 dX2_keepProduct_22 (by decide) ?_
      exact J2 _ (Eq.symm (if_neg h1))
theorem kX2_keepProduct {K : KT} {h : HX} {cc : ByteArray} {nL : Nat} {own : String} {Ts : List Cond} {rm : Room} {ret : Option FieldType} {T : ST × Option Value} {u : ST} {lv : List (Nat × Value)} {rest : List Value} {idx : Nat} {a1 : Int32} {a2 : Int32} (pc : Nat) (hC : Cx K (EX h) cc nL own Ts rm ret) (hT : GoodIn Ts (wsV own idx RX2 yX2_keepProduct wsX2_keepProduct)) (hR : rmX2_keepProduct.frames + 1 ≤ rm.frames ∧ 8 + (3 + 11) + rmX2_keepProduct.locals ≤ rm.locals) (hdg : decode cc pc = .ok (.invokevirtual idx, 3)) (hcat : (rest.map fun v => v.category).sum ≤ 8) (kk : G K (EX h) nL T (fX2_keepProduct a1 a2 u) (pc + 3) lv (rest)) : G K (EX h) nL T u pc lv (.int a2 :: .int a1 :: .ref (xS h) :: rest) := g_callV (n := 2) pc hC (As := [.int a1, .int a2]) (rest := rest) (cX2_keepProduct_ _ (Cx.ok hC) a1 a2 u) hT rfl rfl rfl (by decide +kernel) hR 4 1 rfl rfl rfl rfl rfl hcat hdg kk

def fX2_product (a1 : Int32) (u : ST) : ST :=
  (fX2_keepProduct a1 a1 u)
abbrev rmX2_product : Room := { frames := 2, cells := 0, slots := 0, locals := 44 }
set_option maxRecDepth 20000 in
theorem cX2_product_ (h : HX) (hE : okE (EX h)) (a1 : Int32) (u : ST) : MX (EX h) yX2_product wsX2_product rmX2_product [.ref (xS h), .int a1] u (tS (fX2_product a1 u)) := by
  refine MX.of (cc := cX2_product) (maxL := 2) (ret := none) (lv := [(0, .ref (xS h)), (1, .int a1)]) hE (by decide) rfl (fun _ => rfl) (Nat.le_of_ble_eq_true rfl) rfl (fun K hC => ?_)
  unfold fX2_product
  refine g_aload_n 0 hC dX2_product_0 0 rfl ?_
  refine g_iload_n 1 hC dX2_product_1 1 rfl ?_
  refine g_iload_n 2 hC dX2_product_2 1 rfl ?_
  refine kX2_keepProduct 3 hC gX2_product_X2_keepProduct ⟨Nat.le_of_ble_eq_true rfl, Nat.le_of_ble_eq_true rfl⟩ dX2_product_3 (Nat.le_of_ble_eq_true rfl) ?_
  exact g_vret 6 hC dX2_product_6
theorem kX2_product {K : KT} {h : HX} {cc : ByteArray} {nL : Nat} {own : String} {Ts : List Cond} {rm : Room} {ret : Option FieldType} {T : ST × Option Value} {u : ST} {lv : List (Nat × Value)} {rest : List Value} {idx : Nat} {a1 : Int32} (pc : Nat) (hC : Cx K (EX h) cc nL own Ts rm ret) (hT : GoodIn Ts (wsV own idx RX2 yX2_product wsX2_product)) (hR : rmX2_product.frames + 1 ≤ rm.frames ∧ 8 + (2 + 11) + rmX2_product.locals ≤ rm.locals) (hdg : decode cc pc = .ok (.invokevirtual idx, 3)) (hcat : (rest.map fun v => v.category).sum ≤ 8) (kk : G K (EX h) nL T (fX2_product a1 u) (pc + 3) lv (rest)) : G K (EX h) nL T u pc lv (.int a1 :: .ref (xS h) :: rest) := g_callV (n := 1) pc hC (As := [.int a1]) (rest := rest) (cX2_product_ _ (Cx.ok hC) a1 u) hT rfl rfl rfl (by decide +kernel) hR 4 1 rfl rfl rfl rfl rfl hcat hdg kk

def fX2_fraction (a1 : Int32) (u : ST) : ST :=
  (fX2_keepProduct a1 (jshl a1 (1 : Int32)) u)
abbrev rmX2_fraction : Room := { frames := 2, cells := 0, slots := 0, locals := 44 }
set_option maxRecDepth 20000 in
theorem cX2_fraction_ (h : HX) (hE : okE (EX h)) (a1 : Int32) (u : ST) : MX (EX h) yX2_fraction wsX2_fraction rmX2_fraction [.ref (xS h), .int a1] u (tS (fX2_fraction a1 u)) := by
  refine MX.of (cc := cX2_fraction) (maxL := 2) (ret := none) (lv := [(0, .ref (xS h)), (1, .int a1)]) hE (by decide) rfl (fun _ => rfl) (Nat.le_of_ble_eq_true rfl) rfl (fun K hC => ?_)
  unfold fX2_fraction
  refine g_aload_n 0 hC dX2_fraction_0 0 rfl ?_
  refine g_iload_n 1 hC dX2_fraction_1 1 rfl ?_
  refine g_iload_n 2 hC dX2_fraction_2 1 rfl ?_
  refine g_iconst 3 hC (1 : Int32) dX2_fraction_3 (by decide) ?_
  refine g_ishl 4 hC dX2_fraction_4 ?_
  refine kX2_keepProduct 5 hC gX2_fraction_X2_keepProduct ⟨Nat.le_of_ble_eq_true rfl, Nat.le_of_ble_eq_true rfl⟩ dX2_fraction_5 (Nat.le_of_ble_eq_true rfl) ?_
  exact g_vret 8 hC dX2_fraction_8
theorem kX2_fraction {K : KT} {h : HX} {cc : ByteArray} {nL : Nat} {own : String} {Ts : List Cond} {rm : Room} {ret : Option FieldType} {T : ST × Option Value} {u : ST} {lv : List (Nat × Value)} {rest : List Value} {idx : Nat} {a1 : Int32} (pc : Nat) (hC : Cx K (EX h) cc nL own Ts rm ret) (hT : GoodIn Ts (wsV own idx RX2 yX2_fraction wsX2_fraction)) (hR : rmX2_fraction.frames + 1 ≤ rm.frames ∧ 8 + (2 + 11) + rmX2_fraction.locals ≤ rm.locals) (hdg : decode cc pc = .ok (.invokevirtual idx, 3)) (hcat : (rest.map fun v => v.category).sum ≤ 8) (kk : G K (EX h) nL T (fX2_fraction a1 u) (pc + 3) lv (rest)) : G K (EX h) nL T u pc lv (.int a1 :: .ref (xS h) :: rest) := g_callV (n := 1) pc hC (As := [.int a1]) (rest := rest) (cX2_fraction_ _ (Cx.ok hC) a1 u) hT rfl rfl rfl (by decide +kernel) hR 4 1 rfl rfl rfl rfl rfl hcat hdg kk

