def fX3_d (a0 : Int32) : Int32 :=
  ((jshr a0 (4 : Int32)) &&& (31 : Int32))
abbrev rmX3_d : Room := { frames := 0, cells := 0, slots := 0, locals := 0 }
set_option maxRecDepth 20000 in
theorem cX3_d_ (E : EV) (hE : okE E) (a0 : Int32) (u : ST) : MX E yX3_d wsX3_d rmX3_d [.int a0] u (tR u (fX3_d a0)) := by
  refine MX.of (cc := cX3_d) (maxL := 1) (ret := (some .int)) (lv := [(0, .int a0)]) hE (by decide) rfl (fun _ => rfl) (Nat.le_of_ble_eq_true rfl) rfl (fun K hC => ?_)
  unfold fX3_d
  refine g_iload_n 0 hC dX3_d_0 0 rfl ?_
  refine g_iconst 1 hC (4 : Int32) dX3_d_1 (by decide) ?_
  refine g_ishr 2 hC dX3_d_2 ?_
  refine g_bipush 3 hC (31 : Int32) dX3_d_3 (by decide) ?_
  refine g_iand 5 hC dX3_d_5 ?_
  exact g_iret 6 hC dX3_d_6
theorem kX3_d {K : KT} {E : EV} {cc : ByteArray} {nL : Nat} {own : String} {Ts : List Cond} {rm : Room} {ret : Option FieldType} {T : ST × Option Value} {u : ST} {lv : List (Nat × Value)} {rest : List Value} {idx : Nat} {a0 : Int32} (pc : Nat) (hC : Cx K E cc nL own Ts rm ret) (hT : GoodIn Ts (va_wsS own idx yX3_d wsX3_d)) (hR : rmX3_d.frames + 1 ≤ rm.frames ∧ 8 + (1 + 11) + rmX3_d.locals ≤ rm.locals) (hdg : decode cc pc = .ok (.invokestatic idx, 3)) (hcat : (rest.map fun v => v.category).sum ≤ 8) (kk : G K E nL T u (pc + 3) lv (.int (fX3_d a0) :: rest)) : G K E nL T u pc lv (.int a0 :: rest) := g_callS (n := 1) pc hC (As := [.int a0]) (rest := rest) (cX3_d_ _ (Cx.ok hC) a0 u) hT rfl rfl rfl (by decide +kernel) hR rfl rfl hcat hdg kk

def fX3_r (a0 : Int32) : Int32 :=
  (((jshr a0 (5 : Int32)) &&& (16 : Int32)) ||| (a0 &&& (15 : Int32)))
abbrev rmX3_r : Room := { frames := 0, cells := 0, slots := 0, locals := 0 }
set_option maxRecDepth 20000 in
theorem cX3_r_ (E : EV) (hE : okE E) (a0 : Int32) (u : ST) : MX E yX3_r wsX3_r rmX3_r [.int a0] u (tR u (fX3_r a0)) := by
  refine MX.of (cc := cX3_r) (maxL := 1) (ret := (some .int)) (lv := [(0, .int a0)]) hE (by decide) rfl (fun _ => rfl) (Nat.le_of_ble_eq_true rfl) rfl (fun K hC => ?_)
  unfold fX3_r
  refine g_iload_n 0 hC dX3_r_0 0 rfl ?_
  refine g_iconst 1 hC (5 : Int32) dX3_r_1 (by decide) ?_
  refine g_ishr 2 hC dX3_r_2 ?_
  refine g_bipush 3 hC (16 : Int32) dX3_r_3 (by decide) ?_
  refine g_iand 5 hC dX3_r_5 ?_
  refine g_iload_n 6 hC dX3_r_6 0 rfl ?_
  refine g_bipush 7 hC (15 : Int32) dX3_r_7 (by decide) ?_
  refine g_iand 9 hC dX3_r_9 ?_
  refine g_ior 10 hC dX3_r_10 ?_
  exact g_iret 11 hC dX3_r_11
theorem kX3_r {K : KT} {E : EV} {cc : ByteArray} {nL : Nat} {own : String} {Ts : List Cond} {rm : Room} {ret : Option FieldType} {T : ST × Option Value} {u : ST} {lv : List (Nat × Value)} {rest : List Value} {idx : Nat} {a0 : Int32} (pc : Nat) (hC : Cx K E cc nL own Ts rm ret) (hT : GoodIn Ts (va_wsS own idx yX3_r wsX3_r)) (hR : rmX3_r.frames + 1 ≤ rm.frames ∧ 8 + (1 + 11) + rmX3_r.locals ≤ rm.locals) (hdg : decode cc pc = .ok (.invokestatic idx, 3)) (hcat : (rest.map fun v => v.category).sum ≤ 8) (kk : G K E nL T u (pc + 3) lv (.int (fX3_r a0) :: rest)) : G K E nL T u pc lv (.int a0 :: rest) := g_callS (n := 1) pc hC (As := [.int a0]) (rest := rest) (cX3_r_ _ (Cx.ok hC) a0 u) hT rfl rfl rfl (by decide +kernel) hR rfl rfl hcat hdg kk

def fX3_pointer (a0 : Int32) : Int32 :=
  if ((jshr a0 (2 : Int32)) &&& (3 : Int32)) = (0 : Int32) then
    (30 : Int32)
  else
    if ((jshr a0 (2 : Int32)) &&& (3 : Int32)) = (2 : Int32) then
      (28 : Int32)
    else
      (26 : Int32)
abbrev rmX3_pointer : Room := { frames := 0, cells := 0, slots := 0, locals := 0 }
set_option maxRecDepth 20000 in
theorem cX3_pointer_ (E : EV) (hE : okE E) (a0 : Int32) (u : ST) : MX E yX3_pointer wsX3_pointer rmX3_pointer [.int a0] u (tR u (fX3_pointer a0)) := by
  refine MX.of (cc := cX3_pointer) (maxL := 1) (ret := (some .int)) (lv := [(0, .int a0)]) hE (by decide) rfl (fun _ => rfl) (Nat.le_of_ble_eq_true rfl) rfl (fun K hC => ?_)
  unfold fX3_pointer
  refine g_iload_n 0 hC dX3_pointer_0 0 rfl ?_
  refine g_iconst 1 hC (2 : Int32) dX3_pointer_1 (by decide) ?_
  refine g_ishr 2 hC dX3_pointer_2 ?_
  refine g_iconst 3 hC (3 : Int32) dX3_pointer_3 (by decide) ?_
  refine g_iand 4 hC dX3_pointer_4 ?_
  refine g_byT (tR u) (fun h1 => ?_) (fun h1 => ?_)
  · refine g_ls 5 hC (27) 32 dX3_pointer_5 (by decide) (by rw [h1]; decide) (by decide) ?_
    refine g_bipush 32 hC (30 : Int32) dX3_pointer_32 (by decide) ?_
    exact g_iret 34 hC dX3_pointer_34
  · skip
    refine g_byT (tR u) (fun h2 => ?_) (fun h2 => ?_)
    · refine g_ls 5 hC (30) 35 dX3_pointer_5 (by decide) (by rw [h2]; decide) (by decide) ?_
      refine g_bipush 35 hC (28 : Int32) dX3_pointer_35 (by decide) ?_
      exact g_iret 37 hC dX3_pointer_37
    · skip
      refine g_ls 5 hC (33) 38 dX3_pointer_5 (by decide) ((lv_osw h1 (a := 0) (by decide)).trans ((lv_osw h2 (a := 2) (by decide)).trans rfl)) (by decide) ?_
      refine g_bipush 38 hC (26 : Int32) dX3_pointer_38 (by decide) ?_
      exact g_iret 40 hC dX3_pointer_40
theorem kX3_pointer {K : KT} {E : EV} {cc : ByteArray} {nL : Nat} {own : String} {Ts : List Cond} {rm : Room} {ret : Option FieldType} {T : ST × Option Value} {u : ST} {lv : List (Nat × Value)} {rest : List Value} {idx : Nat} {a0 : Int32} (pc : Nat) (hC : Cx K E cc nL own Ts rm ret) (hT : GoodIn Ts (va_wsS own idx yX3_pointer wsX3_pointer)) (hR : rmX3_pointer.frames + 1 ≤ rm.frames ∧ 8 + (1 + 11) + rmX3_pointer.locals ≤ rm.locals) (hdg : decode cc pc = .ok (.invokestatic idx, 3)) (hcat : (rest.map fun v => v.category).sum ≤ 8) (kk : G K E nL T u (pc + 3) lv (.int (fX3_pointer a0) :: rest)) : G K E nL T u pc lv (.int a0 :: rest) := g_callS (n := 1) pc hC (As := [.int a0]) (rest := rest) (cX3_pointer_ _ (Cx.ok hC) a0 u) hT rfl rfl rfl (by decide +kernel) hR rfl rfl hcat hdg kk

def fX3_hasNext (a0 : Int32) : Int32 :=
  (if (a0 &&& (64527 : Int32)) = (36864 : Int32) then (1 : Int32) else (if (a0 &&& (65036 : Int32)) = (37900 : Int32) then (1 : Int32) else (0 : Int32)))
theorem cmX3_hasNext_9 : Jvm.Cond.constant RX3 9 (64527 : Int32) ∈ wsX3_hasNext := List.mem_of_getElem? (i := 1) rfl
theorem cmX3_hasNext_10 : Jvm.Cond.constant RX3 10 (36864 : Int32) ∈ wsX3_hasNext := List.mem_of_getElem? (i := 2) rfl
theorem cmX3_hasNext_11 : Jvm.Cond.constant RX3 11 (65036 : Int32) ∈ wsX3_hasNext := List.mem_of_getElem? (i := 3) rfl
theorem cmX3_hasNext_12 : Jvm.Cond.constant RX3 12 (37900 : Int32) ∈ wsX3_hasNext := List.mem_of_getElem? (i := 4) rfl
abbrev rmX3_hasNext : Room := { frames := 0, cells := 0, slots := 0, locals := 0 }
set_option maxRecDepth 20000 in
theorem cX3_hasNext_ (E : EV) (hE : okE E) (a0 : Int32) (u : ST) : MX E yX3_hasNext wsX3_hasNext rmX3_hasNext [.int a0] u (tR u (fX3_hasNext a0)) := by
  refine MX.of (cc := cX3_hasNext) (maxL := 1) (ret := (some .boolean)) (lv := [(0, .int a0)]) hE (by decide) rfl (fun _ => rfl) (Nat.le_of_ble_eq_true rfl) rfl (fun K hC => ?_)
  unfold fX3_hasNext
  refine g_iload_n 0 hC dX3_hasNext_0 0 rfl ?_
  refine g_ldc 1 hC (64527 : Int32) dX3_hasNext_1 cmX3_hasNext_9 ?_
  refine g_iand 3 hC dX3_hasNext_3 ?_
  refine g_ldc 4 hC (36864 : Int32) dX3_hasNext_4 cmX3_hasNext_10 ?_
  refine g_cut 23 (if (a0 &&& (64527 : Int32)) = (36864 : Int32) then (1 : Int32) else (if (a0 &&& (65036 : Int32)) = (37900 : Int32) then (1 : Int32) else (0 : Int32))) [] ?_ (fun J3 => ?_)
  · skip
    exact g_zret 23 hC (nbI nb1 (nbI nb1 nb0)) dX3_hasNext_23
  · skip
    refine g_icmp_eq 6 hC 18 dX3_hasNext_6 (by decide) (fun h1 => ?_) (fun h1 => ?_)
    · skip
      refine g_iconst 18 hC (1 : Int32) dX3_hasNext_18 (by decide) ?_
      refine g_goto 19 hC 23 dX3_hasNext_19 (by decide) ?_
      exact J3 _ (Eq.symm (if_pos h1))
    · skip
      refine g_iload_n 9 hC dX3_hasNext_9 0 rfl ?_
      refine g_ldc 10 hC (65036 : Int32) dX3_hasNext_10 cmX3_hasNext_11 ?_
      refine g_iand 12 hC dX3_hasNext_12 ?_
      refine g_ldc 13 hC (37900 : Int32) dX3_hasNext_13 cmX3_hasNext_12 ?_
      refine g_icmp_ne 15 hC 22 dX3_hasNext_15 (by decide) (fun h2 => ?_) (fun h2 => ?_)
      · skip
        refine g_iconst 22 hC (0 : Int32) dX3_hasNext_22 (by decide) ?_
        exact J3 _ (Eq.symm (Eq.trans (if_neg h1) (if_neg h2)))
      · skip
        refine g_iconst 18 hC (1 : Int32) dX3_hasNext_18 (by decide) ?_
        refine g_goto 19 hC 23 dX3_hasNext_19 (by decide) ?_
        exact J3 _ (Eq.symm (Eq.trans (if_neg h1) (if_pos h2)))
theorem kX3_hasNext {K : KT} {E : EV} {cc : ByteArray} {nL : Nat} {own : String} {Ts : List Cond} {rm : Room} {ret : Option FieldType} {T : ST × Option Value} {u : ST} {lv : List (Nat × Value)} {rest : List Value} {idx : Nat} {a0 : Int32} (pc : Nat) (hC : Cx K E cc nL own Ts rm ret) (hT : GoodIn Ts (va_wsS own idx yX3_hasNext wsX3_hasNext)) (hR : rmX3_hasNext.frames + 1 ≤ rm.frames ∧ 8 + (1 + 11) + rmX3_hasNext.locals ≤ rm.locals) (hdg : decode cc pc = .ok (.invokestatic idx, 3)) (hcat : (rest.map fun v => v.category).sum ≤ 8) (kk : G K E nL T u (pc + 3) lv (.int (fX3_hasNext a0) :: rest)) : G K E nL T u pc lv (.int a0 :: rest) := g_callS (n := 1) pc hC (As := [.int a0]) (rest := rest) (cX3_hasNext_ _ (Cx.ok hC) a0 u) hT rfl rfl rfl (by decide +kernel) hR rfl rfl hcat hdg kk

def fX3_lowGroupOf (a0 : Int32) : Int32 :=
  if a0 = 0 then
    (1 : Int32)
  else
    if (jshr a0 (8 : Int32)) = (0 : Int32) then
      (0 : Int32)
    else
      if (jshr a0 (8 : Int32)) = (1 : Int32) then
        (2 : Int32)
      else
        if (jshr a0 (8 : Int32)) = (2 : Int32) then
          (3 : Int32)
        else
          if (jshr a0 (8 : Int32)) = (3 : Int32) then
            (3 : Int32)
          else
            (4 : Int32)
abbrev rmX3_lowGroupOf : Room := { frames := 0, cells := 0, slots := 0, locals := 0 }
set_option maxRecDepth 20000 in
theorem cX3_lowGroupOf_ (E : EV) (hE : okE E) (a0 : Int32) (u : ST) : MX E yX3_lowGroupOf wsX3_lowGroupOf rmX3_lowGroupOf [.int a0] u (tR u (fX3_lowGroupOf a0)) := by
  refine MX.of (cc := cX3_lowGroupOf) (maxL := 1) (ret := (some .int)) (lv := [(0, .int a0)]) hE (by decide) rfl (fun _ => rfl) (Nat.le_of_ble_eq_true rfl) rfl (fun K hC => ?_)
  unfold fX3_lowGroupOf
  refine g_iload_n 0 hC dX3_lowGroupOf_0 0 rfl ?_
  refine g_if_neT (tR u) 1 hC 6 dX3_lowGroupOf_1 (by decide) (fun h1 => ?_) (fun h1 => ?_)
  · skip
    refine g_iload_n 6 hC dX3_lowGroupOf_6 0 rfl ?_
    refine g_bipush 7 hC (8 : Int32) dX3_lowGroupOf_7 (by decide) ?_
    refine g_ishr 9 hC dX3_lowGroupOf_9 ?_
    refine g_byT (tR u) (fun h2 => ?_) (fun h2 => ?_)
    · refine g_tsIn 10 hC (0 : Int32) (30) 40 h2 dX3_lowGroupOf_10 (by decide) (by decide) (by decide) (by decide) ?_
      refine g_iconst 40 hC (0 : Int32) dX3_lowGroupOf_40 (by decide) ?_
      exact g_iret 41 hC dX3_lowGroupOf_41
    · skip
      refine g_byT (tR u) (fun h3 => ?_) (fun h3 => ?_)
      · refine g_tsIn 10 hC (1 : Int32) (32) 42 h3 dX3_lowGroupOf_10 (by decide) (by decide) (by decide) (by decide) ?_
        refine g_iconst 42 hC (2 : Int32) dX3_lowGroupOf_42 (by decide) ?_
        exact g_iret 43 hC dX3_lowGroupOf_43
      · skip
        refine g_byT (tR u) (fun h4 => ?_) (fun h4 => ?_)
        · refine g_tsIn 10 hC (2 : Int32) (34) 44 h4 dX3_lowGroupOf_10 (by decide) (by decide) (by decide) (by decide) ?_
          refine g_iconst 44 hC (3 : Int32) dX3_lowGroupOf_44 (by decide) ?_
          exact g_iret 45 hC dX3_lowGroupOf_45
        · skip
          refine g_byT (tR u) (fun h5 => ?_) (fun h5 => ?_)
          · refine g_tsIn 10 hC (3 : Int32) (34) 44 h5 dX3_lowGroupOf_10 (by decide) (by decide) (by decide) (by decide) ?_
            refine g_iconst 44 hC (3 : Int32) dX3_lowGroupOf_44 (by decide) ?_
            exact g_iret 45 hC dX3_lowGroupOf_45
          · skip
            refine g_tsOut 10 hC 46 dX3_lowGroupOf_10 (by have n0 := lv_neT h2 (a := 0) (by decide); have n1 := lv_neT h3 (a := 1) (by decide); have n2 := lv_neT h4 (a := 2) (by decide); have n3 := lv_neT h5 (a := 3) (by decide); omega) (by decide) ?_
            refine g_iconst 46 hC (4 : Int32) dX3_lowGroupOf_46 (by decide) ?_
            exact g_iret 47 hC dX3_lowGroupOf_47
  · skip
    refine g_iconst 4 hC (1 : Int32) dX3_lowGroupOf_4 (by decide) ?_
    exact g_iret 5 hC dX3_lowGroupOf_5
theorem kX3_lowGroupOf {K : KT} {E : EV} {cc : ByteArray} {nL : Nat} {own : String} {Ts : List Cond} {rm : Room} {ret : Option FieldType} {T : ST × Option Value} {u : ST} {lv : List (Nat × Value)} {rest : List Value} {idx : Nat} {a0 : Int32} (pc : Nat) (hC : Cx K E cc nL own Ts rm ret) (hT : GoodIn Ts (va_wsS own idx yX3_lowGroupOf wsX3_lowGroupOf)) (hR : rmX3_lowGroupOf.frames + 1 ≤ rm.frames ∧ 8 + (1 + 11) + rmX3_lowGroupOf.locals ≤ rm.locals) (hdg : decode cc pc = .ok (.invokestatic idx, 3)) (hcat : (rest.map fun v => v.category).sum ≤ 8) (kk : G K E nL T u (pc + 3) lv (.int (fX3_lowGroupOf a0) :: rest)) : G K E nL T u pc lv (.int a0 :: rest) := g_callS (n := 1) pc hC (As := [.int a0]) (rest := rest) (cX3_lowGroupOf_ _ (Cx.ok hC) a0 u) hT rfl rfl rfl (by decide +kernel) hR rfl rfl hcat hdg kk

def fX3_isOneOf (a0 : Int32) (a1 : Int32) : Int32 :=
  (if (a0 &&& (30 : Int32)) = a1 then (1 : Int32) else (0 : Int32))
abbrev rmX3_isOneOf : Room := { frames := 0, cells := 0, slots := 0, locals := 0 }
set_option maxRecDepth 20000 in
theorem cX3_isOneOf_ (E : EV) (hE : okE E) (a0 : Int32) (a1 : Int32) (u : ST) : MX E yX3_isOneOf wsX3_isOneOf rmX3_isOneOf [.int a0, .int a1] u (tR u (fX3_isOneOf a0 a1)) := by
  refine MX.of (cc := cX3_isOneOf) (maxL := 2) (ret := (some .boolean)) (lv := [(0, .int a0), (1, .int a1)]) hE (by decide) rfl (fun _ => rfl) (Nat.le_of_ble_eq_true rfl) rfl (fun K hC => ?_)
  unfold fX3_isOneOf
  refine g_iload_n 0 hC dX3_isOneOf_0 0 rfl ?_
  refine g_bipush 1 hC (30 : Int32) dX3_isOneOf_1 (by decide) ?_
  refine g_iand 3 hC dX3_isOneOf_3 ?_
  refine g_iload_n 4 hC dX3_isOneOf_4 1 rfl ?_
  refine g_cut 13 (if (a0 &&& (30 : Int32)) = a1 then (1 : Int32) else (0 : Int32)) [] ?_ (fun J2 => ?_)
  · skip
    exact g_zret 13 hC (nbI nb1 nb0) dX3_isOneOf_13
  · skip
    refine g_icmp_ne 5 hC 12 dX3_isOneOf_5 (by decide) (fun h1 => ?_) (fun h1 => ?_)
    · skip
      refine g_iconst 12 hC (0 : Int32) dX3_isOneOf_12 (by decide) ?_
      exact J2 _ (Eq.symm (if_neg h1))
    · skip
      refine g_iconst 8 hC (1 : Int32) dX3_isOneOf_8 (by decide) ?_
      refine g_goto 9 hC 13 dX3_isOneOf_9 (by decide) ?_
      exact J2 _ (Eq.symm (if_pos h1))
theorem kX3_isOneOf {K : KT} {E : EV} {cc : ByteArray} {nL : Nat} {own : String} {Ts : List Cond} {rm : Room} {ret : Option FieldType} {T : ST × Option Value} {u : ST} {lv : List (Nat × Value)} {rest : List Value} {idx : Nat} {a0 : Int32} {a1 : Int32} (pc : Nat) (hC : Cx K E cc nL own Ts rm ret) (hT : GoodIn Ts (va_wsS own idx yX3_isOneOf wsX3_isOneOf)) (hR : rmX3_isOneOf.frames + 1 ≤ rm.frames ∧ 8 + (2 + 11) + rmX3_isOneOf.locals ≤ rm.locals) (hdg : decode cc pc = .ok (.invokestatic idx, 3)) (hcat : (rest.map fun v => v.category).sum ≤ 8) (kk : G K E nL T u (pc + 3) lv (.int (fX3_isOneOf a0 a1) :: rest)) : G K E nL T u pc lv (.int a1 :: .int a0 :: rest) := g_callS (n := 2) pc hC (As := [.int a0, .int a1]) (rest := rest) (cX3_isOneOf_ _ (Cx.ok hC) a0 a1 u) hT rfl rfl rfl (by decide +kernel) hR rfl rfl hcat hdg kk

def fX3_memoryGroupOf (a0 : Int32) : Int32 :=
  if (a0 &&& (15 : Int32)) = (0 : Int32) then
    (9 : Int32)
  else
    if (a0 &&& (15 : Int32)) = (1 : Int32) then
      (if (fX3_isOneOf (fX3_d a0) (fX3_pointer a0)) = 0 then (10 : Int32) else (0 : Int32))
    else
      if (a0 &&& (15 : Int32)) = (2 : Int32) then
        (if (fX3_isOneOf (fX3_d a0) (fX3_pointer a0)) = 0 then (10 : Int32) else (0 : Int32))
      else
        if (a0 &&& (15 : Int32)) = (3 : Int32) then
          (0 : Int32)
        else
          if (a0 &&& (15 : Int32)) = (4 : Int32) then
            (if (a0 &&& (512 : Int32)) = 0 then (13 : Int32) else (0 : Int32))
          else
            if (a0 &&& (15 : Int32)) = (5 : Int32) then
              (if (a0 &&& (512 : Int32)) = 0 then (if (fX3_isOneOf (fX3_d a0) (30 : Int32)) = 0 then (13 : Int32) else (0 : Int32)) else (0 : Int32))
            else
              if (a0 &&& (15 : Int32)) = (6 : Int32) then
                (0 : Int32)
              else
                if (a0 &&& (15 : Int32)) = (7 : Int32) then
                  (0 : Int32)
                else
                  if (a0 &&& (15 : Int32)) = (8 : Int32) then
                    (0 : Int32)
                  else
                    if (a0 &&& (15 : Int32)) = (9 : Int32) then
                      (if (fX3_isOneOf (fX3_d a0) (fX3_pointer a0)) = 0 then (10 : Int32) else (0 : Int32))
                    else
                      if (a0 &&& (15 : Int32)) = (10 : Int32) then
                        (if (fX3_isOneOf (fX3_d a0) (fX3_pointer a0)) = 0 then (10 : Int32) else (0 : Int32))
                      else
                        if (a0 &&& (15 : Int32)) = (11 : Int32) then
                          (0 : Int32)
                        else
                          if (a0 &&& (15 : Int32)) = (12 : Int32) then
                            (10 : Int32)
                          else
                            if (a0 &&& (15 : Int32)) = (13 : Int32) then
                              (if (fX3_isOneOf (fX3_d a0) (fX3_pointer a0)) = 0 then (10 : Int32) else (0 : Int32))
                            else
                              if (a0 &&& (15 : Int32)) = (14 : Int32) then
                                (if (fX3_isOneOf (fX3_d a0) (fX3_pointer a0)) = 0 then (10 : Int32) else (0 : Int32))
                              else
                                if (a0 &&& (15 : Int32)) = (15 : Int32) then
                                  (11 : Int32)
                                else
                                  (0 : Int32)
abbrev rmX3_memoryGroupOf : Room := { frames := 1, cells := 0, slots := 0, locals := 21 }
set_option maxRecDepth 20000 in
theorem cX3_memoryGroupOf_ (E : EV) (hE : okE E) (a0 : Int32) (u : ST) : MX E yX3_memoryGroupOf wsX3_memoryGroupOf rmX3_memoryGroupOf [.int a0] u (tR u (fX3_memoryGroupOf a0)) := by
  refine MX.of (cc := cX3_memoryGroupOf) (maxL := 1) (ret := (some .int)) (lv := [(0, .int a0)]) hE (by decide) rfl (fun _ => rfl) (Nat.le_of_ble_eq_true rfl) rfl (fun K hC => ?_)
  unfold fX3_memoryGroupOf
  refine g_iload_n 0 hC dX3_memoryGroupOf_0 0 rfl ?_
  refine g_bipush 1 hC (15 : Int32) dX3_memoryGroupOf_1 (by decide) ?_
  refine g_iand 3 hC dX3_memoryGroupOf_3 ?_
  refine g_byT (tR u) (fun h1 => ?_) (fun h1 => ?_)
  · refine g_tsIn 4 hC (0 : Int32) (80) 84 h1 dX3_memoryGroupOf_4 (by decide) (by decide) (by decide) (by decide) ?_
    refine g_bipush 84 hC (9 : Int32) dX3_memoryGroupOf_84 (by decide) ?_
    exact g_iret 86 hC dX3_memoryGroupOf_86
  · skip
    refine g_byT (tR u) (fun h2 => ?_) (fun h2 => ?_)
    · refine g_tsIn 4 hC (1 : Int32) (83) 87 h2 dX3_memoryGroupOf_4 (by decide) (by decide) (by decide) (by decide) ?_
      refine g_iload_n 87 hC dX3_memoryGroupOf_87 0 rfl ?_
      refine kX3_d 88 hC gX3_memoryGroupOf_X3_d ⟨Nat.le_of_ble_eq_true rfl, Nat.le_of_ble_eq_true rfl⟩ dX3_memoryGroupOf_88 (Nat.le_of_ble_eq_true rfl) ?_
      refine g_iload_n 91 hC dX3_memoryGroupOf_91 0 rfl ?_
      refine kX3_pointer 92 hC gX3_memoryGroupOf_X3_pointer ⟨Nat.le_of_ble_eq_true rfl, Nat.le_of_ble_eq_true rfl⟩ dX3_memoryGroupOf_92 (Nat.le_of_ble_eq_true rfl) ?_
      refine kX3_isOneOf 95 hC gX3_memoryGroupOf_X3_isOneOf ⟨Nat.le_of_ble_eq_true rfl, Nat.le_of_ble_eq_true rfl⟩ dX3_memoryGroupOf_95 (Nat.le_of_ble_eq_true rfl) ?_
      refine g_cut 107 (if (fX3_isOneOf (fX3_d a0) (fX3_pointer a0)) = 0 then (10 : Int32) else (0 : Int32)) [] ?_ (fun J4 => ?_)
      · skip
        exact g_iret 107 hC dX3_memoryGroupOf_107
      · skip
        refine g_if_eq 98 hC 105 dX3_memoryGroupOf_98 (by decide) (fun h3 => ?_) (fun h3 => ?_)
        · skip
          refine g_bipush 105 hC (10 : Int32) dX3_memoryGroupOf_105 (by decide) ?_
          exact J4 _ (Eq.symm (if_pos h3))
        · skip
          refine g_iconst 101 hC (0 : Int32) dX3_memoryGroupOf_101 (by decide) ?_
          refine g_goto 102 hC 107 dX3_memoryGroupOf_102 (by decide) ?_
          exact J4 _ (Eq.symm (if_neg h3))
    · skip
      refine g_byT (tR u) (fun h5 => ?_) (fun h5 => ?_)
      · refine g_tsIn 4 hC (2 : Int32) (83) 87 h5 dX3_memoryGroupOf_4 (by decide) (by decide) (by decide) (by decide) ?_
        refine g_iload_n 87 hC dX3_memoryGroupOf_87 0 rfl ?_
        refine kX3_d 88 hC gX3_memoryGroupOf_X3_d ⟨Nat.le_of_ble_eq_true rfl, Nat.le_of_ble_eq_true rfl⟩ dX3_memoryGroupOf_88 (Nat.le_of_ble_eq_true rfl) ?_
        refine g_iload_n 91 hC dX3_memoryGroupOf_91 0 rfl ?_
        refine kX3_pointer 92 hC gX3_memoryGroupOf_X3_pointer ⟨Nat.le_of_ble_eq_true rfl, Nat.le_of_ble_eq_true rfl⟩ dX3_memoryGroupOf_92 (Nat.le_of_ble_eq_true rfl) ?_
        refine kX3_isOneOf 95 hC gX3_memoryGroupOf_X3_isOneOf ⟨Nat.le_of_ble_eq_true rfl, Nat.le_of_ble_eq_true rfl⟩ dX3_memoryGroupOf_95 (Nat.le_of_ble_eq_true rfl) ?_
        refine g_cut 107 (if (fX3_isOneOf (fX3_d a0) (fX3_pointer a0)) = 0 then (10 : Int32) else (0 : Int32)) [] ?_ (fun J7 => ?_)
        · skip
          exact g_iret 107 hC dX3_memoryGroupOf_107
        · skip
          refine g_if_eq 98 hC 105 dX3_memoryGroupOf_98 (by decide) (fun h6 => ?_) (fun h6 => ?_)
          · skip
            refine g_bipush 105 hC (10 : Int32) dX3_memoryGroupOf_105 (by decide) ?_
            exact J7 _ (Eq.symm (if_pos h6))
          · skip
            refine g_iconst 101 hC (0 : Int32) dX3_memoryGroupOf_101 (by decide) ?_
            refine g_goto 102 hC 107 dX3_memoryGroupOf_102 (by decide) ?_
            exact J7 _ (Eq.symm (if_neg h6))
      · skip
        refine g_byT (tR u) (fun h8 => ?_) (fun h8 => ?_)
        · refine g_tsIn 4 hC (3 : Int32) (152) 156 h8 dX3_memoryGroupOf_4 (by decide) (by decide) (by decide) (by decide) ?_
          refine g_iconst 156 hC (0 : Int32) dX3_memoryGroupOf_156 (by decide) ?_
          exact g_iret 157 hC dX3_memoryGroupOf_157
        · skip
          refine g_byT (tR u) (fun h9 => ?_) (fun h9 => ?_)
          · refine g_tsIn 4 hC (4 : Int32) (104) 108 h9 dX3_memoryGroupOf_4 (by decide) (by decide) (by decide) (by decide) ?_
            refine g_iload_n 108 hC dX3_memoryGroupOf_108 0 rfl ?_
            refine g_sipush 109 hC (512 : Int32) dX3_memoryGroupOf_109 (by decide) ?_
            refine g_iand 112 hC dX3_memoryGroupOf_112 ?_
            refine g_cut 122 (if (a0 &&& (512 : Int32)) = 0 then (13 : Int32) else (0 : Int32)) [] ?_ (fun J11 => ?_)
            · skip
              exact g_iret 122 hC dX3_memoryGroupOf_122
            · skip
              refine g_if_ne 113 hC 121 dX3_memoryGroupOf_113 (by decide) (fun h10 => ?_) (fun h10 => ?_)
              · skip
                refine g_iconst 121 hC (0 : Int32) dX3_memoryGroupOf_121 (by decide) ?_
                exact J11 _ (Eq.symm (if_neg h10))
              · skip
                refine g_bipush 116 hC (13 : Int32) dX3_memoryGroupOf_116 (by decide) ?_
                refine g_goto 118 hC 122 dX3_memoryGroupOf_118 (by decide) ?_
                exact J11 _ (Eq.symm (if_pos h10))
          · skip
            refine g_byT (tR u) (fun h12 => ?_) (fun h12 => ?_)
            · refine g_tsIn 4 hC (5 : Int32) (119) 123 h12 dX3_memoryGroupOf_4 (by decide) (by decide) (by decide) (by decide) ?_
              refine g_iload_n 123 hC dX3_memoryGroupOf_123 0 rfl ?_
              refine g_sipush 124 hC (512 : Int32) dX3_memoryGroupOf_124 (by decide) ?_
              refine g_iand 127 hC dX3_memoryGroupOf_127 ?_
              refine g_cut 149 (if (a0 &&& (512 : Int32)) = 0 then (if (fX3_isOneOf (fX3_d a0) (30 : Int32)) = 0 then (13 : Int32) else (0 : Int32)) else (0 : Int32)) [] ?_ (fun J15 => ?_)
              · skip
                exact g_iret 149 hC dX3_memoryGroupOf_149
              · skip
                refine g_if_ne 128 hC 148 dX3_memoryGroupOf_128 (by decide) (fun h13 => ?_) (fun h13 => ?_)
                · skip
                  refine g_iconst 148 hC (0 : Int32) dX3_memoryGroupOf_148 (by decide) ?_
                  exact J15 _ (Eq.symm (if_neg h13))
                · skip
                  refine g_iload_n 131 hC dX3_memoryGroupOf_131 0 rfl ?_
                  refine kX3_d 132 hC gX3_memoryGroupOf_X3_d ⟨Nat.le_of_ble_eq_true rfl, Nat.le_of_ble_eq_true rfl⟩ dX3_memoryGroupOf_132 (Nat.le_of_ble_eq_true rfl) ?_
                  refine g_bipush 135 hC (30 : Int32) dX3_memoryGroupOf_135 (by decide) ?_
                  refine kX3_isOneOf 137 hC gX3_memoryGroupOf_X3_isOneOf ⟨Nat.le_of_ble_eq_true rfl, Nat.le_of_ble_eq_true rfl⟩ dX3_memoryGroupOf_137 (Nat.le_of_ble_eq_true rfl) ?_
                  refine g_if_ne 140 hC 148 dX3_memoryGroupOf_140 (by decide) (fun h14 => ?_) (fun h14 => ?_)
                  · skip
                    refine g_iconst 148 hC (0 : Int32) dX3_memoryGroupOf_148 (by decide) ?_
                    exact J15 _ (Eq.symm (Eq.trans (if_pos h13) (if_neg h14)))
                  · skip
                    refine g_bipush 143 hC (13 : Int32) dX3_memoryGroupOf_143 (by decide) ?_
                    refine g_goto 145 hC 149 dX3_memoryGroupOf_145 (by decide) ?_
                    exact J15 _ (Eq.symm (Eq.trans (if_pos h13) (if_pos h14)))
            · skip
              refine g_byT (tR u) (fun h16 => ?_) (fun h16 => ?_)
              · refine g_tsIn 4 hC (6 : Int32) (152) 156 h16 dX3_memoryGroupOf_4 (by decide) (by decide) (by decide) (by decide) ?_
                refine g_iconst 156 hC (0 : Int32) dX3_memoryGroupOf_156 (by decide) ?_
                exact g_iret 157 hC dX3_memoryGroupOf_157
              · skip
                refine g_byT (tR u) (fun h17 => ?_) (fun h17 => ?_)
                · refine g_tsIn 4 hC (7 : Int32) (152) 156 h17 dX3_memoryGroupOf_4 (by decide) (by decide) (by decide) (by decide) ?_
                  refine g_iconst 156 hC (0 : Int32) dX3_memoryGroupOf_156 (by decide) ?_
                  exact g_iret 157 hC dX3_memoryGroupOf_157
                · skip
                  refine g_byT (tR u) (fun h18 => ?_) (fun h18 => ?_)
                  · refine g_tsIn 4 hC (8 : Int32) (152) 156 h18 dX3_memoryGroupOf_4 (by decide) (by decide) (by decide) (by decide) ?_
                    refine g_iconst 156 hC (0 : Int32) dX3_memoryGroupOf_156 (by decide) ?_
                    exact g_iret 157 hC dX3_memoryGroupOf_157
                  · skip
                    refine g_byT (tR u) (fun h19 => ?_) (fun h19 => ?_)
                    · refine g_tsIn 4 hC (9 : Int32) (83) 87 h19 dX3_memoryGroupOf_4 (by decide) (by decide) (by decide) (by decide) ?_
                      refine g_iload_n 87 hC dX3_memoryGroupOf_87 0 rfl ?_
                      refine kX3_d 88 hC gX3_memoryGroupOf_X3_d ⟨Nat.le_of_ble_eq_true rfl, Nat.le_of_ble_eq_true rfl⟩ dX3_memoryGroupOf_88 (Nat.le_of_ble_eq_true rfl) ?_
                      refine g_iload_n 91 hC dX3_memoryGroupOf_91 0 rfl ?_
                      refine kX3_pointer 92 hC gX3_memoryGroupOf_X3_pointer ⟨Nat.le_of_ble_eq_true rfl, Nat.le_of_ble_eq_true rfl⟩ dX3_memoryGroupOf_92 (Nat.le_of_ble_eq_true rfl) ?_
                      refine kX3_isOneOf 95 hC gX3_memoryGroupOf_X3_isOneOf ⟨Nat.le_of_ble_eq_true rfl, Nat.le_of_ble_eq_true rfl⟩ dX3_memoryGroupOf_95 (Nat.le_of_ble_eq_true rfl) ?_
                      refine g_cut 107 (if (fX3_isOneOf (fX3_d a0) (fX3_pointer a0)) = 0 then (10 : Int32) else (0 : Int32)) [] ?_ (fun J21 => ?_)
                      · skip
                        exact g_iret 107 hC dX3_memoryGroupOf_107
                      · skip
                        refine g_if_eq 98 hC 105 dX3_memoryGroupOf_98 (by decide) (fun h20 => ?_) (fun h20 => ?_)
                        · skip
                          refine g_bipush 105 hC (10 : Int32) dX3_memoryGroupOf_105 (by decide) ?_
                          exact J21 _ (Eq.symm (if_pos h20))
                        · skip
                          refine g_iconst 101 hC (0 : Int32) dX3_memoryGroupOf_101 (by decide) ?_
                          refine g_goto 102 hC 107 dX3_memoryGroupOf_102 (by decide) ?_
                          exact J21 _ (Eq.symm (if_neg h20))
                    · skip
                      refine g_byT (tR u) (fun h22 => ?_) (fun h22 => ?_)
                      · refine g_tsIn 4 hC (10 : Int32) (83) 87 h22 dX3_memoryGroupOf_4 (by decide) (by decide) (by decide) (by decide) ?_
                        refine g_iload_n 87 hC dX3_memoryGroupOf_87 0 rfl ?_
                        refine kX3_d 88 hC gX3_memoryGroupOf_X3_d ⟨Nat.le_of_ble_eq_true rfl, Nat.le_of_ble_eq_true rfl⟩ dX3_memoryGroupOf_88 (Nat.le_of_ble_eq_true rfl) ?_
                        refine g_iload_n 91 hC dX3_memoryGroupOf_91 0 rfl ?_
                        refine kX3_pointer 92 hC gX3_memoryGroupOf_X3_pointer ⟨Nat.le_of_ble_eq_true rfl, Nat.le_of_ble_eq_true rfl⟩ dX3_memoryGroupOf_92 (Nat.le_of_ble_eq_true rfl) ?_
                        refine kX3_isOneOf 95 hC gX3_memoryGroupOf_X3_isOneOf ⟨Nat.le_of_ble_eq_true rfl, Nat.le_of_ble_eq_true rfl⟩ dX3_memoryGroupOf_95 (Nat.le_of_ble_eq_true rfl) ?_
                        refine g_cut 107 (if (fX3_isOneOf (fX3_d a0) (fX3_pointer a0)) = 0 then (10 : Int32) else (0 : Int32)) [] ?_ (fun J24 => ?_)
                        · skip
                          exact g_iret 107 hC dX3_memoryGroupOf_107
                        · skip
                          refine g_if_eq 98 hC 105 dX3_memoryGroupOf_98 (by decide) (fun h23 => ?_) (fun h23 => ?_)
                          · skip
                            refine g_bipush 105 hC (10 : Int32) dX3_memoryGroupOf_105 (by decide) ?_
                            exact J24 _ (Eq.symm (if_pos h23))
                          · skip
                            refine g_iconst 101 hC (0 : Int32) dX3_memoryGroupOf_101 (by decide) ?_
                            refine g_goto 102 hC 107 dX3_memoryGroupOf_102 (by decide) ?_
                            exact J24 _ (Eq.symm (if_neg h23))
                      · skip
                        refine g_byT (tR u) (fun h25 => ?_) (fun h25 => ?_)
                        · refine g_tsIn 4 hC (11 : Int32) (152) 156 h25 dX3_memoryGroupOf_4 (by decide) (by decide) (by decide) (by decide) ?_
                          refine g_iconst 156 hC (0 : Int32) dX3_memoryGroupOf_156 (by decide) ?_
                          exact g_iret 157 hC dX3_memoryGroupOf_157
                        · skip
                          refine g_byT (tR u) (fun h26 => ?_) (fun h26 => ?_)
                          · refine g_tsIn 4 hC (12 : Int32) (146) 150 h26 dX3_memoryGroupOf_4 (by decide) (by decide) (by decide) (by decide) ?_
                            refine g_bipush 150 hC (10 : Int32) dX3_memoryGroupOf_150 (by decide) ?_
                            exact g_iret 152 hC dX3_memoryGroupOf_152
                          · skip
                            refine g_byT (tR u) (fun h27 => ?_) (fun h27 => ?_)
                            · refine g_tsIn 4 hC (13 : Int32) (83) 87 h27 dX3_memoryGroupOf_4 (by decide) (by decide) (by decide) (by decide) ?_
                              refine g_iload_n 87 hC dX3_memoryGroupOf_87 0 rfl ?_
                              refine kX3_d 88 hC gX3_memoryGroupOf_X3_d ⟨Nat.le_of_ble_eq_true rfl, Nat.le_of_ble_eq_true rfl⟩ dX3_memoryGroupOf_88 (Nat.le_of_ble_eq_true rfl) ?_
                              refine g_iload_n 91 hC dX3_memoryGroupOf_91 0 rfl ?_
                              refine kX3_pointer 92 hC gX3_memoryGroupOf_X3_pointer ⟨Nat.le_of_ble_eq_true rfl, Nat.le_of_ble_eq_true rfl⟩ dX3_memoryGroupOf_92 (Nat.le_of_ble_eq_true rfl) ?_
                              refine kX3_isOneOf 95 hC gX3_memoryGroupOf_X3_isOneOf ⟨Nat.le_of_ble_eq_true rfl, Nat.le_of_ble_eq_true rfl⟩ dX3_memoryGroupOf_95 (Nat.le_of_ble_eq_true rfl) ?_
                              refine g_cut 107 (if (fX3_isOneOf (fX3_d a0) (fX3_pointer a0)) = 0 then (10 : Int32) else (0 : Int32)) [] ?_ (fun J29 => ?_)
                              · skip
                                exact g_iret 107 hC dX3_memoryGroupOf_107
                              · skip
                                refine g_if_eq 98 hC 105 dX3_memoryGroupOf_98 (by decide) (fun h28 => ?_) (fun h28 => ?_)
                                · skip
                                  refine g_bipush 105 hC (10 : Int32) dX3_memoryGroupOf_105 (by decide) ?_
                                  exact J29 _ (Eq.symm (if_pos h28))
                                · skip
                                  refine g_iconst 101 hC (0 : Int32) dX3_memoryGroupOf_101 (by decide) ?_
                                  refine g_goto 102 hC 107 dX3_memoryGroupOf_102 (by decide) ?_
                                  exact J29 _ (Eq.symm (if_neg h28))
                            · skip
                              refine g_byT (tR u) (fun h30 => ?_) (fun h30 => ?_)
                              · refine g_tsIn 4 hC (14 : Int32) (83) 87 h30 dX3_memoryGroupOf_4 (by decide) (by decide) (by decide) (by decide) ?_
                                refine g_iload_n 87 hC dX3_memoryGroupOf_87 0 rfl ?_
                                refine kX3_d 88 hC gX3_memoryGroupOf_X3_d ⟨Nat.le_of_ble_eq_true rfl, Nat.le_of_ble_eq_true rfl⟩ dX3_memoryGroupOf_88 (Nat.le_of_ble_eq_true rfl) ?_
                                refine g_iload_n 91 hC dX3_memoryGroupOf_91 0 rfl ?_
                                refine kX3_pointer 92 hC gX3_memoryGroupOf_X3_pointer ⟨Nat.le_of_ble_eq_true rfl, Nat.le_of_ble_eq_true rfl⟩ dX3_memoryGroupOf_92 (Nat.le_of_ble_eq_true rfl) ?_
                                refine kX3_isOneOf 95 hC gX3_memoryGroupOf_X3_isOneOf ⟨Nat.le_of_ble_eq_true rfl, Nat.le_of_ble_eq_true rfl⟩ dX3_memoryGroupOf_95 (Nat.le_of_ble_eq_true rfl) ?_
                                refine g_cut 107 (if (fX3_isOneOf (fX3_d a0) (fX3_pointer a0)) = 0 then (10 : Int32) else (0 : Int32)) [] ?_ (fun J32 => ?_)
                                · skip
                                  exact g_iret 107 hC dX3_memoryGroupOf_107
                                · skip
                                  refine g_if_eq 98 hC 105 dX3_memoryGroupOf_98 (by decide) (fun h31 => ?_) (fun h31 => ?_)
                                  · skip
                                    refine g_bipush 105 hC (10 : Int32) dX3_memoryGroupOf_105 (by decide) ?_
                                    exact J32 _ (Eq.symm (if_pos h31))
                                  · skip
                                    refine g_iconst 101 hC (0 : Int32) dX3_memoryGroupOf_101 (by decide) ?_
                                    refine g_goto 102 hC 107 dX3_memoryGroupOf_102 (by decide) ?_
                                    exact J32 _ (Eq.symm (if_neg h31))
                              · skip
                                refine g_byT (tR u) (fun h33 => ?_) (fun h33 => ?_)
                                · refine g_tsIn 4 hC (15 : Int32) (149) 153 h33 dX3_memoryGroupOf_4 (by decide) (by decide) (by decide) (by decide) ?_
                                  refine g_bipush 153 hC (11 : Int32) dX3_memoryGroupOf_153 (by decide) ?_
                                  exact g_iret 155 hC dX3_memoryGroupOf_155
                                · skip
                                  refine g_tsOut 4 hC 156 dX3_memoryGroupOf_4 (by have n0 := lv_neT h1 (a := 0) (by decide); have n1 := lv_neT h2 (a := 1) (by decide); have n2 := lv_neT h5 (a := 2) (by decide); have n3 := lv_neT h8 (a := 3) (by decide); have n4 := lv_neT h9 (a := 4) (by decide); have n5 := lv_neT h12 (a := 5) (by decide); have n6 := lv_neT h16 (a := 6) (by decide); have n7 := lv_neT h17 (a := 7) (by decide); have n8 := lv_neT h18 (a := 8) (by decide); have n9 := lv_neT h19 (a := 9) (by decide); have n10 := lv_neT h22 (a := 10) (by decide); have n11 := lv_neT h25 (a := 11) (by decide); have n12 := lv_neT h26 (a := 12) (by decide); have n13 := lv_neT h27 (a := 13) (by decide); have n14 := lv_neT h30 (a := 14) (by decide); have n15 := lv_neT h33 (a := 15) (by decide); omega) (by decide) ?_
                                  refine g_iconst 156 hC (0 : Int32) dX3_memoryGroupOf_156 (by decide) ?_
                                  exact g_iret 157 hC dX3_memoryGroupOf_157
theorem kX3_memoryGroupOf {K : KT} {E : EV} {cc : ByteArray} {nL : Nat} {own : String} {Ts : List Cond} {rm : Room} {ret : Option FieldType} {T : ST × Option Value} {u : ST} {lv : List (Nat × Value)} {rest : List Value} {idx : Nat} {a0 : Int32} (pc : Nat) (hC : Cx K E cc nL own Ts rm ret) (hT : GoodIn Ts (va_wsS own idx yX3_memoryGroupOf wsX3_memoryGroupOf)) (hR : rmX3_memoryGroupOf.frames + 1 ≤ rm.frames ∧ 8 + (1 + 11) + rmX3_memoryGroupOf.locals ≤ rm.locals) (hdg : decode cc pc = .ok (.invokestatic idx, 3)) (hcat : (rest.map fun v => v.category).sum ≤ 8) (kk : G K E nL T u (pc + 3) lv (.int (fX3_memoryGroupOf a0) :: rest)) : G K E nL T u pc lv (.int a0 :: rest) := g_callS (n := 1) pc hC (As := [.int a0]) (rest := rest) (cX3_memoryGroupOf_ _ (Cx.ok hC) a0 u) hT rfl rfl rfl (by decide +kernel) hR rfl rfl hcat hdg kk

def fX3_flagGroupOf (a0 : Int32) : Int32 :=
  if (a0 &&& (256 : Int32)) = 0 then
    (7 : Int32)
  else
    if (a0 &&& (240 : Int32)) = (0 : Int32) then
      (23 : Int32)
    else
      if (a0 &&& (240 : Int32)) = (16 : Int32) then
        (23 : Int32)
      else
        if (a0 &&& (240 : Int32)) = (192 : Int32) then
          (13 : Int32)
        else
          (0 : Int32)
abbrev rmX3_flagGroupOf : Room := { frames := 0, cells := 0, slots := 0, locals := 0 }
set_option maxRecDepth 20000 in
theorem cX3_flagGroupOf_ (E : EV) (hE : okE E) (a0 : Int32) (u : ST) : MX E yX3_flagGroupOf wsX3_flagGroupOf rmX3_flagGroupOf [.int a0] u (tR u (fX3_flagGroupOf a0)) := by
  refine MX.of (cc := cX3_flagGroupOf) (maxL := 1) (ret := (some .int)) (lv := [(0, .int a0)]) hE (by decide) rfl (fun _ => rfl) (Nat.le_of_ble_eq_true rfl) rfl (fun K hC => ?_)
  unfold fX3_flagGroupOf
  refine g_iload_n 0 hC dX3_flagGroupOf_0 0 rfl ?_
  refine g_sipush 1 hC (256 : Int32) dX3_flagGroupOf_1 (by decide) ?_
  refine g_iand 4 hC dX3_flagGroupOf_4 ?_
  refine g_if_neT (tR u) 5 hC 11 dX3_flagGroupOf_5 (by decide) (fun h1 => ?_) (fun h1 => ?_)
  · skip
    refine g_iload_n 11 hC dX3_flagGroupOf_11 0 rfl ?_
    refine g_sipush 12 hC (240 : Int32) dX3_flagGroupOf_12 (by decide) ?_
    refine g_iand 15 hC dX3_flagGroupOf_15 ?_
    refine g_byT (tR u) (fun h2 => ?_) (fun h2 => ?_)
    · refine g_ls 16 hC (36) 52 dX3_flagGroupOf_16 (by decide) (by rw [h2]; decide) (by decide) ?_
      refine g_bipush 52 hC (23 : Int32) dX3_flagGroupOf_52 (by decide) ?_
      exact g_iret 54 hC dX3_flagGroupOf_54
    · skip
      refine g_byT (tR u) (fun h3 => ?_) (fun h3 => ?_)
      · refine g_ls 16 hC (36) 52 dX3_flagGroupOf_16 (by decide) (by rw [h3]; decide) (by decide) ?_
        refine g_bipush 52 hC (23 : Int32) dX3_flagGroupOf_52 (by decide) ?_
        exact g_iret 54 hC dX3_flagGroupOf_54
      · skip
        refine g_byT (tR u) (fun h4 => ?_) (fun h4 => ?_)
        · refine g_ls 16 hC (39) 55 dX3_flagGroupOf_16 (by decide) (by rw [h4]; decide) (by decide) ?_
          refine g_bipush 55 hC (13 : Int32) dX3_flagGroupOf_55 (by decide) ?_
          exact g_iret 57 hC dX3_flagGroupOf_57
        · skip
          refine g_ls 16 hC (42) 58 dX3_flagGroupOf_16 (by decide) ((lv_osw h2 (a := 0) (by decide)).trans ((lv_osw h3 (a := 16) (by decide)).trans ((lv_osw h4 (a := 192) (by decide)).trans rfl))) (by decide) ?_
          refine g_iconst 58 hC (0 : Int32) dX3_flagGroupOf_58 (by decide) ?_
          exact g_iret 59 hC dX3_flagGroupOf_59
  · skip
    refine g_bipush 8 hC (7 : Int32) dX3_flagGroupOf_8 (by decide) ?_
    exact g_iret 10 hC dX3_flagGroupOf_10
theorem kX3_flagGroupOf {K : KT} {E : EV} {cc : ByteArray} {nL : Nat} {own : String} {Ts : List Cond} {rm : Room} {ret : Option FieldType} {T : ST × Option Value} {u : ST} {lv : List (Nat × Value)} {rest : List Value} {idx : Nat} {a0 : Int32} (pc : Nat) (hC : Cx K E cc nL own Ts rm ret) (hT : GoodIn Ts (va_wsS own idx yX3_flagGroupOf wsX3_flagGroupOf)) (hR : rmX3_flagGroupOf.frames + 1 ≤ rm.frames ∧ 8 + (1 + 11) + rmX3_flagGroupOf.locals ≤ rm.locals) (hdg : decode cc pc = .ok (.invokestatic idx, 3)) (hcat : (rest.map fun v => v.category).sum ≤ 8) (kk : G K E nL T u (pc + 3) lv (.int (fX3_flagGroupOf a0) :: rest)) : G K E nL T u pc lv (.int a0 :: rest) := g_callS (n := 1) pc hC (As := [.int a0]) (rest := rest) (cX3_flagGroupOf_ _ (Cx.ok hC) a0 u) hT rfl rfl rfl (by decide +kernel) hR rfl rfl hcat hdg kk

def fX3_singleGroupOf (a0 : Int32) : Int32 :=
  if (a0 &&& (15 : Int32)) = (4 : Int32) then
    (0 : Int32)
  else
    if (a0 &&& (15 : Int32)) = (5 : Int32) then
      (6 : Int32)
    else
      if (a0 &&& (15 : Int32)) = (6 : Int32) then
        (6 : Int32)
      else
        if (a0 &&& (15 : Int32)) = (7 : Int32) then
          (6 : Int32)
        else
          if (a0 &&& (15 : Int32)) = (8 : Int32) then
            (fX3_flagGroupOf a0)
          else
            if (a0 &&& (15 : Int32)) = (9 : Int32) then
              (if (a0 &&& (240 : Int32)) = 0 then (22 : Int32) else (0 : Int32))
            else
              if (a0 &&& (15 : Int32)) = (10 : Int32) then
                (6 : Int32)
              else
                if (a0 &&& (15 : Int32)) = (11 : Int32) then
                  (0 : Int32)
                else
                  if (a0 &&& (15 : Int32)) = (12 : Int32) then
                    (21 : Int32)
                  else
                    if (a0 &&& (15 : Int32)) = (13 : Int32) then
                      (21 : Int32)
                    else
                      if (a0 &&& (15 : Int32)) = (14 : Int32) then
                        (21 : Int32)
                      else
                        if (a0 &&& (15 : Int32)) = (15 : Int32) then
                          (21 : Int32)
                        else
                          (6 : Int32)
abbrev rmX3_singleGroupOf : Room := { frames := 1, cells := 0, slots := 0, locals := 20 }
set_option maxRecDepth 20000 in
theorem cX3_singleGroupOf_ (E : EV) (hE : okE E) (a0 : Int32) (u : ST) : MX E yX3_singleGroupOf wsX3_singleGroupOf rmX3_singleGroupOf [.int a0] u (tR u (fX3_singleGroupOf a0)) := by
  refine MX.of (cc := cX3_singleGroupOf) (maxL := 1) (ret := (some .int)) (lv := [(0, .int a0)]) hE (by decide) rfl (fun _ => rfl) (Nat.le_of_ble_eq_true rfl) rfl (fun K hC => ?_)
  unfold fX3_singleGroupOf
  refine g_iload_n 0 hC dX3_singleGroupOf_0 0 rfl ?_
  refine g_bipush 1 hC (15 : Int32) dX3_singleGroupOf_1 (by decide) ?_
  refine g_iand 3 hC dX3_singleGroupOf_3 ?_
  refine g_byT (tR u) (fun h1 => ?_) (fun h1 => ?_)
  · refine g_tsIn 4 hC (4 : Int32) (64) 68 h1 dX3_singleGroupOf_4 (by decide) (by decide) (by decide) (by decide) ?_
    refine g_iconst 68 hC (0 : Int32) dX3_singleGroupOf_68 (by decide) ?_
    exact g_iret 69 hC dX3_singleGroupOf_69
  · skip
    refine g_byT (tR u) (fun h2 => ?_) (fun h2 => ?_)
    · refine g_tsIn 4 hC (5 : Int32) (89) 93 h2 dX3_singleGroupOf_4 (by decide) (by decide) (by decide) (by decide) ?_
      refine g_bipush 93 hC (6 : Int32) dX3_singleGroupOf_93 (by decide) ?_
      exact g_iret 95 hC dX3_singleGroupOf_95
    · skip
      refine g_byT (tR u) (fun h3 => ?_) (fun h3 => ?_)
      · refine g_tsIn 4 hC (6 : Int32) (89) 93 h3 dX3_singleGroupOf_4 (by decide) (by decide) (by decide) (by decide) ?_
        refine g_bipush 93 hC (6 : Int32) dX3_singleGroupOf_93 (by decide) ?_
        exact g_iret 95 hC dX3_singleGroupOf_95
      · skip
        refine g_byT (tR u) (fun h4 => ?_) (fun h4 => ?_)
        · refine g_tsIn 4 hC (7 : Int32) (89) 93 h4 dX3_singleGroupOf_4 (by decide) (by decide) (by decide) (by decide) ?_
          refine g_bipush 93 hC (6 : Int32) dX3_singleGroupOf_93 (by decide) ?_
          exact g_iret 95 hC dX3_singleGroupOf_95
        · skip
          refine g_byT (tR u) (fun h5 => ?_) (fun h5 => ?_)
          · refine g_tsIn 4 hC (8 : Int32) (66) 70 h5 dX3_singleGroupOf_4 (by decide) (by decide) (by decide) (by decide) ?_
            refine g_iload_n 70 hC dX3_singleGroupOf_70 0 rfl ?_
            refine kX3_flagGroupOf 71 hC gX3_singleGroupOf_X3_flagGroupOf ⟨Nat.le_of_ble_eq_true rfl, Nat.le_of_ble_eq_true rfl⟩ dX3_singleGroupOf_71 (Nat.le_of_ble_eq_true rfl) ?_
            exact g_iret 74 hC dX3_singleGroupOf_74
          · skip
            refine g_byT (tR u) (fun h6 => ?_) (fun h6 => ?_)
            · refine g_tsIn 4 hC (9 : Int32) (71) 75 h6 dX3_singleGroupOf_4 (by decide) (by decide) (by decide) (by decide) ?_
              refine g_iload_n 75 hC dX3_singleGroupOf_75 0 rfl ?_
              refine g_sipush 76 hC (240 : Int32) dX3_singleGroupOf_76 (by decide) ?_
              refine g_iand 79 hC dX3_singleGroupOf_79 ?_
              refine g_cut 89 (if (a0 &&& (240 : Int32)) = 0 then (22 : Int32) else (0 : Int32)) [] ?_ (fun J8 => ?_)
              · skip
                exact g_iret 89 hC dX3_singleGroupOf_89
              · skip
                refine g_if_ne 80 hC 88 dX3_singleGroupOf_80 (by decide) (fun h7 => ?_) (fun h7 => ?_)
                · skip
                  refine g_iconst 88 hC (0 : Int32) dX3_singleGroupOf_88 (by decide) ?_
                  exact J8 _ (Eq.symm (if_neg h7))
                · skip
                  refine g_bipush 83 hC (22 : Int32) dX3_singleGroupOf_83 (by decide) ?_
                  refine g_goto 85 hC 89 dX3_singleGroupOf_85 (by decide) ?_
                  exact J8 _ (Eq.symm (if_pos h7))
            · skip
              refine g_byT (tR u) (fun h9 => ?_) (fun h9 => ?_)
              · refine g_tsIn 4 hC (10 : Int32) (89) 93 h9 dX3_singleGroupOf_4 (by decide) (by decide) (by decide) (by decide) ?_
                refine g_bipush 93 hC (6 : Int32) dX3_singleGroupOf_93 (by decide) ?_
                exact g_iret 95 hC dX3_singleGroupOf_95
              · skip
                refine g_byT (tR u) (fun h10 => ?_) (fun h10 => ?_)
                · refine g_tsIn 4 hC (11 : Int32) (64) 68 h10 dX3_singleGroupOf_4 (by decide) (by decide) (by decide) (by decide) ?_
                  refine g_iconst 68 hC (0 : Int32) dX3_singleGroupOf_68 (by decide) ?_
                  exact g_iret 69 hC dX3_singleGroupOf_69
                · skip
                  refine g_byT (tR u) (fun h11 => ?_) (fun h11 => ?_)
                  · refine g_tsIn 4 hC (12 : Int32) (86) 90 h11 dX3_singleGroupOf_4 (by decide) (by decide) (by decide) (by decide) ?_
                    refine g_bipush 90 hC (21 : Int32) dX3_singleGroupOf_90 (by decide) ?_
                    exact g_iret 92 hC dX3_singleGroupOf_92
                  · skip
                    refine g_byT (tR u) (fun h12 => ?_) (fun h12 => ?_)
                    · refine g_tsIn 4 hC (13 : Int32) (86) 90 h12 dX3_singleGroupOf_4 (by decide) (by decide) (by decide) (by decide) ?_
                      refine g_bipush 90 hC (21 : Int32) dX3_singleGroupOf_90 (by decide) ?_
                      exact g_iret 92 hC dX3_singleGroupOf_92
                    · skip
                      refine g_byT (tR u) (fun h13 => ?_) (fun h13 => ?_)
                      · refine g_tsIn 4 hC (14 : Int32) (86) 90 h13 dX3_singleGroupOf_4 (by decide) (by decide) (by decide) (by decide) ?_
                        refine g_bipush 90 hC (21 : Int32) dX3_singleGroupOf_90 (by decide) ?_
                        exact g_iret 92 hC dX3_singleGroupOf_92
                      · skip
                        refine g_byT (tR u) (fun h14 => ?_) (fun h14 => ?_)
                        · refine g_tsIn 4 hC (15 : Int32) (86) 90 h14 dX3_singleGroupOf_4 (by decide) (by decide) (by decide) (by decide) ?_
                          refine g_bipush 90 hC (21 : Int32) dX3_singleGroupOf_90 (by decide) ?_
                          exact g_iret 92 hC dX3_singleGroupOf_92
                        · skip
                          refine g_tsOut 4 hC 93 dX3_singleGroupOf_4 (by have n0 := lv_neT h1 (a := 4) (by decide); have n1 := lv_neT h2 (a := 5) (by decide); have n2 := lv_neT h3 (a := 6) (by decide); have n3 := lv_neT h4 (a := 7) (by decide); have n4 := lv_neT h5 (a := 8) (by decide); have n5 := lv_neT h6 (a := 9) (by decide); have n6 := lv_neT h9 (a := 10) (by decide); have n7 := lv_neT h10 (a := 11) (by decide); have n8 := lv_neT h11 (a := 12) (by decide); have n9 := lv_neT h12 (a := 13) (by decide); have n10 := lv_neT h13 (a := 14) (by decide); have n11 := lv_neT h14 (a := 15) (by decide); omega) (by decide) ?_
                          refine g_bipush 93 hC (6 : Int32) dX3_singleGroupOf_93 (by decide) ?_
                          exact g_iret 95 hC dX3_singleGroupOf_95
theorem kX3_singleGroupOf {K : KT} {E : EV} {cc : ByteArray} {nL : Nat} {own : String} {Ts : List Cond} {rm : Room} {ret : Option FieldType} {T : ST × Option Value} {u : ST} {lv : List (Nat × Value)} {rest : List Value} {idx : Nat} {a0 : Int32} (pc : Nat) (hC : Cx K E cc nL own Ts rm ret) (hT : GoodIn Ts (va_wsS own idx yX3_singleGroupOf wsX3_singleGroupOf)) (hR : rmX3_singleGroupOf.frames + 1 ≤ rm.frames ∧ 8 + (1 + 11) + rmX3_singleGroupOf.locals ≤ rm.locals) (hdg : decode cc pc = .ok (.invokestatic idx, 3)) (hcat : (rest.map fun v => v.category).sum ≤ 8) (kk : G K E nL T u (pc + 3) lv (.int (fX3_singleGroupOf a0) :: rest)) : G K E nL T u pc lv (.int a0 :: rest) := g_callS (n := 1) pc hC (As := [.int a0]) (rest := rest) (cX3_singleGroupOf_ _ (Cx.ok hC) a0 u) hT rfl rfl rfl (by decide +kernel) hR rfl rfl hcat hdg kk

def fX3_mixedGroupOf (a0 : Int32) : Int32 :=
  if ((jshr a0 (8 : Int32)) &&& (15 : Int32)) = (0 : Int32) then
    (fX3_memoryGroupOf a0)
  else
    if ((jshr a0 (8 : Int32)) &&& (15 : Int32)) = (1 : Int32) then
      (fX3_memoryGroupOf a0)
    else
      if ((jshr a0 (8 : Int32)) &&& (15 : Int32)) = (2 : Int32) then
        (fX3_memoryGroupOf a0)
      else
        if ((jshr a0 (8 : Int32)) &&& (15 : Int32)) = (3 : Int32) then
          (fX3_memoryGroupOf a0)
        else
          if ((jshr a0 (8 : Int32)) &&& (15 : Int32)) = (4 : Int32) then
            (fX3_singleGroupOf a0)
          else
            if ((jshr a0 (8 : Int32)) &&& (15 : Int32)) = (5 : Int32) then
              (fX3_singleGroupOf a0)
            else
              if ((jshr a0 (8 : Int32)) &&& (15 : Int32)) = (6 : Int32) then
                (8 : Int32)
              else
                if ((jshr a0 (8 : Int32)) &&& (15 : Int32)) = (7 : Int32) then
                  (8 : Int32)
                else
                  if ((jshr a0 (8 : Int32)) &&& (15 : Int32)) = (8 : Int32) then
                    (15 : Int32)
                  else
                    if ((jshr a0 (8 : Int32)) &&& (15 : Int32)) = (9 : Int32) then
                      (16 : Int32)
                    else
                      if ((jshr a0 (8 : Int32)) &&& (15 : Int32)) = (10 : Int32) then
                        (15 : Int32)
                      else
                        if ((jshr a0 (8 : Int32)) &&& (15 : Int32)) = (11 : Int32) then
                          (16 : Int32)
                        else
                          (3 : Int32)
abbrev rmX3_mixedGroupOf : Room := { frames := 2, cells := 0, slots := 0, locals := 41 }
set_option maxRecDepth 20000 in
theorem cX3_mixedGroupOf_ (E : EV) (hE : okE E) (a0 : Int32) (u : ST) : MX E yX3_mixedGroupOf wsX3_mixedGroupOf rmX3_mixedGroupOf [.int a0] u (tR u (fX3_mixedGroupOf a0)) := by
  refine MX.of (cc := cX3_mixedGroupOf) (maxL := 1) (ret := (some .int)) (lv := [(0, .int a0)]) hE (by decide) rfl (fun _ => rfl) (Nat.le_of_ble_eq_true rfl) rfl (fun K hC => ?_)
  unfold fX3_mixedGroupOf
  refine g_iload_n 0 hC dX3_mixedGroupOf_0 0 rfl ?_
  refine g_bipush 1 hC (8 : Int32) dX3_mixedGroupOf_1 (by decide) ?_
  refine g_ishr 3 hC dX3_mixedGroupOf_3 ?_
  refine g_bipush 4 hC (15 : Int32) dX3_mixedGroupOf_4 (by decide) ?_
  refine g_iand 6 hC dX3_mixedGroupOf_6 ?_
  refine g_byT (tR u) (fun h1 => ?_) (fun h1 => ?_)
  · refine g_tsIn 7 hC (0 : Int32) (61) 68 h1 dX3_mixedGroupOf_7 (by decide) (by decide) (by decide) (by decide) ?_
    refine g_iload_n 68 hC dX3_mixedGroupOf_68 0 rfl ?_
    refine kX3_memoryGroupOf 69 hC gX3_mixedGroupOf_X3_memoryGroupOf ⟨Nat.le_of_ble_eq_true rfl, Nat.le_of_ble_eq_true rfl⟩ dX3_mixedGroupOf_69 (Nat.le_of_ble_eq_true rfl) ?_
    exact g_iret 72 hC dX3_mixedGroupOf_72
  · skip
    refine g_byT (tR u) (fun h2 => ?_) (fun h2 => ?_)
    · refine g_tsIn 7 hC (1 : Int32) (61) 68 h2 dX3_mixedGroupOf_7 (by decide) (by decide) (by decide) (by decide) ?_
      refine g_iload_n 68 hC dX3_mixedGroupOf_68 0 rfl ?_
      refine kX3_memoryGroupOf 69 hC gX3_mixedGroupOf_X3_memoryGroupOf ⟨Nat.le_of_ble_eq_true rfl, Nat.le_of_ble_eq_true rfl⟩ dX3_mixedGroupOf_69 (Nat.le_of_ble_eq_true rfl) ?_
      exact g_iret 72 hC dX3_mixedGroupOf_72
    · skip
      refine g_byT (tR u) (fun h3 => ?_) (fun h3 => ?_)
      · refine g_tsIn 7 hC (2 : Int32) (61) 68 h3 dX3_mixedGroupOf_7 (by decide) (by decide) (by decide) (by decide) ?_
        refine g_iload_n 68 hC dX3_mixedGroupOf_68 0 rfl ?_
        refine kX3_memoryGroupOf 69 hC gX3_mixedGroupOf_X3_memoryGroupOf ⟨Nat.le_of_ble_eq_true rfl, Nat.le_of_ble_eq_true rfl⟩ dX3_mixedGroupOf_69 (Nat.le_of_ble_eq_true rfl) ?_
        exact g_iret 72 hC dX3_mixedGroupOf_72
      · skip
        refine g_byT (tR u) (fun h4 => ?_) (fun h4 => ?_)
        · refine g_tsIn 7 hC (3 : Int32) (61) 68 h4 dX3_mixedGroupOf_7 (by decide) (by decide) (by decide) (by decide) ?_
          refine g_iload_n 68 hC dX3_mixedGroupOf_68 0 rfl ?_
          refine kX3_memoryGroupOf 69 hC gX3_mixedGroupOf_X3_memoryGroupOf ⟨Nat.le_of_ble_eq_true rfl, Nat.le_of_ble_eq_true rfl⟩ dX3_mixedGroupOf_69 (Nat.le_of_ble_eq_true rfl) ?_
          exact g_iret 72 hC dX3_mixedGroupOf_72
        · skip
          refine g_byT (tR u) (fun h5 => ?_) (fun h5 => ?_)
          · refine g_tsIn 7 hC (4 : Int32) (66) 73 h5 dX3_mixedGroupOf_7 (by decide) (by decide) (by decide) (by decide) ?_
            refine g_iload_n 73 hC dX3_mixedGroupOf_73 0 rfl ?_
            refine kX3_singleGroupOf 74 hC gX3_mixedGroupOf_X3_singleGroupOf ⟨Nat.le_of_ble_eq_true rfl, Nat.le_of_ble_eq_true rfl⟩ dX3_mixedGroupOf_74 (Nat.le_of_ble_eq_true rfl) ?_
            exact g_iret 77 hC dX3_mixedGroupOf_77
          · skip
            refine g_byT (tR u) (fun h6 => ?_) (fun h6 => ?_)
            · refine g_tsIn 7 hC (5 : Int32) (66) 73 h6 dX3_mixedGroupOf_7 (by decide) (by decide) (by decide) (by decide) ?_
              refine g_iload_n 73 hC dX3_mixedGroupOf_73 0 rfl ?_
              refine kX3_singleGroupOf 74 hC gX3_mixedGroupOf_X3_singleGroupOf ⟨Nat.le_of_ble_eq_true rfl, Nat.le_of_ble_eq_true rfl⟩ dX3_mixedGroupOf_74 (Nat.le_of_ble_eq_true rfl) ?_
              exact g_iret 77 hC dX3_mixedGroupOf_77
            · skip
              refine g_byT (tR u) (fun h7 => ?_) (fun h7 => ?_)
              · refine g_tsIn 7 hC (6 : Int32) (71) 78 h7 dX3_mixedGroupOf_7 (by decide) (by decide) (by decide) (by decide) ?_
                refine g_bipush 78 hC (8 : Int32) dX3_mixedGroupOf_78 (by decide) ?_
                exact g_iret 80 hC dX3_mixedGroupOf_80
              · skip
                refine g_byT (tR u) (fun h8 => ?_) (fun h8 => ?_)
                · refine g_tsIn 7 hC (7 : Int32) (71) 78 h8 dX3_mixedGroupOf_7 (by decide) (by decide) (by decide) (by decide) ?_
                  refine g_bipush 78 hC (8 : Int32) dX3_mixedGroupOf_78 (by decide) ?_
                  exact g_iret 80 hC dX3_mixedGroupOf_80
                · skip
                  refine g_byT (tR u) (fun h9 => ?_) (fun h9 => ?_)
                  · refine g_tsIn 7 hC (8 : Int32) (74) 81 h9 dX3_mixedGroupOf_7 (by decide) (by decide) (by decide) (by decide) ?_
                    refine g_bipush 81 hC (15 : Int32) dX3_mixedGroupOf_81 (by decide) ?_
                    exact g_iret 83 hC dX3_mixedGroupOf_83
                  · skip
                    refine g_byT (tR u) (fun h10 => ?_) (fun h10 => ?_)
                    · refine g_tsIn 7 hC (9 : Int32) (77) 84 h10 dX3_mixedGroupOf_7 (by decide) (by decide) (by decide) (by decide) ?_
                      refine g_bipush 84 hC (16 : Int32) dX3_mixedGroupOf_84 (by decide) ?_
                      exact g_iret 86 hC dX3_mixedGroupOf_86
                    · skip
                      refine g_byT (tR u) (fun h11 => ?_) (fun h11 => ?_)
                      · refine g_tsIn 7 hC (10 : Int32) (74) 81 h11 dX3_mixedGroupOf_7 (by decide) (by decide) (by decide) (by decide) ?_
                        refine g_bipush 81 hC (15 : Int32) dX3_mixedGroupOf_81 (by decide) ?_
                        exact g_iret 83 hC dX3_mixedGroupOf_83
                      · skip
                        refine g_byT (tR u) (fun h12 => ?_) (fun h12 => ?_)
                        · refine g_tsIn 7 hC (11 : Int32) (77) 84 h12 dX3_mixedGroupOf_7 (by decide) (by decide) (by decide) (by decide) ?_
                          refine g_bipush 84 hC (16 : Int32) dX3_mixedGroupOf_84 (by decide) ?_
                          exact g_iret 86 hC dX3_mixedGroupOf_86
                        · skip
                          refine g_tsOut 7 hC 87 dX3_mixedGroupOf_7 (by have n0 := lv_neT h1 (a := 0) (by decide); have n1 := lv_neT h2 (a := 1) (by decide); have n2 := lv_neT h3 (a := 2) (by decide); have n3 := lv_neT h4 (a := 3) (by decide); have n4 := lv_neT h5 (a := 4) (by decide); have n5 := lv_neT h6 (a := 5) (by decide); have n6 := lv_neT h7 (a := 6) (by decide); have n7 := lv_neT h8 (a := 7) (by decide); have n8 := lv_neT h9 (a := 8) (by decide); have n9 := lv_neT h10 (a := 9) (by decide); have n10 := lv_neT h11 (a := 10) (by decide); have n11 := lv_neT h12 (a := 11) (by decide); omega) (by decide) ?_
                          refine g_iconst 87 hC (3 : Int32) dX3_mixedGroupOf_87 (by decide) ?_
                          exact g_iret 88 hC dX3_mixedGroupOf_88
theorem kX3_mixedGroupOf {K : KT} {E : EV} {cc : ByteArray} {nL : Nat} {own : String} {Ts : List Cond} {rm : Room} {ret : Option FieldType} {T : ST × Option Value} {u : ST} {lv : List (Nat × Value)} {rest : List Value} {idx : Nat} {a0 : Int32} (pc : Nat) (hC : Cx K E cc nL own Ts rm ret) (hT : GoodIn Ts (va_wsS own idx yX3_mixedGroupOf wsX3_mixedGroupOf)) (hR : rmX3_mixedGroupOf.frames + 1 ≤ rm.frames ∧ 8 + (1 + 11) + rmX3_mixedGroupOf.locals ≤ rm.locals) (hdg : decode cc pc = .ok (.invokestatic idx, 3)) (hcat : (rest.map fun v => v.category).sum ≤ 8) (kk : G K E nL T u (pc + 3) lv (.int (fX3_mixedGroupOf a0) :: rest)) : G K E nL T u pc lv (.int a0 :: rest) := g_callS (n := 1) pc hC (As := [.int a0]) (rest := rest) (cX3_mixedGroupOf_ _ (Cx.ok hC) a0 u) hT rfl rfl rfl (by decide +kernel) hR rfl rfl hcat hdg kk

def fX3_highGroupOf (a0 : Int32) : Int32 :=
  if (a0 &&& (2048 : Int32)) = 0 then
    (20 : Int32)
  else
    if (a0 &&& (8 : Int32)) = 0 then
      (if (a0 &&& (1024 : Int32)) = 0 then (18 : Int32) else (17 : Int32))
    else
      (0 : Int32)
abbrev rmX3_highGroupOf : Room := { frames := 0, cells := 0, slots := 0, locals := 0 }
set_option maxRecDepth 20000 in
theorem cX3_highGroupOf_ (E : EV) (hE : okE E) (a0 : Int32) (u : ST) : MX E yX3_highGroupOf wsX3_highGroupOf rmX3_highGroupOf [.int a0] u (tR u (fX3_highGroupOf a0)) := by
  refine MX.of (cc := cX3_highGroupOf) (maxL := 1) (ret := (some .int)) (lv := [(0, .int a0)]) hE (by decide) rfl (fun _ => rfl) (Nat.le_of_ble_eq_true rfl) rfl (fun K hC => ?_)
  unfold fX3_highGroupOf
  refine g_iload_n 0 hC dX3_highGroupOf_0 0 rfl ?_
  refine g_sipush 1 hC (2048 : Int32) dX3_highGroupOf_1 (by decide) ?_
  refine g_iand 4 hC dX3_highGroupOf_4 ?_
  refine g_if_neT (tR u) 5 hC 11 dX3_highGroupOf_5 (by decide) (fun h1 => ?_) (fun h1 => ?_)
  · skip
    refine g_iload_n 11 hC dX3_highGroupOf_11 0 rfl ?_
    refine g_bipush 12 hC (8 : Int32) dX3_highGroupOf_12 (by decide) ?_
    refine g_iand 14 hC dX3_highGroupOf_14 ?_
    refine g_if_eqT (tR u) 15 hC 20 dX3_highGroupOf_15 (by decide) (fun h2 => ?_) (fun h2 => ?_)
    · skip
      refine g_iload_n 20 hC dX3_highGroupOf_20 0 rfl ?_
      refine g_sipush 21 hC (1024 : Int32) dX3_highGroupOf_21 (by decide) ?_
      refine g_iand 24 hC dX3_highGroupOf_24 ?_
      refine g_cut 35 (if (a0 &&& (1024 : Int32)) = 0 then (18 : Int32) else (17 : Int32)) [] ?_ (fun J4 => ?_)
      · skip
        exact g_iret 35 hC dX3_highGroupOf_35
      · skip
        refine g_if_ne 25 hC 33 dX3_highGroupOf_25 (by decide) (fun h3 => ?_) (fun h3 => ?_)
        · skip
          refine g_bipush 33 hC (17 : Int32) dX3_highGroupOf_33 (by decide) ?_
          exact J4 _ (Eq.symm (if_neg h3))
        · skip
          refine g_bipush 28 hC (18 : Int32) dX3_highGroupOf_28 (by decide) ?_
          refine g_goto 30 hC 35 dX3_highGroupOf_30 (by decide) ?_
          exact J4 _ (Eq.symm (if_pos h3))
    · skip
      refine g_iconst 18 hC (0 : Int32) dX3_highGroupOf_18 (by decide) ?_
      exact g_iret 19 hC dX3_highGroupOf_19
  · skip
    refine g_bipush 8 hC (20 : Int32) dX3_highGroupOf_8 (by decide) ?_
    exact g_iret 10 hC dX3_highGroupOf_10
theorem kX3_highGroupOf {K : KT} {E : EV} {cc : ByteArray} {nL : Nat} {own : String} {Ts : List Cond} {rm : Room} {ret : Option FieldType} {T : ST × Option Value} {u : ST} {lv : List (Nat × Value)} {rest : List Value} {idx : Nat} {a0 : Int32} (pc : Nat) (hC : Cx K E cc nL own Ts rm ret) (hT : GoodIn Ts (va_wsS own idx yX3_highGroupOf wsX3_highGroupOf)) (hR : rmX3_highGroupOf.frames + 1 ≤ rm.frames ∧ 8 + (1 + 11) + rmX3_highGroupOf.locals ≤ rm.locals) (hdg : decode cc pc = .ok (.invokestatic idx, 3)) (hcat : (rest.map fun v => v.category).sum ≤ 8) (kk : G K E nL T u (pc + 3) lv (.int (fX3_highGroupOf a0) :: rest)) : G K E nL T u pc lv (.int a0 :: rest) := g_callS (n := 1) pc hC (As := [.int a0]) (rest := rest) (cX3_highGroupOf_ _ (Cx.ok hC) a0 u) hT rfl rfl rfl (by decide +kernel) hR rfl rfl hcat hdg kk

def fX3_groupOf (a0 : Int32) : Int32 :=
  if (jshr a0 (12 : Int32)) = (0 : Int32) then
    (fX3_lowGroupOf a0)
  else
    if (jshr a0 (12 : Int32)) = (1 : Int32) then
      (4 : Int32)
    else
      if (jshr a0 (12 : Int32)) = (2 : Int32) then
        (4 : Int32)
      else
        if (jshr a0 (12 : Int32)) = (3 : Int32) then
          (5 : Int32)
        else
          if (jshr a0 (12 : Int32)) = (4 : Int32) then
            (5 : Int32)
          else
            if (jshr a0 (12 : Int32)) = (5 : Int32) then
              (5 : Int32)
            else
              if (jshr a0 (12 : Int32)) = (6 : Int32) then
                (5 : Int32)
              else
                if (jshr a0 (12 : Int32)) = (7 : Int32) then
                  (5 : Int32)
                else
                  if (jshr a0 (12 : Int32)) = (8 : Int32) then
                    (12 : Int32)
                  else
                    if (jshr a0 (12 : Int32)) = (9 : Int32) then
                      (fX3_mixedGroupOf a0)
                    else
                      if (jshr a0 (12 : Int32)) = (10 : Int32) then
                        (12 : Int32)
                      else
                        if (jshr a0 (12 : Int32)) = (11 : Int32) then
                          (14 : Int32)
                        else
                          if (jshr a0 (12 : Int32)) = (12 : Int32) then
                            (19 : Int32)
                          else
                            if (jshr a0 (12 : Int32)) = (13 : Int32) then
                              (19 : Int32)
                            else
                              if (jshr a0 (12 : Int32)) = (14 : Int32) then
                                (5 : Int32)
                              else
                                if (jshr a0 (12 : Int32)) = (15 : Int32) then
                                  (fX3_highGroupOf a0)
                                else
                                  (5 : Int32)
abbrev rmX3_groupOf : Room := { frames := 3, cells := 0, slots := 0, locals := 61 }
set_option maxRecDepth 20000 in
theorem cX3_groupOf_ (E : EV) (hE : okE E) (a0 : Int32) (u : ST) : MX E yX3_groupOf wsX3_groupOf rmX3_groupOf [.int a0] u (tR u (fX3_groupOf a0)) := by
  refine MX.of (cc := cX3_groupOf) (maxL := 1) (ret := (some .int)) (lv := [(0, .int a0)]) hE (by decide) rfl (fun _ => rfl) (Nat.le_of_ble_eq_true rfl) rfl (fun K hC => ?_)
  unfold fX3_groupOf
  refine g_iload_n 0 hC dX3_groupOf_0 0 rfl ?_
  refine g_bipush 1 hC (12 : Int32) dX3_groupOf_1 (by decide) ?_
  refine g_ishr 3 hC dX3_groupOf_3 ?_
  refine g_byT (tR u) (fun h1 => ?_) (fun h1 => ?_)
  · refine g_tsIn 4 hC (0 : Int32) (80) 84 h1 dX3_groupOf_4 (by decide) (by decide) (by decide) (by decide) ?_
    refine g_iload_n 84 hC dX3_groupOf_84 0 rfl ?_
    refine kX3_lowGroupOf 85 hC gX3_groupOf_X3_lowGroupOf ⟨Nat.le_of_ble_eq_true rfl, Nat.le_of_ble_eq_true rfl⟩ dX3_groupOf_85 (Nat.le_of_ble_eq_true rfl) ?_
    exact g_iret 88 hC dX3_groupOf_88
  · skip
    refine g_byT (tR u) (fun h2 => ?_) (fun h2 => ?_)
    · refine g_tsIn 4 hC (1 : Int32) (85) 89 h2 dX3_groupOf_4 (by decide) (by decide) (by decide) (by decide) ?_
      refine g_iconst 89 hC (4 : Int32) dX3_groupOf_89 (by decide) ?_
      exact g_iret 90 hC dX3_groupOf_90
    · skip
      refine g_byT (tR u) (fun h3 => ?_) (fun h3 => ?_)
      · refine g_tsIn 4 hC (2 : Int32) (85) 89 h3 dX3_groupOf_4 (by decide) (by decide) (by decide) (by decide) ?_
        refine g_iconst 89 hC (4 : Int32) dX3_groupOf_89 (by decide) ?_
        exact g_iret 90 hC dX3_groupOf_90
      · skip
        refine g_byT (tR u) (fun h4 => ?_) (fun h4 => ?_)
        · refine g_tsIn 4 hC (3 : Int32) (106) 110 h4 dX3_groupOf_4 (by decide) (by decide) (by decide) (by decide) ?_
          refine g_iconst 110 hC (5 : Int32) dX3_groupOf_110 (by decide) ?_
          exact g_iret 111 hC dX3_groupOf_111
        · skip
          refine g_byT (tR u) (fun h5 => ?_) (fun h5 => ?_)
          · refine g_tsIn 4 hC (4 : Int32) (106) 110 h5 dX3_groupOf_4 (by decide) (by decide) (by decide) (by decide) ?_
            refine g_iconst 110 hC (5 : Int32) dX3_groupOf_110 (by decide) ?_
            exact g_iret 111 hC dX3_groupOf_111
          · skip
            refine g_byT (tR u) (fun h6 => ?_) (fun h6 => ?_)
            · refine g_tsIn 4 hC (5 : Int32) (106) 110 h6 dX3_groupOf_4 (by decide) (by decide) (by decide) (by decide) ?_
              refine g_iconst 110 hC (5 : Int32) dX3_groupOf_110 (by decide) ?_
              exact g_iret 111 hC dX3_groupOf_111
            · skip
              refine g_byT (tR u) (fun h7 => ?_) (fun h7 => ?_)
              · refine g_tsIn 4 hC (6 : Int32) (106) 110 h7 dX3_groupOf_4 (by decide) (by decide) (by decide) (by decide) ?_
                refine g_iconst 110 hC (5 : Int32) dX3_groupOf_110 (by decide) ?_
                exact g_iret 111 hC dX3_groupOf_111
              · skip
                refine g_byT (tR u) (fun h8 => ?_) (fun h8 => ?_)
                · refine g_tsIn 4 hC (7 : Int32) (106) 110 h8 dX3_groupOf_4 (by decide) (by decide) (by decide) (by decide) ?_
                  refine g_iconst 110 hC (5 : Int32) dX3_groupOf_110 (by decide) ?_
                  exact g_iret 111 hC dX3_groupOf_111
                · skip
                  refine g_byT (tR u) (fun h9 => ?_) (fun h9 => ?_)
                  · refine g_tsIn 4 hC (8 : Int32) (87) 91 h9 dX3_groupOf_4 (by decide) (by decide) (by decide) (by decide) ?_
                    refine g_bipush 91 hC (12 : Int32) dX3_groupOf_91 (by decide) ?_
                    exact g_iret 93 hC dX3_groupOf_93
                  · skip
                    refine g_byT (tR u) (fun h10 => ?_) (fun h10 => ?_)
                    · refine g_tsIn 4 hC (9 : Int32) (90) 94 h10 dX3_groupOf_4 (by decide) (by decide) (by decide) (by decide) ?_
                      refine g_iload_n 94 hC dX3_groupOf_94 0 rfl ?_
                      refine kX3_mixedGroupOf 95 hC gX3_groupOf_X3_mixedGroupOf ⟨Nat.le_of_ble_eq_true rfl, Nat.le_of_ble_eq_true rfl⟩ dX3_groupOf_95 (Nat.le_of_ble_eq_true rfl) ?_
                      exact g_iret 98 hC dX3_groupOf_98
                    · skip
                      refine g_byT (tR u) (fun h11 => ?_) (fun h11 => ?_)
                      · refine g_tsIn 4 hC (10 : Int32) (87) 91 h11 dX3_groupOf_4 (by decide) (by decide) (by decide) (by decide) ?_
                        refine g_bipush 91 hC (12 : Int32) dX3_groupOf_91 (by decide) ?_
                        exact g_iret 93 hC dX3_groupOf_93
                      · skip
                        refine g_byT (tR u) (fun h12 => ?_) (fun h12 => ?_)
                        · refine g_tsIn 4 hC (11 : Int32) (95) 99 h12 dX3_groupOf_4 (by decide) (by decide) (by decide) (by decide) ?_
                          refine g_bipush 99 hC (14 : Int32) dX3_groupOf_99 (by decide) ?_
                          exact g_iret 101 hC dX3_groupOf_101
                        · skip
                          refine g_byT (tR u) (fun h13 => ?_) (fun h13 => ?_)
                          · refine g_tsIn 4 hC (12 : Int32) (98) 102 h13 dX3_groupOf_4 (by decide) (by decide) (by decide) (by decide) ?_
                            refine g_bipush 102 hC (19 : Int32) dX3_groupOf_102 (by decide) ?_
                            exact g_iret 104 hC dX3_groupOf_104
                          · skip
                            refine g_byT (tR u) (fun h14 => ?_) (fun h14 => ?_)
                            · refine g_tsIn 4 hC (13 : Int32) (98) 102 h14 dX3_groupOf_4 (by decide) (by decide) (by decide) (by decide) ?_
                              refine g_bipush 102 hC (19 : Int32) dX3_groupOf_102 (by decide) ?_
                              exact g_iret 104 hC dX3_groupOf_104
                            · skip
                              refine g_byT (tR u) (fun h15 => ?_) (fun h15 => ?_)
                              · refine g_tsIn 4 hC (14 : Int32) (106) 110 h15 dX3_groupOf_4 (by decide) (by decide) (by decide) (by decide) ?_
                                refine g_iconst 110 hC (5 : Int32) dX3_groupOf_110 (by decide) ?_
                                exact g_iret 111 hC dX3_groupOf_111
                              · skip
                                refine g_byT (tR u) (fun h16 => ?_) (fun h16 => ?_)
                                · refine g_tsIn 4 hC (15 : Int32) (101) 105 h16 dX3_groupOf_4 (by decide) (by decide) (by decide) (by decide) ?_
                                  refine g_iload_n 105 hC dX3_groupOf_105 0 rfl ?_
                                  refine kX3_highGroupOf 106 hC gX3_groupOf_X3_highGroupOf ⟨Nat.le_of_ble_eq_true rfl, Nat.le_of_ble_eq_true rfl⟩ dX3_groupOf_106 (Nat.le_of_ble_eq_true rfl) ?_
                                  exact g_iret 109 hC dX3_groupOf_109
                                · skip
                                  refine g_tsOut 4 hC 110 dX3_groupOf_4 (by have n0 := lv_neT h1 (a := 0) (by decide); have n1 := lv_neT h2 (a := 1) (by decide); have n2 := lv_neT h3 (a := 2) (by decide); have n3 := lv_neT h4 (a := 3) (by decide); have n4 := lv_neT h5 (a := 4) (by decide); have n5 := lv_neT h6 (a := 5) (by decide); have n6 := lv_neT h7 (a := 6) (by decide); have n7 := lv_neT h8 (a := 7) (by decide); have n8 := lv_neT h9 (a := 8) (by decide); have n9 := lv_neT h10 (a := 9) (by decide); have n10 := lv_neT h11 (a := 10) (by decide); have n11 := lv_neT h12 (a := 11) (by decide); have n12 := lv_neT h13 (a := 12) (by decide); have n13 := lv_neT h14 (a := 13) (by decide); have n14 := lv_neT h15 (a := 14) (by decide); have n15 := lv_neT h16 (a := 15) (by decide); omega) (by decide) ?_
                                  refine g_iconst 110 hC (5 : Int32) dX3_groupOf_110 (by decide) ?_
                                  exact g_iret 111 hC dX3_groupOf_111
theorem kX3_groupOf {K : KT} {E : EV} {cc : ByteArray} {nL : Nat} {own : String} {Ts : List Cond} {rm : Room} {ret : Option FieldType} {T : ST × Option Value} {u : ST} {lv : List (Nat × Value)} {rest : List Value} {idx : Nat} {a0 : Int32} (pc : Nat) (hC : Cx K E cc nL own Ts rm ret) (hT : GoodIn Ts (va_wsS own idx yX3_groupOf wsX3_groupOf)) (hR : rmX3_groupOf.frames + 1 ≤ rm.frames ∧ 8 + (1 + 11) + rmX3_groupOf.locals ≤ rm.locals) (hdg : decode cc pc = .ok (.invokestatic idx, 3)) (hcat : (rest.map fun v => v.category).sum ≤ 8) (kk : G K E nL T u (pc + 3) lv (.int (fX3_groupOf a0) :: rest)) : G K E nL T u pc lv (.int a0 :: rest) := g_callS (n := 1) pc hC (As := [.int a0]) (rest := rest) (cX3_groupOf_ _ (Cx.ok hC) a0 u) hT rfl rfl rfl (by decide +kernel) hR rfl rfl hcat hdg kk

def fJ6_numberOfTrailingZeros_0f7a4 (a0 : Int32) : Int32 :=
  if 0 < ((a0 ^^^ (-1 : Int32)) &&& (a0 - (1 : Int32))) then
    if ((a0 ^^^ (-1 : Int32)) &&& (a0 - (1 : Int32))) ≤ (65536 : Int32) then
      if ((a0 ^^^ (-1 : Int32)) &&& (a0 - (1 : Int32))) ≤ (256 : Int32) then
        if ((a0 ^^^ (-1 : Int32)) &&& (a0 - (1 : Int32))) ≤ (16 : Int32) then
          if ((a0 ^^^ (-1 : Int32)) &&& (a0 - (1 : Int32))) ≤ (4 : Int32) then
            ((1 : Int32) + (jushr ((a0 ^^^ (-1 : Int32)) &&& (a0 - (1 : Int32))) (1 : Int32)))
          else
            (((1 : Int32) + (2 : Int32)) + (jushr (jushr ((a0 ^^^ (-1 : Int32)) &&& (a0 - (1 : Int32))) (2 : Int32)) (1 : Int32)))
        else
          if (jushr ((a0 ^^^ (-1 : Int32)) &&& (a0 - (1 : Int32))) (4 : Int32)) ≤ (4 : Int32) then
            (((1 : Int32) + (4 : Int32)) + (jushr (jushr ((a0 ^^^ (-1 : Int32)) &&& (a0 - (1 : Int32))) (4 : Int32)) (1 : Int32)))
          else
            ((((1 : Int32) + (4 : Int32)) + (2 : Int32)) + (jushr (jushr (jushr ((a0 ^^^ (-1 : Int32)) &&& (a0 - (1 : Int32))) (4 : Int32)) (2 : Int32)) (1 : Int32)))
      else
        if (jushr ((a0 ^^^ (-1 : Int32)) &&& (a0 - (1 : Int32))) (8 : Int32)) ≤ (16 : Int32) then
          if (jushr ((a0 ^^^ (-1 : Int32)) &&& (a0 - (1 : Int32))) (8 : Int32)) ≤ (4 : Int32) then
            (((1 : Int32) + (8 : Int32)) + (jushr (jushr ((a0 ^^^ (-1 : Int32)) &&& (a0 - (1 : Int32))) (8 : Int32)) (1 : Int32)))
          else
            ((((1 : Int32) + (8 : Int32)) + (2 : Int32)) + (jushr (jushr (jushr ((a0 ^^^ (-1 : Int32)) &&& (a0 - (1 : Int32))) (8 : Int32)) (2 : Int32)) (1 : Int32)))
        else
          if (jushr (jushr ((a0 ^^^ (-1 : Int32)) &&& (a0 - (1 : Int32))) (8 : Int32)) (4 : Int32)) ≤ (4 : Int32) then
            ((((1 : Int32) + (8 : Int32)) + (4 : Int32)) + (jushr (jushr (jushr ((a0 ^^^ (-1 : Int32)) &&& (a0 - (1 : Int32))) (8 : Int32)) (4 : Int32)) (1 : Int32)))
          else
            (((((1 : Int32) + (8 : Int32)) + (4 : Int32)) + (2 : Int32)) + (jushr (jushr (jushr (jushr ((a0 ^^^ (-1 : Int32)) &&& (a0 - (1 : Int32))) (8 : Int32)) (4 : Int32)) (2 : Int32)) (1 : Int32)))
    else
      if (jushr ((a0 ^^^ (-1 : Int32)) &&& (a0 - (1 : Int32))) (16 : Int32)) ≤ (256 : Int32) then
        if (jushr ((a0 ^^^ (-1 : Int32)) &&& (a0 - (1 : Int32))) (16 : Int32)) ≤ (16 : Int32) then
          if (jushr ((a0 ^^^ (-1 : Int32)) &&& (a0 - (1 : Int32))) (16 : Int32)) ≤ (4 : Int32) then
            (((1 : Int32) + (16 : Int32)) + (jushr (jushr ((a0 ^^^ (-1 : Int32)) &&& (a0 - (1 : Int32))) (16 : Int32)) (1 : Int32)))
          else
            ((((1 : Int32) + (16 : Int32)) + (2 : Int32)) + (jushr (jushr (jushr ((a0 ^^^ (-1 : Int32)) &&& (a0 - (1 : Int32))) (16 : Int32)) (2 : Int32)) (1 : Int32)))
        else
          if (jushr (jushr ((a0 ^^^ (-1 : Int32)) &&& (a0 - (1 : Int32))) (16 : Int32)) (4 : Int32)) ≤ (4 : Int32) then
            ((((1 : Int32) + (16 : Int32)) + (4 : Int32)) + (jushr (jushr (jushr ((a0 ^^^ (-1 : Int32)) &&& (a0 - (1 : Int32))) (16 : Int32)) (4 : Int32)) (1 : Int32)))
          else
            (((((1 : Int32) + (16 : Int32)) + (4 : Int32)) + (2 : Int32)) + (jushr (jushr (jushr (jushr ((a0 ^^^ (-1 : Int32)) &&& (a0 - (1 : Int32))) (16 : Int32)) (4 : Int32)) (2 : Int32)) (1 : Int32)))
      else
        if (jushr (jushr ((a0 ^^^ (-1 : Int32)) &&& (a0 - (1 : Int32))) (16 : Int32)) (8 : Int32)) ≤ (16 : Int32) then
          if (jushr (jushr ((a0 ^^^ (-1 : Int32)) &&& (a0 - (1 : Int32))) (16 : Int32)) (8 : Int32)) ≤ (4 : Int32) then
            ((((1 : Int32) + (16 : Int32)) + (8 : Int32)) + (jushr (jushr (jushr ((a0 ^^^ (-1 : Int32)) &&& (a0 - (1 : Int32))) (16 : Int32)) (8 : Int32)) (1 : Int32)))
          else
            (((((1 : Int32) + (16 : Int32)) + (8 : Int32)) + (2 : Int32)) + (jushr (jushr (jushr (jushr ((a0 ^^^ (-1 : Int32)) &&& (a0 - (1 : Int32))) (16 : Int32)) (8 : Int32)) (2 : Int32)) (1 : Int32)))
        else
          if (jushr (jushr (jushr ((a0 ^^^ (-1 : Int32)) &&& (a0 - (1 : Int32))) (16 : Int32)) (8 : Int32)) (4 : Int32)) ≤ (4 : Int32) then
            (((((1 : Int32) + (16 : Int32)) + (8 : Int32)) + (4 : Int32)) + (jushr (jushr (jushr (jushr ((a0 ^^^ (-1 : Int32)) &&& (a0 - (1 : Int32))) (16 : Int32)) (8 : Int32)) (4 : Int32)) (1 : Int32)))
          else
            ((((((1 : Int32) + (16 : Int32)) + (8 : Int32)) + (4 : Int32)) + (2 : Int32)) + (jushr (jushr (jushr (jushr (jushr ((a0 ^^^ (-1 : Int32)) &&& (a0 - (1 : Int32))) (16 : Int32)) (8 : Int32)) (4 : Int32)) (2 : Int32)) (1 : Int32)))
  else
    (((a0 ^^^ (-1 : Int32)) &&& (a0 - (1 : Int32))) &&& (32 : Int32))
theorem cmJ6_numberOfTrailingZeros_0f7a4_264 : Jvm.Cond.constant RJ6 264 (65536 : Int32) ∈ wsJ6_numberOfTrailingZeros_0f7a4 := List.mem_of_getElem? (i := 1) rfl
abbrev rmJ6_numberOfTrailingZeros_0f7a4 : Room := { frames := 0, cells := 0, slots := 0, locals := 0 }
set_option maxRecDepth 20000 in
theorem cJ6_numberOfTrailingZeros_0f7a4_ (E : EV) (hE : okE E) (a0 : Int32) (u : ST) : MX E yJ6_numberOfTrailingZeros_0f7a4 wsJ6_numberOfTrailingZeros_0f7a4 rmJ6_numberOfTrailingZeros_0f7a4 [.int a0] u (tR u (fJ6_numberOfTrailingZeros_0f7a4 a0)) := by
  refine MX.of (cc := cJ6_numberOfTrailingZeros_0f7a4) (maxL := 2) (ret := (some .int)) (lv := [(0, .int a0)]) hE (by decide) rfl (fun _ => rfl) (Nat.le_of_ble_eq_true rfl) rfl (fun K hC => ?_)
  unfold fJ6_numberOfTrailingZeros_0f7a4
  refine g_iload_n 0 hC dJ6_numberOfTrailingZeros_0f7a4_0 0 rfl ?_
  refine g_iconst 1 hC (-1 : Int32) dJ6_numberOfTrailingZeros_0f7a4_1 (by decide) ?_
  refine g_ixor 2 hC dJ6_numberOfTrailingZeros_0f7a4_2 ?_
  refine g_iload_n 3 hC dJ6_numberOfTrailingZeros_0f7a4_3 0 rfl ?_
  refine g_iconst 4 hC (1 : Int32) dJ6_numberOfTrailingZeros_0f7a4_4 (by decide) ?_
  refine g_isub 5 hC dJ6_numberOfTrailingZeros_0f7a4_5 ?_
  refine g_iand 6 hC dJ6_numberOfTrailingZeros_0f7a4_6 ?_
  refine g_istore_n 7 hC dJ6_numberOfTrailingZeros_0f7a4_7 (by decide) [(0, .int (((a0 ^^^ (-1 : Int32)) &&& (a0 - (1 : Int32)))))] rfl ?_
  refine g_iload_n 8 hC dJ6_numberOfTrailingZeros_0f7a4_8 0 rfl ?_
  refine g_if_gtT (tR u) 9 hC 17 dJ6_numberOfTrailingZeros_0f7a4_9 (by decide) (fun h1 => ?_) (fun h1 => ?_)
  · skip
    refine g_iconst 17 hC (1 : Int32) dJ6_numberOfTrailingZeros_0f7a4_17 (by decide) ?_
    refine g_istore_n 18 hC dJ6_numberOfTrailingZeros_0f7a4_18 (by decide) [(1, .int ((1 : Int32))), (0, .int (((a0 ^^^ (-1 : Int32)) &&& (a0 - (1 : Int32)))))] rfl ?_
    refine g_iload_n 19 hC dJ6_numberOfTrailingZeros_0f7a4_19 1 rfl ?_
    refine g_ldc_w 20 hC (65536 : Int32) dJ6_numberOfTrailingZeros_0f7a4_20 cmJ6_numberOfTrailingZeros_0f7a4_264 ?_
    refine g_icmp_leT (tR u) 23 hC 34 dJ6_numberOfTrailingZeros_0f7a4_23 (by decide) (fun h2 => ?_) (fun h2 => ?_)
    · skip
      refine g_iload_n 34 hC dJ6_numberOfTrailingZeros_0f7a4_34 1 rfl ?_
      refine g_sipush 35 hC (256 : Int32) dJ6_numberOfTrailingZeros_0f7a4_35 (by decide) ?_
      refine g_icmp_leT (tR u) 38 hC 49 dJ6_numberOfTrailingZeros_0f7a4_38 (by decide) (fun h3 => ?_) (fun h3 => ?_)
      · skip
        refine g_iload_n 49 hC dJ6_numberOfTrailingZeros_0f7a4_49 1 rfl ?_
        refine g_bipush 50 hC (16 : Int32) dJ6_numberOfTrailingZeros_0f7a4_50 (by decide) ?_
        refine g_icmp_leT (tR u) 52 hC 62 dJ6_numberOfTrailingZeros_0f7a4_52 (by decide) (fun h4 => ?_) (fun h4 => ?_)
        · skip
          refine g_iload_n 62 hC dJ6_numberOfTrailingZeros_0f7a4_62 1 rfl ?_
          refine g_iconst 63 hC (4 : Int32) dJ6_numberOfTrailingZeros_0f7a4_63 (by decide) ?_
          refine g_icmp_leT (tR u) 64 hC 74 dJ6_numberOfTrailingZeros_0f7a4_64 (by decide) (fun h5 => ?_) (fun h5 => ?_)
          · skip
            refine g_iload_n 74 hC dJ6_numberOfTrailingZeros_0f7a4_74 0 rfl ?_
            refine g_iload_n 75 hC dJ6_numberOfTrailingZeros_0f7a4_75 1 rfl ?_
            refine g_iconst 76 hC (1 : Int32) dJ6_numberOfTrailingZeros_0f7a4_76 (by decide) ?_
            refine g_iushr 77 hC dJ6_numberOfTrailingZeros_0f7a4_77 ?_
            refine g_iadd 78 hC dJ6_numberOfTrailingZeros_0f7a4_78 ?_
            exact g_iret 79 hC dJ6_numberOfTrailingZeros_0f7a4_79
          · skip
            refine g_iinc 67 hC ((1 : Int32) + (2 : Int32)) dJ6_numberOfTrailingZeros_0f7a4_67 (by decide) 0 rfl rfl [(1, .int (((1 : Int32) + (2 : Int32)))), (0, .int (((a0 ^^^ (-1 : Int32)) &&& (a0 - (1 : Int32)))))] rfl ?_
            refine g_iload_n 70 hC dJ6_numberOfTrailingZeros_0f7a4_70 1 rfl ?_
            refine g_iconst 71 hC (2 : Int32) dJ6_numberOfTrailingZeros_0f7a4_71 (by decide) ?_
            refine g_iushr 72 hC dJ6_numberOfTrailingZeros_0f7a4_72 ?_
            refine g_istore_n 73 hC dJ6_numberOfTrailingZeros_0f7a4_73 (by decide) [(0, .int ((jushr ((a0 ^^^ (-1 : Int32)) &&& (a0 - (1 : Int32))) (2 : Int32)))), (1, .int (((1 : Int32) + (2 : Int32))))] rfl ?_
            refine g_iload_n 74 hC dJ6_numberOfTrailingZeros_0f7a4_74 1 rfl ?_
            refine g_iload_n 75 hC dJ6_numberOfTrailingZeros_0f7a4_75 0 rfl ?_
            refine g_iconst 76 hC (1 : Int32) dJ6_numberOfTrailingZeros_0f7a4_76 (by decide) ?_
            refine g_iushr 77 hC dJ6_numberOfTrailingZeros_0f7a4_77 ?_
            refine g_iadd 78 hC dJ6_numberOfTrailingZeros_0f7a4_78 ?_
            exact g_iret 79 hC dJ6_numberOfTrailingZeros_0f7a4_79
        · skip
          refine g_iinc 55 hC ((1 : Int32) + (4 : Int32)) dJ6_numberOfTrailingZeros_0f7a4_55 (by decide) 0 rfl rfl [(1, .int (((1 : Int32) + (4 : Int32)))), (0, .int (((a0 ^^^ (-1 : Int32)) &&& (a0 - (1 : Int32)))))] rfl ?_
          refine g_iload_n 58 hC dJ6_numberOfTrailingZeros_0f7a4_58 1 rfl ?_
          refine g_iconst 59 hC (4 : Int32) dJ6_numberOfTrailingZeros_0f7a4_59 (by decide) ?_
          refine g_iushr 60 hC dJ6_numberOfTrailingZeros_0f7a4_60 ?_
          refine g_istore_n 61 hC dJ6_numberOfTrailingZeros_0f7a4_61 (by decide) [(0, .int ((jushr ((a0 ^^^ (-1 : Int32)) &&& (a0 - (1 : Int32))) (4 : Int32)))), (1, .int (((1 : Int32) + (4 : Int32))))] rfl ?_
          refine g_iload_n 62 hC dJ6_numberOfTrailingZeros_0f7a4_62 0 rfl ?_
          refine g_iconst 63 hC (4 : Int32) dJ6_numberOfTrailingZeros_0f7a4_63 (by decide) ?_
          refine g_icmp_leT (tR u) 64 hC 74 dJ6_numberOfTrailingZeros_0f7a4_64 (by decide) (fun h6 => ?_) (fun h6 => ?_)
          · skip
            refine g_iload_n 74 hC dJ6_numberOfTrailingZeros_0f7a4_74 1 rfl ?_
            refine g_iload_n 75 hC dJ6_numberOfTrailingZeros_0f7a4_75 0 rfl ?_
            refine g_iconst 76 hC (1 : Int32) dJ6_numberOfTrailingZeros_0f7a4_76 (by decide) ?_
            refine g_iushr 77 hC dJ6_numberOfTrailingZeros_0f7a4_77 ?_
            refine g_iadd 78 hC dJ6_numberOfTrailingZeros_0f7a4_78 ?_
            exact g_iret 79 hC dJ6_numberOfTrailingZeros_0f7a4_79
          · skip
            refine g_iinc 67 hC (((1 : Int32) + (4 : Int32)) + (2 : Int32)) dJ6_numberOfTrailingZeros_0f7a4_67 (by decide) 1 rfl rfl [(1, .int ((((1 : Int32) + (4 : Int32)) + (2 : Int32)))), (0, .int ((jushr ((a0 ^^^ (-1 : Int32)) &&& (a0 - (1 : Int32))) (4 : Int32))))] rfl ?_
            refine g_iload_n 70 hC dJ6_numberOfTrailingZeros_0f7a4_70 1 rfl ?_
            refine g_iconst 71 hC (2 : Int32) dJ6_numberOfTrailingZeros_0f7a4_71 (by decide) ?_
            refine g_iushr 72 hC dJ6_numberOfTrailingZeros_0f7a4_72 ?_
            refine g_istore_n 73 hC dJ6_numberOfTrailingZeros_0f7a4_73 (by decide) [(0, .int ((jushr (jushr ((a0 ^^^ (-1 : Int32)) &&& (a0 - (1 : Int32))) (4 : Int32)) (2 : Int32)))), (1, .int ((((1 : Int32) + (4 : Int32)) + (2 : Int32))))] rfl ?_
            refine g_iload_n 74 hC dJ6_numberOfTrailingZeros_0f7a4_74 1 rfl ?_
            refine g_iload_n 75 hC dJ6_numberOfTrailingZeros_0f7a4_75 0 rfl ?_
            refine g_iconst 76 hC (1 : Int32) dJ6_numberOfTrailingZeros_0f7a4_76 (by decide) ?_
            refine g_iushr 77 hC dJ6_numberOfTrailingZeros_0f7a4_77 ?_
            refine g_iadd 78 hC dJ6_numberOfTrailingZeros_0f7a4_78 ?_
            exact g_iret 79 hC dJ6_numberOfTrailingZeros_0f7a4_79
      · skip
        refine g_iinc 41 hC ((1 : Int32) + (8 : Int32)) dJ6_numberOfTrailingZeros_0f7a4_41 (by decide) 0 rfl rfl [(1, .int (((1 : Int32) + (8 : Int32)))), (0, .int (((a0 ^^^ (-1 : Int32)) &&& (a0 - (1 : Int32)))))] rfl ?_
        refine g_iload_n 44 hC dJ6_numberOfTrailingZeros_0f7a4_44 1 rfl ?_
        refine g_bipush 45 hC (8 : Int32) dJ6_numberOfTrailingZeros_0f7a4_45 (by decide) ?_
        refine g_iushr 47 hC dJ6_numberOfTrailingZeros_0f7a4_47 ?_
        refine g_istore_n 48 hC dJ6_numberOfTrailingZeros_0f7a4_48 (by decide) [(0, .int ((jushr ((a0 ^^^ (-1 : Int32)) &&& (a0 - (1 : Int32))) (8 : Int32)))), (1, .int (((1 : Int32) + (8 : Int32))))] rfl ?_
        refine g_iload_n 49 hC dJ6_numberOfTrailingZeros_0f7a4_49 0 rfl ?_
        refine g_bipush 50 hC (16 : Int32) dJ6_numberOfTrailingZeros_0f7a4_50 (by decide) ?_
        refine g_icmp_leT (tR u) 52 hC 62 dJ6_numberOfTrailingZeros_0f7a4_52 (by decide) (fun h7 => ?_) (fun h7 => ?_)
        · skip
          refine g_iload_n 62 hC dJ6_numberOfTrailingZeros_0f7a4_62 0 rfl ?_
          refine g_iconst 63 hC (4 : Int32) dJ6_numberOfTrailingZeros_0f7a4_63 (by decide) ?_
          refine g_icmp_leT (tR u) 64 hC 74 dJ6_numberOfTrailingZeros_0f7a4_64 (by decide) (fun h8 => ?_) (fun h8 => ?_)
          · skip
            refine g_iload_n 74 hC dJ6_numberOfTrailingZeros_0f7a4_74 1 rfl ?_
            refine g_iload_n 75 hC dJ6_numberOfTrailingZeros_0f7a4_75 0 rfl ?_
            refine g_iconst 76 hC (1 : Int32) dJ6_numberOfTrailingZeros_0f7a4_76 (by decide) ?_
            refine g_iushr 77 hC dJ6_numberOfTrailingZeros_0f7a4_77 ?_
            refine g_iadd 78 hC dJ6_numberOfTrailingZeros_0f7a4_78 ?_
            exact g_iret 79 hC dJ6_numberOfTrailingZeros_0f7a4_79
          · skip
            refine g_iinc 67 hC (((1 : Int32) + (8 : Int32)) + (2 : Int32)) dJ6_numberOfTrailingZeros_0f7a4_67 (by decide) 1 rfl rfl [(1, .int ((((1 : Int32) + (8 : Int32)) + (2 : Int32)))), (0, .int ((jushr ((a0 ^^^ (-1 : Int32)) &&& (a0 - (1 : Int32))) (8 : Int32))))] rfl ?_
            refine g_iload_n 70 hC dJ6_numberOfTrailingZeros_0f7a4_70 1 rfl ?_
            refine g_iconst 71 hC (2 : Int32) dJ6_numberOfTrailingZeros_0f7a4_71 (by decide) ?_
            refine g_iushr 72 hC dJ6_numberOfTrailingZeros_0f7a4_72 ?_
            refine g_istore_n 73 hC dJ6_numberOfTrailingZeros_0f7a4_73 (by decide) [(0, .int ((jushr (jushr ((a0 ^^^ (-1 : Int32)) &&& (a0 - (1 : Int32))) (8 : Int32)) (2 : Int32)))), (1, .int ((((1 : Int32) + (8 : Int32)) + (2 : Int32))))] rfl ?_
            refine g_iload_n 74 hC dJ6_numberOfTrailingZeros_0f7a4_74 1 rfl ?_
            refine g_iload_n 75 hC dJ6_numberOfTrailingZeros_0f7a4_75 0 rfl ?_
            refine g_iconst 76 hC (1 : Int32) dJ6_numberOfTrailingZeros_0f7a4_76 (by decide) ?_
            refine g_iushr 77 hC dJ6_numberOfTrailingZeros_0f7a4_77 ?_
            refine g_iadd 78 hC dJ6_numberOfTrailingZeros_0f7a4_78 ?_
            exact g_iret 79 hC dJ6_numberOfTrailingZeros_0f7a4_79
        · skip
          refine g_iinc 55 hC (((1 : Int32) + (8 : Int32)) + (4 : Int32)) dJ6_numberOfTrailingZeros_0f7a4_55 (by decide) 1 rfl rfl [(1, .int ((((1 : Int32) + (8 : Int32)) + (4 : Int32)))), (0, .int ((jushr ((a0 ^^^ (-1 : Int32)) &&& (a0 - (1 : Int32))) (8 : Int32))))] rfl ?_
          refine g_iload_n 58 hC dJ6_numberOfTrailingZeros_0f7a4_58 1 rfl ?_
          refine g_iconst 59 hC (4 : Int32) dJ6_numberOfTrailingZeros_0f7a4_59 (by decide) ?_
          refine g_iushr 60 hC dJ6_numberOfTrailingZeros_0f7a4_60 ?_
          refine g_istore_n 61 hC dJ6_numberOfTrailingZeros_0f7a4_61 (by decide) [(0, .int ((jushr (jushr ((a0 ^^^ (-1 : Int32)) &&& (a0 - (1 : Int32))) (8 : Int32)) (4 : Int32)))), (1, .int ((((1 : Int32) + (8 : Int32)) + (4 : Int32))))] rfl ?_
          refine g_iload_n 62 hC dJ6_numberOfTrailingZeros_0f7a4_62 0 rfl ?_
          refine g_iconst 63 hC (4 : Int32) dJ6_numberOfTrailingZeros_0f7a4_63 (by decide) ?_
          refine g_icmp_leT (tR u) 64 hC 74 dJ6_numberOfTrailingZeros_0f7a4_64 (by decide) (fun h9 => ?_) (fun h9 => ?_)
          · skip
            refine g_iload_n 74 hC dJ6_numberOfTrailingZeros_0f7a4_74 1 rfl ?_
            refine g_iload_n 75 hC dJ6_numberOfTrailingZeros_0f7a4_75 0 rfl ?_
            refine g_iconst 76 hC (1 : Int32) dJ6_numberOfTrailingZeros_0f7a4_76 (by decide) ?_
            refine g_iushr 77 hC dJ6_numberOfTrailingZeros_0f7a4_77 ?_
            refine g_iadd 78 hC dJ6_numberOfTrailingZeros_0f7a4_78 ?_
            exact g_iret 79 hC dJ6_numberOfTrailingZeros_0f7a4_79
          · skip
            refine g_iinc 67 hC ((((1 : Int32) + (8 : Int32)) + (4 : Int32)) + (2 : Int32)) dJ6_numberOfTrailingZeros_0f7a4_67 (by decide) 1 rfl rfl [(1, .int (((((1 : Int32) + (8 : Int32)) + (4 : Int32)) + (2 : Int32)))), (0, .int ((jushr (jushr ((a0 ^^^ (-1 : Int32)) &&& (a0 - (1 : Int32))) (8 : Int32)) (4 : Int32))))] rfl ?_
            refine g_iload_n 70 hC dJ6_numberOfTrailingZeros_0f7a4_70 1 rfl ?_
            refine g_iconst 71 hC (2 : Int32) dJ6_numberOfTrailingZeros_0f7a4_71 (by decide) ?_
            refine g_iushr 72 hC dJ6_numberOfTrailingZeros_0f7a4_72 ?_
            refine g_istore_n 73 hC dJ6_numberOfTrailingZeros_0f7a4_73 (by decide) [(0, .int ((jushr (jushr (jushr ((a0 ^^^ (-1 : Int32)) &&& (a0 - (1 : Int32))) (8 : Int32)) (4 : Int32)) (2 : Int32)))), (1, .int (((((1 : Int32) + (8 : Int32)) + (4 : Int32)) + (2 : Int32))))] rfl ?_
            refine g_iload_n 74 hC dJ6_numberOfTrailingZeros_0f7a4_74 1 rfl ?_
            refine g_iload_n 75 hC dJ6_numberOfTrailingZeros_0f7a4_75 0 rfl ?_
            refine g_iconst 76 hC (1 : Int32) dJ6_numberOfTrailingZeros_0f7a4_76 (by decide) ?_
            refine g_iushr 77 hC dJ6_numberOfTrailingZeros_0f7a4_77 ?_
            refine g_iadd 78 hC dJ6_numberOfTrailingZeros_0f7a4_78 ?_
            exact g_iret 79 hC dJ6_numberOfTrailingZeros_0f7a4_79
    · skip
      refine g_iinc 26 hC ((1 : Int32) + (16 : Int32)) dJ6_numberOfTrailingZeros_0f7a4_26 (by decide) 0 rfl rfl [(1, .int (((1 : Int32) + (16 : Int32)))), (0, .int (((a0 ^^^ (-1 : Int32)) &&& (a0 - (1 : Int32)))))] rfl ?_
      refine g_iload_n 29 hC dJ6_numberOfTrailingZeros_0f7a4_29 1 rfl ?_
      refine g_bipush 30 hC (16 : Int32) dJ6_numberOfTrailingZeros_0f7a4_30 (by decide) ?_
      refine g_iushr 32 hC dJ6_numberOfTrailingZeros_0f7a4_32 ?_
      refine g_istore_n 33 hC dJ6_numberOfTrailingZeros_0f7a4_33 (by decide) [(0, .int ((jushr ((a0 ^^^ (-1 : Int32)) &&& (a0 - (1 : Int32))) (16 : Int32)))), (1, .int (((1 : Int32) + (16 : Int32))))] rfl ?_
      refine g_iload_n 34 hC dJ6_numberOfTrailingZeros_0f7a4_34 0 rfl ?_
      refine g_sipush 35 hC (256 : Int32) dJ6_numberOfTrailingZeros_0f7a4_35 (by decide) ?_
      refine g_icmp_leT (tR u) 38 hC 49 dJ6_numberOfTrailingZeros_0f7a4_38 (by decide) (fun h10 => ?_) (fun h10 => ?_)
      · skip
        refine g_iload_n 49 hC dJ6_numberOfTrailingZeros_0f7a4_49 0 rfl ?_
        refine g_bipush 50 hC (16 : Int32) dJ6_numberOfTrailingZeros_0f7a4_50 (by decide) ?_
        refine g_icmp_leT (tR u) 52 hC 62 dJ6_numberOfTrailingZeros_0f7a4_52 (by decide) (fun h11 => ?_) (fun h11 => ?_)
        · skip
          refine g_iload_n 62 hC dJ6_numberOfTrailingZeros_0f7a4_62 0 rfl ?_
          refine g_iconst 63 hC (4 : Int32) dJ6_numberOfTrailingZeros_0f7a4_63 (by decide) ?_
          refine g_icmp_leT (tR u) 64 hC 74 dJ6_numberOfTrailingZeros_0f7a4_64 (by decide) (fun h12 => ?_) (fun h12 => ?_)
          · skip
            refine g_iload_n 74 hC dJ6_numberOfTrailingZeros_0f7a4_74 1 rfl ?_
            refine g_iload_n 75 hC dJ6_numberOfTrailingZeros_0f7a4_75 0 rfl ?_
            refine g_iconst 76 hC (1 : Int32) dJ6_numberOfTrailingZeros_0f7a4_76 (by decide) ?_
            refine g_iushr 77 hC dJ6_numberOfTrailingZeros_0f7a4_77 ?_
            refine g_iadd 78 hC dJ6_numberOfTrailingZeros_0f7a4_78 ?_
            exact g_iret 79 hC dJ6_numberOfTrailingZeros_0f7a4_79
          · skip
            refine g_iinc 67 hC (((1 : Int32) + (16 : Int32)) + (2 : Int32)) dJ6_numberOfTrailingZeros_0f7a4_67 (by decide) 1 rfl rfl [(1, .int ((((1 : Int32) + (16 : Int32)) + (2 : Int32)))), (0, .int ((jushr ((a0 ^^^ (-1 : Int32)) &&& (a0 - (1 : Int32))) (16 : Int32))))] rfl ?_
            refine g_iload_n 70 hC dJ6_numberOfTrailingZeros_0f7a4_70 1 rfl ?_
            refine g_iconst 71 hC (2 : Int32) dJ6_numberOfTrailingZeros_0f7a4_71 (by decide) ?_
            refine g_iushr 72 hC dJ6_numberOfTrailingZeros_0f7a4_72 ?_
            refine g_istore_n 73 hC dJ6_numberOfTrailingZeros_0f7a4_73 (by decide) [(0, .int ((jushr (jushr ((a0 ^^^ (-1 : Int32)) &&& (a0 - (1 : Int32))) (16 : Int32)) (2 : Int32)))), (1, .int ((((1 : Int32) + (16 : Int32)) + (2 : Int32))))] rfl ?_
            refine g_iload_n 74 hC dJ6_numberOfTrailingZeros_0f7a4_74 1 rfl ?_
            refine g_iload_n 75 hC dJ6_numberOfTrailingZeros_0f7a4_75 0 rfl ?_
            refine g_iconst 76 hC (1 : Int32) dJ6_numberOfTrailingZeros_0f7a4_76 (by decide) ?_
            refine g_iushr 77 hC dJ6_numberOfTrailingZeros_0f7a4_77 ?_
            refine g_iadd 78 hC dJ6_numberOfTrailingZeros_0f7a4_78 ?_
            exact g_iret 79 hC dJ6_numberOfTrailingZeros_0f7a4_79
        · skip
          refine g_iinc 55 hC (((1 : Int32) + (16 : Int32)) + (4 : Int32)) dJ6_numberOfTrailingZeros_0f7a4_55 (by decide) 1 rfl rfl [(1, .int ((((1 : Int32) + (16 : Int32)) + (4 : Int32)))), (0, .int ((jushr ((a0 ^^^ (-1 : Int32)) &&& (a0 - (1 : Int32))) (16 : Int32))))] rfl ?_
          refine g_iload_n 58 hC dJ6_numberOfTrailingZeros_0f7a4_58 1 rfl ?_
          refine g_iconst 59 hC (4 : Int32) dJ6_numberOfTrailingZeros_0f7a4_59 (by decide) ?_
          refine g_iushr 60 hC dJ6_numberOfTrailingZeros_0f7a4_60 ?_
          refine g_istore_n 61 hC dJ6_numberOfTrailingZeros_0f7a4_61 (by decide) [(0, .int ((jushr (jushr ((a0 ^^^ (-1 : Int32)) &&& (a0 - (1 : Int32))) (16 : Int32)) (4 : Int32)))), (1, .int ((((1 : Int32) + (16 : Int32)) + (4 : Int32))))] rfl ?_
          refine g_iload_n 62 hC dJ6_numberOfTrailingZeros_0f7a4_62 0 rfl ?_
          refine g_iconst 63 hC (4 : Int32) dJ6_numberOfTrailingZeros_0f7a4_63 (by decide) ?_
          refine g_icmp_leT (tR u) 64 hC 74 dJ6_numberOfTrailingZeros_0f7a4_64 (by decide) (fun h13 => ?_) (fun h13 => ?_)
          · skip
            refine g_iload_n 74 hC dJ6_numberOfTrailingZeros_0f7a4_74 1 rfl ?_
            refine g_iload_n 75 hC dJ6_numberOfTrailingZeros_0f7a4_75 0 rfl ?_
            refine g_iconst 76 hC (1 : Int32) dJ6_numberOfTrailingZeros_0f7a4_76 (by decide) ?_
            refine g_iushr 77 hC dJ6_numberOfTrailingZeros_0f7a4_77 ?_
            refine g_iadd 78 hC dJ6_numberOfTrailingZeros_0f7a4_78 ?_
            exact g_iret 79 hC dJ6_numberOfTrailingZeros_0f7a4_79
          · skip
            refine g_iinc 67 hC ((((1 : Int32) + (16 : Int32)) + (4 : Int32)) + (2 : Int32)) dJ6_numberOfTrailingZeros_0f7a4_67 (by decide) 1 rfl rfl [(1, .int (((((1 : Int32) + (16 : Int32)) + (4 : Int32)) + (2 : Int32)))), (0, .int ((jushr (jushr ((a0 ^^^ (-1 : Int32)) &&& (a0 - (1 : Int32))) (16 : Int32)) (4 : Int32))))] rfl ?_
            refine g_iload_n 70 hC dJ6_numberOfTrailingZeros_0f7a4_70 1 rfl ?_
            refine g_iconst 71 hC (2 : Int32) dJ6_numberOfTrailingZeros_0f7a4_71 (by decide) ?_
            refine g_iushr 72 hC dJ6_numberOfTrailingZeros_0f7a4_72 ?_
            refine g_istore_n 73 hC dJ6_numberOfTrailingZeros_0f7a4_73 (by decide) [(0, .int ((jushr (jushr (jushr ((a0 ^^^ (-1 : Int32)) &&& (a0 - (1 : Int32))) (16 : Int32)) (4 : Int32)) (2 : Int32)))), (1, .int (((((1 : Int32) + (16 : Int32)) + (4 : Int32)) + (2 : Int32))))] rfl ?_
            refine g_iload_n 74 hC dJ6_numberOfTrailingZeros_0f7a4_74 1 rfl ?_
            refine g_iload_n 75 hC dJ6_numberOfTrailingZeros_0f7a4_75 0 rfl ?_
            refine g_iconst 76 hC (1 : Int32) dJ6_numberOfTrailingZeros_0f7a4_76 (by decide) ?_
            refine g_iushr 77 hC dJ6_numberOfTrailingZeros_0f7a4_77 ?_
            refine g_iadd 78 hC dJ6_numberOfTrailingZeros_0f7a4_78 ?_
            exact g_iret 79 hC dJ6_numberOfTrailingZeros_0f7a4_79
      · skip
        refine g_iinc 41 hC (((1 : Int32) + (16 : Int32)) + (8 : Int32)) dJ6_numberOfTrailingZeros_0f7a4_41 (by decide) 1 rfl rfl [(1, .int ((((1 : Int32) + (16 : Int32)) + (8 : Int32)))), (0, .int ((jushr ((a0 ^^^ (-1 : Int32)) &&& (a0 - (1 : Int32))) (16 : Int32))))] rfl ?_
        refine g_iload_n 44 hC dJ6_numberOfTrailingZeros_0f7a4_44 1 rfl ?_
        refine g_bipush 45 hC (8 : Int32) dJ6_numberOfTrailingZeros_0f7a4_45 (by decide) ?_
        refine g_iushr 47 hC dJ6_numberOfTrailingZeros_0f7a4_47 ?_
        refine g_istore_n 48 hC dJ6_numberOfTrailingZeros_0f7a4_48 (by decide) [(0, .int ((jushr (jushr ((a0 ^^^ (-1 : Int32)) &&& (a0 - (1 : Int32))) (16 : Int32)) (8 : Int32)))), (1, .int ((((1 : Int32) + (16 : Int32)) + (8 : Int32))))] rfl ?_
        refine g_iload_n 49 hC dJ6_numberOfTrailingZeros_0f7a4_49 0 rfl ?_
        refine g_bipush 50 hC (16 : Int32) dJ6_numberOfTrailingZeros_0f7a4_50 (by decide) ?_
        refine g_icmp_leT (tR u) 52 hC 62 dJ6_numberOfTrailingZeros_0f7a4_52 (by decide) (fun h14 => ?_) (fun h14 => ?_)
        · skip
          refine g_iload_n 62 hC dJ6_numberOfTrailingZeros_0f7a4_62 0 rfl ?_
          refine g_iconst 63 hC (4 : Int32) dJ6_numberOfTrailingZeros_0f7a4_63 (by decide) ?_
          refine g_icmp_leT (tR u) 64 hC 74 dJ6_numberOfTrailingZeros_0f7a4_64 (by decide) (fun h15 => ?_) (fun h15 => ?_)
          · skip
            refine g_iload_n 74 hC dJ6_numberOfTrailingZeros_0f7a4_74 1 rfl ?_
            refine g_iload_n 75 hC dJ6_numberOfTrailingZeros_0f7a4_75 0 rfl ?_
            refine g_iconst 76 hC (1 : Int32) dJ6_numberOfTrailingZeros_0f7a4_76 (by decide) ?_
            refine g_iushr 77 hC dJ6_numberOfTrailingZeros_0f7a4_77 ?_
            refine g_iadd 78 hC dJ6_numberOfTrailingZeros_0f7a4_78 ?_
            exact g_iret 79 hC dJ6_numberOfTrailingZeros_0f7a4_79
          · skip
            refine g_iinc 67 hC ((((1 : Int32) + (16 : Int32)) + (8 : Int32)) + (2 : Int32)) dJ6_numberOfTrailingZeros_0f7a4_67 (by decide) 1 rfl rfl [(1, .int (((((1 : Int32) + (16 : Int32)) + (8 : Int32)) + (2 : Int32)))), (0, .int ((jushr (jushr ((a0 ^^^ (-1 : Int32)) &&& (a0 - (1 : Int32))) (16 : Int32)) (8 : Int32))))] rfl ?_
            refine g_iload_n 70 hC dJ6_numberOfTrailingZeros_0f7a4_70 1 rfl ?_
            refine g_iconst 71 hC (2 : Int32) dJ6_numberOfTrailingZeros_0f7a4_71 (by decide) ?_
            refine g_iushr 72 hC dJ6_numberOfTrailingZeros_0f7a4_72 ?_
            refine g_istore_n 73 hC dJ6_numberOfTrailingZeros_0f7a4_73 (by decide) [(0, .int ((jushr (jushr (jushr ((a0 ^^^ (-1 : Int32)) &&& (a0 - (1 : Int32))) (16 : Int32)) (8 : Int32)) (2 : Int32)))), (1, .int (((((1 : Int32) + (16 : Int32)) + (8 : Int32)) + (2 : Int32))))] rfl ?_
            refine g_iload_n 74 hC dJ6_numberOfTrailingZeros_0f7a4_74 1 rfl ?_
            refine g_iload_n 75 hC dJ6_numberOfTrailingZeros_0f7a4_75 0 rfl ?_
            refine g_iconst 76 hC (1 : Int32) dJ6_numberOfTrailingZeros_0f7a4_76 (by decide) ?_
            refine g_iushr 77 hC dJ6_numberOfTrailingZeros_0f7a4_77 ?_
            refine g_iadd 78 hC dJ6_numberOfTrailingZeros_0f7a4_78 ?_
            exact g_iret 79 hC dJ6_numberOfTrailingZeros_0f7a4_79
        · skip
          refine g_iinc 55 hC ((((1 : Int32) + (16 : Int32)) + (8 : Int32)) + (4 : Int32)) dJ6_numberOfTrailingZeros_0f7a4_55 (by decide) 1 rfl rfl [(1, .int (((((1 : Int32) + (16 : Int32)) + (8 : Int32)) + (4 : Int32)))), (0, .int ((jushr (jushr ((a0 ^^^ (-1 : Int32)) &&& (a0 - (1 : Int32))) (16 : Int32)) (8 : Int32))))] rfl ?_
          refine g_iload_n 58 hC dJ6_numberOfTrailingZeros_0f7a4_58 1 rfl ?_
          refine g_iconst 59 hC (4 : Int32) dJ6_numberOfTrailingZeros_0f7a4_59 (by decide) ?_
          refine g_iushr 60 hC dJ6_numberOfTrailingZeros_0f7a4_60 ?_
          refine g_istore_n 61 hC dJ6_numberOfTrailingZeros_0f7a4_61 (by decide) [(0, .int ((jushr (jushr (jushr ((a0 ^^^ (-1 : Int32)) &&& (a0 - (1 : Int32))) (16 : Int32)) (8 : Int32)) (4 : Int32)))), (1, .int (((((1 : Int32) + (16 : Int32)) + (8 : Int32)) + (4 : Int32))))] rfl ?_
          refine g_iload_n 62 hC dJ6_numberOfTrailingZeros_0f7a4_62 0 rfl ?_
          refine g_iconst 63 hC (4 : Int32) dJ6_numberOfTrailingZeros_0f7a4_63 (by decide) ?_
          refine g_icmp_leT (tR u) 64 hC 74 dJ6_numberOfTrailingZeros_0f7a4_64 (by decide) (fun h16 => ?_) (fun h16 => ?_)
          · skip
            refine g_iload_n 74 hC dJ6_numberOfTrailingZeros_0f7a4_74 1 rfl ?_
            refine g_iload_n 75 hC dJ6_numberOfTrailingZeros_0f7a4_75 0 rfl ?_
            refine g_iconst 76 hC (1 : Int32) dJ6_numberOfTrailingZeros_0f7a4_76 (by decide) ?_
            refine g_iushr 77 hC dJ6_numberOfTrailingZeros_0f7a4_77 ?_
            refine g_iadd 78 hC dJ6_numberOfTrailingZeros_0f7a4_78 ?_
            exact g_iret 79 hC dJ6_numberOfTrailingZeros_0f7a4_79
          · skip
            refine g_iinc 67 hC (((((1 : Int32) + (16 : Int32)) + (8 : Int32)) + (4 : Int32)) + (2 : Int32)) dJ6_numberOfTrailingZeros_0f7a4_67 (by decide) 1 rfl rfl [(1, .int ((((((1 : Int32) + (16 : Int32)) + (8 : Int32)) + (4 : Int32)) + (2 : Int32)))), (0, .int ((jushr (jushr (jushr ((a0 ^^^ (-1 : Int32)) &&& (a0 - (1 : Int32))) (16 : Int32)) (8 : Int32)) (4 : Int32))))] rfl ?_
            refine g_iload_n 70 hC dJ6_numberOfTrailingZeros_0f7a4_70 1 rfl ?_
            refine g_iconst 71 hC (2 : Int32) dJ6_numberOfTrailingZeros_0f7a4_71 (by decide) ?_
            refine g_iushr 72 hC dJ6_numberOfTrailingZeros_0f7a4_72 ?_
            refine g_istore_n 73 hC dJ6_numberOfTrailingZeros_0f7a4_73 (by decide) [(0, .int ((jushr (jushr (jushr (jushr ((a0 ^^^ (-1 : Int32)) &&& (a0 - (1 : Int32))) (16 : Int32)) (8 : Int32)) (4 : Int32)) (2 : Int32)))), (1, .int ((((((1 : Int32) + (16 : Int32)) + (8 : Int32)) + (4 : Int32)) + (2 : Int32))))] rfl ?_
            refine g_iload_n 74 hC dJ6_numberOfTrailingZeros_0f7a4_74 1 rfl ?_
            refine g_iload_n 75 hC dJ6_numberOfTrailingZeros_0f7a4_75 0 rfl ?_
            refine g_iconst 76 hC (1 : Int32) dJ6_numberOfTrailingZeros_0f7a4_76 (by decide) ?_
            refine g_iushr 77 hC dJ6_numberOfTrailingZeros_0f7a4_77 ?_
            refine g_iadd 78 hC dJ6_numberOfTrailingZeros_0f7a4_78 ?_
            exact g_iret 79 hC dJ6_numberOfTrailingZeros_0f7a4_79
  · skip
    refine g_iload_n 12 hC dJ6_numberOfTrailingZeros_0f7a4_12 0 rfl ?_
    refine g_bipush 13 hC (32 : Int32) dJ6_numberOfTrailingZeros_0f7a4_13 (by decide) ?_
    refine g_iand 15 hC dJ6_numberOfTrailingZeros_0f7a4_15 ?_
    exact g_iret 16 hC dJ6_numberOfTrailingZeros_0f7a4_16
theorem kJ6_numberOfTrailingZeros_0f7a4 {K : KT} {E : EV} {cc : ByteArray} {nL : Nat} {own : String} {Ts : List Cond} {rm : Room} {ret : Option FieldType} {T : ST × Option Value} {u : ST} {lv : List (Nat × Value)} {rest : List Value} {idx : Nat} {a0 : Int32} (pc : Nat) (hC : Cx K E cc nL own Ts rm ret) (hT : GoodIn Ts (va_wsS own idx yJ6_numberOfTrailingZeros_0f7a4 wsJ6_numberOfTrailingZeros_0f7a4)) (hR : rmJ6_numberOfTrailingZeros_0f7a4.frames + 1 ≤ rm.frames ∧ 8 + (2 + 11) + rmJ6_numberOfTrailingZeros_0f7a4.locals ≤ rm.locals) (hdg : decode cc pc = .ok (.invokestatic idx, 3)) (hcat : (rest.map fun v => v.category).sum ≤ 8) (kk : G K E nL T u (pc + 3) lv (.int (fJ6_numberOfTrailingZeros_0f7a4 a0) :: rest)) : G K E nL T u pc lv (.int a0 :: rest) := g_callS (n := 1) pc hC (As := [.int a0]) (rest := rest) (cJ6_numberOfTrailingZeros_0f7a4_ _ (Cx.ok hC) a0 u) hT rfl rfl rfl (by decide +kernel) hR rfl rfl hcat hdg kk

