set_option maxHeartbeats 4000000 in
set_option maxRecDepth 100000 in
theorem c_X0_init (l : Launch) (dC : Nat → ClassId) (dI : Nat → Nat → Nat) (h0 sz : Nat) : Met l yX0_init wsX0_init ({ frames := 1, cells := 1, slots := 1024, locals := 12 }) (va_Pc [.ref h0] (fun U => U.heap.size = sz ∧ va_P (dC, dI) vwCl [(h0, .inr (0, [.null]))] U.heap ∧ va_K (dC, dI) vwCl [] U ∧ va_D (fun _ => True) [(h0, .inr (0, [.null]))])) (va_Qv (fun _ : Unit => True) (fun _ t => ∃ (q : Nat) (k : ClassId), va_P (dC, dI) vwCl [(h0, .inr (0, [.ref q])), (q, .inl (k, 1024, .inl (fun _ => 0)))] t.heap ∧ va_K (dC, dI) vwCl [(k, .int)] t ∧ va_D (va_A [(h0, .inr (0, [.null]))] sz) [(h0, .inr (0, [.ref q])), (q, .inl (k, 1024, .inl (fun _ => 0)))]) (va_A [(h0, .inr (0, [.null]))] sz)) 1 1024 (va_A [(h0, .inr (0, [.null]))] sz) := by
  refine Met.ofW (cc := cX0_init) (maxL := 1) (ret := none) (by decide) rfl ?_
  intro p e s m args below meth c s₁ B hml hv
  obtain ⟨rfl, hsz, hP, hK, hD0⟩ := hv
  have hx := B.exec
  have hb := B.bytes
  have hr := B.returns
  have hts := atoms_spec (ws := wsX0_init) B.pre
  have hown : s.vm.findClass RX0 = some m.cls := findClass_of_methodNamed B.named
  have hlocks := B.notSynchronized
  have hin : meth.name = "<init>" := (name_of_methodNamed B.named B.method).1
  subst hsz
  have hD := hD0.self (sz := s.heap.size)
  generalize hAe : va_A [(h0, .inr (0, [.null]))] s.heap.size = A at hD ⊢
  have hA : ∀ q : Nat, s.heap.size ≤ q → A q := fun q h => by rw [← hAe]; exact Or.inr h
  have hS : va_S A s.heap s.heap [] := va_S.rf
  have hP : va_P (dC, dI) vwCl [(h0, .inr (0, [.null]))] s.heap := hP
  have hl := lv_entry ([.ref h0]) (n := 1) (Nat.le_of_ble_eq_true rfl)
  rw [lg_entry_eq]
  generalize (lg_sl ([.ref h0]) ++ List.replicate (1 - (lg_sl ([.ref h0])).length) Slot.unset).toArray = ls at hl ⊢
  have hl : lv_has ls 1 [(0, .ref h0)] := hl
  refine lv_aload_n hx hb dX0_init_0 rfl (lv_at hl 0 rfl) ?_
  refine W.objInit hx hb hown (hts (.methodLink RX0 3 objectInit) (by decide +kernel)) (hts (.instanceMethod objectInit) (by decide +kernel)) (hts _ (List.mem_of_getElem? (i := 3) rfl)) rfl (by rw [hml]; exact hl.1) rfl dX0_init_1 (Nat.le_of_ble_eq_true rfl) (Nat.le_of_ble_eq_true rfl) ?_
  refine W.eq (g2 := F0 m 4 ls []) rfl ?_
  refine lv_aload_n hx hb dX0_init_4 rfl (lv_at hl 0 rfl) ?_
  refine lv_sipush (v := 1024) hx hb dX0_init_5 (by decide) ?_
  have g1 : 0 + 1 ≤ 1 := by decide
  have g2 : 0 + 1024 ≤ 1024 := by decide
  refine va_newa (atype := .int) (ty := .int) (N' := 1024) (a0 := (1024, .inl (fun _ => 0))) hx hb (hts (.arrayClass .int) (by decide +kernel)) rfl hK hP hD hS hA (fun _ => rfl) (by decide) (by decide) (by decide) g1 g2 dX0_init_8 (fun q k H hK hP hD hS => ?_)
  have hP : va_P (dC, dI) vwCl [(h0, .inr (0, [.null])), (q, .inl (k, 1024, .inl (fun _ => 0)))] H := hP
  refine va_putF (D := (dC, dI)) (ci := 0) (v := .ref q) (ty := .array .int) (C := RX0) (T := TX0) (N := 1) hx hb hts (by decide +kernel) tyX0 tyX0_ok nmX0 hown hK hP hD hS 0 rfl rfl 0 (by decide) (hts (.fieldLink RX0 9 "FlagCore$Bytes" "row" "[I") (by decide +kernel)) (fun _ h9 => h9) rfl hin rfl (by decide +kernel) rfl rfl (Nat.le_of_ble_eq_true rfl) dX0_init_10 (fun H locs hP hD hS => ?_)
  subst hAe
  exact W.vret hx hb hr (fun t ht hW => ⟨⟨(), rfl, trivial, q, k, by rw [ht]; exact hP, va_K.moved hW.alike hK, hD⟩, hS.F ht⟩) hS.2.2 dX0_init_13

set_option maxHeartbeats 4000000 in
set_option maxRecDepth 100000 in
theorem c_X2_init (l : Launch) (dC : Nat → ClassId) (dI : Nat → Nat → Nat) (h0 sz : Nat) (b : Nat) : Met l yX2_init wsX2_init ({ frames := 1, cells := 0, slots := 0, locals := 12 }) (va_Pc [.ref h0, .ref b] (fun U => U.heap.size = sz ∧ va_P (dC, dI) vwCl [(h0, .inr (1, [.null]))] U.heap ∧ va_K (dC, dI) vwCl [] U ∧ va_D (fun _ => True) [(h0, .inr (1, [.null]))])) (va_Qv (fun _ : Unit => True) (fun _ t => va_P (dC, dI) vwCl [(h0, .inr (1, [.ref b]))] t.heap ∧ va_K (dC, dI) vwCl [] t ∧ va_D (va_A [(h0, .inr (1, [.null]))] sz) [(h0, .inr (1, [.ref b]))]) (va_A [(h0, .inr (1, [.null]))] sz)) 0 0 (va_A [(h0, .inr (1, [.null]))] sz) := by
  refine Met.ofW (cc := cX2_init) (maxL := 2) (ret := none) (by decide) rfl ?_
  intro p e s m args below meth c s₁ B hml hv
  obtain ⟨rfl, hsz, hP, hK, hD0⟩ := hv
  have hx := B.exec
  have hb := B.bytes
  have hr := B.returns
  have hts := atoms_spec (ws := wsX2_init) B.pre
  have hown : s.vm.findClass RX2 = some m.cls := findClass_of_methodNamed B.named
  have hlocks := B.notSynchronized
  have hin : meth.name = "<init>" := (name_of_methodNamed B.named B.method).1
  subst hsz
  have hD := hD0.self (sz := s.heap.size)
  generalize hAe : va_A [(h0, .inr (1, [.null]))] s.heap.size = A at hD ⊢
  have hA : ∀ q : Nat, s.heap.size ≤ q → A q := fun q h => by rw [← hAe]; exact Or.inr h
  have hS : va_S A s.heap s.heap [] := va_S.rf
  have hP : va_P (dC, dI) vwCl [(h0, .inr (1, [.null]))] s.heap := hP
  have hl := lv_entry ([.ref h0, .ref b]) (n := 2) (Nat.le_of_ble_eq_true rfl)
  rw [lg_entry_eq]
  generalize (lg_sl ([.ref h0, .ref b]) ++ List.replicate (2 - (lg_sl ([.ref h0, .ref b])).length) Slot.unset).toArray = ls at hl ⊢
  have hl : lv_has ls 2 [(0, .ref h0), (1, .ref b)] := hl
  refine lv_aload_n hx hb dX2_init_0 rfl (lv_at hl 0 rfl) ?_
  refine W.objInit hx hb hown (hts (.methodLink RX2 7 objectInit) (by decide +kernel)) (hts (.instanceMethod objectInit) (by decide +kernel)) (hts _ (List.mem_of_getElem? (i := 3) rfl)) rfl (by rw [hml]; exact hl.1) rfl dX2_init_1 (Nat.le_of_ble_eq_true rfl) (Nat.le_of_ble_eq_true rfl) ?_
  refine W.eq (g2 := F0 m 4 ls []) rfl ?_
  refine lv_aload_n hx hb dX2_init_4 rfl (lv_at hl 0 rfl) ?_
  refine lv_aload_n hx hb dX2_init_5 rfl (lv_at hl 1 rfl) ?_
  refine va_putF (D := (dC, dI)) (ci := 1) (v := .ref b) (ty := .object "FlagCore$Bytes") (C := RX2) (T := TX2) (N := 1) hx hb hts (by decide +kernel) tyX2 tyX2_ok nmX2 hown hK hP hD hS 0 rfl rfl 0 (by decide) (hts (.fieldLink RX2 13 "FlagCore$Sums" "bytes" "LFlagCore$Bytes;") (by decide +kernel)) (fun _ h9 => h9) rfl hin rfl (by decide +kernel) rfl rfl (Nat.le_of_ble_eq_true rfl) dX2_init_6 (fun H locs hP hD hS => ?_)
  subst hAe
  exact W.vret hx hb hr (fun t ht hW => ⟨⟨(), rfl, trivial, by rw [ht]; exact hP, va_K.moved hW.alike hK, hD⟩, hS.F ht⟩) hS.2.2 dX2_init_9

set_option maxHeartbeats 4000000 in
set_option maxRecDepth 100000 in
theorem c_X4_init (l : Launch) (dC : Nat → ClassId) (dI : Nat → Nat → Nat) (h0 sz : Nat) : Met l yX4_init wsX4_init ({ frames := 2, cells := 5, slots := 2057, locals := 33 }) (va_Pc [.ref h0] (fun U => U.heap.size = sz ∧ va_P (dC, dI) vwCl [(h0, .inr (2, [.null, .null, .null, .null, .int 0, .int 0, .int 0, .int 0]))] U.heap ∧ va_K (dC, dI) vwCl [] U ∧ va_D (fun _ => True) [(h0, .inr (2, [.null, .null, .null, .null, .int 0, .int 0, .int 0, .int 0]))])) (va_Qv (fun _ : Unit => True) (fun _ t => ∃ (qA qB qR qS qT : Nat) (k1 k2 k3 : ClassId), va_P (dC, dI) vwCl [(h0, .inr (2, [.ref qA, .ref qB, .ref qS, .ref qT, .int 0, .int 0, .int 0, .int 0])), (qA, .inl (k1, 1024, .inl (fun _ => 0))), (qB, .inr (0, [.ref qR])), (qR, .inl (k2, 1024, .inl (fun _ => 0))), (qS, .inr (1, [.ref qB])), (qT, .inl (k3, 7, .inl (fun _ => 0)))] t.heap ∧ va_K (dC, dI) vwCl [(k1, .int), (k2, .int), (k3, .int)] t ∧ va_D (va_A [(h0, .inr (2, [.null, .null, .null, .null, .int 0, .int 0, .int 0, .int 0]))] sz) [(h0, .inr (2, [.ref qA, .ref qB, .ref qS, .ref qT, .int 0, .int 0, .int 0, .int 0])), (qA, .inl (k1, 1024, .inl (fun _ => 0))), (qB, .inr (0, [.ref qR])), (qR, .inl (k2, 1024, .inl (fun _ => 0))), (qS, .inr (1, [.ref qB])), (qT, .inl (k3, 7, .inl (fun _ => 0)))]) (va_A [(h0, .inr (2, [.null, .null, .null, .null, .int 0, .int 0, .int 0, .int 0]))] sz)) 5 2057 (va_A [(h0, .inr (2, [.null, .null, .null, .null, .int 0, .int 0, .int 0, .int 0]))] sz) := by
  refine Met.ofW (cc := cX4_init) (maxL := 1) (ret := none) (by decide) rfl ?_
  intro p e s m args below meth c s₁ B hml hv
  obtain ⟨rfl, hsz, hP, hK, hD0⟩ := hv
  have hx := B.exec
  have hb := B.bytes
  have hr := B.returns
  have hts := atoms_spec (ws := wsX4_init) B.pre
  have hown : s.vm.findClass RX4 = some m.cls := findClass_of_methodNamed B.named
  have hlocks := B.notSynchronized
  have hin : meth.name = "<init>" := (name_of_methodNamed B.named B.method).1
  subst hsz
  have hD := hD0.self (sz := s.heap.size)
  generalize hAe : va_A [(h0, .inr (2, [.null, .null, .null, .null, .int 0, .int 0, .int 0, .int 0]))] s.heap.size = A at hD ⊢
  have hA : ∀ q : Nat, s.heap.size ≤ q → A q := fun q h => by rw [← hAe]; exact Or.inr h
  have hS : va_S A s.heap s.heap [] := va_S.rf
  have hP : va_P (dC, dI) vwCl [(h0, .inr (2, [.null, .null, .null, .null, .int 0, .int 0, .int 0, .int 0]))] s.heap := hP
  have hl := lv_entry ([.ref h0]) (n := 1) (Nat.le_of_ble_eq_true rfl)
  rw [lg_entry_eq]
  generalize (lg_sl ([.ref h0]) ++ List.replicate (1 - (lg_sl ([.ref h0])).length) Slot.unset).toArray = ls at hl ⊢
  have hl : lv_has ls 1 [(0, .ref h0)] := hl
  refine lv_aload_n hx hb dX4_init_0 rfl (lv_at hl 0 rfl) ?_
  refine W.objInit hx hb hown (hts (.methodLink RX4 1 objectInit) (by decide +kernel)) (hts (.instanceMethod objectInit) (by decide +kernel)) (hts _ (List.mem_of_getElem? (i := 3) rfl)) rfl (by rw [hml]; exact hl.1) rfl dX4_init_1 (Nat.le_of_ble_eq_true rfl) (Nat.le_of_ble_eq_true rfl) ?_
  refine W.eq (g2 := F0 m 4 ls []) rfl ?_
  refine lv_aload_n hx hb dX4_init_4 rfl (lv_at hl 0 rfl) ?_
  refine lv_sipush (v := 1024) hx hb dX4_init_5 (by decide) ?_
  refine va_newa (atype := .int) (ty := .int) (N' := 1024) (a0 := (1024, .inl (fun _ => 0))) hx hb (hts (.arrayClass .int) (by decide +kernel)) rfl hK hP hD hS hA (fun _ => rfl) (by decide) (by decide) (by decide) (Nat.le_of_ble_eq_true rfl) (Nat.le_of_ble_eq_true rfl) dX4_init_8 (fun qA k1 H hK hP hD hS => ?_)
  have hP : va_P (dC, dI) vwCl [(h0, .inr (2, [.null, .null, .null, .null, .int 0, .int 0, .int 0, .int 0])), (qA, .inl (k1, 1024, .inl (fun _ => 0)))] H := hP
  have hD : va_D A [(h0, .inr (2, [.null, .null, .null, .null, .int 0, .int 0, .int 0, .int 0])), (qA, .inl (k1, 1024, .inl (fun _ => 0)))] := hD
  refine va_putF (D := (dC, dI)) (ci := 2) (v := .ref qA) (ty := .array .int) (C := RX4) (T := TX4) (N := 8) hx hb hts (by decide +kernel) tyX4 tyX4_ok nmX4 hown hK hP hD hS 0 rfl rfl 0 (by decide) (hts (.fieldLink RX4 9 "FlagCore" "cells" "[I") (by decide +kernel)) (fun _ h9 => h9) rfl hin rfl (by decide +kernel) rfl rfl (Nat.le_of_ble_eq_true rfl) dX4_init_10 (fun H locs hP hD hS => ?_)
  have hP : va_P (dC, dI) vwCl [(h0, .inr (2, [.ref qA, .null, .null, .null, .int 0, .int 0, .int 0, .int 0])), (qA, .inl (k1, 1024, .inl (fun _ => 0)))] H := hP
  have hD : va_D A [(h0, .inr (2, [.ref qA, .null, .null, .null, .int 0, .int 0, .int 0, .int 0])), (qA, .inl (k1, 1024, .inl (fun _ => 0)))] := hD
  refine lv_aload_n hx hb dX4_init_13 rfl (lv_at hl 0 rfl) ?_
  refine va_new (ci := 0) (fs := [.null]) (C := RX0) (T := TX0) (N := 1) hx hb hts (by decide +kernel) tyX0 tyX0_ok hown (hts (.classLink RX4 13 RX0) (by decide +kernel)) (hts (.instantiable RX0 1) (by decide +kernel)) (hts (.initialized RX0) (by decide +kernel)) hK hP hD hS hA rfl (fun j hj => by rcases (show j = 0 by omega) with rfl; rfl) (Nat.le_of_ble_eq_true rfl) (Nat.le_of_ble_eq_true rfl) dX4_init_14 (fun qB H hP hD hS => ?_)
  have hP : va_P (dC, dI) vwCl [(h0, .inr (2, [.ref qA, .null, .null, .null, .int 0, .int 0, .int 0, .int 0])), (qA, .inl (k1, 1024, .inl (fun _ => 0))), (qB, .inr (0, [.null]))] H := hP
  have hD : va_D A [(h0, .inr (2, [.ref qA, .null, .null, .null, .int 0, .int 0, .int 0, .int 0])), (qA, .inl (k1, 1024, .inl (fun _ => 0))), (qB, .inr (0, [.null]))] := hD
  refine lv_dup hx hb dX4_init_17 rfl ?_
  have hPc := hP.sub (ws' := [(qB, .inr (0, [.null]))]) [2] rfl
  have hDc := hD.sub (ws' := [(qB, .inr (0, [.null]))]) [2] (by decide) rfl
  have hKc := hK.sub (tys' := []) [] rfl
  have hFc := va_free (wc := [(qB, .inr (0, [.null]))]) hD hS hA [2] rfl
  refine va_callv (va_runI (As := []) (rest := [.ref qB, .ref h0]) ⟨hx, hb, hml, hown, hts⟩ (c_X0_init l dC dI qB H.size) (cwI 0 hts gX4_init_X0_init rfl rfl rfl (hts (.initialized RX0) (by decide +kernel)) (hts (.methodLink RX4 15 yX0_init) (by decide +kernel)) (hts (.instanceMethod yX0_init) (by decide +kernel)) rfl (by decide +kernel) ⟨Nat.le_of_ble_eq_true rfl, Nat.le_of_ble_eq_true rfl⟩) ⟨fun a U g mk q => by obtain ⟨q0, q1, qP, qK, qD⟩ := q; exact ⟨q0, q1, qP, va_K.moved (u := U) (U := U.calling g mk a) (Vm.Alike.refl U.vm) qK, qD⟩, fun U hU hW => ⟨rfl, by rw [hU], by rw [hU]; exact hPc, va_K.moved hW.alike hKc, hDc.weaken (fun _ _ _ _ => trivial)⟩⟩ rfl rfl hl.1 rfl (lv_room (Nat.le_of_ble_eq_true rfl)) dX4_init_18 ⟨Nat.le_of_ble_eq_true rfl, Nat.le_of_ble_eq_true rfl⟩) hS (fun q _ h => hFc q h) hFc (fun u t H1 locs ht hvm hw hB hz1 hk1 hS => ?_)
  obtain ⟨qR, k2, hP1, hK1, hD1⟩ := hB
  rw [ht] at hP1
  have hK1 := va_K.moved hvm.symm hK1
  obtain ⟨hP, hD⟩ := va_join (wr := [(h0, .inr (2, [.ref qA, .null, .null, .null, .int 0, .int 0, .int 0, .int 0])), (qA, .inl (k1, 1024, .inl (fun _ => 0)))]) (w1 := [(qB, .inr (0, [.ref qR])), (qR, .inl (k2, 1024, .inl (fun _ => 0)))]) hP hD [2] [0, 1] rfl rfl (by decide) (by decide) hk1 hFc hP1 hD1
  have hK := hK.app hK1
  generalize H1 = H at hP hS ⊢
  have hP : va_P (dC, dI) vwCl [(h0, .inr (2, [.ref qA, .null, .null, .null, .int 0, .int 0, .int 0, .int 0])), (qA, .inl (k1, 1024, .inl (fun _ => 0))), (qB, .inr (0, [.ref qR])), (qR, .inl (k2, 1024, .inl (fun _ => 0)))] H := hP
  have hD : va_D A [(h0, .inr (2, [.ref qA, .null, .null, .null, .int 0, .int 0, .int 0, .int 0])), (qA, .inl (k1, 1024, .inl (fun _ => 0))), (qB, .inr (0, [.ref qR])), (qR, .inl (k2, 1024, .inl (fun _ => 0)))] := hD
  have hK : va_K (dC, dI) vwCl [(k1, .int), (k2, .int)] s := hK
  refine va_putF (D := (dC, dI)) (ci := 2) (v := .ref qB) (ty := .object "FlagCore$Bytes") (C := RX4) (T := TX4) (N := 8) hx hb hts (by decide +kernel) tyX4 tyX4_ok nmX4 hown hK hP hD hS 0 rfl rfl 1 (by decide) (hts (.fieldLink RX4 16 "FlagCore" "bytes" "LFlagCore$Bytes;") (by decide +kernel)) (fun _ h9 => h9) rfl hin rfl (by decide +kernel) rfl rfl (Nat.le_of_ble_eq_true rfl) dX4_init_21 (fun H locs hP hD hS => ?_)
  have hP : va_P (dC, dI) vwCl [(h0, .inr (2, [.ref qA, .ref qB, .null, .null, .int 0, .int 0, .int 0, .int 0])), (qA, .inl (k1, 1024, .inl (fun _ => 0))), (qB, .inr (0, [.ref qR])), (qR, .inl (k2, 1024, .inl (fun _ => 0)))] H := hP
  have hD : va_D A [(h0, .inr (2, [.ref qA, .ref qB, .null, .null, .int 0, .int 0, .int 0, .int 0])), (qA, .inl (k1, 1024, .inl (fun _ => 0))), (qB, .inr (0, [.ref qR])), (qR, .inl (k2, 1024, .inl (fun _ => 0)))] := hD
  refine lv_aload_n hx hb dX4_init_24 rfl (lv_at hl 0 rfl) ?_
  refine va_new (ci := 1) (fs := [.null]) (C := RX2) (T := TX2) (N := 1) hx hb hts (by decide +kernel) tyX2 tyX2_ok hown (hts (.classLink RX4 20 RX2) (by decide +kernel)) (hts (.instantiable RX2 1) (by decide +kernel)) (hts (.initialized RX2) (by decide +kernel)) hK hP hD hS hA rfl (fun j hj => by rcases (show j = 0 by omega) with rfl; rfl) (Nat.le_of_ble_eq_true rfl) (Nat.le_of_ble_eq_true rfl) dX4_init_25 (fun qS H hP hD hS => ?_)
  have hP : va_P (dC, dI) vwCl [(h0, .inr (2, [.ref qA, .ref qB, .null, .null, .int 0, .int 0, .int 0, .int 0])), (qA, .inl (k1, 1024, .inl (fun _ => 0))), (qB, .inr (0, [.ref qR])), (qR, .inl (k2, 1024, .inl (fun _ => 0))), (qS, .inr (1, [.null]))] H := hP
  have hD : va_D A [(h0, .inr (2, [.ref qA, .ref qB, .null, .null, .int 0, .int 0, .int 0, .int 0])), (qA, .inl (k1, 1024, .inl (fun _ => 0))), (qB, .inr (0, [.ref qR])), (qR, .inl (k2, 1024, .inl (fun _ => 0))), (qS, .inr (1, [.null]))] := hD
  refine lv_dup hx hb dX4_init_28 rfl ?_
  refine lv_aload_n hx hb dX4_init_29 rfl (lv_at hl 0 rfl) ?_
  refine va_get (D := (dC, dI)) (ci := 2) (v := .ref qB) (C := RX4) (T := TX4) (N := 8) hx hb hts (by decide +kernel) hown hK hP 0 rfl rfl 1 (by decide) (hts (.fieldLink RX4 16 "FlagCore" "bytes" "LFlagCore$Bytes;") (by decide +kernel)) (fun _ h9 => h9) rfl dX4_init_30 ?_
  have hPc := hP.sub (ws' := [(qS, .inr (1, [.null]))]) [4] rfl
  have hDc := hD.sub (ws' := [(qS, .inr (1, [.null]))]) [4] (by decide) rfl
  have hKc := hK.sub (tys' := []) [] rfl
  have hFc := va_free (wc := [(qS, .inr (1, [.null]))]) hD hS hA [4] rfl
  refine va_callv (va_runI (As := [.ref qB]) (rest := [.ref qS, .ref h0]) ⟨hx, hb, hml, hown, hts⟩ (c_X2_init l dC dI qS H.size qB) (cwI 1 hts gX4_init_X2_init rfl rfl rfl (hts (.initialized RX2) (by decide +kernel)) (hts (.methodLink RX4 22 yX2_init) (by decide +kernel)) (hts (.instanceMethod yX2_init) (by decide +kernel)) rfl (by decide +kernel) ⟨Nat.le_of_ble_eq_true rfl, Nat.le_of_ble_eq_true rfl⟩) ⟨fun a U g mk q => by obtain ⟨q0, q1, qP, qK, qD⟩ := q; exact ⟨q0, q1, qP, va_K.moved (u := U) (U := U.calling g mk a) (Vm.Alike.refl U.vm) qK, qD⟩, fun U hU hW => ⟨rfl, by rw [hU], by rw [hU]; exact hPc, va_K.moved hW.alike hKc, hDc.weaken (fun _ _ _ _ => trivial)⟩⟩ rfl rfl hl.1 rfl (lv_room (Nat.le_of_ble_eq_true rfl)) dX4_init_33 ⟨Nat.le_of_ble_eq_true rfl, Nat.le_of_ble_eq_true rfl⟩) hS (fun q _ h => hFc q h) hFc (fun u t H1 locs ht hvm hw hB hz1 hk1 hS => ?_)
  obtain ⟨hP1, hK1, hD1⟩ := hB
  rw [ht] at hP1
  have hK1 := va_K.moved hvm.symm hK1
  obtain ⟨hP, hD⟩ := va_join (wr := [(h0, .inr (2, [.ref qA, .ref qB, .null, .null, .int 0, .int 0, .int 0, .int 0])), (qA, .inl (k1, 1024, .inl (fun _ => 0))), (qB, .inr (0, [.ref qR])), (qR, .inl (k2, 1024, .inl (fun _ => 0)))]) (w1 := [(qS, .inr (1, [.ref qB]))]) hP hD [4] [0, 1, 2, 3] rfl rfl (by decide) (by decide) hk1 hFc hP1 hD1
  have hK := hK.app hK1
  generalize H1 = H at hP hS ⊢
  have hP : va_P (dC, dI) vwCl [(h0, .inr (2, [.ref qA, .ref qB, .null, .null, .int 0, .int 0, .int 0, .int 0])), (qA, .inl (k1, 1024, .inl (fun _ => 0))), (qB, .inr (0, [.ref qR])), (qR, .inl (k2, 1024, .inl (fun _ => 0))), (qS, .inr (1, [.ref qB]))] H := hP
  have hD : va_D A [(h0, .inr (2, [.ref qA, .ref qB, .null, .null, .int 0, .int 0, .int 0, .int 0])), (qA, .inl (k1, 1024, .inl (fun _ => 0))), (qB, .inr (0, [.ref qR])), (qR, .inl (k2, 1024, .inl (fun _ => 0))), (qS, .inr (1, [.ref qB]))] := hD
  have hK : va_K (dC, dI) vwCl [(k1, .int), (k2, .int)] s := hK
  refine va_putF (D := (dC, dI)) (ci := 2) (v := .ref qS) (ty := .object "FlagCore$Sums") (C := RX4) (T := TX4) (N := 8) hx hb hts (by decide +kernel) tyX4 tyX4_ok nmX4 hown hK hP hD hS 0 rfl rfl 2 (by decide) (hts (.fieldLink RX4 25 "FlagCore" "sums" "LFlagCore$Sums;") (by decide +kernel)) (fun _ h9 => h9) rfl hin rfl (by decide +kernel) rfl rfl (Nat.le_of_ble_eq_true rfl) dX4_init_36 (fun H locs hP hD hS => ?_)
  have hP : va_P (dC, dI) vwCl [(h0, .inr (2, [.ref qA, .ref qB, .ref qS, .null, .int 0, .int 0, .int 0, .int 0])), (qA, .inl (k1, 1024, .inl (fun _ => 0))), (qB, .inr (0, [.ref qR])), (qR, .inl (k2, 1024, .inl (fun _ => 0))), (qS, .inr (1, [.ref qB]))] H := hP
  have hD : va_D A [(h0, .inr (2, [.ref qA, .ref qB, .ref qS, .null, .int 0, .int 0, .int 0, .int 0])), (qA, .inl (k1, 1024, .inl (fun _ => 0))), (qB, .inr (0, [.ref qR])), (qR, .inl (k2, 1024, .inl (fun _ => 0))), (qS, .inr (1, [.ref qB]))] := hD
  refine lv_aload_n hx hb dX4_init_39 rfl (lv_at hl 0 rfl) ?_
  refine lv_bipush (v := 7) hx hb dX4_init_40 (by decide) ?_
  refine va_newa (atype := .int) (ty := .int) (N' := 7) (a0 := (7, .inl (fun _ => 0))) hx hb (hts (.arrayClass .int) (by decide +kernel)) rfl hK hP hD hS hA (fun _ => rfl) (by decide) (by decide) (by decide) (Nat.le_of_ble_eq_true rfl) (Nat.le_of_ble_eq_true rfl) dX4_init_42 (fun qT k3 H hK hP hD hS => ?_)
  have hK : va_K (dC, dI) vwCl [(k1, .int), (k2, .int), (k3, .int)] s := hK
  have hP : va_P (dC, dI) vwCl [(h0, .inr (2, [.ref qA, .ref qB, .ref qS, .null, .int 0, .int 0, .int 0, .int 0])), (qA, .inl (k1, 1024, .inl (fun _ => 0))), (qB, .inr (0, [.ref qR])), (qR, .inl (k2, 1024, .inl (fun _ => 0))), (qS, .inr (1, [.ref qB])), (qT, .inl (k3, 7, .inl (fun _ => 0)))] H := hP
  have hD : va_D A [(h0, .inr (2, [.ref qA, .ref qB, .ref qS, .null, .int 0, .int 0, .int 0, .int 0])), (qA, .inl (k1, 1024, .inl (fun _ => 0))), (qB, .inr (0, [.ref qR])), (qR, .inl (k2, 1024, .inl (fun _ => 0))), (qS, .inr (1, [.ref qB])), (qT, .inl (k3, 7, .inl (fun _ => 0)))] := hD
  refine va_putF (D := (dC, dI)) (ci := 2) (v := .ref qT) (ty := .array .int) (C := RX4) (T := TX4) (N := 8) hx hb hts (by decide +kernel) tyX4 tyX4_ok nmX4 hown hK hP hD hS 0 rfl rfl 3 (by decide) (hts (.fieldLink RX4 29 "FlagCore" "tallies" "[I") (by decide +kernel)) (fun _ h9 => h9) rfl hin rfl (by decide +kernel) rfl rfl (Nat.le_of_ble_eq_true rfl) dX4_init_44 (fun H locs hP hD hS => ?_)
  have hP : va_P (dC, dI) vwCl [(h0, .inr (2, [.ref qA, .ref qB, .ref qS, .ref qT, .int 0, .int 0, .int 0, .int 0])), (qA, .inl (k1, 1024, .inl (fun _ => 0))), (qB, .inr (0, [.ref qR])), (qR, .inl (k2, 1024, .inl (fun _ => 0))), (qS, .inr (1, [.ref qB])), (qT, .inl (k3, 7, .inl (fun _ => 0)))] H := hP
  have hD : va_D A [(h0, .inr (2, [.ref qA, .ref qB, .ref qS, .ref qT, .int 0, .int 0, .int 0, .int 0])), (qA, .inl (k1, 1024, .inl (fun _ => 0))), (qB, .inr (0, [.ref qR])), (qR, .inl (k2, 1024, .inl (fun _ => 0))), (qS, .inr (1, [.ref qB])), (qT, .inl (k3, 7, .inl (fun _ => 0)))] := hD
  refine lv_aload_n hx hb dX4_init_47 rfl (lv_at hl 0 rfl) ?_
  refine lv_iconst (v := 0) hx hb dX4_init_48 (by decide) ?_
  refine va_put (D := (dC, dI)) (ci := 2) (v := .int 0) (ty := .int) (C := RX4) (T := TX4) (N := 8) hx hb hts (by decide +kernel) tyX4 tyX4_ok nmX4 hown hK hP hD hS 0 rfl rfl 4 (by decide) (hts (.fieldLink RX4 32 "FlagCore" "pc" "I") (by decide +kernel)) (fun _ h9 => h9) rfl (by decide +kernel) rfl rfl (Nat.le_of_ble_eq_true rfl) dX4_init_49 (fun H locs hP hD hS => ?_)
  have hP : va_P (dC, dI) vwCl [(h0, .inr (2, [.ref qA, .ref qB, .ref qS, .ref qT, .int 0, .int 0, .int 0, .int 0])), (qA, .inl (k1, 1024, .inl (fun _ => 0))), (qB, .inr (0, [.ref qR])), (qR, .inl (k2, 1024, .inl (fun _ => 0))), (qS, .inr (1, [.ref qB])), (qT, .inl (k3, 7, .inl (fun _ => 0)))] H := hP
  have hD : va_D A [(h0, .inr (2, [.ref qA, .ref qB, .ref qS, .ref qT, .int 0, .int 0, .int 0, .int 0])), (qA, .inl (k1, 1024, .inl (fun _ => 0))), (qB, .inr (0, [.ref qR])), (qR, .inl (k2, 1024, .inl (fun _ => 0))), (qS, .inr (1, [.ref qB])), (qT, .inl (k3, 7, .inl (fun _ => 0)))] := hD
  refine lv_aload_n hx hb dX4_init_52 rfl (lv_at hl 0 rfl) ?_
  refine lv_iconst (v := 0) hx hb dX4_init_53 (by decide) ?_
  refine va_put (D := (dC, dI)) (ci := 2) (v := .int 0) (ty := .int) (C := RX4) (T := TX4) (N := 8) hx hb hts (by decide +kernel) tyX4 tyX4_ok nmX4 hown hK hP hD hS 0 rfl rfl 5 (by decide) (hts (.fieldLink RX4 36 "FlagCore" "asked" "I") (by decide +kernel)) (fun _ h9 => h9) rfl (by decide +kernel) rfl rfl (Nat.le_of_ble_eq_true rfl) dX4_init_54 (fun H locs hP hD hS => ?_)
  have hP : va_P (dC, dI) vwCl [(h0, .inr (2, [.ref qA, .ref qB, .ref qS, .ref qT, .int 0, .int 0, .int 0, .int 0])), (qA, .inl (k1, 1024, .inl (fun _ => 0))), (qB, .inr (0, [.ref qR])), (qR, .inl (k2, 1024, .inl (fun _ => 0))), (qS, .inr (1, [.ref qB])), (qT, .inl (k3, 7, .inl (fun _ => 0)))] H := hP
  have hD : va_D A [(h0, .inr (2, [.ref qA, .ref qB, .ref qS, .ref qT, .int 0, .int 0, .int 0, .int 0])), (qA, .inl (k1, 1024, .inl (fun _ => 0))), (qB, .inr (0, [.ref qR])), (qR, .inl (k2, 1024, .inl (fun _ => 0))), (qS, .inr (1, [.ref qB])), (qT, .inl (k3, 7, .inl (fun _ => 0)))] := hD
  refine lv_aload_n hx hb dX4_init_57 rfl (lv_at hl 0 rfl) ?_
  refine lv_iconst (v := 0) hx hb dX4_init_58 (by decide) ?_
  refine va_put (D := (dC, dI)) (ci := 2) (v := .int 0) (ty := .int) (C := RX4) (T := TX4) (N := 8) hx hb hts (by decide +kernel) tyX4 tyX4_ok nmX4 hown hK hP hD hS 0 rfl rfl 6 (by decide) (hts (.fieldLink RX4 39 "FlagCore" "latest" "I") (by decide +kernel)) (fun _ h9 => h9) rfl (by decide +kernel) rfl rfl (Nat.le_of_ble_eq_true rfl) dX4_init_59 (fun H locs hP hD hS => ?_)
  have hP : va_P (dC, dI) vwCl [(h0, .inr (2, [.ref qA, .ref qB, .ref qS, .ref qT, .int 0, .int 0, .int 0, .int 0])), (qA, .inl (k1, 1024, .inl (fun _ => 0))), (qB, .inr (0, [.ref qR])), (qR, .inl (k2, 1024, .inl (fun _ => 0))), (qS, .inr (1, [.ref qB])), (qT, .inl (k3, 7, .inl (fun _ => 0)))] H := hP
  have hD : va_D A [(h0, .inr (2, [.ref qA, .ref qB, .ref qS, .ref qT, .int 0, .int 0, .int 0, .int 0])), (qA, .inl (k1, 1024, .inl (fun _ => 0))), (qB, .inr (0, [.ref qR])), (qR, .inl (k2, 1024, .inl (fun _ => 0))), (qS, .inr (1, [.ref qB])), (qT, .inl (k3, 7, .inl (fun _ => 0)))] := hD
  refine lv_aload_n hx hb dX4_init_62 rfl (lv_at hl 0 rfl) ?_
  refine lv_iconst (v := 0) hx hb dX4_init_63 (by decide) ?_
  refine va_put (D := (dC, dI)) (ci := 2) (v := .int 0) (ty := .boolean) (C := RX4) (T := TX4) (N := 8) hx hb hts (by decide +kernel) tyX4 tyX4_ok nmX4 hown hK hP hD hS 0 rfl rfl 7 (by decide) (hts (.fieldLink RX4 42 "FlagCore" "waiting" "Z") (by decide +kernel)) (fun _ h9 => h9) rfl (by decide +kernel) (by decide) (by decide) (Nat.le_of_ble_eq_true rfl) dX4_init_64 (fun H locs hP hD hS => ?_)
  have hP : va_P (dC, dI) vwCl [(h0, .inr (2, [.ref qA, .ref qB, .ref qS, .ref qT, .int 0, .int 0, .int 0, .int 0])), (qA, .inl (k1, 1024, .inl (fun _ => 0))), (qB, .inr (0, [.ref qR])), (qR, .inl (k2, 1024, .inl (fun _ => 0))), (qS, .inr (1, [.ref qB])), (qT, .inl (k3, 7, .inl (fun _ => 0)))] H := hP
  have hD : va_D A [(h0, .inr (2, [.ref qA, .ref qB, .ref qS, .ref qT, .int 0, .int 0, .int 0, .int 0])), (qA, .inl (k1, 1024, .inl (fun _ => 0))), (qB, .inr (0, [.ref qR])), (qR, .inl (k2, 1024, .inl (fun _ => 0))), (qS, .inr (1, [.ref qB])), (qT, .inl (k3, 7, .inl (fun _ => 0)))] := hD
  subst hAe
  exact W.vret hx hb hr (fun t ht hW => ⟨⟨(), rfl, trivial, qA, qB, qR, qS, qT, k1, k2, k3, by rw [ht]; exact hP, va_K.moved hW.alike hK, hD⟩, hS.F ht⟩) hS.2.2 dX4_init_67

set_option maxHeartbeats 4000000 in
set_option maxRecDepth 100000 in
theorem c_X5_init (l : Launch) (dC : Nat → ClassId) (dI : Nat → Nat → Nat) (h0 sz : Nat) : Met l yX5_init wsX5_init ({ frames := 1, cells := 3, slots := 2055, locals := 12 }) (va_Pc [.ref h0] (fun U => U.heap.size = sz ∧ va_P (dC, dI) vwCl [(h0, .inr (3, [.null, .null, .int 0, .int 0, .int 0, .int 0, .null, .int 0]))] U.heap ∧ va_K (dC, dI) vwCl [] U ∧ va_D (fun _ => True) [(h0, .inr (3, [.null, .null, .int 0, .int 0, .int 0, .int 0, .null, .int 0]))])) (va_Qv (fun _ : Unit => True) (fun _ t => ∃ (qA qB qC : Nat) (k1 k2 k3 : ClassId), va_P (dC, dI) vwCl [(h0, .inr (3, [.ref qA, .ref qB, .int 0, .int 0, .int 0, .int 0, .ref qC, .int 0])), (qA, .inl (k1, 1024, .inl (fun _ => 0))), (qB, .inl (k2, 1024, .inl (fun _ => 0))), (qC, .inl (k3, 7, .inl (fun _ => 0)))] t.heap ∧ va_K (dC, dI) vwCl [(k1, .int), (k2, .int), (k3, .int)] t ∧ va_D (va_A [(h0, .inr (3, [.null, .null, .int 0, .int 0, .int 0, .int 0, .null, .int 0]))] sz) [(h0, .inr (3, [.ref qA, .ref qB, .int 0, .int 0, .int 0, .int 0, .ref qC, .int 0])), (qA, .inl (k1, 1024, .inl (fun _ => 0))), (qB, .inl (k2, 1024, .inl (fun _ => 0))), (qC, .inl (k3, 7, .inl (fun _ => 0)))]) (va_A [(h0, .inr (3, [.null, .null, .int 0, .int 0, .int 0, .int 0, .null, .int 0]))] sz)) 3 2055 (va_A [(h0, .inr (3, [.null, .null, .int 0, .int 0, .int 0, .int 0, .null, .int 0]))] sz) := by
  refine Met.ofW (cc := cX5_init) (maxL := 1) (ret := none) (by decide) rfl ?_
  intro p e s m args below meth c s₁ B hml hv
  obtain ⟨rfl, hsz, hP, hK, hD0⟩ := hv
  have hx := B.exec
  have hb := B.bytes
  have hr := B.returns
  have hts := atoms_spec (ws := wsX5_init) B.pre
  have hown : s.vm.findClass RX5 = some m.cls := findClass_of_methodNamed B.named
  have hlocks := B.notSynchronized
  have hin : meth.name = "<init>" := (name_of_methodNamed B.named B.method).1
  subst hsz
  have hD := hD0.self (sz := s.heap.size)
  generalize hAe : va_A [(h0, .inr (3, [.null, .null, .int 0, .int 0, .int 0, .int 0, .null, .int 0]))] s.heap.size = A at hD ⊢
  have hA : ∀ q : Nat, s.heap.size ≤ q → A q := fun q h => by rw [← hAe]; exact Or.inr h
  have hS : va_S A s.heap s.heap [] := va_S.rf
  have hP : va_P (dC, dI) vwCl [(h0, .inr (3, [.null, .null, .int 0, .int 0, .int 0, .int 0, .null, .int 0]))] s.heap := hP
  have hl := lv_entry ([.ref h0]) (n := 1) (Nat.le_of_ble_eq_true rfl)
  rw [lg_entry_eq]
  generalize (lg_sl ([.ref h0]) ++ List.replicate (1 - (lg_sl ([.ref h0])).length) Slot.unset).toArray = ls at hl ⊢
  have hl : lv_has ls 1 [(0, .ref h0)] := hl
  refine lv_aload_n hx hb dX5_init_0 rfl (lv_at hl 0 rfl) ?_
  refine W.objInit hx hb hown (hts (.methodLink RX5 1 objectInit) (by decide +kernel)) (hts (.instanceMethod objectInit) (by decide +kernel)) (hts _ (List.mem_of_getElem? (i := 3) rfl)) rfl (by rw [hml]; exact hl.1) rfl dX5_init_1 (Nat.le_of_ble_eq_true rfl) (Nat.le_of_ble_eq_true rfl) ?_
  refine W.eq (g2 := F0 m 4 ls []) rfl ?_
  refine lv_aload_n hx hb dX5_init_4 rfl (lv_at hl 0 rfl) ?_
  refine lv_sipush (v := 1024) hx hb dX5_init_5 (by decide) ?_
  refine va_newa (atype := .int) (ty := .int) (N' := 1024) (a0 := (1024, .inl (fun _ => 0))) hx hb (hts (.arrayClass .int) (by decide +kernel)) rfl hK hP hD hS hA (fun _ => rfl) (by decide) (by decide) (by decide) (Nat.le_of_ble_eq_true rfl) (Nat.le_of_ble_eq_true rfl) dX5_init_8 (fun qA k1 H hK hP hD hS => ?_)
  have hP : va_P (dC, dI) vwCl [(h0, .inr (3, [.null, .null, .int 0, .int 0, .int 0, .int 0, .null, .int 0])), (qA, .inl (k1, 1024, .inl (fun _ => 0)))] H := hP
  have hD : va_D A [(h0, .inr (3, [.null, .null, .int 0, .int 0, .int 0, .int 0, .null, .int 0])), (qA, .inl (k1, 1024, .inl (fun _ => 0)))] := hD
  refine va_putF (D := (dC, dI)) (ci := 3) (v := .ref qA) (ty := .array .int) (C := RX5) (T := TX5) (N := 8) hx hb hts (by decide +kernel) tyX5 tyX5_ok nmX5 hown hK hP hD hS 0 rfl rfl 0 (by decide) (hts (.fieldLink RX5 7 "FlagCoreModel" "code" "[I") (by decide +kernel)) (fun _ h9 => h9) rfl hin rfl (by decide +kernel) rfl rfl (Nat.le_of_ble_eq_true rfl) dX5_init_10 (fun H locs hP hD hS => ?_)
  have hP : va_P (dC, dI) vwCl [(h0, .inr (3, [.ref qA, .null, .int 0, .int 0, .int 0, .int 0, .null, .int 0])), (qA, .inl (k1, 1024, .inl (fun _ => 0)))] H := hP
  have hD : va_D A [(h0, .inr (3, [.ref qA, .null, .int 0, .int 0, .int 0, .int 0, .null, .int 0])), (qA, .inl (k1, 1024, .inl (fun _ => 0)))] := hD
  refine lv_aload_n hx hb dX5_init_13 rfl (lv_at hl 0 rfl) ?_
  refine lv_sipush (v := 1024) hx hb dX5_init_14 (by decide) ?_
  refine va_newa (atype := .int) (ty := .int) (N' := 1024) (a0 := (1024, .inl (fun _ => 0))) hx hb (hts (.arrayClass .int) (by decide +kernel)) rfl hK hP hD hS hA (fun _ => rfl) (by decide) (by decide) (by decide) (Nat.le_of_ble_eq_true rfl) (Nat.le_of_ble_eq_true rfl) dX5_init_17 (fun qB k2 H hK hP hD hS => ?_)
  have hP : va_P (dC, dI) vwCl [(h0, .inr (3, [.ref qA, .null, .int 0, .int 0, .int 0, .int 0, .null, .int 0])), (qA, .inl (k1, 1024, .inl (fun _ => 0))), (qB, .inl (k2, 1024, .inl (fun _ => 0)))] H := hP
  have hD : va_D A [(h0, .inr (3, [.ref qA, .null, .int 0, .int 0, .int 0, .int 0, .null, .int 0])), (qA, .inl (k1, 1024, .inl (fun _ => 0))), (qB, .inl (k2, 1024, .inl (fun _ => 0)))] := hD
  refine va_putF (D := (dC, dI)) (ci := 3) (v := .ref qB) (ty := .array .int) (C := RX5) (T := TX5) (N := 8) hx hb hts (by decide +kernel) tyX5 tyX5_ok nmX5 hown hK hP hD hS 0 rfl rfl 1 (by decide) (hts (.fieldLink RX5 13 "FlagCoreModel" "data" "[I") (by decide +kernel)) (fun _ h9 => h9) rfl hin rfl (by decide +kernel) rfl rfl (Nat.le_of_ble_eq_true rfl) dX5_init_19 (fun H locs hP hD hS => ?_)
  have hP : va_P (dC, dI) vwCl [(h0, .inr (3, [.ref qA, .ref qB, .int 0, .int 0, .int 0, .int 0, .null, .int 0])), (qA, .inl (k1, 1024, .inl (fun _ => 0))), (qB, .inl (k2, 1024, .inl (fun _ => 0)))] H := hP
  have hD : va_D A [(h0, .inr (3, [.ref qA, .ref qB, .int 0, .int 0, .int 0, .int 0, .null, .int 0])), (qA, .inl (k1, 1024, .inl (fun _ => 0))), (qB, .inl (k2, 1024, .inl (fun _ => 0)))] := hD
  refine lv_aload_n hx hb dX5_init_22 rfl (lv_at hl 0 rfl) ?_
  refine lv_bipush (v := 7) hx hb dX5_init_23 (by decide) ?_
  refine va_newa (atype := .int) (ty := .int) (N' := 7) (a0 := (7, .inl (fun _ => 0))) hx hb (hts (.arrayClass .int) (by decide +kernel)) rfl hK hP hD hS hA (fun _ => rfl) (by decide) (by decide) (by decide) (Nat.le_of_ble_eq_true rfl) (Nat.le_of_ble_eq_true rfl) dX5_init_25 (fun qC k3 H hK hP hD hS => ?_)
  have hP : va_P (dC, dI) vwCl [(h0, .inr (3, [.ref qA, .ref qB, .int 0, .int 0, .int 0, .int 0, .null, .int 0])), (qA, .inl (k1, 1024, .inl (fun _ => 0))), (qB, .inl (k2, 1024, .inl (fun _ => 0))), (qC, .inl (k3, 7, .inl (fun _ => 0)))] H := hP
  have hD : va_D A [(h0, .inr (3, [.ref qA, .ref qB, .int 0, .int 0, .int 0, .int 0, .null, .int 0])), (qA, .inl (k1, 1024, .inl (fun _ => 0))), (qB, .inl (k2, 1024, .inl (fun _ => 0))), (qC, .inl (k3, 7, .inl (fun _ => 0)))] := hD
  refine va_putF (D := (dC, dI)) (ci := 3) (v := .ref qC) (ty := .array .int) (C := RX5) (T := TX5) (N := 8) hx hb hts (by decide +kernel) tyX5 tyX5_ok nmX5 hown hK hP hD hS 0 rfl rfl 6 (by decide) (hts (.fieldLink RX5 16 "FlagCoreModel" "count" "[I") (by decide +kernel)) (fun _ h9 => h9) rfl hin rfl (by decide +kernel) rfl rfl (Nat.le_of_ble_eq_true rfl) dX5_init_27 (fun H locs hP hD hS => ?_)
  have hP : va_P (dC, dI) vwCl [(h0, .inr (3, [.ref qA, .ref qB, .int 0, .int 0, .int 0, .int 0, .ref qC, .int 0])), (qA, .inl (k1, 1024, .inl (fun _ => 0))), (qB, .inl (k2, 1024, .inl (fun _ => 0))), (qC, .inl (k3, 7, .inl (fun _ => 0)))] H := hP
  have hD : va_D A [(h0, .inr (3, [.ref qA, .ref qB, .int 0, .int 0, .int 0, .int 0, .ref qC, .int 0])), (qA, .inl (k1, 1024, .inl (fun _ => 0))), (qB, .inl (k2, 1024, .inl (fun _ => 0))), (qC, .inl (k3, 7, .inl (fun _ => 0)))] := hD
  refine lv_aload_n hx hb dX5_init_30 rfl (lv_at hl 0 rfl) ?_
  refine lv_iconst (v := 0) hx hb dX5_init_31 (by decide) ?_
  refine va_put (D := (dC, dI)) (ci := 3) (v := .int 0) (ty := .int) (C := RX5) (T := TX5) (N := 8) hx hb hts (by decide +kernel) tyX5 tyX5_ok nmX5 hown hK hP hD hS 0 rfl rfl 2 (by decide) (hts (.fieldLink RX5 19 "FlagCoreModel" "pc" "I") (by decide +kernel)) (fun _ h9 => h9) rfl (by decide +kernel) rfl rfl (Nat.le_of_ble_eq_true rfl) dX5_init_32 (fun H locs hP hD hS => ?_)
  have hP : va_P (dC, dI) vwCl [(h0, .inr (3, [.ref qA, .ref qB, .int 0, .int 0, .int 0, .int 0, .ref qC, .int 0])), (qA, .inl (k1, 1024, .inl (fun _ => 0))), (qB, .inl (k2, 1024, .inl (fun _ => 0))), (qC, .inl (k3, 7, .inl (fun _ => 0)))] H := hP
  have hD : va_D A [(h0, .inr (3, [.ref qA, .ref qB, .int 0, .int 0, .int 0, .int 0, .ref qC, .int 0])), (qA, .inl (k1, 1024, .inl (fun _ => 0))), (qB, .inl (k2, 1024, .inl (fun _ => 0))), (qC, .inl (k3, 7, .inl (fun _ => 0)))] := hD
  have hK : va_K (dC, dI) vwCl [(k1, .int), (k2, .int), (k3, .int)] s := hK
  subst hAe
  exact W.vret hx hb hr (fun t ht hW => ⟨⟨(), rfl, trivial, qA, qB, qC, k1, k2, k3, by rw [ht]; exact hP, va_K.moved hW.alike hK, hD⟩, hS.F ht⟩) hS.2.2 dX5_init_35
