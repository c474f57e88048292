/-- THE LAW, from its entry -/
def vwk (dC0 dC1 dC2 dC3 : ClassId) : Nat → ClassId := fun k => if k = 0 then dC0 else if k = 1 then dC1 else if k = 2 then dC2 else dC3
def vwi (i0 i1 i2 i3 : Nat → Nat) : Nat → Nat → Nat := fun k => if k = 0 then i0 else if k = 1 then i1 else if k = 2 then i2 else i3
set_option maxHeartbeats 4000000 in
set_option maxRecDepth 100000 in
theorem whole_start {p : Program} {e : Env} {s : State} {m : MethodId} {below : List Frame} {meth : Method} {c : Code} (l : Launch) (hflags : l.flags = flags0) {b L : Nat} {xs : Nat → Int32} (hL : L ≤ 2048) (C0 : lw_At p s m meth c b L xs) : W p l e room_1 s m #[Value.ref b] below meth c s.heap [] 0 0 (lw_Z below #[Value.ref b] s) (entryFrame m ([Value.ref b] : List Value).toArray 4) := by
  obtain ⟨hx, hb, hr, hml, hown, hts, hX, hbl, hlocks, hgv⟩ := id C0
  have htsL : ∀ w ∈ wsL_law, w.before #[Value.ref b] s = true := fun w hw => hts w (wsL_law_in w hw)
  have hA : ∀ q : Nat, s.heap.size ≤ q → (fun q : Nat => s.heap.size ≤ q) q := fun _ h => h
  have hbA : ¬ (fun q : Nat => s.heap.size ≤ q) b := Nat.not_le.mpr hbl
  have gX := gL_law_X4_init
  have gM := gL_law_X5_init
  have w_i0 : Cond.instantiable RX0 1 ∈ wsL_law := List.mem_of_getElem? (i := 16) (by decide +kernel)
  have w_i2 : Cond.instantiable RX2 1 ∈ wsL_law := List.mem_of_getElem? (i := 20) (by decide +kernel)
  have w_i4 : Cond.instantiable RX4 8 ∈ wsL_law := List.mem_of_getElem? (i := 1) (by decide +kernel)
  have w_i5 : Cond.instantiable RX5 8 ∈ wsL_law := List.mem_of_getElem? (i := 4) (by decide +kernel)
  obtain ⟨c0, iS0, hKn0⟩ := u_known (C := RX0) (T := TX0) (N := 1) (n := 1) htsL inlX0 (htsL _ w_i0)
  obtain ⟨c1, iS1, hKn1⟩ := u_known (C := RX2) (T := TX2) (N := 1) (n := 1) htsL inlX2 (htsL _ w_i2)
  obtain ⟨c2, iS2, hKn2⟩ := u_known (C := RX4) (T := TX4) (N := 8) (n := 8) htsL inlX4 (htsL _ w_i4)
  obtain ⟨c3, iS3, hKn3⟩ := u_known (C := RX5) (T := TX5) (N := 8) (n := 8) htsL inlX5 (htsL _ w_i5)
  obtain ⟨dC, dI, hKc⟩ : ∃ (dC : Nat → ClassId) (dI : Nat → Nat → Nat), ∀ (k : Nat) (q : vw_C), vwCl[k]? = some q → u_Kn s q.1 q.2.1 q.2.2 (dC k) (dI k) := by
    refine ⟨vwk c0 c1 c2 c3, vwi iS0 iS1 iS2 iS3, ?_⟩
    intro k q hq
    match k, hq with
    | 0, hq => cases hq; exact hKn0
    | 1, hq => cases hq; exact hKn1
    | 2, hq => cases hq; exact hKn2
    | 3, hq => cases hq; exact hKn3
    | k + 4, hq => simp [vwCl] at hq
  have hS : va_S (fun q : Nat => s.heap.size ≤ q) s.heap s.heap [] := va_S.rf
  have hK : va_K (dC, dI) vwCl [] s := ⟨hKc, fun k q h => by simp at h⟩
  have hP : va_P (dC, dI) vwCl [] s.heap := fun k q h => by simp at h
  have hD : va_D (fun q : Nat => s.heap.size ≤ q) [] := ⟨fun i j p q h => by simp at h, fun k q h => by simp at h⟩
  have hl := lv_entry ([.ref b]) (n := 4) (Nat.le_of_ble_eq_true rfl)
  rw [lg_entry_eq]
  generalize (lg_sl ([.ref b]) ++ List.replicate (4 - (lg_sl ([.ref b])).length) Slot.unset).toArray = ls at hl ⊢
  have hl : lv_has ls 4 [(0, .ref b)] := hl
  refine va_new (ci := 2) (fs := [.null, .null, .null, .null, .int 0, .int 0, .int 0, .int 0]) (C := RX4) (T := TX4) (N := 8) hx hb htsL inlX4 tyX4 tyX4_ok hown (htsL (.classLink RL 7 RX4) (List.mem_of_getElem? (i := 0) (by decide +kernel))) (htsL _ w_i4) (htsL (.initialized RX4) (List.mem_of_getElem? (i := 2) (by decide +kernel))) hK hP hD hS hA rfl (fun j hj => by rcases (show j = 0 ∨ j = 1 ∨ j = 2 ∨ j = 3 ∨ j = 4 ∨ j = 5 ∨ j = 6 ∨ j = 7 by omega) with rfl | rfl | rfl | rfl | rfl | rfl | rfl | rfl <;> rfl) (Nat.le_of_ble_eq_true rfl) (Nat.le_of_ble_eq_true rfl) dL_law_0 (fun o H hP hD hS => ?_)
  have hP : va_P (dC, dI) vwCl [(o, .inr (2, [.null, .null, .null, .null, .int 0, .int 0, .int 0, .int 0]))] H := hP
  have hD : va_D (fun q : Nat => s.heap.size ≤ q) [(o, .inr (2, [.null, .null, .null, .null, .int 0, .int 0, .int 0, .int 0]))] := hD
  refine lv_dup hx hb dL_law_3 rfl ?_
  have hPc := hP.sub (ws' := [(o, .inr (2, [.null, .null, .null, .null, .int 0, .int 0, .int 0, .int 0]))]) [0] rfl
  have hDc := hD.sub (ws' := [(o, .inr (2, [.null, .null, .null, .null, .int 0, .int 0, .int 0, .int 0]))]) [0] (by decide) rfl
  have hKc2 := hK.sub (tys' := []) [] rfl
  have hFc := va_free (wc := [(o, .inr (2, [.null, .null, .null, .null, .int 0, .int 0, .int 0, .int 0]))]) hD hS hA [0] rfl
  refine va_callv (va_runI (As := []) (rest := [.ref o]) ⟨hx, hb, hml, hown, htsL⟩ (c_X4_init l dC dI o H.size) (cwI 0 htsL gX rfl rfl rfl (htsL (.initialized RX4) (List.mem_of_getElem? (i := 2) (by decide +kernel))) (htsL (.methodLink RL 9 yX4_init) (List.mem_of_getElem? (i := 7) (by decide +kernel))) (htsL (.instanceMethod yX4_init) (List.mem_of_getElem? (i := 8) (by decide +kernel))) rfl (by decide +kernel) ⟨Nat.le_of_ble_eq_true rfl, Nat.le_of_ble_eq_true rfl⟩) ⟨fun a U g mk q => by obtain ⟨q0, q1, qP, qK, qD⟩ := q; exact ⟨q0, q1, qP, va_K.moved (u := U) (U := U.calling g mk a) (Vm.Alike.refl U.vm) qK, qD⟩, fun U hU hW => ⟨rfl, by rw [hU], by rw [hU]; exact hPc, va_K.moved hW.alike hKc2, hDc.weaken (fun _ _ _ _ => trivial)⟩⟩ rfl rfl hl.1 rfl (lv_room (Nat.le_of_ble_eq_true rfl)) dL_law_4 ⟨Nat.le_of_ble_eq_true rfl, Nat.le_of_ble_eq_true rfl⟩) hS (fun q _ h => hFc q h) hFc (fun u t H1 locs ht hvm hw hB hz1 hk1 hS => ?_)
  obtain ⟨qA, qB, qR, qS, qT, k1, k2, k3, hP1, hK1, hD1⟩ := hB
  rw [ht] at hP1
  have hK1 := va_K.moved hvm.symm hK1
  obtain ⟨hP, hD⟩ := va_join (wr := []) (w1 := [(o, .inr (2, [.ref qA, .ref qB, .ref qS, .ref qT, .int 0, .int 0, .int 0, .int 0])), (qA, .inl (k1, 1024, .inl (fun _ => 0))), (qB, .inr (0, [.ref qR])), (qR, .inl (k2, 1024, .inl (fun _ => 0))), (qS, .inr (1, [.ref qB])), (qT, .inl (k3, 7, .inl (fun _ => 0)))]) hP hD [0] [] rfl rfl (by decide) (by decide) hk1 hFc hP1 hD1
  have hK := hK.app hK1
  generalize H1 = H at hP hS ⊢
  have hP : va_P (dC, dI) vwCl [(o, .inr (2, [.ref qA, .ref qB, .ref qS, .ref qT, .int 0, .int 0, .int 0, .int 0])), (qA, .inl (k1, 1024, .inl (fun _ => 0))), (qB, .inr (0, [.ref qR])), (qR, .inl (k2, 1024, .inl (fun _ => 0))), (qS, .inr (1, [.ref qB])), (qT, .inl (k3, 7, .inl (fun _ => 0)))] H := hP
  have hD : va_D (fun q : Nat => s.heap.size ≤ q) [(o, .inr (2, [.ref qA, .ref qB, .ref qS, .ref qT, .int 0, .int 0, .int 0, .int 0])), (qA, .inl (k1, 1024, .inl (fun _ => 0))), (qB, .inr (0, [.ref qR])), (qR, .inl (k2, 1024, .inl (fun _ => 0))), (qS, .inr (1, [.ref qB])), (qT, .inl (k3, 7, .inl (fun _ => 0)))] := hD
  have hK : va_K (dC, dI) vwCl [(k1, .int), (k2, .int), (k3, .int)] s := hK
  refine lv_astore_n (lv' := [(1, .ref o), (0, .ref b)]) hx hb dL_law_7 rfl hl (by decide) rfl (fun ls hl => ?_)
  refine va_new (ci := 3) (fs := [.null, .null, .int 0, .int 0, .int 0, .int 0, .null, .int 0]) (C := RX5) (T := TX5) (N := 8) hx hb htsL inlX5 tyX5 tyX5_ok hown (htsL (.classLink RL 10 RX5) (List.mem_of_getElem? (i := 3) (by decide +kernel))) (htsL _ w_i5) (htsL (.initialized RX5) (List.mem_of_getElem? (i := 5) (by decide +kernel))) hK hP hD hS hA rfl (fun j hj => by rcases (show j = 0 ∨ j = 1 ∨ j = 2 ∨ j = 3 ∨ j = 4 ∨ j = 5 ∨ j = 6 ∨ j = 7 by omega) with rfl | rfl | rfl | rfl | rfl | rfl | rfl | rfl <;> rfl) (Nat.le_of_ble_eq_true rfl) (Nat.le_of_ble_eq_true rfl) dL_law_8 (fun o2 H hP hD hS => ?_)
  have hP : va_P (dC, dI) vwCl [(o, .inr (2, [.ref qA, .ref qB, .ref qS, .ref qT, .int 0, .int 0, .int 0, .int 0])), (qA, .inl (k1, 1024, .inl (fun _ => 0))), (qB, .inr (0, [.ref qR])), (qR, .inl (k2, 1024, .inl (fun _ => 0))), (qS, .inr (1, [.ref qB])), (qT, .inl (k3, 7, .inl (fun _ => 0))), (o2, .inr (3, [.null, .null, .int 0, .int 0, .int 0, .int 0, .null, .int 0]))] H := hP
  have hD : va_D (fun q : Nat => s.heap.size ≤ q) [(o, .inr (2, [.ref qA, .ref qB, .ref qS, .ref qT, .int 0, .int 0, .int 0, .int 0])), (qA, .inl (k1, 1024, .inl (fun _ => 0))), (qB, .inr (0, [.ref qR])), (qR, .inl (k2, 1024, .inl (fun _ => 0))), (qS, .inr (1, [.ref qB])), (qT, .inl (k3, 7, .inl (fun _ => 0))), (o2, .inr (3, [.null, .null, .int 0, .int 0, .int 0, .int 0, .null, .int 0]))] := hD
  refine lv_dup hx hb dL_law_11 rfl ?_
  have hPc := hP.sub (ws' := [(o2, .inr (3, [.null, .null, .int 0, .int 0, .int 0, .int 0, .null, .int 0]))]) [6] rfl
  have hDc := hD.sub (ws' := [(o2, .inr (3, [.null, .null, .int 0, .int 0, .int 0, .int 0, .null, .int 0]))]) [6] (by decide) rfl
  have hFc := va_free (wc := [(o2, .inr (3, [.null, .null, .int 0, .int 0, .int 0, .int 0, .null, .int 0]))]) hD hS hA [6] rfl
  refine va_callv (va_runI (As := []) (rest := [.ref o2]) ⟨hx, hb, hml, hown, htsL⟩ (c_X5_init l dC dI o2 H.size) (cwI 0 htsL gM rfl rfl rfl (htsL (.initialized RX5) (List.mem_of_getElem? (i := 5) (by decide +kernel))) (htsL (.methodLink RL 12 yX5_init) (List.mem_of_getElem? (i := 38) (by decide +kernel))) (htsL (.instanceMethod yX5_init) (List.mem_of_getElem? (i := 39) (by decide +kernel))) rfl (by decide +kernel) ⟨Nat.le_of_ble_eq_true rfl, Nat.le_of_ble_eq_true rfl⟩) ⟨fun a U g mk q => by obtain ⟨q0, q1, qP, qK, qD⟩ := q; exact ⟨q0, q1, qP, va_K.moved (u := U) (U := U.calling g mk a) (Vm.Alike.refl U.vm) qK, qD⟩, fun U hU hW => ⟨rfl, by rw [hU], by rw [hU]; exact hPc, va_K.moved hW.alike hKc2, hDc.weaken (fun _ _ _ _ => trivial)⟩⟩ rfl rfl hl.1 rfl (lv_room (Nat.le_of_ble_eq_true rfl)) dL_law_12 ⟨Nat.le_of_ble_eq_true rfl, Nat.le_of_ble_eq_true rfl⟩) hS (fun q _ h => hFc q h) hFc (fun u t H1 locs ht hvm hw hB hz1 hk1 hS => ?_)
  obtain ⟨mA, mB, mC, j1, j2, j3, hP1, hK1, hD1⟩ := hB
  rw [ht] at hP1
  have hK1 := va_K.moved hvm.symm hK1
  obtain ⟨hP, hD⟩ := va_join (wr := [(o, .inr (2, [.ref qA, .ref qB, .ref qS, .ref qT, .int 0, .int 0, .int 0, .int 0])), (qA, .inl (k1, 1024, .inl (fun _ => 0))), (qB, .inr (0, [.ref qR])), (qR, .inl (k2, 1024, .inl (fun _ => 0))), (qS, .inr (1, [.ref qB])), (qT, .inl (k3, 7, .inl (fun _ => 0)))]) (w1 := [(o2, .inr (3, [.ref mA, .ref mB, .int 0, .int 0, .int 0, .int 0, .ref mC, .int 0])), (mA, .inl (j1, 1024, .inl (fun _ => 0))), (mB, .inl (j2, 1024, .inl (fun _ => 0))), (mC, .inl (j3, 7, .inl (fun _ => 0)))]) hP hD [6] [0, 1, 2, 3, 4, 5] rfl rfl (by decide) (by decide) hk1 hFc hP1 hD1
  have hK := hK.app hK1
  generalize H1 = H at hP hS ⊢
  have hP : va_P (dC, dI) vwCl [(o, .inr (2, [.ref qA, .ref qB, .ref qS, .ref qT, .int 0, .int 0, .int 0, .int 0])), (qA, .inl (k1, 1024, .inl (fun _ => 0))), (qB, .inr (0, [.ref qR])), (qR, .inl (k2, 1024, .inl (fun _ => 0))), (qS, .inr (1, [.ref qB])), (qT, .inl (k3, 7, .inl (fun _ => 0))), (o2, .inr (3, [.ref mA, .ref mB, .int 0, .int 0, .int 0, .int 0, .ref mC, .int 0])), (mA, .inl (j1, 1024, .inl (fun _ => 0))), (mB, .inl (j2, 1024, .inl (fun _ => 0))), (mC, .inl (j3, 7, .inl (fun _ => 0)))] H := hP
  have hD : va_D (fun q : Nat => s.heap.size ≤ q) [(o, .inr (2, [.ref qA, .ref qB, .ref qS, .ref qT, .int 0, .int 0, .int 0, .int 0])), (qA, .inl (k1, 1024, .inl (fun _ => 0))), (qB, .inr (0, [.ref qR])), (qR, .inl (k2, 1024, .inl (fun _ => 0))), (qS, .inr (1, [.ref qB])), (qT, .inl (k3, 7, .inl (fun _ => 0))), (o2, .inr (3, [.ref mA, .ref mB, .int 0, .int 0, .int 0, .int 0, .ref mC, .int 0])), (mA, .inl (j1, 1024, .inl (fun _ => 0))), (mB, .inl (j2, 1024, .inl (fun _ => 0))), (mC, .inl (j3, 7, .inl (fun _ => 0)))] := hD
  have hK : va_K (dC, dI) vwCl [(k1, .int), (k2, .int), (k3, .int), (j1, .int), (j2, .int), (j3, .int)] s := hK
  refine lv_astore_n (lv' := [(2, .ref o2), (1, .ref o), (0, .ref b)]) hx hb dL_law_15 rfl hl (by decide) rfl (fun ls hl => ?_)
  refine lv_iconst (v := 0) hx hb dL_law_16 (by decide) ?_
  refine lv_istore_n (lv' := [(3, .int 0), (2, .ref o2), (1, .ref o), (0, .ref b)]) hx hb dL_law_17 rfl hl (by decide) rfl (fun ls hl => ?_)
  have hP6 := hP.sub (ws' := [(o, .inr (2, [.ref qA, .ref qB, .ref qS, .ref qT, .int 0, .int 0, .int 0, .int 0])), (qA, .inl (k1, 1024, .inl (fun _ => 0))), (qB, .inr (0, [.ref qR])), (qR, .inl (k2, 1024, .inl (fun _ => 0))), (qS, .inr (1, [.ref qB])), (qT, .inl (k3, 7, .inl (fun _ => 0)))]) [0, 1, 2, 3, 4, 5] rfl
  have hP4 := hP.sub (ws' := [(o2, .inr (3, [.ref mA, .ref mB, .int 0, .int 0, .int 0, .int 0, .ref mC, .int 0])), (mA, .inl (j1, 1024, .inl (fun _ => 0))), (mB, .inl (j2, 1024, .inl (fun _ => 0))), (mC, .inl (j3, 7, .inl (fun _ => 0)))]) [6, 7, 8, 9] rfl
  have hD6 := hD.sub (ws' := [(o, .inr (2, [.ref qA, .ref qB, .ref qS, .ref qT, .int 0, .int 0, .int 0, .int 0])), (qA, .inl (k1, 1024, .inl (fun _ => 0))), (qB, .inr (0, [.ref qR])), (qR, .inl (k2, 1024, .inl (fun _ => 0))), (qS, .inr (1, [.ref qB])), (qT, .inl (k3, 7, .inl (fun _ => 0)))]) [0, 1, 2, 3, 4, 5] (by decide) rfl
  have hD4 := hD.sub (ws' := [(o2, .inr (3, [.ref mA, .ref mB, .int 0, .int 0, .int 0, .int 0, .ref mC, .int 0])), (mA, .inl (j1, 1024, .inl (fun _ => 0))), (mB, .inl (j2, 1024, .inl (fun _ => 0))), (mC, .inl (j3, 7, .inl (fun _ => 0)))]) [6, 7, 8, 9] (by decide) rfl
  have hE : okE (EX ((dC, dI), (k1, k2, k3), (o, qA, qB, qR, qS, qT))) := okE_of hD6 (fun u => rfl) (fun q hq => by
    simp only [List.map, List.mem_cons, List.not_mem_nil, or_false] at hq
    exact hq)
  have hE' : okE (EM ((dC, dI), (j1, j2, j3), (o2, mA, mB, mC))) := okE_of hD4 (fun u => rfl) (fun q hq => by
    simp only [List.map, List.mem_cons, List.not_mem_nil, or_false] at hq
    exact hq)
  have hA1 : ∀ q, (EX ((dC, dI), (k1, k2, k3), (o, qA, qB, qR, qS, qT))).2.2.1 q → s.heap.size ≤ q := by
    rintro q (h | h | h | h | h | h)
    · rw [h]; exact hD6.2 0 _ rfl
    · rw [h]; exact hD6.2 1 _ rfl
    · rw [h]; exact hD6.2 2 _ rfl
    · rw [h]; exact hD6.2 3 _ rfl
    · rw [h]; exact hD6.2 4 _ rfl
    · rw [h]; exact hD6.2 5 _ rfl
  have hA2 : ∀ q, (EM ((dC, dI), (j1, j2, j3), (o2, mA, mB, mC))).2.2.1 q → s.heap.size ≤ q := by
    rintro q (h | h | h | h)
    · rw [h]; exact hD4.2 0 _ rfl
    · rw [h]; exact hD4.2 1 _ rfl
    · rw [h]; exact hD4.2 2 _ rfl
    · rw [h]; exact hD4.2 3 _ rfl
  have hdis : ∀ q, (EX ((dC, dI), (k1, k2, k3), (o, qA, qB, qR, qS, qT))).2.2.1 q → ¬ (EM ((dC, dI), (j1, j2, j3), (o2, mA, mB, mC))).2.2.1 q := by
    rintro q (h | h | h | h | h | h) (g | g | g | g)
    · exact absurd (hD.1 0 6 _ _ rfl rfl (h.symm.trans g)) (by decide)
    · exact absurd (hD.1 0 7 _ _ rfl rfl (h.symm.trans g)) (by decide)
    · exact absurd (hD.1 0 8 _ _ rfl rfl (h.symm.trans g)) (by decide)
    · exact absurd (hD.1 0 9 _ _ rfl rfl (h.symm.trans g)) (by decide)
    · exact absurd (hD.1 1 6 _ _ rfl rfl (h.symm.trans g)) (by decide)
    · exact absurd (hD.1 1 7 _ _ rfl rfl (h.symm.trans g)) (by decide)
    · exact absurd (hD.1 1 8 _ _ rfl rfl (h.symm.trans g)) (by decide)
    · exact absurd (hD.1 1 9 _ _ rfl rfl (h.symm.trans g)) (by decide)
    · exact absurd (hD.1 2 6 _ _ rfl rfl (h.symm.trans g)) (by decide)
    · exact absurd (hD.1 2 7 _ _ rfl rfl (h.symm.trans g)) (by decide)
    · exact absurd (hD.1 2 8 _ _ rfl rfl (h.symm.trans g)) (by decide)
    · exact absurd (hD.1 2 9 _ _ rfl rfl (h.symm.trans g)) (by decide)
    · exact absurd (hD.1 3 6 _ _ rfl rfl (h.symm.trans g)) (by decide)
    · exact absurd (hD.1 3 7 _ _ rfl rfl (h.symm.trans g)) (by decide)
    · exact absurd (hD.1 3 8 _ _ rfl rfl (h.symm.trans g)) (by decide)
    · exact absurd (hD.1 3 9 _ _ rfl rfl (h.symm.trans g)) (by decide)
    · exact absurd (hD.1 4 6 _ _ rfl rfl (h.symm.trans g)) (by decide)
    · exact absurd (hD.1 4 7 _ _ rfl rfl (h.symm.trans g)) (by decide)
    · exact absurd (hD.1 4 8 _ _ rfl rfl (h.symm.trans g)) (by decide)
    · exact absurd (hD.1 4 9 _ _ rfl rfl (h.symm.trans g)) (by decide)
    · exact absurd (hD.1 5 6 _ _ rfl rfl (h.symm.trans g)) (by decide)
    · exact absurd (hD.1 5 7 _ _ rfl rfl (h.symm.trans g)) (by decide)
    · exact absurd (hD.1 5 8 _ _ rfl rfl (h.symm.trans g)) (by decide)
    · exact absurd (hD.1 5 9 _ _ rfl rfl (h.symm.trans g)) (by decide)
  refine W.widen (k := 10) (n := 4128) (Nat.le_of_ble_eq_true rfl) (Nat.le_of_ble_eq_true rfl) ?_
  exact law_loop (h := ((dC, dI), (k1, k2, k3), (o, qA, qB, qR, qS, qT))) (h' := ((dC, dI), (j1, j2, j3), (o2, mA, mB, mC))) hL C0 hE hE' (hK.sub [0, 1, 2] rfl) (hK.sub [3, 4, 5] rfl) hA1 hA2 hdis 0 (L + 1) 0 (Nat.zero_le L) (by omega) u00 inv0 H _ ls hP6 hP4 hS hl
-- ===== YOUR PART ENDS =====
set_option maxHeartbeats 4000000 in
theorem lw_walk (l : Launch) (hflags : l.flags = flags0) (b : Addr) (xs : List Int32) : MetFree l x (headSpec (Jvm.Cond.code x code maxLocals ret :: tables_1) room_1) (lw_P b xs) (fun _ _ _ _ _ => True) lw_Q := by
  refine MetFree.of_bodyS (code := code) (maxLocals := maxLocals) (ret := ret) (by decide) ?_ ?_
  · intro args s m h hn
    obtain ⟨meth, c, h1, h2, h3, h4, h5, h6, -, -⟩ := Cond.code_spec hn (atoms_spec (ws := Jvm.Cond.code x code maxLocals ret :: tables_1) h _ List.mem_cons_self)
    exact ⟨meth, c, h1, h2, h3, h4, h5, h6⟩
  · intro p e s m args below meth c s₁ B hml0 hP _
    obtain ⟨rfl, hx, hbd, hgv⟩ := hP
    obtain ⟨scr, harrAt, hlist, hof, hsmall⟩ := hx
    obtain ⟨hcb, hkn, -, -⟩ := State.arrayAt?_spec harrAt
    have hown : s.vm.findClass R_law = some m.cls := findClass_of_methodNamed B.named
    have hts0 : ∀ c ∈ (Jvm.Cond.code x code maxLocals ret :: tables_1), c.before #[Value.ref b] s = true := atoms_spec (ws := Jvm.Cond.code x code maxLocals ret :: tables_1) B.pre
    have hts : ∀ w ∈ lw_tbl, w.before #[Value.ref b] s = true := k2_hts_sels lw_privs (fun w hw => hts0 w (List.mem_cons_of_mem _ hw)) lw_privs_ok
    have hml : c.maxLocals = 4 := B.maxLocals_eq (hts0 _ List.mem_cons_self)
    have X₀ : Stand p l e room_1 s m #[Value.ref b] below meth c s₁ [] 0 0 := Stand.of_body B
    have hh0 : s₁.heap = s.heap := by rw [B.state]; rfl
    have hsz : scr.slots.size = xs.length := by rw [← Array.length_toList, hlist, List.length_map]
    have hval : ∀ j : Nat, j < xs.length → scr.slots[j]? = some (.int (xs.getD j 0)) := fun j hj => by
      rw [← Array.getElem?_toList, hlist]
      simp [hj]
    have hbl : b < s.heap.size := (Array.getElem?_eq_some_iff.mp hcb).1
    have hX : va_X b xs.length (fun j => xs.getD j 0) s s.heap := ⟨scr, hcb, hof, hkn, hsz, hval⟩
    have K : W p l e room_1 s m #[Value.ref b] below meth c s₁.heap [] 0 0 (lw_Z below #[Value.ref b] s) (entryFrame m ([Value.ref b] : List Value).toArray 4) := by
      rw [hh0]
      exact whole_start l hflags hbd ⟨B.exec, B.bytes, B.returns, hml, hown, hts, hX, hbl, B.notSynchronized, hgv⟩
    obtain ⟨t, a1, o, b1, b2, b3⟩ := K s₁ rfl X₀
    exact ⟨t, o, a1, b1, b2, b3⟩
theorem lw_pre_spec {args : Array Value} {s : State} (h : (Jvm.Cond.and given_1 narrow_1).before args s = true) (hr : rest_1_c.before args s = true) : ∃ (b : Addr) (xs : List Int32), lw_P b xs args s := by
  have hs := flat_of_before _ h
  have hq := flat_of_before _ hr
  have hc : (Cond.count 1).before args s = true := hs _ (by decide +kernel)
  have harr : (Cond.arrayOf (.arg 0) .int).before args s = true := hs _ (by decide +kernel)
  have hle : (Cond.le (.length (.arg 0)) (.int 2048)).before args s = true := hs _ (by decide +kernel)
  have hlen : (Cond.isInt (.length (.arg 0))).before args s = true := hq _ (by decide +kernel)
  have hall : (Cond.all (.arg 0) (.isInt (.elem (.arg 0) (.index 0)))).before args s = true := hq _ (by decide +kernel)
  obtain ⟨b, xs, hb, hx⟩ := State.ints_of_pre rfl harr hlen hall
  have hsm : xs.length < 2 ^ 31 := hx.choose_spec.2.2.2
  have hev : (Term.length (.arg 0)).eval args s none [] s = some (.int xs.length.toInt32) := hx.length_eval hb
  have hv := Cond.le_ints hev (show (Term.int 2048).eval args s none [] s = some (.int 2048) from rfl)
  have hd : xs.length.toInt32 ≤ 2048 := by
    simpa [Cond.before, Cond.holds, hv] using hle
  have hN : xs.length ≤ 2048 := (Int32.ofNat_le_ofNat hsm (by decide)).mp (show Int32.ofNat xs.length ≤ Int32.ofNat 2048 from hd)
  exact ⟨b, xs, Cond.one_arg hc (show args[0]? = some (.ref b) from hb), hx, hN, h⟩
theorem lw_comes (l : Launch) (hflags : l.flags = flags0) : Comes l x (Jvm.Cond.code x code maxLocals ret :: tables_1) room_1 (fun tb e args s => Calls_1 tb e args s ∧ rest_1 tb e args s ∧ Pre_1 tb e args s)
    (fun _ _ args s o t => lw_Q args s o t) := by
  intro p e ha hc hk s m args below hf hfit hheap happ hpre
  obtain ⟨b, xs, hP⟩ := lw_pre_spec hpre.2.2 hpre.2.1
  obtain ⟨k, o, h1, h2, h3, hQ⟩ := lw_walk l hflags b xs p e ha hc hk s m args below hf ((Spec.applies_iff_loose hf).mp happ).1 hP trivial
  exact ⟨k, o, h1, h2, h3, hQ⟩
theorem lw_frame {s t : State} {o : Outcome} {args : Array Value} (h : Framed s o t [] 10 4128) :
    Framed s o t (fieldLocs frame_1_writes args s ++ arrayLocs frame_1_arrays args s ++ staticLocs frame_1_statics s) 10 4128 := h
theorem lw_limb (L : Cond) (hL : ∀ (args : Array Value) (s t : State), L.after args s (.returned (some (.int 1))) t = true) :
    ArmFor flags0 classFile x code maxLocals ret World_1 tables_1 room_1 Calls_1 rest_1 Pre_1
      (fun tb e a s o t => postC L tb e a s o t ∧ Framed s o t (fieldLocs frame_1_writes a s ++ arrayLocs frame_1_arrays a s ++ staticLocs frame_1_statics s) 10 4128) := by
  intro l hflags _ _ p e ha hc hk s m args below hf hfit hheap happ hpre
  obtain ⟨k, o, h1, h2, h3, rfl, hF⟩ := lw_comes l hflags p e ha hc hk s m args below hf hfit hheap happ hpre
  exact ⟨k, _, h1, h2, h3, hL args s _, lw_frame hF⟩
theorem i_vc : Claimed_1_1 ∧ Claimed_1_2 := ⟨lw_limb limb_1_1 (fun args s t => by simp [limb_1_1, Cond.after, Cond.holds, Cond.value]), lw_limb limb_1_2 (fun args s t => Cond.after_iff.mpr (by
  first | (rw [show limb_1_2 = Cond.eq .result (.int 1) from rfl, Cond.eq_ints (x := 1) (y := 1) rfl rfl]; simp; done) | (simp [limb_1_2, Cond.value, Term.eval]; done)))⟩
