/-! memory -/
theorem rD_nx (u : ST) (p i : Int32) : rD (sNx u p) i = rD u i := rfl
theorem rC_nx (u : ST) (p i : Int32) : rC (sNx u p) i = rC u i := rfl
theorem gNx_wD (u : ST) (i x : Int32) : gNx (wD u i x) = gNx u := rfl
theorem gPc_wD (u : ST) (i x : Int32) : gPc (wD u i x) = gPc u := rfl
theorem far0 {x : Int32} (h : x ≤ 1023) : fX5_isFar x = 0 := if_pos h
theorem far1 {x : Int32} (h : ¬ x ≤ 1023) : fX5_isFar x = 1 := if_neg h
theorem vin_le {x : Int32} (h0 : 0 ≤ x.toInt) (h : x ≤ 1023) : vp_in x 1024 := vin_of h0 (by
  have h1 := Int32.le_iff_toInt_le.mp h
  have h2 : (1023 : Int32).toInt = 1023 := by decide
  omega)
theorem tr_nx (w i : Int32) (u : ST) : gNx (fX4_transfer w i u) = gNx u ∧ gPc (fX4_transfer w i u) = gPc u := by
  unfold fX4_transfer fX0_set
  split <;> exact ⟨rfl, rfl⟩
theorem tr_IB {u : ST} (hu : IB u) (w i : Int32) : IB (fX4_transfer w i u) := by
  unfold fX4_transfer fX0_set
  split <;> exact hu.w _ (byte_and _)
theorem moves_ok {u : ST} (hu : IB u) (w : Int32) {i : Int32} (q : Int32) (h0 : 0 ≤ i.toInt) (h : i ≤ 1023) : fX5_moves i (fX5_dOf w) (if (w &&& (512 : Int32)) = 0 then (0 : Int32) else 1) (sNx u q) = (sNx (fX4_transfer w i u) q, 0) := by
  have hi := vin_le h0 h
  unfold fX5_moves fX4_transfer fX0_set fX0_get fX3_d fX5_dOf
  rw [if_pos (far0 h), i_d, and1023 hi, (hu.r _).and255, (hu.r _).and255, rD_nx, rD_nx, wD_nx, wD_nx]
  by_cases c : (w &&& (512 : Int32)) = 0
  · simp only [if_pos c, if_true]
  · simp only [if_neg c, if_neg (show ¬ (1 : Int32) = 0 by decide)]
theorem moves_far {i : Int32} (h : ¬ i ≤ 1023) (d s : Int32) (v : ST) : fX5_moves i d s v = (v, 3) := by
  unfold fX5_moves
  rw [far1 h]
  exact if_neg (by decide)
theorem fin_far (u : ST) (q : Int32) : (u, (3 : Int32)) = Fin u (sNx u q, 3) := fin_stay u 3 (by decide) rfl
theorem g_moves {u : ST} (hu : IB u) (w i k q : Int32) (h0 : 0 ≤ i.toInt) (hq : q = (gPc u + k) &&& (1023 : Int32)) : (if i ≤ 1023 then fX4_onward k (fX4_transfer w i u) else (u, 3)) = Fin u (fX5_moves i (fX5_dOf w) (if (w &&& (512 : Int32)) = 0 then (0 : Int32) else 1) (sNx u q)) := by
  by_cases h : i ≤ 1023
  · rw [if_pos h, moves_ok hu w q h0 h]
    exact fin_pc rfl (tr_nx w i u).1 (by rw [(tr_nx w i u).2]; exact hq)
  · rw [if_neg h, moves_far h]
    exact fin_far u q
theorem p30 (u : ST) : fX0_pair 30 u = fX5_pair 30 u := pair_n (k := 30) (by decide) u
theorem p28 (u : ST) : fX0_pair 28 u = fX5_pair 28 u := pair_n (k := 28) (by decide) u
theorem p26 (u : ST) : fX0_pair 26 u = fX5_pair 26 u := pair_n (k := 26) (by decide) u
theorem p93 (u : ST) : fX0_pair 93 u = fX5_pair 93 u := pair_n (k := 93) (by decide) u
theorem s30 (x : Int32) (u : ST) : fX0_setPair 30 x u = fX5_setPair 30 x u := setPair_n (k := 30) (by decide) x u
theorem s28 (x : Int32) (u : ST) : fX0_setPair 28 x u = fX5_setPair 28 x u := setPair_n (k := 28) (by decide) x u
theorem s26 (x : Int32) (u : ST) : fX0_setPair 26 x u = fX5_setPair 26 x u := setPair_n (k := 26) (by decide) x u
theorem s93 (x : Int32) (u : ST) : fX0_setPair 93 x u = fX5_setPair 93 x u := setPair_n (k := 93) (by decide) x u
theorem g_beside {u : ST} (hu : IB u) (w : Int32) : fX4_moveBeside w u = Fin u (fX5_ofPlaces w (sNx u (pN u))) := by
  unfold fX4_moveBeside fX5_ofPlaces
  by_cases c : (w &&& (8 : Int32)) = 0
  · rw [if_pos c, p30, pair_nx]
    exact g_moves hu w _ 1 _ (word_and _).1 rfl
  · rw [if_neg c, p28, pair_nx]
    exact g_moves hu w _ 1 _ (word_and _).1 rfl
theorem pn1 (u : ST) : (pN u + 1) &&& (1023 : Int32) = (gPc u + 2) &&& (1023 : Int32) := by
  show (((gPc u + 1) &&& 1023) + 1) &&& 1023 = (gPc u + 2) &&& 1023
  rw [and_add, Int32.add_assoc]; rfl
theorem g_atnext {u : ST} (hu : IB u) (hw : IW u) {n : Nat} (hn : n < 65536) (h : n % 16 = 0) : fX4_moveAtNext (nI n) u = Fin u (fX5_ofMemory (nI n) (sNx u (pN u))) := by
  have e : fX5_ofMemory (nI n) (sNx u (pN u)) = fX5_moves (rC u (pN u)) (fX5_dOf (nI n)) (if (nI n &&& (512 : Int32)) = 0 then (0 : Int32) else 1) (sNx u ((pN u + 1) &&& (1023 : Int32))) := by
    unfold fX5_ofMemory
    rw [an15 (by omega), h, if_neg (show ¬ nI 0 = 15 by decide), if_pos (show nI 0 = 0 from rfl)]
    rfl
  rw [e, pn1]
  unfold fX4_moveAtNext
  exact g_moves hu (nI n) _ 2 _ (hw _).1 rfl

theorem mem_l1 {n : Nat} (hn : n < 65536) (h : n % 16 = 1) (v : ST) : fX5_ofMemory (nI n) v = (if fX5_isFar (fX5_pair 30 v) = 0 then (fX5_setPair 30 (((fX5_pair 30 v) + 1) &&& 65535) (fX5_moves (fX5_pair 30 v) (fX5_dOf (nI n)) (if (nI n &&& (512 : Int32)) = 0 then (0 : Int32) else 1) v).1, (fX5_moves (fX5_pair 30 v) (fX5_dOf (nI n)) (if (nI n &&& (512 : Int32)) = 0 then (0 : Int32) else 1) v).2) else (v, 3)) := by
  have e15 : nI n &&& (15 : Int32) = nI 1 := by rw [an15 (by omega), h]
  have ch : fX5_changes (nI n) = 30 := by unfold fX5_changes; rw [e15]; rfl
  unfold fX5_ofMemory
  rw [e15, ch]
  simp only [eq_false (show ¬ nI 1 = (15 : Int32) by decide), eq_false (show ¬ nI 1 = (0 : Int32) by decide), eq_false (show ¬ nI 1 = (4 : Int32) by decide), eq_false (show ¬ nI 1 = (5 : Int32) by decide), eq_false (show ¬ nI 1 = (12 : Int32) by decide), eq_false (show ¬ nI 1 = (2 : Int32) by decide), eq_false (show ¬ nI 1 = (10 : Int32) by decide), eq_false (show ¬ nI 1 = (14 : Int32) by decide), eq_false (show ¬ (1 : Int32) = 0 by decide), if_true, if_false]

theorem ptr_l1 {n : Nat} (hn : n < 65536) (h : n % 16 = 1) : fX3_pointer (nI n) = 30 ∧ nI n &&& (3 : Int32) = nI 1 := by
  refine ⟨?_, by rw [an3 (by omega), show n % 4 = 1 by omega]⟩
  unfold fX3_pointer
  rw [jn2 (by omega), an3 (by omega), show n / 4 % 4 = 0 by omega]
  rfl

theorem g_ptr_l1 {u : ST} (hu : IB u) {n : Nat} (hn : n < 65536) (h : n % 16 = 1) : fX4_movePointed (nI n) u = Fin u (fX5_ofMemory (nI n) (sNx u (pN u))) := by
  obtain ⟨e1, e2⟩ := ptr_l1 hn h
  rw [mem_l1 hn h, pair_nx]
  unfold fX4_movePointed
  rw [e1, e2]
  simp only [eq_false (show ¬ nI 1 = (2 : Int32) by decide), eq_true (show nI 1 = (1 : Int32) by decide), eq_false (show ¬ (1 : Int32) = 0 by decide), if_true, if_false]
  rw [p30]
  by_cases c : fX5_pair 30 u ≤ 1023
  · rw [if_pos c, if_pos (far0 c), moves_ok hu (nI n) (pN u) (word_pair hu _).1 c, s30, setPair_and, setPair_nx]
    exact fin_data rfl ((gNx_setPair _ _ _).trans (tr_nx _ _ _).1) ((gPc_setPair _ _ _).trans (tr_nx _ _ _).2)
  · rw [if_neg c, far1 c, if_neg (show ¬ (1 : Int32) = 0 by decide)]
    exact fin_far u _

theorem mem_l2 {n : Nat} (hn : n < 65536) (h : n % 16 = 2) (v : ST) : fX5_ofMemory (nI n) v = (if fX5_isFar (((fX5_pair 30 v) - 1) &&& 65535) = 0 then ((fX5_moves (((fX5_pair 30 v) - 1) &&& 65535) (fX5_dOf (nI n)) (if (nI n &&& (512 : Int32)) = 0 then (0 : Int32) else 1) (fX5_setPair 30 (((fX5_pair 30 v) - 1) &&& 65535) v)).1, (fX5_moves (((fX5_pair 30 v) - 1) &&& 65535) (fX5_dOf (nI n)) (if (nI n &&& (512 : Int32)) = 0 then (0 : Int32) else 1) (fX5_setPair 30 (((fX5_pair 30 v) - 1) &&& 65535) v)).2) else (v, 3)) := by
  have e15 : nI n &&& (15 : Int32) = nI 2 := by rw [an15 (by omega), h]
  have ch : fX5_changes (nI n) = 30 := by unfold fX5_changes; rw [e15]; rfl
  unfold fX5_ofMemory
  rw [e15, ch]
  simp only [eq_false (show ¬ nI 2 = (15 : Int32) by decide), eq_false (show ¬ nI 2 = (0 : Int32) by decide), eq_false (show ¬ nI 2 = (4 : Int32) by decide), eq_false (show ¬ nI 2 = (5 : Int32) by decide), eq_false (show ¬ nI 2 = (12 : Int32) by decide), eq_true (show nI 2 = (2 : Int32) by decide), eq_false (show ¬ nI 2 = (10 : Int32) by decide), eq_false (show ¬ nI 2 = (14 : Int32) by decide), eq_false (show ¬ (1 : Int32) = 0 by decide), if_true, if_false]

theorem ptr_l2 {n : Nat} (hn : n < 65536) (h : n % 16 = 2) : fX3_pointer (nI n) = 30 ∧ nI n &&& (3 : Int32) = nI 2 := by
  refine ⟨?_, by rw [an3 (by omega), show n % 4 = 2 by omega]⟩
  unfold fX3_pointer
  rw [jn2 (by omega), an3 (by omega), show n / 4 % 4 = 0 by omega]
  rfl

theorem g_ptr_l2 {u : ST} (hu : IB u) {n : Nat} (hn : n < 65536) (h : n % 16 = 2) : fX4_movePointed (nI n) u = Fin u (fX5_ofMemory (nI n) (sNx u (pN u))) := by
  obtain ⟨e1, e2⟩ := ptr_l2 hn h
  rw [mem_l2 hn h, pair_nx]
  unfold fX4_movePointed
  rw [e1, e2]
  simp only [eq_true (show nI 2 = (2 : Int32) by decide), eq_false (show ¬ nI 2 = (1 : Int32) by decide), eq_false (show ¬ (1 : Int32) = 0 by decide), if_true, if_false]
  rw [p30]
  by_cases c : ((fX5_pair 30 u - 1) &&& 65535) ≤ 1023
  · rw [if_pos c, if_pos (far0 c), s30, setPair_nx, moves_ok (hu.setPair _ _) (nI n) (pN u) (word_and _).1 c]
    exact fin_data rfl ((tr_nx _ _ _).1.trans (gNx_setPair _ _ _)) ((tr_nx _ _ _).2.trans (gPc_setPair _ _ _))
  · rw [if_neg c, far1 c, if_neg (show ¬ (1 : Int32) = 0 by decide)]
    exact fin_far u _

theorem mem_l9 {n : Nat} (hn : n < 65536) (h : n % 16 = 9) (v : ST) : fX5_ofMemory (nI n) v = (if fX5_isFar (fX5_pair 28 v) = 0 then (fX5_setPair 28 (((fX5_pair 28 v) + 1) &&& 65535) (fX5_moves (fX5_pair 28 v) (fX5_dOf (nI n)) (if (nI n &&& (512 : Int32)) = 0 then (0 : Int32) else 1) v).1, (fX5_moves (fX5_pair 28 v) (fX5_dOf (nI n)) (if (nI n &&& (512 : Int32)) = 0 then (0 : Int32) else 1) v).2) else (v, 3)) := by
  have e15 : nI n &&& (15 : Int32) = nI 9 := by rw [an15 (by omega), h]
  have ch : fX5_changes (nI n) = 28 := by unfold fX5_changes; rw [e15]; rfl
  unfold fX5_ofMemory
  rw [e15, ch]
  simp only [eq_false (show ¬ nI 9 = (15 : Int32) by decide), eq_false (show ¬ nI 9 = (0 : Int32) by decide), eq_false (show ¬ nI 9 = (4 : Int32) by decide), eq_false (show ¬ nI 9 = (5 : Int32) by decide), eq_false (show ¬ nI 9 = (12 : Int32) by decide), eq_false (show ¬ nI 9 = (2 : Int32) by decide), eq_false (show ¬ nI 9 = (10 : Int32) by decide), eq_false (show ¬ nI 9 = (14 : Int32) by decide), eq_false (show ¬ (1 : Int32) = 0 by decide), if_true, if_false]

theorem ptr_l9 {n : Nat} (hn : n < 65536) (h : n % 16 = 9) : fX3_pointer (nI n) = 28 ∧ nI n &&& (3 : Int32) = nI 1 := by
  refine ⟨?_, by rw [an3 (by omega), show n % 4 = 1 by omega]⟩
  unfold fX3_pointer
  rw [jn2 (by omega), an3 (by omega), show n / 4 % 4 = 2 by omega]
  rfl

theorem g_ptr_l9 {u : ST} (hu : IB u) {n : Nat} (hn : n < 65536) (h : n % 16 = 9) : fX4_movePointed (nI n) u = Fin u (fX5_ofMemory (nI n) (sNx u (pN u))) := by
  obtain ⟨e1, e2⟩ := ptr_l9 hn h
  rw [mem_l9 hn h, pair_nx]
  unfold fX4_movePointed
  rw [e1, e2]
  simp only [eq_false (show ¬ nI 1 = (2 : Int32) by decide), eq_true (show nI 1 = (1 : Int32) by decide), eq_false (show ¬ (1 : Int32) = 0 by decide), if_true, if_false]
  rw [p28]
  by_cases c : fX5_pair 28 u ≤ 1023
  · rw [if_pos c, if_pos (far0 c), moves_ok hu (nI n) (pN u) (word_pair hu _).1 c, s28, setPair_and, setPair_nx]
    exact fin_data rfl ((gNx_setPair _ _ _).trans (tr_nx _ _ _).1) ((gPc_setPair _ _ _).trans (tr_nx _ _ _).2)
  · rw [if_neg c, far1 c, if_neg (show ¬ (1 : Int32) = 0 by decide)]
    exact fin_far u _

theorem mem_l10 {n : Nat} (hn : n < 65536) (h : n % 16 = 10) (v : ST) : fX5_ofMemory (nI n) v = (if fX5_isFar (((fX5_pair 28 v) - 1) &&& 65535) = 0 then ((fX5_moves (((fX5_pair 28 v) - 1) &&& 65535) (fX5_dOf (nI n)) (if (nI n &&& (512 : Int32)) = 0 then (0 : Int32) else 1) (fX5_setPair 28 (((fX5_pair 28 v) - 1) &&& 65535) v)).1, (fX5_moves (((fX5_pair 28 v) - 1) &&& 65535) (fX5_dOf (nI n)) (if (nI n &&& (512 : Int32)) = 0 then (0 : Int32) else 1) (fX5_setPair 28 (((fX5_pair 28 v) - 1) &&& 65535) v)).2) else (v, 3)) := by
  have e15 : nI n &&& (15 : Int32) = nI 10 := by rw [an15 (by omega), h]
  have ch : fX5_changes (nI n) = 28 := by unfold fX5_changes; rw [e15]; rfl
  unfold fX5_ofMemory
  rw [e15, ch]
  simp only [eq_false (show ¬ nI 10 = (15 : Int32) by decide), eq_false (show ¬ nI 10 = (0 : Int32) by decide), eq_false (show ¬ nI 10 = (4 : Int32) by decide), eq_false (show ¬ nI 10 = (5 : Int32) by decide), eq_false (show ¬ nI 10 = (12 : Int32) by decide), eq_false (show ¬ nI 10 = (2 : Int32) by decide), eq_true (show nI 10 = (10 : Int32) by decide), eq_false (show ¬ nI 10 = (14 : Int32) by decide), eq_false (show ¬ (1 : Int32) = 0 by decide), if_true, if_false]

theorem ptr_l10 {n : Nat} (hn : n < 65536) (h : n % 16 = 10) : fX3_pointer (nI n) = 28 ∧ nI n &&& (3 : Int32) = nI 2 := by
  refine ⟨?_, by rw [an3 (by omega), show n % 4 = 2 by omega]⟩
  unfold fX3_pointer
  rw [jn2 (by omega), an3 (by omega), show n / 4 % 4 = 2 by omega]
  rfl

theorem g_ptr_l10 {u : ST} (hu : IB u) {n : Nat} (hn : n < 65536) (h : n % 16 = 10) : fX4_movePointed (nI n) u = Fin u (fX5_ofMemory (nI n) (sNx u (pN u))) := by
  obtain ⟨e1, e2⟩ := ptr_l10 hn h
  rw [mem_l10 hn h, pair_nx]
  unfold fX4_movePointed
  rw [e1, e2]
  simp only [eq_true (show nI 2 = (2 : Int32) by decide), eq_false (show ¬ nI 2 = (1 : Int32) by decide), eq_false (show ¬ (1 : Int32) = 0 by decide), if_true, if_false]
  rw [p28]
  by_cases c : ((fX5_pair 28 u - 1) &&& 65535) ≤ 1023
  · rw [if_pos c, if_pos (far0 c), s28, setPair_nx, moves_ok (hu.setPair _ _) (nI n) (pN u) (word_and _).1 c]
    exact fin_data rfl ((tr_nx _ _ _).1.trans (gNx_setPair _ _ _)) ((tr_nx _ _ _).2.trans (gPc_setPair _ _ _))
  · rw [if_neg c, far1 c, if_neg (show ¬ (1 : Int32) = 0 by decide)]
    exact fin_far u _

theorem mem_l13 {n : Nat} (hn : n < 65536) (h : n % 16 = 13) (v : ST) : fX5_ofMemory (nI n) v = (if fX5_isFar (fX5_pair 26 v) = 0 then (fX5_setPair 26 (((fX5_pair 26 v) + 1) &&& 65535) (fX5_moves (fX5_pair 26 v) (fX5_dOf (nI n)) (if (nI n &&& (512 : Int32)) = 0 then (0 : Int32) else 1) v).1, (fX5_moves (fX5_pair 26 v) (fX5_dOf (nI n)) (if (nI n &&& (512 : Int32)) = 0 then (0 : Int32) else 1) v).2) else (v, 3)) := by
  have e15 : nI n &&& (15 : Int32) = nI 13 := by rw [an15 (by omega), h]
  have ch : fX5_changes (nI n) = 26 := by unfold fX5_changes; rw [e15]; rfl
  unfold fX5_ofMemory
  rw [e15, ch]
  simp only [eq_false (show ¬ nI 13 = (15 : Int32) by decide), eq_false (show ¬ nI 13 = (0 : Int32) by decide), eq_false (show ¬ nI 13 = (4 : Int32) by decide), eq_false (show ¬ nI 13 = (5 : Int32) by decide), eq_false (show ¬ nI 13 = (12 : Int32) by decide), eq_false (show ¬ nI 13 = (2 : Int32) by decide), eq_false (show ¬ nI 13 = (10 : Int32) by decide), eq_false (show ¬ nI 13 = (14 : Int32) by decide), eq_false (show ¬ (1 : Int32) = 0 by decide), if_true, if_false]

theorem ptr_l13 {n : Nat} (hn : n < 65536) (h : n % 16 = 13) : fX3_pointer (nI n) = 26 ∧ nI n &&& (3 : Int32) = nI 1 := by
  refine ⟨?_, by rw [an3 (by omega), show n % 4 = 1 by omega]⟩
  unfold fX3_pointer
  rw [jn2 (by omega), an3 (by omega), show n / 4 % 4 = 3 by omega]
  rfl

theorem g_ptr_l13 {u : ST} (hu : IB u) {n : Nat} (hn : n < 65536) (h : n % 16 = 13) : fX4_movePointed (nI n) u = Fin u (fX5_ofMemory (nI n) (sNx u (pN u))) := by
  obtain ⟨e1, e2⟩ := ptr_l13 hn h
  rw [mem_l13 hn h, pair_nx]
  unfold fX4_movePointed
  rw [e1, e2]
  simp only [eq_false (show ¬ nI 1 = (2 : Int32) by decide), eq_true (show nI 1 = (1 : Int32) by decide), eq_false (show ¬ (1 : Int32) = 0 by decide), if_true, if_false]
  rw [p26]
  by_cases c : fX5_pair 26 u ≤ 1023
  · rw [if_pos c, if_pos (far0 c), moves_ok hu (nI n) (pN u) (word_pair hu _).1 c, s26, setPair_and, setPair_nx]
    exact fin_data rfl ((gNx_setPair _ _ _).trans (tr_nx _ _ _).1) ((gPc_setPair _ _ _).trans (tr_nx _ _ _).2)
  · rw [if_neg c, far1 c, if_neg (show ¬ (1 : Int32) = 0 by decide)]
    exact fin_far u _

theorem mem_l14 {n : Nat} (hn : n < 65536) (h : n % 16 = 14) (v : ST) : fX5_ofMemory (nI n) v = (if fX5_isFar (((fX5_pair 26 v) - 1) &&& 65535) = 0 then ((fX5_moves (((fX5_pair 26 v) - 1) &&& 65535) (fX5_dOf (nI n)) (if (nI n &&& (512 : Int32)) = 0 then (0 : Int32) else 1) (fX5_setPair 26 (((fX5_pair 26 v) - 1) &&& 65535) v)).1, (fX5_moves (((fX5_pair 26 v) - 1) &&& 65535) (fX5_dOf (nI n)) (if (nI n &&& (512 : Int32)) = 0 then (0 : Int32) else 1) (fX5_setPair 26 (((fX5_pair 26 v) - 1) &&& 65535) v)).2) else (v, 3)) := by
  have e15 : nI n &&& (15 : Int32) = nI 14 := by rw [an15 (by omega), h]
  have ch : fX5_changes (nI n) = 26 := by unfold fX5_changes; rw [e15]; rfl
  unfold fX5_ofMemory
  rw [e15, ch]
  simp only [eq_false (show ¬ nI 14 = (15 : Int32) by decide), eq_false (show ¬ nI 14 = (0 : Int32) by decide), eq_false (show ¬ nI 14 = (4 : Int32) by decide), eq_false (show ¬ nI 14 = (5 : Int32) by decide), eq_false (show ¬ nI 14 = (12 : Int32) by decide), eq_false (show ¬ nI 14 = (2 : Int32) by decide), eq_false (show ¬ nI 14 = (10 : Int32) by decide), eq_true (show nI 14 = (14 : Int32) by decide), eq_false (show ¬ (1 : Int32) = 0 by decide), if_true, if_false]

theorem ptr_l14 {n : Nat} (hn : n < 65536) (h : n % 16 = 14) : fX3_pointer (nI n) = 26 ∧ nI n &&& (3 : Int32) = nI 2 := by
  refine ⟨?_, by rw [an3 (by omega), show n % 4 = 2 by omega]⟩
  unfold fX3_pointer
  rw [jn2 (by omega), an3 (by omega), show n / 4 % 4 = 3 by omega]
  rfl

theorem g_ptr_l14 {u : ST} (hu : IB u) {n : Nat} (hn : n < 65536) (h : n % 16 = 14) : fX4_movePointed (nI n) u = Fin u (fX5_ofMemory (nI n) (sNx u (pN u))) := by
  obtain ⟨e1, e2⟩ := ptr_l14 hn h
  rw [mem_l14 hn h, pair_nx]
  unfold fX4_movePointed
  rw [e1, e2]
  simp only [eq_true (show nI 2 = (2 : Int32) by decide), eq_false (show ¬ nI 2 = (1 : Int32) by decide), eq_false (show ¬ (1 : Int32) = 0 by decide), if_true, if_false]
  rw [p26]
  by_cases c : ((fX5_pair 26 u - 1) &&& 65535) ≤ 1023
  · rw [if_pos c, if_pos (far0 c), s26, setPair_nx, moves_ok (hu.setPair _ _) (nI n) (pN u) (word_and _).1 c]
    exact fin_data rfl ((tr_nx _ _ _).1.trans (gNx_setPair _ _ _)) ((tr_nx _ _ _).2.trans (gPc_setPair _ _ _))
  · rw [if_neg c, far1 c, if_neg (show ¬ (1 : Int32) = 0 by decide)]
    exact fin_far u _

theorem g_ptr_l12 {u : ST} (hu : IB u) {n : Nat} (hn : n < 65536) (h : n % 16 = 12) : fX4_movePointed (nI n) u = Fin u (fX5_ofMemory (nI n) (sNx u (pN u))) := by
  have e15 : nI n &&& (15 : Int32) = nI 12 := by rw [an15 (by omega), h]
  have e1 : fX3_pointer (nI n) = 26 := by
    unfold fX3_pointer
    rw [jn2 (by omega), an3 (by omega), show n / 4 % 4 = 3 by omega]
    rfl
  have e2 : nI n &&& (3 : Int32) = nI 0 := by rw [an3 (by omega), show n % 4 = 0 by omega]
  have e : fX5_ofMemory (nI n) (sNx u (pN u)) = fX5_moves (fX5_pair 26 (sNx u (pN u))) (fX5_dOf (nI n)) (if (nI n &&& (512 : Int32)) = 0 then (0 : Int32) else 1) (sNx u (pN u)) := by
    unfold fX5_ofMemory
    rw [e15, if_neg (show ¬ nI 12 = 15 by decide), if_neg (show ¬ nI 12 = 0 by decide), if_neg (show ¬ nI 12 = 4 by decide), if_neg (show ¬ nI 12 = 5 by decide), if_pos (show nI 12 = 12 from rfl)]
  rw [e, pair_nx]
  unfold fX4_movePointed
  rw [e1, e2]
  simp only [eq_false (show ¬ nI 0 = (2 : Int32) by decide), eq_false (show ¬ nI 0 = (1 : Int32) by decide), eq_false (show ¬ (1 : Int32) = 0 by decide), if_true, if_false]
  rw [p26]
  exact g_moves hu (nI n) _ 1 _ (word_pair hu _).1 rfl
/-! bytes of CODE -/
theorem byte_hi {x : Int32} (h : Word x) : Byte (jshr x 8) := (hi_n7 h).1
theorem code_b {u : ST} (hw : IW u) (z : Int32) : Byte (fX5_codeByte z u) := by
  unfold fX5_codeByte
  split
  · exact byte_and _
  · exact byte_hi (hw _)
theorem code_x {u : ST} (hw : IW u) (z : Int32) : (if (z &&& (1 : Int32)) = 0 then (fX4_cellAt (jshr z 1) u) else (jshr (fX4_cellAt (jshr z 1) u) 8)) &&& (255 : Int32) = fX5_codeByte z u := by
  unfold fX5_codeByte fX4_cellAt
  split
  · rfl
  · exact (byte_hi (hw _)).and255
theorem code_nx (z p : Int32) (u : ST) : fX5_codeByte z (sNx u p) = fX5_codeByte z u := rfl
theorem g_code4 {u : ST} (hu : IB u) (hw : IW u) {n : Nat} (hn : n < 65536) (h9 : n / 1024 = 36) (h : n % 16 = 4) : fX4_moveFromCode (nI n) u = Fin u (fX5_ofMemory (nI n) (sNx u (pN u))) := by
  have e15 : nI n &&& (15 : Int32) = nI 4 := by rw [an15 (by omega), h]
  unfold fX4_moveFromCode fX5_ofMemory fX0_set fX3_d fX5_dOf
  rw [e15, an1 (by omega), show n % 2 = 0 by omega, if_neg (show ¬ nI 0 = 1 by decide), if_neg (show ¬ nI n = 38344 by rw [eL38344 (by omega)]; omega), p30, i_d, code_x hw, if_neg (show ¬ nI 4 = 15 by decide), if_neg (show ¬ nI 4 = 0 by decide), if_pos (show nI 4 = 4 from rfl), if_neg (show ¬ nI 4 = 5 by decide), pair_nx, code_nx, wD_nx]
  exact fin_data rfl (gNx_wD _ _ _) (gPc_wD _ _ _)
theorem g_code5 {u : ST} (hu : IB u) (hw : IW u) {n : Nat} (hn : n < 65536) (h9 : n / 1024 = 36) (h : n % 16 = 5) : fX4_moveFromCode (nI n) u = Fin u (fX5_ofMemory (nI n) (sNx u (pN u))) := by
  have e15 : nI n &&& (15 : Int32) = nI 5 := by rw [an15 (by omega), h]
  unfold fX4_moveFromCode fX5_ofMemory fX0_set fX3_d fX5_dOf
  rw [e15, an1 (by omega), show n % 2 = 1 by omega, if_pos (show nI 1 = 1 from rfl), if_neg (show ¬ nI n = 38344 by rw [eL38344 (by omega)]; omega), p30, i_d, code_x hw, if_neg (show ¬ nI 5 = 15 by decide), if_neg (show ¬ nI 5 = 0 by decide), if_neg (show ¬ nI 5 = 4 by decide), if_pos (show nI 5 = 5 from rfl), if_pos (show nI 5 = 5 from rfl), pair_nx, code_nx, wD_nx, s30, setPair_and, setPair_nx]
  exact fin_data rfl ((gNx_setPair _ _ _).trans (gNx_wD _ _ _)) ((gPc_setPair _ _ _).trans (gPc_wD _ _ _))
theorem g_code0 {u : ST} (hu : IB u) (hw : IW u) : fX4_moveFromCode (nI 38344) u = Fin u (fX5_ofOthers (nI 38344) (sNx u (pN u))) := by
  unfold fX4_moveFromCode fX5_ofOthers fX0_set
  rw [an1 (by decide), an15 (by decide), if_neg (show ¬ nI (38344 % 2) = 1 by decide), if_pos (show nI 38344 = 38344 from rfl), p30, code_x hw, if_pos (show nI (38344 % 16) ≤ 11 by decide), if_neg (show ¬ nI (38344 % 16) = 9 by decide), if_neg (show ¬ nI 38344 = 38152 by decide), if_neg (show ¬ nI 38344 = 38168 by decide), if_pos (show nI 38344 = 38344 from rfl), pair_nx, code_nx, wD_nx, show (0 : Int32) &&& 1023 = 0 by decide]
  exact fin_data rfl (gNx_wD _ _ _) (gPc_wD _ _ _)
