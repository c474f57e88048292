/-! the stack -/
theorem or_nI {a m : Nat} (ha : a < 256) (hm : m < 256) : nI a ||| nI (m * 256) = nI (m * 256 + a) := by
  apply ext_nat
  rw [Int32.toBitVec_or, BitVec.toNat_or, nI_bv (by omega), nI_bv (by omega), nI_bv (by omega)]
  have h := Nat.two_pow_add_eq_or_of_lt (i := 8) (b := a) (by omega) m
  rw [Nat.or_comm, show m * 256 = 2 ^ 8 * m by omega]
  exact h.symm
theorem shl8_n : ∀ m, m < 256 → jshl (nI m) 8 = nI (m * 256) := by decide +kernel
theorem pair_set {k : Nat} (hk : k < 1023) (x : Int32) (u : ST) : fX5_pair (nI k) (fX5_setPair (nI k) x u) = x &&& (65535 : Int32) := by
  rw [← setPair_and]
  obtain ⟨n, hn, e⟩ := word_ex (word_and x)
  rw [e]
  unfold fX5_pair fX5_setPair
  rw [nI_1, rD_same, rD_ne _ _ (by rw [nI_clamp (by omega), nI_clamp (by omega)]; omega), rD_same, jn8 (by omega), an255 (by omega), an255 (by omega), shl8_n _ (by omega), or_nI (by omega) (by omega)]
  congr 1
  omega
theorem set_over (x y : Int32) (i z : Int32) (v : ST) {k : Nat} (hk : k < 1023) : fX5_setPair (nI k) y (wD (fX5_setPair (nI k) x v) i z) = fX5_setPair (nI k) y (wD v i z) := by
  unfold fX5_setPair
  rw [nI_1]
  have e : gD (wD (wD (wD (wD (wD v (nI k) (x &&& 255)) (nI (k + 1)) ((jshr x 8) &&& 255)) i z) (nI k) (y &&& 255)) (nI (k + 1)) ((jshr y 8) &&& 255)) = gD (wD (wD (wD v i z) (nI k) (y &&& 255)) (nI (k + 1)) ((jshr y 8) &&& 255)) := by
    funext q
    simp only [wD, sD, gD, upd]
    repeat' split
    all_goals rfl
  show sD v (gD (wD (wD (wD (wD (wD v (nI k) (x &&& 255)) (nI (k + 1)) ((jshr x 8) &&& 255)) i z) (nI k) (y &&& 255)) (nI (k + 1)) ((jshr y 8) &&& 255))) = sD v (gD (wD (wD (wD v i z) (nI k) (y &&& 255)) (nI (k + 1)) ((jshr y 8) &&& 255)))
  rw [e]
theorem sub_n (x : Int32) (k : Nat) (hk : k < 2 ^ 31) : (x - nI k).toBitVec.toNat = (4294967296 - k + x.toBitVec.toNat) % 4294967296 := by
  rw [Int32.toBitVec_sub, BitVec.toNat_sub, nI_bv hk]
theorem sub_and (x : Int32) {k : Nat} (hk : k < 65536) : ((x &&& (65535 : Int32)) - nI k) &&& (65535 : Int32) = (x - nI k) &&& (65535 : Int32) := by
  apply ext_nat
  rw [and16_n, and16_n, sub_n _ _ (by omega), sub_n _ _ (by omega), and16_n]
  omega
theorem addw_and (x y : Int32) : ((x &&& (65535 : Int32)) + y) &&& (65535 : Int32) = (x + y) &&& (65535 : Int32) := by
  apply ext_nat
  rw [and16_n, and16_n, add_n, add_n, and16_n]
  omega
theorem and_10_16 (x : Int32) : (x &&& (65535 : Int32)) &&& (1023 : Int32) = x &&& (1023 : Int32) := by
  rw [Int32.and_assoc]; rfl
/-- pulling -/
theorem pull_eq {u : ST} (h : ((fX5_pair 93 u + 1) &&& (65535 : Int32)) ≤ 1023) : fX0_pull u = fX5_pops u := by
  have hv := vin_le (word_and _).1 h
  unfold fX0_pull fX5_pops fX0_get
  rw [p93, s93, setPair_and, show (fX5_pair 93 u + 1) &&& (1023 : Int32) = (fX5_pair 93 u + 1) &&& (65535 : Int32) by rw [← and_10_16]; exact and1023 hv]
theorem pops_nx (u : ST) (p : Int32) : fX5_pops (sNx u p) = (sNx (fX5_pops u).1 p, (fX5_pops u).2) := by
  unfold fX5_pops
  rw [pair_nx, setPair_nx, rD_nx]
theorem gNx_pops (u : ST) : gNx (fX5_pops u).1 = gNx u := gNx_setPair _ _ _
theorem gPc_pops (u : ST) : gPc (fX5_pops u).1 = gPc u := gPc_setPair _ _ _
theorem IB.pops {u : ST} (h : IB u) : IB (fX5_pops u).1 := h.setPair _ _
theorem pops_b {u : ST} (h : IB u) : Byte (fX5_pops u).2 := (h.setPair _ _).r _
theorem push_eq {u : ST} (hu : IB u) {x : Int32} (hx : Byte x) (h : fX5_pair 93 u ≤ 1023) : fX0_push x u = fX5_pushes x u := by
  unfold fX0_push fX5_pushes fX0_set
  rw [p93, s93, setPair_and, hx.and255, and1023 (vin_le (word_pair hu 93).1 h)]
theorem push_nx (x : Int32) (u : ST) (p : Int32) : fX5_pushes x (sNx u p) = sNx (fX5_pushes x u) p := by
  unfold fX5_pushes
  rw [pair_nx, wD_nx, setPair_nx]
theorem gNx_push (x : Int32) (u : ST) : gNx (fX5_pushes x u) = gNx u := (gNx_setPair _ _ _).trans (gNx_wD _ _ _)
theorem gPc_push (x : Int32) (u : ST) : gPc (fX5_pushes x u) = gPc u := (gPc_setPair _ _ _).trans (gPc_wD _ _ _)
theorem IB.push {u : ST} (h : IB u) {x : Int32} (hx : Byte x) : IB (fX5_pushes x u) := (h.w _ hx).setPair _ _
theorem g_stack {u : ST} (hu : IB u) (w : Int32) : fX4_moveStacked w u = Fin u (fX5_ofStack w (sNx u (pN u))) := by
  unfold fX4_moveStacked fX5_ofStack fX0_set fX0_get fX3_d fX5_dOf
  rw [i_d, p93, pair_nx, rD_nx]
  by_cases c : (w &&& (512 : Int32)) = 0
  · simp only [if_pos c, if_true, eq_false (show ¬ (1 : Int32) = 0 by decide), if_false]
    by_cases h : ((fX5_pair 93 u + 1) &&& (65535 : Int32)) ≤ 1023
    · rw [if_pos h, if_pos (far0 h), pull_eq h, pops_nx, (pops_b hu).and255, wD_nx]
      exact fin_data rfl ((gNx_wD _ _ _).trans (gNx_pops u)) ((gPc_wD _ _ _).trans (gPc_pops u))
    · rw [if_neg h, far1 h, if_neg (show ¬ (1 : Int32) = 0 by decide)]
      exact fin_far u _
  · simp only [if_neg c, if_true, eq_false (show ¬ (1 : Int32) = 0 by decide), if_false]
    rw [Int32.add_zero, (word_pair hu 93).and65535]
    by_cases h : fX5_pair 93 u ≤ 1023
    · rw [if_pos h, if_pos (far0 h), push_eq hu (hu.r _) h, push_nx]
      exact fin_data rfl (gNx_push _ u) (gPc_push _ u)
    · rw [if_neg h, far1 h, if_neg (show ¬ (1 : Int32) = 0 by decide)]
      exact fin_far u _
/-! calls -/
theorem can_cases {u : ST} (hu : IB u) : (fX5_canCall u = 0 ∧ ∀ f, fX0_stacks f u = (u, 0)) ∨ (fX5_canCall u = 1 ∧ (fX5_pair 93 u ≤ 1023) ∧ (((fX5_pair 93 u - 1) &&& (65535 : Int32)) ≤ 1023) ∧ ((fX5_pair 93 u - 1) &&& (65535 : Int32) = fX5_pair 93 u - 1) ∧ ∀ f, fX0_stacks f u = (fX5_setPair 93 (fX5_pair 93 u - 2) (wD (wD u (fX5_pair 93 u) (f &&& 255)) (fX5_pair 93 u - 1) ((jshr f 8) &&& 255)), 1)) := by
  obtain ⟨n, hn, e⟩ := word_ex (word_pair hu 93)
  unfold fX5_canCall fX0_stacks fX5_isFar fX0_set
  rw [p93, e]
  by_cases h0 : n = 0
  · subst h0
    refine Or.inl ⟨by decide, fun f => ?_⟩
    rw [if_pos (show nI 0 < 1 by decide)]
  · have hs : nI n - 1 = nI (n - 1) := by
      have := nI_pred (n - 1)
      rwa [show n - 1 + 1 = n by omega] at this
    rw [hs, (word_nI (show n - 1 < 65536 by omega)).and65535]
    simp only [le1023 (show n < 2147483648 by omega), le1023 (show n - 1 < 2147483648 by omega)]
    have hlt : ¬ nI n < 1 := by
      show ¬ nI n < nI 1
      rw [nI_ltI (by omega) (by decide)]
      omega
    by_cases h1 : n ≤ 1023
    · refine Or.inr ⟨?_, h1, by omega, by first | rfl | trivial, fun f => ?_⟩
      · simp only [if_pos h1, if_pos (show n - 1 ≤ 1023 by omega), if_true]
      · rw [if_neg hlt, if_pos h1, s93, and1023 (vin_nI (by omega)), and1023 (vin_nI (by omega))]
    · refine Or.inl ⟨?_, fun f => ?_⟩
      · rw [if_neg h1]; rfl
      · rw [if_neg hlt, if_neg h1]
theorem nx_nx (v : ST) (a b : Int32) : sNx (sNx v a) b = sNx v b := rfl
theorem calls_eq {u : ST} (hu : IB u) (h : fX5_canCall u = 1) {f : Int32} (hf : vp_in f 1024) (t q : Int32) : fX5_calls f t (sNx u q) = sNx (fX0_stacks f u).1 (t &&& (1023 : Int32)) := by
  rcases can_cases hu with ⟨h0, _⟩ | ⟨_, h1, h2, h3, h4⟩
  · rw [h0] at h; exact absurd h (by decide)
  · rw [h4]
    unfold fX5_calls
    rw [push_nx, push_nx, nx_nx]
    have hb : (jshr f 8) &&& (255 : Int32) = jshr f 8 := by
      have hv := vp_in_iff.mp hf
      exact (byte_hi ⟨hv.1, by omega⟩).and255
    have e1 : fX5_pair 93 (fX5_pushes (f &&& 255) u) = fX5_pair 93 u - 1 := by
      have := pair_set (k := 93) (by decide) ((fX5_pair 93 u - 1) &&& 65535) (wD u (fX5_pair 93 u) (f &&& 255))
      rw [(word_and _).and65535, h3] at this
      rw [show fX5_pushes (f &&& 255) u = fX5_setPair (nI 93) ((fX5_pair 93 u - 1) &&& 65535) (wD u (fX5_pair 93 u) (f &&& 255)) from rfl, h3]
      exact this
    have e2 : fX5_pair 93 u - 1 - 1 = fX5_pair 93 u - 2 := by rw [Int32.sub_eq_add_neg, Int32.sub_eq_add_neg, Int32.sub_eq_add_neg, Int32.add_assoc]; rfl
    have e3 : fX5_pushes (jshr f 8) (fX5_pushes (f &&& 255) u) = fX5_setPair 93 (fX5_pair 93 u - 2) (wD (wD u (fX5_pair 93 u) (f &&& 255)) (fX5_pair 93 u - 1) ((jshr f 8) &&& 255)) := by
      rw [show fX5_pushes (jshr f 8) (fX5_pushes (f &&& 255) u) = fX5_setPair 93 ((fX5_pair 93 (fX5_pushes (f &&& 255) u) - 1) &&& 65535) (wD (fX5_pushes (f &&& 255) u) (fX5_pair 93 (fX5_pushes (f &&& 255) u)) (jshr f 8)) from rfl, e1, e2, setPair_and, hb]
      exact set_over (k := 93) _ _ _ _ _ (by decide)
    rw [e3]
theorem stk_nx {u : ST} (hu : IB u) (f : Int32) : gNx (fX0_stacks f u).1 = gNx u ∧ gPc (fX0_stacks f u).1 = gPc u ∧ IB (fX0_stacks f u).1 ∧ gN (fX0_stacks f u).1 = gN u ∧ gC (fX0_stacks f u).1 = gC u ∧ gAs (fX0_stacks f u).1 = gAs u ∧ gEn (fX0_stacks f u).1 = gEn u ∧ gWa (fX0_stacks f u).1 = gWa u := by
  rcases can_cases hu with ⟨_, h⟩ | ⟨_, _, _, _, h⟩
  · rw [h]; exact ⟨rfl, rfl, hu, rfl, rfl, rfl, rfl, rfl⟩
  · rw [h]; exact ⟨rfl, rfl, ((hu.w _ (byte_and _)).w _ (byte_and _)).setPair _ _, rfl, rfl, rfl, rfl, rfl⟩
theorem can_nx (u : ST) (q : Int32) : fX5_canCall (sNx u q) = fX5_canCall u := by
  unfold fX5_canCall
  rw [pair_nx]
theorem jump_fin {u : ST} {t t' f q : Int32} (h : t &&& (1023 : Int32) = t' &&& (1023 : Int32)) : fX4_jumpTo t u = Fin u (fX5_jumps f t' 0 (sNx u q)) := by
  unfold fX4_jumpTo fX5_jumps
  rw [if_pos rfl, h]
  rfl
theorem call_fin {u : ST} (hu : IB u) {t t' b f q : Int32} (h : t &&& (1023 : Int32) = t' &&& (1023 : Int32)) (hf : f = b &&& (1023 : Int32)) : fX4_callTo t b u = Fin u (fX5_jumps f t' 1 (sNx u q)) := by
  subst hf
  unfold fX4_callTo fX5_jumps
  rw [if_neg (show ¬ (1 : Int32) = 0 by decide), can_nx]
  rcases can_cases hu with ⟨h0, h1⟩ | ⟨h0, _, _, _, h1⟩
  · rw [h0, h1, if_pos rfl, if_pos rfl]
    exact fin_far u _
  · have hk := stk_nx hu (b &&& 1023)
    rw [h0, calls_eq hu h0 (vin_1023 b), if_neg (show ¬ (1 : Int32) = 0 by decide), if_neg (by rw [h1]; exact (show ¬ (1 : Int32) = 0 by decide))]
    generalize (fX0_stacks (b &&& 1023) u).1 = S at hk
    show (sPc (wN S 6 (rN S 6 + 1)) (t &&& 1023), (0 : Int32)) = (sPc (sNx (wN (sNx S (t' &&& 1023)) 6 (rN (sNx S (t' &&& 1023)) 6 + 1)) (gNx u)) (t' &&& 1023), 0)
    rw [h, ← hk.1]
    rfl
/-! jumps -/
theorem k12_and (w : Int32) : (jshr (jshl w 20) 20) &&& (1023 : Int32) = w &&& (1023 : Int32) := by
  apply Int32.toBitVec_inj.mp
  rw [Int32.toBitVec_and, Int32.toBitVec_and, show (jshr (jshl w 20) 20).toBitVec = (w.toBitVec <<< 20).sshiftRight 20 from rfl]
  apply BitVec.eq_of_getLsbD_eq
  intro i hi
  rw [BitVec.getLsbD_and, BitVec.getLsbD_and]
  by_cases h : i < 10
  · rw [BitVec.getLsbD_sshiftRight, if_pos (show 20 + i < 32 by omega), BitVec.getLsbD_shiftLeft]
    simp [show ¬ 32 ≤ i by omega, show 20 + i < 32 by omega, show ¬ 20 + i < 20 by omega]
  · have e : (1023 : Int32).toBitVec.getLsbD i = false := by
      have : ∀ j, j < 32 → ¬ j < 10 → (1023 : Int32).toBitVec.getLsbD j = false := by decide
      exact this i hi h
    rw [e, Bool.and_false, Bool.and_false]
theorem k12_M (w : Int32) : (if (w &&& (4095 : Int32)) ≤ 2047 then (w &&& (4095 : Int32)) else ((w &&& (4095 : Int32)) - 4096)) &&& (1023 : Int32) = w &&& (1023 : Int32) := by
  have h1 : (w &&& (4095 : Int32)) &&& (1023 : Int32) = w &&& (1023 : Int32) := by rw [Int32.and_assoc]; rfl
  split
  · exact h1
  · rw [← h1]
    apply ext_nat
    rw [mod_n, mod_n, show (4096 : Int32) = nI 4096 from rfl, sub_n _ _ (by decide)]
    have := (w &&& (4095 : Int32)).toBitVec.isLt
    omega
theorem g_near {u : ST} (hu : IB u) {n : Nat} (hn : n < 65536) (h : n / 4096 = 12 ∨ n / 4096 = 13) : fX4_jumpNear (nI n) u = Fin u (fX5_does (nI n) (sNx u (pN u))) := by
  have e : (gPc u + 1 + (jshr (jshl (nI n) 20) 20)) &&& (1023 : Int32) = (pN u + (if (nI n &&& (4095 : Int32)) ≤ 2047 then (nI n &&& (4095 : Int32)) else ((nI n &&& (4095 : Int32)) - 4096))) &&& (1023 : Int32) := by
    rw [← and_add', k12_and, ← k12_M (nI n), and_add', ← and_add]
    rfl
  have e12 : nI n &&& (4096 : Int32) = nI (n / 4096 % 2 * 4096) := by
    have h2 := and_nI (a := n) (m := 4096) (by omega) (by decide)
    rw [show n &&& 4096 = n / 4096 % 2 * 4096 from and_pow n 12] at h2
    exact h2
  unfold fX4_jumpNear
  rcases h with h | h
  · rw [does_t12 hn h, e12, h, if_pos (by decide)]
    exact jump_fin e
  · rw [does_t13 hn h, e12, h, if_neg (by decide)]
    exact call_fin hu e rfl
theorem ab1 {n : Nat} (hn : n < 2147483648) : nI n &&& (2 : Int32) = nI (n / 2 % 2 * 2) := by
  have h := and_nI (a := n) (m := 2) hn (by decide)
  rw [show n &&& 2 = n / 2 % 2 * 2 from and_pow n 1] at h
  exact h
theorem g_far {u : ST} (hu : IB u) {n : Nat} (hn : n < 65536) (h : 12 ≤ n % 16) : fX4_jumpFar (nI n) u = Fin u (fX5_ofOthers (nI n) (sNx u (pN u))) := by
  unfold fX4_jumpFar fX5_ofOthers
  rw [an15 (by omega), if_neg (show ¬ nI (n % 16) ≤ 11 by rw [le11 (by omega)]; omega), ab1 (by omega)]
  by_cases c : n % 16 ≤ 13
  · rw [if_pos (show nI (n % 16) ≤ 13 by rw [le13 (by omega)]; exact c), show n / 2 % 2 * 2 = 0 by omega, if_pos (show nI 0 = 0 from rfl)]
    exact jump_fin rfl
  · rw [if_neg (show ¬ nI (n % 16) ≤ 13 by rw [le13 (by omega)]; exact c), show n / 2 % 2 * 2 = 2 by omega, if_neg (show ¬ nI 2 = 0 by decide)]
    exact call_fin hu rfl (pn1 u)
theorem g_toz {u : ST} (hu : IB u) : fX4_jumpToZ (nI 37897) u = Fin u (fX5_ofOthers (nI 37897) (sNx u (pN u))) ∧ fX4_jumpToZ (nI 38153) u = Fin u (fX5_ofOthers (nI 38153) (sNx u (pN u))) := by
  unfold fX4_jumpToZ fX5_ofOthers
  rw [p30, pair_nx]
  constructor
  · rw [if_pos (show nI 37897 &&& (256 : Int32) = 0 by decide), if_pos (show (nI 37897 &&& (15 : Int32)) ≤ 11 by decide), if_pos (show (nI 37897 &&& (15 : Int32)) = 9 by decide), if_neg (show ¬ nI 37897 = 38153 by decide)]
    exact jump_fin rfl
  · rw [if_neg (show ¬ nI 38153 &&& (256 : Int32) = 0 by decide), if_pos (show (nI 38153 &&& (15 : Int32)) ≤ 11 by decide), if_pos (show (nI 38153 &&& (15 : Int32)) = 9 by decide), if_pos (show nI 38153 = 38153 from rfl)]
    exact call_fin hu rfl rfl
/-! back -/
theorem le_lt (x : Int32) : (1023 : Int32) < x ↔ ¬ x ≤ 1023 := by
  rw [Int32.lt_iff_toInt_lt, Int32.le_iff_toInt_le]; omega
theorem flag_nx (f b p : Int32) (u : ST) : fX5_flag f b (sNx u p) = sNx (fX5_flag f b u) p := rfl
theorem fin_jump {u S Y : ST} {t : Int32} (h : Y = sNx S (t &&& (1023 : Int32))) (hn : gNx S = gNx u) : fX4_jumpTo t S = Fin u (Y, 0) := by
  subst h
  show (sPc S (t &&& 1023), (0 : Int32)) = (sPc (sNx (sNx S (t &&& 1023)) (gNx u)) (t &&& 1023), 0)
  rw [nx_nx, nx_eta hn]
theorem g_back {u : ST} (hu : IB u) (w : Int32) : fX4_comeBack w u = Fin u (fX5_returns w (sNx u (pN u))) := by
  unfold fX4_comeBack fX5_returns
  rw [p93, pair_nx]
  by_cases h : ((fX5_pair 93 u + 1) &&& (65535 : Int32)) ≤ 1023
  · rw [if_neg (fun q => (le_lt _).mp q h), if_pos (far0 h)]
    by_cases h2 : ((fX5_pair 93 u + 2) &&& (65535 : Int32)) ≤ 1023
    · rw [if_pos h2, if_pos (far0 h2), pull_eq h]
      have e1 : fX5_pair 93 (fX5_pops u).1 = (fX5_pair 93 u + 1) &&& 65535 := by
        have := pair_set (k := 93) (by decide) ((fX5_pair 93 u + 1) &&& 65535) u
        rw [(word_and _).and65535] at this
        exact this
      have h3 : ((fX5_pair 93 (fX5_pops u).1 + 1) &&& (65535 : Int32)) ≤ 1023 := by
        rw [e1, addw_and, Int32.add_assoc]; exact h2
      rw [pull_eq h3, pops_nx]
      have e2 : fX5_pops (sNx (fX5_pops u).1 (pN u), (fX5_pops u).2).1 = (sNx (fX5_pops (fX5_pops u).1).1 (pN u), (fX5_pops (fX5_pops u).1).2) := pops_nx _ _
      rw [e2]
      have k1 : gNx (fX5_pops (fX5_pops u).1).1 = gNx u := (gNx_pops _).trans (gNx_pops _)
      have k2 : IB (fX5_pops (fX5_pops u).1).1 := hu.pops.pops
      generalize hS : (fX5_pops (fX5_pops u).1).1 = S at k1 k2
      by_cases c : w = 38168
      · rw [if_pos c, if_pos c, nx_nx, flag_nx, show fX5_flag 128 1 S = fX0_setFlag 7 1 S from setFlag_eq (s := 7) (u := S) k2 (by decide) true]
        exact fin_jump rfl k1
      · rw [if_neg c, if_neg c, nx_nx]
        exact fin_jump rfl k1
    · rw [if_neg h2, far1 h2, if_neg (show ¬ (1 : Int32) = 0 by decide)]
      exact fin_far u _
  · rw [if_pos ((le_lt _).mpr h), far1 h, if_neg (show ¬ (1 : Int32) = 0 by decide)]
    exact fin_far u _
/-! branches -/
theorem k7_X (w : Int32) : jshr (jshl w 22) 25 = jshr (jshl ((jshr w 3) &&& (127 : Int32)) 25) 25 := by
  apply Int32.toBitVec_inj.mp
  rw [show (jshr (jshl w 22) 25).toBitVec = (w.toBitVec <<< 22).sshiftRight 25 from rfl, show (jshr (jshl ((jshr w 3) &&& (127 : Int32)) 25) 25).toBitVec = ((w.toBitVec.sshiftRight 3 &&& (127 : Int32).toBitVec) <<< 25).sshiftRight 25 from rfl]
  have e : w.toBitVec <<< 22 >>> 25 <<< 25 = (w.toBitVec.sshiftRight 3 &&& (127 : Int32).toBitVec) <<< 25 := by
    apply BitVec.eq_of_getLsbD_eq
    intro i hi
    simp only [BitVec.getLsbD_shiftLeft, BitVec.getLsbD_ushiftRight, BitVec.getLsbD_and, BitVec.getLsbD_sshiftRight]
    by_cases h : i < 25
    · simp [h]
    · have e2 : (127 : Int32).toBitVec.getLsbD (i - 25) = true := by
        have : ∀ j, j < 7 → (127 : Int32).toBitVec.getLsbD j = true := by decide
        exact this _ (by omega)
      rw [e2]
      simp [h, hi, show 3 + (i - 25) < 32 by omega, show ¬ 32 ≤ i - 25 by omega, show 25 + (i - 25) < 32 by omega, show ¬ 25 + (i - 25) < 22 by omega, show 25 + (i - 25) - 22 = 3 + (i - 25) by omega]
  rw [← e]
  apply BitVec.eq_of_getLsbD_eq
  intro i hi
  simp only [BitVec.getLsbD_sshiftRight, BitVec.msb_eq_getLsbD_last, BitVec.getLsbD_shiftLeft, BitVec.getLsbD_ushiftRight]
  by_cases h : 25 + i < 32
  · simp [h, show ¬ 25 + i < 25 by omega, show 25 + (25 + i - 25) = 25 + i by omega]
  · simp [h]
theorem k7_F : ∀ j, j < 128 → jshr (jshl (nI j) 25) 25 = (if nI j ≤ 63 then nI j else (nI j - 128)) := by decide +kernel
theorem g_branch {u : ST} (hu : IB u) {n : Nat} (hn : n < 65536) (h : n / 2048 = 30) : fX4_branch (nI n) u = Fin u (fX5_ofFifteen (nI n) (sNx u (pN u))) := by
  have hv : IB (sNx u (pN u)) := hu
  obtain ⟨s, hs, e⟩ := s_ex (nI n)
  unfold fX4_branch fX5_ofFifteen
  rw [if_pos (show nI n < 63488 by rw [lt63488 (by omega)]; omega), k7_X, e, has_eq hv hs, ab10 (by omega), jn3 (by omega), an127 (by omega), k7_F _ (by omega)]
  have e1 : (if (1 : Int32) ≤ nI (n / 1024 % 2 * 1024) then (0 : Int32) else 1) = (if nI (n / 1024 % 2 * 1024) = 0 then (1 : Int32) else 0) := by
    rcases (show n / 1024 % 2 = 0 ∨ n / 1024 % 2 = 1 by omega) with c | c <;> rw [c] <;> decide
  rw [e1, show fX0_flag (nI s) (sNx u (pN u)) = fX0_flag (nI s) u from rfl]
  by_cases c : fX0_flag (nI s) u = (if nI (n / 1024 % 2 * 1024) = 0 then (1 : Int32) else 0)
  · rw [if_pos c, if_pos c]
    generalize (if nI (n / 8 % 128) ≤ 63 then nI (n / 8 % 128) else (nI (n / 8 % 128) - 128)) = k
    refine fin_pc (φ := u) (q := (pN u + k) &&& 1023) rfl rfl ?_
    show (((gPc u + 1) &&& 1023) + k) &&& 1023 = (gPc u + (1 + k)) &&& 1023
    rw [and_add, Int32.add_assoc]
  · rw [if_neg c, if_neg c]
    exact fin_data rfl rfl rfl
