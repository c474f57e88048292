/-! pairs of bytes -/
theorem pair_at {i : Int32} (h : vp_in i 1024) (h1 : vp_in (i + 1) 1024) (u : ST) : fX0_pair i u = fX5_pair i u := by
  unfold fX0_pair fX5_pair
  rw [and1023 h, and1023 h1]
theorem setPair_at {i : Int32} (h : vp_in i 1024) (h1 : vp_in (i + 1) 1024) (x : Int32) (u : ST) : fX0_setPair i x u = fX5_setPair i x u := by
  unfold fX0_setPair fX5_setPair
  rw [and1023 h, and1023 h1]
theorem vin_nI {k : Nat} (h : k < 1024) : vp_in (nI k) 1024 := vp_in_nI h (by decide)
theorem pair_n {k : Nat} (h : k < 1023) (u : ST) : fX0_pair (nI k) u = fX5_pair (nI k) u := pair_at (vin_nI (by omega)) (by rw [nI_1]; exact vin_nI (by omega)) u
theorem setPair_n {k : Nat} (h : k < 1023) (x : Int32) (u : ST) : fX0_setPair (nI k) x u = fX5_setPair (nI k) x u := setPair_at (vin_nI (by omega)) (by rw [nI_1]; exact vin_nI (by omega)) x u
theorem w_shl8 : ∀ n, n < 256 → (0 ≤ (jshl (nI n) 8).toInt ∧ (jshl (nI n) 8).toInt < 65536) := by decide +kernel
theorem word_pair {u : ST} (hu : IB u) (i : Int32) : Word (fX5_pair i u) := by
  unfold fX5_pair
  obtain ⟨n, hn, hF⟩ := byte_ex (hu.r (i + 1))
  rw [hF]
  exact (hu.r i).word.or (w_shl8 n hn)
theorem j8_b (x : Int32) : Byte ((jshr x 8) &&& (255 : Int32)) := byte_and _
theorem IB.setPair {u : ST} (h : IB u) (i x : Int32) : IB (fX5_setPair i x u) := (h.w i (byte_and _)).w _ (j8_b _)
/-! the bits of a word behind a mask -/
theorem and16_lo (k : Int32) : (k &&& (65535 : Int32)) &&& (255 : Int32) = k &&& (255 : Int32) := by
  rw [Int32.and_assoc]; rfl
theorem jshr8_bv (x : Int32) : (jshr x 8).toBitVec = x.toBitVec.sshiftRight 8 := rfl
theorem and16_hi (k : Int32) : (jshr (k &&& (65535 : Int32)) 8) &&& (255 : Int32) = (jshr k 8) &&& (255 : Int32) := by
  apply Int32.toBitVec_inj.mp
  rw [Int32.toBitVec_and, Int32.toBitVec_and, jshr8_bv, jshr8_bv, Int32.toBitVec_and]
  apply BitVec.eq_of_getLsbD_eq
  intro i hi
  rw [BitVec.getLsbD_and, BitVec.getLsbD_and]
  by_cases h : i < 8
  · have e : (65535 : Int32).toBitVec.getLsbD (8 + i) = true := by
      have : ∀ j, j < 8 → (65535 : Int32).toBitVec.getLsbD (8 + j) = true := by decide
      exact this i h
    rw [BitVec.getLsbD_sshiftRight, BitVec.getLsbD_sshiftRight, if_pos (show 8 + i < 32 by omega), if_pos (show 8 + i < 32 by omega), BitVec.getLsbD_and, e, Bool.and_true]
  · have e : (255 : Int32).toBitVec.getLsbD i = false := by
      have : ∀ j, j < 32 → ¬ j < 8 → (255 : Int32).toBitVec.getLsbD j = false := by decide
      exact this i hi h
    rw [e, Bool.and_false, Bool.and_false]
theorem setPair_and (i k : Int32) (u : ST) : fX5_setPair i (k &&& (65535 : Int32)) u = fX5_setPair i k u := by
  unfold fX5_setPair
  rw [and16_lo, and16_hi]
theorem jshl1_n (p : Int32) : (jshl p 1).toBitVec.toNat = p.toBitVec.toNat * 2 % 4294967296 := by
  have h : (jshl p 1).toBitVec = p.toBitVec <<< 1 := rfl
  rw [h, BitVec.toNat_shiftLeft, Nat.shiftLeft_eq]
theorem and16_n (x : Int32) : (x &&& (65535 : Int32)).toBitVec.toNat = x.toBitVec.toNat % 65536 := by
  rw [Int32.toBitVec_and, BitVec.toNat_and]
  exact Nat.and_two_pow_sub_one_eq_mod _ 16
theorem shl_and (p : Int32) : (jshl (p &&& (65535 : Int32)) 1) &&& (65535 : Int32) = (jshl p 1) &&& (65535 : Int32) := by
  apply ext_nat
  rw [and16_n, and16_n, jshl1_n, jshl1_n, and16_n]
  omega
/-! a pair of registers and the flags lie apart -/
theorem sp95 {k : Nat} (hk : k < 94) (x E : Int32) (u : ST) : fX5_setPair (nI k) x (wD u 95 E) = wD (fX5_setPair (nI k) x u) 95 E := by
  unfold fX5_setPair
  have e0 : (95 : Int32).toNatClampNeg = 95 := by decide
  rw [wD_comm u E _ (by rw [e0, nI_clamp (by omega)]; omega), nI_1, wD_comm _ E _ (by rw [e0, nI_clamp (by omega)]; omega)]
theorem rsp95 {k : Nat} (hk : k < 94) (x : Int32) (u : ST) : rD (fX5_setPair (nI k) x u) 95 = rD u 95 := by
  unfold fX5_setPair
  have e0 : (95 : Int32).toNatClampNeg = 95 := by decide
  rw [nI_1, rD_ne _ _ (by rw [e0, nI_clamp (by omega)]; omega), rD_ne _ _ (by rw [e0, nI_clamp (by omega)]; omega)]
/-! products -/
theorem F3 : ∀ n, n < 256 → ∀ c z : Bool, flg 2 (b01 z) (flg 1 (b01 c) (nI n)) = ((nI n &&& ((3 : Int32) ^^^ (-1 : Int32))) ||| ((b01 c ||| jshl (b01 z) 1) &&& (3 : Int32))) := by decide +kernel
theorem b15p (p : Int32) : (if (p &&& (32768 : Int32)) = 0 then (0 : Int32) else 1) = b01 (!decide ((p &&& (65535 : Int32)) ≤ 32767)) := by
  have h : (p &&& (65535 : Int32)) &&& (32768 : Int32) = p &&& (32768 : Int32) := by rw [Int32.and_assoc]; rfl
  rw [← h, bit15 (word_and p)]
  cases decide ((p &&& (65535 : Int32)) ≤ 32767) <;> decide
theorem keep_eq {v : ST} (hv : IB v) (p k : Int32) : fX5_setPair 0 (k &&& (65535 : Int32)) (fX5_flag 2 (if (k &&& (65535 : Int32)) = 0 then (1 : Int32) else 0) (fX5_flag 1 (if (p &&& (65535 : Int32)) ≤ 32767 then (0 : Int32) else 1) v)) = fX2_keepProduct p k v := by
  unfold fX2_keepProduct
  rw [flag_u 1, flag_w, setPair_and, show fX0_setPair 0 k v = _ from setPair_n (k := 0) (by decide) k v, setFlags_eq, show fX5_setPair 0 k (wD v 95 _) = _ from sp95 (k := 0) (by decide) k _ v, rsp95 (k := 0) (by decide) k v, b15p, b01_n ((p &&& (65535 : Int32)) ≤ 32767), b01_p, m2_p]
  obtain ⟨n, hn, hF⟩ := byte_ex (hv.r 95)
  rw [hF, F3 n hn]
theorem product_eq {v : ST} (hv : IB v) (p : Int32) : fX5_product p 0 v = fX2_product p v := by
  unfold fX5_product fX2_product
  rw [if_pos rfl]
  exact keep_eq hv p p
theorem fraction_eq {v : ST} (hv : IB v) (p : Int32) : fX5_product p 1 v = fX2_fraction p v := by
  unfold fX5_product fX2_fraction
  rw [if_neg (show ¬ (1 : Int32) = 0 by decide), shl_and]
  exact keep_eq hv p (jshl p 1)
theorem signed_F : ∀ n, n < 256 → Int8.toInt32 (Int32.toInt8 (nI n)) = (if nI n ≤ 127 then nI n else (nI n - 256)) := by decide +kernel
theorem signed_eq {u : ST} (hu : IB u) {i : Int32} (hi : vp_in i 1024) : fX0_signed i u = fX5_signed (rD u i) := by
  unfold fX0_signed fX5_signed
  rw [and1023 hi]
  obtain ⟨n, hn, hF⟩ := byte_ex (hu.r i)
  rw [hF, signed_F n hn]
theorem g_products {u : ST} (hu : IB u) {n : Nat} (hn : n < 65536) (h : n / 256 = 2 ∨ n / 256 = 3) : fX4_multiply (nI n) u = Fin u (fX5_products (nI n) (sNx u (pN u)), 0) := by
  have hv : IB (sNx u (pN u)) := hu
  unfold fX4_multiply fX5_products
  rw [jn12 (by omega), jn8 (by omega), if_neg (by rw [eL9 (by omega)]; omega)]
  rcases h with h | h
  · rw [h, if_pos (show nI 2 = 2 from rfl), if_pos (show nI 2 = 2 from rfl), product_eq hv, signed_eq hu (x_16a _), signed_eq hu (x_16b _)]
    refine fin_data ?_ rfl rfl; generalize pN u = p; rfl
  · rw [h, if_neg (show ¬ nI 3 = 2 by decide), if_neg (show ¬ nI 3 = 2 by decide)]
    unfold fX4_multiplyFew fX0_get
    rw [signed_eq hu (x_16c _), signed_eq hu (x_16d _), i_16c, i_16d]
    by_cases c0 : (nI n &&& (136 : Int32)) = 0
    · rw [if_pos c0, if_pos c0, product_eq hv]; refine fin_data ?_ rfl rfl; generalize pN u = p; rfl
    rw [if_neg c0, if_neg c0]
    by_cases c1 : (nI n &&& (136 : Int32)) = 8
    · rw [if_pos c1, if_pos c1, fraction_eq hv]; refine fin_data ?_ rfl rfl; generalize pN u = p; rfl
    rw [if_neg c1, if_neg c1]
    by_cases c2 : (nI n &&& (136 : Int32)) = 128
    · rw [if_pos c2, if_pos c2, fraction_eq hv]; refine fin_data ?_ rfl rfl; generalize pN u = p; rfl
    rw [if_neg c2, if_neg c2, fraction_eq hv]
    refine fin_data ?_ rfl rfl; generalize pN u = p; rfl
theorem g_product9 {u : ST} (hu : IB u) {n : Nat} (hn : n < 65536) (h : n / 1024 = 39) : fX4_multiply (nI n) u = Fin u (fX5_product ((rD (sNx u (pN u)) (fX5_dOf (nI n))) * (rD (sNx u (pN u)) (((jshr (nI n) 5) &&& 16) ||| (nI n &&& 15)))) 0 (sNx u (pN u)), 0) := by
  have hv : IB (sNx u (pN u)) := hu
  unfold fX4_multiply fX0_get fX3_d fX3_r fX5_dOf
  rw [jn12 (by omega), if_pos (by rw [eL9 (by omega)]; omega), product_eq hv, i_d, i_r]
  refine fin_data ?_ rfl rfl; generalize pN u = p; rfl
/-! ports, pairs of registers -/
theorem g_port {u : ST} (hu : IB u) (w : Int32) : fX4_movePort w u = Fin u (fX5_ofPort w (sNx u (pN u)), 0) := by
  unfold fX4_movePort fX5_ofPort fX0_set fX0_get fX3_d fX5_dOf
  simp only [i_d, i_32b]
  rw [(hu.r _).and255, (hu.r _).and255]
  by_cases c : (w &&& (2048 : Int32)) = 0
  · rw [if_pos c, if_pos c]; refine fin_data ?_ rfl rfl; generalize pN u = p; rfl
  · rw [if_neg c, if_neg c]; refine fin_data ?_ rfl rfl; generalize pN u = p; rfl
theorem two_n {j : Nat} (h : j < 16) : (2 : Int32) * nI j = nI (2 * j) := by
  have : ∀ j, j < 16 → (2 : Int32) * nI j = nI (2 * j) := by decide
  exact this j h
theorem pair_nx (i p : Int32) (u : ST) : fX5_pair i (sNx u p) = fX5_pair i u := rfl
theorem wD_nx (i x p : Int32) (u : ST) : wD (sNx u p) i x = sNx (wD u i x) p := rfl
theorem setPair_nx (i x p : Int32) (u : ST) : fX5_setPair i x (sNx u p) = sNx (fX5_setPair i x u) p := by
  unfold fX5_setPair
  rw [wD_nx, wD_nx]
theorem gNx_setPair (i x : Int32) (u : ST) : gNx (fX5_setPair i x u) = gNx u := rfl
theorem gPc_setPair (i x : Int32) (u : ST) : gPc (fX5_setPair i x u) = gPc u := rfl
theorem pf_nx (x o c p : Int32) (u : ST) : fX2_pairFlags x o c (sNx u p) = sNx (fX2_pairFlags x o c u) p := rfl
theorem gNx_pf (x o c : Int32) (u : ST) : gNx (fX2_pairFlags x o c u) = gNx u := rfl
theorem gPc_pf (x o c : Int32) (u : ST) : gPc (fX2_pairFlags x o c u) = gPc u := rfl
theorem g_movepair {u : ST} (w : Int32) : fX4_movePair w u = Fin u (fX5_setPair ((2 : Int32) * ((jshr w 4) &&& 15)) (fX5_pair ((2 : Int32) * (w &&& 15)) (sNx u (pN u))) (sNx u (pN u)), 0) := by
  obtain ⟨a, ha, ea⟩ := ex_nI (x := (jshr w 4) &&& (15 : Int32)) (N := 16) (r_m _ 15 (by decide)).1 (by have := (r_m (jshr w 4) 15 (by decide)).2; exact Int.lt_of_le_of_lt this (by decide)) (by decide)
  obtain ⟨b, hb, eb⟩ := ex_nI (x := w &&& (15 : Int32)) (N := 16) (r_m _ 15 (by decide)).1 (by have := (r_m w 15 (by decide)).2; exact Int.lt_of_le_of_lt this (by decide)) (by decide)
  unfold fX4_movePair
  rw [ea, eb, two_n ha, two_n hb, pair_n (by omega), setPair_n (by omega), pair_nx, setPair_nx]
  exact fin_data rfl (gNx_setPair _ _ _) (gPc_setPair _ _ _)
theorem FP : ∀ n, n < 256 → ∀ z z2 g a c : Bool, flg 16 (b01 (g != a)) (flg 1 (b01 c) (flg 8 (b01 a) (flg 4 (b01 g) (flg 2 (b01 z) (nI n))))) = ((nI n &&& ((31 : Int32) ^^^ (-1 : Int32))) ||| ((((sgX z2 g a &&& (-3 : Int32)) ||| jshl (b01 z) 1) ||| b01 c) &&& (31 : Int32))) := by decide +kernel
theorem nb_ax (a x m : Int32) : ((a ^^^ (-1 : Int32)) &&& x) &&& m = (x &&& m) &&& ((a &&& m) ^^^ m) := by
  apply Int32.toBitVec_inj.mp
  apply BitVec.eq_of_getLsbD_eq
  intro i hi
  simp only [Int32.toBitVec_and, Int32.toBitVec_xor, BitVec.getLsbD_and, BitVec.getLsbD_xor]
  have e : (-1 : Int32).toBitVec.getLsbD i = true := by
    have : ∀ j, j < 32 → (-1 : Int32).toBitVec.getLsbD j = true := by decide
    exact this i hi
  rw [e]
  cases a.toBitVec.getLsbD i <;> cases x.toBitVec.getLsbD i <;> cases m.toBitVec.getLsbD i <;> rfl
theorem nb {a x : Int32} (ha : Word a) (hx : Word x) : (if (((a ^^^ (-1 : Int32)) &&& x) &&& (32768 : Int32)) = 0 then (0 : Int32) else 1) = b01 (decide (a ≤ 32767) && !decide (x ≤ 32767)) := by
  rw [nb_ax, bit15 ha, bit15 hx]
  cases decide (a ≤ 32767) <;> cases decide (x ≤ 32767) <;> decide
theorem nb' {a x : Int32} (ha : Word a) (hx : Word x) : (if ((x &&& (a ^^^ (-1 : Int32))) &&& (32768 : Int32)) = 0 then (0 : Int32) else 1) = b01 (decide (a ≤ 32767) && !decide (x ≤ 32767)) := by
  rw [Int32.and_comm x]; exact nb ha hx
theorem gele {a : Int32} (ha : Word a) : ((32768 : Int32) ≤ a) = ¬ a ≤ 32767 := by
  obtain ⟨n, hn, rfl⟩ := word_ex ha
  rw [ge32768 (by omega), le32767 (by omega)]
  exact propext ⟨fun h => by omega, fun h => by omega⟩
theorem mc {a x : Int32} (ha : Word a) : (if (32768 : Int32) ≤ a then (0 : Int32) else (if x ≤ 32767 then 0 else 1)) = b01 (decide (a ≤ 32767) && !decide (x ≤ 32767)) := by
  simp only [gele ha]
  by_cases h1 : a ≤ 32767 <;> by_cases h2 : x ≤ 32767 <;> simp [h1, h2, b01]
theorem mg {a x : Int32} (hx : Word x) : (if a ≤ 32767 then (0 : Int32) else (if (32768 : Int32) ≤ x then 0 else 1)) = b01 (decide (x ≤ 32767) && !decide (a ≤ 32767)) := by
  simp only [gele hx]
  by_cases h1 : a ≤ 32767 <;> by_cases h2 : x ≤ 32767 <;> simp [h1, h2, b01]
theorem hi_n7 {x : Int32} (hx : Word x) : Byte (jshr x 8) ∧ (!decide ((jshr x 8) ≤ 127)) = !decide (x ≤ 32767) := by
  obtain ⟨n, hn, rfl⟩ := word_ex hx
  rw [jn8 (by omega)]
  refine ⟨byte_nI (by omega), ?_⟩
  congr 1
  apply decide_eq_decide.mpr
  rw [le127 (by omega), le32767 (by omega)]
  omega
theorem pf_eq {v : ST} (hv : IB v) {x : Int32} (hx : Word x) (o c : Int32) (a k : Bool) (ho : (if (o &&& (32768 : Int32)) = 0 then (0 : Int32) else 1) = b01 a) (hc : (if (c &&& (32768 : Int32)) = 0 then (0 : Int32) else 1) = b01 k) {i : Nat} (hi : i < 94) : fX5_flag 16 (if (if x ≤ 32767 then (0 : Int32) else 1) = b01 a then (0 : Int32) else 1) (fX5_flag 1 (b01 k) (fX5_flag 8 (b01 a) (fX5_flag 4 (if x ≤ 32767 then (0 : Int32) else 1) (fX5_flag 2 (if x = 0 then (1 : Int32) else 0) (fX5_setPair (nI i) x v))))) = fX5_setPair (nI i) x (fX2_pairFlags x o c v) := by
  unfold fX2_pairFlags
  obtain ⟨h1, h2⟩ := hi_n7 hx
  rw [flag_u 2, flag_w, flag_w, flag_w, flag_w, setFlags_eq, sp95 hi, rsp95 hi, ho, hc, signs_X h1, h2, b01_n (x ≤ 32767), b01_eq, b01_p (x = 0), m2_p (x = 0)]
  obtain ⟨n, hn, hF⟩ := byte_ex (hv.r 95)
  rw [hF, FP n hn]
theorem low_n {n : Nat} (hn : n < 65536) : (24 : Int32) + ((2 : Int32) * ((jshr (nI n) 4) &&& (3 : Int32))) = nI (24 + 2 * (n / 16 % 4)) ∧ (24 : Int32) + ((jshr (nI n) 3) &&& (6 : Int32)) = nI (24 + 2 * (n / 16 % 4)) := by
  constructor
  · rw [jn4 (by omega), an3 (by omega), two_n (by omega)]
    exact nI_add 24 _
  · rw [jn3 (by omega), show nI (n / 8) &&& (6 : Int32) = nI (n / 8 &&& 6) from and_nI (by omega) (by decide), show n / 8 &&& 6 = 2 * (n / 16 % 4) from (by
      have h := and_hi (n / 8) 3 1
      rw [show n / 8 / 2 ^ 1 &&& 3 = n / 8 / 2 ^ 1 % 4 from Nat.and_two_pow_sub_one_eq_mod _ 2] at h
      rw [show (6 : Nat) = 3 * 2 ^ 1 by decide, h]
      omega)]
    exact nI_add 24 _
theorem g_pair {u : ST} (hu : IB u) {n : Nat} (hn : n < 65536) : fX4_changePair (nI n) u = Fin u (fX5_ofPair (nI n) (sNx u (pN u)), 0) := by
  have hv : IB (sNx u (pN u)) := hu
  obtain ⟨e1, e2⟩ := low_n hn
  have ha : Word (fX5_pair (nI (24 + 2 * (n / 16 % 4))) (sNx u (pN u))) := word_pair hv _
  unfold fX4_changePair fX5_ofPair
  rw [e1, e2]
  by_cases c : (nI n &&& (256 : Int32)) = 0
  · rw [if_pos c]
    simp only [if_pos c, if_true]
    have hx := word_and (fX5_pair (nI (24 + 2 * (n / 16 % 4))) (sNx u (pN u)) + (((jshr (nI n) 2) &&& 48) ||| (nI n &&& 15)))
    rw [mc ha, mg hx, pf_eq hv hx _ _ _ _ (nb ha hx) (nb' hx ha) (by omega), pair_n (by omega), setPair_n (by omega), pair_nx, pf_nx, setPair_nx]
    exact fin_data rfl ((gNx_setPair _ _ _).trans (gNx_pf _ _ _ _)) ((gPc_setPair _ _ _).trans (gPc_pf _ _ _ _))
  · rw [if_neg c]
    simp only [if_neg c, if_neg (show ¬ (1 : Int32) = 0 by decide), if_false]
    have hx := word_and (fX5_pair (nI (24 + 2 * (n / 16 % 4))) (sNx u (pN u)) - (((jshr (nI n) 2) &&& 48) ||| (nI n &&& 15)))
    rw [mc ha, mg hx, pf_eq hv hx _ _ _ _ (nb' hx ha) (nb ha hx) (by omega), pair_n (by omega), setPair_n (by omega), pair_nx, pf_nx, setPair_nx]
    exact fin_data rfl ((gNx_setPair _ _ _).trans (gNx_pf _ _ _ _)) ((gPc_setPair _ _ _).trans (gPc_pf _ _ _ _))
