theorem swap_eq {a : Int32} (h : Byte a) : ((jshl a 4) ||| (jshr a 4)) &&& (255 : Int32) = (jshr a 4) ||| ((jshl a 4) &&& (240 : Int32)) := all_byte (P := fun a => ((jshl a 4) ||| (jshr a 4)) &&& (255 : Int32) = (jshr a 4) ||| ((jshl a 4) &&& (240 : Int32))) (by decide +kernel) h
theorem top_eq {a : Int32} (h : Byte a) : jshr a 7 = b01 (!decide (a ≤ 127)) := all_byte (P := fun a => jshr a 7 = b01 (!decide (a ≤ 127))) (by decide +kernel) h
theorem v_inv {a : Int32} (u : ST) (h : Byte a) : (fX2_inverse a u).2 &&& (255 : Int32) = (fX2_inverse a u).2 := (byte_255sub h).and255
theorem v_more (a : Int32) (u : ST) : (fX2_more a u).2 &&& (255 : Int32) = (fX2_more a u).2 := (byte_and _).and255
theorem v_less (a : Int32) (u : ST) : (fX2_less a u).2 &&& (255 : Int32) = (fX2_less a u).2 := (byte_and _).and255
theorem v_right {a : Int32} (u : ST) (h : Byte a) (t : Bool) : (fX2_right a (b01 t) u).2 &&& (255 : Int32) = (fX2_right a (b01 t) u).2 := by
  obtain ⟨k, hk, rfl⟩ := byte_ex h
  exact (right_x0 k hk t).2.1.and255
theorem byte0 : Byte 0 := ⟨by decide, by decide⟩
theorem flag_b {s : Nat} (hs : s < 8) {u : ST} (hu : IB u) : ∃ t : Bool, fX0_flag (nI s) u = b01 t := by
  unfold fX0_flag
  obtain ⟨n, hn, hF⟩ := byte_ex (hu.r 95)
  rw [hF]
  exact flag_F s hs n hn
theorem one_x (a : Int32) (v : ST) : (fX5_logic a v).2 = a := rfl

theorem g_one {u : ST} (hu : IB u) (w : Int32) : fX4_change w u = Fin u (fX5_ofOne w (sNx u (pN u)), 0) := by
  have hv : IB (sNx u (pN u)) := hu
  unfold fX4_change fX5_ofOne fX2_difference fX0_get fX0_set fX3_d fX5_dOf
  simp only [i_d]
  by_cases h0 : (w &&& (15 : Int32)) = 0
  · rw [if_pos h0, if_pos h0]
    rw [inverse_eq hv (hv.r _), v_inv u (hu.r _)]
    exact fin_data rfl rfl rfl
  rw [if_neg h0, if_neg h0]
  by_cases h1 : (w &&& (15 : Int32)) = 1
  · rw [if_pos h1, if_pos h1]
    rw [subtract_eq hv byte0 (hv.r _), v_sub]
    exact fin_data rfl rfl rfl
  rw [if_neg h1, if_neg h1]
  by_cases h2 : (w &&& (15 : Int32)) = 2
  · rw [if_pos h2, if_pos h2]
    rw [swap_eq (hu.r _)]
    exact fin_data rfl rfl rfl
  rw [if_neg h2, if_neg h2]
  by_cases h3 : (w &&& (15 : Int32)) = 3
  · rw [if_pos h3, if_pos h3]
    rw [more_eq hv, v_more]
    exact fin_data rfl rfl rfl
  rw [if_neg h3, if_neg h3]
  by_cases h4 : (w &&& (15 : Int32)) = 4
  · rw [if_pos h4, if_pos h4]
    rw [less_eq hv, v_less]
    exact fin_data rfl rfl rfl
  rw [if_neg h4, if_neg h4]
  by_cases h5 : (w &&& (15 : Int32)) = 5
  · rw [if_pos h5, if_pos h5]
    rw [bit7 (hv.r _), right_eq hv (hv.r _), top_eq (hu.r _), v_right u (hu.r _)]
    exact fin_data rfl rfl rfl
  rw [if_neg h5, if_neg h5]
  by_cases h6 : (w &&& (15 : Int32)) = 6
  · rw [if_pos h6, if_pos h6]
    rw [show fX5_right (rD (sNx u (pN u)) ((jshr w 4) &&& 31)) 0 (sNx u (pN u)) = _ from right_eq hv (hv.r _) false, show (0 : Int32) = b01 false from rfl, v_right u (hu.r _)]
    exact fin_data rfl rfl rfl
  rw [if_neg h6, if_neg h6]
  by_cases h7 : (w &&& (15 : Int32)) = 7
  · rw [if_pos h7, if_pos h7]
    rw [carry_eq hv]
    obtain ⟨t, ht⟩ := flag_b (s := 0) (by decide) hu
    have ht2 : fX0_flag 0 (sNx u (pN u)) = b01 t := ht
    have ht3 : fX0_flag 0 u = b01 t := ht
    rw [ht2, ht3, right_eq hv (hv.r _), v_right u (hu.r _)]
    exact fin_data rfl rfl rfl
  rw [if_neg h7, if_neg h7]
  rw [less_eq hv, v_less]
  exact fin_data rfl rfl rfl

/-! single bits -/
theorem bit_F : ∀ s, s < 8 → ∀ n, n < 256 → ∀ b : Bool, ((nI n &&& ((jshl (1 : Int32) (nI s)) ^^^ (-1 : Int32))) ||| (jshl (b01 b) (nI s))) &&& (255 : Int32) = flg (jshl (1 : Int32) (nI s)) (b01 b) (nI n) := by decide +kernel
theorem s_ex (x : Int32) : ∃ s, s < 8 ∧ x &&& (7 : Int32) = nI s := ex_nI (N := 8) (r_m x 7 (by decide)).1 (by have := (r_m x 7 (by decide)).2; exact Int.lt_of_le_of_lt this (by decide)) (by decide)
theorem setBit_eq {u : ST} (hu : IB u) {i : Int32} (hi : vp_in i 1024) {s : Nat} (hs : s < 8) (b : Bool) : fX0_setBit i (nI s) (b01 b) u = wD u i (flg (jshl (1 : Int32) (nI s)) (b01 b) (rD u i)) := by
  unfold fX0_setBit fX0_set fX0_get
  rw [and1023 hi]
  obtain ⟨n, hn, hF⟩ := byte_ex (hu.r i)
  rw [hF, bit_F s hs n hn]
theorem i95 : vp_in (95 : Int32) 1024 := vp_in_iff.mpr (by decide)
theorem setFlag_eq {u : ST} (hu : IB u) {s : Nat} (hs : s < 8) (b : Bool) : fX5_flag (jshl (1 : Int32) (nI s)) (b01 b) u = fX0_setFlag (nI s) (b01 b) u := by
  unfold fX0_setFlag
  rw [setBit_eq hu i95 hs]
  rfl
theorem has_eq {u : ST} (hu : IB u) {s : Nat} (hs : s < 8) : fX5_has (jshl (1 : Int32) (nI s)) u = fX0_flag (nI s) u := by
  unfold fX5_has fX0_flag
  obtain ⟨n, hn, hF⟩ := byte_ex (hu.r 95)
  rw [hF, has_F s hs n hn]
theorem bit_eq {u : ST} (hu : IB u) {i : Int32} (hi : vp_in i 1024) {s : Nat} (hs : s < 8) : (if (rD u i &&& (jshl (1 : Int32) (nI s))) = 0 then (0 : Int32) else 1) = fX0_bit i (nI s) u := by
  unfold fX0_bit
  rw [and1023 hi]
  obtain ⟨n, hn, hF⟩ := byte_ex (hu.r i)
  rw [hF, has_F s hs n hn]
theorem bit_b {u : ST} (hu : IB u) {i : Int32} (hi : vp_in i 1024) {s : Nat} (hs : s < 8) : ∃ t : Bool, fX0_bit i (nI s) u = b01 t := by
  unfold fX0_bit
  rw [and1023 hi]
  obtain ⟨n, hn, hF⟩ := byte_ex (hu.r i)
  rw [hF]
  exact flag_F s hs n hn
theorem g_flag {u : ST} (hu : IB u) (w : Int32) : fX4_setFlag w u = Fin u (fX5_flag (jshl (1 : Int32) ((jshr w 4) &&& (7 : Int32))) (if (w &&& (128 : Int32)) = 0 then (1 : Int32) else 0) (sNx u (pN u)), 0) := by
  have hv : IB (sNx u (pN u)) := hu
  obtain ⟨s, hs, e⟩ := s_ex (jshr w 4)
  unfold fX4_setFlag
  rw [e, b01_p, setFlag_eq hv hs]
  exact fin_data rfl rfl rfl
/-! skips -/
theorem mod_n (x : Int32) : (x &&& (1023 : Int32)).toBitVec.toNat = x.toBitVec.toNat % 1024 := by
  rw [Int32.toBitVec_and, BitVec.toNat_and]
  exact Nat.and_two_pow_sub_one_eq_mod _ 10
theorem add_n (x y : Int32) : (x + y).toBitVec.toNat = (x.toBitVec.toNat + y.toBitVec.toNat) % 4294967296 := by
  rw [Int32.toBitVec_add, BitVec.toNat_add]
theorem and_add (x y : Int32) : ((x &&& (1023 : Int32)) + y) &&& (1023 : Int32) = (x + y) &&& (1023 : Int32) := by
  apply ext_nat
  rw [mod_n, mod_n, add_n, add_n, mod_n]
  omega
theorem and_add' (x y : Int32) : (x + (y &&& (1023 : Int32))) &&& (1023 : Int32) = (x + y) &&& (1023 : Int32) := by
  rw [Int32.add_comm, and_add, Int32.add_comm]
theorem and_and (x : Int32) : (x &&& (1023 : Int32)) &&& (1023 : Int32) = x &&& (1023 : Int32) := by
  apply ext_nat
  rw [mod_n, mod_n]
  omega
theorem hasNext_eq {w : Int32} (h : Word w) : fX3_hasNext w = fX5_hasNext w := by
  obtain ⟨n, hn, rfl⟩ := word_ex h
  unfold fX3_hasNext fX5_hasNext
  rw [am64527 hn, am65036 hn, an15 (by omega)]
  simp only [eL36864 (show n / 1024 % 64 * 1024 + n % 16 < 2147483648 by omega), eL37900 (show n / 512 % 128 * 512 + n / 4 % 4 * 4 < 2147483648 by omega), eL0 (show n % 16 < 2147483648 by omega), le11 (show n % 16 < 2147483648 by omega)]
  by_cases c1 : n / 1024 = 36
  · rw [mem1 hn c1, one0 hn (by omega), if_neg (show ¬ (1 : Int32) = 0 by decide), if_pos (show (0 : Int32) = 0 from rfl)]
    by_cases c2 : n % 16 = 0
    · rw [if_pos (by omega), if_pos c2]
    · rw [if_neg (by omega), if_neg (by omega), if_neg c2]
  · rw [mem0 hn c1, if_pos (show (0 : Int32) = 0 from rfl), if_neg (show ¬ n / 1024 % 64 * 1024 + n % 16 = 36864 by omega)]
    by_cases c2 : n / 512 = 74
    · rw [one1 hn c2, if_neg (show ¬ (1 : Int32) = 0 by decide)]
      by_cases c3 : n % 16 ≤ 11
      · rw [if_pos c3, if_neg (by omega)]
      · rw [if_neg c3, if_pos (by omega)]
    · rw [one0 hn c2, if_pos (show (0 : Int32) = 0 from rfl), if_neg (by omega)]
/-- all of CODE are words -/
def IW (u : ST) : Prop := ∀ i, Word (gC u i)
theorem fin_pc {u φ Y : ST} {q c : Int32} (h : Y = sNx φ q) (hn : gNx φ = gNx u) (hp : q = (gPc φ + c) &&& (1023 : Int32)) : fX4_onward c φ = Fin u (Y, 0) := by
  subst h
  show (sPc φ ((gPc φ + c) &&& 1023), (0 : Int32)) = (sPc (sNx (sNx φ q) (gNx u)) (gNx (sNx φ q)), (0 : Int32))
  have e1 : sNx (sNx φ q) (gNx u) = φ := nx_eta hn
  have e2 : gNx (sNx φ q) = q := rfl
  rw [e1, e2, hp]
theorem g_skip {u : ST} (hw : IW u) (x : Int32) : fX4_skip x u = Fin u (fX5_skips x (sNx u (pN u)), 0) := by
  unfold fX4_skip fX5_skips
  by_cases h : x = 0
  · rw [if_pos h, if_pos h]
    exact fin_data rfl rfl rfl
  · rw [if_neg h, if_neg h]
    have e : fX3_hasNext (fX4_cellAt (gPc u + 1) u) = fX5_hasNext (rC (sNx u (pN u)) (gNx (sNx u (pN u)))) := hasNext_eq (hw _)
    rw [e]
    by_cases h2 : fX5_hasNext (rC (sNx u (pN u)) (gNx (sNx u (pN u)))) = 0
    · rw [if_pos h2, if_pos h2, if_pos h2]
      refine fin_pc rfl rfl ?_
      show (((gPc u + 1) &&& 1023) + 1) &&& 1023 = (gPc u + 2) &&& 1023
      rw [and_add, Int32.add_assoc]; rfl
    · rw [if_neg h2, if_neg h2, if_neg h2]
      refine fin_pc rfl rfl ?_
      show (((gPc u + 1) &&& 1023) + 2) &&& 1023 = (gPc u + 3) &&& 1023
      rw [and_add, Int32.add_assoc]; rfl
theorem g_portbit0 {u : ST} (hu : IB u) {n : Nat} (hn : n < 65536) (h : n / 256 = 152 ∨ n / 256 = 154) : fX4_setPortBit (nI n) u = Fin u (fX5_ofPortBit (nI n) (sNx u (pN u)), 0) := by
  have hv : IB (sNx u (pN u)) := hu
  obtain ⟨s, hs, e⟩ := s_ex (nI n)
  unfold fX4_setPortBit fX5_ofPortBit
  rw [e, jn8 (by omega), jn9 (by omega), an3 (by omega), an1 (by omega)]
  rcases h with h | h
  · rw [show n / 256 % 4 = 0 by omega, show n / 512 % 2 = 0 by omega, if_pos (show nI 0 = 0 from rfl), show nI 0 = b01 false from rfl, setBit_eq hu (x_32a _) hs]
    exact fin_data rfl rfl rfl
  · rw [show n / 256 % 4 = 2 by omega, show n / 512 % 2 = 1 by omega, if_neg (show ¬ nI 2 = 0 by decide), if_neg (show ¬ nI 2 = 1 by decide), if_pos (show nI 2 = 2 from rfl), show nI 1 = b01 true from rfl, setBit_eq hu (x_32a _) hs]
    exact fin_data rfl rfl rfl
theorem skb (t : Bool) : (if b01 t = nI 0 then (1 : Int32) else 0) = (if b01 t = 0 then 1 else 0) := rfl
theorem skb1 (t : Bool) : (if b01 t = nI 1 then (1 : Int32) else 0) = b01 t := by cases t <;> decide
theorem g_portbit1 {u : ST} (hu : IB u) (hw : IW u) {n : Nat} (hn : n < 65536) (h : n / 256 = 153 ∨ n / 256 = 155) : fX4_skipByPort (nI n) u = Fin u (fX5_ofPortBit (nI n) (sNx u (pN u)), 0) := by
  have hv : IB (sNx u (pN u)) := hu
  obtain ⟨s, hs, e⟩ := s_ex (nI n)
  unfold fX4_skipByPort fX5_ofPortBit
  rw [e, jn8 (by omega), jn9 (by omega), an3 (by omega), an1 (by omega), bit_eq hv (x_32a _) hs, show fX0_bit ((32 : Int32) + ((jshr (nI n) 3) &&& (31 : Int32))) (nI s) (sNx u (pN u)) = fX0_bit ((32 : Int32) + ((jshr (nI n) 3) &&& (31 : Int32))) (nI s) u from rfl]
  obtain ⟨t, ht⟩ := bit_b hu (x_32a (nI n)) hs
  rw [ht]
  rcases h with h | h
  · rw [show n / 256 % 4 = 1 by omega, show n / 512 % 2 = 0 by omega, if_neg (show ¬ nI 1 = 0 by decide), if_pos (show nI 1 = 1 from rfl)]
    exact g_skip hw _
  · rw [show n / 256 % 4 = 3 by omega, show n / 512 % 2 = 1 by omega, if_neg (show ¬ nI 3 = 0 by decide), if_neg (show ¬ nI 3 = 1 by decide), if_neg (show ¬ nI 3 = 2 by decide), skb1]
    exact g_skip hw _
theorem g_skipbit {u : ST} (hu : IB u) (hw : IW u) {n : Nat} (hn : n < 65536) (h : n / 1024 = 63) : fX4_skipByBit (nI n) u = Fin u (fX5_ofBit (nI n) (sNx u (pN u)), 0) := by
  have hv : IB (sNx u (pN u)) := hu
  obtain ⟨s, hs, e⟩ := s_ex (nI n)
  unfold fX4_skipByBit fX5_ofBit fX3_d fX5_dOf
  rw [e, jn9 (by omega), an3 (by omega), an1 (by omega), bit_eq hv (x_d _) hs, show fX0_bit ((jshr (nI n) 4) &&& (31 : Int32)) (nI s) (sNx u (pN u)) = fX0_bit ((jshr (nI n) 4) &&& (31 : Int32)) (nI s) u from rfl]
  obtain ⟨t, ht⟩ := bit_b hu (x_d (nI n)) hs
  rw [ht]
  rcases (show n / 512 % 4 = 2 ∨ n / 512 % 4 = 3 by omega) with h | h
  · rw [h, show n / 512 % 2 = 0 by omega, if_neg (show ¬ nI 2 = 0 by decide), if_neg (show ¬ nI 2 = 1 by decide), if_pos (show nI 2 = 2 from rfl)]
    exact g_skip hw _
  · rw [h, show n / 512 % 2 = 1 by omega, if_neg (show ¬ nI 3 = 0 by decide), if_neg (show ¬ nI 3 = 1 by decide), if_neg (show ¬ nI 3 = 2 by decide), skb1]
    exact g_skip hw _
theorem g_movebit {u : ST} (hu : IB u) {n : Nat} (hn : n < 65536) (h : n / 1024 = 62) : fX4_moveBit (nI n) u = Fin u (fX5_ofBit (nI n) (sNx u (pN u)), 0) := by
  have hv : IB (sNx u (pN u)) := hu
  obtain ⟨s, hs, e⟩ := s_ex (nI n)
  unfold fX4_moveBit fX5_ofBit fX3_d fX5_dOf
  rw [e, jn9 (by omega), an3 (by omega), ab9 (by omega)]
  rcases (show n / 512 % 4 = 0 ∨ n / 512 % 4 = 1 by omega) with h | h
  · rw [h, show n / 512 % 2 * 512 = 0 by omega, if_pos (show nI 0 = 0 from rfl), if_pos (show nI 0 = 0 from rfl)]
    obtain ⟨t, ht⟩ := flag_b (s := 6) (by decide) hu
    have e6 : fX5_has 64 (sNx u (pN u)) = b01 t := (has_eq (s := 6) hv (by decide)).trans ht
    have e7 : fX0_flag 6 u = b01 t := ht
    rw [e6, e7, setBit_eq hu (x_d _) hs]
    exact fin_data rfl rfl rfl
  · rw [h, show n / 512 % 2 * 512 = 512 by omega, if_neg (show ¬ nI 512 = 0 by decide), if_neg (show ¬ nI 1 = 0 by decide), if_pos (show nI 1 = 1 from rfl), bit_eq hv (x_d _) hs]
    obtain ⟨t, ht⟩ := bit_b hu (x_d (nI n)) hs
    rw [show fX0_bit ((jshr (nI n) 4) &&& (31 : Int32)) (nI s) (sNx u (pN u)) = b01 t from ht, ht, show fX5_flag 64 (b01 t) (sNx u (pN u)) = _ from setFlag_eq (s := 6) hv (by decide) t]
    exact fin_data rfl rfl rfl
