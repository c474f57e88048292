/-! a step of both sides, group by group -/
def pN (u : ST) : Int32 := (gPc u + 1) &&& 1023
/-- what a word of the reference leaves, seen from the class -/
def Fin (u : ST) (M : ST × Int32) : ST × Int32 := (if M.2 = 0 then sPc (sNx M.1 (gNx u)) (gNx M.1) else sNx M.1 (gNx u), M.2)
theorem nx_eta {v : ST} {c : Int32} (h : gNx v = c) : sNx v c = v := by subst h; rfl
theorem fin_data {u φ Y : ST} (h : Y = sNx φ (pN u)) (hn : gNx φ = gNx u) (hp : gPc φ = gPc u) : fX4_onward 1 φ = Fin u (Y, 0) := by
  subst h
  show (sPc φ ((gPc φ + 1) &&& 1023), (0 : Int32)) = (sPc (sNx (sNx φ (pN u)) (gNx u)) (gNx (sNx φ (pN u))), (0 : Int32))
  have e1 : sNx (sNx φ (pN u)) (gNx u) = φ := nx_eta hn
  have e2 : gNx (sNx φ (pN u)) = pN u := rfl
  rw [e1, e2, hp]; rfl
theorem fin_stay (u : ST) (r : Int32) {Y : ST} (hr : ¬ r = 0) (h : Y = sNx u (gNx Y)) : (u, r) = Fin u (Y, r) := by
  have e : sNx Y (gNx u) = u := by rw [h]; rfl
  show (u, r) = (if r = 0 then _ else sNx Y (gNx u), r)
  rw [if_neg hr, e]
theorem vin_add {y : Int32} {k m : Nat} (h : 0 ≤ y.toInt ∧ y.toInt ≤ m) (hk : k + m < 1024) : vp_in (nI k + y) 1024 := by
  obtain ⟨j, hj, rfl⟩ := ex_nI (x := y) (N := m + 1) h.1 (by omega) (by omega)
  rw [nI_add]
  exact vp_in_nI (by omega) (by decide)
theorem vin_small {y : Int32} {m : Nat} (h : 0 ≤ y.toInt ∧ y.toInt ≤ m) (hk : m < 1024) : vp_in y 1024 := vin_of h.1 (by omega)
theorem rng_or {x y : Int32} {a b k : Nat} (hk : k ≤ 31) (ha : a < 2 ^ k) (hb : b < 2 ^ k) (hx : 0 ≤ x.toInt ∧ x.toInt ≤ a) (hy : 0 ≤ y.toInt ∧ y.toInt ≤ b) : 0 ≤ (x ||| y).toInt ∧ (x ||| y).toInt ≤ ((2 ^ k - 1 : Nat) : Int) := by
  have h := or_rng hk hx.1 (by omega) hy.1 (by omega)
  omega
theorem r_m (x : Int32) (n : Nat) (hn : n < 2 ^ 31) : 0 ≤ (x &&& nI n).toInt ∧ (x &&& nI n).toInt ≤ n := by
  have h := and_rng x (m := nI n) (by rw [nI_toInt hn]; omega)
  rw [nI_toInt hn] at h
  exact h
theorem x_d (w : Int32) : vp_in ((jshr w 4) &&& (31 : Int32)) 1024 := vin_small (r_m _ 31 (by decide)) (by decide)
theorem rr_r (w : Int32) : 0 ≤ (((jshr w 5) &&& (16 : Int32)) ||| (w &&& (15 : Int32))).toInt ∧ (((jshr w 5) &&& (16 : Int32)) ||| (w &&& (15 : Int32))).toInt ≤ 31 := rng_or (k := 5) (by decide) (by decide) (by decide) (r_m _ 16 (by decide)) (r_m _ 15 (by decide))
theorem x_r (w : Int32) : vp_in (((jshr w 5) &&& (16 : Int32)) ||| (w &&& (15 : Int32))) 1024 := vin_small (m := 31) (rr_r w) (by decide)
theorem x_16a (w : Int32) : vp_in ((16 : Int32) + ((jshr w 4) &&& (15 : Int32))) 1024 := vin_add (k := 16) (r_m _ 15 (by decide)) (by decide)
theorem x_16b (w : Int32) : vp_in ((16 : Int32) + (w &&& (15 : Int32))) 1024 := vin_add (k := 16) (r_m _ 15 (by decide)) (by decide)
theorem x_16c (w : Int32) : vp_in ((16 : Int32) + ((jshr w 4) &&& (7 : Int32))) 1024 := vin_add (k := 16) (r_m _ 7 (by decide)) (by decide)
theorem x_16d (w : Int32) : vp_in ((16 : Int32) + (w &&& (7 : Int32))) 1024 := vin_add (k := 16) (r_m _ 7 (by decide)) (by decide)
theorem x_32a (w : Int32) : vp_in ((32 : Int32) + ((jshr w 3) &&& (31 : Int32))) 1024 := vin_add (k := 32) (r_m _ 31 (by decide)) (by decide)
theorem rr_48 (w : Int32) : 0 ≤ (((jshr w 5) &&& (48 : Int32)) ||| (w &&& (15 : Int32))).toInt ∧ (((jshr w 5) &&& (48 : Int32)) ||| (w &&& (15 : Int32))).toInt ≤ 63 := rng_or (k := 6) (by decide) (by decide) (by decide) (r_m _ 48 (by decide)) (r_m _ 15 (by decide))
theorem x_32b (w : Int32) : vp_in ((32 : Int32) + (((jshr w 5) &&& (48 : Int32)) ||| (w &&& (15 : Int32)))) 1024 := vin_add (k := 32) (m := 63) (rr_48 w) (by decide)
theorem i_d (w : Int32) : ((jshr w 4) &&& (31 : Int32)) &&& (1023 : Int32) = (jshr w 4) &&& (31 : Int32) := and1023 (x_d w)
theorem i_r (w : Int32) : (((jshr w 5) &&& (16 : Int32)) ||| (w &&& (15 : Int32))) &&& (1023 : Int32) = ((jshr w 5) &&& (16 : Int32)) ||| (w &&& (15 : Int32)) := and1023 (x_r w)
theorem i_16a (w : Int32) : ((16 : Int32) + ((jshr w 4) &&& (15 : Int32))) &&& (1023 : Int32) = (16 : Int32) + ((jshr w 4) &&& (15 : Int32)) := and1023 (x_16a w)
theorem i_16b (w : Int32) : ((16 : Int32) + (w &&& (15 : Int32))) &&& (1023 : Int32) = (16 : Int32) + (w &&& (15 : Int32)) := and1023 (x_16b w)
theorem i_16c (w : Int32) : ((16 : Int32) + ((jshr w 4) &&& (7 : Int32))) &&& (1023 : Int32) = (16 : Int32) + ((jshr w 4) &&& (7 : Int32)) := and1023 (x_16c w)
theorem i_16d (w : Int32) : ((16 : Int32) + (w &&& (7 : Int32))) &&& (1023 : Int32) = (16 : Int32) + (w &&& (7 : Int32)) := and1023 (x_16d w)
theorem i_32a (w : Int32) : ((32 : Int32) + ((jshr w 3) &&& (31 : Int32))) &&& (1023 : Int32) = (32 : Int32) + ((jshr w 3) &&& (31 : Int32)) := and1023 (x_32a w)
theorem i_32b (w : Int32) : ((32 : Int32) + (((jshr w 5) &&& (48 : Int32)) ||| (w &&& (15 : Int32)))) &&& (1023 : Int32) = (32 : Int32) + (((jshr w 5) &&& (48 : Int32)) ||| (w &&& (15 : Int32))) := and1023 (x_32b w)
theorem b_k (w : Int32) : Byte (((jshr w 4) &&& (240 : Int32)) ||| (w &&& (15 : Int32))) := by
  have h := rng_or (k := 8) (by decide) (by decide) (by decide) (r_m (jshr w 4) 240 (by decide)) (r_m w 15 (by decide))
  exact ⟨h.1, Int.lt_of_le_of_lt h.2 (by decide)⟩
theorem Byte.xor {x y : Int32} (hx : Byte x) (hy : Byte y) : Byte (x ^^^ y) := by
  have a := nat_of hx.1
  have b := nat_of hy.1
  have := hx.2
  have := hy.2
  have c : (x ^^^ y).toBitVec.toNat < 2 ^ 8 := by
    rw [Int32.toBitVec_xor, BitVec.toNat_xor]
    exact Nat.xor_lt_two_pow (by omega) (by omega)
  have d : (x ^^^ y).toInt = ((x ^^^ y).toBitVec.toNat : Int) := toI_of (by omega)
  exact ⟨by omega, by omega⟩
theorem v_sum (a b c : Int32) (u : ST) : (fX2_sum a b c u).2 &&& (255 : Int32) = (fX2_sum a b c u).2 := (byte_and _).and255
theorem v_sub (a b c d : Int32) (u : ST) : (fX2_subtract a b c d u).2 &&& (255 : Int32) = (fX2_subtract a b c d u).2 := (byte_and _).and255
theorem v_subOn (a b c : Int32) (u : ST) : (fX2_differenceOn a b c u).2 &&& (255 : Int32) = (fX2_differenceOn a b c u).2 := (byte_and _).and255
theorem v_logic {x : Int32} (u : ST) (h : Byte x) : (fX2_logic x u).2 &&& (255 : Int32) = (fX2_logic x u).2 := h.and255

theorem g_two {u : ST} (hu : IB u) (w : Int32) (hskip : ∀ x : Int32, fX4_skip x u = Fin u (fX5_skips x (sNx u (pN u)), 0)) : fX4_combine w u = Fin u (fX5_ofTwo w (sNx u (pN u)), 0) := by
  have hv : IB (sNx u (pN u)) := hu
  unfold fX4_combine fX5_ofTwo fX2_difference fX0_get fX0_set fX3_d fX3_r fX5_dOf
  simp only [i_d, i_r]
  by_cases h0 : jshr w 10 = 1
  · rw [if_pos h0, if_pos h0]
    rw [subtractOn_eq hv (hv.r _) (hv.r _), carry_eq hv]
    exact fin_data rfl rfl rfl
  rw [if_neg h0, if_neg h0]
  by_cases h1 : jshr w 10 = 2
  · rw [if_pos h1, if_pos h1]
    rw [subtractOn_eq hv (hv.r _) (hv.r _), carry_eq hv, v_subOn]
    exact fin_data rfl rfl rfl
  rw [if_neg h1, if_neg h1]
  by_cases h2 : jshr w 10 = 3
  · rw [if_pos h2, if_pos h2]
    rw [add_eq hv (hv.r _) (hv.r _), v_sum]
    exact fin_data rfl rfl rfl
  rw [if_neg h2, if_neg h2]
  by_cases h3 : jshr w 10 = 4
  · rw [if_pos h3, if_pos h3]
    exact hskip _
  rw [if_neg h3, if_neg h3]
  by_cases h4 : jshr w 10 = 5
  · rw [if_pos h4, if_pos h4]
    rw [subtract_eq hv (hv.r _) (hv.r _)]
    exact fin_data rfl rfl rfl
  rw [if_neg h4, if_neg h4]
  by_cases h5 : jshr w 10 = 6
  · rw [if_pos h5, if_pos h5]
    rw [subtract_eq hv (hv.r _) (hv.r _), v_sub]
    exact fin_data rfl rfl rfl
  rw [if_neg h5, if_neg h5]
  by_cases h6 : jshr w 10 = 7
  · rw [if_pos h6, if_pos h6]
    rw [add_eq hv (hv.r _) (hv.r _), carry_eq hv, v_sum]
    exact fin_data rfl rfl rfl
  rw [if_neg h6, if_neg h6]
  by_cases h7 : jshr w 10 = 8
  · rw [if_pos h7, if_pos h7]
    rw [logic_eq hv ((hv.r _).andl _), v_logic u ((hu.r _).andl _)]
    exact fin_data rfl rfl rfl
  rw [if_neg h7, if_neg h7]
  by_cases h8 : jshr w 10 = 9
  · rw [if_pos h8, if_pos h8]
    rw [logic_eq hv ((hv.r _).xor (hv.r _)), v_logic u ((hu.r _).xor (hu.r _))]
    exact fin_data rfl rfl rfl
  rw [if_neg h8, if_neg h8]
  by_cases h9 : jshr w 10 = 10
  · rw [if_pos h9, if_pos h9]
    rw [logic_eq hv ((hv.r _).or (hv.r _)), v_logic u ((hu.r _).or (hu.r _))]
    exact fin_data rfl rfl rfl
  rw [if_neg h9, if_neg h9]
  rw [(hu.r _).and255]
  exact fin_data rfl rfl rfl

theorem g_num {u : ST} (hu : IB u) (w : Int32) : fX4_combineWithNumber w u = Fin u (fX5_ofNumber w (sNx u (pN u)), 0) := by
  have hv : IB (sNx u (pN u)) := hu
  unfold fX4_combineWithNumber fX5_ofNumber fX2_difference fX0_get fX0_set
  simp only [i_16a]
  by_cases h0 : jshr w 12 = 3
  · rw [if_pos h0, if_pos h0]
    rw [subtract_eq hv (hv.r _) (b_k w)]
    exact fin_data rfl rfl rfl
  rw [if_neg h0, if_neg h0]
  by_cases h1 : jshr w 12 = 4
  · rw [if_pos h1, if_pos h1]
    rw [subtractOn_eq hv (hv.r _) (b_k w), carry_eq hv, v_subOn]
    exact fin_data rfl rfl rfl
  rw [if_neg h1, if_neg h1]
  by_cases h2 : jshr w 12 = 5
  · rw [if_pos h2, if_pos h2]
    rw [subtract_eq hv (hv.r _) (b_k w), v_sub]
    exact fin_data rfl rfl rfl
  rw [if_neg h2, if_neg h2]
  by_cases h3 : jshr w 12 = 6
  · rw [if_pos h3, if_pos h3]
    rw [logic_eq hv ((hv.r _).or (b_k w)), v_logic u ((hu.r _).or (b_k w))]
    exact fin_data rfl rfl rfl
  rw [if_neg h3, if_neg h3]
  by_cases h4 : jshr w 12 = 7
  · rw [if_pos h4, if_pos h4]
    rw [logic_eq hv ((hv.r _).andl _), v_logic u ((hu.r _).andl _)]
    exact fin_data rfl rfl rfl
  rw [if_neg h4, if_neg h4]
  rw [(b_k w).and255]
  exact fin_data rfl rfl rfl
