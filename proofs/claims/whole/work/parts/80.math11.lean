/-! what the reference's places need -/
theorem ok_pair {k : Nat} (hk : k < 1023) (u : ST) : okX5_pair (nI k) u := ⟨vin_nI (by omega), by rw [nI_1]; exact vin_nI (by omega), trivial⟩
theorem ok_setPair {k : Nat} (hk : k < 1023) (x : Int32) (u : ST) : okX5_setPair (nI k) x u := ⟨vin_nI (by omega), by rw [nI_1]; exact vin_nI (by omega), trivial⟩
theorem vin_far {x : Int32} (h0 : 0 ≤ x.toInt) (h : fX5_isFar x = 0) : vp_in x 1024 := by
  by_cases c : x ≤ 1023
  · exact vin_le h0 c
  · rw [far1 c] at h; exact absurd h (by decide)
theorem v45 (c : Prop) [Decidable c] : vp_in (if c then (4 : Int32) else 5) 7 := by
  by_cases h : c
  · rw [if_pos h]; exact vp_in_iff.mpr (by decide)
  · rw [if_neg h]; exact vp_in_iff.mpr (by decide)
theorem ok_skips {u : ST} (hn : vp_in (gNx u) 1024) (x : Int32) : okX5_skips x u := ⟨fun _ => hn, fun _ => v45 _, trivial⟩
theorem ok_product (p f : Int32) (u : ST) : okX5_product p f u := ⟨ok_setPair (k := 0) (by decide) _ _, trivial⟩

theorem ok_two {u : ST} (hn : vp_in (gNx u) 1024) (w : Int32) : okX5_ofTwo w u :=
  ⟨x_d _,
    x_r _,
    fun _ _ => x_d _,
    fun _ _ _ => x_d _,
    fun _ _ _ _ => ok_skips hn _,
    fun _ _ _ _ _ _ => x_d _,
    fun _ _ _ _ _ _ _ => x_d _,
    fun _ _ _ _ _ _ _ _ => x_d _,
    fun _ _ _ _ _ _ _ _ _ => x_d _,
    fun _ _ _ _ _ _ _ _ _ _ => x_d _,
    fun _ _ _ _ _ _ _ _ _ _ => x_d _, trivial⟩

theorem ok_num (w : Int32) (u : ST) : okX5_ofNumber w u :=
  ⟨x_16a _,
    fun _ _ => x_16a _,
    fun _ _ _ => x_16a _,
    fun _ _ _ _ => x_16a _,
    fun _ _ _ _ _ => x_16a _,
    fun _ _ _ _ _ => x_16a _, trivial⟩

theorem ok_products (w : Int32) (u : ST) : okX5_products w u :=
  ⟨fun _ => x_16c _,
    fun _ => x_16d _,
    fun _ _ => ok_product _ _ _,
    fun _ _ _ => ok_product _ _ _,
    fun _ _ _ _ => ok_product _ _ _,
    fun _ _ _ _ => ok_product _ _ _,
    fun _ => x_16a _,
    fun _ => x_16b _,
    fun _ => ok_product _ _ _, trivial⟩

theorem ok_one (w : Int32) (u : ST) : okX5_ofOne w u :=
  ⟨x_d _,
    fun _ => x_d _,
    fun _ _ => x_d _,
    fun _ _ _ => x_d _,
    fun _ _ _ _ => x_d _,
    fun _ _ _ _ _ => x_d _,
    fun _ _ _ _ _ _ => x_d _,
    fun _ _ _ _ _ _ _ => x_d _,
    fun _ _ _ _ _ _ _ _ => x_d _,
    fun _ _ _ _ _ _ _ _ => x_d _, trivial⟩

theorem ok_ofPair {n : Nat} (hn : n < 65536) (u : ST) : okX5_ofPair (nI n) u := by
  unfold okX5_ofPair
  rw [(low_n hn).1]
  exact ⟨ok_pair (by omega) u, ok_setPair (by omega) _ u, trivial⟩
theorem ok_pops {u : ST} (h : fX5_isFar ((fX5_pair 93 u + 1) &&& (65535 : Int32)) = 0) : okX5_pops u := ⟨ok_pair (k := 93) (by decide) u, ok_setPair (k := 93) (by decide) _ u, vin_far (word_and _).1 h, trivial⟩
theorem ok_pushes {u : ST} (hu : IB u) (x : Int32) (h : fX5_isFar (fX5_pair 93 u) = 0) : okX5_pushes x u := ⟨ok_pair (k := 93) (by decide) u, vin_far (word_pair hu 93).1 h, ok_setPair (k := 93) (by decide) _ _, trivial⟩
theorem ok_can (u : ST) : okX5_canCall u := ⟨ok_pair (k := 93) (by decide) u, trivial⟩
theorem ok_calls {u : ST} (hu : IB u) {f : Int32} (t : Int32) (h : ¬ fX5_canCall u = 0) : okX5_calls f t u := by
  rcases can_cases hu with ⟨h0, _⟩ | ⟨_, h1, h2, h3, _⟩
  · exact absurd h0 h
  · refine ⟨ok_pushes hu _ (far0 h1), ok_pushes (hu.push (byte_and _)) _ ?_, trivial⟩
    have e1 : fX5_pair 93 (fX5_pushes (f &&& 255) u) = (fX5_pair 93 u - 1) &&& 65535 := by
      have := pair_set (k := 93) (by decide) ((fX5_pair 93 u - 1) &&& 65535) (wD u (fX5_pair 93 u) (f &&& 255))
      rw [(word_and _).and65535] at this
      exact this
    rw [e1]
    exact far0 h2
theorem ok_stack {u : ST} (hu : IB u) (w : Int32) : okX5_ofStack w u := by
  unfold okX5_ofStack
  by_cases c : (w &&& (512 : Int32)) = 0
  · rw [if_pos c, if_pos (rfl : (0 : Int32) = 0)]
    exact ⟨fun _ => ok_pair (k := 93) (by decide) u, fun _ => ok_pair (k := 93) (by decide) u, fun h _ => ok_pops h, fun _ _ => x_d _, fun _ _ => x_d _, fun _ h => absurd rfl h, trivial⟩
  · rw [if_neg c, if_neg (show ¬ (1 : Int32) = 0 by decide)]
    exact ⟨fun _ => ok_pair (k := 93) (by decide) u, fun _ => ok_pair (k := 93) (by decide) u, fun _ h => absurd h (by decide), fun _ _ => x_d _, fun _ _ => x_d _, fun h _ => ok_pushes hu _ h, trivial⟩
theorem ok_moves {i d : Int32} (h0 : 0 ≤ i.toInt) (hd : vp_in d 1024) (s : Int32) (u : ST) : okX5_moves i d s u := ⟨fun h _ => vin_far h0 h, fun _ _ => hd, fun _ _ => hd, fun h _ => vin_far h0 h, trivial⟩
theorem l_ex (w : Int32) : ∃ l, l < 16 ∧ w &&& (15 : Int32) = nI l := by
  have h := r_m w 15 (by decide)
  exact ex_nI (x := w &&& (15 : Int32)) (N := 16) h.1 (Int.lt_of_le_of_lt h.2 (by decide)) (by decide)
theorem ch_cases (w : Int32) : fX5_changes w = nI 0 ∨ fX5_changes w = nI 26 ∨ fX5_changes w = nI 28 ∨ fX5_changes w = nI 30 := by
  obtain ⟨l, hl, e⟩ := l_ex w
  unfold fX5_changes
  rw [e]
  clear e
  revert l
  decide +kernel
theorem ch_ex (w : Int32) : ∃ k, k < 94 ∧ fX5_changes w = nI k := by
  rcases ch_cases w with h | h | h | h
  · exact ⟨0, by decide, h⟩
  · exact ⟨26, by decide, h⟩
  · exact ⟨28, by decide, h⟩
  · exact ⟨30, by decide, h⟩
theorem place_rng {u : ST} (hu : IB u) (c : Int32) (i : Int32) : 0 ≤ (if c = 0 then fX5_pair i u else ((fX5_pair i u - 1) &&& (65535 : Int32))).toInt := by
  by_cases h : c = 0
  · rw [if_pos h]; exact (word_pair hu i).1
  · rw [if_neg h]; exact (word_and _).1
theorem ok_cp (w : Int32) (u : ST) : okX5_pair (fX5_changes w) u := by
  obtain ⟨k, hk, e⟩ := ch_ex w
  rw [e]; exact ok_pair (by omega) u
theorem ok_cs (w x : Int32) (u : ST) : okX5_setPair (fX5_changes w) x u := by
  obtain ⟨k, hk, e⟩ := ch_ex w
  rw [e]; exact ok_setPair (by omega) x u
theorem two_ex (x : Int32) : ∃ j, j < 31 ∧ (2 : Int32) * (x &&& (15 : Int32)) = nI j := by
  obtain ⟨a, ha, ea⟩ := l_ex x
  exact ⟨2 * a, by omega, by rw [ea, two_n ha]⟩
theorem two_pair (x : Int32) (u : ST) : okX5_pair ((2 : Int32) * (x &&& (15 : Int32))) u := by
  obtain ⟨k, hk, e⟩ := two_ex x
  rw [e]; exact ok_pair (by omega) u
theorem two_setPair (x y : Int32) (u : ST) : okX5_setPair ((2 : Int32) * (x &&& (15 : Int32))) y u := by
  obtain ⟨k, hk, e⟩ := two_ex x
  rw [e]; exact ok_setPair (by omega) y u

theorem ok_mem {u : ST} (hu : IB u) (hw : IW u) (hn : vp_in (gNx u) 1024) (w : Int32) : okX5_ofMemory w u :=
  ⟨fun _ _ _ => ok_pair (k := 30) (by decide) _,
    fun _ _ _ => x_d _,
    fun _ _ _ _ => ok_setPair (k := 30) (by decide) _ _,
    fun _ _ _ _ _ => ok_cp _ _,
    fun _ _ _ _ _ _ _ => ok_cs _ _ _,
    fun _ _ _ _ _ _ => ok_moves (place_rng hu _ _) (x_d _) _ _,
    fun _ _ _ _ _ _ _ => ok_cs _ _ _,
    fun _ _ _ _ _ => ok_pair (k := 26) (by decide) _,
    fun _ _ _ _ _ => ok_moves (word_pair hu _).1 (x_d _) _ _,
    fun _ _ _ _ => ok_pair (k := 30) (by decide) _,
    fun _ _ _ _ => x_d _,
    fun _ _ _ _ _ => ok_setPair (k := 30) (by decide) _ _,
    fun _ _ => hn,
    fun _ _ => ok_moves (hw _).1 (x_d _) _ _,
    fun _ => ok_stack hu _, trivial⟩

theorem ok_bp (c : Prop) [Decidable c] (u : ST) : okX5_pair (if c then (30 : Int32) else 28) u := by
  by_cases h : c
  · rw [if_pos h]; exact ok_pair (k := 30) (by decide) u
  · rw [if_neg h]; exact ok_pair (k := 28) (by decide) u
theorem ok_places {u : ST} (hu : IB u) (w : Int32) : okX5_ofPlaces w u := ⟨ok_bp _ _, ok_moves (word_and _).1 (x_d _) _ _, trivial⟩

theorem ok_port (w : Int32) (u : ST) : okX5_ofPort w u :=
  ⟨fun _ => x_d _,
    fun _ => x_32b _,
    fun _ => x_32b _,
    fun _ => x_d _, trivial⟩

theorem ok_portbit {u : ST} (hn : vp_in (gNx u) 1024) (w : Int32) : okX5_ofPortBit w u :=
  ⟨x_32a _,
    fun _ => x_32a _,
    fun _ _ => ok_skips hn _,
    fun _ _ _ => x_32a _,
    fun _ _ _ => ok_skips hn _, trivial⟩

theorem ok_bit {u : ST} (hn : vp_in (gNx u) 1024) (w : Int32) : okX5_ofBit w u :=
  ⟨x_d _,
    fun _ _ => x_d _,
    fun _ _ => x_d _,
    fun _ => x_d _,
    fun _ _ _ => ok_skips hn _,
    fun _ _ _ => ok_skips hn _, trivial⟩

theorem ok_jumps {u : ST} (hu : IB u) (f t c : Int32) : okX5_jumps f t c u := ⟨fun _ => ok_can u, fun _ h => ok_calls hu t h, trivial⟩
theorem ok_returns {u : ST} (hu : IB u) (w : Int32) : okX5_returns w u := by
  refine ⟨ok_pair (k := 93) (by decide) u, fun h _ => ok_pops h, fun h h2 => ok_pops ?_, trivial⟩
  have e1 : fX5_pair 93 (fX5_pops u).1 = (fX5_pair 93 u + 1) &&& 65535 := by
    have := pair_set (k := 93) (by decide) ((fX5_pair 93 u + 1) &&& 65535) u
    rw [(word_and _).and65535] at this
    exact this
  rw [e1, addw_and, Int32.add_assoc]
  exact h2

theorem ok_others {u : ST} (hu : IB u) (hn : vp_in (gNx u) 1024) (w : Int32) : okX5_ofOthers w u :=
  ⟨fun _ _ _ => ok_returns hu _,
    fun _ _ _ _ _ => ok_pair (k := 30) (by decide) _,
    fun _ _ _ _ => ok_returns hu _,
    fun _ _ => ok_pair (k := 30) (by decide) _,
    fun _ _ => ok_jumps hu _ _ _,
    fun _ => hn,
    fun _ => ok_jumps (u := sNx u ((gNx u + 1) &&& 1023)) hu _ _ _, trivial⟩

theorem ok_nine {u : ST} (hu : IB u) (hw : IW u) (hn : vp_in (gNx u) 1024) {n : Nat} (hN : n < 65536) : okX5_ofNine (nI n) u :=
  ⟨fun _ _ _ _ => x_d _,
    fun _ _ _ _ => x_r _,
    fun _ _ _ _ => ok_product _ _ _,
    fun _ _ _ _ => ok_portbit hn _,
    fun _ _ _ => ok_ofPair hN _,
    fun _ _ _ => ok_others hu hn _,
    fun _ _ _ _ => ok_others hu hn _,
    fun _ _ _ _ _ => ok_one _ _,
    fun _ _ _ _ _ => ok_others hu hn _,
    fun _ => ok_mem hu hw hn _, trivial⟩

theorem ok_fifteen {u : ST} (hn : vp_in (gNx u) 1024) (w : Int32) : okX5_ofFifteen w u :=
  ⟨fun _ => ok_bit hn _, trivial⟩

theorem ok_does {u : ST} (hu : IB u) (hw : IW u) (hn : vp_in (gNx u) 1024) {n : Nat} (hN : n < 65536) : okX5_does (nI n) u :=
  ⟨fun _ _ _ _ _ => two_pair _ _,
    fun _ _ _ _ _ => two_setPair _ _ _,
    fun _ _ _ _ => ok_products _ _,
    fun _ _ _ => ok_two hn _,
    fun _ _ _ => ok_two hn _,
    fun _ _ _ _ => ok_two hn _,
    fun _ _ _ _ _ => ok_num _ _,
    fun _ _ _ _ _ _ => ok_num _ _,
    fun _ _ _ _ _ _ _ => ok_num _ _,
    fun _ _ _ _ _ _ _ _ => ok_num _ _,
    fun _ _ _ _ _ _ _ _ _ => ok_num _ _,
    fun _ _ _ _ _ _ _ _ _ _ => ok_num _ _,
    fun _ _ _ _ _ _ _ _ _ _ _ => ok_nine hu hw hn hN,
    fun _ _ _ _ _ _ _ _ _ _ _ _ => ok_num _ _,
    fun _ _ _ _ _ _ _ _ _ _ _ _ _ => ok_port _ _,
    fun _ _ _ _ _ _ _ _ _ _ _ _ _ _ => ok_jumps hu _ _ _,
    fun _ _ _ _ _ _ _ _ _ _ _ _ _ _ _ => ok_jumps hu _ _ _,
    fun _ _ _ _ _ _ _ _ _ _ _ _ _ _ _ _ => ok_num _ _,
    fun _ _ _ _ _ _ _ _ _ _ _ _ _ _ _ _ _ => ok_fifteen hn _,
    fun _ _ _ _ _ _ _ _ _ _ _ _ _ _ _ _ _ => ok_num _ _,
    fun _ => ok_places hu _, trivial⟩
