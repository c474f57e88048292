theorem grp_t0 {n : Nat} (hn : n < 65536) (h : n / 4096 = 0) : fX3_groupOf (nI n) = fX3_lowGroupOf (nI n) := by
  have e12 : jshr (nI n) 12 = nI 0 := by rw [jn12 (by omega), h]
  unfold fX3_groupOf
  rw [e12]
  rfl
theorem does_t0 {n : Nat} (hn : n < 65536) (h : n / 4096 = 0) (u : ST) : fX5_does (nI n) u = ((if nI n ≤ (1023 : Int32) then (if nI n ≤ (511 : Int32) then (if nI n ≤ (255 : Int32) then u else (fX5_setPair ((2 : Int32) * ((jshr (nI n) 4) &&& 15)) (fX5_pair ((2 : Int32) * (nI n &&& 15)) u) u)) else (fX5_products (nI n) u)) else (fX5_ofTwo (nI n) u)), 0) := by
  have e12 : jshr (nI n) 12 = nI 0 := by rw [jn12 (by omega), h]
  have e53 : nI n &&& (53248 : Int32) = nI 0 := by rw [am53248 hn, h]; rfl
  unfold fX5_does
  rw [e12, e53]
  rfl
theorem grp_t1 {n : Nat} (hn : n < 65536) (h : n / 4096 = 1) : fX3_groupOf (nI n) = 4 := by
  have e12 : jshr (nI n) 12 = nI 1 := by rw [jn12 (by omega), h]
  unfold fX3_groupOf
  rw [e12]
  rfl
theorem does_t1 {n : Nat} (hn : n < 65536) (h : n / 4096 = 1) (u : ST) : fX5_does (nI n) u = (fX5_ofTwo (nI n) u, 0) := by
  have e12 : jshr (nI n) 12 = nI 1 := by rw [jn12 (by omega), h]
  have e53 : nI n &&& (53248 : Int32) = nI 4096 := by rw [am53248 hn, h]; rfl
  unfold fX5_does
  rw [e12, e53]
  rfl
theorem grp_t2 {n : Nat} (hn : n < 65536) (h : n / 4096 = 2) : fX3_groupOf (nI n) = 4 := by
  have e12 : jshr (nI n) 12 = nI 2 := by rw [jn12 (by omega), h]
  unfold fX3_groupOf
  rw [e12]
  rfl
theorem does_t2 {n : Nat} (hn : n < 65536) (h : n / 4096 = 2) (u : ST) : fX5_does (nI n) u = (fX5_ofTwo (nI n) u, 0) := by
  have e12 : jshr (nI n) 12 = nI 2 := by rw [jn12 (by omega), h]
  have e53 : nI n &&& (53248 : Int32) = nI 0 := by rw [am53248 hn, h]; rfl
  unfold fX5_does
  rw [e12, e53]
  rfl
theorem grp_t3 {n : Nat} (hn : n < 65536) (h : n / 4096 = 3) : fX3_groupOf (nI n) = 5 := by
  have e12 : jshr (nI n) 12 = nI 3 := by rw [jn12 (by omega), h]
  unfold fX3_groupOf
  rw [e12]
  rfl
theorem does_t3 {n : Nat} (hn : n < 65536) (h : n / 4096 = 3) (u : ST) : fX5_does (nI n) u = (fX5_ofNumber (nI n) u, 0) := by
  have e12 : jshr (nI n) 12 = nI 3 := by rw [jn12 (by omega), h]
  have e53 : nI n &&& (53248 : Int32) = nI 4096 := by rw [am53248 hn, h]; rfl
  unfold fX5_does
  rw [e12, e53]
  rfl
theorem grp_t4 {n : Nat} (hn : n < 65536) (h : n / 4096 = 4) : fX3_groupOf (nI n) = 5 := by
  have e12 : jshr (nI n) 12 = nI 4 := by rw [jn12 (by omega), h]
  unfold fX3_groupOf
  rw [e12]
  rfl
theorem does_t4 {n : Nat} (hn : n < 65536) (h : n / 4096 = 4) (u : ST) : fX5_does (nI n) u = (fX5_ofNumber (nI n) u, 0) := by
  have e12 : jshr (nI n) 12 = nI 4 := by rw [jn12 (by omega), h]
  have e53 : nI n &&& (53248 : Int32) = nI 16384 := by rw [am53248 hn, h]; rfl
  unfold fX5_does
  rw [e12, e53]
  rfl
theorem grp_t5 {n : Nat} (hn : n < 65536) (h : n / 4096 = 5) : fX3_groupOf (nI n) = 5 := by
  have e12 : jshr (nI n) 12 = nI 5 := by rw [jn12 (by omega), h]
  unfold fX3_groupOf
  rw [e12]
  rfl
theorem does_t5 {n : Nat} (hn : n < 65536) (h : n / 4096 = 5) (u : ST) : fX5_does (nI n) u = (fX5_ofNumber (nI n) u, 0) := by
  have e12 : jshr (nI n) 12 = nI 5 := by rw [jn12 (by omega), h]
  have e53 : nI n &&& (53248 : Int32) = nI 20480 := by rw [am53248 hn, h]; rfl
  unfold fX5_does
  rw [e12, e53]
  rfl
theorem grp_t6 {n : Nat} (hn : n < 65536) (h : n / 4096 = 6) : fX3_groupOf (nI n) = 5 := by
  have e12 : jshr (nI n) 12 = nI 6 := by rw [jn12 (by omega), h]
  unfold fX3_groupOf
  rw [e12]
  rfl
theorem does_t6 {n : Nat} (hn : n < 65536) (h : n / 4096 = 6) (u : ST) : fX5_does (nI n) u = (fX5_ofNumber (nI n) u, 0) := by
  have e12 : jshr (nI n) 12 = nI 6 := by rw [jn12 (by omega), h]
  have e53 : nI n &&& (53248 : Int32) = nI 16384 := by rw [am53248 hn, h]; rfl
  unfold fX5_does
  rw [e12, e53]
  rfl
theorem grp_t7 {n : Nat} (hn : n < 65536) (h : n / 4096 = 7) : fX3_groupOf (nI n) = 5 := by
  have e12 : jshr (nI n) 12 = nI 7 := by rw [jn12 (by omega), h]
  unfold fX3_groupOf
  rw [e12]
  rfl
theorem does_t7 {n : Nat} (hn : n < 65536) (h : n / 4096 = 7) (u : ST) : fX5_does (nI n) u = (fX5_ofNumber (nI n) u, 0) := by
  have e12 : jshr (nI n) 12 = nI 7 := by rw [jn12 (by omega), h]
  have e53 : nI n &&& (53248 : Int32) = nI 20480 := by rw [am53248 hn, h]; rfl
  unfold fX5_does
  rw [e12, e53]
  rfl
theorem grp_t8 {n : Nat} (hn : n < 65536) (h : n / 4096 = 8) : fX3_groupOf (nI n) = 12 := by
  have e12 : jshr (nI n) 12 = nI 8 := by rw [jn12 (by omega), h]
  unfold fX3_groupOf
  rw [e12]
  rfl
theorem does_t8 {n : Nat} (hn : n < 65536) (h : n / 4096 = 8) (u : ST) : fX5_does (nI n) u = fX5_ofPlaces (nI n) u := by
  have e12 : jshr (nI n) 12 = nI 8 := by rw [jn12 (by omega), h]
  have e53 : nI n &&& (53248 : Int32) = nI 32768 := by rw [am53248 hn, h]; rfl
  unfold fX5_does
  rw [e12, e53]
  rfl
theorem grp_t9 {n : Nat} (hn : n < 65536) (h : n / 4096 = 9) : fX3_groupOf (nI n) = fX3_mixedGroupOf (nI n) := by
  have e12 : jshr (nI n) 12 = nI 9 := by rw [jn12 (by omega), h]
  unfold fX3_groupOf
  rw [e12]
  rfl
theorem does_t9 {n : Nat} (hn : n < 65536) (h : n / 4096 = 9) (u : ST) : fX5_does (nI n) u = fX5_ofNine (nI n) u := by
  have e12 : jshr (nI n) 12 = nI 9 := by rw [jn12 (by omega), h]
  have e53 : nI n &&& (53248 : Int32) = nI 36864 := by rw [am53248 hn, h]; rfl
  unfold fX5_does
  rw [e12, e53]
  rfl
theorem grp_t10 {n : Nat} (hn : n < 65536) (h : n / 4096 = 10) : fX3_groupOf (nI n) = 12 := by
  have e12 : jshr (nI n) 12 = nI 10 := by rw [jn12 (by omega), h]
  unfold fX3_groupOf
  rw [e12]
  rfl
theorem does_t10 {n : Nat} (hn : n < 65536) (h : n / 4096 = 10) (u : ST) : fX5_does (nI n) u = fX5_ofPlaces (nI n) u := by
  have e12 : jshr (nI n) 12 = nI 10 := by rw [jn12 (by omega), h]
  have e53 : nI n &&& (53248 : Int32) = nI 32768 := by rw [am53248 hn, h]; rfl
  unfold fX5_does
  rw [e12, e53]
  rfl
theorem grp_t11 {n : Nat} (hn : n < 65536) (h : n / 4096 = 11) : fX3_groupOf (nI n) = 14 := by
  have e12 : jshr (nI n) 12 = nI 11 := by rw [jn12 (by omega), h]
  unfold fX3_groupOf
  rw [e12]
  rfl
theorem does_t11 {n : Nat} (hn : n < 65536) (h : n / 4096 = 11) (u : ST) : fX5_does (nI n) u = (fX5_ofPort (nI n) u, 0) := by
  have e12 : jshr (nI n) 12 = nI 11 := by rw [jn12 (by omega), h]
  have e53 : nI n &&& (53248 : Int32) = nI 36864 := by rw [am53248 hn, h]; rfl
  unfold fX5_does
  rw [e12, e53]
  rfl
theorem grp_t12 {n : Nat} (hn : n < 65536) (h : n / 4096 = 12) : fX3_groupOf (nI n) = 19 := by
  have e12 : jshr (nI n) 12 = nI 12 := by rw [jn12 (by omega), h]
  unfold fX3_groupOf
  rw [e12]
  rfl
theorem does_t12 {n : Nat} (hn : n < 65536) (h : n / 4096 = 12) (u : ST) : fX5_does (nI n) u = fX5_jumps (gNx u) (gNx u + (if (nI n &&& 4095) ≤ 2047 then (nI n &&& 4095) else ((nI n &&& 4095) - 4096))) 0 u := by
  have e12 : jshr (nI n) 12 = nI 12 := by rw [jn12 (by omega), h]
  have e53 : nI n &&& (53248 : Int32) = nI 49152 := by rw [am53248 hn, h]; rfl
  unfold fX5_does
  rw [e12, e53]
  rfl
theorem grp_t13 {n : Nat} (hn : n < 65536) (h : n / 4096 = 13) : fX3_groupOf (nI n) = 19 := by
  have e12 : jshr (nI n) 12 = nI 13 := by rw [jn12 (by omega), h]
  unfold fX3_groupOf
  rw [e12]
  rfl
theorem does_t13 {n : Nat} (hn : n < 65536) (h : n / 4096 = 13) (u : ST) : fX5_does (nI n) u = fX5_jumps (gNx u) (gNx u + (if (nI n &&& 4095) ≤ 2047 then (nI n &&& 4095) else ((nI n &&& 4095) - 4096))) 1 u := by
  have e12 : jshr (nI n) 12 = nI 13 := by rw [jn12 (by omega), h]
  have e53 : nI n &&& (53248 : Int32) = nI 53248 := by rw [am53248 hn, h]; rfl
  unfold fX5_does
  rw [e12, e53]
  rfl
theorem grp_t14 {n : Nat} (hn : n < 65536) (h : n / 4096 = 14) : fX3_groupOf (nI n) = 5 := by
  have e12 : jshr (nI n) 12 = nI 14 := by rw [jn12 (by omega), h]
  unfold fX3_groupOf
  rw [e12]
  rfl
theorem does_t14 {n : Nat} (hn : n < 65536) (h : n / 4096 = 14) (u : ST) : fX5_does (nI n) u = (fX5_ofNumber (nI n) u, 0) := by
  have e12 : jshr (nI n) 12 = nI 14 := by rw [jn12 (by omega), h]
  have e53 : nI n &&& (53248 : Int32) = nI 49152 := by rw [am53248 hn, h]; rfl
  unfold fX5_does
  rw [e12, e53]
  rfl
theorem grp_t15 {n : Nat} (hn : n < 65536) (h : n / 4096 = 15) : fX3_groupOf (nI n) = fX3_highGroupOf (nI n) := by
  have e12 : jshr (nI n) 12 = nI 15 := by rw [jn12 (by omega), h]
  unfold fX3_groupOf
  rw [e12]
  rfl
theorem does_t15 {n : Nat} (hn : n < 65536) (h : n / 4096 = 15) (u : ST) : fX5_does (nI n) u = fX5_ofFifteen (nI n) u := by
  have e12 : jshr (nI n) 12 = nI 15 := by rw [jn12 (by omega), h]
  have e53 : nI n &&& (53248 : Int32) = nI 53248 := by rw [am53248 hn, h]; rfl
  unfold fX5_does
  rw [e12, e53]
  rfl
theorem mix_s0 {n : Nat} (hn : n < 65536) (h : n / 256 = 144) : fX3_mixedGroupOf (nI n) = fX3_memoryGroupOf (nI n) := by
  have e8 : jshr (nI n) 8 &&& (15 : Int32) = nI 0 := by rw [jn8 (by omega), an15 (by omega), h]
  unfold fX3_mixedGroupOf
  rw [e8]
  rfl
theorem mix_s1 {n : Nat} (hn : n < 65536) (h : n / 256 = 145) : fX3_mixedGroupOf (nI n) = fX3_memoryGroupOf (nI n) := by
  have e8 : jshr (nI n) 8 &&& (15 : Int32) = nI 1 := by rw [jn8 (by omega), an15 (by omega), h]
  unfold fX3_mixedGroupOf
  rw [e8]
  rfl
theorem mix_s2 {n : Nat} (hn : n < 65536) (h : n / 256 = 146) : fX3_mixedGroupOf (nI n) = fX3_memoryGroupOf (nI n) := by
  have e8 : jshr (nI n) 8 &&& (15 : Int32) = nI 2 := by rw [jn8 (by omega), an15 (by omega), h]
  unfold fX3_mixedGroupOf
  rw [e8]
  rfl
theorem mix_s3 {n : Nat} (hn : n < 65536) (h : n / 256 = 147) : fX3_mixedGroupOf (nI n) = fX3_memoryGroupOf (nI n) := by
  have e8 : jshr (nI n) 8 &&& (15 : Int32) = nI 3 := by rw [jn8 (by omega), an15 (by omega), h]
  unfold fX3_mixedGroupOf
  rw [e8]
  rfl
theorem mix_s4 {n : Nat} (hn : n < 65536) (h : n / 256 = 148) : fX3_mixedGroupOf (nI n) = fX3_singleGroupOf (nI n) := by
  have e8 : jshr (nI n) 8 &&& (15 : Int32) = nI 4 := by rw [jn8 (by omega), an15 (by omega), h]
  unfold fX3_mixedGroupOf
  rw [e8]
  rfl
theorem mix_s5 {n : Nat} (hn : n < 65536) (h : n / 256 = 149) : fX3_mixedGroupOf (nI n) = fX3_singleGroupOf (nI n) := by
  have e8 : jshr (nI n) 8 &&& (15 : Int32) = nI 5 := by rw [jn8 (by omega), an15 (by omega), h]
  unfold fX3_mixedGroupOf
  rw [e8]
  rfl
theorem mix_s6 {n : Nat} (hn : n < 65536) (h : n / 256 = 150) : fX3_mixedGroupOf (nI n) = 8 := by
  have e8 : jshr (nI n) 8 &&& (15 : Int32) = nI 6 := by rw [jn8 (by omega), an15 (by omega), h]
  unfold fX3_mixedGroupOf
  rw [e8]
  rfl
theorem mix_s7 {n : Nat} (hn : n < 65536) (h : n / 256 = 151) : fX3_mixedGroupOf (nI n) = 8 := by
  have e8 : jshr (nI n) 8 &&& (15 : Int32) = nI 7 := by rw [jn8 (by omega), an15 (by omega), h]
  unfold fX3_mixedGroupOf
  rw [e8]
  rfl
theorem mix_s8 {n : Nat} (hn : n < 65536) (h : n / 256 = 152) : fX3_mixedGroupOf (nI n) = 15 := by
  have e8 : jshr (nI n) 8 &&& (15 : Int32) = nI 8 := by rw [jn8 (by omega), an15 (by omega), h]
  unfold fX3_mixedGroupOf
  rw [e8]
  rfl
theorem mix_s9 {n : Nat} (hn : n < 65536) (h : n / 256 = 153) : fX3_mixedGroupOf (nI n) = 16 := by
  have e8 : jshr (nI n) 8 &&& (15 : Int32) = nI 9 := by rw [jn8 (by omega), an15 (by omega), h]
  unfold fX3_mixedGroupOf
  rw [e8]
  rfl
theorem mix_s10 {n : Nat} (hn : n < 65536) (h : n / 256 = 154) : fX3_mixedGroupOf (nI n) = 15 := by
  have e8 : jshr (nI n) 8 &&& (15 : Int32) = nI 10 := by rw [jn8 (by omega), an15 (by omega), h]
  unfold fX3_mixedGroupOf
  rw [e8]
  rfl
theorem mix_s11 {n : Nat} (hn : n < 65536) (h : n / 256 = 155) : fX3_mixedGroupOf (nI n) = 16 := by
  have e8 : jshr (nI n) 8 &&& (15 : Int32) = nI 11 := by rw [jn8 (by omega), an15 (by omega), h]
  unfold fX3_mixedGroupOf
  rw [e8]
  rfl
theorem mix_s12 {n : Nat} (hn : n < 65536) (h : n / 256 = 156) : fX3_mixedGroupOf (nI n) = 3 := by
  have e8 : jshr (nI n) 8 &&& (15 : Int32) = nI 12 := by rw [jn8 (by omega), an15 (by omega), h]
  unfold fX3_mixedGroupOf
  rw [e8]
  rfl
theorem mix_s13 {n : Nat} (hn : n < 65536) (h : n / 256 = 157) : fX3_mixedGroupOf (nI n) = 3 := by
  have e8 : jshr (nI n) 8 &&& (15 : Int32) = nI 13 := by rw [jn8 (by omega), an15 (by omega), h]
  unfold fX3_mixedGroupOf
  rw [e8]
  rfl
theorem mix_s14 {n : Nat} (hn : n < 65536) (h : n / 256 = 158) : fX3_mixedGroupOf (nI n) = 3 := by
  have e8 : jshr (nI n) 8 &&& (15 : Int32) = nI 14 := by rw [jn8 (by omega), an15 (by omega), h]
  unfold fX3_mixedGroupOf
  rw [e8]
  rfl
theorem mix_s15 {n : Nat} (hn : n < 65536) (h : n / 256 = 159) : fX3_mixedGroupOf (nI n) = 3 := by
  have e8 : jshr (nI n) 8 &&& (15 : Int32) = nI 15 := by rw [jn8 (by omega), an15 (by omega), h]
  unfold fX3_mixedGroupOf
  rw [e8]
  rfl
theorem mem1 {n : Nat} (hn : n < 65536) (h : n / 1024 = 36) : fX5_isMemory (nI n) = 1 := by
  unfold fX5_isMemory
  rw [am64512 hn, h]
  rfl
theorem mem0 {n : Nat} (hn : n < 65536) (h : ¬ n / 1024 = 36) : fX5_isMemory (nI n) = 0 := by
  unfold fX5_isMemory
  rw [am64512 hn, if_neg (by rw [eL36864 (by omega)]; omega)]
theorem one1 {n : Nat} (hn : n < 65536) (h : n / 512 = 74) : fX5_isOne (nI n) = 1 := by
  unfold fX5_isOne
  rw [am65024 hn, h]
  rfl
theorem one0 {n : Nat} (hn : n < 65536) (h : ¬ n / 512 = 74) : fX5_isOne (nI n) = 0 := by
  unfold fX5_isOne
  rw [am65024 hn, if_neg (by rw [eL37888 (by omega)]; omega)]
theorem nine_mem {n : Nat} (hn : n < 65536) (h : n / 1024 = 36) (u : ST) : fX5_ofNine (nI n) u = fX5_ofMemory (nI n) u := by
  unfold fX5_ofNine
  rw [mem1 hn h]
  rfl
theorem nine_pair {n : Nat} (hn : n < 65536) (h : n / 512 = 75) (u : ST) : fX5_ofNine (nI n) u = (fX5_ofPair (nI n) u, 0) := by
  unfold fX5_ofNine
  rw [mem0 hn (by omega), one0 hn (by omega), if_pos rfl, if_pos rfl, if_neg (by rw [ge38912 (by omega)]; omega)]
theorem nine_bit {n : Nat} (hn : n < 65536) (h : n / 1024 = 38) (u : ST) : fX5_ofNine (nI n) u = (fX5_ofPortBit (nI n) u, 0) := by
  unfold fX5_ofNine
  rw [mem0 hn (by omega), one0 hn (by omega), if_pos rfl, if_pos rfl, if_pos (by rw [ge38912 (by omega)]; omega), if_neg (by rw [ge39936 (by omega)]; omega)]
theorem nine_prod {n : Nat} (hn : n < 65536) (h : n / 1024 = 39) (u : ST) : fX5_ofNine (nI n) u = (fX5_product ((rD u (fX5_dOf (nI n))) * (rD u (((jshr (nI n) 5) &&& 16) ||| (nI n &&& 15)))) 0 u, 0) := by
  unfold fX5_ofNine
  rw [mem0 hn (by omega), one0 hn (by omega), if_pos rfl, if_pos rfl, if_pos (by rw [ge38912 (by omega)]; omega), if_pos (by rw [ge39936 (by omega)]; omega)]
theorem nine_one_l0 {n : Nat} (hn : n < 65536) (h1 : n / 512 = 74) (h : n % 16 = 0) (u : ST) : fX5_ofNine (nI n) u = (fX5_ofOne (nI n) u, 0) := by
  have e15 : nI n &&& (15 : Int32) = nI 0 := by rw [an15 (by omega), h]
  unfold fX5_ofNine
  rw [mem0 hn (by omega), one1 hn h1, e15]
  rfl
theorem sing_l0 {n : Nat} (hn : n < 65536) (h : n % 16 = 0) : fX3_singleGroupOf (nI n) = 6 := by
  have e15 : nI n &&& (15 : Int32) = nI 0 := by rw [an15 (by omega), h]
  unfold fX3_singleGroupOf
  rw [e15]
  rfl
theorem bad1_l0 {n : Nat} (hn : n < 65536) (h : n % 16 = 0) : fX5_isBadOne (nI n) = 0 := by
  have e15 : nI n &&& (15 : Int32) = nI 0 := by rw [an15 (by omega), h]
  unfold fX5_isBadOne
  rw [e15]
  rfl
theorem nine_one_l1 {n : Nat} (hn : n < 65536) (h1 : n / 512 = 74) (h : n % 16 = 1) (u : ST) : fX5_ofNine (nI n) u = (fX5_ofOne (nI n) u, 0) := by
  have e15 : nI n &&& (15 : Int32) = nI 1 := by rw [an15 (by omega), h]
  unfold fX5_ofNine
  rw [mem0 hn (by omega), one1 hn h1, e15]
  rfl
theorem sing_l1 {n : Nat} (hn : n < 65536) (h : n % 16 = 1) : fX3_singleGroupOf (nI n) = 6 := by
  have e15 : nI n &&& (15 : Int32) = nI 1 := by rw [an15 (by omega), h]
  unfold fX3_singleGroupOf
  rw [e15]
  rfl
theorem bad1_l1 {n : Nat} (hn : n < 65536) (h : n % 16 = 1) : fX5_isBadOne (nI n) = 0 := by
  have e15 : nI n &&& (15 : Int32) = nI 1 := by rw [an15 (by omega), h]
  unfold fX5_isBadOne
  rw [e15]
  rfl
theorem nine_one_l2 {n : Nat} (hn : n < 65536) (h1 : n / 512 = 74) (h : n % 16 = 2) (u : ST) : fX5_ofNine (nI n) u = (fX5_ofOne (nI n) u, 0) := by
  have e15 : nI n &&& (15 : Int32) = nI 2 := by rw [an15 (by omega), h]
  unfold fX5_ofNine
  rw [mem0 hn (by omega), one1 hn h1, e15]
  rfl
theorem sing_l2 {n : Nat} (hn : n < 65536) (h : n % 16 = 2) : fX3_singleGroupOf (nI n) = 6 := by
  have e15 : nI n &&& (15 : Int32) = nI 2 := by rw [an15 (by omega), h]
  unfold fX3_singleGroupOf
  rw [e15]
  rfl
theorem bad1_l2 {n : Nat} (hn : n < 65536) (h : n % 16 = 2) : fX5_isBadOne (nI n) = 0 := by
  have e15 : nI n &&& (15 : Int32) = nI 2 := by rw [an15 (by omega), h]
  unfold fX5_isBadOne
  rw [e15]
  rfl
theorem nine_one_l3 {n : Nat} (hn : n < 65536) (h1 : n / 512 = 74) (h : n % 16 = 3) (u : ST) : fX5_ofNine (nI n) u = (fX5_ofOne (nI n) u, 0) := by
  have e15 : nI n &&& (15 : Int32) = nI 3 := by rw [an15 (by omega), h]
  unfold fX5_ofNine
  rw [mem0 hn (by omega), one1 hn h1, e15]
  rfl
theorem sing_l3 {n : Nat} (hn : n < 65536) (h : n % 16 = 3) : fX3_singleGroupOf (nI n) = 6 := by
  have e15 : nI n &&& (15 : Int32) = nI 3 := by rw [an15 (by omega), h]
  unfold fX3_singleGroupOf
  rw [e15]
  rfl
theorem bad1_l3 {n : Nat} (hn : n < 65536) (h : n % 16 = 3) : fX5_isBadOne (nI n) = 0 := by
  have e15 : nI n &&& (15 : Int32) = nI 3 := by rw [an15 (by omega), h]
  unfold fX5_isBadOne
  rw [e15]
  rfl
theorem nine_one_l4 {n : Nat} (hn : n < 65536) (h1 : n / 512 = 74) (h : n % 16 = 4) (u : ST) : fX5_ofNine (nI n) u = (fX5_ofOne (nI n) u, 0) := by
  have e15 : nI n &&& (15 : Int32) = nI 4 := by rw [an15 (by omega), h]
  unfold fX5_ofNine
  rw [mem0 hn (by omega), one1 hn h1, e15]
  rfl
theorem sing_l4 {n : Nat} (hn : n < 65536) (h : n % 16 = 4) : fX3_singleGroupOf (nI n) = 0 := by
  have e15 : nI n &&& (15 : Int32) = nI 4 := by rw [an15 (by omega), h]
  unfold fX3_singleGroupOf
  rw [e15]
  rfl
theorem bad1_l4 {n : Nat} (hn : n < 65536) (h : n % 16 = 4) : fX5_isBadOne (nI n) = 1 := by
  have e15 : nI n &&& (15 : Int32) = nI 4 := by rw [an15 (by omega), h]
  unfold fX5_isBadOne
  rw [e15]
  rfl
theorem nine_one_l5 {n : Nat} (hn : n < 65536) (h1 : n / 512 = 74) (h : n % 16 = 5) (u : ST) : fX5_ofNine (nI n) u = (fX5_ofOne (nI n) u, 0) := by
  have e15 : nI n &&& (15 : Int32) = nI 5 := by rw [an15 (by omega), h]
  unfold fX5_ofNine
  rw [mem0 hn (by omega), one1 hn h1, e15]
  rfl
theorem sing_l5 {n : Nat} (hn : n < 65536) (h : n % 16 = 5) : fX3_singleGroupOf (nI n) = 6 := by
  have e15 : nI n &&& (15 : Int32) = nI 5 := by rw [an15 (by omega), h]
  unfold fX3_singleGroupOf
  rw [e15]
  rfl
theorem bad1_l5 {n : Nat} (hn : n < 65536) (h : n % 16 = 5) : fX5_isBadOne (nI n) = 0 := by
  have e15 : nI n &&& (15 : Int32) = nI 5 := by rw [an15 (by omega), h]
  unfold fX5_isBadOne
  rw [e15]
  rfl
theorem nine_one_l6 {n : Nat} (hn : n < 65536) (h1 : n / 512 = 74) (h : n % 16 = 6) (u : ST) : fX5_ofNine (nI n) u = (fX5_ofOne (nI n) u, 0) := by
  have e15 : nI n &&& (15 : Int32) = nI 6 := by rw [an15 (by omega), h]
  unfold fX5_ofNine
  rw [mem0 hn (by omega), one1 hn h1, e15]
  rfl
theorem sing_l6 {n : Nat} (hn : n < 65536) (h : n % 16 = 6) : fX3_singleGroupOf (nI n) = 6 := by
  have e15 : nI n &&& (15 : Int32) = nI 6 := by rw [an15 (by omega), h]
  unfold fX3_singleGroupOf
  rw [e15]
  rfl
theorem bad1_l6 {n : Nat} (hn : n < 65536) (h : n % 16 = 6) : fX5_isBadOne (nI n) = 0 := by
  have e15 : nI n &&& (15 : Int32) = nI 6 := by rw [an15 (by omega), h]
  unfold fX5_isBadOne
  rw [e15]
  rfl
theorem nine_one_l7 {n : Nat} (hn : n < 65536) (h1 : n / 512 = 74) (h : n % 16 = 7) (u : ST) : fX5_ofNine (nI n) u = (fX5_ofOne (nI n) u, 0) := by
  have e15 : nI n &&& (15 : Int32) = nI 7 := by rw [an15 (by omega), h]
  unfold fX5_ofNine
  rw [mem0 hn (by omega), one1 hn h1, e15]
  rfl
theorem sing_l7 {n : Nat} (hn : n < 65536) (h : n % 16 = 7) : fX3_singleGroupOf (nI n) = 6 := by
  have e15 : nI n &&& (15 : Int32) = nI 7 := by rw [an15 (by omega), h]
  unfold fX3_singleGroupOf
  rw [e15]
  rfl
theorem bad1_l7 {n : Nat} (hn : n < 65536) (h : n % 16 = 7) : fX5_isBadOne (nI n) = 0 := by
  have e15 : nI n &&& (15 : Int32) = nI 7 := by rw [an15 (by omega), h]
  unfold fX5_isBadOne
  rw [e15]
  rfl
theorem nine_one_l8 {n : Nat} (hn : n < 65536) (h1 : n / 512 = 74) (h : n % 16 = 8) (u : ST) : fX5_ofNine (nI n) u = fX5_ofOthers (nI n) u := by
  have e15 : nI n &&& (15 : Int32) = nI 8 := by rw [an15 (by omega), h]
  unfold fX5_ofNine
  rw [mem0 hn (by omega), one1 hn h1, e15]
  rfl
theorem sing_l8 {n : Nat} (hn : n < 65536) (h : n % 16 = 8) : fX3_singleGroupOf (nI n) = fX3_flagGroupOf (nI n) := by
  have e15 : nI n &&& (15 : Int32) = nI 8 := by rw [an15 (by omega), h]
  unfold fX3_singleGroupOf
  rw [e15]
  rfl
theorem nine_one_l9 {n : Nat} (hn : n < 65536) (h1 : n / 512 = 74) (h : n % 16 = 9) (u : ST) : fX5_ofNine (nI n) u = fX5_ofOthers (nI n) u := by
  have e15 : nI n &&& (15 : Int32) = nI 9 := by rw [an15 (by omega), h]
  unfold fX5_ofNine
  rw [mem0 hn (by omega), one1 hn h1, e15]
  rfl
theorem nine_one_l10 {n : Nat} (hn : n < 65536) (h1 : n / 512 = 74) (h : n % 16 = 10) (u : ST) : fX5_ofNine (nI n) u = (fX5_ofOne (nI n) u, 0) := by
  have e15 : nI n &&& (15 : Int32) = nI 10 := by rw [an15 (by omega), h]
  unfold fX5_ofNine
  rw [mem0 hn (by omega), one1 hn h1, e15]
  rfl
theorem sing_l10 {n : Nat} (hn : n < 65536) (h : n % 16 = 10) : fX3_singleGroupOf (nI n) = 6 := by
  have e15 : nI n &&& (15 : Int32) = nI 10 := by rw [an15 (by omega), h]
  unfold fX3_singleGroupOf
  rw [e15]
  rfl
theorem bad1_l10 {n : Nat} (hn : n < 65536) (h : n % 16 = 10) : fX5_isBadOne (nI n) = 0 := by
  have e15 : nI n &&& (15 : Int32) = nI 10 := by rw [an15 (by omega), h]
  unfold fX5_isBadOne
  rw [e15]
  rfl
theorem nine_one_l11 {n : Nat} (hn : n < 65536) (h1 : n / 512 = 74) (h : n % 16 = 11) (u : ST) : fX5_ofNine (nI n) u = fX5_ofOthers (nI n) u := by
  have e15 : nI n &&& (15 : Int32) = nI 11 := by rw [an15 (by omega), h]
  unfold fX5_ofNine
  rw [mem0 hn (by omega), one1 hn h1, e15]
  rfl
theorem sing_l11 {n : Nat} (hn : n < 65536) (h : n % 16 = 11) : fX3_singleGroupOf (nI n) = 0 := by
  have e15 : nI n &&& (15 : Int32) = nI 11 := by rw [an15 (by omega), h]
  unfold fX3_singleGroupOf
  rw [e15]
  rfl
theorem bad1_l11 {n : Nat} (hn : n < 65536) (h : n % 16 = 11) : fX5_isBadOne (nI n) = 1 := by
  have e15 : nI n &&& (15 : Int32) = nI 11 := by rw [an15 (by omega), h]
  unfold fX5_isBadOne
  rw [e15]
  rfl
theorem nine_one_l12 {n : Nat} (hn : n < 65536) (h1 : n / 512 = 74) (h : n % 16 = 12) (u : ST) : fX5_ofNine (nI n) u = fX5_ofOthers (nI n) u := by
  have e15 : nI n &&& (15 : Int32) = nI 12 := by rw [an15 (by omega), h]
  unfold fX5_ofNine
  rw [mem0 hn (by omega), one1 hn h1, e15]
  rfl
theorem sing_l12 {n : Nat} (hn : n < 65536) (h : n % 16 = 12) : fX3_singleGroupOf (nI n) = 21 := by
  have e15 : nI n &&& (15 : Int32) = nI 12 := by rw [an15 (by omega), h]
  unfold fX3_singleGroupOf
  rw [e15]
  rfl
theorem bad1_l12 {n : Nat} (hn : n < 65536) (h : n % 16 = 12) : fX5_isBadOne (nI n) = 0 := by
  have e15 : nI n &&& (15 : Int32) = nI 12 := by rw [an15 (by omega), h]
  unfold fX5_isBadOne
  rw [e15]
  rfl
theorem nine_one_l13 {n : Nat} (hn : n < 65536) (h1 : n / 512 = 74) (h : n % 16 = 13) (u : ST) : fX5_ofNine (nI n) u = fX5_ofOthers (nI n) u := by
  have e15 : nI n &&& (15 : Int32) = nI 13 := by rw [an15 (by omega), h]
  unfold fX5_ofNine
  rw [mem0 hn (by omega), one1 hn h1, e15]
  rfl
theorem sing_l13 {n : Nat} (hn : n < 65536) (h : n % 16 = 13) : fX3_singleGroupOf (nI n) = 21 := by
  have e15 : nI n &&& (15 : Int32) = nI 13 := by rw [an15 (by omega), h]
  unfold fX3_singleGroupOf
  rw [e15]
  rfl
theorem bad1_l13 {n : Nat} (hn : n < 65536) (h : n % 16 = 13) : fX5_isBadOne (nI n) = 0 := by
  have e15 : nI n &&& (15 : Int32) = nI 13 := by rw [an15 (by omega), h]
  unfold fX5_isBadOne
  rw [e15]
  rfl
theorem nine_one_l14 {n : Nat} (hn : n < 65536) (h1 : n / 512 = 74) (h : n % 16 = 14) (u : ST) : fX5_ofNine (nI n) u = fX5_ofOthers (nI n) u := by
  have e15 : nI n &&& (15 : Int32) = nI 14 := by rw [an15 (by omega), h]
  unfold fX5_ofNine
  rw [mem0 hn (by omega), one1 hn h1, e15]
  rfl
theorem sing_l14 {n : Nat} (hn : n < 65536) (h : n % 16 = 14) : fX3_singleGroupOf (nI n) = 21 := by
  have e15 : nI n &&& (15 : Int32) = nI 14 := by rw [an15 (by omega), h]
  unfold fX3_singleGroupOf
  rw [e15]
  rfl
theorem bad1_l14 {n : Nat} (hn : n < 65536) (h : n % 16 = 14) : fX5_isBadOne (nI n) = 0 := by
  have e15 : nI n &&& (15 : Int32) = nI 14 := by rw [an15 (by omega), h]
  unfold fX5_isBadOne
  rw [e15]
  rfl
theorem nine_one_l15 {n : Nat} (hn : n < 65536) (h1 : n / 512 = 74) (h : n % 16 = 15) (u : ST) : fX5_ofNine (nI n) u = fX5_ofOthers (nI n) u := by
  have e15 : nI n &&& (15 : Int32) = nI 15 := by rw [an15 (by omega), h]
  unfold fX5_ofNine
  rw [mem0 hn (by omega), one1 hn h1, e15]
  rfl
theorem sing_l15 {n : Nat} (hn : n < 65536) (h : n % 16 = 15) : fX3_singleGroupOf (nI n) = 21 := by
  have e15 : nI n &&& (15 : Int32) = nI 15 := by rw [an15 (by omega), h]
  unfold fX3_singleGroupOf
  rw [e15]
  rfl
theorem bad1_l15 {n : Nat} (hn : n < 65536) (h : n % 16 = 15) : fX5_isBadOne (nI n) = 0 := by
  have e15 : nI n &&& (15 : Int32) = nI 15 := by rw [an15 (by omega), h]
  unfold fX5_isBadOne
  rw [e15]
  rfl
theorem ill_mem {n : Nat} (hn : n < 65536) (h : n / 1024 = 36) : fX5_isIllegal (nI n) = fX5_isBadMemory (nI n) := by
  unfold fX5_isIllegal
  rw [if_pos (by rw [ge256 (by omega)]; omega), mem1 hn h]
  rfl
theorem ill_one {n : Nat} (hn : n < 65536) (h : n / 512 = 74) : fX5_isIllegal (nI n) = fX5_isBadOne (nI n) := by
  unfold fX5_isIllegal
  rw [if_pos (by rw [ge256 (by omega)]; omega), mem0 hn (by omega), one1 hn h]
  rfl
theorem ill_low {n : Nat} (hn : n < 65536) (h : n < 256) : fX5_isIllegal (nI n) = if n = 0 then 0 else 1 := by
  unfold fX5_isIllegal
  rw [if_neg (by rw [ge256 (by omega)]; omega)]
  simp only [eL0 (show n < 2147483648 by omega)]
theorem ill_rest {n : Nat} (hn : n < 65536) (h : 256 ≤ n) (h1 : ¬ n / 1024 = 36) (h2 : ¬ n / 512 = 74) : fX5_isIllegal (nI n) = if n / 2048 = 31 ∧ n / 8 % 2 = 1 then 1 else 0 := by
  unfold fX5_isIllegal
  rw [if_pos (by rw [ge256 (by omega)]; omega), mem0 hn h1, one0 hn h2, if_pos rfl, if_pos rfl, am63496 hn]
  simp only [eL63496 (show n / 2048 % 32 * 2048 + n / 8 % 2 * 8 < 2147483648 by omega)]
  by_cases c : n / 2048 = 31 ∧ n / 8 % 2 = 1
  · rw [if_pos (by omega), if_pos c]
  · rw [if_neg (by omega), if_neg c]
