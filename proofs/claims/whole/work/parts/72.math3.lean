/-! numbers of a word, as natural numbers -/
theorem nI_bv {n : Nat} (h : n < 2 ^ 31) : (nI n).toBitVec.toNat = n := by
  show (BitVec.ofNat 32 n).toNat = n
  rw [BitVec.toNat_ofNat, Nat.mod_eq_of_lt (by omega)]
theorem and_nI {a m : Nat} (ha : a < 2 ^ 31) (hm : m < 2 ^ 31) : nI a &&& nI m = nI (a &&& m) := by
  apply ext_nat
  have h : a &&& m ≤ a := Nat.and_le_left
  rw [Int32.toBitVec_and, BitVec.toNat_and, nI_bv ha, nI_bv hm, nI_bv (by omega)]
theorem jshr_ti (x y : Int32) (k : Nat) (hb : (jshr x y).toBitVec = x.toBitVec.sshiftRight k) : (jshr x y).toInt = x.toInt / (2 ^ k : Nat) := by
  show (jshr x y).toBitVec.toInt = x.toBitVec.toInt / (2 ^ k : Nat)
  rw [hb, BitVec.toInt_sshiftRight, Int.shiftRight_eq_div_pow]
theorem jshr_n {n k : Nat} {y : Int32} (hn : n < 2 ^ 31) (hb : (jshr (nI n) y).toBitVec = (nI n).toBitVec.sshiftRight k) : jshr (nI n) y = nI (n / 2 ^ k) := by
  apply Int32.toInt_inj.mp
  have h1 : n / 2 ^ k ≤ n := Nat.div_le_self n _
  rw [jshr_ti _ _ _ hb, nI_toInt hn, nI_toInt (by omega)]
  exact (Int.natCast_ediv n (2 ^ k)).symm
theorem jn1 {n : Nat} (hn : n < 2147483648) : jshr (nI n) 1 = nI (n / 2) := jshr_n (k := 1) hn rfl
theorem jn2 {n : Nat} (hn : n < 2147483648) : jshr (nI n) 2 = nI (n / 4) := jshr_n (k := 2) hn rfl
theorem jn3 {n : Nat} (hn : n < 2147483648) : jshr (nI n) 3 = nI (n / 8) := jshr_n (k := 3) hn rfl
theorem jn4 {n : Nat} (hn : n < 2147483648) : jshr (nI n) 4 = nI (n / 16) := jshr_n (k := 4) hn rfl
theorem jn5 {n : Nat} (hn : n < 2147483648) : jshr (nI n) 5 = nI (n / 32) := jshr_n (k := 5) hn rfl
theorem jn7 {n : Nat} (hn : n < 2147483648) : jshr (nI n) 7 = nI (n / 128) := jshr_n (k := 7) hn rfl
theorem jn8 {n : Nat} (hn : n < 2147483648) : jshr (nI n) 8 = nI (n / 256) := jshr_n (k := 8) hn rfl
theorem jn9 {n : Nat} (hn : n < 2147483648) : jshr (nI n) 9 = nI (n / 512) := jshr_n (k := 9) hn rfl
theorem jn10 {n : Nat} (hn : n < 2147483648) : jshr (nI n) 10 = nI (n / 1024) := jshr_n (k := 10) hn rfl
theorem jn11 {n : Nat} (hn : n < 2147483648) : jshr (nI n) 11 = nI (n / 2048) := jshr_n (k := 11) hn rfl
theorem jn12 {n : Nat} (hn : n < 2147483648) : jshr (nI n) 12 = nI (n / 4096) := jshr_n (k := 12) hn rfl
theorem an1 {n : Nat} (hn : n < 2147483648) : nI n &&& (1 : Int32) = nI (n % 2) := by
  have h := and_nI (a := n) (m := 1) hn (by decide)
  rw [show n &&& 1 = n % 2 from Nat.and_two_pow_sub_one_eq_mod n 1] at h
  exact h
theorem an3 {n : Nat} (hn : n < 2147483648) : nI n &&& (3 : Int32) = nI (n % 4) := by
  have h := and_nI (a := n) (m := 3) hn (by decide)
  rw [show n &&& 3 = n % 4 from Nat.and_two_pow_sub_one_eq_mod n 2] at h
  exact h
theorem an7 {n : Nat} (hn : n < 2147483648) : nI n &&& (7 : Int32) = nI (n % 8) := by
  have h := and_nI (a := n) (m := 7) hn (by decide)
  rw [show n &&& 7 = n % 8 from Nat.and_two_pow_sub_one_eq_mod n 3] at h
  exact h
theorem an15 {n : Nat} (hn : n < 2147483648) : nI n &&& (15 : Int32) = nI (n % 16) := by
  have h := and_nI (a := n) (m := 15) hn (by decide)
  rw [show n &&& 15 = n % 16 from Nat.and_two_pow_sub_one_eq_mod n 4] at h
  exact h
theorem an31 {n : Nat} (hn : n < 2147483648) : nI n &&& (31 : Int32) = nI (n % 32) := by
  have h := and_nI (a := n) (m := 31) hn (by decide)
  rw [show n &&& 31 = n % 32 from Nat.and_two_pow_sub_one_eq_mod n 5] at h
  exact h
theorem an127 {n : Nat} (hn : n < 2147483648) : nI n &&& (127 : Int32) = nI (n % 128) := by
  have h := and_nI (a := n) (m := 127) hn (by decide)
  rw [show n &&& 127 = n % 128 from Nat.and_two_pow_sub_one_eq_mod n 7] at h
  exact h
theorem an255 {n : Nat} (hn : n < 2147483648) : nI n &&& (255 : Int32) = nI (n % 256) := by
  have h := and_nI (a := n) (m := 255) hn (by decide)
  rw [show n &&& 255 = n % 256 from Nat.and_two_pow_sub_one_eq_mod n 8] at h
  exact h
theorem an1023 {n : Nat} (hn : n < 2147483648) : nI n &&& (1023 : Int32) = nI (n % 1024) := by
  have h := and_nI (a := n) (m := 1023) hn (by decide)
  rw [show n &&& 1023 = n % 1024 from Nat.and_two_pow_sub_one_eq_mod n 10] at h
  exact h
theorem and_split (n hi lo k : Nat) (hlo : lo < 2 ^ k) : n &&& (hi * 2 ^ k + lo) = (n / 2 ^ k &&& hi) * 2 ^ k + (n % 2 ^ k &&& lo) := by
  have h0 : 0 < 2 ^ k := Nat.two_pow_pos k
  have h1 := Nat.div_add_mod (n &&& (hi * 2 ^ k + lo)) (2 ^ k)
  have e1 : (hi * 2 ^ k + lo) / 2 ^ k = hi := by rw [Nat.mul_comm, Nat.mul_add_div h0, Nat.div_eq_of_lt hlo, Nat.add_zero]
  have e2 : (hi * 2 ^ k + lo) % 2 ^ k = lo := by rw [Nat.mul_comm, Nat.mul_add_mod, Nat.mod_eq_of_lt hlo]
  rw [Nat.and_div_two_pow, Nat.and_mod_two_pow, e1, e2] at h1
  rw [← h1, Nat.mul_comm]
theorem and_hi (n m k : Nat) : n &&& (m * 2 ^ k) = (n / 2 ^ k &&& m) * 2 ^ k := by
  have h := and_split n m 0 k (Nat.two_pow_pos k)
  rw [Nat.and_zero, Nat.add_zero, Nat.add_zero] at h
  exact h
theorem and_pow (n i : Nat) : n &&& 2 ^ i = n / 2 ^ i % 2 * 2 ^ i := by
  have h := and_hi n 1 i
  rw [Nat.one_mul, Nat.and_one_is_mod] at h
  exact h
theorem ab3 {n : Nat} (hn : n < 2147483648) : nI n &&& (8 : Int32) = nI (n / 8 % 2 * 8) := by
  have h := and_nI (a := n) (m := 8) hn (by decide)
  rw [show n &&& 8 = n / 8 % 2 * 8 from and_pow n 3] at h
  exact h
theorem ab6 {n : Nat} (hn : n < 2147483648) : nI n &&& (64 : Int32) = nI (n / 64 % 2 * 64) := by
  have h := and_nI (a := n) (m := 64) hn (by decide)
  rw [show n &&& 64 = n / 64 % 2 * 64 from and_pow n 6] at h
  exact h
theorem ab7 {n : Nat} (hn : n < 2147483648) : nI n &&& (128 : Int32) = nI (n / 128 % 2 * 128) := by
  have h := and_nI (a := n) (m := 128) hn (by decide)
  rw [show n &&& 128 = n / 128 % 2 * 128 from and_pow n 7] at h
  exact h
theorem ab8 {n : Nat} (hn : n < 2147483648) : nI n &&& (256 : Int32) = nI (n / 256 % 2 * 256) := by
  have h := and_nI (a := n) (m := 256) hn (by decide)
  rw [show n &&& 256 = n / 256 % 2 * 256 from and_pow n 8] at h
  exact h
theorem ab9 {n : Nat} (hn : n < 2147483648) : nI n &&& (512 : Int32) = nI (n / 512 % 2 * 512) := by
  have h := and_nI (a := n) (m := 512) hn (by decide)
  rw [show n &&& 512 = n / 512 % 2 * 512 from and_pow n 9] at h
  exact h
theorem ab10 {n : Nat} (hn : n < 2147483648) : nI n &&& (1024 : Int32) = nI (n / 1024 % 2 * 1024) := by
  have h := and_nI (a := n) (m := 1024) hn (by decide)
  rw [show n &&& 1024 = n / 1024 % 2 * 1024 from and_pow n 10] at h
  exact h
theorem ab11 {n : Nat} (hn : n < 2147483648) : nI n &&& (2048 : Int32) = nI (n / 2048 % 2 * 2048) := by
  have h := and_nI (a := n) (m := 2048) hn (by decide)
  rw [show n &&& 2048 = n / 2048 % 2 * 2048 from and_pow n 11] at h
  exact h
theorem ab15 {n : Nat} (hn : n < 2147483648) : nI n &&& (32768 : Int32) = nI (n / 32768 % 2 * 32768) := by
  have h := and_nI (a := n) (m := 32768) hn (by decide)
  rw [show n &&& 32768 = n / 32768 % 2 * 32768 from and_pow n 15] at h
  exact h
theorem eL0 {a : Nat} (h : a < 2147483648) : (nI a = (0 : Int32)) = (a = 0) := propext (nI_eq (b := 0) h (by decide))
theorem eL1 {a : Nat} (h : a < 2147483648) : (nI a = (1 : Int32)) = (a = 1) := propext (nI_eq (b := 1) h (by decide))
theorem eL2 {a : Nat} (h : a < 2147483648) : (nI a = (2 : Int32)) = (a = 2) := propext (nI_eq (b := 2) h (by decide))
theorem eL3 {a : Nat} (h : a < 2147483648) : (nI a = (3 : Int32)) = (a = 3) := propext (nI_eq (b := 3) h (by decide))
theorem eL4 {a : Nat} (h : a < 2147483648) : (nI a = (4 : Int32)) = (a = 4) := propext (nI_eq (b := 4) h (by decide))
theorem eL5 {a : Nat} (h : a < 2147483648) : (nI a = (5 : Int32)) = (a = 5) := propext (nI_eq (b := 5) h (by decide))
theorem eL6 {a : Nat} (h : a < 2147483648) : (nI a = (6 : Int32)) = (a = 6) := propext (nI_eq (b := 6) h (by decide))
theorem eL7 {a : Nat} (h : a < 2147483648) : (nI a = (7 : Int32)) = (a = 7) := propext (nI_eq (b := 7) h (by decide))
theorem eL8 {a : Nat} (h : a < 2147483648) : (nI a = (8 : Int32)) = (a = 8) := propext (nI_eq (b := 8) h (by decide))
theorem eL9 {a : Nat} (h : a < 2147483648) : (nI a = (9 : Int32)) = (a = 9) := propext (nI_eq (b := 9) h (by decide))
theorem eL10 {a : Nat} (h : a < 2147483648) : (nI a = (10 : Int32)) = (a = 10) := propext (nI_eq (b := 10) h (by decide))
theorem eL11 {a : Nat} (h : a < 2147483648) : (nI a = (11 : Int32)) = (a = 11) := propext (nI_eq (b := 11) h (by decide))
theorem eL12 {a : Nat} (h : a < 2147483648) : (nI a = (12 : Int32)) = (a = 12) := propext (nI_eq (b := 12) h (by decide))
theorem eL13 {a : Nat} (h : a < 2147483648) : (nI a = (13 : Int32)) = (a = 13) := propext (nI_eq (b := 13) h (by decide))
theorem eL14 {a : Nat} (h : a < 2147483648) : (nI a = (14 : Int32)) = (a = 14) := propext (nI_eq (b := 14) h (by decide))
theorem eL15 {a : Nat} (h : a < 2147483648) : (nI a = (15 : Int32)) = (a = 15) := propext (nI_eq (b := 15) h (by decide))
theorem eL16 {a : Nat} (h : a < 2147483648) : (nI a = (16 : Int32)) = (a = 16) := propext (nI_eq (b := 16) h (by decide))
theorem eL17 {a : Nat} (h : a < 2147483648) : (nI a = (17 : Int32)) = (a = 17) := propext (nI_eq (b := 17) h (by decide))
theorem eL18 {a : Nat} (h : a < 2147483648) : (nI a = (18 : Int32)) = (a = 18) := propext (nI_eq (b := 18) h (by decide))
theorem eL19 {a : Nat} (h : a < 2147483648) : (nI a = (19 : Int32)) = (a = 19) := propext (nI_eq (b := 19) h (by decide))
theorem eL20 {a : Nat} (h : a < 2147483648) : (nI a = (20 : Int32)) = (a = 20) := propext (nI_eq (b := 20) h (by decide))
theorem eL21 {a : Nat} (h : a < 2147483648) : (nI a = (21 : Int32)) = (a = 21) := propext (nI_eq (b := 21) h (by decide))
theorem eL22 {a : Nat} (h : a < 2147483648) : (nI a = (22 : Int32)) = (a = 22) := propext (nI_eq (b := 22) h (by decide))
theorem eL23 {a : Nat} (h : a < 2147483648) : (nI a = (23 : Int32)) = (a = 23) := propext (nI_eq (b := 23) h (by decide))
theorem eL24 {a : Nat} (h : a < 2147483648) : (nI a = (24 : Int32)) = (a = 24) := propext (nI_eq (b := 24) h (by decide))
theorem eL25 {a : Nat} (h : a < 2147483648) : (nI a = (25 : Int32)) = (a = 25) := propext (nI_eq (b := 25) h (by decide))
theorem eL26 {a : Nat} (h : a < 2147483648) : (nI a = (26 : Int32)) = (a = 26) := propext (nI_eq (b := 26) h (by decide))
theorem eL27 {a : Nat} (h : a < 2147483648) : (nI a = (27 : Int32)) = (a = 27) := propext (nI_eq (b := 27) h (by decide))
theorem eL28 {a : Nat} (h : a < 2147483648) : (nI a = (28 : Int32)) = (a = 28) := propext (nI_eq (b := 28) h (by decide))
theorem eL29 {a : Nat} (h : a < 2147483648) : (nI a = (29 : Int32)) = (a = 29) := propext (nI_eq (b := 29) h (by decide))
theorem eL30 {a : Nat} (h : a < 2147483648) : (nI a = (30 : Int32)) = (a = 30) := propext (nI_eq (b := 30) h (by decide))
theorem eL31 {a : Nat} (h : a < 2147483648) : (nI a = (31 : Int32)) = (a = 31) := propext (nI_eq (b := 31) h (by decide))
theorem eL63 {a : Nat} (h : a < 2147483648) : (nI a = (63 : Int32)) = (a = 63) := propext (nI_eq (b := 63) h (by decide))
theorem eL64 {a : Nat} (h : a < 2147483648) : (nI a = (64 : Int32)) = (a = 64) := propext (nI_eq (b := 64) h (by decide))
theorem eL127 {a : Nat} (h : a < 2147483648) : (nI a = (127 : Int32)) = (a = 127) := propext (nI_eq (b := 127) h (by decide))
theorem eL128 {a : Nat} (h : a < 2147483648) : (nI a = (128 : Int32)) = (a = 128) := propext (nI_eq (b := 128) h (by decide))
theorem eL255 {a : Nat} (h : a < 2147483648) : (nI a = (255 : Int32)) = (a = 255) := propext (nI_eq (b := 255) h (by decide))
theorem eL256 {a : Nat} (h : a < 2147483648) : (nI a = (256 : Int32)) = (a = 256) := propext (nI_eq (b := 256) h (by decide))
theorem eL511 {a : Nat} (h : a < 2147483648) : (nI a = (511 : Int32)) = (a = 511) := propext (nI_eq (b := 511) h (by decide))
theorem eL512 {a : Nat} (h : a < 2147483648) : (nI a = (512 : Int32)) = (a = 512) := propext (nI_eq (b := 512) h (by decide))
theorem eL1023 {a : Nat} (h : a < 2147483648) : (nI a = (1023 : Int32)) = (a = 1023) := propext (nI_eq (b := 1023) h (by decide))
theorem eL2047 {a : Nat} (h : a < 2147483648) : (nI a = (2047 : Int32)) = (a = 2047) := propext (nI_eq (b := 2047) h (by decide))
theorem eL4095 {a : Nat} (h : a < 2147483648) : (nI a = (4095 : Int32)) = (a = 4095) := propext (nI_eq (b := 4095) h (by decide))
theorem eL32767 {a : Nat} (h : a < 2147483648) : (nI a = (32767 : Int32)) = (a = 32767) := propext (nI_eq (b := 32767) h (by decide))
theorem eL32768 {a : Nat} (h : a < 2147483648) : (nI a = (32768 : Int32)) = (a = 32768) := propext (nI_eq (b := 32768) h (by decide))
theorem eL36864 {a : Nat} (h : a < 2147483648) : (nI a = (36864 : Int32)) = (a = 36864) := propext (nI_eq (b := 36864) h (by decide))
theorem eL37888 {a : Nat} (h : a < 2147483648) : (nI a = (37888 : Int32)) = (a = 37888) := propext (nI_eq (b := 37888) h (by decide))
theorem eL37897 {a : Nat} (h : a < 2147483648) : (nI a = (37897 : Int32)) = (a = 37897) := propext (nI_eq (b := 37897) h (by decide))
theorem eL37900 {a : Nat} (h : a < 2147483648) : (nI a = (37900 : Int32)) = (a = 37900) := propext (nI_eq (b := 37900) h (by decide))
theorem eL38008 {a : Nat} (h : a < 2147483648) : (nI a = (38008 : Int32)) = (a = 38008) := propext (nI_eq (b := 38008) h (by decide))
theorem eL38152 {a : Nat} (h : a < 2147483648) : (nI a = (38152 : Int32)) = (a = 38152) := propext (nI_eq (b := 38152) h (by decide))
theorem eL38153 {a : Nat} (h : a < 2147483648) : (nI a = (38153 : Int32)) = (a = 38153) := propext (nI_eq (b := 38153) h (by decide))
theorem eL38168 {a : Nat} (h : a < 2147483648) : (nI a = (38168 : Int32)) = (a = 38168) := propext (nI_eq (b := 38168) h (by decide))
theorem eL38344 {a : Nat} (h : a < 2147483648) : (nI a = (38344 : Int32)) = (a = 38344) := propext (nI_eq (b := 38344) h (by decide))
theorem eL38912 {a : Nat} (h : a < 2147483648) : (nI a = (38912 : Int32)) = (a = 38912) := propext (nI_eq (b := 38912) h (by decide))
theorem eL39936 {a : Nat} (h : a < 2147483648) : (nI a = (39936 : Int32)) = (a = 39936) := propext (nI_eq (b := 39936) h (by decide))
theorem eL63488 {a : Nat} (h : a < 2147483648) : (nI a = (63488 : Int32)) = (a = 63488) := propext (nI_eq (b := 63488) h (by decide))
theorem eL63496 {a : Nat} (h : a < 2147483648) : (nI a = (63496 : Int32)) = (a = 63496) := propext (nI_eq (b := 63496) h (by decide))
theorem eL65535 {a : Nat} (h : a < 2147483648) : (nI a = (65535 : Int32)) = (a = 65535) := propext (nI_eq (b := 65535) h (by decide))
theorem le10 {a : Nat} (h : a < 2147483648) : (nI a ≤ (10 : Int32)) = (a ≤ 10) := propext (nI_leI (b := 10) h (by decide))
theorem ge10 {a : Nat} (h : a < 2147483648) : ((10 : Int32) ≤ nI a) = (10 ≤ a) := propext (nI_leI (a := 10) (by decide) h)
theorem lt10 {a : Nat} (h : a < 2147483648) : (nI a < (10 : Int32)) = (a < 10) := propext (nI_ltI (b := 10) h (by decide))
theorem gt10 {a : Nat} (h : a < 2147483648) : ((10 : Int32) < nI a) = (10 < a) := propext (nI_ltI (a := 10) (by decide) h)
theorem le11 {a : Nat} (h : a < 2147483648) : (nI a ≤ (11 : Int32)) = (a ≤ 11) := propext (nI_leI (b := 11) h (by decide))
theorem ge11 {a : Nat} (h : a < 2147483648) : ((11 : Int32) ≤ nI a) = (11 ≤ a) := propext (nI_leI (a := 11) (by decide) h)
theorem lt11 {a : Nat} (h : a < 2147483648) : (nI a < (11 : Int32)) = (a < 11) := propext (nI_ltI (b := 11) h (by decide))
theorem gt11 {a : Nat} (h : a < 2147483648) : ((11 : Int32) < nI a) = (11 < a) := propext (nI_ltI (a := 11) (by decide) h)
theorem le13 {a : Nat} (h : a < 2147483648) : (nI a ≤ (13 : Int32)) = (a ≤ 13) := propext (nI_leI (b := 13) h (by decide))
theorem ge13 {a : Nat} (h : a < 2147483648) : ((13 : Int32) ≤ nI a) = (13 ≤ a) := propext (nI_leI (a := 13) (by decide) h)
theorem lt13 {a : Nat} (h : a < 2147483648) : (nI a < (13 : Int32)) = (a < 13) := propext (nI_ltI (b := 13) h (by decide))
theorem gt13 {a : Nat} (h : a < 2147483648) : ((13 : Int32) < nI a) = (13 < a) := propext (nI_ltI (a := 13) (by decide) h)
theorem le63 {a : Nat} (h : a < 2147483648) : (nI a ≤ (63 : Int32)) = (a ≤ 63) := propext (nI_leI (b := 63) h (by decide))
theorem ge63 {a : Nat} (h : a < 2147483648) : ((63 : Int32) ≤ nI a) = (63 ≤ a) := propext (nI_leI (a := 63) (by decide) h)
theorem lt63 {a : Nat} (h : a < 2147483648) : (nI a < (63 : Int32)) = (a < 63) := propext (nI_ltI (b := 63) h (by decide))
theorem gt63 {a : Nat} (h : a < 2147483648) : ((63 : Int32) < nI a) = (63 < a) := propext (nI_ltI (a := 63) (by decide) h)
theorem le127 {a : Nat} (h : a < 2147483648) : (nI a ≤ (127 : Int32)) = (a ≤ 127) := propext (nI_leI (b := 127) h (by decide))
theorem ge127 {a : Nat} (h : a < 2147483648) : ((127 : Int32) ≤ nI a) = (127 ≤ a) := propext (nI_leI (a := 127) (by decide) h)
theorem lt127 {a : Nat} (h : a < 2147483648) : (nI a < (127 : Int32)) = (a < 127) := propext (nI_ltI (b := 127) h (by decide))
theorem gt127 {a : Nat} (h : a < 2147483648) : ((127 : Int32) < nI a) = (127 < a) := propext (nI_ltI (a := 127) (by decide) h)
theorem le255 {a : Nat} (h : a < 2147483648) : (nI a ≤ (255 : Int32)) = (a ≤ 255) := propext (nI_leI (b := 255) h (by decide))
theorem ge255 {a : Nat} (h : a < 2147483648) : ((255 : Int32) ≤ nI a) = (255 ≤ a) := propext (nI_leI (a := 255) (by decide) h)
theorem lt255 {a : Nat} (h : a < 2147483648) : (nI a < (255 : Int32)) = (a < 255) := propext (nI_ltI (b := 255) h (by decide))
theorem gt255 {a : Nat} (h : a < 2147483648) : ((255 : Int32) < nI a) = (255 < a) := propext (nI_ltI (a := 255) (by decide) h)
theorem le256 {a : Nat} (h : a < 2147483648) : (nI a ≤ (256 : Int32)) = (a ≤ 256) := propext (nI_leI (b := 256) h (by decide))
theorem ge256 {a : Nat} (h : a < 2147483648) : ((256 : Int32) ≤ nI a) = (256 ≤ a) := propext (nI_leI (a := 256) (by decide) h)
theorem lt256 {a : Nat} (h : a < 2147483648) : (nI a < (256 : Int32)) = (a < 256) := propext (nI_ltI (b := 256) h (by decide))
theorem gt256 {a : Nat} (h : a < 2147483648) : ((256 : Int32) < nI a) = (256 < a) := propext (nI_ltI (a := 256) (by decide) h)
theorem le511 {a : Nat} (h : a < 2147483648) : (nI a ≤ (511 : Int32)) = (a ≤ 511) := propext (nI_leI (b := 511) h (by decide))
theorem ge511 {a : Nat} (h : a < 2147483648) : ((511 : Int32) ≤ nI a) = (511 ≤ a) := propext (nI_leI (a := 511) (by decide) h)
theorem lt511 {a : Nat} (h : a < 2147483648) : (nI a < (511 : Int32)) = (a < 511) := propext (nI_ltI (b := 511) h (by decide))
theorem gt511 {a : Nat} (h : a < 2147483648) : ((511 : Int32) < nI a) = (511 < a) := propext (nI_ltI (a := 511) (by decide) h)
theorem le1023 {a : Nat} (h : a < 2147483648) : (nI a ≤ (1023 : Int32)) = (a ≤ 1023) := propext (nI_leI (b := 1023) h (by decide))
theorem ge1023 {a : Nat} (h : a < 2147483648) : ((1023 : Int32) ≤ nI a) = (1023 ≤ a) := propext (nI_leI (a := 1023) (by decide) h)
theorem lt1023 {a : Nat} (h : a < 2147483648) : (nI a < (1023 : Int32)) = (a < 1023) := propext (nI_ltI (b := 1023) h (by decide))
theorem gt1023 {a : Nat} (h : a < 2147483648) : ((1023 : Int32) < nI a) = (1023 < a) := propext (nI_ltI (a := 1023) (by decide) h)
theorem le2047 {a : Nat} (h : a < 2147483648) : (nI a ≤ (2047 : Int32)) = (a ≤ 2047) := propext (nI_leI (b := 2047) h (by decide))
theorem ge2047 {a : Nat} (h : a < 2147483648) : ((2047 : Int32) ≤ nI a) = (2047 ≤ a) := propext (nI_leI (a := 2047) (by decide) h)
theorem lt2047 {a : Nat} (h : a < 2147483648) : (nI a < (2047 : Int32)) = (a < 2047) := propext (nI_ltI (b := 2047) h (by decide))
theorem gt2047 {a : Nat} (h : a < 2147483648) : ((2047 : Int32) < nI a) = (2047 < a) := propext (nI_ltI (a := 2047) (by decide) h)
theorem le32767 {a : Nat} (h : a < 2147483648) : (nI a ≤ (32767 : Int32)) = (a ≤ 32767) := propext (nI_leI (b := 32767) h (by decide))
theorem ge32767 {a : Nat} (h : a < 2147483648) : ((32767 : Int32) ≤ nI a) = (32767 ≤ a) := propext (nI_leI (a := 32767) (by decide) h)
theorem lt32767 {a : Nat} (h : a < 2147483648) : (nI a < (32767 : Int32)) = (a < 32767) := propext (nI_ltI (b := 32767) h (by decide))
theorem gt32767 {a : Nat} (h : a < 2147483648) : ((32767 : Int32) < nI a) = (32767 < a) := propext (nI_ltI (a := 32767) (by decide) h)
theorem le32768 {a : Nat} (h : a < 2147483648) : (nI a ≤ (32768 : Int32)) = (a ≤ 32768) := propext (nI_leI (b := 32768) h (by decide))
theorem ge32768 {a : Nat} (h : a < 2147483648) : ((32768 : Int32) ≤ nI a) = (32768 ≤ a) := propext (nI_leI (a := 32768) (by decide) h)
theorem lt32768 {a : Nat} (h : a < 2147483648) : (nI a < (32768 : Int32)) = (a < 32768) := propext (nI_ltI (b := 32768) h (by decide))
theorem gt32768 {a : Nat} (h : a < 2147483648) : ((32768 : Int32) < nI a) = (32768 < a) := propext (nI_ltI (a := 32768) (by decide) h)
theorem le38912 {a : Nat} (h : a < 2147483648) : (nI a ≤ (38912 : Int32)) = (a ≤ 38912) := propext (nI_leI (b := 38912) h (by decide))
theorem ge38912 {a : Nat} (h : a < 2147483648) : ((38912 : Int32) ≤ nI a) = (38912 ≤ a) := propext (nI_leI (a := 38912) (by decide) h)
theorem lt38912 {a : Nat} (h : a < 2147483648) : (nI a < (38912 : Int32)) = (a < 38912) := propext (nI_ltI (b := 38912) h (by decide))
theorem gt38912 {a : Nat} (h : a < 2147483648) : ((38912 : Int32) < nI a) = (38912 < a) := propext (nI_ltI (a := 38912) (by decide) h)
theorem le39936 {a : Nat} (h : a < 2147483648) : (nI a ≤ (39936 : Int32)) = (a ≤ 39936) := propext (nI_leI (b := 39936) h (by decide))
theorem ge39936 {a : Nat} (h : a < 2147483648) : ((39936 : Int32) ≤ nI a) = (39936 ≤ a) := propext (nI_leI (a := 39936) (by decide) h)
theorem lt39936 {a : Nat} (h : a < 2147483648) : (nI a < (39936 : Int32)) = (a < 39936) := propext (nI_ltI (b := 39936) h (by decide))
theorem gt39936 {a : Nat} (h : a < 2147483648) : ((39936 : Int32) < nI a) = (39936 < a) := propext (nI_ltI (a := 39936) (by decide) h)
theorem le63488 {a : Nat} (h : a < 2147483648) : (nI a ≤ (63488 : Int32)) = (a ≤ 63488) := propext (nI_leI (b := 63488) h (by decide))
theorem ge63488 {a : Nat} (h : a < 2147483648) : ((63488 : Int32) ≤ nI a) = (63488 ≤ a) := propext (nI_leI (a := 63488) (by decide) h)
theorem lt63488 {a : Nat} (h : a < 2147483648) : (nI a < (63488 : Int32)) = (a < 63488) := propext (nI_ltI (b := 63488) h (by decide))
theorem gt63488 {a : Nat} (h : a < 2147483648) : ((63488 : Int32) < nI a) = (63488 < a) := propext (nI_ltI (a := 63488) (by decide) h)
theorem word_ex {x : Int32} (h : Word x) : ∃ n, n < 65536 ∧ x = nI n := ex_nI h.1 h.2 (by decide)
theorem word_nI {n : Nat} (h : n < 65536) : Word (nI n) := ⟨by rw [nI_toInt (by omega)]; omega, by rw [nI_toInt (by omega)]; omega⟩
theorem bit15 {x : Int32} (h : Word x) : x &&& (32768 : Int32) = jshl (b01 (!decide (x ≤ 32767))) 15 := by
  obtain ⟨n, hn, rfl⟩ := word_ex h
  rw [ab15 (by omega), show decide (nI n ≤ 32767) = decide (n ≤ 32767) from decide_eq_decide.mpr (by rw [le32767 (by omega)])]
  by_cases h1 : n ≤ 32767
  · rw [show n / 32768 % 2 * 32768 = 0 by omega]; simp [h1]; decide
  · rw [show n / 32768 % 2 * 32768 = 32768 by omega]; simp [h1]; decide
theorem hi_n {n M m k j : Nat} (hn : n < 65536) (hM : M = (2 ^ j - 1) * 2 ^ k) (hm : M < 2 ^ 31) : nI n &&& nI M = nI (n / 2 ^ k % 2 ^ j * 2 ^ k) := by
  rw [and_nI (by omega) hm, hM, and_hi, Nat.and_two_pow_sub_one_eq_mod]
theorem am64512 {n : Nat} (hn : n < 65536) : nI n &&& (64512 : Int32) = nI (n / 1024 % 64 * 1024) := hi_n (M := 64512) (m := 0) (k := 10) (j := 6) hn (by decide) (by decide)
theorem am65024 {n : Nat} (hn : n < 65536) : nI n &&& (65024 : Int32) = nI (n / 512 % 128 * 512) := hi_n (M := 65024) (m := 0) (k := 9) (j := 7) hn (by decide) (by decide)
theorem am53248 {n : Nat} (hn : n < 65536) : nI n &&& (53248 : Int32) = nI ((n / 4096 &&& 13) * 4096) := by
  have h := and_nI (a := n) (m := 53248) (by omega) (by decide)
  rw [show n &&& 53248 = (n / 4096 &&& 13) * 4096 from and_hi n 13 12] at h
  exact h
theorem am63496 {n : Nat} (hn : n < 65536) : nI n &&& (63496 : Int32) = nI (n / 2048 % 32 * 2048 + n / 8 % 2 * 8) := by
  have h := and_nI (a := n) (m := 63496) (by omega) (by decide)
  have h1 : n &&& 63496 = n / 2048 % 32 * 2048 + n / 8 % 2 * 8 := by
    have h2 := and_split n 31 8 11 (by decide)
    rw [show n % 2 ^ 11 &&& 8 = n % 2 ^ 11 / 8 % 2 * 8 from and_pow (n % 2 ^ 11) 3, show n / 2 ^ 11 &&& 31 = n / 2 ^ 11 % 32 from Nat.and_two_pow_sub_one_eq_mod _ 5] at h2
    rw [show (63496 : Nat) = 31 * 2 ^ 11 + 8 by decide, h2]
    omega
  rw [h1] at h
  exact h
theorem am64527 {n : Nat} (hn : n < 65536) : nI n &&& (64527 : Int32) = nI (n / 1024 % 64 * 1024 + n % 16) := by
  have h := and_nI (a := n) (m := 64527) (by omega) (by decide)
  have h1 : n &&& 64527 = n / 1024 % 64 * 1024 + n % 16 := by
    have h2 := and_split n 63 15 10 (by decide)
    rw [show n % 2 ^ 10 &&& 15 = n % 2 ^ 10 % 16 from Nat.and_two_pow_sub_one_eq_mod _ 4, show n / 2 ^ 10 &&& 63 = n / 2 ^ 10 % 64 from Nat.and_two_pow_sub_one_eq_mod _ 6] at h2
    rw [show (64527 : Nat) = 63 * 2 ^ 10 + 15 by decide, h2]
    omega
  rw [h1] at h
  exact h
theorem am65036 {n : Nat} (hn : n < 65536) : nI n &&& (65036 : Int32) = nI (n / 512 % 128 * 512 + n / 4 % 4 * 4) := by
  have h := and_nI (a := n) (m := 65036) (by omega) (by decide)
  have h1 : n &&& 65036 = n / 512 % 128 * 512 + n / 4 % 4 * 4 := by
    have h2 := and_split n 127 12 9 (by decide)
    have h3 := and_hi (n % 2 ^ 9) 3 2
    rw [show n % 2 ^ 9 / 2 ^ 2 &&& 3 = n % 2 ^ 9 / 2 ^ 2 % 4 from Nat.and_two_pow_sub_one_eq_mod _ 2] at h3
    rw [show n / 2 ^ 9 &&& 127 = n / 2 ^ 9 % 128 from Nat.and_two_pow_sub_one_eq_mod _ 7, show (12 : Nat) = 3 * 2 ^ 2 by decide, h3] at h2
    rw [show (65036 : Nat) = 127 * 2 ^ 9 + 3 * 2 ^ 2 by decide, h2]
    omega
  rw [h1] at h
  exact h
theorem am136 {n : Nat} (hn : n < 65536) : nI n &&& (136 : Int32) = nI (n / 128 % 2 * 128 + n / 8 % 2 * 8) := by
  have h := and_nI (a := n) (m := 136) (by omega) (by decide)
  have h1 : n &&& 136 = n / 128 % 2 * 128 + n / 8 % 2 * 8 := by
    have h2 := and_split n 1 8 7 (by decide)
    rw [show n % 2 ^ 7 &&& 8 = n % 2 ^ 7 / 8 % 2 * 8 from and_pow (n % 2 ^ 7) 3, Nat.and_one_is_mod] at h2
    rw [show (136 : Nat) = 1 * 2 ^ 7 + 8 by decide, h2]
    omega
  rw [h1] at h
  exact h
