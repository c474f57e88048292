/-! numbers: bytes, words, masks -/
def Byte (x : Int32) : Prop := 0 ≤ x.toInt ∧ x.toInt < 256
def Word (x : Int32) : Prop := 0 ≤ x.toInt ∧ x.toInt < 65536
theorem ex_nI {x : Int32} {N : Nat} (h0 : 0 ≤ x.toInt) (h1 : x.toInt < N) (hN : N ≤ 2 ^ 31) : ∃ n, n < N ∧ x = nI n :=
  ⟨x.toInt.toNat, by omega, Int32.toInt_inj.mp (by rw [nI_toInt (by omega)]; omega)⟩
theorem all_lt {P : Int32 → Prop} {N : Nat} (hN : N ≤ 2 ^ 31) (h : ∀ n, n < N → P (nI n)) {x : Int32} (h0 : 0 ≤ x.toInt) (h1 : x.toInt < N) : P x := by
  obtain ⟨n, hn, rfl⟩ := ex_nI h0 h1 hN
  exact h n hn
theorem all_byte {P : Int32 → Prop} (h : ∀ n, n < 256 → P (nI n)) {x : Int32} (hx : Byte x) : P x := all_lt (by decide) h hx.1 hx.2
theorem byte_nI {n : Nat} (h : n < 256) : Byte (nI n) := ⟨by rw [nI_toInt (by omega)]; omega, by rw [nI_toInt (by omega)]; omega⟩
theorem nat_of {x : Int32} (h0 : 0 ≤ x.toInt) : (x.toBitVec.toNat : Int) = x.toInt := by
  have h1 : x.toBitVec.toInt = x.toInt := rfl
  have h2 := x.toBitVec.isLt
  rw [BitVec.toInt_eq_toNat_cond] at h1
  split at h1 <;> omega
theorem toI_of {x : Int32} (h : x.toBitVec.toNat < 2 ^ 31) : x.toInt = (x.toBitVec.toNat : Int) := BitVec.toInt_eq_toNat_of_lt (by omega)
theorem ext_nat {x y : Int32} (h : x.toBitVec.toNat = y.toBitVec.toNat) : x = y := Int32.toBitVec_inj.mp (BitVec.eq_of_toNat_eq h)
theorem and_rng (x : Int32) {m : Int32} (hm : 0 ≤ m.toInt) : 0 ≤ (x &&& m).toInt ∧ (x &&& m).toInt ≤ m.toInt := by
  have h1 := nat_of hm
  have h2 := m.toBitVec.isLt
  have hm2 : m.toInt < 2 ^ 31 := m.toInt_lt
  have h4 := i32nat_and x (n := m.toBitVec.toNat) m rfl (by omega)
  have h5 : x.toBitVec.toNat &&& m.toBitVec.toNat ≤ m.toBitVec.toNat := Nat.and_le_right
  omega
theorem and_low {x m : Int32} {k : Nat} (hm : m.toBitVec.toNat = 2 ^ k - 1) (h0 : 0 ≤ x.toInt) (h1 : x.toInt < (2 ^ k : Nat)) : x &&& m = x := by
  apply ext_nat
  have h2 := nat_of h0
  rw [Int32.toBitVec_and, BitVec.toNat_and, hm, Nat.and_two_pow_sub_one_eq_mod, Nat.mod_eq_of_lt (by omega)]
theorem byte_and (x : Int32) : Byte (x &&& 255) := by
  have h := and_rng x (m := 255) (by decide)
  have e : (255 : Int32).toInt = 255 := by decide
  exact ⟨h.1, by omega⟩
theorem word_and (x : Int32) : Word (x &&& 65535) := by
  have h := and_rng x (m := 65535) (by decide)
  have e : (65535 : Int32).toInt = 65535 := by decide
  exact ⟨h.1, by omega⟩
theorem Byte.and255 {x : Int32} (h : Byte x) : x &&& 255 = x := and_low (k := 8) (by decide) h.1 h.2
theorem Word.and65535 {x : Int32} (h : Word x) : x &&& 65535 = x := and_low (k := 16) (by decide) h.1 h.2
theorem and1023 {x : Int32} (h : vp_in x 1024) : x &&& 1023 = x := by
  have h2 := vp_in_iff.mp h
  exact and_low (k := 10) (by decide) h2.1 h2.2
theorem Byte.word {x : Int32} (h : Byte x) : Word x := ⟨h.1, by have := h.2; omega⟩
theorem or_rng {x y : Int32} {k : Nat} (hk : k ≤ 31) (hx : 0 ≤ x.toInt) (hx1 : x.toInt < (2 ^ k : Nat)) (hy : 0 ≤ y.toInt) (hy1 : y.toInt < (2 ^ k : Nat)) : 0 ≤ (x ||| y).toInt ∧ (x ||| y).toInt < (2 ^ k : Nat) := by
  have a := nat_of hx
  have b := nat_of hy
  have c : (x ||| y).toBitVec.toNat < 2 ^ k := by
    rw [Int32.toBitVec_or, BitVec.toNat_or]
    exact Nat.or_lt_two_pow (by omega) (by omega)
  have d : 2 ^ k ≤ 2 ^ 31 := Nat.pow_le_pow_right (by omega) hk
  rw [toI_of (by omega)]
  omega
theorem Byte.or {x y : Int32} (hx : Byte x) (hy : Byte y) : Byte (x ||| y) := or_rng (k := 8) (by omega) hx.1 hx.2 hy.1 hy.2
theorem Word.or {x y : Int32} (hx : Word x) (hy : Word y) : Word (x ||| y) := or_rng (k := 16) (by omega) hx.1 hx.2 hy.1 hy.2
theorem Byte.andl {x : Int32} (y : Int32) (hx : Byte x) : Byte (x &&& y) := by
  have a := nat_of hx.1
  have c : (x &&& y).toBitVec.toNat ≤ x.toBitVec.toNat := by
    rw [Int32.toBitVec_and, BitVec.toNat_and]
    exact Nat.and_le_left
  have := hx.2
  have d : (x &&& y).toInt = ((x &&& y).toBitVec.toNat : Int) := toI_of (by omega)
  exact ⟨by omega, by omega⟩
theorem vin_of {x : Int32} {N : Nat} (h0 : 0 ≤ x.toInt) (h1 : x.toInt < N) : vp_in x N := vp_in_iff.mpr ⟨h0, h1⟩
/-! places of a row -/
theorem rD_same (u : ST) (i x : Int32) : rD (wD u i x) i = x := by simp [rD, wD, sD, gD, upd]
theorem rD_ne (u : ST) {i j : Int32} (x : Int32) (h : j.toNatClampNeg ≠ i.toNatClampNeg) : rD (wD u i x) j = rD u j := by simp [rD, wD, sD, gD, upd, h]
theorem wD_same (u : ST) (i x y : Int32) : wD (wD u i x) i y = wD u i y := by
  have e : upd (upd (gD u) i.toNatClampNeg x) i.toNatClampNeg y = upd (gD u) i.toNatClampNeg y := by
    funext q; simp [upd]; split <;> rfl
  show sD u (upd (upd (gD u) i.toNatClampNeg x) i.toNatClampNeg y) = _
  rw [e]; rfl
theorem wD_comm (u : ST) {i j : Int32} (x y : Int32) (h : j.toNatClampNeg ≠ i.toNatClampNeg) : wD (wD u i x) j y = wD (wD u j y) i x := by
  have e : upd (upd (gD u) i.toNatClampNeg x) j.toNatClampNeg y = upd (upd (gD u) j.toNatClampNeg y) i.toNatClampNeg x := by
    funext q; simp only [upd]; by_cases h1 : q = i.toNatClampNeg <;> by_cases h2 : q = j.toNatClampNeg <;> simp_all
  show sD u (upd (upd (gD u) i.toNatClampNeg x) j.toNatClampNeg y) = sD u (upd (upd (gD u) j.toNatClampNeg y) i.toNatClampNeg x)
  rw [e]
theorem wD_id (u : ST) (i : Int32) : wD u i (rD u i) = u := by
  have e : upd (gD u) i.toNatClampNeg (gD u i.toNatClampNeg) = gD u := by
    funext q; simp only [upd]; split <;> simp_all
  show sD u (upd (gD u) i.toNatClampNeg (gD u i.toNatClampNeg)) = u
  rw [e]; rfl
/-! flags: one after the other, and all at once -/
def flg (f b F : Int32) : Int32 := if b = 0 then (F &&& (f ^^^ (-1 : Int32))) else (F ||| f)
theorem flag_w (f b F : Int32) (u : ST) : fX5_flag f b (wD u 95 F) = wD u 95 (flg f b F) := by
  show wD (wD u 95 F) 95 (flg f b (rD (wD u 95 F) 95)) = _
  rw [rD_same, wD_same]
theorem flag_u (f b : Int32) (u : ST) : fX5_flag f b u = wD u 95 (flg f b (rD u 95)) := rfl
def sgM (x v F : Int32) : Int32 := flg 16 (if (if x ≤ 127 then (0 : Int32) else 1) = v then 0 else 1) (flg 8 v (flg 4 (if x ≤ 127 then 0 else 1) (flg 2 (if x = 0 then 1 else 0) F)))
theorem signs_w (x v F : Int32) (u : ST) : fX5_signs x v (wD u 95 F) = wD u 95 (sgM x v F) := by
  unfold fX5_signs sgM
  rw [flag_w, flag_w, flag_w, flag_w]
theorem signs_u (x v : Int32) (u : ST) : fX5_signs x v u = wD u 95 (sgM x v (rD u 95)) := by
  have h := signs_w x v (rD u 95) u
  rw [wD_id] at h
  exact h
def b01 (b : Bool) : Int32 := bif b then 1 else 0
theorem b01_p (p : Prop) [Decidable p] : (if p then (1 : Int32) else 0) = b01 (decide p) := by by_cases h : p <;> simp [h, b01]
theorem b01_n (p : Prop) [Decidable p] : (if p then (0 : Int32) else 1) = b01 (!decide p) := by by_cases h : p <;> simp [h, b01]
theorem m2_p (p : Prop) [Decidable p] : (if p then (2 : Int32) else 0) = jshl (b01 (decide p)) 1 := by by_cases h : p <;> simp [h, b01] <;> decide
theorem m32_n (p : Prop) [Decidable p] : (if p then (0 : Int32) else 32) = jshl (b01 (!decide p)) 5 := by by_cases h : p <;> simp [h, b01] <;> decide
theorem n7 {x : Int32} (h : Byte x) : (jshr x 7) &&& (1 : Int32) = b01 (!decide (x ≤ 127)) := all_byte (P := fun x => (jshr x 7) &&& (1 : Int32) = b01 (!decide (x ≤ 127))) (by decide +kernel) h
theorem b01_ne (v : Bool) : (if b01 v = 0 then (0 : Int32) else 1) = b01 v := by cases v <;> decide
theorem b01_eq (n v : Bool) : (if b01 n = b01 v then (0 : Int32) else 1) = b01 (n != v) := by cases n <;> cases v <;> decide
/-- signs of the class, in bits -/
def sgX (z n v : Bool) : Int32 := (((jshl (b01 z) 1 ||| jshl (b01 n) 2) ||| jshl (b01 v) 3) ||| jshl (b01 n ^^^ b01 v) 4)
theorem signs_X {x : Int32} (h : Byte x) (v : Bool) : fX2_signs x (b01 v) = sgX (decide (x = 0)) (!decide (x ≤ 127)) v := by
  unfold fX2_signs sgX
  rw [n7 h, b01_ne, m2_p]
def sgB (z n v : Bool) (F : Int32) : Int32 := flg 16 (b01 (n != v)) (flg 8 (b01 v) (flg 4 (b01 n) (flg 2 (b01 z) F)))
theorem sgM_B (x : Int32) (v : Bool) (F : Int32) : sgM x (b01 v) F = sgB (decide (x = 0)) (!decide (x ≤ 127)) v F := by
  unfold sgM sgB
  rw [b01_n (x ≤ 127), b01_eq, b01_p]
theorem F63 : ∀ n, n < 256 → ∀ c h z g v : Bool, sgB z g v (flg 32 (b01 h) (flg 1 (b01 c) (nI n))) = ((nI n &&& ((63 : Int32) ^^^ (-1 : Int32))) ||| (((sgX z g v ||| b01 c) ||| jshl (b01 h) 5) &&& (63 : Int32))) := by decide +kernel
theorem F30 : ∀ n, n < 256 → ∀ z g v : Bool, sgB z g v (nI n) = ((nI n &&& ((30 : Int32) ^^^ (-1 : Int32))) ||| (sgX z g v &&& (30 : Int32))) := by decide +kernel
theorem F31 : ∀ n, n < 256 → ∀ c z g v : Bool, sgB z g v (flg 1 (b01 c) (nI n)) = ((nI n &&& ((31 : Int32) ^^^ (-1 : Int32))) ||| ((sgX z g v ||| b01 c) &&& (31 : Int32))) := by decide +kernel
