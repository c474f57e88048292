/-! vectors: the least that is asked for -/
theorem jshr_j (x : Int32) {j : Nat} (hj : j < 32) : (jshr x (nI j)).toBitVec = x.toBitVec.sshiftRight j := by
  have h1 : (jshr x (nI j)).toBitVec = x.toBitVec.sshiftRight' ((nI j &&& (31 : Int32)).toBitVec.smod 32) := rfl
  have h2 : ∀ j, j < 32 → ((nI j &&& (31 : Int32)).toBitVec.smod 32).toNat = j := by decide +kernel
  rw [h1]
  show x.toBitVec.sshiftRight ((nI j &&& (31 : Int32)).toBitVec.smod 32).toNat = _
  rw [h2 j hj]
theorem bit_n {m j : Nat} (hm : m < 2 ^ 31) (hj : j < 32) : (jshr (nI m) (nI j)) &&& (1 : Int32) = nI (m / 2 ^ j % 2) := by
  rw [jshr_n (k := j) hm (jshr_j _ hj)]
  have h := Nat.div_le_self m (2 ^ j)
  exact an1 (by omega)
theorem low_spec (a : Int32) : ∀ (n j : Nat), (∃ k, k < n ∧ ¬ (jshr a (nI (j + k)) &&& (1 : Int32)) = 0) → (¬ (jshr a (nI (lowFrom a n j)) &&& (1 : Int32)) = 0) ∧ j ≤ lowFrom a n j ∧ lowFrom a n j < j + n ∧ ∀ i, j ≤ i → i < lowFrom a n j → (jshr a (nI i) &&& (1 : Int32)) = 0 := by
  intro n
  induction n with
  | zero => intro j h; obtain ⟨k, hk, _⟩ := h; exact absurd hk (Nat.not_lt_zero k)
  | succ n ih =>
    intro j h
    by_cases c : (jshr a (nI j) &&& (1 : Int32)) = 0
    · have e : lowFrom a (n + 1) j = lowFrom a n (j + 1) := if_pos c
      rw [e]
      obtain ⟨k, hk, hb⟩ := h
      have h2 : ∃ k, k < n ∧ ¬ (jshr a (nI (j + 1 + k)) &&& (1 : Int32)) = 0 := by
        cases k with
        | zero => exact absurd c hb
        | succ k => exact ⟨k, by omega, by rw [show j + 1 + k = j + (k + 1) by omega]; exact hb⟩
      obtain ⟨q1, q2, q3, q4⟩ := ih (j + 1) h2
      refine ⟨q1, by omega, by omega, fun i hi1 hi2 => ?_⟩
      by_cases hij : i = j
      · subst hij; exact c
      · exact q4 i (by omega) hi2
    · have e : lowFrom a (n + 1) j = j := if_neg c
      rw [e]
      exact ⟨c, by omega, by omega, fun i h1 h2 => by omega⟩
/-- asked for: only vectors 1 .. 25 -/
def AsOk (a : Int32) : Prop := ∃ m, m < 67108864 ∧ m % 2 = 0 ∧ a = nI m
theorem bit_ex : ∀ (b m : Nat), m < 2 ^ b → ¬ m = 0 → ∃ j, j < b ∧ m / 2 ^ j % 2 = 1 := by
  intro b
  induction b with
  | zero => intro m h h0; exact absurd (by omega) h0
  | succ b ih =>
    intro m h h0
    by_cases c : m % 2 = 1
    · exact ⟨0, by omega, by simpa using c⟩
    · obtain ⟨j, hj, h1⟩ := ih (m / 2) (by rw [Nat.pow_succ] at h; omega) (by omega)
      exact ⟨j + 1, by omega, by rw [Nat.pow_succ, Nat.mul_comm, ← Nat.div_div_eq_div_mul]; exact h1⟩
theorem low_n1 {m : Nat} (hm : m < 67108864) (h2 : m % 2 = 0) (h0 : ¬ m = 0) : lowOk (nI m) ∧ 1 ≤ lowv (nI m) ∧ lowv (nI m) < 26 ∧ m / 2 ^ lowv (nI m) % 2 = 1 ∧ m % 2 ^ lowv (nI m) = 0 := by
  obtain ⟨j, hj, hb⟩ := bit_ex 26 m hm h0
  have hj0 : ¬ j = 0 := fun q => by subst q; simp at hb; omega
  have nz : ∀ i, i < 32 → (¬ (jshr (nI m) (nI i) &&& (1 : Int32)) = 0 ↔ m / 2 ^ i % 2 = 1) := fun i hi => by
    rw [bit_n (by omega) hi]
    rcases (show m / 2 ^ i % 2 = 0 ∨ m / 2 ^ i % 2 = 1 by omega) with q | q <;> rw [q] <;> decide
  have hok : lowOk (nI m) := ⟨j - 1, by omega, by rw [show 1 + (j - 1) = j by omega]; exact (nz j (by omega)).mpr hb⟩
  obtain ⟨q1, q2, q3, q4⟩ := low_spec (nI m) 31 1 hok
  have e : lowFrom (nI m) 31 1 = lowv (nI m) := rfl
  rw [e] at q1 q2 q3 q4
  have k1 := (nz _ (by omega)).mp q1
  have k2 : lowv (nI m) < 26 := by
    by_cases c : lowv (nI m) < 26
    · exact c
    · exfalso
      have h3 : 2 ^ 26 ≤ 2 ^ lowv (nI m) := Nat.pow_le_pow_right (by decide) (by omega)
      rw [Nat.div_eq_of_lt (by omega)] at k1
      omega
  refine ⟨hok, q2, k2, k1, ?_⟩
  have all : ∀ i, i ≤ lowv (nI m) → m % 2 ^ i = 0 := by
    intro i
    induction i with
    | zero => intro _; omega
    | succ i ih =>
      intro hi
      have h5 := ih (by omega)
      have h6 : m / 2 ^ i % 2 = 0 := by
        by_cases c : i = 0
        · subst c; simpa using h2
        · have := q4 i (by omega) (by omega)
          have h7 := mt (nz i (by omega)).mpr (fun z => z this)
          omega
      have h8 := Nat.div_add_mod m (2 ^ i)
      have h9 := Nat.div_add_mod (m / 2 ^ i) 2
      rw [h5, Nat.add_zero] at h8
      rw [h6, Nat.add_zero] at h9
      have h10 : m = 2 ^ (i + 1) * (m / 2 ^ i / 2) := by rw [Nat.pow_succ, Nat.mul_assoc, h9, h8]
      rw [h10, Nat.mul_mod_right]
  exact all _ (Nat.le_refl _)
theorem bits_n {m k : Nat} (hm : m < 67108864) (hk : k < 26) (h1 : m / 2 ^ k % 2 = 1) (h0 : m % 2 ^ k = 0) : m &&& (m - 1) = m - 2 ^ k ∧ 2 ^ k ≤ m ∧ (m - 2 ^ k) / 2 ^ k % 2 = 0 := by
  have hp : 0 < 2 ^ k := Nat.two_pow_pos k
  have hd := Nat.div_add_mod m (2 ^ k)
  rw [h0, Nat.add_zero] at hd
  obtain ⟨q, hq⟩ : ∃ q, m / 2 ^ k = 2 * q + 1 := ⟨m / 2 ^ k / 2, by omega⟩
  rw [hq] at hd
  have hle : 2 ^ k ≤ m := by rw [← hd]; exact Nat.le_mul_of_pos_right _ (by omega)
  have e1 : m - 1 = (2 * q) * 2 ^ k + (2 ^ k - 1) := by
    have : 2 ^ k * (2 * q + 1) = (2 * q) * 2 ^ k + 2 ^ k := by rw [Nat.mul_add, Nat.mul_one, Nat.mul_comm]
    omega
  have e2 : m - 2 ^ k = (2 * q) * 2 ^ k := by
    have : 2 ^ k * (2 * q + 1) = (2 * q) * 2 ^ k + 2 ^ k := by rw [Nat.mul_add, Nat.mul_one, Nat.mul_comm]
    omega
  refine ⟨?_, hle, ?_⟩
  · rw [e1, and_split m (2 * q) (2 ^ k - 1) k (by omega), hq, h0, Nat.zero_and, Nat.add_zero, e2]
    have e3 : (2 * q + 1) &&& (2 * q) = 2 * q := by
      have h := and_hi (2 * q + 1) q 1
      rw [show (2 * q + 1) / 2 ^ 1 = q by omega, Nat.and_self] at h
      rw [show q * 2 ^ 1 = 2 * q by omega] at h
      exact h
    rw [e3]
  · rw [e2, Nat.mul_div_cancel _ hp]; omega
theorem sub1_n {m : Nat} (h : 0 < m) : nI m - 1 = nI (m - 1) := by
  have := nI_pred (m - 1)
  rwa [show m - 1 + 1 = m by omega] at this
theorem shl1 : ∀ k, k < 26 → jshl (1 : Int32) (nI k) = nI (2 ^ k) := by decide +kernel
theorem and_not (x b : Int32) (h : x &&& b = 0) : (x ||| b) &&& (b ^^^ (-1 : Int32)) = x := by
  apply Int32.toBitVec_inj.mp
  apply BitVec.eq_of_getLsbD_eq
  intro i hi
  have h2 : (x &&& b).toBitVec.getLsbD i = false := by rw [h]; exact BitVec.getLsbD_zero
  simp only [Int32.toBitVec_and, Int32.toBitVec_or, Int32.toBitVec_xor, BitVec.getLsbD_and, BitVec.getLsbD_or, BitVec.getLsbD_xor] at h2 ⊢
  have e : (-1 : Int32).toBitVec.getLsbD i = true := by
    have : ∀ j, j < 32 → (-1 : Int32).toBitVec.getLsbD j = true := by decide
    exact this i hi
  rw [e]
  cases hx : x.toBitVec.getLsbD i <;> cases hb : b.toBitVec.getLsbD i <;> simp_all
theorem clear_n {m k : Nat} (hm : m < 67108864) (hk : k < 26) (h1 : m / 2 ^ k % 2 = 1) (h0 : m % 2 ^ k = 0) : nI m &&& ((jshl (1 : Int32) (nI k)) ^^^ (-1 : Int32)) = nI (m - 2 ^ k) ∧ nI m &&& (nI m - 1) = nI (m - 2 ^ k) := by
  obtain ⟨b1, b2, b3⟩ := bits_n hm hk h1 h0
  have hpk : 2 ^ k < 2 ^ 26 := Nat.pow_lt_pow_right (by decide) hk
  constructor
  · rw [shl1 k hk]
    have hz : nI (m - 2 ^ k) &&& nI (2 ^ k) = 0 := by
      rw [and_nI (by omega) (by omega), and_pow, b3, Nat.zero_mul]; rfl
    have ho : nI m = nI (m - 2 ^ k) ||| nI (2 ^ k) := by
      apply ext_nat
      rw [Int32.toBitVec_or, BitVec.toNat_or, nI_bv (by omega), nI_bv (by omega), nI_bv (by omega)]
      have hp : 0 < 2 ^ k := Nat.two_pow_pos k
      obtain ⟨q, hq⟩ : ∃ q, m - 2 ^ k = 2 ^ (k + 1) * q := by
        have hd := Nat.div_add_mod (m - 2 ^ k) (2 ^ k)
        have hm2 : (m - 2 ^ k) % 2 ^ k = 0 := by rw [← Nat.mod_eq_sub_mod b2]; exact h0
        rw [hm2, Nat.add_zero] at hd
        refine ⟨(m - 2 ^ k) / 2 ^ k / 2, ?_⟩
        have h9 := Nat.div_add_mod ((m - 2 ^ k) / 2 ^ k) 2
        rw [b3, Nat.add_zero] at h9
        rw [Nat.pow_succ, Nat.mul_assoc, h9, hd]
      have h := Nat.two_pow_add_eq_or_of_lt (i := k + 1) (b := 2 ^ k) (Nat.pow_lt_pow_right (by decide) (by omega)) q
      rw [← hq] at h
      rw [← h]; omega
    rw [ho, and_not _ _ hz]
  · rw [sub1_n (by omega), and_nI (by omega) (by omega), b1]
theorem ntz_in {m k : Nat} (hm : m < 67108864) (hk : k < 26) (h1 : m / 2 ^ k % 2 = 1) (h0 : m % 2 ^ k = 0) : (nI m ^^^ (-1 : Int32)) &&& (nI m - 1) = nI (2 ^ k - 1) := by
  obtain ⟨b1, b2, b3⟩ := bits_n hm hk h1 h0
  have hpk : 2 ^ k < 2 ^ 26 := Nat.pow_lt_pow_right (by decide) hk
  have hp : 0 < 2 ^ k := Nat.two_pow_pos k
  rw [sub1_n (by omega)]
  -- m - 1 is what it has in common with m, and the rest
  have hc : nI m &&& nI (m - 1) = nI (m - 2 ^ k) := by rw [and_nI (by omega) (by omega), b1]
  have hz : nI (2 ^ k - 1) &&& nI m = 0 := by
    rw [and_nI (by omega) (by omega), Nat.and_comm, Nat.and_two_pow_sub_one_eq_mod, h0]; rfl
  have ho : nI (m - 1) = nI (2 ^ k - 1) ||| nI (m - 2 ^ k) := by
    apply ext_nat
    rw [Int32.toBitVec_or, BitVec.toNat_or, nI_bv (by omega), nI_bv (by omega), nI_bv (by omega)]
    have hd := Nat.div_add_mod (m - 2 ^ k) (2 ^ k)
    have hm2 : (m - 2 ^ k) % 2 ^ k = 0 := by rw [← Nat.mod_eq_sub_mod b2]; exact h0
    rw [hm2, Nat.add_zero] at hd
    have h := Nat.two_pow_add_eq_or_of_lt (i := k) (b := 2 ^ k - 1) (by omega) ((m - 2 ^ k) / 2 ^ k)
    rw [hd] at h
    rw [Nat.or_comm, ← h]; omega
  rw [ho] at hc ⊢
  apply Int32.toBitVec_inj.mp
  apply BitVec.eq_of_getLsbD_eq
  intro i hi
  have z2 : (nI (2 ^ k - 1) &&& nI m).toBitVec.getLsbD i = false := by rw [hz]; exact BitVec.getLsbD_zero
  have c2 := congrArg (fun z : Int32 => z.toBitVec.getLsbD i) hc
  simp only [Int32.toBitVec_and, Int32.toBitVec_or, Int32.toBitVec_xor, BitVec.getLsbD_and, BitVec.getLsbD_or, BitVec.getLsbD_xor] at z2 c2 ⊢
  have e : (-1 : Int32).toBitVec.getLsbD i = true := by
    have : ∀ j, j < 32 → (-1 : Int32).toBitVec.getLsbD j = true := by decide
    exact this i hi
  rw [e]
  cases h1 : (nI m).toBitVec.getLsbD i <;> cases h2 : (nI (2 ^ k - 1)).toBitVec.getLsbD i <;> cases h3 : (nI (m - 2 ^ k)).toBitVec.getLsbD i <;> simp_all
