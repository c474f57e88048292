/-! what a word leaves: bytes, CODE, vectors, PC in its place -/
def Kp (u v : ST) : Prop := IB v ∧ gC v = gC u ∧ gAs v = gAs u ∧ vp_in (gPc v) 1024
def Kq (u : ST) (r : ST × Int32) : Prop := Kp u r.1 ∧ (r.2 = 0 ∨ r.2 = 2 ∨ r.2 = 3)
section KPS
variable {u v : ST}
theorem Kp.w (hk : Kp u v) (i : Int32) {x : Int32} (hx : Byte x) : Kp u (wD v i x) := ⟨hk.1.w i hx, hk.2.1, hk.2.2.1, hk.2.2.2⟩
theorem kp_ite {c : Prop} [Decidable c] {a b : ST} (ha : Kp u a) (hb : Kp u b) : Kp u (if c then a else b) := by
  by_cases h : c
  · rw [if_pos h]; exact ha
  · rw [if_neg h]; exact hb
theorem Kq.ite {c : Prop} [Decidable c] {a b : ST × Int32} (ha : Kq u a) (hb : Kq u b) : Kq u (if c then a else b) := by
  by_cases h : c
  · rw [if_pos h]; exact ha
  · rw [if_neg h]; exact hb
theorem kp_wN (hk : Kp u v) {i x : Int32} : Kp u (wN v i x) := hk
theorem kp_sPc (hk : Kp u v) {x : Int32} : Kp u (sPc v (x &&& (1023 : Int32))) := ⟨hk.1, hk.2.1, hk.2.2.1, vin_1023 x⟩
theorem kp_set (hk : Kp u v) {i x : Int32} : Kp u (fX0_set i x v) := hk.w _ (byte_and _)
theorem kp_setPair (hk : Kp u v) {i x : Int32} : Kp u (fX0_setPair i x v) := (hk.w _ (byte_and _)).w _ (byte_and _)
theorem kp_setBit (hk : Kp u v) {i s b : Int32} : Kp u (fX0_setBit i s b v) := kp_set hk
theorem kp_setFlag (hk : Kp u v) {s b : Int32} : Kp u (fX0_setFlag s b v) := kp_setBit hk
theorem kp_setFlags (hk : Kp u v) {m x : Int32} (hm : Byte m) : Kp u (fX0_setFlags m x v) := hk.w _ (((hk.1.r 95).andl _).or (by rw [Int32.and_comm]; exact hm.andl _))
theorem kp_push (hk : Kp u v) {x : Int32} : Kp u (fX0_push x v) := kp_setPair (kp_set hk)
theorem kp_pull (hk : Kp u v) : Kp u (fX0_pull v).1 := kp_setPair hk
theorem kp_stacks (hk : Kp u v) {f : Int32} : Kp u (fX0_stacks f v).1 := by
  have h := stk_nx hk.1 f
  exact ⟨h.2.2.1, h.2.2.2.2.1.trans hk.2.1, h.2.2.2.2.2.1.trans hk.2.2.1, by rw [h.2.1]; exact hk.2.2.2⟩
theorem kp_transfer (hk : Kp u v) {w i : Int32} : Kp u (fX4_transfer w i v) := kp_ite (kp_set hk) (kp_set hk)
theorem bd (n : Nat) (h : n < 256) : Byte (nI n) := byte_nI h
theorem kp_sum (hk : Kp u v) {a b c : Int32} : Kp u (fX2_sum a b c v).1 := kp_setFlags hk (bd 63 (by decide))
theorem kp_sub (hk : Kp u v) {a b c d : Int32} (hd : Byte d) : Kp u (fX2_subtract a b c d v).1 := kp_setFlags hk ((hd.or (bd 1 (by decide))).or (bd 32 (by decide)))
theorem kp_diff (hk : Kp u v) {a b : Int32} : Kp u (fX2_difference a b v).1 := kp_sub hk (bd 30 (by decide))
theorem kp_diffOn (hk : Kp u v) {a b c : Int32} : Kp u (fX2_differenceOn a b c v).1 := by
  refine kp_sub hk ?_
  by_cases h : fX0_flag 1 v = 1
  · rw [if_pos h]; exact bd 30 (by decide)
  · rw [if_neg h]; exact bd 28 (by decide)
theorem kp_logic (hk : Kp u v) {a : Int32} : Kp u (fX2_logic a v).1 := kp_setFlags hk (bd 30 (by decide))
theorem kp_inverse (hk : Kp u v) {a : Int32} : Kp u (fX2_inverse a v).1 := kp_setFlags hk (bd 31 (by decide))
theorem kp_more (hk : Kp u v) {a : Int32} : Kp u (fX2_more a v).1 := kp_setFlags hk (bd 30 (by decide))
theorem kp_less (hk : Kp u v) {a : Int32} : Kp u (fX2_less a v).1 := kp_setFlags hk (bd 30 (by decide))
theorem kp_right (hk : Kp u v) {a b : Int32} : Kp u (fX2_right a b v).1 := kp_setFlags hk (bd 31 (by decide))
theorem kp_pf (hk : Kp u v) {a b c : Int32} : Kp u (fX2_pairFlags a b c v) := kp_setFlags hk (bd 31 (by decide))
theorem kp_pairMore (hk : Kp u v) {a b : Int32} : Kp u (fX2_pairMore a b v).1 := kp_pf hk
theorem kp_pairLess (hk : Kp u v) {a b : Int32} : Kp u (fX2_pairLess a b v).1 := kp_pf hk
theorem kp_keep (hk : Kp u v) {a b : Int32} : Kp u (fX2_keepProduct a b v) := kp_setFlags (kp_setPair hk) (bd 3 (by decide))
theorem kp_product (hk : Kp u v) {a : Int32} : Kp u (fX2_product a v) := kp_keep hk
theorem kp_fraction (hk : Kp u v) {a : Int32} : Kp u (fX2_fraction a v) := kp_keep hk
theorem kq_onward (hk : Kp u v) {k : Int32} : Kq u (fX4_onward k v) := ⟨kp_sPc hk, Or.inl rfl⟩
theorem kq_jumpTo (hk : Kp u v) {k : Int32} : Kq u (fX4_jumpTo k v) := ⟨kp_sPc hk, Or.inl rfl⟩
theorem kq_skip (hk : Kp u v) {x : Int32} : Kq u (fX4_skip x v) := Kq.ite (kq_onward hk) (Kq.ite (kq_onward (kp_wN hk)) (kq_onward (kp_wN hk)))
theorem kq_callTo (hk : Kp u v) {t b : Int32} : Kq u (fX4_callTo t b v) := Kq.ite ⟨kp_stacks hk, Or.inr (Or.inr rfl)⟩ ⟨kp_sPc (kp_wN (kp_stacks hk)), Or.inl rfl⟩
end KPS

theorem kp_few {u v : ST} (hk : Kp u v) {a1 a2 a3 : Int32} : Kp u (fX4_multiplyFew a1 a2 a3 v) :=
  (kp_ite (kp_product hk)
  (kp_ite (kp_fraction hk)
  (kp_ite (kp_fraction hk)
  (kp_fraction hk))))

theorem kq_movePair {u v : ST} (hk : Kp u v) {a1 : Int32} : Kq u (fX4_movePair a1 v) :=
  (kq_onward (kp_setPair hk))

theorem kq_multiply {u v : ST} (hk : Kp u v) {a1 : Int32} : Kq u (fX4_multiply a1 v) :=
  (kq_onward (kp_ite (kp_product hk) (kp_ite (kp_product hk) (kp_few hk))))

theorem kq_combine {u v : ST} (hk : Kp u v) {a1 : Int32} : Kq u (fX4_combine a1 v) :=
  (Kq.ite (kq_onward (kp_diffOn hk))
  (Kq.ite (kq_onward (kp_set (kp_diffOn hk)))
  (Kq.ite (kq_onward (kp_set (kp_sum hk)))
  (Kq.ite (kq_skip hk)
  (Kq.ite (kq_onward (kp_diff hk))
  (Kq.ite (kq_onward (kp_set (kp_diff hk)))
  (Kq.ite (kq_onward (kp_set (kp_sum hk)))
  (Kq.ite (kq_onward (kp_set (kp_logic hk)))
  (Kq.ite (kq_onward (kp_set (kp_logic hk)))
  (Kq.ite (kq_onward (kp_set (kp_logic hk)))
  (kq_onward (kp_set hk))))))))))))

theorem kq_combineWithNumber {u v : ST} (hk : Kp u v) {a1 : Int32} : Kq u (fX4_combineWithNumber a1 v) :=
  (Kq.ite (kq_onward (kp_diff hk))
  (Kq.ite (kq_onward (kp_set (kp_diffOn hk)))
  (Kq.ite (kq_onward (kp_set (kp_diff hk)))
  (Kq.ite (kq_onward (kp_set (kp_logic hk)))
  (Kq.ite (kq_onward (kp_set (kp_logic hk)))
  (kq_onward (kp_set hk)))))))

theorem kq_change {u v : ST} (hk : Kp u v) {a1 : Int32} : Kq u (fX4_change a1 v) :=
  (Kq.ite (kq_onward (kp_set (kp_inverse hk)))
  (Kq.ite (kq_onward (kp_set (kp_diff hk)))
  (Kq.ite (kq_onward (kp_set hk))
  (Kq.ite (kq_onward (kp_set (kp_more hk)))
  (Kq.ite (kq_onward (kp_set (kp_less hk)))
  (Kq.ite (kq_onward (kp_set (kp_right hk)))
  (Kq.ite (kq_onward (kp_set (kp_right hk)))
  (Kq.ite (kq_onward (kp_set (kp_right hk)))
  (kq_onward (kp_set (kp_less hk)))))))))))

theorem kq_setFlag {u v : ST} (hk : Kp u v) {a1 : Int32} : Kq u (fX4_setFlag a1 v) :=
  (kq_onward (kp_setFlag hk))

theorem kq_changePair {u v : ST} (hk : Kp u v) {a1 : Int32} : Kq u (fX4_changePair a1 v) :=
  (Kq.ite (kq_onward (kp_setPair (kp_pairMore hk)))
  (kq_onward (kp_setPair (kp_pairLess hk))))

theorem kq_moveAtNext {u v : ST} (hk : Kp u v) {a1 : Int32} : Kq u (fX4_moveAtNext a1 v) :=
  (Kq.ite (kq_onward (kp_transfer hk))
  ⟨hk, Or.inr (Or.inr rfl)⟩)

theorem kq_movePointed {u v : ST} (hk : Kp u v) {a1 : Int32} : Kq u (fX4_movePointed a1 v) :=
  (Kq.ite (kq_onward (kp_ite (kp_transfer (kp_ite hk (kp_setPair hk))) (kp_setPair (kp_transfer (kp_ite hk (kp_setPair hk))))))
  ⟨hk, Or.inr (Or.inr rfl)⟩)

theorem kq_moveStacked {u v : ST} (hk : Kp u v) {a1 : Int32} : Kq u (fX4_moveStacked a1 v) :=
  (Kq.ite (kq_onward (kp_ite (kp_push hk) (kp_set (kp_pull hk))))
  ⟨hk, Or.inr (Or.inr rfl)⟩)

theorem kq_moveBeside {u v : ST} (hk : Kp u v) {a1 : Int32} : Kq u (fX4_moveBeside a1 v) :=
  (Kq.ite (kq_onward (kp_transfer hk))
  ⟨hk, Or.inr (Or.inr rfl)⟩)

theorem kq_moveFromCode {u v : ST} (hk : Kp u v) {a1 : Int32} : Kq u (fX4_moveFromCode a1 v) :=
  (kq_onward (kp_ite (kp_setPair (kp_set hk)) (kp_set hk)))

theorem kq_movePort {u v : ST} (hk : Kp u v) {a1 : Int32} : Kq u (fX4_movePort a1 v) :=
  (kq_onward (kp_ite (kp_set hk) (kp_set hk)))

theorem kq_setPortBit {u v : ST} (hk : Kp u v) {a1 : Int32} : Kq u (fX4_setPortBit a1 v) :=
  (kq_onward (kp_setBit hk))

theorem kq_skipByPort {u v : ST} (hk : Kp u v) {a1 : Int32} : Kq u (fX4_skipByPort a1 v) :=
  (kq_skip hk)

theorem kq_skipByBit {u v : ST} (hk : Kp u v) {a1 : Int32} : Kq u (fX4_skipByBit a1 v) :=
  (kq_skip hk)

theorem kq_moveBit {u v : ST} (hk : Kp u v) {a1 : Int32} : Kq u (fX4_moveBit a1 v) :=
  (kq_onward (kp_ite (kp_setBit hk) (kp_setFlag hk)))

theorem kq_jumpNear {u v : ST} (hk : Kp u v) {a1 : Int32} : Kq u (fX4_jumpNear a1 v) :=
  (Kq.ite (kq_jumpTo hk)
  (kq_callTo hk))

theorem kq_branch {u v : ST} (hk : Kp u v) {a1 : Int32} : Kq u (fX4_branch a1 v) :=
  (kq_onward hk)

theorem kq_jumpFar {u v : ST} (hk : Kp u v) {a1 : Int32} : Kq u (fX4_jumpFar a1 v) :=
  (Kq.ite (kq_jumpTo hk)
  (kq_callTo hk))

theorem kq_jumpToZ {u v : ST} (hk : Kp u v) {a1 : Int32} : Kq u (fX4_jumpToZ a1 v) :=
  (Kq.ite (kq_jumpTo hk)
  (kq_callTo hk))

theorem kq_comeBack {u v : ST} (hk : Kp u v) {a1 : Int32} : Kq u (fX4_comeBack a1 v) :=
  (Kq.ite ⟨hk, Or.inr (Or.inr rfl)⟩
  (Kq.ite (kq_jumpTo (kp_ite (kp_setFlag (kp_pull (kp_pull hk))) (kp_pull (kp_pull hk))))
  ⟨hk, Or.inr (Or.inr rfl)⟩))

theorem kq_perform {u v : ST} (hk : Kp u v) {a1 : Int32} : Kq u (fX4_perform a1 v) :=
  (Kq.ite (kq_onward hk)
  (Kq.ite (kq_movePair hk)
  (Kq.ite (kq_multiply hk)
  (Kq.ite (kq_combine hk)
  (Kq.ite (kq_combineWithNumber hk)
  (Kq.ite (kq_change hk)
  (Kq.ite (kq_setFlag hk)
  (Kq.ite (kq_changePair hk)
  (Kq.ite (kq_moveAtNext hk)
  (Kq.ite (kq_movePointed hk)
  (Kq.ite (kq_moveStacked hk)
  (Kq.ite (kq_moveBeside hk)
  (Kq.ite (kq_moveFromCode hk)
  (Kq.ite (kq_movePort hk)
  (Kq.ite (kq_setPortBit hk)
  (Kq.ite (kq_skipByPort hk)
  (Kq.ite (kq_skipByBit hk)
  (Kq.ite (kq_moveBit hk)
  (Kq.ite (kq_jumpNear hk)
  (Kq.ite (kq_branch hk)
  (Kq.ite (kq_jumpFar hk)
  (Kq.ite (kq_jumpToZ hk)
  (Kq.ite (kq_comeBack hk)
  ⟨hk, Or.inr (Or.inl rfl)⟩)))))))))))))))))))))))
