theorem setFlags_eq (m v : Int32) (u : ST) : fX0_setFlags m v u = wD u 95 ((rD u 95 &&& (m ^^^ (-1 : Int32))) ||| (v &&& m)) := rfl
/-- all of DATA are bytes -/
def IB (u : ST) : Prop := ∀ i, Byte (gD u i)
theorem IB.r {u : ST} (h : IB u) (i : Int32) : Byte (rD u i) := h _
theorem IB.w {u : ST} (h : IB u) (i : Int32) {x : Int32} (hx : Byte x) : IB (wD u i x) := fun q => by
  show Byte (upd (gD u) i.toNatClampNeg x q)
  unfold upd
  split
  · exact hx
  · exact h q
theorem byte_ex {x : Int32} (h : Byte x) : ∃ n, n < 256 ∧ x = nI n := ex_nI h.1 h.2 (by decide)
theorem bit7 {x : Int32} (h : Byte x) : x &&& (128 : Int32) = jshl (b01 (!decide (x ≤ 127))) 7 := all_byte (P := fun x => x &&& (128 : Int32) = jshl (b01 (!decide (x ≤ 127))) 7) (by decide +kernel) h
theorem dist_ax (a b x m : Int32) : ((a ^^^ x) &&& (b ^^^ x)) &&& m = ((a &&& m) ^^^ (x &&& m)) &&& ((b &&& m) ^^^ (x &&& m)) := by
  apply Int32.toBitVec_inj.mp
  apply BitVec.eq_of_getLsbD_eq
  intro i _
  simp only [Int32.toBitVec_and, Int32.toBitVec_xor, BitVec.getLsbD_and, BitVec.getLsbD_xor]
  cases a.toBitVec.getLsbD i <;> cases b.toBitVec.getLsbD i <;> cases x.toBitVec.getLsbD i <;> cases m.toBitVec.getLsbD i <;> rfl
theorem vX_add {a b x : Int32} (ha : Byte a) (hb : Byte b) (hx : Byte x) : (if (((a ^^^ x) &&& (b ^^^ x)) &&& (128 : Int32)) = 0 then (0 : Int32) else 1) = b01 ((decide (a ≤ 127) == decide (b ≤ 127)) && (decide (x ≤ 127) != decide (a ≤ 127))) := by
  rw [dist_ax, bit7 ha, bit7 hb, bit7 hx]
  cases decide (a ≤ 127) <;> cases decide (b ≤ 127) <;> cases decide (x ≤ 127) <;> decide
theorem vX_sub {a b x : Int32} (ha : Byte a) (hb : Byte b) (hx : Byte x) : (if (((a ^^^ b) &&& (a ^^^ x)) &&& (128 : Int32)) = 0 then (0 : Int32) else 1) = b01 ((decide (a ≤ 127) != decide (b ≤ 127)) && (decide (x ≤ 127) == decide (b ≤ 127))) := by
  have e : ((a ^^^ b) &&& (a ^^^ x)) = ((b ^^^ a) &&& (x ^^^ a)) := by rw [Int32.xor_comm a b, Int32.xor_comm a x]
  rw [e, dist_ax, bit7 ha, bit7 hb, bit7 hx]
  cases decide (a ≤ 127) <;> cases decide (b ≤ 127) <;> cases decide (x ≤ 127) <;> decide
theorem vM_add (a b x : Int32) : (if (if a ≤ 127 then (0 : Int32) else 1) = (if b ≤ 127 then 0 else 1) then (if (if x ≤ 127 then (0 : Int32) else 1) = (if a ≤ 127 then 0 else 1) then (0 : Int32) else 1) else 0) = b01 ((decide (a ≤ 127) == decide (b ≤ 127)) && (decide (x ≤ 127) != decide (a ≤ 127))) := by
  by_cases h1 : a ≤ 127 <;> by_cases h2 : b ≤ 127 <;> by_cases h3 : x ≤ 127 <;> simp [h1, h2, h3, b01]
theorem vM_sub (a b x : Int32) : (if (if a ≤ 127 then (0 : Int32) else 1) = (if b ≤ 127 then 0 else 1) then (0 : Int32) else (if (if x ≤ 127 then (0 : Int32) else 1) = (if b ≤ 127 then 0 else 1) then (1 : Int32) else 0)) = b01 ((decide (a ≤ 127) != decide (b ≤ 127)) && (decide (x ≤ 127) == decide (b ≤ 127))) := by
  by_cases h1 : a ≤ 127 <;> by_cases h2 : b ≤ 127 <;> by_cases h3 : x ≤ 127 <;> simp [h1, h2, h3, b01]
theorem add_eq {a b c : Int32} {u : ST} (hu : IB u) (ha : Byte a) (hb : Byte b) : fX5_add a b c u = fX2_sum a b c u := by
  unfold fX5_add fX2_sum
  have hx := byte_and ((a + b) + c)
  rw [flag_u 1, flag_w, signs_w, setFlags_eq, vX_add ha hb hx, vM_add, signs_X hx, sgM_B, b01_n (((a + b) + c) ≤ 255), b01_n ((((a &&& 15) + (b &&& 15)) + c) ≤ 15), m32_n ((((a &&& 15) + (b &&& 15)) + c) ≤ 15)]
  obtain ⟨n, hn, hF⟩ := byte_ex (hu.r 95)
  rw [hF, F63 n hn]
theorem subtract_eq {a b c : Int32} {u : ST} (hu : IB u) (ha : Byte a) (hb : Byte b) : fX5_subtract a b c 0 u = fX2_subtract a b c 30 u := by
  unfold fX5_subtract fX2_subtract
  rw [if_pos rfl]
  have hx := byte_and ((a - b) - c)
  rw [flag_u 1, flag_w, signs_w, setFlags_eq, vX_sub ha hb hx, vM_sub, signs_X hx, sgM_B, b01_n (0 ≤ ((a - b) - c)), b01_n (0 ≤ (((a &&& 15) - (b &&& 15)) - c)), m32_n (0 ≤ (((a &&& 15) - (b &&& 15)) - c)), show (((30 : Int32) ||| 1) ||| 32) = 63 by decide]
  obtain ⟨n, hn, hF⟩ := byte_ex (hu.r 95)
  rw [hF, F63 n hn]
theorem F63on : ∀ n, n < 256 → ∀ c h z g v : Bool, flg 2 (bif z then (if (if (nI n &&& (2 : Int32)) = 0 then (0 : Int32) else 1) = 0 then (0 : Int32) else 1) else 0) (sgB z g v (flg 32 (b01 h) (flg 1 (b01 c) (nI n)))) = ((nI n &&& ((((if ((jshr (nI n) 1) &&& (1 : Int32)) = 1 then (30 : Int32) else 28) ||| (1 : Int32)) ||| (32 : Int32)) ^^^ (-1 : Int32))) ||| (((sgX z g v ||| b01 c) ||| jshl (b01 h) 5) &&& (((if ((jshr (nI n) 1) &&& (1 : Int32)) = 1 then (30 : Int32) else 28) ||| (1 : Int32)) ||| (32 : Int32)))) := by decide +kernel
theorem ite_bif {α : Type} (p : Prop) [Decidable p] (a b : α) : (if p then a else b) = bif decide p then a else b := by by_cases h : p <;> simp [h]
theorem subtractOn_eq {a b c : Int32} {u : ST} (hu : IB u) (ha : Byte a) (hb : Byte b) : fX5_subtract a b c 1 u = fX2_differenceOn a b c u := by
  unfold fX5_subtract fX2_differenceOn fX2_subtract
  rw [if_neg (show ¬ (1 : Int32) = 0 by decide)]
  have hx := byte_and ((a - b) - c)
  rw [flag_u 1, flag_w, signs_w, flag_w, setFlags_eq, vX_sub ha hb hx, vM_sub, signs_X hx, sgM_B, b01_n (0 ≤ ((a - b) - c)), b01_n (0 ≤ (((a &&& 15) - (b &&& 15)) - c)), m32_n (0 ≤ (((a &&& 15) - (b &&& 15)) - c)), ite_bif ((((a - b) - c) &&& 255) = 0)]
  unfold fX5_has fX0_flag
  obtain ⟨n, hn, hF⟩ := byte_ex (hu.r 95)
  rw [hF, F63on n hn]
theorem logic_eq {x : Int32} {u : ST} (hu : IB u) (hx : Byte x) : fX5_logic x u = fX2_logic x u := by
  unfold fX5_logic fX2_logic
  rw [signs_u, setFlags_eq, show (0 : Int32) = b01 false from rfl, signs_X hx, sgM_B]
  obtain ⟨n, hn, hF⟩ := byte_ex (hu.r 95)
  rw [hF, F30 n hn]
theorem F31i : ∀ n, n < 256 → ∀ z g v : Bool, flg 1 1 (sgB z g v (nI n)) = ((nI n &&& ((31 : Int32) ^^^ (-1 : Int32))) ||| ((sgX z g v ||| (1 : Int32)) &&& (31 : Int32))) := by decide +kernel
theorem byte_255sub {a : Int32} (h : Byte a) : Byte ((255 : Int32) - a) := all_byte (P := fun a => 0 ≤ ((255 : Int32) - a).toInt ∧ ((255 : Int32) - a).toInt < 256) (by decide +kernel) h
theorem inverse_eq {a : Int32} {u : ST} (hu : IB u) (ha : Byte a) : fX5_flag 1 1 (fX5_logic ((255 : Int32) - a) u).1 = (fX2_inverse a u).1 := by
  have hx := byte_255sub ha
  unfold fX5_logic fX2_inverse
  rw [signs_u, flag_w, setFlags_eq, show (0 : Int32) = b01 false from rfl, signs_X hx, sgM_B]
  obtain ⟨n, hn, hF⟩ := byte_ex (hu.r 95)
  rw [hF, F31i n hn]
theorem more_eq {a : Int32} {u : ST} (hu : IB u) : fX5_signs ((a + 1) &&& 255) (if ((a + 1) &&& 255) = (128 : Int32) then (1 : Int32) else 0) u = (fX2_more a u).1 := by
  have hx := byte_and (a + 1)
  unfold fX2_more
  rw [signs_u, setFlags_eq, b01_p (((a + 1) &&& 255) = (128 : Int32)), signs_X hx, sgM_B]
  obtain ⟨n, hn, hF⟩ := byte_ex (hu.r 95)
  rw [hF, F30 n hn]
theorem less_eq {a : Int32} {u : ST} (hu : IB u) : fX5_signs ((a - 1) &&& 255) (if ((a - 1) &&& 255) = (127 : Int32) then (1 : Int32) else 0) u = (fX2_less a u).1 := by
  have hx := byte_and (a - 1)
  unfold fX2_less
  rw [signs_u, setFlags_eq, b01_p (((a - 1) &&& 255) = (127 : Int32)), signs_X hx, sgM_B]
  obtain ⟨n, hn, hF⟩ := byte_ex (hu.r 95)
  rw [hF, F30 n hn]
theorem right_x0 : ∀ n, n < 256 → ∀ t : Bool, (if ((jshr (nI n) 1) ||| (jshl (b01 t) 7)) ≤ 127 then (0 : Int32) else 1) = b01 t ∧ Byte ((jshr (nI n) 1) ||| (jshl (b01 t) 7)) ∧ (if ((nI n) &&& (1 : Int32)) = 1 then (1 : Int32) else 0) = (nI n) &&& (1 : Int32) := by
  have : ∀ n, n < 256 → ∀ t : Bool, (if ((jshr (nI n) 1) ||| (jshl (b01 t) 7)) ≤ 127 then (0 : Int32) else 1) = b01 t ∧ (0 ≤ ((jshr (nI n) 1) ||| (jshl (b01 t) 7)).toInt ∧ ((jshr (nI n) 1) ||| (jshl (b01 t) 7)).toInt < 256) ∧ (if ((nI n) &&& (1 : Int32)) = 1 then (1 : Int32) else 0) = (nI n) &&& (1 : Int32) := by decide +kernel
  exact this
theorem right_eq {a : Int32} {u : ST} (hu : IB u) (ha : Byte a) (t : Bool) : fX5_right a (jshl (b01 t) 7) u = fX2_right a (b01 t) u := by
  obtain ⟨k, hk, rfl⟩ := byte_ex ha
  obtain ⟨h1, h2, h3⟩ := right_x0 k hk t
  obtain ⟨g, hg⟩ : ∃ g : Bool, nI k &&& (1 : Int32) = b01 g := ⟨_, h3.symm.trans (b01_p _)⟩
  unfold fX5_right fX2_right
  rw [flag_u, signs_w, setFlags_eq, h1, hg, show (if b01 g = 1 then (1 : Int32) else 0) = b01 g by cases g <;> decide, b01_eq, signs_X h2, sgM_B]
  obtain ⟨n, hn, hF⟩ := byte_ex (hu.r 95)
  rw [hF, F31 n hn]
theorem carry_F : ∀ n, n < 256 → (if (if (nI n &&& (1 : Int32)) = 0 then (0 : Int32) else 1) = 0 then (0 : Int32) else 1) = (jshr (nI n) 0) &&& (1 : Int32) := by decide +kernel
theorem carry_eq {u : ST} (hu : IB u) : fX5_carry u = fX0_flag 0 u := by
  unfold fX5_carry fX5_has fX0_flag
  obtain ⟨n, hn, hF⟩ := byte_ex (hu.r 95)
  rw [hF, carry_F n hn]
theorem has_F : ∀ s, s < 8 → ∀ n, n < 256 → (if (nI n &&& (jshl (1 : Int32) (nI s))) = 0 then (0 : Int32) else 1) = (jshr (nI n) (nI s)) &&& (1 : Int32) := by decide +kernel
theorem flag_F : ∀ s, s < 8 → ∀ n, n < 256 → ∃ t : Bool, (jshr (nI n) (nI s)) &&& (1 : Int32) = b01 t := by decide +kernel
