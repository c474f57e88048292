/-! the calls of both, from states that differ in 'next' alone -/
theorem once_nx (v : ST) (c : Int32) : ∃ d, onceM (sNx v c) = (sNx (onceM v).1 d, (onceM v).2) := by
  unfold onceM
  rw [show rC (sNx v c) (gPc (sNx v c)) = rC v (gPc v) from rfl, show pN (sNx v c) = pN v from rfl, nx_nx]
  by_cases h : fX5_isIllegal (rC v (gPc v)) = 0
  · rw [if_pos h, if_pos h]
    generalize (if (fX5_does (rC v (gPc v)) (sNx v (pN v))).2 = 0 then (sWa (sPc ((fX5_does (rC v (gPc v)) (sNx v (pN v))).1) (gNx ((fX5_does (rC v (gPc v)) (sNx v (pN v))).1))) (wtd (rC v (gPc v)))) else ((fX5_does (rC v (gPc v)) (sNx v (pN v))).1)) = z
    exact ⟨gNx z, by rw [nx_eta rfl]⟩
  · rw [if_neg h, if_neg h]
    exact ⟨c, rfl⟩
theorem enters_nx {v : ST} (hv : IB v) (hp : vp_in (gPc v) 1024) (c : Int32) : ∃ d, fX5_enters (sNx v c) = (sNx (fX5_enters v).1 d, (fX5_enters v).2) := by
  unfold fX5_enters
  rw [can_nx]
  rcases can_cases hv with ⟨h0, _⟩ | ⟨h0, _⟩
  · rw [h0, if_pos rfl, if_pos rfl]
    exact ⟨c, rfl⟩
  · rw [h0, if_neg (show ¬ (1 : Int32) = 0 by decide), if_neg (show ¬ (1 : Int32) = 0 by decide), show gAs (sNx v c) = gAs v from rfl]
    generalize (gAs v &&& ((jshl (1 : Int32) (nI (lowv (gAs v)))) ^^^ (-1 : Int32))) = A
    rw [show gPc (sAs (sNx v c) A) = gPc v from rfl, show gPc (sAs v A) = gPc v from rfl, show sAs (sNx v c) A = sNx (sAs v A) c from rfl]
    have h1 := calls_eq (u := sAs v A) hv (by rw [can_as]; exact h0) hp ((2 : Int32) * nI (lowv (gAs v))) c
    have h2 := calls_eq (u := sAs v A) hv (by rw [can_as]; exact h0) hp ((2 : Int32) * nI (lowv (gAs v))) (gNx v)
    rw [show sNx (sAs v A) (gNx v) = sAs v A from nx_eta rfl] at h2
    rw [h1, h2]
    generalize fX5_flag 128 0 _ = z
    exact ⟨gNx z, by rw [nx_eta rfl]⟩
theorem has_nx (f : Int32) (v : ST) (c : Int32) : fX5_has f (sNx v c) = fX5_has f v := rfl
theorem step_nx {v : ST} (hI : Inv v) (c : Int32) : ∃ d, fX5_step (sNx v c) = (sNx (fX5_step v).1 d, (fX5_step v).2) := by
  have key : ∃ d, fX5_stepOnce (sNx v c) = (sNx (fX5_stepOnce v).1 d, (fX5_stepOnce v).2) := by
    rw [once_def, once_def, has_nx, show gAs (sNx v c) = gAs v from rfl, show gWa (sNx v c) = gWa v from rfl]
    by_cases h1 : fX5_has 128 v = 0
    · rw [if_pos h1, if_pos h1]; exact once_nx v c
    rw [if_neg h1, if_neg h1]
    by_cases h2 : gAs v = 0
    · rw [if_pos h2, if_pos h2]; exact once_nx v c
    rw [if_neg h2, if_neg h2]
    by_cases h3 : gWa v = 0
    · rw [if_pos h3, if_pos h3]; exact enters_nx hI.1 hI.2.2.1 c
    rw [if_neg h3, if_neg h3]; exact once_nx v c
  obtain ⟨d, hd⟩ := key
  rw [step_def, step_def, hd]
  generalize fX5_stepOnce v = P
  exact ⟨d, rfl⟩
theorem step_rel {v : ST} (hI : Inv v) (c : Int32) : fX4_advance (sNx v c) = (sNx (fX5_step v).1 c, (fX5_step v).2) := by
  obtain ⟨h1, -⟩ := step_eq (u := sNx v c) hI
  obtain ⟨d, hd⟩ := step_nx hI c
  rw [h1, hd]
  show (sNx (sNx (fX5_step v).1 d) c, (fX5_step v).2) = _
  rw [nx_nx]
theorem run_rel : ∀ (n i : Nat) (v : ST) (c : Int32), Inv v → runX n i (sNx v c) = (sNx (runM n i v).1 c, (runM n i v).2) ∧ Inv (runM n i v).1 ∧ okRun n v := by
  intro n
  induction n with
  | zero => intro i v c hI; exact ⟨rfl, hI, trivial⟩
  | succ n ih =>
    intro i v c hI
    obtain ⟨-, hJ, hok, hr⟩ := step_eq hI
    have hs := step_rel hI c
    unfold runX runM
    rw [hs]
    have ihn := ih (i + 1) (fX5_step v).1 c hJ
    rcases hr with q | q | q | q
    · rw [if_pos q, if_neg (by rw [q]; decide)]
      exact ⟨ihn.1, ihn.2.1, hok, fun _ => ihn.2.2⟩
    · rw [if_neg (by rw [q]; decide), if_pos q, if_neg (by rw [q]; decide)]
      exact ⟨ihn.1, ihn.2.1, hok, fun _ => ihn.2.2⟩
    · rw [if_neg (by rw [q]; decide), if_neg (by rw [q]; decide), if_pos (by rw [q]; decide)]
      exact ⟨rfl, hJ, hok, fun h => absurd (by rw [q]; decide) h⟩
    · rw [if_neg (by rw [q]; decide), if_neg (by rw [q]; decide), if_pos (by rw [q]; decide)]
      exact ⟨rfl, hJ, hok, fun h => absurd (by rw [q]; decide) h⟩
theorem in_spec {a lo hi : Int32} (h : ¬ fX5_in a lo hi = 0) : ¬ a < lo ∧ ¬ hi < a := by
  unfold fX5_in at h
  constructor
  · intro q; rw [if_pos q] at h; exact h rfl
  · intro q
    by_cases q2 : a < lo
    · rw [if_pos q2] at h; exact h rfl
    · rw [if_neg q2, if_pos q] at h; exact h rfl
theorem in_rng {a lo hi : Int32} (h : ¬ fX5_in a lo hi = 0) : lo.toInt ≤ a.toInt ∧ a.toInt ≤ hi.toInt := by
  obtain ⟨h1, h2⟩ := in_spec h
  rw [Int32.lt_iff_toInt_lt] at h1 h2
  omega
theorem in_vin {a : Int32} (h : ¬ fX5_in a 0 1023 = 0) : vp_in a 1024 := by
  have h1 := in_rng h
  have e0 : (0 : Int32).toInt = 0 := by decide
  have e1 : (1023 : Int32).toInt = 1023 := by decide
  exact vin_of (by omega) (by omega)
theorem with_in (a b : Int32) : fX4_within a b = fX5_in a 0 b := rfl
theorem IW.w {u : ST} (h : IW u) (i : Int32) {x : Int32} (hx : Word x) : IW (wC u i x) := fun q => by
  show Word (upd (gC u) i.toNatClampNeg x q)
  unfold upd
  split
  · exact hx
  · exact h q
theorem Inv.wC {v : ST} (h : Inv v) (i : Int32) {x : Int32} (hx : Word x) : Inv (wC v i x) := ⟨h.1, h.2.1.w i hx, h.2.2.1, h.2.2.2⟩
theorem Inv.wD {v : ST} (h : Inv v) (i : Int32) {x : Int32} (hx : Byte x) : Inv (wD v i x) := ⟨h.1.w i hx, h.2.1, h.2.2.1, h.2.2.2⟩
theorem rel_code {v : ST} (hI : Inv v) (c a b : Int32) : fX4_code a b (sNx v c) = (sNx (fX5_code a b v).1 c, (fX5_code a b v).2) ∧ Inv (fX5_code a b v).1 ∧ okX5_code a b v := by
  unfold fX4_code fX5_code fX4_cellAt
  rw [with_in, with_in]
  by_cases h1 : fX5_in a 0 1023 = 0
  · rw [if_pos h1, if_pos h1]
    exact ⟨rfl, hI, fun h _ => absurd h1 h, trivial⟩
  rw [if_neg h1, if_neg h1]
  by_cases h2 : fX5_in b 0 65535 = 0
  · rw [if_pos h2, if_pos h2]
    exact ⟨rfl, hI, fun _ h => absurd h2 h, trivial⟩
  rw [if_neg h2, if_neg h2, and1023 (in_vin h1)]
  have hb := in_rng h2
  have e0 : (0 : Int32).toInt = 0 := by decide
  have e1 : (65535 : Int32).toInt = 65535 := by decide
  exact ⟨rfl, hI.wC a ⟨by omega, by omega⟩, fun _ _ => in_vin h1, trivial⟩
theorem wC_nx (i x p : Int32) (u : ST) : wC (sNx u p) i x = sNx (wC u i x) p := rfl
theorem rel_load {v : ST} (hI : Inv v) (c a : Int32) (b : Int64) : fX4_load a b (sNx v c) = (sNx (fX5_load a b v).1 c, (fX5_load a b v).2) ∧ Inv (fX5_load a b v).1 := by
  unfold fX4_load fX5_load
  rw [with_in]
  by_cases h1 : fX5_in a 0 1023 = 0
  · rw [if_pos h1, if_pos h1]; exact ⟨rfl, hI⟩
  rw [if_neg h1, if_neg h1, wC_nx, wC_nx, wC_nx, wC_nx]
  exact ⟨rfl, (((hI.wC _ (word_and _)).wC _ (word_and _)).wC _ (word_and _)).wC _ (word_and _)⟩
theorem rel_word {v : ST} (c a : Int32) : fX4_word a (sNx v c) = fX5_word a v ∧ okX5_word a v := by
  refine ⟨?_, fun h => in_vin h, trivial⟩
  unfold fX4_word fX5_word fX4_cellAt
  rw [with_in]
  by_cases h1 : fX5_in a 0 1023 = 0
  · rw [if_pos h1, if_pos h1]
  · rw [if_neg h1, if_neg h1, and1023 (in_vin h1), rC_nx]
theorem rel_put {v : ST} (hI : Inv v) (c a b : Int32) : fX4_put a b (sNx v c) = (sNx (fX5_put a b v).1 c, (fX5_put a b v).2) ∧ Inv (fX5_put a b v).1 ∧ okX5_put a b v := by
  unfold fX4_put fX5_put fX0_set fX0_get
  rw [with_in, with_in]
  by_cases h1 : fX5_in a 0 1023 = 0
  · rw [if_pos h1, if_pos h1]
    exact ⟨rfl, hI, fun h _ => absurd h1 h, trivial⟩
  rw [if_neg h1, if_neg h1]
  by_cases h2 : fX5_in b 0 255 = 0
  · rw [if_pos h2, if_pos h2]
    exact ⟨rfl, hI, fun _ h => absurd h2 h, trivial⟩
  have hb := in_rng h2
  have e0 : (0 : Int32).toInt = 0 := by decide
  have e1 : (255 : Int32).toInt = 255 := by decide
  have hB : Byte b := ⟨by omega, by omega⟩
  rw [if_neg h2, if_neg h2, and1023 (in_vin h1), hB.and255, wD_nx, rD_nx]
  exact ⟨rfl, hI.wD a hB, fun _ _ => in_vin h1, trivial⟩
theorem rel_data {v : ST} (c a : Int32) : fX4_data a (sNx v c) = fX5_data a v ∧ okX5_data a v := by
  refine ⟨?_, fun h => in_vin h, trivial⟩
  unfold fX4_data fX5_data fX0_get
  rw [with_in]
  by_cases h1 : fX5_in a 0 1023 = 0
  · rw [if_pos h1, if_pos h1]
  · rw [if_neg h1, if_neg h1, and1023 (in_vin h1), rD_nx]
theorem rel_told {v : ST} (c a : Int32) : fX4_told a (sNx v c) = fX5_told a v ∧ okX5_told a v := by
  refine ⟨?_, fun _ _ => ok_pair (k := 93) (by decide) v, fun _ _ _ _ => ok_pair (k := 26) (by decide) v, fun _ _ _ _ _ => ok_pair (k := 28) (by decide) v, fun _ _ _ _ _ _ => ok_pair (k := 30) (by decide) v, trivial⟩
  unfold fX4_told fX5_told fX0_get
  rw [p93, p26, p28, p30, pair_nx, pair_nx, pair_nx, pair_nx, rD_nx, show (95 : Int32) &&& 1023 = 95 by decide]
  rfl
theorem rel_go {v : ST} (hI : Inv v) (c a : Int32) : fX4_go a (sNx v c) = (sNx (fX5_go a v).1 c, (fX5_go a v).2) ∧ Inv (fX5_go a v).1 := by
  unfold fX4_go fX5_go
  rw [with_in]
  by_cases h1 : fX5_in a 0 1023 = 0
  · rw [if_pos h1, if_pos h1]; exact ⟨rfl, hI⟩
  · rw [if_neg h1, if_neg h1]; exact ⟨rfl, hI.1, hI.2.1, in_vin h1, hI.2.2.2⟩
theorem or_n {a b : Nat} (ha : a < 2 ^ 31) (hb : b < 2 ^ 31) : nI a ||| nI b = nI (a ||| b) := by
  apply ext_nat
  rw [Int32.toBitVec_or, BitVec.toNat_or, nI_bv ha, nI_bv hb, nI_bv (Nat.or_lt_two_pow ha hb)]
theorem rel_ask {v : ST} (hI : Inv v) (c a : Int32) : fX4_ask a (sNx v c) = (sNx (fX5_ask a v).1 c, (fX5_ask a v).2) ∧ Inv (fX5_ask a v).1 := by
  obtain ⟨m, hm, h2, e⟩ := hI.2.2.2
  have e1 : (1 : Int32).toInt = 1 := by decide
  have e25 : (25 : Int32).toInt = 25 := by decide
  unfold fX4_ask fX5_ask
  by_cases h1 : fX5_in a 1 25 = 0
  · rw [if_pos h1]
    unfold fX5_in at h1
    by_cases q : a < 1
    · rw [if_pos q]; exact ⟨rfl, hI⟩
    · rw [if_neg q] at h1 ⊢
      by_cases q2 : 25 < a
      · rw [if_neg (show ¬ a ≤ 25 by rw [Int32.le_iff_toInt_le]; rw [Int32.lt_iff_toInt_lt] at q2; omega)]; exact ⟨rfl, hI⟩
      · rw [if_neg q2] at h1; exact absurd h1 (by decide)
  · have hr := in_rng h1
    obtain ⟨j, hj, rfl⟩ := ex_nI (x := a) (N := 26) (by omega) (by omega) (by decide)
    have hj1 : 1 ≤ j := by rw [nI_toInt (by omega)] at hr; omega
    have hpk : 2 ^ j < 2 ^ 26 := Nat.pow_lt_pow_right (by decide) hj
    rw [if_neg h1, if_neg (in_spec h1).1, if_pos (show nI j ≤ 25 by rw [Int32.le_iff_toInt_le]; omega), shl1 j hj, show gAs (sNx v c) = gAs v from rfl, e, and_nI (by omega) (by omega), and_pow, bit_n (by omega) (by omega), or_n (by omega) (by omega)]
    rcases (show m / 2 ^ j % 2 = 0 ∨ m / 2 ^ j % 2 = 1 by omega) with q | q
    · rw [q, Nat.zero_mul, if_pos (show nI 0 = 0 from rfl), if_neg (show ¬ nI 0 = 1 by decide)]
      refine ⟨rfl, hI.1, hI.2.1, hI.2.2.1, m ||| 2 ^ j, Nat.or_lt_two_pow (n := 26) hm hpk, ?_, rfl⟩
      have h3 := Nat.or_mod_two_pow (a := m) (b := 2 ^ j) (n := 1)
      have h4 : 2 ^ j % 2 ^ 1 = 0 := by
        obtain ⟨q', hq⟩ : ∃ q', j = q' + 1 := ⟨j - 1, by omega⟩
        rw [hq, Nat.pow_succ, Nat.pow_one, Nat.mul_mod_left]
      rw [h4, show m % 2 ^ 1 = 0 by omega] at h3
      simpa using h3
    · rw [q, Nat.one_mul, if_neg (show ¬ nI (2 ^ j) = 0 by rw [eL0 (by omega)]; have := Nat.two_pow_pos j; omega), if_pos (show nI 1 = 1 from rfl)]
      have h5 : m ||| 2 ^ j = m := by
        apply Nat.eq_of_testBit_eq
        intro i
        rw [Nat.testBit_or, Nat.testBit_two_pow]
        by_cases hij : j = i
        · subst hij
          rw [Nat.testBit_eq_decide_div_mod_eq, q]; rfl
        · simp [hij]
      rw [h5, ← e]
      exact ⟨rfl, hI⟩
theorem rel_reads {v : ST} (hI : Inv v) (c a b : Int32) : fX4_reads a b (sNx v c) = fX5_reads a b v := by
  unfold fX4_reads fX5_reads
  rw [with_in]
  by_cases h1 : fX5_in a 0 65535 = 0
  · rw [if_pos h1, if_pos h1]
  rw [if_neg h1, if_neg h1]
  have hb := in_rng h1
  have e0 : (0 : Int32).toInt = 0 := by decide
  have e1 : (1 : Int32).toInt = 1 := by decide
  have e2 : (65535 : Int32).toInt = 65535 := by decide
  have hw : Word a := ⟨by omega, by omega⟩
  rw [hasNext_eq hw]
  by_cases h2 : b = 0
  · subst h2
    rw [if_pos rfl, if_neg (show ¬ fX5_in 0 0 1 = 0 by decide), if_pos rfl]
    obtain ⟨n, hn, rfl⟩ := word_ex hw
    rcases PS_all hn hI.1 hI.2.1 with ⟨q1, q2, -⟩ | ⟨q1, q2, -⟩
    · rw [if_neg q2, if_pos q1]
    · rw [if_pos q2, if_neg (by rw [q1]; decide)]
  rw [if_neg h2]
  by_cases h3 : b = 1
  · subst h3
    rw [if_pos rfl, if_neg (show ¬ fX5_in 1 0 1 = 0 by decide), if_neg (show ¬ (1 : Int32) = 0 by decide)]
  rw [if_neg h3]
  by_cases h4 : fX5_in b 0 1 = 0
  · rw [if_pos h4]
  · exfalso
    have hr := in_rng h4
    rcases (show b.toInt = 0 ∨ b.toInt = 1 by omega) with q | q
    · exact h2 (Int32.toInt_inj.mp (by rw [q, e0]))
    · exact h3 (Int32.toInt_inj.mp (by rw [q, e1]))
theorem dg_nx (v : ST) (c : Int32) : ∀ n, dg (sNx v c) n = dg v n := by
  intro n
  induction n with
  | zero => rfl
  | succ n ih =>
    show 31 * dg (sNx v c) n + gD (sNx v c) n = 31 * dg v n + gD v n
    rw [ih]; rfl
theorem rel_digest (v : ST) (c : Int32) : fX4_digest (sNx v c) = fX5_digest v := by
  unfold fX4_digest fX5_digest
  rw [dg_nx]; rfl
theorem rel_count (v : ST) (c a : Int32) : fX4_count a (sNx v c) = fX5_count a v ∧ okX5_count a v ∧ okX4_count a (sNx v c) := by
  have e0 : (0 : Int32).toInt = 0 := by decide
  have e6 : (6 : Int32).toInt = 6 := by decide
  have e7 : (7 : Int32).toInt = 7 := by decide
  refine ⟨?_, ⟨fun h => ?_, trivial⟩, ⟨fun h1 h2 => ?_, trivial⟩⟩
  · unfold fX4_count fX5_count fX5_in
    by_cases h1 : a < 0
    · rw [if_pos h1, if_pos h1, if_pos rfl]
    · rw [if_neg h1, if_neg h1]
      by_cases h2 : 7 ≤ a
      · have h3 : (6 : Int32) < a := by rw [Int32.lt_iff_toInt_lt]; rw [Int32.le_iff_toInt_le] at h2; omega
        rw [if_pos h2, if_pos h3, if_pos rfl]
      · have h3 : ¬ (6 : Int32) < a := by rw [Int32.lt_iff_toInt_lt]; rw [Int32.le_iff_toInt_le] at h2; omega
        rw [if_neg h2, if_neg h3, if_neg (show ¬ (1 : Int32) = 0 by decide)]
        rfl
  · have := in_rng h
    exact vin_of (by omega) (by omega)
  · rw [Int32.lt_iff_toInt_lt] at h1
    rw [Int32.le_iff_toInt_le] at h2
    exact vin_of (by omega) (by omega)
theorem rel_run {v : ST} (hI : Inv v) (c a : Int32) : fX4_run a (sNx v c) = (sNx (fX5_run a v).1 c, (fX5_run a v).2) ∧ Inv (fX5_run a v).1 ∧ okX5_run a v := by
  have hr := run_rel a.toNatClampNeg 0 v c hI
  unfold fX4_run fX5_run
  by_cases h1 : fX5_in a 1 3000 = 0
  · rw [if_pos h1]
    have hok : okX5_run a v := ⟨fun h => absurd h1 h, trivial⟩
    unfold fX5_in at h1
    by_cases q : a < 1
    · rw [if_pos q]; exact ⟨rfl, hI, hok⟩
    · rw [if_neg q] at h1 ⊢
      by_cases q2 : 3000 < a
      · rw [if_neg (show ¬ a ≤ 3000 by rw [Int32.le_iff_toInt_le]; rw [Int32.lt_iff_toInt_lt] at q2; omega)]; exact ⟨rfl, hI, hok⟩
      · rw [if_neg q2] at h1; exact absurd h1 (by decide)
  · have h2 := in_spec h1
    rw [if_neg h1, if_neg h2.1, if_pos (show a ≤ 3000 by rw [Int32.le_iff_toInt_le]; have := h2.2; rw [Int32.lt_iff_toInt_lt] at this; omega)]
    exact ⟨hr.1, hr.2.1, fun _ => hr.2.2, trivial⟩
def u00 : ST := ((fun _ => 0), (fun _ => 0), (fun _ => 0), 0, 0, 0, 0, 0)
theorem inv0 : Inv u00 := ⟨fun _ => byte0, fun _ => byte0.word, vp_in_iff.mpr (by decide), 0, by decide, by decide, rfl⟩
