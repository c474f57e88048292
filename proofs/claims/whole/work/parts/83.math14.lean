theorem ntz_eq {m k : Nat} (hm : m < 67108864) (hk : k < 26) (hk1 : 1 ≤ k) (h1 : m / 2 ^ k % 2 = 1) (h0 : m % 2 ^ k = 0) : fJ6_numberOfTrailingZeros_0f7a4 (nI m) = nI k := by
  unfold fJ6_numberOfTrailingZeros_0f7a4
  rw [ntz_in hm hk h1 h0]
  clear h1 h0 hm
  have key : ∀ k, k < 26 → 1 ≤ k → 0 < nI (2 ^ k - 1) := by decide +kernel
  rw [if_pos (key k hk hk1)]
  clear key
  revert hk hk1
  revert k
  decide +kernel
theorem wD_as (i x a : Int32) (u : ST) : wD (sAs u a) i x = sAs (wD u i x) a := rfl
theorem pair_as (i a : Int32) (u : ST) : fX5_pair i (sAs u a) = fX5_pair i u := rfl
theorem set_as (i x a : Int32) (u : ST) : fX0_set i x (sAs u a) = sAs (fX0_set i x u) a := by
  unfold fX0_set; rw [wD_as]
theorem setPair_as (i x a : Int32) (u : ST) : fX0_setPair i x (sAs u a) = sAs (fX0_setPair i x u) a := by
  unfold fX0_setPair; rw [wD_as, wD_as]
theorem stk_as (f a : Int32) (u : ST) : fX0_stacks f (sAs u a) = (sAs (fX0_stacks f u).1 a, (fX0_stacks f u).2) := by
  unfold fX0_stacks
  rw [p93, p93, pair_as]
  by_cases c1 : fX5_pair 93 u < 1
  · rw [if_pos c1, if_pos c1]
  · rw [if_neg c1, if_neg c1]
    by_cases c2 : fX5_pair 93 u ≤ 1023
    · rw [if_pos c2, if_pos c2, set_as, set_as, setPair_as]
    · rw [if_neg c2, if_neg c2]
theorem can_as (u : ST) (a : Int32) : fX5_canCall (sAs u a) = fX5_canCall u := by
  unfold fX5_canCall
  rw [pair_as]
theorem gAs_sPc (u : ST) (x : Int32) : gAs (sPc u x) = gAs u := rfl
theorem enter_eq {u : ST} (hu : IB u) (hw : IW u) (hp : vp_in (gPc u) 1024) (ha : AsOk (gAs u)) (h0 : ¬ gAs u = 0) :
    fX4_enterLeast u = (sNx (fX5_enters u).1 (gNx u), (fX5_enters u).2) ∧ okX5_enters u ∧ (IB (fX5_enters u).1 ∧ IW (fX5_enters u).1 ∧ vp_in (gPc (fX5_enters u).1) 1024 ∧ AsOk (gAs (fX5_enters u).1)) ∧ ((fX5_enters u).2 = 1 ∨ (fX5_enters u).2 = 3) := by
  obtain ⟨m, hm, h2, e⟩ := ha
  have hm0 : ¬ m = 0 := fun q => h0 (by rw [e, q]; rfl)
  obtain ⟨l1, l2, l3, l4, l5⟩ := low_n1 hm h2 hm0
  have hA := (clear_n hm l3 l4 l5)
  have hN := ntz_eq hm l3 l2 l4 l5
  have ok : okX5_enters u := ⟨ok_can u, fun _ => by rw [e]; exact l1, fun h => ok_calls (u := sAs u _) hu ((2 : Int32) * (nI (lowv (gAs u)))) (by rw [can_as]; exact h), trivial⟩
  unfold fX4_enterLeast fX5_enters
  rcases can_cases hu with ⟨c0, c1⟩ | ⟨c0, _, _, _, c1⟩
  · rw [c0, c1 (gPc u), if_pos rfl, if_pos rfl]
    refine ⟨?_, ok, ⟨hu, hw, hp, ⟨m, hm, h2, e⟩⟩, Or.inr rfl⟩
    show (u, (3 : Int32)) = (sNx u (gNx u), 3)
    rw [nx_eta rfl]
  · have hk := stk_nx hu (gPc u)
    have cq := calls_eq (u := sAs u (gAs u &&& ((jshl (1 : Int32) (nI (lowv (gAs u)))) ^^^ (-1 : Int32)))) hu (by rw [can_as]; exact c0) hp ((2 : Int32) * nI (lowv (gAs u))) (gNx u)
    rw [show sNx (sAs u (gAs u &&& ((jshl (1 : Int32) (nI (lowv (gAs u)))) ^^^ (-1 : Int32)))) (gNx u) = sAs u (gAs u &&& ((jshl (1 : Int32) (nI (lowv (gAs u)))) ^^^ (-1 : Int32))) from nx_eta rfl, stk_as] at cq
    rw [c0, if_neg (show ¬ (1 : Int32) = 0 by decide), if_neg (by rw [c1]; exact (show ¬ (1 : Int32) = 0 by decide)), show gPc (sAs u (gAs u &&& ((jshl (1 : Int32) (nI (lowv (gAs u)))) ^^^ (-1 : Int32)))) = gPc u from rfl, cq]
    generalize (fX0_stacks (gPc u) u).1 = S at hk
    obtain ⟨k1, k2, k3, k4, k5, k6, k7, k8⟩ := hk
    rw [gAs_sPc, k6, e, hN, hA.1, hA.2]
    generalize (2 : Int32) * nI (lowv (nI m)) = t
    have kz : IB (sAs (sPc S (t &&& 1023)) (nI (m - 2 ^ lowv (nI m)))) := k3
    have hz := setFlag_eq (s := 7) kz (by decide) false
    have hn : gNx (sAs (sPc S (t &&& 1023)) (nI (m - 2 ^ lowv (nI m)))) = gNx u := k1
    have e1 : sPc (sNx (sAs S (nI (m - 2 ^ lowv (nI m)))) (t &&& 1023)) (gNx (sNx (sAs S (nI (m - 2 ^ lowv (nI m)))) (t &&& 1023))) = sNx (sAs (sPc S (t &&& 1023)) (nI (m - 2 ^ lowv (nI m)))) (t &&& 1023) := rfl
    have hw2 : IW (sAs (sPc S (t &&& 1023)) (nI (m - 2 ^ lowv (nI m)))) := fun i => by
      show Word (gC S i)
      rw [k5]; exact hw i
    have hpk : 2 ^ lowv (nI m) < 2 ^ 26 := Nat.pow_lt_pow_right (by decide) l3
    have has : AsOk (nI (m - 2 ^ lowv (nI m))) := ⟨m - 2 ^ lowv (nI m), by omega, by
      have : 2 ^ lowv (nI m) % 2 = 0 := by
        obtain ⟨q, hq⟩ : ∃ q, lowv (nI m) = q + 1 := ⟨lowv (nI m) - 1, by omega⟩
        rw [hq, Nat.pow_succ, Nat.mul_mod_left]
      omega, rfl⟩
    rw [e1, flag_nx]
    have hpc : gPc (sAs (sPc S (t &&& 1023)) (nI (m - 2 ^ lowv (nI m)))) = t &&& 1023 := rfl
    have hga : gAs (sAs (sPc S (t &&& 1023)) (nI (m - 2 ^ lowv (nI m)))) = nI (m - 2 ^ lowv (nI m)) := rfl
    generalize sAs (sPc S (t &&& 1023)) (nI (m - 2 ^ lowv (nI m))) = Z at *
    have hz2 : fX5_flag 128 0 Z = fX0_setFlag 7 0 Z := hz
    refine ⟨?_, ok, ?_, Or.inl rfl⟩
    · show (fX0_setFlag 7 0 Z, (1 : Int32)) = (sNx (sNx (fX5_flag 128 0 Z) (t &&& 1023)) (gNx u), 1)
      rw [nx_nx, hz2, nx_eta (show gNx (fX0_setFlag 7 0 Z) = gNx u from hn)]
    · rw [hz2]
      have hkp : Kp Z (fX0_setFlag 7 0 Z) := kp_setFlag ⟨kz, rfl, rfl, by rw [hpc]; exact vin_1023 t⟩
      refine ⟨hkp.1, fun i => ?_, hkp.2.2.2, ?_⟩
      · show Word (gC (fX0_setFlag 7 0 Z) i)
        rw [hkp.2.1]; exact hw2 i
      · show AsOk (gAs (fX0_setFlag 7 0 Z))
        rw [hkp.2.2.1, hga]; exact has
/-! one step -/
def Inv (u : ST) : Prop := IB u ∧ IW u ∧ vp_in (gPc u) 1024 ∧ AsOk (gAs u)
theorem Inv.nx {u : ST} (h : Inv u) (c : Int32) : Inv (sNx u c) := h
/-- what the class does with the state and the end of a step -/
def aft (W : Int32) (P : ST × Int32) : ST × Int32 :=
  ((wN (if (gEn (sEn P.1 P.2)) = 0 then (sWa (sEn P.1 P.2) W) else (sEn P.1 P.2)) ((gEn (if (gEn (sEn P.1 P.2)) = 0 then (sWa (sEn P.1 P.2) W) else (sEn P.1 P.2))) &&& (3 : Int32)) ((rN (if (gEn (sEn P.1 P.2)) = 0 then (sWa (sEn P.1 P.2) W) else (sEn P.1 P.2)) ((gEn (if (gEn (sEn P.1 P.2)) = 0 then (sWa (sEn P.1 P.2) W) else (sEn P.1 P.2))) &&& (3 : Int32))) + (1 : Int32))), (gEn (wN (if (gEn (sEn P.1 P.2)) = 0 then (sWa (sEn P.1 P.2) W) else (sEn P.1 P.2)) ((gEn (if (gEn (sEn P.1 P.2)) = 0 then (sWa (sEn P.1 P.2) W) else (sEn P.1 P.2))) &&& (3 : Int32)) ((rN (if (gEn (sEn P.1 P.2)) = 0 then (sWa (sEn P.1 P.2) W) else (sEn P.1 P.2)) ((gEn (if (gEn (sEn P.1 P.2)) = 0 then (sWa (sEn P.1 P.2) W) else (sEn P.1 P.2))) &&& (3 : Int32))) + (1 : Int32)))))
/-- and with the end of an entry -/
def aftE (P : ST × Int32) : ST × Int32 := ((wN (sEn P.1 P.2) ((gEn (sEn P.1 P.2)) &&& (3 : Int32)) ((rN (sEn P.1 P.2) ((gEn (sEn P.1 P.2)) &&& (3 : Int32))) + (1 : Int32))), (gEn (wN (sEn P.1 P.2) ((gEn (sEn P.1 P.2)) &&& (3 : Int32)) ((rN (sEn P.1 P.2) ((gEn (sEn P.1 P.2)) &&& (3 : Int32))) + (1 : Int32)))))
/-- what the reference does with one -/
def aftM (P : ST × Int32) : ST × Int32 := ((wN (sEn P.1 P.2) (gEn (sEn P.1 P.2)) ((rN (sEn P.1 P.2) (gEn (sEn P.1 P.2))) + (1 : Int32))), (gEn (wN (sEn P.1 P.2) (gEn (sEn P.1 P.2)) ((rN (sEn P.1 P.2) (gEn (sEn P.1 P.2))) + (1 : Int32)))))
def wtd (w : Int32) : Int32 := (if w = (38008 : Int32) then (1 : Int32) else (if w = (38168 : Int32) then (1 : Int32) else (0 : Int32)))
theorem adv_def (u : ST) : fX4_advance u = (if gAs u = 0 then aft (wtd (fX4_cellAt (gPc u) u)) (fX4_perform (fX4_cellAt (gPc u) u) u) else if gWa u = 0 then (if fX0_flag 7 u = 1 then aftE (fX4_enterLeast u) else aft (wtd (fX4_cellAt (gPc u) u)) (fX4_perform (fX4_cellAt (gPc u) u) u)) else aft (wtd (fX4_cellAt (gPc u) u)) (fX4_perform (fX4_cellAt (gPc u) u) u)) := by
  unfold fX4_advance aft aftE wtd
  rfl
/-- a word of the reference, in a step -/
def onceM (u : ST) : ST × Int32 := if fX5_isIllegal (rC u (gPc u)) = 0 then ((if (fX5_does (rC u (gPc u)) (sNx u (pN u))).2 = 0 then (sWa (sPc ((fX5_does (rC u (gPc u)) (sNx u (pN u))).1) (gNx ((fX5_does (rC u (gPc u)) (sNx u (pN u))).1))) (wtd (rC u (gPc u)))) else ((fX5_does (rC u (gPc u)) (sNx u (pN u))).1)), (fX5_does (rC u (gPc u)) (sNx u (pN u))).2) else (u, (2 : Int32))
theorem once_def (u : ST) : fX5_stepOnce u = (if fX5_has 128 u = 0 then onceM u else if gAs u = 0 then onceM u else if gWa u = 0 then fX5_enters u else onceM u) := by
  unfold fX5_stepOnce onceM wtd pN
  rfl
theorem step_def (u : ST) : fX5_step u = aftM (fX5_stepOnce u) := by
  unfold fX5_step aftM
  rfl
