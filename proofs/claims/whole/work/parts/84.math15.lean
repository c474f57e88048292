theorem aft0 (W : Int32) (P : ST) : aft W (P, 0) = (wN (sWa (sEn P 0) W) 0 (rN (sWa (sEn P 0) W) 0 + 1), 0) := by
  unfold aft
  have e1 : gEn (sEn P 0) = 0 := rfl
  have e2 : gEn (sWa (sEn P 0) W) = 0 := rfl
  rw [e1, if_pos rfl, e2, show (0 : Int32) &&& 3 = 0 by decide]
  rfl
theorem aft2 (W : Int32) (P : ST) {r : Int32} (h : r = 2 ∨ r = 3) : aft W (P, r) = (wN (sEn P r) r (rN (sEn P r) r + 1), r) := by
  unfold aft
  have e1 : gEn (sEn P r) = r := rfl
  have e3 : ¬ r = 0 := by rcases h with rfl | rfl <;> decide
  have e4 : r &&& 3 = r := by rcases h with rfl | rfl <;> decide
  rw [e1, if_neg e3, e1, e4]
  rfl
theorem aftE1 (P : ST) {r : Int32} (h : r = 1 ∨ r = 3) : aftE (P, r) = (wN (sEn P r) r (rN (sEn P r) r + 1), r) := by
  unfold aftE
  have e1 : gEn (sEn P r) = r := rfl
  have e4 : r &&& 3 = r := by rcases h with rfl | rfl <;> decide
  rw [e1, e4]
  rfl
theorem aftM1 (P : ST) (r : Int32) : aftM (P, r) = (wN (sEn P r) r (rN (sEn P r) r + 1), r) := rfl
theorem once_eq {u : ST} (hI : Inv u) : aft (wtd (rC u (gPc u))) (fX4_perform (rC u (gPc u)) u) = (sNx (aftM (onceM u)).1 (gNx u), (aftM (onceM u)).2) ∧ Inv (onceM u).1 ∧ ((onceM u).2 = 0 ∨ (onceM u).2 = 2 ∨ (onceM u).2 = 3) ∧ okX5_does (rC u (gPc u)) (sNx u (pN u)) := by
  obtain ⟨hu, hw, hp, ha⟩ := hI
  obtain ⟨n, hn, e⟩ := word_ex (hw (gPc u).toNatClampNeg)
  have e' : rC u (gPc u) = nI n := e
  have hok : okX5_does (nI n) (sNx u (pN u)) := ok_does (u := sNx u (pN u)) hu hw (vin_1023 _) hn
  have hq := kq_perform (u := u) (v := u) ⟨hu, rfl, rfl, hp⟩ (a1 := nI n)
  unfold onceM
  rw [e']
  rcases PS_all hn hu hw with ⟨h1, _, h3⟩ | ⟨h1, _, h3⟩
  · rw [h3] at hq ⊢
    rw [if_pos h1]
    generalize fX5_does (nI n) (sNx u (pN u)) = D at hq ⊢
    obtain ⟨d, r⟩ := D
    have hr : r = 0 ∨ r = 2 ∨ r = 3 := hq.2
    rcases hr with rfl | hr
    · have hk : Kp u (sPc (sNx d (gNx u)) (gNx d)) := hq.1
      refine ⟨?_, ?_, Or.inl rfl, hok⟩
      · show aft (wtd (nI n)) (sPc (sNx d (gNx u)) (gNx d), 0) = (sNx (aftM (sWa (sPc d (gNx d)) (wtd (nI n)), 0)).1 (gNx u), (aftM (sWa (sPc d (gNx d)) (wtd (nI n)), 0)).2)
        rw [aft0, aftM1]
        generalize wtd (nI n) = W
        generalize gNx u = c
        rfl
      · show Inv (sWa (sPc d (gNx d)) (wtd (nI n)))
        exact ⟨hk.1, fun i => by
          show Word (gC d i)
          have := hk.2.1
          rw [show gC d = gC u from this]; exact hw i, hk.2.2.2, by
          show AsOk (gAs d)
          rw [show gAs d = gAs u from hk.2.2.1]; exact ha⟩
    · have hne : ¬ r = 0 := by rcases hr with rfl | rfl <;> decide
      have e2 : Fin u (d, r) = (sNx d (gNx u), r) := by
        show ((if r = 0 then _ else sNx d (gNx u)), r) = _
        rw [if_neg hne]
      rw [e2] at hq ⊢
      have hk : Kp u (sNx d (gNx u)) := hq.1
      have e3 : (if (d, r).2 = 0 then sWa (sPc (d, r).1 (gNx (d, r).1)) (wtd (nI n)) else (d, r).1) = d := if_neg hne
      rw [e3]
      refine ⟨?_, ?_, Or.inr hr, hok⟩
      · show aft (wtd (nI n)) (sNx d (gNx u), r) = (sNx (aftM (d, r)).1 (gNx u), (aftM (d, r)).2)
        rw [aft2 _ _ hr, aftM1]
        generalize gNx u = c
        rfl
      · show Inv d
        exact ⟨hk.1, fun i => by
          show Word (gC d i)
          rw [show gC d = gC u from hk.2.1]; exact hw i, hk.2.2.2, by
          show AsOk (gAs d)
          rw [show gAs d = gAs u from hk.2.2.1]; exact ha⟩
  · rw [h3, if_neg (by rw [h1]; decide)]
    refine ⟨?_, ⟨hu, hw, hp, ha⟩, Or.inr (Or.inl rfl), hok⟩
    rw [aft2 _ _ (Or.inl rfl), aftM1]
    have e4 : sNx (wN (sEn u 2) 2 (rN (sEn u 2) 2 + 1)) (gNx u) = wN (sEn u 2) 2 (rN (sEn u 2) 2 + 1) := nx_eta rfl
    show _ = (sNx (wN (sEn u 2) 2 (rN (sEn u 2) 2 + 1)) (gNx u), (2 : Int32))
    rw [e4]
theorem Inv.aftM {v : ST} {r : Int32} (h : Inv v) : Inv (aftM (v, r)).1 := h
theorem has7 {u : ST} (hu : IB u) : fX5_has 128 u = fX0_flag 7 u := has_eq (s := 7) hu (by decide)
/-- ONE STEP: the class's is the reference's -/
theorem step_eq {u : ST} (hI : Inv u) : fX4_advance u = (sNx (fX5_step u).1 (gNx u), (fX5_step u).2) ∧ Inv (fX5_step u).1 ∧ okX5_step u ∧ ((fX5_step u).2 = 0 ∨ (fX5_step u).2 = 1 ∨ (fX5_step u).2 = 2 ∨ (fX5_step u).2 = 3) := by
  obtain ⟨o1, o2, o3, o4⟩ := once_eq hI
  have hc : fX4_cellAt (gPc u) u = rC u (gPc u) := by
    unfold fX4_cellAt
    rw [and1023 hI.2.2.1]
  have vr : ∀ r : Int32, (r = 0 ∨ r = 1 ∨ r = 2 ∨ r = 3) → vp_in r 7 := by
    intro r hr
    rcases hr with rfl | rfl | rfl | rfl <;> exact vp_in_iff.mpr (by decide)
  have okw : okX5_stepOnce u := by
    refine ⟨fun _ => hI.2.2.1, fun _ _ => o4, fun _ _ => hI.2.2.1, fun _ _ _ => o4, fun _ _ _ => hI.2.2.1, fun _ _ _ _ => o4, fun _ h0 _ => (enter_eq hI.1 hI.2.1 hI.2.2.1 hI.2.2.2 h0).2.1, trivial⟩
  have A : fX5_stepOnce u = onceM u → fX4_advance u = aft (wtd (rC u (gPc u))) (fX4_perform (rC u (gPc u)) u) → fX4_advance u = (sNx (fX5_step u).1 (gNx u), (fX5_step u).2) ∧ Inv (fX5_step u).1 ∧ okX5_step u ∧ ((fX5_step u).2 = 0 ∨ (fX5_step u).2 = 1 ∨ (fX5_step u).2 = 2 ∨ (fX5_step u).2 = 3) := by
    intro h1 h2
    rw [step_def, h1, h2]
    have h4 : (onceM u).2 = 0 ∨ (onceM u).2 = 1 ∨ (onceM u).2 = 2 ∨ (onceM u).2 = 3 := by
      rcases o3 with q | q | q
      · exact Or.inl q
      · exact Or.inr (Or.inr (Or.inl q))
      · exact Or.inr (Or.inr (Or.inr q))
    refine ⟨o1, ?_, ⟨okw, ?_, trivial⟩, h4⟩
    · exact Inv.aftM o2
    · rw [h1]; exact vr _ h4
  rw [adv_def, hc] at A ⊢
  by_cases c0 : gAs u = 0
  · rw [if_pos c0] at A ⊢
    refine A ?_ rfl
    rw [once_def, if_pos c0]
    by_cases c : fX5_has 128 u = 0
    · rw [if_pos c]
    · rw [if_neg c]
  rw [if_neg c0] at A ⊢
  by_cases c1 : gWa u = 0
  · rw [if_pos c1] at A ⊢
    by_cases c2 : fX0_flag 7 u = 1
    · rw [if_pos c2]
      have h3 : fX5_stepOnce u = fX5_enters u := by
        rw [once_def, if_neg (by rw [has7 hI.1, c2]; decide), if_neg c0, if_pos c1]
      obtain ⟨e1, e2, e3, e4⟩ := enter_eq hI.1 hI.2.1 hI.2.2.1 hI.2.2.2 c0
      rw [step_def, e1]
      have h4 : (fX5_stepOnce u).2 = 0 ∨ (fX5_stepOnce u).2 = 1 ∨ (fX5_stepOnce u).2 = 2 ∨ (fX5_stepOnce u).2 = 3 := by
        rw [h3]
        rcases e4 with q | q
        · exact Or.inr (Or.inl q)
        · exact Or.inr (Or.inr (Or.inr q))
      refine ⟨?_, ?_, ⟨okw, vr _ h4, trivial⟩, h4⟩
      · rw [h3]
        generalize fX5_enters u = D at e3 e4
        obtain ⟨d, r⟩ := D
        show aftE (sNx d (gNx u), r) = (sNx (aftM (d, r)).1 (gNx u), (aftM (d, r)).2)
        rw [aftE1 _ e4, aftM1]
        generalize gNx u = c
        rfl
      · rw [h3]
        exact Inv.aftM (v := (fX5_enters u).1) (r := (fX5_enters u).2) e3
    · rw [if_neg c2] at A ⊢
      refine A ?_ rfl
      obtain ⟨t, ht⟩ := flag_b (s := 7) (by decide) hI.1
      have ht' : fX0_flag 7 u = b01 t := ht
      have hz : fX5_has 128 u = 0 := by
        rw [has7 hI.1, ht']
        rw [ht'] at c2
        cases t
        · rfl
        · exact absurd rfl c2
      rw [once_def, if_pos hz]
  · rw [if_neg c1] at A ⊢
    refine A ?_ rfl
    rw [once_def, if_neg c0, if_neg c1]
    by_cases c : fX5_has 128 u = 0
    · rw [if_pos c]
    · rw [if_neg c]
