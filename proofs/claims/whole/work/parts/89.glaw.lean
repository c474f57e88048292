/-! the law's world: the class's and the reference's, side by side -/
section GLW
variable {p : Program} {l : Launch} {e : Env} {R : Room} {s : State} {m : MethodId} {args : Array Value} {below : List Frame} {meth : Method} {c : Code} {H : Heap} {locs : List Loc} {cells slots : Nat} {Q : State → Prop}
variable {E E' : EV} {u u' : ST} {A : Nat → Prop} {cc : ByteArray} {nL : Nat} {own : String} {Ts : List Cond} {pc : Nat} {ls : Array Slot} {rest : List Value}
theorem gl_run {a : Array Value} {st0 : List Value} {ov : Option Value} {u2 : ST} (hr : va_Run p l e R s m args below meth c H locs cells slots 0 0 (F0 m pc ls st0) rest (Qx E u2 ov a) E.2.2.1) (hS : va_S A s.heap H locs) (hA : ∀ q, E.2.2.1 q → A q) (hP' : va_P E'.1 vwCl (E'.2.2.2 u') H) (hdis : ∀ (k : Nat) (q : Nat × va_E), (E'.2.2.2 u')[k]? = some q → ¬ E.2.2.1 q.1)
    (kk : ∀ (H1 : Heap) (locs1 : List Loc), va_P E.1 vwCl (E.2.2.2 u2) H1 → va_P E'.1 vwCl (E'.2.2.2 u') H1 → va_S A s.heap H1 locs1 → W p l e R s m args below meth c H1 locs1 cells slots Q (F0 m (pc + 3) ls (ov.toList ++ rest))) : W p l e R s m args below meth c H locs cells slots Q (F0 m pc ls st0) := by
  intro T hT X
  obtain ⟨v, st₀, t, T', L, h0, X', hL, e1, e2, ⟨hv, hp, hF⟩, st⟩ := hr T hT X
  cases hv
  have z1 : H.size ≤ T'.heap.size := by rw [e1, ← h0]; exact hF.1
  have fr : ∀ q : Nat, q < H.size → ¬ E.2.2.1 q → T'.heap[q]? = H[q]? := fun q h1 h2 => by
    rw [e1, hF.2 q (by rw [h0]; exact h1) h2, h0]
  obtain ⟨t2, a1, b1⟩ := kk T'.heap (locs ++ L) (by rw [e1]; exact hp) (fun k q hq => (hP' k q hq).kept (fr q.1 ((hP' k q hq).lt) (hdis k q hq))) ⟨Nat.le_trans hS.1 z1, fun q h1 h2 => by
      rw [fr q (Nat.lt_of_lt_of_le h1 hS.1) (fun z => h2 (hA q z))]; exact hS.2.1 q h1 h2, fun q hq => by
      rcases List.mem_append.mp hq with h | h
      · exact hS.2.2 q h
      · exact hA _ (hL q h)⟩ T' rfl X'
  exact ⟨t2, st t2 a1, b1⟩
theorem gl_call (S : CallFix p m c cc nL s args Ts own) (hK : va_K E.1 vwCl E.2.1 s) (hP : va_P E.1 vwCl (E.2.2.2 u) H) (hP' : va_P E'.1 vwCl (E'.2.2.2 u') H) (hS : va_S A s.heap H locs) (hA : ∀ q, E.2.2.1 q → A q) (hdis : ∀ (k : Nat) (q : Nat × va_E), (E'.2.2.2 u')[k]? = some q → ¬ E.2.2.1 q.1) {y : MethodName} {bytes : ByteArray} {maxL n idx b : Nat} {ret' : Option FieldType} {ws ws' : List Cond} {rm' : Room} {As st : List Value} {T' : ST × Option Value} {C : String} (hM : MX E y ws rm' (.ref b :: As) u T') (hT : GoodIn Ts (wsV own idx C y ws)) (hw : ws = Cond.code y bytes maxL ret' :: ws') (hrc : rm'.cells = 0) (hrs : rm'.slots = 0)
    (hd : y.cls = C ∧ y.cls ≠ "java/lang/invoke/MethodHandle" ∧ y.cls ≠ "java/lang/invoke/VarHandle" ∧ (parseMethodDescriptor y.desc).map (fun d => d.parameters.length) = some n) (hRm : rm'.frames + 1 ≤ R.frames ∧ 8 + (maxL + 11) + rm'.locals ≤ R.locals) (q0 ci : Nat) {q : vw_C} {fs : List Value} (hq : vwCl[ci]? = some q) (hqC : q.1 = C) (he : (E.2.2.2 u)[q0]? = some (b, .inr (ci, fs))) (hn : As.length = n) (hst : st = As.reverse ++ .ref b :: rest) (hcat : (rest.map fun v => v.category).sum ≤ 8) (hsize : ls.size = nL) (hf : cells + 0 ≤ R.cells ∧ slots + 0 ≤ R.slots) (hdg : decode cc pc = .ok (.invokevirtual idx, 3))
    (kk : ∀ (H1 : Heap) (locs1 : List Loc), va_P E.1 vwCl (E.2.2.2 T'.1) H1 → va_P E'.1 vwCl (E'.2.2.2 u') H1 → va_S A s.heap H1 locs1 → W p l e R s m args below meth c H1 locs1 cells slots Q (F0 m (pc + 3) ls (T'.2.toList ++ rest))) : W p l e R s m args below meth c H locs cells slots Q (F0 m pc ls st) := by
  obtain ⟨hx, hb, hml, hown, hts⟩ := S
  exact gl_run (va_runV (As := As) (rest := rest) ⟨hx, hb, hml, hown, hts⟩ (hM l) (cwV n hts hT hw hrc hrs hd hRm) ⟨Px.blind, by rw [← hqC]; exact va_recv hK hP hq he, fun U hU hW => ⟨rfl, by rw [hU]; exact hP, va_K.moved hW.alike hK⟩⟩ rfl hn hsize hst (lv_room hcat) hdg hf) hS hA hP' hdis kk
end GLW
theorem okE_of {E : EV} {ws0 : va_W} {A : Nat → Prop} (hD : va_D A ws0) (hf : ∀ u, (E.2.2.2 u).map Prod.fst = ws0.map Prod.fst) (hin : ∀ q ∈ ws0.map Prod.fst, E.2.2.1 q) : okE E := by
  intro u
  have at' : ∀ (k : Nat) (x : Nat × va_E), (E.2.2.2 u)[k]? = some x → ∃ z, ws0[k]? = some z ∧ z.1 = x.1 := by
    intro k x hx
    have h1 : ((E.2.2.2 u).map Prod.fst)[k]? = some x.1 := by rw [List.getElem?_map, hx]; rfl
    rw [hf u, List.getElem?_map] at h1
    cases hz : ws0[k]? with
    | none => rw [hz] at h1; cases h1
    | some z => rw [hz] at h1; exact ⟨z, rfl, Option.some.inj h1⟩
  refine ⟨fun i j x y hx hy hxy => ?_, fun k x hx => ?_⟩
  · obtain ⟨z, hz, e1⟩ := at' i x hx
    obtain ⟨w, hw, e2⟩ := at' j y hy
    exact hD.1 i j z w hz hw (by rw [e1, e2, hxy])
  · obtain ⟨z, hz, e1⟩ := at' k x hx
    rw [← e1]
    exact hin _ (List.mem_map.mpr ⟨z, List.mem_of_getElem? hz, rfl⟩)
/-- the loop's bound -/
theorem lim_n {L i : Nat} (hL : L ≤ 2048) (hi : i ≤ L) : (Int32.ofNat L - 4 < nI i) ↔ ¬ i + 4 ≤ L := by
  have e : (Int32.ofNat L - 4 : Int32).toInt = (L : Int) - 4 := by
    show (nI L - 4).toInt = _
    by_cases h : 4 ≤ L
    · have h2 : nI L - 4 = nI (L - 4) := by
        apply ext_nat
        rw [show (4 : Int32) = nI 4 from rfl, sub_n _ _ (by decide), nI_bv (by omega), nI_bv (by omega)]
        omega
      rw [h2, nI_toInt (by omega)]; omega
    · rcases (show L = 0 ∨ L = 1 ∨ L = 2 ∨ L = 3 by omega) with rfl | rfl | rfl | rfl <;> decide
  rw [Int32.lt_iff_toInt_lt, e, nI_toInt (by omega)]
  omega
/-! the class's calls, told by the reference's -/
section LCX
variable {h : HX} {v : ST}
theorem lc_code (hE : okE (EX h)) (hI : Inv v) (c : Int32) (a : Int32) (b : Int32) : MX (EX h) yX4_code wsX4_code rmX4_code [.ref (xO h), .int a, .int b] (sNx v c) (sNx (fX5_code a b v).1 c, some (.int (fX5_code a b v).2)) := by
  have q := cX4_code_ h hE a b (sNx v c)
  rw [(rel_code hI c a b).1] at q
  exact q
theorem lc_load (hE : okE (EX h)) (hI : Inv v) (c : Int32) (a : Int32) (b : Int64) : MX (EX h) yX4_load wsX4_load rmX4_load [.ref (xO h), .int a, .long b] (sNx v c) (sNx (fX5_load a b v).1 c, some (.int (fX5_load a b v).2)) := by
  have q := cX4_load_ h hE a b (sNx v c)
  rw [(rel_load hI c a b).1] at q
  exact q
theorem lc_word (hE : okE (EX h)) (hI : Inv v) (c : Int32) (a : Int32) : MX (EX h) yX4_word wsX4_word rmX4_word [.ref (xO h), .int a] (sNx v c) (sNx v c, some (.int (fX5_word a v))) := by
  have q := cX4_word_ h hE a (sNx v c)
  rw [(rel_word c a).1] at q
  exact q
theorem lc_put (hE : okE (EX h)) (hI : Inv v) (c : Int32) (a : Int32) (b : Int32) : MX (EX h) yX4_put wsX4_put rmX4_put [.ref (xO h), .int a, .int b] (sNx v c) (sNx (fX5_put a b v).1 c, some (.int (fX5_put a b v).2)) := by
  have q := cX4_put_ h hE a b (sNx v c)
  rw [(rel_put hI c a b).1] at q
  exact q
theorem lc_data (hE : okE (EX h)) (hI : Inv v) (c : Int32) (a : Int32) : MX (EX h) yX4_data wsX4_data rmX4_data [.ref (xO h), .int a] (sNx v c) (sNx v c, some (.int (fX5_data a v))) := by
  have q := cX4_data_ h hE a (sNx v c)
  rw [(rel_data c a).1] at q
  exact q
theorem lc_told (hE : okE (EX h)) (hI : Inv v) (c : Int32) (a : Int32) : MX (EX h) yX4_told wsX4_told rmX4_told [.ref (xO h), .int a] (sNx v c) (sNx v c, some (.int (fX5_told a v))) := by
  have q := cX4_told_ h hE a (sNx v c)
  rw [(rel_told c a).1] at q
  exact q
theorem lc_go (hE : okE (EX h)) (hI : Inv v) (c : Int32) (a : Int32) : MX (EX h) yX4_go wsX4_go rmX4_go [.ref (xO h), .int a] (sNx v c) (sNx (fX5_go a v).1 c, some (.int (fX5_go a v).2)) := by
  have q := cX4_go_ h hE a (sNx v c)
  rw [(rel_go hI c a).1] at q
  exact q
theorem lc_ask (hE : okE (EX h)) (hI : Inv v) (c : Int32) (a : Int32) : MX (EX h) yX4_ask wsX4_ask rmX4_ask [.ref (xO h), .int a] (sNx v c) (sNx (fX5_ask a v).1 c, some (.int (fX5_ask a v).2)) := by
  have q := cX4_ask_ h hE a (sNx v c)
  rw [(rel_ask hI c a).1] at q
  exact q
theorem lc_step (hE : okE (EX h)) (hI : Inv v) (c : Int32) : MX (EX h) yX4_step wsX4_step rmX4_step [.ref (xO h)] (sNx v c) (sNx (fX5_step  v).1 c, some (.int (fX5_step  v).2)) := by
  have q := cX4_step_ h hE  (sNx v c)
  rw [(show fX4_step (sNx v c) = _ from step_rel hI c)] at q
  exact q
theorem lc_run (hE : okE (EX h)) (hI : Inv v) (c : Int32) (a : Int32) : MX (EX h) yX4_run wsX4_run rmX4_run [.ref (xO h), .int a] (sNx v c) (sNx (fX5_run a v).1 c, some (.int (fX5_run a v).2)) := by
  have q := cX4_run_ h hE a (sNx v c)
  rw [(rel_run hI c a).1] at q
  exact q
theorem lc_ended (hE : okE (EX h)) (hI : Inv v) (c : Int32) : MX (EX h) yX4_ended wsX4_ended rmX4_ended [.ref (xO h)] (sNx v c) (sNx v c, some (.int (fX5_ended  v))) := by
  have q := cX4_ended_ h hE  (sNx v c)
  rw [(show fX4_ended (sNx v c) = fX5_ended v from rfl)] at q
  exact q
theorem lc_reads (hE : okE (EX h)) (hI : Inv v) (c : Int32) (a : Int32) (b : Int32) : MX (EX h) yX4_reads wsX4_reads rmX4_reads [.ref (xO h), .int a, .int b] (sNx v c) (sNx v c, some (.int (fX5_reads a b v))) := by
  have q := cX4_reads_ h hE a b (sNx v c)
  rw [rel_reads hI c a b] at q
  exact q
theorem lc_digest (hE : okE (EX h)) (hI : Inv v) (c : Int32) : MX (EX h) yX4_digest wsX4_digest rmX4_digest [.ref (xO h)] (sNx v c) (sNx v c, some (.int (fX5_digest  v))) := by
  have q := cX4_digest_ h hE  (sNx v c)
  rw [rel_digest v c] at q
  exact q
theorem lc_count (hE : okE (EX h)) (hI : Inv v) (c : Int32) (a : Int32) : MX (EX h) yX4_count wsX4_count rmX4_count [.ref (xO h), .int a] (sNx v c) (sNx v c, some (.int (fX5_count a v))) := by
  have q := cX4_count_ h hE a (sNx v c) (rel_count v c a).2.2
  rw [(rel_count v c a).1] at q
  exact q
end LCX
