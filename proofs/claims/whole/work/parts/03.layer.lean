abbrev vwCl : List vw_C := [(RX0, TX0, 1), (RX2, TX2, 1), (RX4, TX4, 8), (RX5, TX5, 8)]
/-! the layer: one state for the class and for the reference, one judgement for a walk, one form for a contract -/
abbrev ST : Type := (Nat → Int32) × (Nat → Int32) × (Nat → Int32) × Int32 × Int32 × Int32 × Int32 × Int32
def gC (u : ST) : Nat → Int32 := u.1
def gD (u : ST) : Nat → Int32 := u.2.1
def gN (u : ST) : Nat → Int32 := u.2.2.1
def gPc (u : ST) : Int32 := u.2.2.2.1
def gAs (u : ST) : Int32 := u.2.2.2.2.1
def gEn (u : ST) : Int32 := u.2.2.2.2.2.1
def gWa (u : ST) : Int32 := u.2.2.2.2.2.2.1
def gNx (u : ST) : Int32 := u.2.2.2.2.2.2.2
def sC (u : ST) (f : Nat → Int32) : ST := (f, gD u, gN u, gPc u, gAs u, gEn u, gWa u, gNx u)
def sD (u : ST) (f : Nat → Int32) : ST := (gC u, f, gN u, gPc u, gAs u, gEn u, gWa u, gNx u)
def sN (u : ST) (f : Nat → Int32) : ST := (gC u, gD u, f, gPc u, gAs u, gEn u, gWa u, gNx u)
def sPc (u : ST) (v : Int32) : ST := (gC u, gD u, gN u, v, gAs u, gEn u, gWa u, gNx u)
def sAs (u : ST) (v : Int32) : ST := (gC u, gD u, gN u, gPc u, v, gEn u, gWa u, gNx u)
def sEn (u : ST) (v : Int32) : ST := (gC u, gD u, gN u, gPc u, gAs u, v, gWa u, gNx u)
def sWa (u : ST) (v : Int32) : ST := (gC u, gD u, gN u, gPc u, gAs u, gEn u, v, gNx u)
def sNx (u : ST) (v : Int32) : ST := (gC u, gD u, gN u, gPc u, gAs u, gEn u, gWa u, v)
/-- places of the three rows -/
def rC (u : ST) (i : Int32) : Int32 := gC u i.toNatClampNeg
def rD (u : ST) (i : Int32) : Int32 := gD u i.toNatClampNeg
def rN (u : ST) (i : Int32) : Int32 := gN u i.toNatClampNeg
def wC (u : ST) (i x : Int32) : ST := sC u (upd (gC u) i.toNatClampNeg x)
def wD (u : ST) (i x : Int32) : ST := sD u (upd (gD u) i.toNatClampNeg x)
def wN (u : ST) (i x : Int32) : ST := sN u (upd (gN u) i.toNatClampNeg x)
/-- int shifts, as the machine does them -/
def jshl (x y : Int32) : Int32 := x <<< (y &&& 31)
def jshr (x y : Int32) : Int32 := x >>> (y &&& 31)
def jushr (x y : Int32) : Int32 := (x.toUInt32 >>> (y.toUInt32 &&& Int32.toUInt32 31)).toInt32
/-- an environment: class numbers, array classes, what may be written, the world of a state -/
abbrev EV : Type := va_G × List (ClassId × FieldType) × (Nat → Prop) × (ST → va_W)
def okE (E : EV) : Prop := ∀ u, va_D E.2.2.1 (E.2.2.2 u)
def Qx (E : EV) (u' : ST) (ov : Option Value) : Array Value → State → Outcome → State → Prop := fun _ st oc t => oc = .returned ov ∧ va_P E.1 vwCl (E.2.2.2 u') t.heap ∧ va_F E.2.2.1 st t
def Px (E : EV) (u : ST) (av : List Value) : Array Value → State → Prop := fun v U => v = av.toArray ∧ va_P E.1 vwCl (E.2.2.2 u) U.heap ∧ va_K E.1 vwCl E.2.1 U
/-- a contract: from the state u with the arguments av, the method answers r and leaves u' -/
def MX (E : EV) (y : MethodName) (ws : List Cond) (rm : Room) (av : List Value) (u : ST) (T : ST × Option Value) : Prop :=
  ∀ l : Launch, Met l y ws rm (Px E u av) (Qx E T.1 T.2) 0 0 E.2.2.1
abbrev KT : Type := Program × Launch × Env × Room × State × MethodId × Array Value × List Frame × Method × Code
def G (K : KT) (E : EV) (nL : Nat) (T : ST × Option Value) (u : ST) (pc : Nat) (lv : List (Nat × Value)) (st : List Value) : Prop :=
  match K with
  | (p, l, e, R, s, m, args, below, meth, c) => ∀ (H : Heap) (locs : List Loc) (ls : Array Slot), va_P E.1 vwCl (E.2.2.2 u) H → va_S E.2.2.1 s.heap H locs → lv_has ls nL lv →
      W p l e R s m args below meth c H locs 0 0 (MQ below (Qx E T.1 T.2) args s 0 0 E.2.2.1) (F0 m pc ls st)
def Cx (K : KT) (E : EV) (cc : ByteArray) (nL : Nat) (own : String) (Ts : List Cond) (rm : Room) (ret : Option FieldType) : Prop :=
  match K with
  | (p, _, _, R, s, m, args, _, meth, c) => CallFix p m c cc nL s args Ts own ∧ R = rm ∧ meth.sig.returnType = ret ∧ va_K E.1 vwCl E.2.1 s ∧ okE E ∧ meth.locks = false
/-- the three kinds of end: an answer alone, a new state and an answer, a new state -/
abbrev tR (u : ST) (x : Int32) : ST × Option Value := (u, some (.int x))
abbrev tW (q : ST × Int32) : ST × Option Value := (q.1, some (.int q.2))
abbrev tS (u : ST) : ST × Option Value := (u, none)
theorem MX.of {E : EV} {y : MethodName} {ws ws' : List Cond} {rm : Room} {av : List Value} {u : ST} {T : ST × Option Value} {cc : ByteArray} {maxL : Nat} {ret : Option FieldType} {lv : List (Nat × Value)} (hE : okE E) (hy : plainName y.cls = true) (hw : ws = Cond.code y cc maxL ret :: ws') (hrm : ∀ w, (headSpec w rm).room = rm) (hlen : (lg_sl av).length ≤ maxL) (hlv : lv_args 0 av = lv)
    (h : ∀ K : KT, Cx K E cc maxL y.cls ws rm ret → G K E maxL T u 0 lv []) : MX E y ws rm av u T := by
  intro l
  refine Met.ofW (cc := cc) (maxL := maxL) (ret := ret) hy hw ?_
  intro p e s m args below meth c s₁ B hml hv
  obtain ⟨rfl, hP, hK⟩ := hv
  have h1 := h (p, l, e, (headSpec ws rm).room, s, m, av.toArray, below, meth, c) ⟨⟨B.exec, B.bytes, hml, findClass_of_methodNamed B.named, atoms_spec (ws := ws) B.pre⟩, hrm _, B.returns, hK, hE, B.notSynchronized⟩
  rw [lg_entry_eq]
  exact h1 s.heap [] _ hP va_S.rf (hlv ▸ lv_entry av hlen)
section GR
variable {K : KT} {E : EV} {cc : ByteArray} {nL : Nat} {own : String} {Ts : List Cond} {rm : Room} {ret : Option FieldType} {T : ST × Option Value} {u : ST} {lv : List (Nat × Value)} {rest : List Value}
theorem g_iconst (pc : Nat) (hC : Cx K E cc nL own Ts rm ret) {n : Int} (v : Int32) (hdg : decode cc pc = .ok (.iconst n, 1)) (hv : Int32.ofInt n = v) (k : G K E nL T u (pc + 1) lv (.int v :: rest)) : G K E nL T u pc lv rest := by
  obtain ⟨p, l, e, R, s, m, args, below, meth, c⟩ := K
  obtain ⟨⟨hx, hb, hml, hown, hts⟩, hR, hr, hK, hE, hlk⟩ := hC
  exact fun H locs ls hP hS hl => lv_iconst hx hb hdg hv (k H locs ls hP hS hl)
theorem g_bipush (pc : Nat) (hC : Cx K E cc nL own Ts rm ret) {n : Int} (v : Int32) (hdg : decode cc pc = .ok (.bipush n, 2)) (hv : (Int8.ofInt n).toInt32 = v) (k : G K E nL T u (pc + 2) lv (.int v :: rest)) : G K E nL T u pc lv rest := by
  obtain ⟨p, l, e, R, s, m, args, below, meth, c⟩ := K
  obtain ⟨⟨hx, hb, hml, hown, hts⟩, hR, hr, hK, hE, hlk⟩ := hC
  exact fun H locs ls hP hS hl => lv_bipush hx hb hdg hv (k H locs ls hP hS hl)
theorem g_sipush (pc : Nat) (hC : Cx K E cc nL own Ts rm ret) {n : Int} (v : Int32) (hdg : decode cc pc = .ok (.sipush n, 3)) (hv : (Int16.ofInt n).toInt32 = v) (k : G K E nL T u (pc + 3) lv (.int v :: rest)) : G K E nL T u pc lv rest := by
  obtain ⟨p, l, e, R, s, m, args, below, meth, c⟩ := K
  obtain ⟨⟨hx, hb, hml, hown, hts⟩, hR, hr, hK, hE, hlk⟩ := hC
  exact fun H locs ls hP hS hl => lv_sipush hx hb hdg hv (k H locs ls hP hS hl)
theorem g_ldc (pc : Nat) (hC : Cx K E cc nL own Ts rm ret) {idx : Nat} (v : Int32) (hdg : decode cc pc = .ok (.ldc idx, 2)) (hm : Jvm.Cond.constant own idx v ∈ Ts) (k : G K E nL T u (pc + 2) lv (.int v :: rest)) : G K E nL T u pc lv rest := by
  obtain ⟨p, l, e, R, s, m, args, below, meth, c⟩ := K
  obtain ⟨⟨hx, hb, hml, hown, hts⟩, hR, hr, hK, hE, hlk⟩ := hC
  exact fun H locs ls hP hS hl => lv_ldc hx hb hown (hts _ hm) hdg (k H locs ls hP hS hl)
theorem g_iload_n (pc : Nat) (hC : Cx K E cc nL own Ts rm ret) {q : Fin 4} {x : Int32} (hdg : decode cc pc = .ok (.iload_n q, 1)) (j : Nat) (hk : lv[j]? = some ((q : Nat), .int x)) (k : G K E nL T u (pc + 1) lv (.int x :: rest)) : G K E nL T u pc lv rest := by
  obtain ⟨p, l, e, R, s, m, args, below, meth, c⟩ := K
  obtain ⟨⟨hx, hb, hml, hown, hts⟩, hR, hr, hK, hE, hlk⟩ := hC
  exact fun H locs ls hP hS hl => lv_iload_n hx hb hdg rfl (lv_at hl j hk) (k H locs ls hP hS hl)
theorem g_iload (pc : Nat) (hC : Cx K E cc nL own Ts rm ret) {q : Nat} {x : Int32} (hdg : decode cc pc = .ok (.iload q, 2)) (j : Nat) (hk : lv[j]? = some (q, .int x)) (k : G K E nL T u (pc + 2) lv (.int x :: rest)) : G K E nL T u pc lv rest := by
  obtain ⟨p, l, e, R, s, m, args, below, meth, c⟩ := K
  obtain ⟨⟨hx, hb, hml, hown, hts⟩, hR, hr, hK, hE, hlk⟩ := hC
  exact fun H locs ls hP hS hl => lv_iload hx hb hdg (lv_at hl j hk) (k H locs ls hP hS hl)
theorem g_aload_n (pc : Nat) (hC : Cx K E cc nL own Ts rm ret) {q : Fin 4} {x : Nat} (hdg : decode cc pc = .ok (.aload_n q, 1)) (j : Nat) (hk : lv[j]? = some ((q : Nat), .ref x)) (k : G K E nL T u (pc + 1) lv (.ref x :: rest)) : G K E nL T u pc lv rest := by
  obtain ⟨p, l, e, R, s, m, args, below, meth, c⟩ := K
  obtain ⟨⟨hx, hb, hml, hown, hts⟩, hR, hr, hK, hE, hlk⟩ := hC
  exact fun H locs ls hP hS hl => lv_aload_n hx hb hdg rfl (lv_at hl j hk) (k H locs ls hP hS hl)
theorem g_istore_n (pc : Nat) (hC : Cx K E cc nL own Ts rm ret) {q : Fin 4} {x : Int32} (hdg : decode cc pc = .ok (.istore_n q, 1)) (hn : (q : Nat) < nL) (lv' : List (Nat × Value)) (hl' : ((q : Nat), Value.int x) :: lv.filter (fun z => !(z.1 == (q : Nat)) && !(z.1 + 1 == (q : Nat) && z.2.category == 2)) = lv') (k : G K E nL T u (pc + 1) lv' rest) : G K E nL T u pc lv (.int x :: rest) := by
  obtain ⟨p, l, e, R, s, m, args, below, meth, c⟩ := K
  obtain ⟨⟨hx, hb, hml, hown, hts⟩, hR, hr, hK, hE, hlk⟩ := hC
  exact fun H locs ls hP hS hl => lv_istore_n hx hb hdg rfl hl hn hl' (fun ls hl => k H locs ls hP hS hl)
theorem g_istore (pc : Nat) (hC : Cx K E cc nL own Ts rm ret) {q : Nat} {x : Int32} (hdg : decode cc pc = .ok (.istore q, 2)) (hn : q < nL) (lv' : List (Nat × Value)) (hl' : (q, Value.int x) :: lv.filter (fun z => !(z.1 == q) && !(z.1 + 1 == q && z.2.category == 2)) = lv') (k : G K E nL T u (pc + 2) lv' rest) : G K E nL T u pc lv (.int x :: rest) := by
  obtain ⟨p, l, e, R, s, m, args, below, meth, c⟩ := K
  obtain ⟨⟨hx, hb, hml, hown, hts⟩, hR, hr, hK, hE, hlk⟩ := hC
  exact fun H locs ls hP hS hl => lv_istore hx hb hdg hl hn hl' (fun ls hl => k H locs ls hP hS hl)
theorem g_iinc (pc : Nat) (hC : Cx K E cc nL own Ts rm ret) {q : Nat} {n : Int} {x : Int32} (v : Int32) (hdg : decode cc pc = .ok (.iinc q n, 3)) (hn : q < nL) (j : Nat) (hk : lv[j]? = some (q, .int x)) (hv : x + Int32.ofInt n = v) (lv' : List (Nat × Value)) (hl' : (q, Value.int v) :: lv.filter (fun z => !(z.1 == q) && !(z.1 + 1 == q && z.2.category == 2)) = lv') (k : G K E nL T u (pc + 3) lv' rest) : G K E nL T u pc lv rest := by
  obtain ⟨p, l, e, R, s, m, args, below, meth, c⟩ := K
  obtain ⟨⟨hx, hb, hml, hown, hts⟩, hR, hr, hK, hE, hlk⟩ := hC
  exact fun H locs ls hP hS hl => lv_iinc hx hb hdg hl hk hv hn hl' (fun ls hl => k H locs ls hP hS hl)
theorem g_iadd (pc : Nat) (hC : Cx K E cc nL own Ts rm ret) {x y : Int32} (hdg : decode cc pc = .ok (.iadd, 1)) (k : G K E nL T u (pc + 1) lv (.int (x + y) :: rest)) : G K E nL T u pc lv (.int y :: .int x :: rest) := by
  obtain ⟨p, l, e, R, s, m, args, below, meth, c⟩ := K
  obtain ⟨⟨hx, hb, hml, hown, hts⟩, hR, hr, hK, hE, hlk⟩ := hC
  exact fun H locs ls hP hS hl => lv_iadd hx hb hdg (k H locs ls hP hS hl)
theorem g_isub (pc : Nat) (hC : Cx K E cc nL own Ts rm ret) {x y : Int32} (hdg : decode cc pc = .ok (.isub, 1)) (k : G K E nL T u (pc + 1) lv (.int (x - y) :: rest)) : G K E nL T u pc lv (.int y :: .int x :: rest) := by
  obtain ⟨p, l, e, R, s, m, args, below, meth, c⟩ := K
  obtain ⟨⟨hx, hb, hml, hown, hts⟩, hR, hr, hK, hE, hlk⟩ := hC
  exact fun H locs ls hP hS hl => lv_isub hx hb hdg (k H locs ls hP hS hl)
theorem g_imul (pc : Nat) (hC : Cx K E cc nL own Ts rm ret) {x y : Int32} (hdg : decode cc pc = .ok (.imul, 1)) (k : G K E nL T u (pc + 1) lv (.int (x * y) :: rest)) : G K E nL T u pc lv (.int y :: .int x :: rest) := by
  obtain ⟨p, l, e, R, s, m, args, below, meth, c⟩ := K
  obtain ⟨⟨hx, hb, hml, hown, hts⟩, hR, hr, hK, hE, hlk⟩ := hC
  exact fun H locs ls hP hS hl => lv_imul hx hb hdg (k H locs ls hP hS hl)
theorem g_iand (pc : Nat) (hC : Cx K E cc nL own Ts rm ret) {x y : Int32} (hdg : decode cc pc = .ok (.iand, 1)) (k : G K E nL T u (pc + 1) lv (.int (x &&& y) :: rest)) : G K E nL T u pc lv (.int y :: .int x :: rest) := by
  obtain ⟨p, l, e, R, s, m, args, below, meth, c⟩ := K
  obtain ⟨⟨hx, hb, hml, hown, hts⟩, hR, hr, hK, hE, hlk⟩ := hC
  exact fun H locs ls hP hS hl => lv_iand hx hb hdg (k H locs ls hP hS hl)
theorem g_ior (pc : Nat) (hC : Cx K E cc nL own Ts rm ret) {x y : Int32} (hdg : decode cc pc = .ok (.ior, 1)) (k : G K E nL T u (pc + 1) lv (.int (x ||| y) :: rest)) : G K E nL T u pc lv (.int y :: .int x :: rest) := by
  obtain ⟨p, l, e, R, s, m, args, below, meth, c⟩ := K
  obtain ⟨⟨hx, hb, hml, hown, hts⟩, hR, hr, hK, hE, hlk⟩ := hC
  exact fun H locs ls hP hS hl => lv_ior hx hb hdg (k H locs ls hP hS hl)
theorem g_ixor (pc : Nat) (hC : Cx K E cc nL own Ts rm ret) {x y : Int32} (hdg : decode cc pc = .ok (.ixor, 1)) (k : G K E nL T u (pc + 1) lv (.int (x ^^^ y) :: rest)) : G K E nL T u pc lv (.int y :: .int x :: rest) := by
  obtain ⟨p, l, e, R, s, m, args, below, meth, c⟩ := K
  obtain ⟨⟨hx, hb, hml, hown, hts⟩, hR, hr, hK, hE, hlk⟩ := hC
  exact fun H locs ls hP hS hl => lv_ixor hx hb hdg (k H locs ls hP hS hl)
theorem g_ishl (pc : Nat) (hC : Cx K E cc nL own Ts rm ret) {x y : Int32} (hdg : decode cc pc = .ok (.ishl, 1)) (k : G K E nL T u (pc + 1) lv (.int (jshl x y) :: rest)) : G K E nL T u pc lv (.int y :: .int x :: rest) := by
  obtain ⟨p, l, e, R, s, m, args, below, meth, c⟩ := K
  obtain ⟨⟨hx, hb, hml, hown, hts⟩, hR, hr, hK, hE, hlk⟩ := hC
  exact fun H locs ls hP hS hl => lv_ishl hx hb hdg (k H locs ls hP hS hl)
theorem g_ishr (pc : Nat) (hC : Cx K E cc nL own Ts rm ret) {x y : Int32} (hdg : decode cc pc = .ok (.ishr, 1)) (k : G K E nL T u (pc + 1) lv (.int (jshr x y) :: rest)) : G K E nL T u pc lv (.int y :: .int x :: rest) := by
  obtain ⟨p, l, e, R, s, m, args, below, meth, c⟩ := K
  obtain ⟨⟨hx, hb, hml, hown, hts⟩, hR, hr, hK, hE, hlk⟩ := hC
  exact fun H locs ls hP hS hl => lv_ishr hx hb hdg (k H locs ls hP hS hl)
theorem g_iushr (pc : Nat) (hC : Cx K E cc nL own Ts rm ret) {x y : Int32} (hdg : decode cc pc = .ok (.iushr, 1)) (k : G K E nL T u (pc + 1) lv (.int (jushr x y) :: rest)) : G K E nL T u pc lv (.int y :: .int x :: rest) := by
  obtain ⟨p, l, e, R, s, m, args, below, meth, c⟩ := K
  obtain ⟨⟨hx, hb, hml, hown, hts⟩, hR, hr, hK, hE, hlk⟩ := hC
  exact fun H locs ls hP hS hl => lv_iushr hx hb hdg rfl (k H locs ls hP hS hl)
theorem g_i2b (pc : Nat) (hC : Cx K E cc nL own Ts rm ret) {x : Int32} (hdg : decode cc pc = .ok (.i2b, 1)) (k : G K E nL T u (pc + 1) lv (.int x.toInt8.toInt32 :: rest)) : G K E nL T u pc lv (.int x :: rest) := by
  obtain ⟨p, l, e, R, s, m, args, below, meth, c⟩ := K
  obtain ⟨⟨hx, hb, hml, hown, hts⟩, hR, hr, hK, hE, hlk⟩ := hC
  exact fun H locs ls hP hS hl => lv_i2b hx hb hdg rfl (k H locs ls hP hS hl)
theorem g_dup (pc : Nat) (hC : Cx K E cc nL own Ts rm ret) {v : Value} (hdg : decode cc pc = .ok (.dup, 1)) (hv : v.category = 1) (k : G K E nL T u (pc + 1) lv (v :: v :: rest)) : G K E nL T u pc lv (v :: rest) := by
  obtain ⟨p, l, e, R, s, m, args, below, meth, c⟩ := K
  obtain ⟨⟨hx, hb, hml, hown, hts⟩, hR, hr, hK, hE, hlk⟩ := hC
  exact fun H locs ls hP hS hl => lv_dup hx hb hdg hv (k H locs ls hP hS hl)
theorem g_dup2 (pc : Nat) (hC : Cx K E cc nL own Ts rm ret) {v w : Value} (hdg : decode cc pc = .ok (.dup2, 1)) (hv : v.category = 1) (hw : w.category = 1) (k : G K E nL T u (pc + 1) lv (v :: w :: v :: w :: rest)) : G K E nL T u pc lv (v :: w :: rest) := by
  obtain ⟨p, l, e, R, s, m, args, below, meth, c⟩ := K
  obtain ⟨⟨hx, hb, hml, hown, hts⟩, hR, hr, hK, hE, hlk⟩ := hC
  exact fun H locs ls hP hS hl => lv_dup2_11 hx hb hdg hv hw (k H locs ls hP hS hl)
theorem g_pop (pc : Nat) (hC : Cx K E cc nL own Ts rm ret) {v : Value} (hdg : decode cc pc = .ok (.pop, 1)) (hv : v.category = 1) (k : G K E nL T u (pc + 1) lv rest) : G K E nL T u pc lv (v :: rest) := by
  obtain ⟨p, l, e, R, s, m, args, below, meth, c⟩ := K
  obtain ⟨⟨hx, hb, hml, hown, hts⟩, hR, hr, hK, hE, hlk⟩ := hC
  exact fun H locs ls hP hS hl => lv_pop hx hb hdg hv (k H locs ls hP hS hl)
theorem g_goto (pc : Nat) (hC : Cx K E cc nL own Ts rm ret) {off : Int} (tgt : Nat) (hdg : decode cc pc = .ok (.goto off, 3)) (ht : (pc : Int) + off = (tgt : Int)) (k : G K E nL T u tgt lv rest) : G K E nL T u pc lv rest := by
  obtain ⟨p, l, e, R, s, m, args, below, meth, c⟩ := K
  obtain ⟨⟨hx, hb, hml, hown, hts⟩, hR, hr, hK, hE, hlk⟩ := hC
  exact fun H locs ls hP hS hl => lv_goto hx hb hdg ht (k H locs ls hP hS hl)
theorem g_if_eq (pc : Nat) (hC : Cx K E cc nL own Ts rm ret) {x : Int32} {off : Int} (tgt : Nat) (hdg : decode cc pc = .ok (.ifCond .eq off, 3)) (ht : (pc : Int) + off = (tgt : Int)) (kt : x = 0 → G K E nL T u tgt lv rest) (kf : ¬ x = 0 → G K E nL T u (pc + 3) lv rest) : G K E nL T u pc lv (.int x :: rest) := by
  obtain ⟨p, l, e, R, s, m, args, below, meth, c⟩ := K
  obtain ⟨⟨hx, hb, hml, hown, hts⟩, hR, hr, hK, hE, hlk⟩ := hC
  exact fun H locs ls hP hS hl => lv_if_eq hx hb hdg ht (fun h => kt h H locs ls hP hS hl) (fun h => kf h H locs ls hP hS hl)
theorem g_if_eqT {α : Type} (F : α → ST × Option Value) (pc : Nat) (hC : Cx K E cc nL own Ts rm ret) {x : Int32} {off : Int} {A B : α} (tgt : Nat) (hdg : decode cc pc = .ok (.ifCond .eq off, 3)) (ht : (pc : Int) + off = (tgt : Int)) (kt : x = 0 → G K E nL (F A) u tgt lv rest) (kf : ¬ x = 0 → G K E nL (F B) u (pc + 3) lv rest) : G K E nL (F (if x = 0 then A else B)) u pc lv (.int x :: rest) := by
  refine g_if_eq pc hC tgt hdg ht (fun h => ?_) (fun h => ?_)
  · rw [if_pos h]; exact kt h
  · rw [if_neg h]; exact kf h
theorem g_icmp_eq (pc : Nat) (hC : Cx K E cc nL own Ts rm ret) {x y : Int32} {off : Int} (tgt : Nat) (hdg : decode cc pc = .ok (.if_icmp .eq off, 3)) (ht : (pc : Int) + off = (tgt : Int)) (kt : x = y → G K E nL T u tgt lv rest) (kf : ¬ x = y → G K E nL T u (pc + 3) lv rest) : G K E nL T u pc lv (.int y :: .int x :: rest) := by
  obtain ⟨p, l, e, R, s, m, args, below, meth, c⟩ := K
  obtain ⟨⟨hx, hb, hml, hown, hts⟩, hR, hr, hK, hE, hlk⟩ := hC
  exact fun H locs ls hP hS hl => lv_icmp_eq hx hb hdg ht (fun h => kt h H locs ls hP hS hl) (fun h => kf h H locs ls hP hS hl)
theorem g_icmp_eqT {α : Type} (F : α → ST × Option Value) (pc : Nat) (hC : Cx K E cc nL own Ts rm ret) {x y : Int32} {off : Int} {A B : α} (tgt : Nat) (hdg : decode cc pc = .ok (.if_icmp .eq off, 3)) (ht : (pc : Int) + off = (tgt : Int)) (kt : x = y → G K E nL (F A) u tgt lv rest) (kf : ¬ x = y → G K E nL (F B) u (pc + 3) lv rest) : G K E nL (F (if x = y then A else B)) u pc lv (.int y :: .int x :: rest) := by
  refine g_icmp_eq pc hC tgt hdg ht (fun h => ?_) (fun h => ?_)
  · rw [if_pos h]; exact kt h
  · rw [if_neg h]; exact kf h
theorem g_if_ne (pc : Nat) (hC : Cx K E cc nL own Ts rm ret) {x : Int32} {off : Int} (tgt : Nat) (hdg : decode cc pc = .ok (.ifCond .ne off, 3)) (ht : (pc : Int) + off = (tgt : Int)) (kt : ¬ x = 0 → G K E nL T u tgt lv rest) (kf : x = 0 → G K E nL T u (pc + 3) lv rest) : G K E nL T u pc lv (.int x :: rest) := by
  obtain ⟨p, l, e, R, s, m, args, below, meth, c⟩ := K
  obtain ⟨⟨hx, hb, hml, hown, hts⟩, hR, hr, hK, hE, hlk⟩ := hC
  exact fun H locs ls hP hS hl => lv_if_ne hx hb hdg ht (fun h => kt h H locs ls hP hS hl) (fun h => kf h H locs ls hP hS hl)
theorem g_if_neT {α : Type} (F : α → ST × Option Value) (pc : Nat) (hC : Cx K E cc nL own Ts rm ret) {x : Int32} {off : Int} {A B : α} (tgt : Nat) (hdg : decode cc pc = .ok (.ifCond .ne off, 3)) (ht : (pc : Int) + off = (tgt : Int)) (kt : ¬ x = 0 → G K E nL (F B) u tgt lv rest) (kf : x = 0 → G K E nL (F A) u (pc + 3) lv rest) : G K E nL (F (if x = 0 then A else B)) u pc lv (.int x :: rest) := by
  refine g_if_ne pc hC tgt hdg ht (fun h => ?_) (fun h => ?_)
  · rw [if_neg h]; exact kt h
  · rw [if_pos h]; exact kf h
theorem g_icmp_ne (pc : Nat) (hC : Cx K E cc nL own Ts rm ret) {x y : Int32} {off : Int} (tgt : Nat) (hdg : decode cc pc = .ok (.if_icmp .ne off, 3)) (ht : (pc : Int) + off = (tgt : Int)) (kt : ¬ x = y → G K E nL T u tgt lv rest) (kf : x = y → G K E nL T u (pc + 3) lv rest) : G K E nL T u pc lv (.int y :: .int x :: rest) := by
  obtain ⟨p, l, e, R, s, m, args, below, meth, c⟩ := K
  obtain ⟨⟨hx, hb, hml, hown, hts⟩, hR, hr, hK, hE, hlk⟩ := hC
  exact fun H locs ls hP hS hl => lv_icmp_ne hx hb hdg ht (fun h => kt h H locs ls hP hS hl) (fun h => kf h H locs ls hP hS hl)
theorem g_icmp_neT {α : Type} (F : α → ST × Option Value) (pc : Nat) (hC : Cx K E cc nL own Ts rm ret) {x y : Int32} {off : Int} {A B : α} (tgt : Nat) (hdg : decode cc pc = .ok (.if_icmp .ne off, 3)) (ht : (pc : Int) + off = (tgt : Int)) (kt : ¬ x = y → G K E nL (F B) u tgt lv rest) (kf : x = y → G K E nL (F A) u (pc + 3) lv rest) : G K E nL (F (if x = y then A else B)) u pc lv (.int y :: .int x :: rest) := by
  refine g_icmp_ne pc hC tgt hdg ht (fun h => ?_) (fun h => ?_)
  · rw [if_neg h]; exact kt h
  · rw [if_pos h]; exact kf h
theorem g_if_lt (pc : Nat) (hC : Cx K E cc nL own Ts rm ret) {x : Int32} {off : Int} (tgt : Nat) (hdg : decode cc pc = .ok (.ifCond .lt off, 3)) (ht : (pc : Int) + off = (tgt : Int)) (kt : x < 0 → G K E nL T u tgt lv rest) (kf : ¬ x < 0 → G K E nL T u (pc + 3) lv rest) : G K E nL T u pc lv (.int x :: rest) := by
  obtain ⟨p, l, e, R, s, m, args, below, meth, c⟩ := K
  obtain ⟨⟨hx, hb, hml, hown, hts⟩, hR, hr, hK, hE, hlk⟩ := hC
  exact fun H locs ls hP hS hl => lv_if_lt hx hb hdg ht (fun h => kt h H locs ls hP hS hl) (fun h => kf h H locs ls hP hS hl)
theorem g_if_ltT {α : Type} (F : α → ST × Option Value) (pc : Nat) (hC : Cx K E cc nL own Ts rm ret) {x : Int32} {off : Int} {A B : α} (tgt : Nat) (hdg : decode cc pc = .ok (.ifCond .lt off, 3)) (ht : (pc : Int) + off = (tgt : Int)) (kt : x < 0 → G K E nL (F A) u tgt lv rest) (kf : ¬ x < 0 → G K E nL (F B) u (pc + 3) lv rest) : G K E nL (F (if x < 0 then A else B)) u pc lv (.int x :: rest) := by
  refine g_if_lt pc hC tgt hdg ht (fun h => ?_) (fun h => ?_)
  · rw [if_pos h]; exact kt h
  · rw [if_neg h]; exact kf h
theorem g_icmp_lt (pc : Nat) (hC : Cx K E cc nL own Ts rm ret) {x y : Int32} {off : Int} (tgt : Nat) (hdg : decode cc pc = .ok (.if_icmp .lt off, 3)) (ht : (pc : Int) + off = (tgt : Int)) (kt : x < y → G K E nL T u tgt lv rest) (kf : ¬ x < y → G K E nL T u (pc + 3) lv rest) : G K E nL T u pc lv (.int y :: .int x :: rest) := by
  obtain ⟨p, l, e, R, s, m, args, below, meth, c⟩ := K
  obtain ⟨⟨hx, hb, hml, hown, hts⟩, hR, hr, hK, hE, hlk⟩ := hC
  exact fun H locs ls hP hS hl => lv_icmp_lt hx hb hdg ht (fun h => kt h H locs ls hP hS hl) (fun h => kf h H locs ls hP hS hl)
theorem g_icmp_ltT {α : Type} (F : α → ST × Option Value) (pc : Nat) (hC : Cx K E cc nL own Ts rm ret) {x y : Int32} {off : Int} {A B : α} (tgt : Nat) (hdg : decode cc pc = .ok (.if_icmp .lt off, 3)) (ht : (pc : Int) + off = (tgt : Int)) (kt : x < y → G K E nL (F A) u tgt lv rest) (kf : ¬ x < y → G K E nL (F B) u (pc + 3) lv rest) : G K E nL (F (if x < y then A else B)) u pc lv (.int y :: .int x :: rest) := by
  refine g_icmp_lt pc hC tgt hdg ht (fun h => ?_) (fun h => ?_)
  · rw [if_pos h]; exact kt h
  · rw [if_neg h]; exact kf h
theorem g_if_ge (pc : Nat) (hC : Cx K E cc nL own Ts rm ret) {x : Int32} {off : Int} (tgt : Nat) (hdg : decode cc pc = .ok (.ifCond .ge off, 3)) (ht : (pc : Int) + off = (tgt : Int)) (kt : 0 ≤ x → G K E nL T u tgt lv rest) (kf : ¬ 0 ≤ x → G K E nL T u (pc + 3) lv rest) : G K E nL T u pc lv (.int x :: rest) := by
  obtain ⟨p, l, e, R, s, m, args, below, meth, c⟩ := K
  obtain ⟨⟨hx, hb, hml, hown, hts⟩, hR, hr, hK, hE, hlk⟩ := hC
  exact fun H locs ls hP hS hl => lv_if_ge hx hb hdg ht (fun h => kt h H locs ls hP hS hl) (fun h => kf h H locs ls hP hS hl)
theorem g_if_geT {α : Type} (F : α → ST × Option Value) (pc : Nat) (hC : Cx K E cc nL own Ts rm ret) {x : Int32} {off : Int} {A B : α} (tgt : Nat) (hdg : decode cc pc = .ok (.ifCond .ge off, 3)) (ht : (pc : Int) + off = (tgt : Int)) (kt : 0 ≤ x → G K E nL (F A) u tgt lv rest) (kf : ¬ 0 ≤ x → G K E nL (F B) u (pc + 3) lv rest) : G K E nL (F (if 0 ≤ x then A else B)) u pc lv (.int x :: rest) := by
  refine g_if_ge pc hC tgt hdg ht (fun h => ?_) (fun h => ?_)
  · rw [if_pos h]; exact kt h
  · rw [if_neg h]; exact kf h
theorem g_icmp_ge (pc : Nat) (hC : Cx K E cc nL own Ts rm ret) {x y : Int32} {off : Int} (tgt : Nat) (hdg : decode cc pc = .ok (.if_icmp .ge off, 3)) (ht : (pc : Int) + off = (tgt : Int)) (kt : y ≤ x → G K E nL T u tgt lv rest) (kf : ¬ y ≤ x → G K E nL T u (pc + 3) lv rest) : G K E nL T u pc lv (.int y :: .int x :: rest) := by
  obtain ⟨p, l, e, R, s, m, args, below, meth, c⟩ := K
  obtain ⟨⟨hx, hb, hml, hown, hts⟩, hR, hr, hK, hE, hlk⟩ := hC
  exact fun H locs ls hP hS hl => lv_icmp_ge hx hb hdg ht (fun h => kt h H locs ls hP hS hl) (fun h => kf h H locs ls hP hS hl)
theorem g_icmp_geT {α : Type} (F : α → ST × Option Value) (pc : Nat) (hC : Cx K E cc nL own Ts rm ret) {x y : Int32} {off : Int} {A B : α} (tgt : Nat) (hdg : decode cc pc = .ok (.if_icmp .ge off, 3)) (ht : (pc : Int) + off = (tgt : Int)) (kt : y ≤ x → G K E nL (F A) u tgt lv rest) (kf : ¬ y ≤ x → G K E nL (F B) u (pc + 3) lv rest) : G K E nL (F (if y ≤ x then A else B)) u pc lv (.int y :: .int x :: rest) := by
  refine g_icmp_ge pc hC tgt hdg ht (fun h => ?_) (fun h => ?_)
  · rw [if_pos h]; exact kt h
  · rw [if_neg h]; exact kf h
theorem g_if_gt (pc : Nat) (hC : Cx K E cc nL own Ts rm ret) {x : Int32} {off : Int} (tgt : Nat) (hdg : decode cc pc = .ok (.ifCond .gt off, 3)) (ht : (pc : Int) + off = (tgt : Int)) (kt : 0 < x → G K E nL T u tgt lv rest) (kf : ¬ 0 < x → G K E nL T u (pc + 3) lv rest) : G K E nL T u pc lv (.int x :: rest) := by
  obtain ⟨p, l, e, R, s, m, args, below, meth, c⟩ := K
  obtain ⟨⟨hx, hb, hml, hown, hts⟩, hR, hr, hK, hE, hlk⟩ := hC
  exact fun H locs ls hP hS hl => lv_if_gt hx hb hdg ht (fun h => kt h H locs ls hP hS hl) (fun h => kf h H locs ls hP hS hl)
theorem g_if_gtT {α : Type} (F : α → ST × Option Value) (pc : Nat) (hC : Cx K E cc nL own Ts rm ret) {x : Int32} {off : Int} {A B : α} (tgt : Nat) (hdg : decode cc pc = .ok (.ifCond .gt off, 3)) (ht : (pc : Int) + off = (tgt : Int)) (kt : 0 < x → G K E nL (F A) u tgt lv rest) (kf : ¬ 0 < x → G K E nL (F B) u (pc + 3) lv rest) : G K E nL (F (if 0 < x then A else B)) u pc lv (.int x :: rest) := by
  refine g_if_gt pc hC tgt hdg ht (fun h => ?_) (fun h => ?_)
  · rw [if_pos h]; exact kt h
  · rw [if_neg h]; exact kf h
theorem g_icmp_gt (pc : Nat) (hC : Cx K E cc nL own Ts rm ret) {x y : Int32} {off : Int} (tgt : Nat) (hdg : decode cc pc = .ok (.if_icmp .gt off, 3)) (ht : (pc : Int) + off = (tgt : Int)) (kt : y < x → G K E nL T u tgt lv rest) (kf : ¬ y < x → G K E nL T u (pc + 3) lv rest) : G K E nL T u pc lv (.int y :: .int x :: rest) := by
  obtain ⟨p, l, e, R, s, m, args, below, meth, c⟩ := K
  obtain ⟨⟨hx, hb, hml, hown, hts⟩, hR, hr, hK, hE, hlk⟩ := hC
  exact fun H locs ls hP hS hl => lv_icmp_gt hx hb hdg ht (fun h => kt h H locs ls hP hS hl) (fun h => kf h H locs ls hP hS hl)
theorem g_icmp_gtT {α : Type} (F : α → ST × Option Value) (pc : Nat) (hC : Cx K E cc nL own Ts rm ret) {x y : Int32} {off : Int} {A B : α} (tgt : Nat) (hdg : decode cc pc = .ok (.if_icmp .gt off, 3)) (ht : (pc : Int) + off = (tgt : Int)) (kt : y < x → G K E nL (F A) u tgt lv rest) (kf : ¬ y < x → G K E nL (F B) u (pc + 3) lv rest) : G K E nL (F (if y < x then A else B)) u pc lv (.int y :: .int x :: rest) := by
  refine g_icmp_gt pc hC tgt hdg ht (fun h => ?_) (fun h => ?_)
  · rw [if_pos h]; exact kt h
  · rw [if_neg h]; exact kf h
theorem g_if_le (pc : Nat) (hC : Cx K E cc nL own Ts rm ret) {x : Int32} {off : Int} (tgt : Nat) (hdg : decode cc pc = .ok (.ifCond .le off, 3)) (ht : (pc : Int) + off = (tgt : Int)) (kt : x ≤ 0 → G K E nL T u tgt lv rest) (kf : ¬ x ≤ 0 → G K E nL T u (pc + 3) lv rest) : G K E nL T u pc lv (.int x :: rest) := by
  obtain ⟨p, l, e, R, s, m, args, below, meth, c⟩ := K
  obtain ⟨⟨hx, hb, hml, hown, hts⟩, hR, hr, hK, hE, hlk⟩ := hC
  exact fun H locs ls hP hS hl => lv_if_le hx hb hdg ht (fun h => kt h H locs ls hP hS hl) (fun h => kf h H locs ls hP hS hl)
theorem g_if_leT {α : Type} (F : α → ST × Option Value) (pc : Nat) (hC : Cx K E cc nL own Ts rm ret) {x : Int32} {off : Int} {A B : α} (tgt : Nat) (hdg : decode cc pc = .ok (.ifCond .le off, 3)) (ht : (pc : Int) + off = (tgt : Int)) (kt : x ≤ 0 → G K E nL (F A) u tgt lv rest) (kf : ¬ x ≤ 0 → G K E nL (F B) u (pc + 3) lv rest) : G K E nL (F (if x ≤ 0 then A else B)) u pc lv (.int x :: rest) := by
  refine g_if_le pc hC tgt hdg ht (fun h => ?_) (fun h => ?_)
  · rw [if_pos h]; exact kt h
  · rw [if_neg h]; exact kf h
theorem g_icmp_le (pc : Nat) (hC : Cx K E cc nL own Ts rm ret) {x y : Int32} {off : Int} (tgt : Nat) (hdg : decode cc pc = .ok (.if_icmp .le off, 3)) (ht : (pc : Int) + off = (tgt : Int)) (kt : x ≤ y → G K E nL T u tgt lv rest) (kf : ¬ x ≤ y → G K E nL T u (pc + 3) lv rest) : G K E nL T u pc lv (.int y :: .int x :: rest) := by
  obtain ⟨p, l, e, R, s, m, args, below, meth, c⟩ := K
  obtain ⟨⟨hx, hb, hml, hown, hts⟩, hR, hr, hK, hE, hlk⟩ := hC
  exact fun H locs ls hP hS hl => lv_icmp_le hx hb hdg ht (fun h => kt h H locs ls hP hS hl) (fun h => kf h H locs ls hP hS hl)
theorem g_icmp_leT {α : Type} (F : α → ST × Option Value) (pc : Nat) (hC : Cx K E cc nL own Ts rm ret) {x y : Int32} {off : Int} {A B : α} (tgt : Nat) (hdg : decode cc pc = .ok (.if_icmp .le off, 3)) (ht : (pc : Int) + off = (tgt : Int)) (kt : x ≤ y → G K E nL (F A) u tgt lv rest) (kf : ¬ x ≤ y → G K E nL (F B) u (pc + 3) lv rest) : G K E nL (F (if x ≤ y then A else B)) u pc lv (.int y :: .int x :: rest) := by
  refine g_icmp_le pc hC tgt hdg ht (fun h => ?_) (fun h => ?_)
  · rw [if_pos h]; exact kt h
  · rw [if_neg h]; exact kf h
/-! PART TWO -/
def isB (v : Int32) : Prop := v = 0 ∨ v = 1
theorem isB.nar {v : Int32} (h : isB v) : narrow .boolean (.int v) = .int v := by rcases h with rfl | rfl <;> decide
theorem isB.fit {v : Int32} (h : isB v) : fits .boolean (.int v) = true := by rcases h with rfl | rfl <;> decide
theorem Cx.ok (hC : Cx K E cc nL own Ts rm ret) : okE E := by
  obtain ⟨p, l, e, R, s, m, args, below, meth, c⟩ := K
  exact hC.2.2.2.2.1
theorem g_byT {α : Type} (F : α → ST × Option Value) {c : Prop} [Decidable c] {A B : α} {pc : Nat} {st : List Value} (kt : c → G K E nL (F A) u pc lv st) (kf : ¬ c → G K E nL (F B) u pc lv st) : G K E nL (F (if c then A else B)) u pc lv st := by
  by_cases h : c
  · rw [if_pos h]; exact kt h
  · rw [if_neg h]; exact kf h
theorem g_cut {pc : Nat} {st : List Value} (pcJ : Nat) (x : Int32) (rest : List Value) (J : G K E nL T u pcJ lv (.int x :: rest)) (body : (∀ v : Int32, v = x → G K E nL T u pcJ lv (.int v :: rest)) → G K E nL T u pc lv st) : G K E nL T u pc lv st := body (fun v h => by rw [h]; exact J)
theorem g_cutS {pc : Nat} {st : List Value} (pcJ : Nat) (u1 : ST) (st1 : List Value) (J : G K E nL T u1 pcJ lv st1) (body : (∀ v : ST, v = u1 → G K E nL T v pcJ lv st1) → G K E nL T u pc lv st) : G K E nL T u pc lv st := body (fun v h => by rw [h]; exact J)
theorem g_cut0 {pc : Nat} {st : List Value} (pcJ : Nat) (T1 : ST × Option Value) (st1 : List Value) (J : G K E nL T1 u pcJ lv st1) (body : G K E nL T1 u pcJ lv st1 → G K E nL T u pc lv st) : G K E nL T u pc lv st := body J
theorem g_tsIn (pc : Nat) (hC : Cx K E cc nL own Ts rm ret) {dflt lo hi : Int} {offs : Array Int} {len : Nat} {x : Int32} (v : Int32) (off : Int) (tgt : Nat) (hxv : x = v) (hdg : decode cc pc = .ok (.tableswitch dflt lo hi offs, len)) (h1 : ¬ v.toInt < lo) (h2 : ¬ hi < v.toInt) (h3 : offs[(v.toInt - lo).toNat]? = some off) (h4 : (pc : Int) + off = (tgt : Int)) (k : G K E nL T u tgt lv rest) : G K E nL T u pc lv (.int x :: rest) := by
  subst hxv
  obtain ⟨p, l, e, R, s, m, args, below, meth, c⟩ := K
  obtain ⟨⟨hx, hb, hml, hown, hts⟩, hR, hr, hK, hE, hlk⟩ := hC
  exact fun H locs ls hP hS hl => lv_tableIn hx hb hdg h1 h2 h3 h4 (k H locs ls hP hS hl)
theorem g_tsOut (pc : Nat) (hC : Cx K E cc nL own Ts rm ret) {dflt lo hi : Int} {offs : Array Int} {len : Nat} {x : Int32} (tgt : Nat) (hdg : decode cc pc = .ok (.tableswitch dflt lo hi offs, len)) (h : x.toInt < lo ∨ hi < x.toInt) (h4 : (pc : Int) + dflt = (tgt : Int)) (k : G K E nL T u tgt lv rest) : G K E nL T u pc lv (.int x :: rest) := by
  obtain ⟨p, l, e, R, s, m, args, below, meth, c⟩ := K
  obtain ⟨⟨hx, hb, hml, hown, hts⟩, hR, hr, hK, hE, hlk⟩ := hC
  exact fun H locs ls hP hS hl => lv_tableOut hx hb hdg h h4 (k H locs ls hP hS hl)
theorem g_ls (pc : Nat) (hC : Cx K E cc nL own Ts rm ret) {dflt : Int} {ps : Array (Int × Int)} {len : Nat} {x : Int32} (off : Int) (tgt : Nat) (hdg : decode cc pc = .ok (.lookupswitch dflt ps, len)) (hp : (ps.toList.zip (ps.toList.drop 1)).all (fun (a, next) => a.1 < next.1) = true) (ho : Op.lookupswitch.offset ps.toList dflt x.toInt = off) (h4 : (pc : Int) + off = (tgt : Int)) (k : G K E nL T u tgt lv rest) : G K E nL T u pc lv (.int x :: rest) := by
  obtain ⟨p, l, e, R, s, m, args, below, meth, c⟩ := K
  obtain ⟨⟨hx, hb, hml, hown, hts⟩, hR, hr, hK, hE, hlk⟩ := hC
  exact fun H locs ls hP hS hl => lv_lookup hx hb hdg hp ho h4 (k H locs ls hP hS hl)
theorem g_get (pc : Nat) (hC : Cx K E cc nL own Ts rm ret) {C : String} {F : u_T} {N ci idx a : Nat} (hin : ∀ w ∈ u_ws C F N, w ∈ Ts) (q0 : Nat) {fs : List Value} (he : (E.2.2.2 u)[q0]? = some (a, .inr (ci, fs))) (hc : vwCl[ci]? = some (C, F, N)) (k : Nat) (hk : k < N) (hm : Cond.fieldLink own idx (F k).1 (F k).2.1 (F k).2.2.1 ∈ Ts) {v : Value} (hv : fs[k]? = some v) (hdg : decode cc pc = .ok (.getfield idx, 3)) (kk : G K E nL T u (pc + 3) lv (v :: rest)) : G K E nL T u pc lv (.ref a :: rest) := by
  obtain ⟨p, l, e, R, s, m, args, below, meth, c⟩ := K
  obtain ⟨⟨hx, hb, hml, hown, hts⟩, hR, hr, hK, hE, hlk⟩ := hC
  exact fun H locs ls hP hS hl => va_get hx hb hts hin hown hK hP q0 he hc k hk (hts _ hm) (fun _ h => h) hv hdg (kk H locs ls hP hS hl)
theorem g_put (pc : Nat) (hC : Cx K E cc nL own Ts rm ret) {C : String} {F : u_T} {N ci idx a : Nat} (hin : ∀ w ∈ u_ws C F N, w ∈ Ts) (ty0 : Nat → FieldType) (hty : ∀ k, k < N → parseFieldDescriptor (F k).2.2.1 = some (ty0 k)) (hnm : ∀ a, a < N → ∀ b, b < N → a ≠ b → (F a).2.1 ≠ (F b).2.1) (q0 : Nat) {fs : List Value} (he : (E.2.2.2 u)[q0]? = some (a, .inr (ci, fs))) (hc : vwCl[ci]? = some (C, F, N)) (k : Nat) (hk : k < N) (hm : Cond.fieldLink own idx (F k).1 (F k).2.1 (F k).2.2.1 ∈ Ts) (hfin : (F k).2.2.2 = false) {ty : FieldType} {v : Value} (hd : parseFieldDescriptor (F k).2.2.1 = some ty) (hn : narrow ty v = v) (hfit : fits ty v = true) (hl0 : k < fs.length) {u2 : ST} (hu : (E.2.2.2 u).set q0 (a, .inr (ci, fs.set k v)) = E.2.2.2 u2) (hdg : decode cc pc = .ok (.putfield idx, 3)) (kk : G K E nL T u2 (pc + 3) lv rest) : G K E nL T u pc lv (v :: .ref a :: rest) := by
  obtain ⟨p, l, e, R, s, m, args, below, meth, c⟩ := K
  obtain ⟨⟨hx, hb, hml, hown, hts⟩, hR, hr, hK, hE, hlk⟩ := hC
  exact fun H locs ls hP hS hl => va_put hx hb hts hin ty0 hty hnm hown hK hP (hE u) hS q0 he hc k hk (hts _ hm) (fun _ h => h) hfin hd hn hfit hl0 hdg (fun H1 l1 hP1 _ hS1 => kk H1 l1 ls (hu ▸ hP1) hS1 hl)
theorem g_iald (pc : Nat) (hC : Cx K E cc nL own Ts rm ret) (q0 t0 : Nat) {cA : ClassId} {n a : Nat} {f : Nat → Int32} (ha : (E.2.2.2 u)[q0]? = some (a, .inl (cA, n, .inl f))) (ht : E.2.1[t0]? = some (cA, .int)) {i : Int32} (hin : vp_in i n) (hdg : decode cc pc = .ok (.iaload, 1)) (kk : G K E nL T u (pc + 1) lv (.int (f i.toNatClampNeg) :: rest)) : G K E nL T u pc lv (.int i :: .ref a :: rest) := by
  obtain ⟨p, l, e, R, s, m, args, below, meth, c⟩ := K
  obtain ⟨⟨hx, hb, hml, hown, hts⟩, hR, hr, hK, hE, hlk⟩ := hC
  exact fun H locs ls hP hS hl => va_iald hx hb hK hP q0 t0 ha ht hin hdg (kk H locs ls hP hS hl)
theorem g_iast (pc : Nat) (hC : Cx K E cc nL own Ts rm ret) (q0 t0 : Nat) {cA : ClassId} {n a : Nat} {f : Nat → Int32} (ha : (E.2.2.2 u)[q0]? = some (a, .inl (cA, n, .inl f))) (ht : E.2.1[t0]? = some (cA, .int)) {i x : Int32} (hin : vp_in i n) {u2 : ST} (hu : (E.2.2.2 u).set q0 (a, .inl (cA, n, .inl (upd f i.toNatClampNeg x))) = E.2.2.2 u2) (hdg : decode cc pc = .ok (.iastore, 1)) (kk : G K E nL T u2 (pc + 1) lv rest) : G K E nL T u pc lv (.int x :: .int i :: .ref a :: rest) := by
  obtain ⟨p, l, e, R, s, m, args, below, meth, c⟩ := K
  obtain ⟨⟨hx, hb, hml, hown, hts⟩, hR, hr, hK, hE, hlk⟩ := hC
  exact fun H locs ls hP hS hl => va_iast hx hb hK hP (hE u) hS q0 t0 ha ht hin hdg (fun H1 l1 hP1 _ hS1 => kk H1 l1 ls (hu ▸ hP1) hS1 hl)
theorem g_run {p : Program} {l : Launch} {e : Env} {R : Room} {s : State} {m : MethodId} {args a : Array Value} {below : List Frame} {meth : Method} {c : Code} {H : Heap} {locs : List Loc} {Q : State → Prop} {pc : Nat} {ls : Array Slot} {st0 : List Value} {ov : Option Value} {u2 : ST} (hr : va_Run p l e R s m args below meth c H locs 0 0 0 0 (F0 m pc ls st0) rest (Qx E u2 ov a) E.2.2.1) (hS : va_S E.2.2.1 s.heap H locs)
    (kk : ∀ (H1 : Heap) (locs1 : List Loc), va_P E.1 vwCl (E.2.2.2 u2) H1 → va_S E.2.2.1 s.heap H1 locs1 → W p l e R s m args below meth c H1 locs1 0 0 Q (F0 m (pc + 3) ls (ov.toList ++ rest))) : W p l e R s m args below meth c H locs 0 0 Q (F0 m pc ls st0) := by
  intro T hT X
  obtain ⟨v, st₀, t, T', L, h0, X', hL, e1, e2, ⟨hv, hp, hF⟩, st⟩ := hr T hT X
  cases hv
  have z1 : H.size ≤ T'.heap.size := by rw [e1, ← h0]; exact hF.1
  obtain ⟨t2, a1, b1⟩ := kk T'.heap (locs ++ L) (by rw [e1]; exact hp) ⟨Nat.le_trans hS.1 z1, fun q h1 h2 => by
      rw [e1, hF.2 q (by rw [h0]; exact Nat.lt_of_lt_of_le h1 hS.1) h2, h0]; exact hS.2.1 q h1 h2, fun q hq => by
      rcases List.mem_append.mp hq with h | h
      · exact hS.2.2 q h
      · exact hL q h⟩ T' rfl X'
  exact ⟨t2, st t2 a1, b1⟩
theorem Px.blind {av : List Value} : FrameBlind (Px E u av) := fun a U g mk q => ⟨q.1, q.2.1, va_K.moved (u := U) (U := U.calling g mk a) (Vm.Alike.refl U.vm) q.2.2⟩
theorem g_callV (pc : Nat) (hC : Cx K E cc nL own Ts rm ret) {y : MethodName} {bytes : ByteArray} {maxL n idx b : Nat} {ret' : Option FieldType} {ws ws' : List Cond} {rm' : Room} {As st : List Value} {T' : ST × Option Value} {C : String} (hM : MX E y ws rm' (.ref b :: As) u T') (hT : GoodIn Ts (wsV own idx C y ws)) (hw : ws = Cond.code y bytes maxL ret' :: ws') (hrc : rm'.cells = 0) (hrs : rm'.slots = 0)
    (hd : y.cls = C ∧ y.cls ≠ "java/lang/invoke/MethodHandle" ∧ y.cls ≠ "java/lang/invoke/VarHandle" ∧ (parseMethodDescriptor y.desc).map (fun d => d.parameters.length) = some n) (hRm : rm'.frames + 1 ≤ rm.frames ∧ 8 + (maxL + 11) + rm'.locals ≤ rm.locals) (q0 ci : Nat) {q : vw_C} {fs : List Value} (hq : vwCl[ci]? = some q) (hqC : q.1 = C) (he : (E.2.2.2 u)[q0]? = some (b, .inr (ci, fs))) (hn : As.length = n) (hst : st = As.reverse ++ .ref b :: rest) (hcat : (rest.map fun v => v.category).sum ≤ 8) (hdg : decode cc pc = .ok (.invokevirtual idx, 3)) (kk : G K E nL T T'.1 (pc + 3) lv (T'.2.toList ++ rest)) : G K E nL T u pc lv st := by
  obtain ⟨p, l, e, R, s, m, args, below, meth, c⟩ := K
  obtain ⟨⟨hx, hb, hml, hown, hts⟩, hR, hr, hK, hE, hlk⟩ := hC
  subst hR
  intro H locs ls hP hS hl
  exact g_run (va_runV (As := As) (rest := rest) ⟨hx, hb, hml, hown, hts⟩ (hM l) (cwV n hts hT hw hrc hrs hd hRm) ⟨Px.blind, by rw [← hqC]; exact va_recv hK hP hq he, fun U hU hW => ⟨rfl, by rw [hU]; exact hP, va_K.moved hW.alike hK⟩⟩ rfl hn hl.1 hst (lv_room hcat) hdg ⟨Nat.zero_le _, Nat.zero_le _⟩) hS (fun H1 l1 hP1 hS1 => kk H1 l1 ls hP1 hS1 hl)
theorem g_callS (pc : Nat) (hC : Cx K E cc nL own Ts rm ret) {y : MethodName} {bytes : ByteArray} {maxL n idx : Nat} {ret' : Option FieldType} {ws ws' : List Cond} {rm' : Room} {As st : List Value} {T' : ST × Option Value} (hM : MX E y ws rm' As u T') (hT : GoodIn Ts (va_wsS own idx y ws)) (hw : ws = Cond.code y bytes maxL ret' :: ws') (hrc : rm'.cells = 0) (hrs : rm'.slots = 0)
    (hd : y.cls ≠ "java/lang/invoke/MethodHandle" ∧ y.cls ≠ "java/lang/invoke/VarHandle" ∧ (parseMethodDescriptor y.desc).map (fun d => d.parameters.length) = some n) (hRm : rm'.frames + 1 ≤ rm.frames ∧ 8 + (maxL + 11) + rm'.locals ≤ rm.locals) (hn : As.length = n) (hst : st = As.reverse ++ rest) (hcat : (rest.map fun v => v.category).sum ≤ 8) (hdg : decode cc pc = .ok (.invokestatic idx, 3)) (kk : G K E nL T T'.1 (pc + 3) lv (T'.2.toList ++ rest)) : G K E nL T u pc lv st := by
  obtain ⟨p, l, e, R, s, m, args, below, meth, c⟩ := K
  obtain ⟨⟨hx, hb, hml, hown, hts⟩, hR, hr, hK, hE, hlk⟩ := hC
  subst hR
  intro H locs ls hP hS hl
  exact g_run (va_runS (As := As) (rest := rest) ⟨hx, hb, hml, hown, hts⟩ (hM l) (va_cwS n hts hT hw hrc hrs hd hRm) ⟨Px.blind, fun U hU hW => ⟨rfl, by rw [hU]; exact hP, va_K.moved hW.alike hK⟩⟩ rfl hn hl.1 hst (lv_room hcat) hdg ⟨Nat.zero_le _, Nat.zero_le _⟩) hS (fun H1 l1 hP1 hS1 => kk H1 l1 ls hP1 hS1 hl)
theorem g_iret (pc : Nat) (hC : Cx K E cc nL own Ts rm (some .int)) {v : Int32} (hdg : decode cc pc = .ok (.ireturn, 1)) : G K E nL (u, some (.int v)) u pc lv [.int v] := by
  obtain ⟨p, l, e, R, s, m, args, below, meth, c⟩ := K
  obtain ⟨⟨hx, hb, hml, hown, hts⟩, hR, hr, hK, hE, hlk⟩ := hC
  exact fun H locs ls hP hS hl => W.iret hx hb hr (fun t ht hW => ⟨rfl, by rw [ht]; exact hP, hS.F ht⟩) hS.2.2 hdg hlk
theorem g_zret (pc : Nat) (hC : Cx K E cc nL own Ts rm (some .boolean)) {v : Int32} (hn : isB v) (hdg : decode cc pc = .ok (.ireturn, 1)) : G K E nL (u, some (.int v)) u pc lv [.int v] := by
  obtain ⟨p, l, e, R, s, m, args, below, meth, c⟩ := K
  obtain ⟨⟨hx, hb, hml, hown, hts⟩, hR, hr, hK, hE, hlk⟩ := hC
  exact fun H locs ls hP hS hl => W.zret hx hb hr hn.nar (fun t ht hW => ⟨rfl, by rw [ht]; exact hP, hS.F ht⟩) hS.2.2 hdg hlk
theorem g_vret (pc : Nat) (hC : Cx K E cc nL own Ts rm none) (hdg : decode cc pc = .ok (.return_, 1)) : G K E nL (u, none) u pc lv [] := by
  obtain ⟨p, l, e, R, s, m, args, below, meth, c⟩ := K
  obtain ⟨⟨hx, hb, hml, hown, hts⟩, hR, hr, hK, hE, hlk⟩ := hC
  exact fun H locs ls hP hS hl => W.vret hx hb hr (fun t ht hW => ⟨rfl, by rw [ht]; exact hP, hS.F ht⟩) hS.2.2 hdg hlk
end GR
theorem nb0 : isB 0 := Or.inl rfl
theorem nb1 : isB 1 := Or.inr rfl
theorem nbI {c : Prop} [Decidable c] {a b : Int32} (ha : isB a) (hb : isB b) : isB (if c then a else b) := by
  by_cases h : c
  · rw [if_pos h]; exact ha
  · rw [if_neg h]; exact hb
/-- the class's world: FlagCore, cells, Bytes, row, Sums, tallies -/
abbrev HX : Type := va_G × (ClassId × ClassId × ClassId) × (Nat × Nat × Nat × Nat × Nat × Nat)
def xO (h : HX) : Nat := h.2.2.1
def xA (h : HX) : Nat := h.2.2.2.1
def xB (h : HX) : Nat := h.2.2.2.2.1
def xR (h : HX) : Nat := h.2.2.2.2.2.1
def xS (h : HX) : Nat := h.2.2.2.2.2.2.1
def xT (h : HX) : Nat := h.2.2.2.2.2.2.2
def EX (h : HX) : EV := (h.1, [(h.2.1.1, .int), (h.2.1.2.1, .int), (h.2.1.2.2, .int)], fun q => q = xO h ∨ q = xA h ∨ q = xB h ∨ q = xR h ∨ q = xS h ∨ q = xT h, fun u => [(xO h, .inr (2, [.ref (xA h), .ref (xB h), .ref (xS h), .ref (xT h), .int (gPc u), .int (gAs u), .int (gEn u), .int (gWa u)])), (xA h, .inl (h.2.1.1, 1024, .inl (gC u))), (xB h, .inr (0, [.ref (xR h)])), (xR h, .inl (h.2.1.2.1, 1024, .inl (gD u))), (xS h, .inr (1, [.ref (xB h)])), (xT h, .inl (h.2.1.2.2, 7, .inl (gN u)))])
/-- the reference's world: FlagCoreModel, code, data, count -/
abbrev HM : Type := va_G × (ClassId × ClassId × ClassId) × (Nat × Nat × Nat × Nat)
def mO (h : HM) : Nat := h.2.2.1
def mC (h : HM) : Nat := h.2.2.2.1
def mD (h : HM) : Nat := h.2.2.2.2.1
def mN (h : HM) : Nat := h.2.2.2.2.2
def EM (h : HM) : EV := (h.1, [(h.2.1.1, .int), (h.2.1.2.1, .int), (h.2.1.2.2, .int)], fun q => q = mO h ∨ q = mC h ∨ q = mD h ∨ q = mN h, fun u => [(mO h, .inr (3, [.ref (mC h), .ref (mD h), .int (gPc u), .int (gWa u), .int (gAs u), .int (gEn u), .ref (mN h), .int (gNx u)])), (mC h, .inl (h.2.1.1, 1024, .inl (gC u))), (mD h, .inl (h.2.1.2.1, 1024, .inl (gD u))), (mN h, .inl (h.2.1.2.2, 7, .inl (gN u)))])
section XR
variable {K : KT} {cc : ByteArray} {nL : Nat} {own : String} {Ts : List Cond} {rm : Room} {ret : Option FieldType} {T : ST × Option Value} {u : ST} {lv : List (Nat × Value)} {rest : List Value}
theorem x_get_cells {h : HX} (pc : Nat) (hC : Cx K (EX h) cc nL own Ts rm ret) {idx : Nat} (hin : ∀ w ∈ wsX40, w ∈ Ts) (hm : Cond.fieldLink own idx "FlagCore" "cells" "[I" ∈ Ts) (hdg : decode cc pc = .ok (.getfield idx, 3)) (kk : G K (EX h) nL T u (pc + 3) lv (.ref (xA h) :: rest)) : G K (EX h) nL T u pc lv (.ref (xO h) :: rest) := g_get pc hC hin 0 rfl rfl 0 (by decide) hm rfl hdg kk
theorem x_get_bytes {h : HX} (pc : Nat) (hC : Cx K (EX h) cc nL own Ts rm ret) {idx : Nat} (hin : ∀ w ∈ wsX40, w ∈ Ts) (hm : Cond.fieldLink own idx "FlagCore" "bytes" "LFlagCore$Bytes;" ∈ Ts) (hdg : decode cc pc = .ok (.getfield idx, 3)) (kk : G K (EX h) nL T u (pc + 3) lv (.ref (xB h) :: rest)) : G K (EX h) nL T u pc lv (.ref (xO h) :: rest) := g_get pc hC hin 0 rfl rfl 1 (by decide) hm rfl hdg kk
theorem x_get_sums {h : HX} (pc : Nat) (hC : Cx K (EX h) cc nL own Ts rm ret) {idx : Nat} (hin : ∀ w ∈ wsX40, w ∈ Ts) (hm : Cond.fieldLink own idx "FlagCore" "sums" "LFlagCore$Sums;" ∈ Ts) (hdg : decode cc pc = .ok (.getfield idx, 3)) (kk : G K (EX h) nL T u (pc + 3) lv (.ref (xS h) :: rest)) : G K (EX h) nL T u pc lv (.ref (xO h) :: rest) := g_get pc hC hin 0 rfl rfl 2 (by decide) hm rfl hdg kk
theorem x_get_tallies {h : HX} (pc : Nat) (hC : Cx K (EX h) cc nL own Ts rm ret) {idx : Nat} (hin : ∀ w ∈ wsX40, w ∈ Ts) (hm : Cond.fieldLink own idx "FlagCore" "tallies" "[I" ∈ Ts) (hdg : decode cc pc = .ok (.getfield idx, 3)) (kk : G K (EX h) nL T u (pc + 3) lv (.ref (xT h) :: rest)) : G K (EX h) nL T u pc lv (.ref (xO h) :: rest) := g_get pc hC hin 0 rfl rfl 3 (by decide) hm rfl hdg kk
theorem x_get_pc {h : HX} (pc : Nat) (hC : Cx K (EX h) cc nL own Ts rm ret) {idx : Nat} (hin : ∀ w ∈ wsX40, w ∈ Ts) (hm : Cond.fieldLink own idx "FlagCore" "pc" "I" ∈ Ts) (hdg : decode cc pc = .ok (.getfield idx, 3)) (kk : G K (EX h) nL T u (pc + 3) lv (.int (gPc u) :: rest)) : G K (EX h) nL T u pc lv (.ref (xO h) :: rest) := g_get pc hC hin 0 rfl rfl 4 (by decide) hm rfl hdg kk
theorem x_get_asked {h : HX} (pc : Nat) (hC : Cx K (EX h) cc nL own Ts rm ret) {idx : Nat} (hin : ∀ w ∈ wsX40, w ∈ Ts) (hm : Cond.fieldLink own idx "FlagCore" "asked" "I" ∈ Ts) (hdg : decode cc pc = .ok (.getfield idx, 3)) (kk : G K (EX h) nL T u (pc + 3) lv (.int (gAs u) :: rest)) : G K (EX h) nL T u pc lv (.ref (xO h) :: rest) := g_get pc hC hin 0 rfl rfl 5 (by decide) hm rfl hdg kk
theorem x_get_latest {h : HX} (pc : Nat) (hC : Cx K (EX h) cc nL own Ts rm ret) {idx : Nat} (hin : ∀ w ∈ wsX40, w ∈ Ts) (hm : Cond.fieldLink own idx "FlagCore" "latest" "I" ∈ Ts) (hdg : decode cc pc = .ok (.getfield idx, 3)) (kk : G K (EX h) nL T u (pc + 3) lv (.int (gEn u) :: rest)) : G K (EX h) nL T u pc lv (.ref (xO h) :: rest) := g_get pc hC hin 0 rfl rfl 6 (by decide) hm rfl hdg kk
theorem x_get_waiting {h : HX} (pc : Nat) (hC : Cx K (EX h) cc nL own Ts rm ret) {idx : Nat} (hin : ∀ w ∈ wsX40, w ∈ Ts) (hm : Cond.fieldLink own idx "FlagCore" "waiting" "Z" ∈ Ts) (hdg : decode cc pc = .ok (.getfield idx, 3)) (kk : G K (EX h) nL T u (pc + 3) lv (.int (gWa u) :: rest)) : G K (EX h) nL T u pc lv (.ref (xO h) :: rest) := g_get pc hC hin 0 rfl rfl 7 (by decide) hm rfl hdg kk
theorem x_get_row {h : HX} (pc : Nat) (hC : Cx K (EX h) cc nL own Ts rm ret) {idx : Nat} (hin : ∀ w ∈ wsX00, w ∈ Ts) (hm : Cond.fieldLink own idx "FlagCore$Bytes" "row" "[I" ∈ Ts) (hdg : decode cc pc = .ok (.getfield idx, 3)) (kk : G K (EX h) nL T u (pc + 3) lv (.ref (xR h) :: rest)) : G K (EX h) nL T u pc lv (.ref (xB h) :: rest) := g_get pc hC hin 2 rfl rfl 0 (by decide) hm rfl hdg kk
theorem x_get_sbytes {h : HX} (pc : Nat) (hC : Cx K (EX h) cc nL own Ts rm ret) {idx : Nat} (hin : ∀ w ∈ wsX20, w ∈ Ts) (hm : Cond.fieldLink own idx "FlagCore$Sums" "bytes" "LFlagCore$Bytes;" ∈ Ts) (hdg : decode cc pc = .ok (.getfield idx, 3)) (kk : G K (EX h) nL T u (pc + 3) lv (.ref (xB h) :: rest)) : G K (EX h) nL T u pc lv (.ref (xS h) :: rest) := g_get pc hC hin 4 rfl rfl 0 (by decide) hm rfl hdg kk
theorem x_put_pc {h : HX} (pc : Nat) (hC : Cx K (EX h) cc nL own Ts rm ret) {idx : Nat} {v : Int32} (hin : ∀ w ∈ wsX40, w ∈ Ts) (hm : Cond.fieldLink own idx "FlagCore" "pc" "I" ∈ Ts) (hdg : decode cc pc = .ok (.putfield idx, 3)) (kk : G K (EX h) nL T (sPc u v) (pc + 3) lv rest) : G K (EX h) nL T u pc lv (.int v :: .ref (xO h) :: rest) := g_put pc hC hin tyX4 tyX4_ok nmX4 0 rfl rfl 4 (by decide) hm rfl (ty := .int) (by decide +kernel) rfl rfl (by simp) (u2 := sPc u v) rfl hdg kk
theorem x_put_asked {h : HX} (pc : Nat) (hC : Cx K (EX h) cc nL own Ts rm ret) {idx : Nat} {v : Int32} (hin : ∀ w ∈ wsX40, w ∈ Ts) (hm : Cond.fieldLink own idx "FlagCore" "asked" "I" ∈ Ts) (hdg : decode cc pc = .ok (.putfield idx, 3)) (kk : G K (EX h) nL T (sAs u v) (pc + 3) lv rest) : G K (EX h) nL T u pc lv (.int v :: .ref (xO h) :: rest) := g_put pc hC hin tyX4 tyX4_ok nmX4 0 rfl rfl 5 (by decide) hm rfl (ty := .int) (by decide +kernel) rfl rfl (by simp) (u2 := sAs u v) rfl hdg kk
theorem x_put_latest {h : HX} (pc : Nat) (hC : Cx K (EX h) cc nL own Ts rm ret) {idx : Nat} {v : Int32} (hin : ∀ w ∈ wsX40, w ∈ Ts) (hm : Cond.fieldLink own idx "FlagCore" "latest" "I" ∈ Ts) (hdg : decode cc pc = .ok (.putfield idx, 3)) (kk : G K (EX h) nL T (sEn u v) (pc + 3) lv rest) : G K (EX h) nL T u pc lv (.int v :: .ref (xO h) :: rest) := g_put pc hC hin tyX4 tyX4_ok nmX4 0 rfl rfl 6 (by decide) hm rfl (ty := .int) (by decide +kernel) rfl rfl (by simp) (u2 := sEn u v) rfl hdg kk
theorem x_put_waiting {h : HX} (pc : Nat) (hC : Cx K (EX h) cc nL own Ts rm ret) {idx : Nat} {v : Int32} (hin : ∀ w ∈ wsX40, w ∈ Ts) (hm : Cond.fieldLink own idx "FlagCore" "waiting" "Z" ∈ Ts) (hn : isB v) (hdg : decode cc pc = .ok (.putfield idx, 3)) (kk : G K (EX h) nL T (sWa u v) (pc + 3) lv rest) : G K (EX h) nL T u pc lv (.int v :: .ref (xO h) :: rest) := g_put pc hC hin tyX4 tyX4_ok nmX4 0 rfl rfl 7 (by decide) hm rfl (ty := .boolean) (by decide +kernel) hn.nar hn.fit (by simp) (u2 := sWa u v) rfl hdg kk
theorem m_get_code {h : HM} (pc : Nat) (hC : Cx K (EM h) cc nL own Ts rm ret) {idx : Nat} (hin : ∀ w ∈ wsX50, w ∈ Ts) (hm : Cond.fieldLink own idx "FlagCoreModel" "code" "[I" ∈ Ts) (hdg : decode cc pc = .ok (.getfield idx, 3)) (kk : G K (EM h) nL T u (pc + 3) lv (.ref (mC h) :: rest)) : G K (EM h) nL T u pc lv (.ref (mO h) :: rest) := g_get pc hC hin 0 rfl rfl 0 (by decide) hm rfl hdg kk
theorem m_get_data {h : HM} (pc : Nat) (hC : Cx K (EM h) cc nL own Ts rm ret) {idx : Nat} (hin : ∀ w ∈ wsX50, w ∈ Ts) (hm : Cond.fieldLink own idx "FlagCoreModel" "data" "[I" ∈ Ts) (hdg : decode cc pc = .ok (.getfield idx, 3)) (kk : G K (EM h) nL T u (pc + 3) lv (.ref (mD h) :: rest)) : G K (EM h) nL T u pc lv (.ref (mO h) :: rest) := g_get pc hC hin 0 rfl rfl 1 (by decide) hm rfl hdg kk
theorem m_get_pc {h : HM} (pc : Nat) (hC : Cx K (EM h) cc nL own Ts rm ret) {idx : Nat} (hin : ∀ w ∈ wsX50, w ∈ Ts) (hm : Cond.fieldLink own idx "FlagCoreModel" "pc" "I" ∈ Ts) (hdg : decode cc pc = .ok (.getfield idx, 3)) (kk : G K (EM h) nL T u (pc + 3) lv (.int (gPc u) :: rest)) : G K (EM h) nL T u pc lv (.ref (mO h) :: rest) := g_get pc hC hin 0 rfl rfl 2 (by decide) hm rfl hdg kk
theorem m_get_isWaited {h : HM} (pc : Nat) (hC : Cx K (EM h) cc nL own Ts rm ret) {idx : Nat} (hin : ∀ w ∈ wsX50, w ∈ Ts) (hm : Cond.fieldLink own idx "FlagCoreModel" "isWaited" "Z" ∈ Ts) (hdg : decode cc pc = .ok (.getfield idx, 3)) (kk : G K (EM h) nL T u (pc + 3) lv (.int (gWa u) :: rest)) : G K (EM h) nL T u pc lv (.ref (mO h) :: rest) := g_get pc hC hin 0 rfl rfl 3 (by decide) hm rfl hdg kk
theorem m_get_asked {h : HM} (pc : Nat) (hC : Cx K (EM h) cc nL own Ts rm ret) {idx : Nat} (hin : ∀ w ∈ wsX50, w ∈ Ts) (hm : Cond.fieldLink own idx "FlagCoreModel" "asked" "I" ∈ Ts) (hdg : decode cc pc = .ok (.getfield idx, 3)) (kk : G K (EM h) nL T u (pc + 3) lv (.int (gAs u) :: rest)) : G K (EM h) nL T u pc lv (.ref (mO h) :: rest) := g_get pc hC hin 0 rfl rfl 4 (by decide) hm rfl hdg kk
theorem m_get_ended {h : HM} (pc : Nat) (hC : Cx K (EM h) cc nL own Ts rm ret) {idx : Nat} (hin : ∀ w ∈ wsX50, w ∈ Ts) (hm : Cond.fieldLink own idx "FlagCoreModel" "ended" "I" ∈ Ts) (hdg : decode cc pc = .ok (.getfield idx, 3)) (kk : G K (EM h) nL T u (pc + 3) lv (.int (gEn u) :: rest)) : G K (EM h) nL T u pc lv (.ref (mO h) :: rest) := g_get pc hC hin 0 rfl rfl 5 (by decide) hm rfl hdg kk
theorem m_get_count {h : HM} (pc : Nat) (hC : Cx K (EM h) cc nL own Ts rm ret) {idx : Nat} (hin : ∀ w ∈ wsX50, w ∈ Ts) (hm : Cond.fieldLink own idx "FlagCoreModel" "count" "[I" ∈ Ts) (hdg : decode cc pc = .ok (.getfield idx, 3)) (kk : G K (EM h) nL T u (pc + 3) lv (.ref (mN h) :: rest)) : G K (EM h) nL T u pc lv (.ref (mO h) :: rest) := g_get pc hC hin 0 rfl rfl 6 (by decide) hm rfl hdg kk
theorem m_get_next {h : HM} (pc : Nat) (hC : Cx K (EM h) cc nL own Ts rm ret) {idx : Nat} (hin : ∀ w ∈ wsX50, w ∈ Ts) (hm : Cond.fieldLink own idx "FlagCoreModel" "next" "I" ∈ Ts) (hdg : decode cc pc = .ok (.getfield idx, 3)) (kk : G K (EM h) nL T u (pc + 3) lv (.int (gNx u) :: rest)) : G K (EM h) nL T u pc lv (.ref (mO h) :: rest) := g_get pc hC hin 0 rfl rfl 7 (by decide) hm rfl hdg kk
theorem m_put_pc {h : HM} (pc : Nat) (hC : Cx K (EM h) cc nL own Ts rm ret) {idx : Nat} {v : Int32} (hin : ∀ w ∈ wsX50, w ∈ Ts) (hm : Cond.fieldLink own idx "FlagCoreModel" "pc" "I" ∈ Ts) (hdg : decode cc pc = .ok (.putfield idx, 3)) (kk : G K (EM h) nL T (sPc u v) (pc + 3) lv rest) : G K (EM h) nL T u pc lv (.int v :: .ref (mO h) :: rest) := g_put pc hC hin tyX5 tyX5_ok nmX5 0 rfl rfl 2 (by decide) hm rfl (ty := .int) (by decide +kernel) rfl rfl (by simp) (u2 := sPc u v) rfl hdg kk
theorem m_put_isWaited {h : HM} (pc : Nat) (hC : Cx K (EM h) cc nL own Ts rm ret) {idx : Nat} {v : Int32} (hin : ∀ w ∈ wsX50, w ∈ Ts) (hm : Cond.fieldLink own idx "FlagCoreModel" "isWaited" "Z" ∈ Ts) (hn : isB v) (hdg : decode cc pc = .ok (.putfield idx, 3)) (kk : G K (EM h) nL T (sWa u v) (pc + 3) lv rest) : G K (EM h) nL T u pc lv (.int v :: .ref (mO h) :: rest) := g_put pc hC hin tyX5 tyX5_ok nmX5 0 rfl rfl 3 (by decide) hm rfl (ty := .boolean) (by decide +kernel) hn.nar hn.fit (by simp) (u2 := sWa u v) rfl hdg kk
theorem m_put_asked {h : HM} (pc : Nat) (hC : Cx K (EM h) cc nL own Ts rm ret) {idx : Nat} {v : Int32} (hin : ∀ w ∈ wsX50, w ∈ Ts) (hm : Cond.fieldLink own idx "FlagCoreModel" "asked" "I" ∈ Ts) (hdg : decode cc pc = .ok (.putfield idx, 3)) (kk : G K (EM h) nL T (sAs u v) (pc + 3) lv rest) : G K (EM h) nL T u pc lv (.int v :: .ref (mO h) :: rest) := g_put pc hC hin tyX5 tyX5_ok nmX5 0 rfl rfl 4 (by decide) hm rfl (ty := .int) (by decide +kernel) rfl rfl (by simp) (u2 := sAs u v) rfl hdg kk
theorem m_put_ended {h : HM} (pc : Nat) (hC : Cx K (EM h) cc nL own Ts rm ret) {idx : Nat} {v : Int32} (hin : ∀ w ∈ wsX50, w ∈ Ts) (hm : Cond.fieldLink own idx "FlagCoreModel" "ended" "I" ∈ Ts) (hdg : decode cc pc = .ok (.putfield idx, 3)) (kk : G K (EM h) nL T (sEn u v) (pc + 3) lv rest) : G K (EM h) nL T u pc lv (.int v :: .ref (mO h) :: rest) := g_put pc hC hin tyX5 tyX5_ok nmX5 0 rfl rfl 5 (by decide) hm rfl (ty := .int) (by decide +kernel) rfl rfl (by simp) (u2 := sEn u v) rfl hdg kk
theorem m_put_next {h : HM} (pc : Nat) (hC : Cx K (EM h) cc nL own Ts rm ret) {idx : Nat} {v : Int32} (hin : ∀ w ∈ wsX50, w ∈ Ts) (hm : Cond.fieldLink own idx "FlagCoreModel" "next" "I" ∈ Ts) (hdg : decode cc pc = .ok (.putfield idx, 3)) (kk : G K (EM h) nL T (sNx u v) (pc + 3) lv rest) : G K (EM h) nL T u pc lv (.int v :: .ref (mO h) :: rest) := g_put pc hC hin tyX5 tyX5_ok nmX5 0 rfl rfl 7 (by decide) hm rfl (ty := .int) (by decide +kernel) rfl rfl (by simp) (u2 := sNx u v) rfl hdg kk
theorem x_ldC {h : HX} (pc : Nat) (hC : Cx K (EX h) cc nL own Ts rm ret) {i : Int32} (hin : vp_in i 1024) (hdg : decode cc pc = .ok (.iaload, 1)) (kk : G K (EX h) nL T u (pc + 1) lv (.int (rC u i) :: rest)) : G K (EX h) nL T u pc lv (.int i :: .ref (xA h) :: rest) := g_iald pc hC 1 0 rfl rfl hin hdg kk
theorem x_stC {h : HX} (pc : Nat) (hC : Cx K (EX h) cc nL own Ts rm ret) {i x : Int32} (hin : vp_in i 1024) (hdg : decode cc pc = .ok (.iastore, 1)) (kk : G K (EX h) nL T (wC u i x) (pc + 1) lv rest) : G K (EX h) nL T u pc lv (.int x :: .int i :: .ref (xA h) :: rest) := g_iast pc hC 1 0 rfl rfl hin (u2 := wC u i x) rfl hdg kk
theorem x_ldD {h : HX} (pc : Nat) (hC : Cx K (EX h) cc nL own Ts rm ret) {i : Int32} (hin : vp_in i 1024) (hdg : decode cc pc = .ok (.iaload, 1)) (kk : G K (EX h) nL T u (pc + 1) lv (.int (rD u i) :: rest)) : G K (EX h) nL T u pc lv (.int i :: .ref (xR h) :: rest) := g_iald pc hC 3 1 rfl rfl hin hdg kk
theorem x_stD {h : HX} (pc : Nat) (hC : Cx K (EX h) cc nL own Ts rm ret) {i x : Int32} (hin : vp_in i 1024) (hdg : decode cc pc = .ok (.iastore, 1)) (kk : G K (EX h) nL T (wD u i x) (pc + 1) lv rest) : G K (EX h) nL T u pc lv (.int x :: .int i :: .ref (xR h) :: rest) := g_iast pc hC 3 1 rfl rfl hin (u2 := wD u i x) rfl hdg kk
theorem x_ldN {h : HX} (pc : Nat) (hC : Cx K (EX h) cc nL own Ts rm ret) {i : Int32} (hin : vp_in i 7) (hdg : decode cc pc = .ok (.iaload, 1)) (kk : G K (EX h) nL T u (pc + 1) lv (.int (rN u i) :: rest)) : G K (EX h) nL T u pc lv (.int i :: .ref (xT h) :: rest) := g_iald pc hC 5 2 rfl rfl hin hdg kk
theorem x_stN {h : HX} (pc : Nat) (hC : Cx K (EX h) cc nL own Ts rm ret) {i x : Int32} (hin : vp_in i 7) (hdg : decode cc pc = .ok (.iastore, 1)) (kk : G K (EX h) nL T (wN u i x) (pc + 1) lv rest) : G K (EX h) nL T u pc lv (.int x :: .int i :: .ref (xT h) :: rest) := g_iast pc hC 5 2 rfl rfl hin (u2 := wN u i x) rfl hdg kk
theorem m_ldC {h : HM} (pc : Nat) (hC : Cx K (EM h) cc nL own Ts rm ret) {i : Int32} (hin : vp_in i 1024) (hdg : decode cc pc = .ok (.iaload, 1)) (kk : G K (EM h) nL T u (pc + 1) lv (.int (rC u i) :: rest)) : G K (EM h) nL T u pc lv (.int i :: .ref (mC h) :: rest) := g_iald pc hC 1 0 rfl rfl hin hdg kk
theorem m_stC {h : HM} (pc : Nat) (hC : Cx K (EM h) cc nL own Ts rm ret) {i x : Int32} (hin : vp_in i 1024) (hdg : decode cc pc = .ok (.iastore, 1)) (kk : G K (EM h) nL T (wC u i x) (pc + 1) lv rest) : G K (EM h) nL T u pc lv (.int x :: .int i :: .ref (mC h) :: rest) := g_iast pc hC 1 0 rfl rfl hin (u2 := wC u i x) rfl hdg kk
theorem m_ldD {h : HM} (pc : Nat) (hC : Cx K (EM h) cc nL own Ts rm ret) {i : Int32} (hin : vp_in i 1024) (hdg : decode cc pc = .ok (.iaload, 1)) (kk : G K (EM h) nL T u (pc + 1) lv (.int (rD u i) :: rest)) : G K (EM h) nL T u pc lv (.int i :: .ref (mD h) :: rest) := g_iald pc hC 2 1 rfl rfl hin hdg kk
theorem m_stD {h : HM} (pc : Nat) (hC : Cx K (EM h) cc nL own Ts rm ret) {i x : Int32} (hin : vp_in i 1024) (hdg : decode cc pc = .ok (.iastore, 1)) (kk : G K (EM h) nL T (wD u i x) (pc + 1) lv rest) : G K (EM h) nL T u pc lv (.int x :: .int i :: .ref (mD h) :: rest) := g_iast pc hC 2 1 rfl rfl hin (u2 := wD u i x) rfl hdg kk
theorem m_ldN {h : HM} (pc : Nat) (hC : Cx K (EM h) cc nL own Ts rm ret) {i : Int32} (hin : vp_in i 7) (hdg : decode cc pc = .ok (.iaload, 1)) (kk : G K (EM h) nL T u (pc + 1) lv (.int (rN u i) :: rest)) : G K (EM h) nL T u pc lv (.int i :: .ref (mN h) :: rest) := g_iald pc hC 3 2 rfl rfl hin hdg kk
theorem m_stN {h : HM} (pc : Nat) (hC : Cx K (EM h) cc nL own Ts rm ret) {i x : Int32} (hin : vp_in i 7) (hdg : decode cc pc = .ok (.iastore, 1)) (kk : G K (EM h) nL T (wN u i x) (pc + 1) lv rest) : G K (EM h) nL T u pc lv (.int x :: .int i :: .ref (mN h) :: rest) := g_iast pc hC 3 2 rfl rfl hin (u2 := wN u i x) rfl hdg kk
end XR
