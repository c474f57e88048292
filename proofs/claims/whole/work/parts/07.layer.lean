/-! the layer: one state for the class and for the reference, one judgement for a walk, one form for a contract -/
abbrev ST : Type := (Nat → Int32) × (Nat → Int32) × (Nat → Int32) × Int32 × Int32 × Int32 × Int32 × Int32
def gC (u : ST) : Nat → Int32 := u.1
def gD (u : ST) : Nat → Int32 := u.2.1
def gN (u : ST) : Nat → Int32 := u.2.2.1
def gPc (u : ST) : Int32 := u.2.2.2.1
def gAs (u : ST) : Int32 := u.2.2.2.2.1
def gEn (u : ST) : Int32 := u.2.2.2.2.2.1
def gWa (u : ST) : Int32 := u.2.2.2.2.2.2.1
def gNx (u : ST) : Int32 := u.2.2.2.2.2.2.2
def sC (u : ST) (f : Nat → Int32) : ST := (f, gD u, gN u, gPc u, gAs u, gEn u, gWa u, gNx u)
def sD (u : ST) (f : Nat → Int32) : ST := (gC u, f, gN u, gPc u, gAs u, gEn u, gWa u, gNx u)
def sN (u : ST) (f : Nat → Int32) : ST := (gC u, gD u, f, gPc u, gAs u, gEn u, gWa u, gNx u)
def sPc (u : ST) (v : Int32) : ST := (gC u, gD u, gN u, v, gAs u, gEn u, gWa u, gNx u)
def sAs (u : ST) (v : Int32) : ST := (gC u, gD u, gN u, gPc u, v, gEn u, gWa u, gNx u)
def sEn (u : ST) (v : Int32) : ST := (gC u, gD u, gN u, gPc u, gAs u, v, gWa u, gNx u)
def sWa (u : ST) (v : Int32) : ST := (gC u, gD u, gN u, gPc u, gAs u, gEn u, v, gNx u)
def sNx (u : ST) (v : Int32) : ST := (gC u, gD u, gN u, gPc u, gAs u, gEn u, gWa u, v)
/-- places of the three rows -/
def rC (u : ST) (i : Int32) : Int32 := gC u i.toNatClampNeg
def rD (u : ST) (i : Int32) : Int32 := gD u i.toNatClampNeg
def rN (u : ST) (i : Int32) : Int32 := gN u i.toNatClampNeg
def wC (u : ST) (i x : Int32) : ST := sC u (upd (gC u) i.toNatClampNeg x)
def wD (u : ST) (i x : Int32) : ST := sD u (upd (gD u) i.toNatClampNeg x)
def wN (u : ST) (i x : Int32) : ST := sN u (upd (gN u) i.toNatClampNeg x)
/-- int shifts, as the machine does them -/
def jshl (x y : Int32) : Int32 := x <<< (y &&& 31)
def jshr (x y : Int32) : Int32 := x >>> (y &&& 31)
def jushr (x y : Int32) : Int32 := (x.toUInt32 >>> (y.toUInt32 &&& Int32.toUInt32 31)).toInt32
/-- an environment: class numbers, array classes, what may be written, the world of a state -/
abbrev EV : Type := va_G × List (ClassId × FieldType) × (Nat → Prop) × (ST → va_W)
def okE (E : EV) : Prop := ∀ u, va_D E.2.2.1 (E.2.2.2 u)
def Qx (E : EV) (u' : ST) (ov : Option Value) : Array Value → State → Outcome → State → Prop := fun _ st oc t => oc = .returned ov ∧ va_P E.1 vwCl (E.2.2.2 u') t.heap ∧ va_F E.2.2.1 st t
def Px (E : EV) (u : ST) (av : List Value) : Array Value → State → Prop := fun v U => v = av.toArray ∧ va_P E.1 vwCl (E.2.2.2 u) U.heap ∧ va_K E.1 vwCl E.2.1 U
/-- a contract: from the state u with the arguments av, the method answers r and leaves u' -/
def MX (E : EV) (y : MethodName) (ws : List Cond) (rm : Room) (av : List Value) (u : ST) (T : ST × Option Value) : Prop :=
  ∀ l : Launch, Met l y ws rm (Px E u av) (Qx E T.1 T.2) 0 0 E.2.2.1
abbrev KT : Type := Program × Launch × Env × Room × State × MethodId × Array Value × List Frame × Method × Code
def G (K : KT) (E : EV) (nL : Nat) (T : ST × Option Value) (u : ST) (pc : Nat) (lv : List (Nat × Value)) (st : List Value) : Prop :=
  match K with
  | (p, l, e, R, s, m, args, below, meth, c) => ∀ (H : Heap) (locs : List Loc) (ls : Array Slot), va_P E.1 vwCl (E.2.2.2 u) H → va_S E.2.2.1 s.heap H locs → lv_has ls nL lv →
      W p l e R s m args below meth c H locs 0 0 (MQ below (Qx E T.1 T.2) args s 0 0 E.2.2.1) (F0 m pc ls st)
def Cx (K : KT) (E : EV) (cc : ByteArray) (nL : Nat) (own : String) (Ts : List Cond) (rm : Room) (ret : Option FieldType) : Prop :=
  match K with
  | (p, _, _, R, s, m, args, _, meth, c) => CallFix p m c cc nL s args Ts own ∧ R = rm ∧ meth.sig.returnType = ret ∧ va_K E.1 vwCl E.2.1 s ∧ okE E ∧ meth.locks = false
/-- the three kinds of end: an answer alone, a new state and an answer, a new state -/
abbrev tR (u : ST) (x : Int32) : ST × Option Value := (u, some (.int x))
abbrev tW (q : ST × Int32) : ST × Option Value := (q.1, some (.int q.2))
abbrev tS (u : ST) : ST × Option Value := (u, none)
theorem MX.of {E : EV} {y : MethodName} {ws ws' : List Cond} {rm : Room} {av : List Value} {u : ST} {T : ST × Option Value} {cc : ByteArray} {maxL : Nat} {ret : Option FieldType} {lv : List (Nat × Value)} (hE : okE E) (hy : plainName y.cls = true) (hw : ws = Cond.code y cc maxL ret :: ws') (hrm : ∀ w, (headSpec w rm).room = rm) (hlen : (lg_sl av).length ≤ maxL) (hlv : lv_args 0 av = lv)
    (h : ∀ K : KT, Cx K E cc maxL y.cls ws rm ret → G K E maxL T u 0 lv []) : MX E y ws rm av u T := by
  intro l
  refine Met.ofW (cc := cc) (maxL := maxL) (ret := ret) hy hw ?_
  intro p e s m args below meth c s₁ B hml hv
  obtain ⟨rfl, hP, hK⟩ := hv
  have h1 := h (p, l, e, (headSpec ws rm).room, s, m, av.toArray, below, meth, c) ⟨⟨B.exec, B.bytes, hml, findClass_of_methodNamed B.named, atoms_spec (ws := ws) B.pre⟩, hrm _, B.returns, hK, hE, B.notSynchronized⟩
  rw [lg_entry_eq]
  exact h1 s.heap [] _ hP va_S.rf (hlv ▸ lv_entry av hlen)
section GR
variable {K : KT} {E : EV} {cc : ByteArray} {nL : Nat} {own : String} {Ts : List Cond} {rm : Room} {ret : Option FieldType} {T : ST × Option Value} {u : ST} {lv : List (Nat × Value)} {rest : List Value}
theorem g_iconst (pc : Nat) (hC : Cx K E cc nL own Ts rm ret) {n : Int} (v : Int32) (hdg : decode cc pc = .ok (.iconst n, 1)) (hv : Int32.ofInt n = v) (k : G K E nL T u (pc + 1) lv (.int v :: rest)) : G K E nL T u pc lv rest := by
  obtain ⟨p, l, e, R, s, m, args, below, meth, c⟩ := K
  obtain ⟨⟨hx, hb, hml, hown, hts⟩, hR, hr, hK, hE, hlk⟩ := hC
  exact fun H locs ls hP hS hl => lv_iconst hx hb hdg hv (k H locs ls hP hS hl)
theorem g_bipush (pc : Nat) (hC : Cx K E cc nL own Ts rm ret) {n : Int} (v : Int32) (hdg : decode cc pc = .ok (.bipush n, 2)) (hv : (Int8.ofInt n).toInt32 = v) (k : G K E nL T u (pc + 2) lv (.int v :: rest)) : G K E nL T u pc lv rest := by
  obtain ⟨p, l, e, R, s, m, args, below, meth, c⟩ := K
  obtain ⟨⟨hx, hb, hml, hown, hts⟩, hR, hr, hK, hE, hlk⟩ := hC
  exact fun H locs ls hP hS hl => lv_bipush hx hb hdg hv (k H locs ls hP hS hl)
theorem g_sipush (pc : Nat) (hC : Cx K E cc nL own Ts rm ret) {n : Int} (v : Int32) (hdg : decode cc pc = .ok (.sipush n, 3)) (hv : (Int16.ofInt n).toInt32 = v) (k : G K E nL T u (pc + 3) lv (.int v :: rest)) : G K E nL T u pc lv rest := by
  obtain ⟨p, l, e, R, s, m, args, below, meth, c⟩ := K
  obtain ⟨⟨hx, hb, hml, hown, hts⟩, hR, hr, hK, hE, hlk⟩ := hC
  exact fun H locs ls hP hS hl => lv_sipush hx hb hdg hv (k H locs ls hP hS hl)
theorem g_ldc (pc : Nat) (hC : Cx K E cc nL own Ts rm ret) {idx : Nat} (v : Int32) (hdg : decode cc pc = .ok (.ldc idx, 2)) (hm : Jvm.Cond.constant own idx v ∈ Ts) (k : G K E nL T u (pc + 2) lv (.int v :: rest)) : G K E nL T u pc lv rest := by
  obtain ⟨p, l, e, R, s, m, args, below, meth, c⟩ := K
  obtain ⟨⟨hx, hb, hml, hown, hts⟩, hR, hr, hK, hE, hlk⟩ := hC
  exact fun H locs ls hP hS hl => lv_ldc hx hb hown (hts _ hm) hdg (k H locs ls hP hS hl)
theorem g_iload_n (pc : Nat) (hC : Cx K E cc nL own Ts rm ret) {q : Fin 4} {x : Int32} (hdg : decode cc pc = .ok (.iload_n q, 1)) (j : Nat) (hk : lv[j]? = some ((q : Nat), .int x)) (k : G K E nL T u (pc + 1) lv (.int x :: rest)) : G K E nL T u pc lv rest := by
  obtain ⟨p, l, e, R, s, m, args, below, meth, c⟩ := K
  obtain ⟨⟨hx, hb, hml, hown, hts⟩, hR, hr, hK, hE, hlk⟩ := hC
  exact fun H locs ls hP hS hl => lv_iload_n hx hb hdg rfl (lv_at hl j hk) (k H locs ls hP hS hl)
theorem g_iload (pc : Nat) (hC : Cx K E cc nL own Ts rm ret) {q : Nat} {x : Int32} (hdg : decode cc pc = .ok (.iload q, 2)) (j : Nat) (hk : lv[j]? = some (q, .int x)) (k : G K E nL T u (pc + 2) lv (.int x :: rest)) : G K E nL T u pc lv rest := by
  obtain ⟨p, l, e, R, s, m, args, below, meth, c⟩ := K
  obtain ⟨⟨hx, hb, hml, hown, hts⟩, hR, hr, hK, hE, hlk⟩ := hC
  exact fun H locs ls hP hS hl => lv_iload hx hb hdg (lv_at hl j hk) (k H locs ls hP hS hl)
theorem g_aload_n (pc : Nat) (hC : Cx K E cc nL own Ts rm ret) {q : Fin 4} {x : Nat} (hdg : decode cc pc = .ok (.aload_n q, 1)) (j : Nat) (hk : lv[j]? = some ((q : Nat), .ref x)) (k : G K E nL T u (pc + 1) lv (.ref x :: rest)) : G K E nL T u pc lv rest := by
  obtain ⟨p, l, e, R, s, m, args, below, meth, c⟩ := K
  obtain ⟨⟨hx, hb, hml, hown, hts⟩, hR, hr, hK, hE, hlk⟩ := hC
  exact fun H locs ls hP hS hl => lv_aload_n hx hb hdg rfl (lv_at hl j hk) (k H locs ls hP hS hl)
theorem g_istore_n (pc : Nat) (hC : Cx K E cc nL own Ts rm ret) {q : Fin 4} {x : Int32} (hdg : decode cc pc = .ok (.istore_n q, 1)) (hn : (q : Nat) < nL) (lv' : List (Nat × Value)) (hl' : ((q : Nat), Value.int x) :: lv.filter (fun z => !(z.1 == (q : Nat)) && !(z.1 + 1 == (q : Nat) && z.2.category == 2)) = lv') (k : G K E nL T u (pc + 1) lv' rest) : G K E nL T u pc lv (.int x :: rest) := by
  obtain ⟨p, l, e, R, s, m, args, below, meth, c⟩ := K
  obtain ⟨⟨hx, hb, hml, hown, hts⟩, hR, hr, hK, hE, hlk⟩ := hC
  exact fun H locs ls hP hS hl => lv_istore_n hx hb hdg rfl hl hn hl' (fun ls hl => k H locs ls hP hS hl)
theorem g_istore (pc : Nat) (hC : Cx K E cc nL own Ts rm ret) {q : Nat} {x : Int32} (hdg : decode cc pc = .ok (.istore q, 2)) (hn : q < nL) (lv' : List (Nat × Value)) (hl' : (q, Value.int x) :: lv.filter (fun z => !(z.1 == q) && !(z.1 + 1 == q && z.2.category == 2)) = lv') (k : G K E nL T u (pc + 2) lv' rest) : G K E nL T u pc lv (.int x :: rest) := by
  obtain ⟨p, l, e, R, s, m, args, below, meth, c⟩ := K
  obtain ⟨⟨hx, hb, hml, hown, hts⟩, hR, hr, hK, hE, hlk⟩ := hC
  exact fun H locs ls hP hS hl => lv_istore hx hb hdg hl hn hl' (fun ls hl => k H locs ls hP hS hl)
theorem g_iinc (pc : Nat) (hC : Cx K E cc nL own Ts rm ret) {q : Nat} {n : Int} {x : Int32} (v : Int32) (hdg : decode cc pc = .ok (.iinc q n, 3)) (hn : q < nL) (j : Nat) (hk : lv[j]? = some (q, .int x)) (hv : x + Int32.ofInt n = v) (lv' : List (Nat × Value)) (hl' : (q, Value.int v) :: lv.filter (fun z => !(z.1 == q) && !(z.1 + 1 == q && z.2.category == 2)) = lv') (k : G K E nL T u (pc + 3) lv' rest) : G K E nL T u pc lv rest := by
  obtain ⟨p, l, e, R, s, m, args, below, meth, c⟩ := K
  obtain ⟨⟨hx, hb, hml, hown, hts⟩, hR, hr, hK, hE, hlk⟩ := hC
  exact fun H locs ls hP hS hl => lv_iinc hx hb hdg hl hk hv hn hl' (fun ls hl => k H locs ls hP hS hl)
theorem g_iadd (pc : Nat) (hC : Cx K E cc nL own Ts rm ret) {x y : Int32} (hdg : decode cc pc = .ok (.iadd, 1)) (k : G K E nL T u (pc + 1) lv (.int (x + y) :: rest)) : G K E nL T u pc lv (.int y :: .int x :: rest) := by
  obtain ⟨p, l, e, R, s, m, args, below, meth, c⟩ := K
  obtain ⟨⟨hx, hb, hml, hown, hts⟩, hR, hr, hK, hE, hlk⟩ := hC
  exact fun H locs ls hP hS hl => lv_iadd hx hb hdg (k H locs ls hP hS hl)
theorem g_isub (pc : Nat) (hC : Cx K E cc nL own Ts rm ret) {x y : Int32} (hdg : decode cc pc = .ok (.isub, 1)) (k : G K E nL T u (pc + 1) lv (.int (x - y) :: rest)) : G K E nL T u pc lv (.int y :: .int x :: rest) := by
  obtain ⟨p, l, e, R, s, m, args, below, meth, c⟩ := K
  obtain ⟨⟨hx, hb, hml, hown, hts⟩, hR, hr, hK, hE, hlk⟩ := hC
  exact fun H locs ls hP hS hl => lv_isub hx hb hdg (k H locs ls hP hS hl)
theorem g_imul (pc : Nat) (hC : Cx K E cc nL own Ts rm ret) {x y : Int32} (hdg : decode cc pc = .ok (.imul, 1)) (k : G K E nL T u (pc + 1) lv (.int (x * y) :: rest)) : G K E nL T u pc lv (.int y :: .int x :: rest) := by
  obtain ⟨p, l, e, R, s, m, args, below, meth, c⟩ := K
  obtain ⟨⟨hx, hb, hml, hown, hts⟩, hR, hr, hK, hE, hlk⟩ := hC
  exact fun H locs ls hP hS hl => lv_imul hx hb hdg (k H locs ls hP hS hl)
theorem g_iand (pc : Nat) (hC : Cx K E cc nL own Ts rm ret) {x y : Int32} (hdg : decode cc pc = .ok (.iand, 1)) (k : G K E nL T u (pc + 1) lv (.int (x &&& y) :: rest)) : G K E nL T u pc lv (.int y :: .int x :: rest) := by
  obtain ⟨p, l, e, R, s, m, args, below, meth, c⟩ := K
  obtain ⟨⟨hx, hb, hml, hown, hts⟩, hR, hr, hK, hE, hlk⟩ := hC
  exact fun H locs ls hP hS hl => lv_iand hx hb hdg (k H locs ls hP hS hl)
theorem g_ior (pc : Nat) (hC : Cx K E cc nL own Ts rm ret) {x y : Int32} (hdg : decode cc pc = .ok (.ior, 1)) (k : G K E nL T u (pc + 1) lv (.int (x ||| y) :: rest)) : G K E nL T u pc lv (.int y :: .int x :: rest) := by
  obtain ⟨p, l, e, R, s, m, args, below, meth, c⟩ := K
  obtain ⟨⟨hx, hb, hml, hown, hts⟩, hR, hr, hK, hE, hlk⟩ := hC
  exact fun H locs ls hP hS hl => lv_ior hx hb hdg (k H locs ls hP hS hl)
theorem g_ixor (pc : Nat) (hC : Cx K E cc nL own Ts rm ret) {x y : Int32} (hdg : decode cc pc = .ok (.ixor, 1)) (k : G K E nL T u (pc + 1) lv (.int (x ^^^ y) :: rest)) : G K E nL T u pc lv (.int y :: .int x :: rest) := by
  obtain ⟨p, l, e, R, s, m, args, below, meth, c⟩ := K
  obtain ⟨⟨hx, hb, hml, hown, hts⟩, hR, hr, hK, hE, hlk⟩ := hC
  exact fun H locs ls hP hS hl => lv_ixor hx hb hdg (k H locs ls hP hS hl)
theorem g_ishl (pc : Nat) (hC : Cx K E cc nL own Ts rm ret) {x y : Int32} (hdg : decode cc pc = .ok (.ishl, 1)) (k : G K E nL T u (pc + 1) lv (.int (jshl x y) :: rest)) : G K E nL T u pc lv (.int y :: .int x :: rest) := by
  obtain ⟨p, l, e, R, s, m, args, below, meth, c⟩ := K
  obtain ⟨⟨hx, hb, hml, hown, hts⟩, hR, hr, hK, hE, hlk⟩ := hC
  exact fun H locs ls hP hS hl => lv_ishl hx hb hdg (k H locs ls hP hS hl)
theorem g_ishr (pc : Nat) (hC : Cx K E cc nL own Ts rm ret) {x y : Int32} (hdg : decode cc pc = .ok (.ishr, 1)) (k : G K E nL T u (pc + 1) lv (.int (jshr x y) :: rest)) : G K E nL T u pc lv (.int y :: .int x :: rest) := by
  obtain ⟨p, l, e, R, s, m, args, below, meth, c⟩ := K
  obtain ⟨⟨hx, hb, hml, hown, hts⟩, hR, hr, hK, hE, hlk⟩ := hC
  exact fun H locs ls hP hS hl => lv_ishr hx hb hdg (k H locs ls hP hS hl)
theorem g_iushr (pc : Nat) (hC : Cx K E cc nL own Ts rm ret) {x y : Int32} (hdg : decode cc pc = .ok (.iushr, 1)) (k : G K E nL T u (pc + 1) lv (.int (jushr x y) :: rest)) : G K E nL T u pc lv (.int y :: .int x :: rest) := by
  obtain ⟨p, l, e, R, s, m, args, below, meth, c⟩ := K
  obtain ⟨⟨hx, hb, hml, hown, hts⟩, hR, hr, hK, hE, hlk⟩ := hC
  exact fun H locs ls hP hS hl => lv_iushr hx hb hdg rfl (k H locs ls hP hS hl)
theorem g_i2b (pc : Nat) (hC : Cx K E cc nL own Ts rm ret) {x : Int32} (hdg : decode cc pc = .ok (.i2b, 1)) (k : G K E nL T u (pc + 1) lv (.int x.toInt8.toInt32 :: rest)) : G K E nL T u pc lv (.int x :: rest) := by
  obtain ⟨p, l, e, R, s, m, args, below, meth, c⟩ := K
  obtain ⟨⟨hx, hb, hml, hown, hts⟩, hR, hr, hK, hE, hlk⟩ := hC
  exact fun H locs ls hP hS hl => lv_i2b hx hb hdg rfl (k H locs ls hP hS hl)
theorem g_dup (pc : Nat) (hC : Cx K E cc nL own Ts rm ret) {v : Value} (hdg : decode cc pc = .ok (.dup, 1)) (hv : v.category = 1) (k : G K E nL T u (pc + 1) lv (v :: v :: rest)) : G K E nL T u pc lv (v :: rest) := by
  obtain ⟨p, l, e, R, s, m, args, below, meth, c⟩ := K
  obtain ⟨⟨hx, hb, hml, hown, hts⟩, hR, hr, hK, hE, hlk⟩ := hC
  exact fun H locs ls hP hS hl => lv_dup hx hb hdg hv (k H locs ls hP hS hl)
theorem g_dup2 (pc : Nat) (hC : Cx K E cc nL own Ts rm ret) {v w : Value} (hdg : decode cc pc = .ok (.dup2, 1)) (hv : v.category = 1) (hw : w.category = 1) (k : G K E nL T u (pc + 1) lv (v :: w :: v :: w :: rest)) : G K E nL T u pc lv (v :: w :: rest) := by
  obtain ⟨p, l, e, R, s, m, args, below, meth, c⟩ := K
  obtain ⟨⟨hx, hb, hml, hown, hts⟩, hR, hr, hK, hE, hlk⟩ := hC
  exact fun H locs ls hP hS hl => lv_dup2_11 hx hb hdg hv hw (k H locs ls hP hS hl)
theorem g_pop (pc : Nat) (hC : Cx K E cc nL own Ts rm ret) {v : Value} (hdg : decode cc pc = .ok (.pop, 1)) (hv : v.category = 1) (k : G K E nL T u (pc + 1) lv rest) : G K E nL T u pc lv (v :: rest) := by
  obtain ⟨p, l, e, R, s, m, args, below, meth, c⟩ := K
  obtain ⟨⟨hx, hb, hml, hown, hts⟩, hR, hr, hK, hE, hlk⟩ := hC
  exact fun H locs ls hP hS hl => lv_pop hx hb hdg hv (k H locs ls hP hS hl)
theorem g_goto (pc : Nat) (hC : Cx K E cc nL own Ts rm ret) {off : Int} (tgt : Nat) (hdg : decode cc pc = .ok (.goto off, 3)) (ht : (pc : Int) + off = (tgt : Int)) (k : G K E nL T u tgt lv rest) : G K E nL T u pc lv rest := by
  obtain ⟨p, l, e, R, s, m, args, below, meth, c⟩ := K
  obtain ⟨⟨hx, hb, hml, hown, hts⟩, hR, hr, hK, hE, hlk⟩ := hC
  exact fun H locs ls hP hS hl => lv_goto hx hb hdg ht (k H locs ls hP hS hl)
theorem g_if_eq (pc : Nat) (hC : Cx K E cc nL own Ts rm ret) {x : Int32} {off : Int} (tgt : Nat) (hdg : decode cc pc = .ok (.ifCond .eq off, 3)) (ht : (pc : Int) + off = (tgt : Int)) (kt : x = 0 → G K E nL T u tgt lv rest) (kf : ¬ x = 0 → G K E nL T u (pc + 3) lv rest) : G K E nL T u pc lv (.int x :: rest) := by
  obtain ⟨p, l, e, R, s, m, args, below, meth, c⟩ := K
  obtain ⟨⟨hx, hb, hml, hown, hts⟩, hR, hr, hK, hE, hlk⟩ := hC
  exact fun H locs ls hP hS hl => lv_if_eq hx hb hdg ht (fun h => kt h H locs ls hP hS hl) (fun h => kf h H locs ls hP hS hl)
theorem g_if_eqT {α : Type} (F : α → ST × Option Value) (pc : Nat) (hC : Cx K E cc nL own Ts rm ret) {x : Int32} {off : Int} {A B : α} (tgt : Nat) (hdg : decode cc pc = .ok (.ifCond .eq off, 3)) (ht : (pc : Int) + off = (tgt : Int)) (kt : x = 0 → G K E nL (F A) u tgt lv rest) (kf : ¬ x = 0 → G K E nL (F B) u (pc + 3) lv rest) : G K E nL (F (if x = 0 then A else B)) u pc lv (.int x :: rest) := by
  refine g_if_eq pc hC tgt hdg ht (fun h => ?_) (fun h => ?_)
  · rw [if_pos h]; exact kt h
  · rw [if_neg h]; exact kf h
theorem g_icmp_eq (pc : Nat) (hC : Cx K E cc nL own Ts rm ret) {x y : Int32} {off : Int} (tgt : Nat) (hdg : decode cc pc = .ok (.if_icmp .eq off, 3)) (ht : (pc : Int) + off = (tgt : Int)) (kt : x = y → G K E nL T u tgt lv rest) (kf : ¬ x = y → G K E nL T u (pc + 3) lv rest) : G K E nL T u pc lv (.int y :: .int x :: rest) := by
  obtain ⟨p, l, e, R, s, m, args, below, meth, c⟩ := K
  obtain ⟨⟨hx, hb, hml, hown, hts⟩, hR, hr, hK, hE, hlk⟩ := hC
  exact fun H locs ls hP hS hl => lv_icmp_eq hx hb hdg ht (fun h => kt h H locs ls hP hS hl) (fun h => kf h H locs ls hP hS hl)
theorem g_icmp_eqT {α : Type} (F : α → ST × Option Value) (pc : Nat) (hC : Cx K E cc nL own Ts rm ret) {x y : Int32} {off : Int} {A B : α} (tgt : Nat) (hdg : decode cc pc = .ok (.if_icmp .eq off, 3)) (ht : (pc : Int) + off = (tgt : Int)) (kt : x = y → G K E nL (F A) u tgt lv rest) (kf : ¬ x = y → G K E nL (F B) u (pc + 3) lv rest) : G K E nL (F (if x = y then A else B)) u pc lv (.int y :: .int x :: rest) := by
  refine g_icmp_eq pc hC tgt hdg ht (fun h => ?_) (fun h => ?_)
  · rw [if_pos h]; exact kt h
  · rw [if_neg h]; exact kf h
theorem g_if_ne (pc : Nat) (hC : Cx K E cc nL own Ts rm ret) {x : Int32} {off : Int} (tgt : Nat) (hdg : decode cc pc = .ok (.ifCond .ne off, 3)) (ht : (pc : Int) + off = (tgt : Int)) (kt : ¬ x = 0 → G K E nL T u tgt lv rest) (kf : x = 0 → G K E nL T u (pc + 3) lv rest) : G K E nL T u pc lv (.int x :: rest) := by
  obtain ⟨p, l, e, R, s, m, args, below, meth, c⟩ := K
  obtain ⟨⟨hx, hb, hml, hown, hts⟩, hR, hr, hK, hE, hlk⟩ := hC
  exact fun H locs ls hP hS hl => lv_if_ne hx hb hdg ht (fun h => kt h H locs ls hP hS hl) (fun h => kf h H locs ls hP hS hl)
theorem g_if_neT {α : Type} (F : α → ST × Option Value) (pc : Nat) (hC : Cx K E cc nL own Ts rm ret) {x : Int32} {off : Int} {A B : α} (tgt : Nat) (hdg : decode cc pc = .ok (.ifCond .ne off, 3)) (ht : (pc : Int) + off = (tgt : Int)) (kt : ¬ x = 0 → G K E nL (F B) u tgt lv rest) (kf : x = 0 → G K E nL (F A) u (pc + 3) lv rest) : G K E nL (F (if x = 0 then A else B)) u pc lv (.int x :: rest) := by
  refine g_if_ne pc hC tgt hdg ht (fun h => ?_) (fun h => ?_)
  · rw [if_neg h]; exact kt h
  · rw [if_pos h]; exact kf h
theorem g_icmp_ne (pc : Nat) (hC : Cx K E cc nL own Ts rm ret) {x y : Int32} {off : Int} (tgt : Nat) (hdg : decode cc pc = .ok (.if_icmp .ne off, 3)) (ht : (pc : Int) + off = (tgt : Int)) (kt : ¬ x = y → G K E nL T u tgt lv rest) (kf : x = y → G K E nL T u (pc + 3) lv rest) : G K E nL T u pc lv (.int y :: .int x :: rest) := by
  obtain ⟨p, l, e, R, s, m, args, below, meth, c⟩ := K
  obtain ⟨⟨hx, hb, hml, hown, hts⟩, hR, hr, hK, hE, hlk⟩ := hC
  exact fun H locs ls hP hS hl => lv_icmp_ne hx hb hdg ht (fun h => kt h H locs ls hP hS hl) (fun h => kf h H locs ls hP hS hl)
theorem g_icmp_neT {α : Type} (F : α → ST × Option Value) (pc : Nat) (hC : Cx K E cc nL own Ts rm ret) {x y : Int32} {off : Int} {A B : α} (tgt : Nat) (hdg : decode cc pc = .ok (.if_icmp .ne off, 3)) (ht : (pc : Int) + off = (tgt : Int)) (kt : ¬ x = y → G K E nL (F B) u tgt lv rest) (kf : x = y → G K E nL (F A) u (pc + 3) lv rest) : G K E nL (F (if x = y then A else B)) u pc lv (.int y :: .int x :: rest) := by
  refine g_icmp_ne pc hC tgt hdg ht (fun h => ?_) (fun h => ?_)
  · rw [if_neg h]; exact kt h
  · rw [if_pos h]; exact kf h
theorem g_if_lt (pc : Nat) (hC : Cx K E cc nL own Ts rm ret) {x : Int32} {off : Int} (tgt : Nat) (hdg : decode cc pc = .ok (.ifCond .lt off, 3)) (ht : (pc : Int) + off = (tgt : Int)) (kt : x < 0 → G K E nL T u tgt lv rest) (kf : ¬ x < 0 → G K E nL T u (pc + 3) lv rest) : G K E nL T u pc lv (.int x :: rest) := by
  obtain ⟨p, l, e, R, s, m, args, below, meth, c⟩ := K
  obtain ⟨⟨hx, hb, hml, hown, hts⟩, hR, hr, hK, hE, hlk⟩ := hC
  exact fun H locs ls hP hS hl => lv_if_lt hx hb hdg ht (fun h => kt h H locs ls hP hS hl) (fun h => kf h H locs ls hP hS hl)
theorem g_if_ltT {α : Type} (F : α → ST × Option Value) (pc : Nat) (hC : Cx K E cc nL own Ts rm ret) {x : Int32} {off : Int} {A B : α} (tgt : Nat) (hdg : decode cc pc = .ok (.ifCond .lt off, 3)) (ht : (pc : Int) + off = (tgt : Int)) (kt : x < 0 → G K E nL (F A) u tgt lv rest) (kf : ¬ x < 0 → G K E nL (F B) u (pc + 3) lv rest) : G K E nL (F (if x < 0 then A else B)) u pc lv (.int x :: rest) := by
  refine g_if_lt pc hC tgt hdg ht (fun h => ?_) (fun h => ?_)
  · rw [if_pos h]; exact kt h
  · rw [if_neg h]; exact kf h
theorem g_icmp_lt (pc : Nat) (hC : Cx K E cc nL own Ts rm ret) {x y : Int32} {off : Int} (tgt : Nat) (hdg : decode cc pc = .ok (.if_icmp .lt off, 3)) (ht : (pc : Int) + off = (tgt : Int)) (kt : x < y → G K E nL T u tgt lv rest) (kf : ¬ x < y → G K E nL T u (pc + 3) lv rest) : G K E nL T u pc lv (.int y :: .int x :: rest) := by
  obtain ⟨p, l, e, R, s, m, args, below, meth, c⟩ := K
  obtain ⟨⟨hx, hb, hml, hown, hts⟩, hR, hr, hK, hE, hlk⟩ := hC
  exact fun H locs ls hP hS hl => lv_icmp_lt hx hb hdg ht (fun h => kt h H locs ls hP hS hl) (fun h => kf h H locs ls hP hS hl)
theorem g_icmp_ltT {α : Type} (F : α → ST × Option Value) (pc : Nat) (hC : Cx K E cc nL own Ts rm ret) {x y : Int32} {off : Int} {A B : α} (tgt : Nat) (hdg : decode cc pc = .ok (.if_icmp .lt off, 3)) (ht : (pc : Int) + off = (tgt : Int)) (kt : x < y → G K E nL (F A) u tgt lv rest) (kf : ¬ x < y → G K E nL (F B) u (pc + 3) lv rest) : G K E nL (F (if x < y then A else B)) u pc lv (.int y :: .int x :: rest) := by
  refine g_icmp_lt pc hC tgt hdg ht (fun h => ?_) (fun h => ?_)
  · rw [if_pos h]; exact kt h
  · rw [if_neg h]; exact kf h
theorem g_if_ge (pc : Nat) (hC : Cx K E cc nL own Ts rm ret) {x : Int32} {off : Int} (tgt : Nat) (hdg : decode cc pc = .ok (.ifCond .ge off, 3)) (ht : (pc : Int) + off = (tgt : Int)) (kt : 0 ≤ x → G K E nL T u tgt lv rest) (kf : ¬ 0 ≤ x → G K E nL T u (pc + 3) lv rest) : G K E nL T u pc lv (.int x :: rest) := by
  obtain ⟨p, l, e, R, s, m, args, below, meth, c⟩ := K
  obtain ⟨⟨hx, hb, hml, hown, hts⟩, hR, hr, hK, hE, hlk⟩ := hC
  exact fun H locs ls hP hS hl => lv_if_ge hx hb hdg ht (fun h => kt h H locs ls hP hS hl) (fun h => kf h H locs ls hP hS hl)
theorem g_if_geT {α : Type} (F : α → ST × Option Value) (pc : Nat) (hC : Cx K E cc nL own Ts rm ret) {x : Int32} {off : Int} {A B : α} (tgt : Nat) (hdg : decode cc pc = .ok (.ifCond .ge off, 3)) (ht : (pc : Int) + off = (tgt : Int)) (kt : 0 ≤ x → G K E nL (F A) u tgt lv rest) (kf : ¬ 0 ≤ x → G K E nL (F B) u (pc + 3) lv rest) : G K E nL (F (if 0 ≤ x then A else B)) u pc lv (.int x :: rest) := by
  refine g_if_ge pc hC tgt hdg ht (fun h => ?_) (fun h => ?_)
  · rw [if_pos h]; exact kt h
  · rw [if_neg h]; exact kf h
theorem g_icmp_ge (pc : Nat) (hC : Cx K E cc nL own Ts rm ret) {x y : Int32} {off : Int} (tgt : Nat) (hdg : decode cc pc = .ok (.if_icmp .ge off, 3)) (ht : (pc : Int) + off = (tgt : Int)) (kt : y ≤ x → G K E nL T u tgt lv rest) (kf : ¬ y ≤ x → G K E nL T u (pc + 3) lv rest) : G K E nL T u pc lv (.int y :: .int x :: rest) := by
  obtain ⟨p, l, e, R, s, m, args, below, meth, c⟩ := K
  obtain ⟨⟨hx, hb, hml, hown, hts⟩, hR, hr, hK, hE, hlk⟩ := hC
  exact fun H locs ls hP hS hl => lv_icmp_ge hx hb hdg ht (fun h => kt h H locs ls hP hS hl) (fun h => kf h H locs ls hP hS hl)
theorem g_icmp_geT {α : Type} (F : α → ST × Option Value) (pc : Nat) (hC : Cx K E cc nL own Ts rm ret) {x y : Int32} {off : Int} {A B : α} (tgt : Nat) (hdg : decode cc pc = .ok (.if_icmp .ge off, 3)) (ht : (pc : Int) + off = (tgt : Int)) (kt : y ≤ x → G K E nL (F A) u tgt lv rest) (kf : ¬ y ≤ x → G K E nL (F B) u (pc + 3) lv rest) : G K E nL (F (if y ≤ x then A else B)) u pc lv (.int y :: .int x :: rest) := by
  refine g_icmp_ge pc hC tgt hdg ht (fun h => ?_) (fun h => ?_)
  · rw [if_pos h]; exact kt h
  · rw [if_neg h]; exact kf h
theorem g_if_gt (pc : Nat) (hC : Cx K E cc nL own Ts rm ret) {x : Int32} {off : Int} (tgt : Nat) (hdg : decode cc pc = .ok (.ifCond .gt off, 3)) (ht : (pc : Int) + off = (tgt : Int)) (kt : 0 < x → G K E nL T u tgt lv rest) (kf : ¬ 0 < x → G K E nL T u (pc + 3) lv rest) : G K E nL T u pc lv (.int x :: rest) := by
  obtain ⟨p, l, e, R, s, m, args, below, meth, c⟩ := K
  obtain ⟨⟨hx, hb, hml, hown, hts⟩, hR, hr, hK, hE, hlk⟩ := hC
  exact fun H locs ls hP hS hl => lv_if_gt hx hb hdg ht (fun h => kt h H locs ls hP hS hl) (fun h => kf h H locs ls hP hS hl)
theorem g_if_gtT {α : Type} (F : α → ST × Option Value) (pc : Nat) (hC : Cx K E cc nL own Ts rm ret) {x : Int32} {off : Int} {A B : α} (tgt : Nat) (hdg : decode cc pc = .ok (.ifCond .gt off, 3)) (ht : (pc : Int) + off = (tgt : Int)) (kt : 0 < x → G K E nL (F A) u tgt lv rest) (kf : ¬ 0 < x → G K E nL (F B) u (pc + 3) lv rest) : G K E nL (F (if 0 < x then A else B)) u pc lv (.int x :: rest) := by
  refine g_if_gt pc hC tgt hdg ht (fun h => ?_) (fun h => ?_)
  · rw [if_pos h]; exact kt h
  · rw [if_neg h]; exact kf h
theorem g_icmp_gt (pc : Nat) (hC : Cx K E cc nL own Ts rm ret) {x y : Int32} {off : Int} (tgt : Nat) (hdg : decode cc pc = .ok (.if_icmp .gt off, 3)) (ht : (pc : Int) + off = (tgt : Int)) (kt : y < x → G K E nL T u tgt lv rest) (kf : ¬ y < x → G K E nL T u (pc + 3) lv rest) : G K E nL T u pc lv (.int y :: .int x :: rest) := by
  obtain ⟨p, l, e, R, s, m, args, below, meth, c⟩ := K
  obtain ⟨⟨hx, hb, hml, hown, hts⟩, hR, hr, hK, hE, hlk⟩ := hC
  exact fun H locs ls hP hS hl => lv_icmp_gt hx hb hdg ht (fun h => kt h H locs ls hP hS hl) (fun h => kf h H locs ls hP hS hl)
theorem g_icmp_gtT {α : Type} (F : α → ST × Option Value) (pc : Nat) (hC : Cx K E cc nL own Ts rm ret) {x y : Int32} {off : Int} {A B : α} (tgt : Nat) (hdg : decode cc pc = .ok (.if_icmp .gt off, 3)) (ht : (pc : Int) + off = (tgt : Int)) (kt : y < x → G K E nL (F A) u tgt lv rest) (kf : ¬ y < x → G K E nL (F B) u (pc + 3) lv rest) : G K E nL (F (if y < x then A else B)) u pc lv (.int y :: .int x :: rest) := by
  refine g_icmp_gt pc hC tgt hdg ht (fun h => ?_) (fun h => ?_)
  · rw [if_pos h]; exact kt h
  · rw [if_neg h]; exact kf h
theorem g_if_le (pc : Nat) (hC : Cx K E cc nL own Ts rm ret) {x : Int32} {off : Int} (tgt : Nat) (hdg : decode cc pc = .ok (.ifCond .le off, 3)) (ht : (pc : Int) + off = (tgt : Int)) (kt : x ≤ 0 → G K E nL T u tgt lv rest) (kf : ¬ x ≤ 0 → G K E nL T u (pc + 3) lv rest) : G K E nL T u pc lv (.int x :: rest) := by
  obtain ⟨p, l, e, R, s, m, args, below, meth, c⟩ := K
  obtain ⟨⟨hx, hb, hml, hown, hts⟩, hR, hr, hK, hE, hlk⟩ := hC
  exact fun H locs ls hP hS hl => lv_if_le hx hb hdg ht (fun h => kt h H locs ls hP hS hl) (fun h => kf h H locs ls hP hS hl)
theorem g_if_leT {α : Type} (F : α → ST × Option Value) (pc : Nat) (hC : Cx K E cc nL own Ts rm ret) {x : Int32} {off : Int} {A B : α} (tgt : Nat) (hdg : decode cc pc = .ok (.ifCond .le off, 3)) (ht : (pc : Int) + off = (tgt : Int)) (kt : x ≤ 0 → G K E nL (F A) u tgt lv rest) (kf : ¬ x ≤ 0 → G K E nL (F B) u (pc + 3) lv rest) : G K E nL (F (if x ≤ 0 then A else B)) u pc lv (.int x :: rest) := by
  refine g_if_le pc hC tgt hdg ht (fun h => ?_) (fun h => ?_)
  · rw [if_pos h]; exact kt h
  · rw [if_neg h]; exact kf h
theorem g_icmp_le (pc : Nat) (hC : Cx K E cc nL own Ts rm ret) {x y : Int32} {off : Int} (tgt : Nat) (hdg : decode cc pc = .ok (.if_icmp .le off, 3)) (ht : (pc : Int) + off = (tgt : Int)) (kt : x ≤ y → G K E nL T u tgt lv rest) (kf : ¬ x ≤ y → G K E nL T u (pc + 3) lv rest) : G K E nL T u pc lv (.int y :: .int x :: rest) := by
  obtain ⟨p, l, e, R, s, m, args, below, meth, c⟩ := K
  obtain ⟨⟨hx, hb, hml, hown, hts⟩, hR, hr, hK, hE, hlk⟩ := hC
  exact fun H locs ls hP hS hl => lv_icmp_le hx hb hdg ht (fun h => kt h H locs ls hP hS hl) (fun h => kf h H locs ls hP hS hl)
theorem g_icmp_leT {α : Type} (F : α → ST × Option Value) (pc : Nat) (hC : Cx K E cc nL own Ts rm ret) {x y : Int32} {off : Int} {A B : α} (tgt : Nat) (hdg : decode cc pc = .ok (.if_icmp .le off, 3)) (ht : (pc : Int) + off = (tgt : Int)) (kt : x ≤ y → G K E nL (F A) u tgt lv rest) (kf : ¬ x ≤ y → G K E nL (F B) u (pc + 3) lv rest) : G K E nL (F (if x ≤ y then A else B)) u pc lv (.int y :: .int x :: rest) := by
  refine g_icmp_le pc hC tgt hdg ht (fun h => ?_) (fun h => ?_)
  · rw [if_pos h]; exact kt h
  · rw [if_neg h]; exact kf h
end GR
