def jlshr (x : Int64) (y : Int32) : Int64 := x >>> (y.toInt64 &&& 63)
section GL
variable {K : KT} {E : EV} {cc : ByteArray} {nL : Nat} {own : String} {Ts : List Cond} {rm : Room} {ret : Option FieldType} {T : ST × Option Value} {u : ST} {lv : List (Nat × Value)} {rest : List Value}
theorem g_lload_n (pc : Nat) (hC : Cx K E cc nL own Ts rm ret) {q : Fin 4} {x : Int64} (hdg : decode cc pc = .ok (.lload_n q, 1)) (j : Nat) (hk : lv[j]? = some ((q : Nat), .long x)) (k : G K E nL T u (pc + 1) lv (.long x :: rest)) : G K E nL T u pc lv rest := by
  obtain ⟨p, l, e, R, s, m, args, below, meth, c⟩ := K
  obtain ⟨⟨hx, hb, hml, hown, hts⟩, hR, hr, hK, hE, hlk⟩ := hC
  exact fun H locs ls hP hS hl => lv_lload_n hx hb hdg rfl (lv_at hl j hk) (k H locs ls hP hS hl)
theorem g_lshr (pc : Nat) (hC : Cx K E cc nL own Ts rm ret) {x : Int64} {y : Int32} (hdg : decode cc pc = .ok (.lshr, 1)) (k : G K E nL T u (pc + 1) lv (.long (jlshr x y) :: rest)) : G K E nL T u pc lv (.int y :: .long x :: rest) := by
  obtain ⟨p, l, e, R, s, m, args, below, meth, c⟩ := K
  obtain ⟨⟨hx, hb, hml, hown, hts⟩, hR, hr, hK, hE, hlk⟩ := hC
  exact fun H locs ls hP hS hl => lv_lshr hx hb hdg rfl (k H locs ls hP hS hl)
theorem g_l2i (pc : Nat) (hC : Cx K E cc nL own Ts rm ret) {x : Int64} (hdg : decode cc pc = .ok (.l2i, 1)) (k : G K E nL T u (pc + 1) lv (.int x.toInt32 :: rest)) : G K E nL T u pc lv (.long x :: rest) := by
  obtain ⟨p, l, e, R, s, m, args, below, meth, c⟩ := K
  obtain ⟨⟨hx, hb, hml, hown, hts⟩, hR, hr, hK, hE, hlk⟩ := hC
  exact fun H locs ls hP hS hl => lv_l2i hx hb hdg rfl (k H locs ls hP hS hl)
end GL
theorem g_sub {K : KT} {E : EV} {nL : Nat} {T : ST × Option Value} {u : ST} {lv : List (Nat × Value)} {pc : Nat} {st : List Value} (ks : List Nat) (lv' : List (Nat × Value)) (h : lv_pick lv ks = lv') (k : G K E nL T u pc lv' st) : G K E nL T u pc lv st := by
  obtain ⟨p, l, e, R, s, m, args, below, meth, c⟩ := K
  exact fun H locs ls hP hS hl => k H locs ls hP hS (lv_sub hl ks h)
/-- the digest's sum over the first n bytes -/
def dg (u : ST) : Nat → Int32
  | 0 => 7
  | n + 1 => 31 * dg u n + gD u n
/-- the least place from j on, of the next n, at which a has a bit -/
def lowFrom (a : Int32) : Nat → Nat → Nat
  | 0, j => j
  | n + 1, j => if (jshr a (nI j) &&& (1 : Int32)) = 0 then lowFrom a n (j + 1) else j
def lowv (a : Int32) : Nat := lowFrom a 31 1
def lowOk (a : Int32) : Prop := ∃ k, k < 31 ∧ ¬ (jshr a (nI (1 + k)) &&& (1 : Int32)) = 0
section GE
variable {K : KT} {E : EV} {cc : ByteArray} {nL : Nat} {own : String} {Ts : List Cond} {rm : Room} {u : ST} {lv : List (Nat × Value)}
theorem g_iretW (pc : Nat) (hC : Cx K E cc nL own Ts rm (some .int)) {v : Int32} (hdg : decode cc pc = .ok (.ireturn, 1)) : G K E nL (tW (u, v)) u pc lv [.int v] := g_iret pc hC hdg
theorem g_iretR (pc : Nat) (hC : Cx K E cc nL own Ts rm (some .int)) {v : Int32} (hdg : decode cc pc = .ok (.ireturn, 1)) : G K E nL (tR u v) u pc lv [.int v] := g_iret pc hC hdg
theorem g_zretW (pc : Nat) (hC : Cx K E cc nL own Ts rm (some .boolean)) {v : Int32} (hn : isB v) (hdg : decode cc pc = .ok (.ireturn, 1)) : G K E nL (tW (u, v)) u pc lv [.int v] := g_zret pc hC hn hdg
theorem g_zretR (pc : Nat) (hC : Cx K E cc nL own Ts rm (some .boolean)) {v : Int32} (hn : isB v) (hdg : decode cc pc = .ok (.ireturn, 1)) : G K E nL (tR u v) u pc lv [.int v] := g_zret pc hC hn hdg
theorem g_vretS (pc : Nat) (hC : Cx K E cc nL own Ts rm none) (hdg : decode cc pc = .ok (.return_, 1)) : G K E nL (tS u) u pc lv [] := g_vret pc hC hdg
end GE
