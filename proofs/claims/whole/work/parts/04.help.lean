theorem i32nat_and (x : Int32) {n : Nat} (m : Int32) (hm : m.toBitVec.toNat = n) (hn : n < 2 ^ 31) : (x &&& m).toInt = ((x.toBitVec.toNat &&& n : Nat) : Int) := by
  have h1 : (x &&& m).toBitVec.toNat = x.toBitVec.toNat &&& n := by rw [Int32.toBitVec_and, BitVec.toNat_and, hm]
  have h2 : x.toBitVec.toNat &&& n ≤ n := Nat.and_le_right
  show (x &&& m).toBitVec.toInt = _
  rw [BitVec.toInt_eq_toNat_of_lt (by rw [h1]; omega), h1]
theorem vin_1023 (x : Int32) : vp_in (x &&& (1023 : Int32)) 1024 := by
  have h := i32nat_and x (n := 1023) (1023 : Int32) (by decide) (by decide)
  have h2 : x.toBitVec.toNat &&& 1023 ≤ 1023 := Nat.and_le_right
  exact vp_in_iff.mpr ⟨by omega, by omega⟩
theorem vin_3 (x : Int32) : vp_in (x &&& (3 : Int32)) 7 := by
  have h := i32nat_and x (n := 3) (3 : Int32) (by decide) (by decide)
  have h2 : x.toBitVec.toNat &&& 3 ≤ 3 := Nat.and_le_right
  exact vp_in_iff.mpr ⟨by omega, by omega⟩
section GW
variable {K : KT} {E : EV} {cc : ByteArray} {nL : Nat} {own : String} {Ts : List Cond} {rm : Room} {ret : Option FieldType} {T : ST × Option Value} {u : ST} {lv : List (Nat × Value)} {rest : List Value}
theorem g_ldc_w (pc : Nat) (hC : Cx K E cc nL own Ts rm ret) {idx : Nat} (v : Int32) (hdg : decode cc pc = .ok (.ldc_w idx, 3)) (hm : Jvm.Cond.constant own idx v ∈ Ts) (k : G K E nL T u (pc + 3) lv (.int v :: rest)) : G K E nL T u pc lv rest := by
  obtain ⟨p, l, e, R, s, m, args, below, meth, c⟩ := K
  obtain ⟨⟨hx, hb, hml, hown, hts⟩, hR, hr, hK, hE, hlk⟩ := hC
  exact fun H locs ls hP hS hl => lv_ldcw hx hb hown (hts _ hm) hdg (k H locs ls hP hS hl)
end GW
