/-! THE CLAIM OUT OF ONE WALK OF THE LAW'S BODY. Your part is whole_start (and what it stands on); all else here is the same for every law, but numbers. -/
def R_law : String := "FlagCoreLaw"
def lw_P (b : Addr) (xs : List Int32) (args : Array Value) (s : State) : Prop := args = #[.ref b] ∧ s.IntsAt b xs ∧ xs.length ≤ 2048 ∧ (Jvm.Cond.and given_1 narrow_1).before args s = true
def lw_Q (_ : Array Value) (s : State) (o : Outcome) (t : State) : Prop := o = .returned (some (.int 1)) ∧ Framed s o t [] 10 4128
def lw_Z (below : List Frame) (a : Array Value) (s : State) : State → Prop := fun t => ∃ o, t.status = .running ∧ Ended t below o ∧ lw_Q a s o t
/-- the law's own end, with 1 on the stack, nothing written that was there before, its room as the claim has it -/
theorem lw_ret {p : Program} {l : Launch} {e : Env} {s : State} {m : MethodId} {below : List Frame} {meth : Method} {c : Code} {b : Nat} (hx : p.tables.exec = Jvm.exec) (hb : c.code = code) (hr : meth.sig.returnType = ret) (hlocks : meth.locks = false) {pc : Nat} {H : Heap} {ls : Array Slot} (hdg : decode code pc = .ok (.ireturn, 1)) : W p l e room_1 s m #[Value.ref b] below meth c H [] 10 4128 (lw_Z below #[Value.ref b] s) (F0 m pc ls [.int 1]) := by
  intro T hT X
  obtain ⟨fs, hret, hrun, hended, hW, hframe⟩ := X.leave (v := some (.int 1)) (hlocks := hlocks) (fun h => by rw [hr] at h; cases h)
  have hmeth' : T.vm.method? m = some meth := X.method'
  refine ⟨T.setFrames fs, ?_, .returned (some (.int 1)), hrun, hended, rfl, ⟨_, rfl⟩, hW, hframe⟩
  jvm_step X.here [X.here.top, hx, hb, hdg, hmeth', hr, ret, narrow_b1]
  (try refine ⟨rfl, ?_⟩); (try refine ⟨rfl, ?_⟩)
  first | (intro acts; rw [hret _ acts rfl rfl rfl]) | rw [hret _ _ rfl rfl rfl]
  exact Steps.refl _
/-- what holds at the law's entry: the machine, the code, the tables' words (any of lw_tbl by 'hts w (by decide +kernel)'), the script of L ints xs at the cell b, what the Statement gives of the start (any of its parts by flat_of_before) -/
def lw_At (p : Program) (s : State) (m : MethodId) (meth : Method) (c : Code) (b L : Nat) (xs : Nat → Int32) : Prop :=
  p.tables.exec = Jvm.exec ∧ c.code = code ∧ meth.sig.returnType = ret ∧ c.maxLocals = 4 ∧ s.vm.findClass R_law = some m.cls ∧ (∀ w ∈ lw_tbl, w.before #[Value.ref b] s = true) ∧ va_X b L xs s s.heap ∧ b < s.heap.size ∧ meth.locks = false ∧ (Jvm.Cond.and given_1 narrow_1).before #[Value.ref b] s = true
theorem hLd : Jvm.Cond.constantLong RL 18 (4294967295) ∈ wsL_law := List.mem_of_getElem? (i := 6) rfl

set_option maxHeartbeats 4000000 in
set_option maxRecDepth 20000 in
theorem law_c0 {p : Program} {l : Launch} {e : Env} {s : State} {m : MethodId} {below : List Frame} {meth : Method} {c0 : Code} {b L : Nat} {xs : Nat → Int32} (hL : L ≤ 2048) (C0 : lw_At p s m meth c0 b L xs) {h : HX} {h' : HM} (hE : okE (EX h)) (hE' : okE (EM h')) (hK1 : va_K (EX h).1 vwCl (EX h).2.1 s) (hK2 : va_K (EM h').1 vwCl (EM h').2.1 s) (hA1 : ∀ q, (EX h).2.2.1 q → s.heap.size ≤ q) (hA2 : ∀ q, (EM h').2.2.1 q → s.heap.size ≤ q) (hdis : ∀ q, (EX h).2.2.1 q → ¬ (EM h').2.2.1 q) (c : Int32) {n : Nat} (ih : ∀ (i : Nat), i ≤ L → L + 1 ≤ i + n → ∀ (v : ST), Inv v → ∀ (H : Heap) (locs : List Loc) (ls : Array Slot), va_P (EX h).1 vwCl ((EX h).2.2.2 (sNx v c)) H → va_P (EM h').1 vwCl ((EM h').2.2.2 v) H → va_S (fun q : Nat => s.heap.size ≤ q) s.heap H locs → lv_has ls 4 [(3, .int (nI i)), (2, .ref (mO h')), (1, .ref (xO h)), (0, .ref b)] → W p l e room_1 s m #[Value.ref b] below meth c0 H locs 10 4128 (lw_Z below #[Value.ref b] s) (F0 m 18 ls [])) {i : Nat} (hi4 : i + 4 ≤ L) (hin : L + 1 ≤ i + (n + 1)) {v : ST} (hI : Inv v) {H : Heap} {locs : List Loc} {ls : Array Slot} (hP1 : va_P (EX h).1 vwCl ((EX h).2.2.2 (sNx v c)) H) (hP2 : va_P (EM h').1 vwCl ((EM h').2.2.2 v) H) (hS : va_S (fun q : Nat => s.heap.size ≤ q) s.heap H locs) (hl : lv_has ls 4 [(3, .int (nI i)), (2, .ref (mO h')), (1, .ref (xO h)), (0, .ref b)]) : W p l e room_1 s m #[Value.ref b] below meth c0 H locs 10 4128 (lw_Z below #[Value.ref b] s) (F0 m 104 ls []) := by
  obtain ⟨hx, hb, hr, hml, hown, hts, hX, hbl, hlocks, hgv⟩ := C0
  have htsL : ∀ w ∈ wsL_law, w.before #[Value.ref b] s = true := fun w hw => hts w (wsL_law_in w hw)
  have hbA : ¬ (fun q : Nat => s.heap.size ≤ q) b := Nat.not_le.mpr hbl
  have a0 : nI i + 0 = nI (i + 0) := nI_add i 0
  have a1 : nI i + 1 = nI (i + 1) := nI_add i 1
  have a2 : nI i + 2 = nI (i + 2) := nI_add i 2
  have a3 : nI i + 3 = nI (i + 3) := nI_add i 3
  have b0 : vp_in (nI i) L := vp_in_nI (by omega) (by omega)
  have b1 : vp_in (nI (i + 1)) L := vp_in_nI (by omega) (by omega)
  have b2 : vp_in (nI (i + 2)) L := vp_in_nI (by omega) (by omega)
  have b3 : vp_in (nI (i + 3)) L := vp_in_nI (by omega) (by omega)
  refine lv_aload_n hx hb dL_law_104 rfl (lv_at hl 2 rfl) ?_
  refine lv_aload_n hx hb dL_law_105 rfl (lv_at hl 3 rfl) ?_
  refine lv_iload_n hx hb dL_law_106 rfl (lv_at hl 0 rfl) ?_
  refine lv_iconst (v := 1) hx hb dL_law_107 (by decide) ?_
  refine lv_iadd hx hb dL_law_108 ?_
  rw [a1]
  refine va_sld hx hb hX hbl hbA hS b1 dL_law_109 ?_
  refine lv_aload_n hx hb dL_law_110 rfl (lv_at hl 3 rfl) ?_
  refine lv_iload_n hx hb dL_law_111 rfl (lv_at hl 0 rfl) ?_
  refine lv_iconst (v := 2) hx hb dL_law_112 (by decide) ?_
  refine lv_iadd hx hb dL_law_113 ?_
  rw [a2]
  refine va_sld hx hb hX hbl hbA hS b2 dL_law_114 ?_
  refine gl_call (E := EX h) (E' := EM h') (n := 2) (As := [.int (xs (nI (i + 1)).toNatClampNeg), .int (xs (nI (i + 2)).toNatClampNeg)]) (rest := []) ⟨hx, hb, hml, hown, htsL⟩ hK1 hP1 hP2 hS hA1 (fun k q hq hz => hdis q.1 hz ((hE' _).2 k q hq)) (lc_code hE hI c (xs (nI (i + 1)).toNatClampNeg) (xs (nI (i + 2)).toNatClampNeg)) gL_law_X4_code rfl rfl rfl (by decide +kernel) ⟨Nat.le_of_ble_eq_true rfl, Nat.le_of_ble_eq_true rfl⟩ 0 2 rfl rfl rfl rfl rfl (Nat.le_of_ble_eq_true rfl) hl.1 ⟨Nat.le_of_ble_eq_true rfl, Nat.le_of_ble_eq_true rfl⟩ dL_law_115 (fun H locs hP1 hP2 hS => ?_)
  refine lv_aload_n hx hb dL_law_118 rfl (lv_at hl 1 rfl) ?_
  refine lv_aload_n hx hb dL_law_119 rfl (lv_at hl 3 rfl) ?_
  refine lv_iload_n hx hb dL_law_120 rfl (lv_at hl 0 rfl) ?_
  refine lv_iconst (v := 1) hx hb dL_law_121 (by decide) ?_
  refine lv_iadd hx hb dL_law_122 ?_
  rw [a1]
  refine va_sld hx hb hX hbl hbA hS b1 dL_law_123 ?_
  refine lv_aload_n hx hb dL_law_124 rfl (lv_at hl 3 rfl) ?_
  refine lv_iload_n hx hb dL_law_125 rfl (lv_at hl 0 rfl) ?_
  refine lv_iconst (v := 2) hx hb dL_law_126 (by decide) ?_
  refine lv_iadd hx hb dL_law_127 ?_
  rw [a2]
  refine va_sld hx hb hX hbl hbA hS b2 dL_law_128 ?_
  refine gl_call (E := EM h') (E' := EX h) (n := 2) (As := [.int (xs (nI (i + 1)).toNatClampNeg), .int (xs (nI (i + 2)).toNatClampNeg)]) (rest := [.int (fX5_code (xs (nI (i + 1)).toNatClampNeg) (xs (nI (i + 2)).toNatClampNeg) v).2]) ⟨hx, hb, hml, hown, htsL⟩ hK2 hP2 hP1 hS hA2 (fun k q hq hz => hdis q.1 ((hE _).2 k q hq) hz) (cX5_code_ h' hE' (xs (nI (i + 1)).toNatClampNeg) (xs (nI (i + 2)).toNatClampNeg) v ((rel_code hI c (xs (nI (i + 1)).toNatClampNeg) (xs (nI (i + 2)).toNatClampNeg)).2.2)) gL_law_X5_code rfl rfl rfl (by decide +kernel) ⟨Nat.le_of_ble_eq_true rfl, Nat.le_of_ble_eq_true rfl⟩ 0 3 rfl rfl rfl rfl rfl (Nat.le_of_ble_eq_true rfl) hl.1 ⟨Nat.le_of_ble_eq_true rfl, Nat.le_of_ble_eq_true rfl⟩ dL_law_129 (fun H locs hP2 hP1 hS => ?_)
  refine lv_icmp_eq (tgt := 466) hx hb dL_law_132 (by decide) (fun _ => ?_) (fun z => absurd rfl z)
  refine lv_iinc (v := nI (i + 4)) (lv' := [(3, .int (nI (i + 4))), (2, .ref (mO h')), (1, .ref (xO h)), (0, .ref b)]) hx hb dL_law_466 hl (k := 0) rfl (nI_add i 4) (by decide) rfl (fun ls hl => ?_)
  refine lv_goto (tgt := 18) hx hb dL_law_469 (by decide) ?_
  exact ih (i + 4) hi4 (by omega) (fX5_code (xs (nI (i + 1)).toNatClampNeg) (xs (nI (i + 2)).toNatClampNeg) v).1 ((rel_code hI c (xs (nI (i + 1)).toNatClampNeg) (xs (nI (i + 2)).toNatClampNeg)).2.1) H locs ls hP1 hP2 hS hl

set_option maxHeartbeats 4000000 in
set_option maxRecDepth 20000 in
theorem law_c1 {p : Program} {l : Launch} {e : Env} {s : State} {m : MethodId} {below : List Frame} {meth : Method} {c0 : Code} {b L : Nat} {xs : Nat → Int32} (hL : L ≤ 2048) (C0 : lw_At p s m meth c0 b L xs) {h : HX} {h' : HM} (hE : okE (EX h)) (hE' : okE (EM h')) (hK1 : va_K (EX h).1 vwCl (EX h).2.1 s) (hK2 : va_K (EM h').1 vwCl (EM h').2.1 s) (hA1 : ∀ q, (EX h).2.2.1 q → s.heap.size ≤ q) (hA2 : ∀ q, (EM h').2.2.1 q → s.heap.size ≤ q) (hdis : ∀ q, (EX h).2.2.1 q → ¬ (EM h').2.2.1 q) (c : Int32) {n : Nat} (ih : ∀ (i : Nat), i ≤ L → L + 1 ≤ i + n → ∀ (v : ST), Inv v → ∀ (H : Heap) (locs : List Loc) (ls : Array Slot), va_P (EX h).1 vwCl ((EX h).2.2.2 (sNx v c)) H → va_P (EM h').1 vwCl ((EM h').2.2.2 v) H → va_S (fun q : Nat => s.heap.size ≤ q) s.heap H locs → lv_has ls 4 [(3, .int (nI i)), (2, .ref (mO h')), (1, .ref (xO h)), (0, .ref b)] → W p l e room_1 s m #[Value.ref b] below meth c0 H locs 10 4128 (lw_Z below #[Value.ref b] s) (F0 m 18 ls [])) {i : Nat} (hi4 : i + 4 ≤ L) (hin : L + 1 ≤ i + (n + 1)) {v : ST} (hI : Inv v) {H : Heap} {locs : List Loc} {ls : Array Slot} (hP1 : va_P (EX h).1 vwCl ((EX h).2.2.2 (sNx v c)) H) (hP2 : va_P (EM h').1 vwCl ((EM h').2.2.2 v) H) (hS : va_S (fun q : Nat => s.heap.size ≤ q) s.heap H locs) (hl : lv_has ls 4 [(3, .int (nI i)), (2, .ref (mO h')), (1, .ref (xO h)), (0, .ref b)]) : W p l e room_1 s m #[Value.ref b] below meth c0 H locs 10 4128 (lw_Z below #[Value.ref b] s) (F0 m 137 ls []) := by
  obtain ⟨hx, hb, hr, hml, hown, hts, hX, hbl, hlocks, hgv⟩ := C0
  have htsL : ∀ w ∈ wsL_law, w.before #[Value.ref b] s = true := fun w hw => hts w (wsL_law_in w hw)
  have hbA : ¬ (fun q : Nat => s.heap.size ≤ q) b := Nat.not_le.mpr hbl
  have a0 : nI i + 0 = nI (i + 0) := nI_add i 0
  have a1 : nI i + 1 = nI (i + 1) := nI_add i 1
  have a2 : nI i + 2 = nI (i + 2) := nI_add i 2
  have a3 : nI i + 3 = nI (i + 3) := nI_add i 3
  have b0 : vp_in (nI i) L := vp_in_nI (by omega) (by omega)
  have b1 : vp_in (nI (i + 1)) L := vp_in_nI (by omega) (by omega)
  have b2 : vp_in (nI (i + 2)) L := vp_in_nI (by omega) (by omega)
  have b3 : vp_in (nI (i + 3)) L := vp_in_nI (by omega) (by omega)
  refine lv_aload_n hx hb dL_law_137 rfl (lv_at hl 2 rfl) ?_
  refine lv_aload_n hx hb dL_law_138 rfl (lv_at hl 3 rfl) ?_
  refine lv_iload_n hx hb dL_law_139 rfl (lv_at hl 0 rfl) ?_
  refine lv_iconst (v := 1) hx hb dL_law_140 (by decide) ?_
  refine lv_iadd hx hb dL_law_141 ?_
  rw [a1]
  refine va_sld hx hb hX hbl hbA hS b1 dL_law_142 ?_
  refine lv_aload_n hx hb dL_law_143 rfl (lv_at hl 3 rfl) ?_
  refine lv_iload_n hx hb dL_law_144 rfl (lv_at hl 0 rfl) ?_
  refine lv_iconst (v := 2) hx hb dL_law_145 (by decide) ?_
  refine lv_iadd hx hb dL_law_146 ?_
  rw [a2]
  refine va_sld hx hb hX hbl hbA hS b2 dL_law_147 ?_
  refine lv_i2l hx hb dL_law_148 rfl ?_
  refine lv_bipush (v := 32) hx hb dL_law_149 (by decide) ?_
  refine lv_lshl hx hb dL_law_151 rfl ?_
  refine lv_aload_n hx hb dL_law_152 rfl (lv_at hl 3 rfl) ?_
  refine lv_iload_n hx hb dL_law_153 rfl (lv_at hl 0 rfl) ?_
  refine lv_iconst (v := 3) hx hb dL_law_154 (by decide) ?_
  refine lv_iadd hx hb dL_law_155 ?_
  rw [a3]
  refine va_sld hx hb hX hbl hbA hS b3 dL_law_156 ?_
  refine lv_i2l hx hb dL_law_157 rfl ?_
  refine lv_ldc2 (v := 4294967295) hx hb hown (htsL _ hLd) dL_law_158 ?_
  refine lv_land hx hb dL_law_161 ?_
  refine lv_lor hx hb dL_law_162 ?_
  refine gl_call (E := EX h) (E' := EM h') (n := 2) (As := [.int (xs (nI (i + 1)).toNatClampNeg), .long (((Int32.toInt64 (xs (nI (i + 2)).toNatClampNeg)) <<< (Int32.toInt64 (32 : Int32) &&& 63)) ||| ((Int32.toInt64 (xs (nI (i + 3)).toNatClampNeg)) &&& 4294967295))]) (rest := []) ⟨hx, hb, hml, hown, htsL⟩ hK1 hP1 hP2 hS hA1 (fun k q hq hz => hdis q.1 hz ((hE' _).2 k q hq)) (lc_load hE hI c (xs (nI (i + 1)).toNatClampNeg) (((Int32.toInt64 (xs (nI (i + 2)).toNatClampNeg)) <<< (Int32.toInt64 (32 : Int32) &&& 63)) ||| ((Int32.toInt64 (xs (nI (i + 3)).toNatClampNeg)) &&& 4294967295))) gL_law_X4_load rfl rfl rfl (by decide +kernel) ⟨Nat.le_of_ble_eq_true rfl, Nat.le_of_ble_eq_true rfl⟩ 0 2 rfl rfl rfl rfl rfl (Nat.le_of_ble_eq_true rfl) hl.1 ⟨Nat.le_of_ble_eq_true rfl, Nat.le_of_ble_eq_true rfl⟩ dL_law_163 (fun H locs hP1 hP2 hS => ?_)
  refine lv_aload_n hx hb dL_law_166 rfl (lv_at hl 1 rfl) ?_
  refine lv_aload_n hx hb dL_law_167 rfl (lv_at hl 3 rfl) ?_
  refine lv_iload_n hx hb dL_law_168 rfl (lv_at hl 0 rfl) ?_
  refine lv_iconst (v := 1) hx hb dL_law_169 (by decide) ?_
  refine lv_iadd hx hb dL_law_170 ?_
  rw [a1]
  refine va_sld hx hb hX hbl hbA hS b1 dL_law_171 ?_
  refine lv_aload_n hx hb dL_law_172 rfl (lv_at hl 3 rfl) ?_
  refine lv_iload_n hx hb dL_law_173 rfl (lv_at hl 0 rfl) ?_
  refine lv_iconst (v := 2) hx hb dL_law_174 (by decide) ?_
  refine lv_iadd hx hb dL_law_175 ?_
  rw [a2]
  refine va_sld hx hb hX hbl hbA hS b2 dL_law_176 ?_
  refine lv_i2l hx hb dL_law_177 rfl ?_
  refine lv_bipush (v := 32) hx hb dL_law_178 (by decide) ?_
  refine lv_lshl hx hb dL_law_180 rfl ?_
  refine lv_aload_n hx hb dL_law_181 rfl (lv_at hl 3 rfl) ?_
  refine lv_iload_n hx hb dL_law_182 rfl (lv_at hl 0 rfl) ?_
  refine lv_iconst (v := 3) hx hb dL_law_183 (by decide) ?_
  refine lv_iadd hx hb dL_law_184 ?_
  rw [a3]
  refine va_sld hx hb hX hbl hbA hS b3 dL_law_185 ?_
  refine lv_i2l hx hb dL_law_186 rfl ?_
  refine lv_ldc2 (v := 4294967295) hx hb hown (htsL _ hLd) dL_law_187 ?_
  refine lv_land hx hb dL_law_190 ?_
  refine lv_lor hx hb dL_law_191 ?_
  refine gl_call (E := EM h') (E' := EX h) (n := 2) (As := [.int (xs (nI (i + 1)).toNatClampNeg), .long (((Int32.toInt64 (xs (nI (i + 2)).toNatClampNeg)) <<< (Int32.toInt64 (32 : Int32) &&& 63)) ||| ((Int32.toInt64 (xs (nI (i + 3)).toNatClampNeg)) &&& 4294967295))]) (rest := [.int (fX5_load (xs (nI (i + 1)).toNatClampNeg) (((Int32.toInt64 (xs (nI (i + 2)).toNatClampNeg)) <<< (Int32.toInt64 (32 : Int32) &&& 63)) ||| ((Int32.toInt64 (xs (nI (i + 3)).toNatClampNeg)) &&& 4294967295)) v).2]) ⟨hx, hb, hml, hown, htsL⟩ hK2 hP2 hP1 hS hA2 (fun k q hq hz => hdis q.1 ((hE _).2 k q hq) hz) (cX5_load_ h' hE' (xs (nI (i + 1)).toNatClampNeg) (((Int32.toInt64 (xs (nI (i + 2)).toNatClampNeg)) <<< (Int32.toInt64 (32 : Int32) &&& 63)) ||| ((Int32.toInt64 (xs (nI (i + 3)).toNatClampNeg)) &&& 4294967295)) v) gL_law_X5_load rfl rfl rfl (by decide +kernel) ⟨Nat.le_of_ble_eq_true rfl, Nat.le_of_ble_eq_true rfl⟩ 0 3 rfl rfl rfl rfl rfl (Nat.le_of_ble_eq_true rfl) hl.1 ⟨Nat.le_of_ble_eq_true rfl, Nat.le_of_ble_eq_true rfl⟩ dL_law_192 (fun H locs hP2 hP1 hS => ?_)
  refine lv_icmp_eq (tgt := 466) hx hb dL_law_195 (by decide) (fun _ => ?_) (fun z => absurd rfl z)
  refine lv_iinc (v := nI (i + 4)) (lv' := [(3, .int (nI (i + 4))), (2, .ref (mO h')), (1, .ref (xO h)), (0, .ref b)]) hx hb dL_law_466 hl (k := 0) rfl (nI_add i 4) (by decide) rfl (fun ls hl => ?_)
  refine lv_goto (tgt := 18) hx hb dL_law_469 (by decide) ?_
  exact ih (i + 4) hi4 (by omega) (fX5_load (xs (nI (i + 1)).toNatClampNeg) (((Int32.toInt64 (xs (nI (i + 2)).toNatClampNeg)) <<< (Int32.toInt64 (32 : Int32) &&& 63)) ||| ((Int32.toInt64 (xs (nI (i + 3)).toNatClampNeg)) &&& 4294967295)) v).1 ((rel_load hI c (xs (nI (i + 1)).toNatClampNeg) (((Int32.toInt64 (xs (nI (i + 2)).toNatClampNeg)) <<< (Int32.toInt64 (32 : Int32) &&& 63)) ||| ((Int32.toInt64 (xs (nI (i + 3)).toNatClampNeg)) &&& 4294967295))).2) H locs ls hP1 hP2 hS hl

set_option maxHeartbeats 4000000 in
set_option maxRecDepth 20000 in
theorem law_c2 {p : Program} {l : Launch} {e : Env} {s : State} {m : MethodId} {below : List Frame} {meth : Method} {c0 : Code} {b L : Nat} {xs : Nat → Int32} (hL : L ≤ 2048) (C0 : lw_At p s m meth c0 b L xs) {h : HX} {h' : HM} (hE : okE (EX h)) (hE' : okE (EM h')) (hK1 : va_K (EX h).1 vwCl (EX h).2.1 s) (hK2 : va_K (EM h').1 vwCl (EM h').2.1 s) (hA1 : ∀ q, (EX h).2.2.1 q → s.heap.size ≤ q) (hA2 : ∀ q, (EM h').2.2.1 q → s.heap.size ≤ q) (hdis : ∀ q, (EX h).2.2.1 q → ¬ (EM h').2.2.1 q) (c : Int32) {n : Nat} (ih : ∀ (i : Nat), i ≤ L → L + 1 ≤ i + n → ∀ (v : ST), Inv v → ∀ (H : Heap) (locs : List Loc) (ls : Array Slot), va_P (EX h).1 vwCl ((EX h).2.2.2 (sNx v c)) H → va_P (EM h').1 vwCl ((EM h').2.2.2 v) H → va_S (fun q : Nat => s.heap.size ≤ q) s.heap H locs → lv_has ls 4 [(3, .int (nI i)), (2, .ref (mO h')), (1, .ref (xO h)), (0, .ref b)] → W p l e room_1 s m #[Value.ref b] below meth c0 H locs 10 4128 (lw_Z below #[Value.ref b] s) (F0 m 18 ls [])) {i : Nat} (hi4 : i + 4 ≤ L) (hin : L + 1 ≤ i + (n + 1)) {v : ST} (hI : Inv v) {H : Heap} {locs : List Loc} {ls : Array Slot} (hP1 : va_P (EX h).1 vwCl ((EX h).2.2.2 (sNx v c)) H) (hP2 : va_P (EM h').1 vwCl ((EM h').2.2.2 v) H) (hS : va_S (fun q : Nat => s.heap.size ≤ q) s.heap H locs) (hl : lv_has ls 4 [(3, .int (nI i)), (2, .ref (mO h')), (1, .ref (xO h)), (0, .ref b)]) : W p l e room_1 s m #[Value.ref b] below meth c0 H locs 10 4128 (lw_Z below #[Value.ref b] s) (F0 m 200 ls []) := by
  obtain ⟨hx, hb, hr, hml, hown, hts, hX, hbl, hlocks, hgv⟩ := C0
  have htsL : ∀ w ∈ wsL_law, w.before #[Value.ref b] s = true := fun w hw => hts w (wsL_law_in w hw)
  have hbA : ¬ (fun q : Nat => s.heap.size ≤ q) b := Nat.not_le.mpr hbl
  have a0 : nI i + 0 = nI (i + 0) := nI_add i 0
  have a1 : nI i + 1 = nI (i + 1) := nI_add i 1
  have a2 : nI i + 2 = nI (i + 2) := nI_add i 2
  have a3 : nI i + 3 = nI (i + 3) := nI_add i 3
  have b0 : vp_in (nI i) L := vp_in_nI (by omega) (by omega)
  have b1 : vp_in (nI (i + 1)) L := vp_in_nI (by omega) (by omega)
  have b2 : vp_in (nI (i + 2)) L := vp_in_nI (by omega) (by omega)
  have b3 : vp_in (nI (i + 3)) L := vp_in_nI (by omega) (by omega)
  refine lv_aload_n hx hb dL_law_200 rfl (lv_at hl 2 rfl) ?_
  refine lv_aload_n hx hb dL_law_201 rfl (lv_at hl 3 rfl) ?_
  refine lv_iload_n hx hb dL_law_202 rfl (lv_at hl 0 rfl) ?_
  refine lv_iconst (v := 1) hx hb dL_law_203 (by decide) ?_
  refine lv_iadd hx hb dL_law_204 ?_
  rw [a1]
  refine va_sld hx hb hX hbl hbA hS b1 dL_law_205 ?_
  refine gl_call (E := EX h) (E' := EM h') (n := 1) (As := [.int (xs (nI (i + 1)).toNatClampNeg)]) (rest := []) ⟨hx, hb, hml, hown, htsL⟩ hK1 hP1 hP2 hS hA1 (fun k q hq hz => hdis q.1 hz ((hE' _).2 k q hq)) (lc_word hE hI c (xs (nI (i + 1)).toNatClampNeg)) gL_law_X4_word rfl rfl rfl (by decide +kernel) ⟨Nat.le_of_ble_eq_true rfl, Nat.le_of_ble_eq_true rfl⟩ 0 2 rfl rfl rfl rfl rfl (Nat.le_of_ble_eq_true rfl) hl.1 ⟨Nat.le_of_ble_eq_true rfl, Nat.le_of_ble_eq_true rfl⟩ dL_law_206 (fun H locs hP1 hP2 hS => ?_)
  refine lv_aload_n hx hb dL_law_209 rfl (lv_at hl 1 rfl) ?_
  refine lv_aload_n hx hb dL_law_210 rfl (lv_at hl 3 rfl) ?_
  refine lv_iload_n hx hb dL_law_211 rfl (lv_at hl 0 rfl) ?_
  refine lv_iconst (v := 1) hx hb dL_law_212 (by decide) ?_
  refine lv_iadd hx hb dL_law_213 ?_
  rw [a1]
  refine va_sld hx hb hX hbl hbA hS b1 dL_law_214 ?_
  refine gl_call (E := EM h') (E' := EX h) (n := 1) (As := [.int (xs (nI (i + 1)).toNatClampNeg)]) (rest := [.int (fX5_word (xs (nI (i + 1)).toNatClampNeg) v)]) ⟨hx, hb, hml, hown, htsL⟩ hK2 hP2 hP1 hS hA2 (fun k q hq hz => hdis q.1 ((hE _).2 k q hq) hz) (cX5_word_ h' hE' (xs (nI (i + 1)).toNatClampNeg) v ((rel_word (v := v) c (xs (nI (i + 1)).toNatClampNeg)).2)) gL_law_X5_word rfl rfl rfl (by decide +kernel) ⟨Nat.le_of_ble_eq_true rfl, Nat.le_of_ble_eq_true rfl⟩ 0 3 rfl rfl rfl rfl rfl (Nat.le_of_ble_eq_true rfl) hl.1 ⟨Nat.le_of_ble_eq_true rfl, Nat.le_of_ble_eq_true rfl⟩ dL_law_215 (fun H locs hP2 hP1 hS => ?_)
  refine lv_icmp_eq (tgt := 466) hx hb dL_law_218 (by decide) (fun _ => ?_) (fun z => absurd rfl z)
  refine lv_iinc (v := nI (i + 4)) (lv' := [(3, .int (nI (i + 4))), (2, .ref (mO h')), (1, .ref (xO h)), (0, .ref b)]) hx hb dL_law_466 hl (k := 0) rfl (nI_add i 4) (by decide) rfl (fun ls hl => ?_)
  refine lv_goto (tgt := 18) hx hb dL_law_469 (by decide) ?_
  exact ih (i + 4) hi4 (by omega) v hI H locs ls hP1 hP2 hS hl

set_option maxHeartbeats 4000000 in
set_option maxRecDepth 20000 in
theorem law_c3 {p : Program} {l : Launch} {e : Env} {s : State} {m : MethodId} {below : List Frame} {meth : Method} {c0 : Code} {b L : Nat} {xs : Nat → Int32} (hL : L ≤ 2048) (C0 : lw_At p s m meth c0 b L xs) {h : HX} {h' : HM} (hE : okE (EX h)) (hE' : okE (EM h')) (hK1 : va_K (EX h).1 vwCl (EX h).2.1 s) (hK2 : va_K (EM h').1 vwCl (EM h').2.1 s) (hA1 : ∀ q, (EX h).2.2.1 q → s.heap.size ≤ q) (hA2 : ∀ q, (EM h').2.2.1 q → s.heap.size ≤ q) (hdis : ∀ q, (EX h).2.2.1 q → ¬ (EM h').2.2.1 q) (c : Int32) {n : Nat} (ih : ∀ (i : Nat), i ≤ L → L + 1 ≤ i + n → ∀ (v : ST), Inv v → ∀ (H : Heap) (locs : List Loc) (ls : Array Slot), va_P (EX h).1 vwCl ((EX h).2.2.2 (sNx v c)) H → va_P (EM h').1 vwCl ((EM h').2.2.2 v) H → va_S (fun q : Nat => s.heap.size ≤ q) s.heap H locs → lv_has ls 4 [(3, .int (nI i)), (2, .ref (mO h')), (1, .ref (xO h)), (0, .ref b)] → W p l e room_1 s m #[Value.ref b] below meth c0 H locs 10 4128 (lw_Z below #[Value.ref b] s) (F0 m 18 ls [])) {i : Nat} (hi4 : i + 4 ≤ L) (hin : L + 1 ≤ i + (n + 1)) {v : ST} (hI : Inv v) {H : Heap} {locs : List Loc} {ls : Array Slot} (hP1 : va_P (EX h).1 vwCl ((EX h).2.2.2 (sNx v c)) H) (hP2 : va_P (EM h').1 vwCl ((EM h').2.2.2 v) H) (hS : va_S (fun q : Nat => s.heap.size ≤ q) s.heap H locs) (hl : lv_has ls 4 [(3, .int (nI i)), (2, .ref (mO h')), (1, .ref (xO h)), (0, .ref b)]) : W p l e room_1 s m #[Value.ref b] below meth c0 H locs 10 4128 (lw_Z below #[Value.ref b] s) (F0 m 223 ls []) := by
  obtain ⟨hx, hb, hr, hml, hown, hts, hX, hbl, hlocks, hgv⟩ := C0
  have htsL : ∀ w ∈ wsL_law, w.before #[Value.ref b] s = true := fun w hw => hts w (wsL_law_in w hw)
  have hbA : ¬ (fun q : Nat => s.heap.size ≤ q) b := Nat.not_le.mpr hbl
  have a0 : nI i + 0 = nI (i + 0) := nI_add i 0
  have a1 : nI i + 1 = nI (i + 1) := nI_add i 1
  have a2 : nI i + 2 = nI (i + 2) := nI_add i 2
  have a3 : nI i + 3 = nI (i + 3) := nI_add i 3
  have b0 : vp_in (nI i) L := vp_in_nI (by omega) (by omega)
  have b1 : vp_in (nI (i + 1)) L := vp_in_nI (by omega) (by omega)
  have b2 : vp_in (nI (i + 2)) L := vp_in_nI (by omega) (by omega)
  have b3 : vp_in (nI (i + 3)) L := vp_in_nI (by omega) (by omega)
  refine lv_aload_n hx hb dL_law_223 rfl (lv_at hl 2 rfl) ?_
  refine lv_aload_n hx hb dL_law_224 rfl (lv_at hl 3 rfl) ?_
  refine lv_iload_n hx hb dL_law_225 rfl (lv_at hl 0 rfl) ?_
  refine lv_iconst (v := 1) hx hb dL_law_226 (by decide) ?_
  refine lv_iadd hx hb dL_law_227 ?_
  rw [a1]
  refine va_sld hx hb hX hbl hbA hS b1 dL_law_228 ?_
  refine lv_aload_n hx hb dL_law_229 rfl (lv_at hl 3 rfl) ?_
  refine lv_iload_n hx hb dL_law_230 rfl (lv_at hl 0 rfl) ?_
  refine lv_iconst (v := 2) hx hb dL_law_231 (by decide) ?_
  refine lv_iadd hx hb dL_law_232 ?_
  rw [a2]
  refine va_sld hx hb hX hbl hbA hS b2 dL_law_233 ?_
  refine gl_call (E := EX h) (E' := EM h') (n := 2) (As := [.int (xs (nI (i + 1)).toNatClampNeg), .int (xs (nI (i + 2)).toNatClampNeg)]) (rest := []) ⟨hx, hb, hml, hown, htsL⟩ hK1 hP1 hP2 hS hA1 (fun k q hq hz => hdis q.1 hz ((hE' _).2 k q hq)) (lc_put hE hI c (xs (nI (i + 1)).toNatClampNeg) (xs (nI (i + 2)).toNatClampNeg)) gL_law_X4_put rfl rfl rfl (by decide +kernel) ⟨Nat.le_of_ble_eq_true rfl, Nat.le_of_ble_eq_true rfl⟩ 0 2 rfl rfl rfl rfl rfl (Nat.le_of_ble_eq_true rfl) hl.1 ⟨Nat.le_of_ble_eq_true rfl, Nat.le_of_ble_eq_true rfl⟩ dL_law_234 (fun H locs hP1 hP2 hS => ?_)
  refine lv_aload_n hx hb dL_law_237 rfl (lv_at hl 1 rfl) ?_
  refine lv_aload_n hx hb dL_law_238 rfl (lv_at hl 3 rfl) ?_
  refine lv_iload_n hx hb dL_law_239 rfl (lv_at hl 0 rfl) ?_
  refine lv_iconst (v := 1) hx hb dL_law_240 (by decide) ?_
  refine lv_iadd hx hb dL_law_241 ?_
  rw [a1]
  refine va_sld hx hb hX hbl hbA hS b1 dL_law_242 ?_
  refine lv_aload_n hx hb dL_law_243 rfl (lv_at hl 3 rfl) ?_
  refine lv_iload_n hx hb dL_law_244 rfl (lv_at hl 0 rfl) ?_
  refine lv_iconst (v := 2) hx hb dL_law_245 (by decide) ?_
  refine lv_iadd hx hb dL_law_246 ?_
  rw [a2]
  refine va_sld hx hb hX hbl hbA hS b2 dL_law_247 ?_
  refine gl_call (E := EM h') (E' := EX h) (n := 2) (As := [.int (xs (nI (i + 1)).toNatClampNeg), .int (xs (nI (i + 2)).toNatClampNeg)]) (rest := [.int (fX5_put (xs (nI (i + 1)).toNatClampNeg) (xs (nI (i + 2)).toNatClampNeg) v).2]) ⟨hx, hb, hml, hown, htsL⟩ hK2 hP2 hP1 hS hA2 (fun k q hq hz => hdis q.1 ((hE _).2 k q hq) hz) (cX5_put_ h' hE' (xs (nI (i + 1)).toNatClampNeg) (xs (nI (i + 2)).toNatClampNeg) v ((rel_put hI c (xs (nI (i + 1)).toNatClampNeg) (xs (nI (i + 2)).toNatClampNeg)).2.2)) gL_law_X5_put rfl rfl rfl (by decide +kernel) ⟨Nat.le_of_ble_eq_true rfl, Nat.le_of_ble_eq_true rfl⟩ 0 3 rfl rfl rfl rfl rfl (Nat.le_of_ble_eq_true rfl) hl.1 ⟨Nat.le_of_ble_eq_true rfl, Nat.le_of_ble_eq_true rfl⟩ dL_law_248 (fun H locs hP2 hP1 hS => ?_)
  refine lv_icmp_eq (tgt := 466) hx hb dL_law_251 (by decide) (fun _ => ?_) (fun z => absurd rfl z)
  refine lv_iinc (v := nI (i + 4)) (lv' := [(3, .int (nI (i + 4))), (2, .ref (mO h')), (1, .ref (xO h)), (0, .ref b)]) hx hb dL_law_466 hl (k := 0) rfl (nI_add i 4) (by decide) rfl (fun ls hl => ?_)
  refine lv_goto (tgt := 18) hx hb dL_law_469 (by decide) ?_
  exact ih (i + 4) hi4 (by omega) (fX5_put (xs (nI (i + 1)).toNatClampNeg) (xs (nI (i + 2)).toNatClampNeg) v).1 ((rel_put hI c (xs (nI (i + 1)).toNatClampNeg) (xs (nI (i + 2)).toNatClampNeg)).2.1) H locs ls hP1 hP2 hS hl

set_option maxHeartbeats 4000000 in
set_option maxRecDepth 20000 in
theorem law_c4 {p : Program} {l : Launch} {e : Env} {s : State} {m : MethodId} {below : List Frame} {meth : Method} {c0 : Code} {b L : Nat} {xs : Nat → Int32} (hL : L ≤ 2048) (C0 : lw_At p s m meth c0 b L xs) {h : HX} {h' : HM} (hE : okE (EX h)) (hE' : okE (EM h')) (hK1 : va_K (EX h).1 vwCl (EX h).2.1 s) (hK2 : va_K (EM h').1 vwCl (EM h').2.1 s) (hA1 : ∀ q, (EX h).2.2.1 q → s.heap.size ≤ q) (hA2 : ∀ q, (EM h').2.2.1 q → s.heap.size ≤ q) (hdis : ∀ q, (EX h).2.2.1 q → ¬ (EM h').2.2.1 q) (c : Int32) {n : Nat} (ih : ∀ (i : Nat), i ≤ L → L + 1 ≤ i + n → ∀ (v : ST), Inv v → ∀ (H : Heap) (locs : List Loc) (ls : Array Slot), va_P (EX h).1 vwCl ((EX h).2.2.2 (sNx v c)) H → va_P (EM h').1 vwCl ((EM h').2.2.2 v) H → va_S (fun q : Nat => s.heap.size ≤ q) s.heap H locs → lv_has ls 4 [(3, .int (nI i)), (2, .ref (mO h')), (1, .ref (xO h)), (0, .ref b)] → W p l e room_1 s m #[Value.ref b] below meth c0 H locs 10 4128 (lw_Z below #[Value.ref b] s) (F0 m 18 ls [])) {i : Nat} (hi4 : i + 4 ≤ L) (hin : L + 1 ≤ i + (n + 1)) {v : ST} (hI : Inv v) {H : Heap} {locs : List Loc} {ls : Array Slot} (hP1 : va_P (EX h).1 vwCl ((EX h).2.2.2 (sNx v c)) H) (hP2 : va_P (EM h').1 vwCl ((EM h').2.2.2 v) H) (hS : va_S (fun q : Nat => s.heap.size ≤ q) s.heap H locs) (hl : lv_has ls 4 [(3, .int (nI i)), (2, .ref (mO h')), (1, .ref (xO h)), (0, .ref b)]) : W p l e room_1 s m #[Value.ref b] below meth c0 H locs 10 4128 (lw_Z below #[Value.ref b] s) (F0 m 256 ls []) := by
  obtain ⟨hx, hb, hr, hml, hown, hts, hX, hbl, hlocks, hgv⟩ := C0
  have htsL : ∀ w ∈ wsL_law, w.before #[Value.ref b] s = true := fun w hw => hts w (wsL_law_in w hw)
  have hbA : ¬ (fun q : Nat => s.heap.size ≤ q) b := Nat.not_le.mpr hbl
  have a0 : nI i + 0 = nI (i + 0) := nI_add i 0
  have a1 : nI i + 1 = nI (i + 1) := nI_add i 1
  have a2 : nI i + 2 = nI (i + 2) := nI_add i 2
  have a3 : nI i + 3 = nI (i + 3) := nI_add i 3
  have b0 : vp_in (nI i) L := vp_in_nI (by omega) (by omega)
  have b1 : vp_in (nI (i + 1)) L := vp_in_nI (by omega) (by omega)
  have b2 : vp_in (nI (i + 2)) L := vp_in_nI (by omega) (by omega)
  have b3 : vp_in (nI (i + 3)) L := vp_in_nI (by omega) (by omega)
  refine lv_aload_n hx hb dL_law_256 rfl (lv_at hl 2 rfl) ?_
  refine lv_aload_n hx hb dL_law_257 rfl (lv_at hl 3 rfl) ?_
  refine lv_iload_n hx hb dL_law_258 rfl (lv_at hl 0 rfl) ?_
  refine lv_iconst (v := 1) hx hb dL_law_259 (by decide) ?_
  refine lv_iadd hx hb dL_law_260 ?_
  rw [a1]
  refine va_sld hx hb hX hbl hbA hS b1 dL_law_261 ?_
  refine gl_call (E := EX h) (E' := EM h') (n := 1) (As := [.int (xs (nI (i + 1)).toNatClampNeg)]) (rest := []) ⟨hx, hb, hml, hown, htsL⟩ hK1 hP1 hP2 hS hA1 (fun k q hq hz => hdis q.1 hz ((hE' _).2 k q hq)) (lc_data hE hI c (xs (nI (i + 1)).toNatClampNeg)) gL_law_X4_data rfl rfl rfl (by decide +kernel) ⟨Nat.le_of_ble_eq_true rfl, Nat.le_of_ble_eq_true rfl⟩ 0 2 rfl rfl rfl rfl rfl (Nat.le_of_ble_eq_true rfl) hl.1 ⟨Nat.le_of_ble_eq_true rfl, Nat.le_of_ble_eq_true rfl⟩ dL_law_262 (fun H locs hP1 hP2 hS => ?_)
  refine lv_aload_n hx hb dL_law_265 rfl (lv_at hl 1 rfl) ?_
  refine lv_aload_n hx hb dL_law_266 rfl (lv_at hl 3 rfl) ?_
  refine lv_iload_n hx hb dL_law_267 rfl (lv_at hl 0 rfl) ?_
  refine lv_iconst (v := 1) hx hb dL_law_268 (by decide) ?_
  refine lv_iadd hx hb dL_law_269 ?_
  rw [a1]
  refine va_sld hx hb hX hbl hbA hS b1 dL_law_270 ?_
  refine gl_call (E := EM h') (E' := EX h) (n := 1) (As := [.int (xs (nI (i + 1)).toNatClampNeg)]) (rest := [.int (fX5_data (xs (nI (i + 1)).toNatClampNeg) v)]) ⟨hx, hb, hml, hown, htsL⟩ hK2 hP2 hP1 hS hA2 (fun k q hq hz => hdis q.1 ((hE _).2 k q hq) hz) (cX5_data_ h' hE' (xs (nI (i + 1)).toNatClampNeg) v ((rel_data (v := v) c (xs (nI (i + 1)).toNatClampNeg)).2)) gL_law_X5_data rfl rfl rfl (by decide +kernel) ⟨Nat.le_of_ble_eq_true rfl, Nat.le_of_ble_eq_true rfl⟩ 0 3 rfl rfl rfl rfl rfl (Nat.le_of_ble_eq_true rfl) hl.1 ⟨Nat.le_of_ble_eq_true rfl, Nat.le_of_ble_eq_true rfl⟩ dL_law_271 (fun H locs hP2 hP1 hS => ?_)
  refine lv_icmp_eq (tgt := 466) hx hb dL_law_274 (by decide) (fun _ => ?_) (fun z => absurd rfl z)
  refine lv_iinc (v := nI (i + 4)) (lv' := [(3, .int (nI (i + 4))), (2, .ref (mO h')), (1, .ref (xO h)), (0, .ref b)]) hx hb dL_law_466 hl (k := 0) rfl (nI_add i 4) (by decide) rfl (fun ls hl => ?_)
  refine lv_goto (tgt := 18) hx hb dL_law_469 (by decide) ?_
  exact ih (i + 4) hi4 (by omega) v hI H locs ls hP1 hP2 hS hl

set_option maxHeartbeats 4000000 in
set_option maxRecDepth 20000 in
theorem law_c5 {p : Program} {l : Launch} {e : Env} {s : State} {m : MethodId} {below : List Frame} {meth : Method} {c0 : Code} {b L : Nat} {xs : Nat → Int32} (hL : L ≤ 2048) (C0 : lw_At p s m meth c0 b L xs) {h : HX} {h' : HM} (hE : okE (EX h)) (hE' : okE (EM h')) (hK1 : va_K (EX h).1 vwCl (EX h).2.1 s) (hK2 : va_K (EM h').1 vwCl (EM h').2.1 s) (hA1 : ∀ q, (EX h).2.2.1 q → s.heap.size ≤ q) (hA2 : ∀ q, (EM h').2.2.1 q → s.heap.size ≤ q) (hdis : ∀ q, (EX h).2.2.1 q → ¬ (EM h').2.2.1 q) (c : Int32) {n : Nat} (ih : ∀ (i : Nat), i ≤ L → L + 1 ≤ i + n → ∀ (v : ST), Inv v → ∀ (H : Heap) (locs : List Loc) (ls : Array Slot), va_P (EX h).1 vwCl ((EX h).2.2.2 (sNx v c)) H → va_P (EM h').1 vwCl ((EM h').2.2.2 v) H → va_S (fun q : Nat => s.heap.size ≤ q) s.heap H locs → lv_has ls 4 [(3, .int (nI i)), (2, .ref (mO h')), (1, .ref (xO h)), (0, .ref b)] → W p l e room_1 s m #[Value.ref b] below meth c0 H locs 10 4128 (lw_Z below #[Value.ref b] s) (F0 m 18 ls [])) {i : Nat} (hi4 : i + 4 ≤ L) (hin : L + 1 ≤ i + (n + 1)) {v : ST} (hI : Inv v) {H : Heap} {locs : List Loc} {ls : Array Slot} (hP1 : va_P (EX h).1 vwCl ((EX h).2.2.2 (sNx v c)) H) (hP2 : va_P (EM h').1 vwCl ((EM h').2.2.2 v) H) (hS : va_S (fun q : Nat => s.heap.size ≤ q) s.heap H locs) (hl : lv_has ls 4 [(3, .int (nI i)), (2, .ref (mO h')), (1, .ref (xO h)), (0, .ref b)]) : W p l e room_1 s m #[Value.ref b] below meth c0 H locs 10 4128 (lw_Z below #[Value.ref b] s) (F0 m 279 ls []) := by
  obtain ⟨hx, hb, hr, hml, hown, hts, hX, hbl, hlocks, hgv⟩ := C0
  have htsL : ∀ w ∈ wsL_law, w.before #[Value.ref b] s = true := fun w hw => hts w (wsL_law_in w hw)
  have hbA : ¬ (fun q : Nat => s.heap.size ≤ q) b := Nat.not_le.mpr hbl
  have a0 : nI i + 0 = nI (i + 0) := nI_add i 0
  have a1 : nI i + 1 = nI (i + 1) := nI_add i 1
  have a2 : nI i + 2 = nI (i + 2) := nI_add i 2
  have a3 : nI i + 3 = nI (i + 3) := nI_add i 3
  have b0 : vp_in (nI i) L := vp_in_nI (by omega) (by omega)
  have b1 : vp_in (nI (i + 1)) L := vp_in_nI (by omega) (by omega)
  have b2 : vp_in (nI (i + 2)) L := vp_in_nI (by omega) (by omega)
  have b3 : vp_in (nI (i + 3)) L := vp_in_nI (by omega) (by omega)
  refine lv_aload_n hx hb dL_law_279 rfl (lv_at hl 2 rfl) ?_
  refine lv_aload_n hx hb dL_law_280 rfl (lv_at hl 3 rfl) ?_
  refine lv_iload_n hx hb dL_law_281 rfl (lv_at hl 0 rfl) ?_
  refine lv_iconst (v := 1) hx hb dL_law_282 (by decide) ?_
  refine lv_iadd hx hb dL_law_283 ?_
  rw [a1]
  refine va_sld hx hb hX hbl hbA hS b1 dL_law_284 ?_
  refine gl_call (E := EX h) (E' := EM h') (n := 1) (As := [.int (xs (nI (i + 1)).toNatClampNeg)]) (rest := []) ⟨hx, hb, hml, hown, htsL⟩ hK1 hP1 hP2 hS hA1 (fun k q hq hz => hdis q.1 hz ((hE' _).2 k q hq)) (lc_told hE hI c (xs (nI (i + 1)).toNatClampNeg)) gL_law_X4_told rfl rfl rfl (by decide +kernel) ⟨Nat.le_of_ble_eq_true rfl, Nat.le_of_ble_eq_true rfl⟩ 0 2 rfl rfl rfl rfl rfl (Nat.le_of_ble_eq_true rfl) hl.1 ⟨Nat.le_of_ble_eq_true rfl, Nat.le_of_ble_eq_true rfl⟩ dL_law_285 (fun H locs hP1 hP2 hS => ?_)
  refine lv_aload_n hx hb dL_law_288 rfl (lv_at hl 1 rfl) ?_
  refine lv_aload_n hx hb dL_law_289 rfl (lv_at hl 3 rfl) ?_
  refine lv_iload_n hx hb dL_law_290 rfl (lv_at hl 0 rfl) ?_
  refine lv_iconst (v := 1) hx hb dL_law_291 (by decide) ?_
  refine lv_iadd hx hb dL_law_292 ?_
  rw [a1]
  refine va_sld hx hb hX hbl hbA hS b1 dL_law_293 ?_
  refine gl_call (E := EM h') (E' := EX h) (n := 1) (As := [.int (xs (nI (i + 1)).toNatClampNeg)]) (rest := [.int (fX5_told (xs (nI (i + 1)).toNatClampNeg) v)]) ⟨hx, hb, hml, hown, htsL⟩ hK2 hP2 hP1 hS hA2 (fun k q hq hz => hdis q.1 ((hE _).2 k q hq) hz) (cX5_told_ h' hE' (xs (nI (i + 1)).toNatClampNeg) v ((rel_told (v := v) c (xs (nI (i + 1)).toNatClampNeg)).2)) gL_law_X5_told rfl rfl rfl (by decide +kernel) ⟨Nat.le_of_ble_eq_true rfl, Nat.le_of_ble_eq_true rfl⟩ 0 3 rfl rfl rfl rfl rfl (Nat.le_of_ble_eq_true rfl) hl.1 ⟨Nat.le_of_ble_eq_true rfl, Nat.le_of_ble_eq_true rfl⟩ dL_law_294 (fun H locs hP2 hP1 hS => ?_)
  refine lv_icmp_eq (tgt := 466) hx hb dL_law_297 (by decide) (fun _ => ?_) (fun z => absurd rfl z)
  refine lv_iinc (v := nI (i + 4)) (lv' := [(3, .int (nI (i + 4))), (2, .ref (mO h')), (1, .ref (xO h)), (0, .ref b)]) hx hb dL_law_466 hl (k := 0) rfl (nI_add i 4) (by decide) rfl (fun ls hl => ?_)
  refine lv_goto (tgt := 18) hx hb dL_law_469 (by decide) ?_
  exact ih (i + 4) hi4 (by omega) v hI H locs ls hP1 hP2 hS hl

set_option maxHeartbeats 4000000 in
set_option maxRecDepth 20000 in
theorem law_c6 {p : Program} {l : Launch} {e : Env} {s : State} {m : MethodId} {below : List Frame} {meth : Method} {c0 : Code} {b L : Nat} {xs : Nat → Int32} (hL : L ≤ 2048) (C0 : lw_At p s m meth c0 b L xs) {h : HX} {h' : HM} (hE : okE (EX h)) (hE' : okE (EM h')) (hK1 : va_K (EX h).1 vwCl (EX h).2.1 s) (hK2 : va_K (EM h').1 vwCl (EM h').2.1 s) (hA1 : ∀ q, (EX h).2.2.1 q → s.heap.size ≤ q) (hA2 : ∀ q, (EM h').2.2.1 q → s.heap.size ≤ q) (hdis : ∀ q, (EX h).2.2.1 q → ¬ (EM h').2.2.1 q) (c : Int32) {n : Nat} (ih : ∀ (i : Nat), i ≤ L → L + 1 ≤ i + n → ∀ (v : ST), Inv v → ∀ (H : Heap) (locs : List Loc) (ls : Array Slot), va_P (EX h).1 vwCl ((EX h).2.2.2 (sNx v c)) H → va_P (EM h').1 vwCl ((EM h').2.2.2 v) H → va_S (fun q : Nat => s.heap.size ≤ q) s.heap H locs → lv_has ls 4 [(3, .int (nI i)), (2, .ref (mO h')), (1, .ref (xO h)), (0, .ref b)] → W p l e room_1 s m #[Value.ref b] below meth c0 H locs 10 4128 (lw_Z below #[Value.ref b] s) (F0 m 18 ls [])) {i : Nat} (hi4 : i + 4 ≤ L) (hin : L + 1 ≤ i + (n + 1)) {v : ST} (hI : Inv v) {H : Heap} {locs : List Loc} {ls : Array Slot} (hP1 : va_P (EX h).1 vwCl ((EX h).2.2.2 (sNx v c)) H) (hP2 : va_P (EM h').1 vwCl ((EM h').2.2.2 v) H) (hS : va_S (fun q : Nat => s.heap.size ≤ q) s.heap H locs) (hl : lv_has ls 4 [(3, .int (nI i)), (2, .ref (mO h')), (1, .ref (xO h)), (0, .ref b)]) : W p l e room_1 s m #[Value.ref b] below meth c0 H locs 10 4128 (lw_Z below #[Value.ref b] s) (F0 m 302 ls []) := by
  obtain ⟨hx, hb, hr, hml, hown, hts, hX, hbl, hlocks, hgv⟩ := C0
  have htsL : ∀ w ∈ wsL_law, w.before #[Value.ref b] s = true := fun w hw => hts w (wsL_law_in w hw)
  have hbA : ¬ (fun q : Nat => s.heap.size ≤ q) b := Nat.not_le.mpr hbl
  have a0 : nI i + 0 = nI (i + 0) := nI_add i 0
  have a1 : nI i + 1 = nI (i + 1) := nI_add i 1
  have a2 : nI i + 2 = nI (i + 2) := nI_add i 2
  have a3 : nI i + 3 = nI (i + 3) := nI_add i 3
  have b0 : vp_in (nI i) L := vp_in_nI (by omega) (by omega)
  have b1 : vp_in (nI (i + 1)) L := vp_in_nI (by omega) (by omega)
  have b2 : vp_in (nI (i + 2)) L := vp_in_nI (by omega) (by omega)
  have b3 : vp_in (nI (i + 3)) L := vp_in_nI (by omega) (by omega)
  refine lv_aload_n hx hb dL_law_302 rfl (lv_at hl 2 rfl) ?_
  refine lv_aload_n hx hb dL_law_303 rfl (lv_at hl 3 rfl) ?_
  refine lv_iload_n hx hb dL_law_304 rfl (lv_at hl 0 rfl) ?_
  refine lv_iconst (v := 1) hx hb dL_law_305 (by decide) ?_
  refine lv_iadd hx hb dL_law_306 ?_
  rw [a1]
  refine va_sld hx hb hX hbl hbA hS b1 dL_law_307 ?_
  refine gl_call (E := EX h) (E' := EM h') (n := 1) (As := [.int (xs (nI (i + 1)).toNatClampNeg)]) (rest := []) ⟨hx, hb, hml, hown, htsL⟩ hK1 hP1 hP2 hS hA1 (fun k q hq hz => hdis q.1 hz ((hE' _).2 k q hq)) (lc_go hE hI c (xs (nI (i + 1)).toNatClampNeg)) gL_law_X4_go rfl rfl rfl (by decide +kernel) ⟨Nat.le_of_ble_eq_true rfl, Nat.le_of_ble_eq_true rfl⟩ 0 2 rfl rfl rfl rfl rfl (Nat.le_of_ble_eq_true rfl) hl.1 ⟨Nat.le_of_ble_eq_true rfl, Nat.le_of_ble_eq_true rfl⟩ dL_law_308 (fun H locs hP1 hP2 hS => ?_)
  refine lv_aload_n hx hb dL_law_311 rfl (lv_at hl 1 rfl) ?_
  refine lv_aload_n hx hb dL_law_312 rfl (lv_at hl 3 rfl) ?_
  refine lv_iload_n hx hb dL_law_313 rfl (lv_at hl 0 rfl) ?_
  refine lv_iconst (v := 1) hx hb dL_law_314 (by decide) ?_
  refine lv_iadd hx hb dL_law_315 ?_
  rw [a1]
  refine va_sld hx hb hX hbl hbA hS b1 dL_law_316 ?_
  refine gl_call (E := EM h') (E' := EX h) (n := 1) (As := [.int (xs (nI (i + 1)).toNatClampNeg)]) (rest := [.int (fX5_go (xs (nI (i + 1)).toNatClampNeg) v).2]) ⟨hx, hb, hml, hown, htsL⟩ hK2 hP2 hP1 hS hA2 (fun k q hq hz => hdis q.1 ((hE _).2 k q hq) hz) (cX5_go_ h' hE' (xs (nI (i + 1)).toNatClampNeg) v) gL_law_X5_go rfl rfl rfl (by decide +kernel) ⟨Nat.le_of_ble_eq_true rfl, Nat.le_of_ble_eq_true rfl⟩ 0 3 rfl rfl rfl rfl rfl (Nat.le_of_ble_eq_true rfl) hl.1 ⟨Nat.le_of_ble_eq_true rfl, Nat.le_of_ble_eq_true rfl⟩ dL_law_317 (fun H locs hP2 hP1 hS => ?_)
  refine lv_icmp_eq (tgt := 466) hx hb dL_law_320 (by decide) (fun _ => ?_) (fun z => absurd rfl z)
  refine lv_iinc (v := nI (i + 4)) (lv' := [(3, .int (nI (i + 4))), (2, .ref (mO h')), (1, .ref (xO h)), (0, .ref b)]) hx hb dL_law_466 hl (k := 0) rfl (nI_add i 4) (by decide) rfl (fun ls hl => ?_)
  refine lv_goto (tgt := 18) hx hb dL_law_469 (by decide) ?_
  exact ih (i + 4) hi4 (by omega) (fX5_go (xs (nI (i + 1)).toNatClampNeg) v).1 ((rel_go hI c (xs (nI (i + 1)).toNatClampNeg)).2) H locs ls hP1 hP2 hS hl

set_option maxHeartbeats 4000000 in
set_option maxRecDepth 20000 in
theorem law_c7 {p : Program} {l : Launch} {e : Env} {s : State} {m : MethodId} {below : List Frame} {meth : Method} {c0 : Code} {b L : Nat} {xs : Nat → Int32} (hL : L ≤ 2048) (C0 : lw_At p s m meth c0 b L xs) {h : HX} {h' : HM} (hE : okE (EX h)) (hE' : okE (EM h')) (hK1 : va_K (EX h).1 vwCl (EX h).2.1 s) (hK2 : va_K (EM h').1 vwCl (EM h').2.1 s) (hA1 : ∀ q, (EX h).2.2.1 q → s.heap.size ≤ q) (hA2 : ∀ q, (EM h').2.2.1 q → s.heap.size ≤ q) (hdis : ∀ q, (EX h).2.2.1 q → ¬ (EM h').2.2.1 q) (c : Int32) {n : Nat} (ih : ∀ (i : Nat), i ≤ L → L + 1 ≤ i + n → ∀ (v : ST), Inv v → ∀ (H : Heap) (locs : List Loc) (ls : Array Slot), va_P (EX h).1 vwCl ((EX h).2.2.2 (sNx v c)) H → va_P (EM h').1 vwCl ((EM h').2.2.2 v) H → va_S (fun q : Nat => s.heap.size ≤ q) s.heap H locs → lv_has ls 4 [(3, .int (nI i)), (2, .ref (mO h')), (1, .ref (xO h)), (0, .ref b)] → W p l e room_1 s m #[Value.ref b] below meth c0 H locs 10 4128 (lw_Z below #[Value.ref b] s) (F0 m 18 ls [])) {i : Nat} (hi4 : i + 4 ≤ L) (hin : L + 1 ≤ i + (n + 1)) {v : ST} (hI : Inv v) {H : Heap} {locs : List Loc} {ls : Array Slot} (hP1 : va_P (EX h).1 vwCl ((EX h).2.2.2 (sNx v c)) H) (hP2 : va_P (EM h').1 vwCl ((EM h').2.2.2 v) H) (hS : va_S (fun q : Nat => s.heap.size ≤ q) s.heap H locs) (hl : lv_has ls 4 [(3, .int (nI i)), (2, .ref (mO h')), (1, .ref (xO h)), (0, .ref b)]) : W p l e room_1 s m #[Value.ref b] below meth c0 H locs 10 4128 (lw_Z below #[Value.ref b] s) (F0 m 325 ls []) := by
  obtain ⟨hx, hb, hr, hml, hown, hts, hX, hbl, hlocks, hgv⟩ := C0
  have htsL : ∀ w ∈ wsL_law, w.before #[Value.ref b] s = true := fun w hw => hts w (wsL_law_in w hw)
  have hbA : ¬ (fun q : Nat => s.heap.size ≤ q) b := Nat.not_le.mpr hbl
  have a0 : nI i + 0 = nI (i + 0) := nI_add i 0
  have a1 : nI i + 1 = nI (i + 1) := nI_add i 1
  have a2 : nI i + 2 = nI (i + 2) := nI_add i 2
  have a3 : nI i + 3 = nI (i + 3) := nI_add i 3
  have b0 : vp_in (nI i) L := vp_in_nI (by omega) (by omega)
  have b1 : vp_in (nI (i + 1)) L := vp_in_nI (by omega) (by omega)
  have b2 : vp_in (nI (i + 2)) L := vp_in_nI (by omega) (by omega)
  have b3 : vp_in (nI (i + 3)) L := vp_in_nI (by omega) (by omega)
  refine lv_aload_n hx hb dL_law_325 rfl (lv_at hl 2 rfl) ?_
  refine lv_aload_n hx hb dL_law_326 rfl (lv_at hl 3 rfl) ?_
  refine lv_iload_n hx hb dL_law_327 rfl (lv_at hl 0 rfl) ?_
  refine lv_iconst (v := 1) hx hb dL_law_328 (by decide) ?_
  refine lv_iadd hx hb dL_law_329 ?_
  rw [a1]
  refine va_sld hx hb hX hbl hbA hS b1 dL_law_330 ?_
  refine gl_call (E := EX h) (E' := EM h') (n := 1) (As := [.int (xs (nI (i + 1)).toNatClampNeg)]) (rest := []) ⟨hx, hb, hml, hown, htsL⟩ hK1 hP1 hP2 hS hA1 (fun k q hq hz => hdis q.1 hz ((hE' _).2 k q hq)) (lc_ask hE hI c (xs (nI (i + 1)).toNatClampNeg)) gL_law_X4_ask rfl rfl rfl (by decide +kernel) ⟨Nat.le_of_ble_eq_true rfl, Nat.le_of_ble_eq_true rfl⟩ 0 2 rfl rfl rfl rfl rfl (Nat.le_of_ble_eq_true rfl) hl.1 ⟨Nat.le_of_ble_eq_true rfl, Nat.le_of_ble_eq_true rfl⟩ dL_law_331 (fun H locs hP1 hP2 hS => ?_)
  refine lv_aload_n hx hb dL_law_334 rfl (lv_at hl 1 rfl) ?_
  refine lv_aload_n hx hb dL_law_335 rfl (lv_at hl 3 rfl) ?_
  refine lv_iload_n hx hb dL_law_336 rfl (lv_at hl 0 rfl) ?_
  refine lv_iconst (v := 1) hx hb dL_law_337 (by decide) ?_
  refine lv_iadd hx hb dL_law_338 ?_
  rw [a1]
  refine va_sld hx hb hX hbl hbA hS b1 dL_law_339 ?_
  refine gl_call (E := EM h') (E' := EX h) (n := 1) (As := [.int (xs (nI (i + 1)).toNatClampNeg)]) (rest := [.int (fX5_ask (xs (nI (i + 1)).toNatClampNeg) v).2]) ⟨hx, hb, hml, hown, htsL⟩ hK2 hP2 hP1 hS hA2 (fun k q hq hz => hdis q.1 ((hE _).2 k q hq) hz) (cX5_ask_ h' hE' (xs (nI (i + 1)).toNatClampNeg) v) gL_law_X5_ask rfl rfl rfl (by decide +kernel) ⟨Nat.le_of_ble_eq_true rfl, Nat.le_of_ble_eq_true rfl⟩ 0 3 rfl rfl rfl rfl rfl (Nat.le_of_ble_eq_true rfl) hl.1 ⟨Nat.le_of_ble_eq_true rfl, Nat.le_of_ble_eq_true rfl⟩ dL_law_340 (fun H locs hP2 hP1 hS => ?_)
  refine lv_icmp_eq (tgt := 466) hx hb dL_law_343 (by decide) (fun _ => ?_) (fun z => absurd rfl z)
  refine lv_iinc (v := nI (i + 4)) (lv' := [(3, .int (nI (i + 4))), (2, .ref (mO h')), (1, .ref (xO h)), (0, .ref b)]) hx hb dL_law_466 hl (k := 0) rfl (nI_add i 4) (by decide) rfl (fun ls hl => ?_)
  refine lv_goto (tgt := 18) hx hb dL_law_469 (by decide) ?_
  exact ih (i + 4) hi4 (by omega) (fX5_ask (xs (nI (i + 1)).toNatClampNeg) v).1 ((rel_ask hI c (xs (nI (i + 1)).toNatClampNeg)).2) H locs ls hP1 hP2 hS hl

set_option maxHeartbeats 4000000 in
set_option maxRecDepth 20000 in
theorem law_c8 {p : Program} {l : Launch} {e : Env} {s : State} {m : MethodId} {below : List Frame} {meth : Method} {c0 : Code} {b L : Nat} {xs : Nat → Int32} (hL : L ≤ 2048) (C0 : lw_At p s m meth c0 b L xs) {h : HX} {h' : HM} (hE : okE (EX h)) (hE' : okE (EM h')) (hK1 : va_K (EX h).1 vwCl (EX h).2.1 s) (hK2 : va_K (EM h').1 vwCl (EM h').2.1 s) (hA1 : ∀ q, (EX h).2.2.1 q → s.heap.size ≤ q) (hA2 : ∀ q, (EM h').2.2.1 q → s.heap.size ≤ q) (hdis : ∀ q, (EX h).2.2.1 q → ¬ (EM h').2.2.1 q) (c : Int32) {n : Nat} (ih : ∀ (i : Nat), i ≤ L → L + 1 ≤ i + n → ∀ (v : ST), Inv v → ∀ (H : Heap) (locs : List Loc) (ls : Array Slot), va_P (EX h).1 vwCl ((EX h).2.2.2 (sNx v c)) H → va_P (EM h').1 vwCl ((EM h').2.2.2 v) H → va_S (fun q : Nat => s.heap.size ≤ q) s.heap H locs → lv_has ls 4 [(3, .int (nI i)), (2, .ref (mO h')), (1, .ref (xO h)), (0, .ref b)] → W p l e room_1 s m #[Value.ref b] below meth c0 H locs 10 4128 (lw_Z below #[Value.ref b] s) (F0 m 18 ls [])) {i : Nat} (hi4 : i + 4 ≤ L) (hin : L + 1 ≤ i + (n + 1)) {v : ST} (hI : Inv v) {H : Heap} {locs : List Loc} {ls : Array Slot} (hP1 : va_P (EX h).1 vwCl ((EX h).2.2.2 (sNx v c)) H) (hP2 : va_P (EM h').1 vwCl ((EM h').2.2.2 v) H) (hS : va_S (fun q : Nat => s.heap.size ≤ q) s.heap H locs) (hl : lv_has ls 4 [(3, .int (nI i)), (2, .ref (mO h')), (1, .ref (xO h)), (0, .ref b)]) : W p l e room_1 s m #[Value.ref b] below meth c0 H locs 10 4128 (lw_Z below #[Value.ref b] s) (F0 m 348 ls []) := by
  obtain ⟨hx, hb, hr, hml, hown, hts, hX, hbl, hlocks, hgv⟩ := C0
  have htsL : ∀ w ∈ wsL_law, w.before #[Value.ref b] s = true := fun w hw => hts w (wsL_law_in w hw)
  have hbA : ¬ (fun q : Nat => s.heap.size ≤ q) b := Nat.not_le.mpr hbl
  have a0 : nI i + 0 = nI (i + 0) := nI_add i 0
  have a1 : nI i + 1 = nI (i + 1) := nI_add i 1
  have a2 : nI i + 2 = nI (i + 2) := nI_add i 2
  have a3 : nI i + 3 = nI (i + 3) := nI_add i 3
  have b0 : vp_in (nI i) L := vp_in_nI (by omega) (by omega)
  have b1 : vp_in (nI (i + 1)) L := vp_in_nI (by omega) (by omega)
  have b2 : vp_in (nI (i + 2)) L := vp_in_nI (by omega) (by omega)
  have b3 : vp_in (nI (i + 3)) L := vp_in_nI (by omega) (by omega)
  refine lv_aload_n hx hb dL_law_348 rfl (lv_at hl 2 rfl) ?_
  refine gl_call (E := EX h) (E' := EM h') (n := 0) (As := []) (rest := []) ⟨hx, hb, hml, hown, htsL⟩ hK1 hP1 hP2 hS hA1 (fun k q hq hz => hdis q.1 hz ((hE' _).2 k q hq)) (lc_step hE hI c) gL_law_X4_step rfl rfl rfl (by decide +kernel) ⟨Nat.le_of_ble_eq_true rfl, Nat.le_of_ble_eq_true rfl⟩ 0 2 rfl rfl rfl rfl rfl (Nat.le_of_ble_eq_true rfl) hl.1 ⟨Nat.le_of_ble_eq_true rfl, Nat.le_of_ble_eq_true rfl⟩ dL_law_349 (fun H locs hP1 hP2 hS => ?_)
  refine lv_aload_n hx hb dL_law_352 rfl (lv_at hl 1 rfl) ?_
  refine gl_call (E := EM h') (E' := EX h) (n := 0) (As := []) (rest := [.int (fX5_step  v).2]) ⟨hx, hb, hml, hown, htsL⟩ hK2 hP2 hP1 hS hA2 (fun k q hq hz => hdis q.1 ((hE _).2 k q hq) hz) (cX5_step_ h' hE' v ((step_eq hI).2.2.1)) gL_law_X5_step rfl rfl rfl (by decide +kernel) ⟨Nat.le_of_ble_eq_true rfl, Nat.le_of_ble_eq_true rfl⟩ 0 3 rfl rfl rfl rfl rfl (Nat.le_of_ble_eq_true rfl) hl.1 ⟨Nat.le_of_ble_eq_true rfl, Nat.le_of_ble_eq_true rfl⟩ dL_law_353 (fun H locs hP2 hP1 hS => ?_)
  refine lv_icmp_eq (tgt := 466) hx hb dL_law_356 (by decide) (fun _ => ?_) (fun z => absurd rfl z)
  refine lv_iinc (v := nI (i + 4)) (lv' := [(3, .int (nI (i + 4))), (2, .ref (mO h')), (1, .ref (xO h)), (0, .ref b)]) hx hb dL_law_466 hl (k := 0) rfl (nI_add i 4) (by decide) rfl (fun ls hl => ?_)
  refine lv_goto (tgt := 18) hx hb dL_law_469 (by decide) ?_
  exact ih (i + 4) hi4 (by omega) (fX5_step  v).1 ((step_eq hI).2.1) H locs ls hP1 hP2 hS hl

set_option maxHeartbeats 4000000 in
set_option maxRecDepth 20000 in
theorem law_c9 {p : Program} {l : Launch} {e : Env} {s : State} {m : MethodId} {below : List Frame} {meth : Method} {c0 : Code} {b L : Nat} {xs : Nat → Int32} (hL : L ≤ 2048) (C0 : lw_At p s m meth c0 b L xs) {h : HX} {h' : HM} (hE : okE (EX h)) (hE' : okE (EM h')) (hK1 : va_K (EX h).1 vwCl (EX h).2.1 s) (hK2 : va_K (EM h').1 vwCl (EM h').2.1 s) (hA1 : ∀ q, (EX h).2.2.1 q → s.heap.size ≤ q) (hA2 : ∀ q, (EM h').2.2.1 q → s.heap.size ≤ q) (hdis : ∀ q, (EX h).2.2.1 q → ¬ (EM h').2.2.1 q) (c : Int32) {n : Nat} (ih : ∀ (i : Nat), i ≤ L → L + 1 ≤ i + n → ∀ (v : ST), Inv v → ∀ (H : Heap) (locs : List Loc) (ls : Array Slot), va_P (EX h).1 vwCl ((EX h).2.2.2 (sNx v c)) H → va_P (EM h').1 vwCl ((EM h').2.2.2 v) H → va_S (fun q : Nat => s.heap.size ≤ q) s.heap H locs → lv_has ls 4 [(3, .int (nI i)), (2, .ref (mO h')), (1, .ref (xO h)), (0, .ref b)] → W p l e room_1 s m #[Value.ref b] below meth c0 H locs 10 4128 (lw_Z below #[Value.ref b] s) (F0 m 18 ls [])) {i : Nat} (hi4 : i + 4 ≤ L) (hin : L + 1 ≤ i + (n + 1)) {v : ST} (hI : Inv v) {H : Heap} {locs : List Loc} {ls : Array Slot} (hP1 : va_P (EX h).1 vwCl ((EX h).2.2.2 (sNx v c)) H) (hP2 : va_P (EM h').1 vwCl ((EM h').2.2.2 v) H) (hS : va_S (fun q : Nat => s.heap.size ≤ q) s.heap H locs) (hl : lv_has ls 4 [(3, .int (nI i)), (2, .ref (mO h')), (1, .ref (xO h)), (0, .ref b)]) : W p l e room_1 s m #[Value.ref b] below meth c0 H locs 10 4128 (lw_Z below #[Value.ref b] s) (F0 m 361 ls []) := by
  obtain ⟨hx, hb, hr, hml, hown, hts, hX, hbl, hlocks, hgv⟩ := C0
  have htsL : ∀ w ∈ wsL_law, w.before #[Value.ref b] s = true := fun w hw => hts w (wsL_law_in w hw)
  have hbA : ¬ (fun q : Nat => s.heap.size ≤ q) b := Nat.not_le.mpr hbl
  have a0 : nI i + 0 = nI (i + 0) := nI_add i 0
  have a1 : nI i + 1 = nI (i + 1) := nI_add i 1
  have a2 : nI i + 2 = nI (i + 2) := nI_add i 2
  have a3 : nI i + 3 = nI (i + 3) := nI_add i 3
  have b0 : vp_in (nI i) L := vp_in_nI (by omega) (by omega)
  have b1 : vp_in (nI (i + 1)) L := vp_in_nI (by omega) (by omega)
  have b2 : vp_in (nI (i + 2)) L := vp_in_nI (by omega) (by omega)
  have b3 : vp_in (nI (i + 3)) L := vp_in_nI (by omega) (by omega)
  refine lv_aload_n hx hb dL_law_361 rfl (lv_at hl 2 rfl) ?_
  refine lv_aload_n hx hb dL_law_362 rfl (lv_at hl 3 rfl) ?_
  refine lv_iload_n hx hb dL_law_363 rfl (lv_at hl 0 rfl) ?_
  refine lv_iconst (v := 1) hx hb dL_law_364 (by decide) ?_
  refine lv_iadd hx hb dL_law_365 ?_
  rw [a1]
  refine va_sld hx hb hX hbl hbA hS b1 dL_law_366 ?_
  refine gl_call (E := EX h) (E' := EM h') (n := 1) (As := [.int (xs (nI (i + 1)).toNatClampNeg)]) (rest := []) ⟨hx, hb, hml, hown, htsL⟩ hK1 hP1 hP2 hS hA1 (fun k q hq hz => hdis q.1 hz ((hE' _).2 k q hq)) (lc_run hE hI c (xs (nI (i + 1)).toNatClampNeg)) gL_law_X4_run rfl rfl rfl (by decide +kernel) ⟨Nat.le_of_ble_eq_true rfl, Nat.le_of_ble_eq_true rfl⟩ 0 2 rfl rfl rfl rfl rfl (Nat.le_of_ble_eq_true rfl) hl.1 ⟨Nat.le_of_ble_eq_true rfl, Nat.le_of_ble_eq_true rfl⟩ dL_law_367 (fun H locs hP1 hP2 hS => ?_)
  refine lv_aload_n hx hb dL_law_370 rfl (lv_at hl 1 rfl) ?_
  refine lv_aload_n hx hb dL_law_371 rfl (lv_at hl 3 rfl) ?_
  refine lv_iload_n hx hb dL_law_372 rfl (lv_at hl 0 rfl) ?_
  refine lv_iconst (v := 1) hx hb dL_law_373 (by decide) ?_
  refine lv_iadd hx hb dL_law_374 ?_
  rw [a1]
  refine va_sld hx hb hX hbl hbA hS b1 dL_law_375 ?_
  refine gl_call (E := EM h') (E' := EX h) (n := 1) (As := [.int (xs (nI (i + 1)).toNatClampNeg)]) (rest := [.int (fX5_run (xs (nI (i + 1)).toNatClampNeg) v).2]) ⟨hx, hb, hml, hown, htsL⟩ hK2 hP2 hP1 hS hA2 (fun k q hq hz => hdis q.1 ((hE _).2 k q hq) hz) (cX5_run_ h' hE' (xs (nI (i + 1)).toNatClampNeg) v ((rel_run hI c (xs (nI (i + 1)).toNatClampNeg)).2.2)) gL_law_X5_run rfl rfl rfl (by decide +kernel) ⟨Nat.le_of_ble_eq_true rfl, Nat.le_of_ble_eq_true rfl⟩ 0 3 rfl rfl rfl rfl rfl (Nat.le_of_ble_eq_true rfl) hl.1 ⟨Nat.le_of_ble_eq_true rfl, Nat.le_of_ble_eq_true rfl⟩ dL_law_376 (fun H locs hP2 hP1 hS => ?_)
  refine lv_icmp_eq (tgt := 466) hx hb dL_law_379 (by decide) (fun _ => ?_) (fun z => absurd rfl z)
  refine lv_iinc (v := nI (i + 4)) (lv' := [(3, .int (nI (i + 4))), (2, .ref (mO h')), (1, .ref (xO h)), (0, .ref b)]) hx hb dL_law_466 hl (k := 0) rfl (nI_add i 4) (by decide) rfl (fun ls hl => ?_)
  refine lv_goto (tgt := 18) hx hb dL_law_469 (by decide) ?_
  exact ih (i + 4) hi4 (by omega) (fX5_run (xs (nI (i + 1)).toNatClampNeg) v).1 ((rel_run hI c (xs (nI (i + 1)).toNatClampNeg)).2.1) H locs ls hP1 hP2 hS hl

set_option maxHeartbeats 4000000 in
set_option maxRecDepth 20000 in
theorem law_c10 {p : Program} {l : Launch} {e : Env} {s : State} {m : MethodId} {below : List Frame} {meth : Method} {c0 : Code} {b L : Nat} {xs : Nat → Int32} (hL : L ≤ 2048) (C0 : lw_At p s m meth c0 b L xs) {h : HX} {h' : HM} (hE : okE (EX h)) (hE' : okE (EM h')) (hK1 : va_K (EX h).1 vwCl (EX h).2.1 s) (hK2 : va_K (EM h').1 vwCl (EM h').2.1 s) (hA1 : ∀ q, (EX h).2.2.1 q → s.heap.size ≤ q) (hA2 : ∀ q, (EM h').2.2.1 q → s.heap.size ≤ q) (hdis : ∀ q, (EX h).2.2.1 q → ¬ (EM h').2.2.1 q) (c : Int32) {n : Nat} (ih : ∀ (i : Nat), i ≤ L → L + 1 ≤ i + n → ∀ (v : ST), Inv v → ∀ (H : Heap) (locs : List Loc) (ls : Array Slot), va_P (EX h).1 vwCl ((EX h).2.2.2 (sNx v c)) H → va_P (EM h').1 vwCl ((EM h').2.2.2 v) H → va_S (fun q : Nat => s.heap.size ≤ q) s.heap H locs → lv_has ls 4 [(3, .int (nI i)), (2, .ref (mO h')), (1, .ref (xO h)), (0, .ref b)] → W p l e room_1 s m #[Value.ref b] below meth c0 H locs 10 4128 (lw_Z below #[Value.ref b] s) (F0 m 18 ls [])) {i : Nat} (hi4 : i + 4 ≤ L) (hin : L + 1 ≤ i + (n + 1)) {v : ST} (hI : Inv v) {H : Heap} {locs : List Loc} {ls : Array Slot} (hP1 : va_P (EX h).1 vwCl ((EX h).2.2.2 (sNx v c)) H) (hP2 : va_P (EM h').1 vwCl ((EM h').2.2.2 v) H) (hS : va_S (fun q : Nat => s.heap.size ≤ q) s.heap H locs) (hl : lv_has ls 4 [(3, .int (nI i)), (2, .ref (mO h')), (1, .ref (xO h)), (0, .ref b)]) : W p l e room_1 s m #[Value.ref b] below meth c0 H locs 10 4128 (lw_Z below #[Value.ref b] s) (F0 m 384 ls []) := by
  obtain ⟨hx, hb, hr, hml, hown, hts, hX, hbl, hlocks, hgv⟩ := C0
  have htsL : ∀ w ∈ wsL_law, w.before #[Value.ref b] s = true := fun w hw => hts w (wsL_law_in w hw)
  have hbA : ¬ (fun q : Nat => s.heap.size ≤ q) b := Nat.not_le.mpr hbl
  have a0 : nI i + 0 = nI (i + 0) := nI_add i 0
  have a1 : nI i + 1 = nI (i + 1) := nI_add i 1
  have a2 : nI i + 2 = nI (i + 2) := nI_add i 2
  have a3 : nI i + 3 = nI (i + 3) := nI_add i 3
  have b0 : vp_in (nI i) L := vp_in_nI (by omega) (by omega)
  have b1 : vp_in (nI (i + 1)) L := vp_in_nI (by omega) (by omega)
  have b2 : vp_in (nI (i + 2)) L := vp_in_nI (by omega) (by omega)
  have b3 : vp_in (nI (i + 3)) L := vp_in_nI (by omega) (by omega)
  refine lv_aload_n hx hb dL_law_384 rfl (lv_at hl 2 rfl) ?_
  refine gl_call (E := EX h) (E' := EM h') (n := 0) (As := []) (rest := []) ⟨hx, hb, hml, hown, htsL⟩ hK1 hP1 hP2 hS hA1 (fun k q hq hz => hdis q.1 hz ((hE' _).2 k q hq)) (lc_ended hE hI c) gL_law_X4_ended rfl rfl rfl (by decide +kernel) ⟨Nat.le_of_ble_eq_true rfl, Nat.le_of_ble_eq_true rfl⟩ 0 2 rfl rfl rfl rfl rfl (Nat.le_of_ble_eq_true rfl) hl.1 ⟨Nat.le_of_ble_eq_true rfl, Nat.le_of_ble_eq_true rfl⟩ dL_law_385 (fun H locs hP1 hP2 hS => ?_)
  refine lv_aload_n hx hb dL_law_388 rfl (lv_at hl 1 rfl) ?_
  refine gl_call (E := EM h') (E' := EX h) (n := 0) (As := []) (rest := [.int (fX5_ended  v)]) ⟨hx, hb, hml, hown, htsL⟩ hK2 hP2 hP1 hS hA2 (fun k q hq hz => hdis q.1 ((hE _).2 k q hq) hz) (cX5_ended_ h' hE' v) gL_law_X5_ended rfl rfl rfl (by decide +kernel) ⟨Nat.le_of_ble_eq_true rfl, Nat.le_of_ble_eq_true rfl⟩ 0 3 rfl rfl rfl rfl rfl (Nat.le_of_ble_eq_true rfl) hl.1 ⟨Nat.le_of_ble_eq_true rfl, Nat.le_of_ble_eq_true rfl⟩ dL_law_389 (fun H locs hP2 hP1 hS => ?_)
  refine lv_icmp_eq (tgt := 466) hx hb dL_law_392 (by decide) (fun _ => ?_) (fun z => absurd rfl z)
  refine lv_iinc (v := nI (i + 4)) (lv' := [(3, .int (nI (i + 4))), (2, .ref (mO h')), (1, .ref (xO h)), (0, .ref b)]) hx hb dL_law_466 hl (k := 0) rfl (nI_add i 4) (by decide) rfl (fun ls hl => ?_)
  refine lv_goto (tgt := 18) hx hb dL_law_469 (by decide) ?_
  exact ih (i + 4) hi4 (by omega) v hI H locs ls hP1 hP2 hS hl

set_option maxHeartbeats 4000000 in
set_option maxRecDepth 20000 in
theorem law_c11 {p : Program} {l : Launch} {e : Env} {s : State} {m : MethodId} {below : List Frame} {meth : Method} {c0 : Code} {b L : Nat} {xs : Nat → Int32} (hL : L ≤ 2048) (C0 : lw_At p s m meth c0 b L xs) {h : HX} {h' : HM} (hE : okE (EX h)) (hE' : okE (EM h')) (hK1 : va_K (EX h).1 vwCl (EX h).2.1 s) (hK2 : va_K (EM h').1 vwCl (EM h').2.1 s) (hA1 : ∀ q, (EX h).2.2.1 q → s.heap.size ≤ q) (hA2 : ∀ q, (EM h').2.2.1 q → s.heap.size ≤ q) (hdis : ∀ q, (EX h).2.2.1 q → ¬ (EM h').2.2.1 q) (c : Int32) {n : Nat} (ih : ∀ (i : Nat), i ≤ L → L + 1 ≤ i + n → ∀ (v : ST), Inv v → ∀ (H : Heap) (locs : List Loc) (ls : Array Slot), va_P (EX h).1 vwCl ((EX h).2.2.2 (sNx v c)) H → va_P (EM h').1 vwCl ((EM h').2.2.2 v) H → va_S (fun q : Nat => s.heap.size ≤ q) s.heap H locs → lv_has ls 4 [(3, .int (nI i)), (2, .ref (mO h')), (1, .ref (xO h)), (0, .ref b)] → W p l e room_1 s m #[Value.ref b] below meth c0 H locs 10 4128 (lw_Z below #[Value.ref b] s) (F0 m 18 ls [])) {i : Nat} (hi4 : i + 4 ≤ L) (hin : L + 1 ≤ i + (n + 1)) {v : ST} (hI : Inv v) {H : Heap} {locs : List Loc} {ls : Array Slot} (hP1 : va_P (EX h).1 vwCl ((EX h).2.2.2 (sNx v c)) H) (hP2 : va_P (EM h').1 vwCl ((EM h').2.2.2 v) H) (hS : va_S (fun q : Nat => s.heap.size ≤ q) s.heap H locs) (hl : lv_has ls 4 [(3, .int (nI i)), (2, .ref (mO h')), (1, .ref (xO h)), (0, .ref b)]) : W p l e room_1 s m #[Value.ref b] below meth c0 H locs 10 4128 (lw_Z below #[Value.ref b] s) (F0 m 397 ls []) := by
  obtain ⟨hx, hb, hr, hml, hown, hts, hX, hbl, hlocks, hgv⟩ := C0
  have htsL : ∀ w ∈ wsL_law, w.before #[Value.ref b] s = true := fun w hw => hts w (wsL_law_in w hw)
  have hbA : ¬ (fun q : Nat => s.heap.size ≤ q) b := Nat.not_le.mpr hbl
  have a0 : nI i + 0 = nI (i + 0) := nI_add i 0
  have a1 : nI i + 1 = nI (i + 1) := nI_add i 1
  have a2 : nI i + 2 = nI (i + 2) := nI_add i 2
  have a3 : nI i + 3 = nI (i + 3) := nI_add i 3
  have b0 : vp_in (nI i) L := vp_in_nI (by omega) (by omega)
  have b1 : vp_in (nI (i + 1)) L := vp_in_nI (by omega) (by omega)
  have b2 : vp_in (nI (i + 2)) L := vp_in_nI (by omega) (by omega)
  have b3 : vp_in (nI (i + 3)) L := vp_in_nI (by omega) (by omega)
  refine lv_aload_n hx hb dL_law_397 rfl (lv_at hl 2 rfl) ?_
  refine lv_aload_n hx hb dL_law_398 rfl (lv_at hl 3 rfl) ?_
  refine lv_iload_n hx hb dL_law_399 rfl (lv_at hl 0 rfl) ?_
  refine lv_iconst (v := 1) hx hb dL_law_400 (by decide) ?_
  refine lv_iadd hx hb dL_law_401 ?_
  rw [a1]
  refine va_sld hx hb hX hbl hbA hS b1 dL_law_402 ?_
  refine lv_aload_n hx hb dL_law_403 rfl (lv_at hl 3 rfl) ?_
  refine lv_iload_n hx hb dL_law_404 rfl (lv_at hl 0 rfl) ?_
  refine lv_iconst (v := 2) hx hb dL_law_405 (by decide) ?_
  refine lv_iadd hx hb dL_law_406 ?_
  rw [a2]
  refine va_sld hx hb hX hbl hbA hS b2 dL_law_407 ?_
  refine gl_call (E := EX h) (E' := EM h') (n := 2) (As := [.int (xs (nI (i + 1)).toNatClampNeg), .int (xs (nI (i + 2)).toNatClampNeg)]) (rest := []) ⟨hx, hb, hml, hown, htsL⟩ hK1 hP1 hP2 hS hA1 (fun k q hq hz => hdis q.1 hz ((hE' _).2 k q hq)) (lc_reads hE hI c (xs (nI (i + 1)).toNatClampNeg) (xs (nI (i + 2)).toNatClampNeg)) gL_law_X4_reads rfl rfl rfl (by decide +kernel) ⟨Nat.le_of_ble_eq_true rfl, Nat.le_of_ble_eq_true rfl⟩ 0 2 rfl rfl rfl rfl rfl (Nat.le_of_ble_eq_true rfl) hl.1 ⟨Nat.le_of_ble_eq_true rfl, Nat.le_of_ble_eq_true rfl⟩ dL_law_408 (fun H locs hP1 hP2 hS => ?_)
  refine lv_aload_n hx hb dL_law_411 rfl (lv_at hl 1 rfl) ?_
  refine lv_aload_n hx hb dL_law_412 rfl (lv_at hl 3 rfl) ?_
  refine lv_iload_n hx hb dL_law_413 rfl (lv_at hl 0 rfl) ?_
  refine lv_iconst (v := 1) hx hb dL_law_414 (by decide) ?_
  refine lv_iadd hx hb dL_law_415 ?_
  rw [a1]
  refine va_sld hx hb hX hbl hbA hS b1 dL_law_416 ?_
  refine lv_aload_n hx hb dL_law_417 rfl (lv_at hl 3 rfl) ?_
  refine lv_iload_n hx hb dL_law_418 rfl (lv_at hl 0 rfl) ?_
  refine lv_iconst (v := 2) hx hb dL_law_419 (by decide) ?_
  refine lv_iadd hx hb dL_law_420 ?_
  rw [a2]
  refine va_sld hx hb hX hbl hbA hS b2 dL_law_421 ?_
  refine gl_call (E := EM h') (E' := EX h) (n := 2) (As := [.int (xs (nI (i + 1)).toNatClampNeg), .int (xs (nI (i + 2)).toNatClampNeg)]) (rest := [.int (fX5_reads (xs (nI (i + 1)).toNatClampNeg) (xs (nI (i + 2)).toNatClampNeg) v)]) ⟨hx, hb, hml, hown, htsL⟩ hK2 hP2 hP1 hS hA2 (fun k q hq hz => hdis q.1 ((hE _).2 k q hq) hz) (cX5_reads_ h' hE' (xs (nI (i + 1)).toNatClampNeg) (xs (nI (i + 2)).toNatClampNeg) v) gL_law_X5_reads rfl rfl rfl (by decide +kernel) ⟨Nat.le_of_ble_eq_true rfl, Nat.le_of_ble_eq_true rfl⟩ 0 3 rfl rfl rfl rfl rfl (Nat.le_of_ble_eq_true rfl) hl.1 ⟨Nat.le_of_ble_eq_true rfl, Nat.le_of_ble_eq_true rfl⟩ dL_law_422 (fun H locs hP2 hP1 hS => ?_)
  refine lv_icmp_eq (tgt := 466) hx hb dL_law_425 (by decide) (fun _ => ?_) (fun z => absurd rfl z)
  refine lv_iinc (v := nI (i + 4)) (lv' := [(3, .int (nI (i + 4))), (2, .ref (mO h')), (1, .ref (xO h)), (0, .ref b)]) hx hb dL_law_466 hl (k := 0) rfl (nI_add i 4) (by decide) rfl (fun ls hl => ?_)
  refine lv_goto (tgt := 18) hx hb dL_law_469 (by decide) ?_
  exact ih (i + 4) hi4 (by omega) v hI H locs ls hP1 hP2 hS hl

set_option maxHeartbeats 4000000 in
set_option maxRecDepth 20000 in
theorem law_c12 {p : Program} {l : Launch} {e : Env} {s : State} {m : MethodId} {below : List Frame} {meth : Method} {c0 : Code} {b L : Nat} {xs : Nat → Int32} (hL : L ≤ 2048) (C0 : lw_At p s m meth c0 b L xs) {h : HX} {h' : HM} (hE : okE (EX h)) (hE' : okE (EM h')) (hK1 : va_K (EX h).1 vwCl (EX h).2.1 s) (hK2 : va_K (EM h').1 vwCl (EM h').2.1 s) (hA1 : ∀ q, (EX h).2.2.1 q → s.heap.size ≤ q) (hA2 : ∀ q, (EM h').2.2.1 q → s.heap.size ≤ q) (hdis : ∀ q, (EX h).2.2.1 q → ¬ (EM h').2.2.1 q) (c : Int32) {n : Nat} (ih : ∀ (i : Nat), i ≤ L → L + 1 ≤ i + n → ∀ (v : ST), Inv v → ∀ (H : Heap) (locs : List Loc) (ls : Array Slot), va_P (EX h).1 vwCl ((EX h).2.2.2 (sNx v c)) H → va_P (EM h').1 vwCl ((EM h').2.2.2 v) H → va_S (fun q : Nat => s.heap.size ≤ q) s.heap H locs → lv_has ls 4 [(3, .int (nI i)), (2, .ref (mO h')), (1, .ref (xO h)), (0, .ref b)] → W p l e room_1 s m #[Value.ref b] below meth c0 H locs 10 4128 (lw_Z below #[Value.ref b] s) (F0 m 18 ls [])) {i : Nat} (hi4 : i + 4 ≤ L) (hin : L + 1 ≤ i + (n + 1)) {v : ST} (hI : Inv v) {H : Heap} {locs : List Loc} {ls : Array Slot} (hP1 : va_P (EX h).1 vwCl ((EX h).2.2.2 (sNx v c)) H) (hP2 : va_P (EM h').1 vwCl ((EM h').2.2.2 v) H) (hS : va_S (fun q : Nat => s.heap.size ≤ q) s.heap H locs) (hl : lv_has ls 4 [(3, .int (nI i)), (2, .ref (mO h')), (1, .ref (xO h)), (0, .ref b)]) : W p l e room_1 s m #[Value.ref b] below meth c0 H locs 10 4128 (lw_Z below #[Value.ref b] s) (F0 m 430 ls []) := by
  obtain ⟨hx, hb, hr, hml, hown, hts, hX, hbl, hlocks, hgv⟩ := C0
  have htsL : ∀ w ∈ wsL_law, w.before #[Value.ref b] s = true := fun w hw => hts w (wsL_law_in w hw)
  have hbA : ¬ (fun q : Nat => s.heap.size ≤ q) b := Nat.not_le.mpr hbl
  have a0 : nI i + 0 = nI (i + 0) := nI_add i 0
  have a1 : nI i + 1 = nI (i + 1) := nI_add i 1
  have a2 : nI i + 2 = nI (i + 2) := nI_add i 2
  have a3 : nI i + 3 = nI (i + 3) := nI_add i 3
  have b0 : vp_in (nI i) L := vp_in_nI (by omega) (by omega)
  have b1 : vp_in (nI (i + 1)) L := vp_in_nI (by omega) (by omega)
  have b2 : vp_in (nI (i + 2)) L := vp_in_nI (by omega) (by omega)
  have b3 : vp_in (nI (i + 3)) L := vp_in_nI (by omega) (by omega)
  refine lv_aload_n hx hb dL_law_430 rfl (lv_at hl 2 rfl) ?_
  refine gl_call (E := EX h) (E' := EM h') (n := 0) (As := []) (rest := []) ⟨hx, hb, hml, hown, htsL⟩ hK1 hP1 hP2 hS hA1 (fun k q hq hz => hdis q.1 hz ((hE' _).2 k q hq)) (lc_digest hE hI c) gL_law_X4_digest rfl rfl rfl (by decide +kernel) ⟨Nat.le_of_ble_eq_true rfl, Nat.le_of_ble_eq_true rfl⟩ 0 2 rfl rfl rfl rfl rfl (Nat.le_of_ble_eq_true rfl) hl.1 ⟨Nat.le_of_ble_eq_true rfl, Nat.le_of_ble_eq_true rfl⟩ dL_law_431 (fun H locs hP1 hP2 hS => ?_)
  refine lv_aload_n hx hb dL_law_434 rfl (lv_at hl 1 rfl) ?_
  refine gl_call (E := EM h') (E' := EX h) (n := 0) (As := []) (rest := [.int (fX5_digest  v)]) ⟨hx, hb, hml, hown, htsL⟩ hK2 hP2 hP1 hS hA2 (fun k q hq hz => hdis q.1 ((hE _).2 k q hq) hz) (cX5_digest_ h' hE' v) gL_law_X5_digest rfl rfl rfl (by decide +kernel) ⟨Nat.le_of_ble_eq_true rfl, Nat.le_of_ble_eq_true rfl⟩ 0 3 rfl rfl rfl rfl rfl (Nat.le_of_ble_eq_true rfl) hl.1 ⟨Nat.le_of_ble_eq_true rfl, Nat.le_of_ble_eq_true rfl⟩ dL_law_435 (fun H locs hP2 hP1 hS => ?_)
  refine lv_icmp_eq (tgt := 466) hx hb dL_law_438 (by decide) (fun _ => ?_) (fun z => absurd rfl z)
  refine lv_iinc (v := nI (i + 4)) (lv' := [(3, .int (nI (i + 4))), (2, .ref (mO h')), (1, .ref (xO h)), (0, .ref b)]) hx hb dL_law_466 hl (k := 0) rfl (nI_add i 4) (by decide) rfl (fun ls hl => ?_)
  refine lv_goto (tgt := 18) hx hb dL_law_469 (by decide) ?_
  exact ih (i + 4) hi4 (by omega) v hI H locs ls hP1 hP2 hS hl

set_option maxHeartbeats 4000000 in
set_option maxRecDepth 20000 in
theorem law_c13 {p : Program} {l : Launch} {e : Env} {s : State} {m : MethodId} {below : List Frame} {meth : Method} {c0 : Code} {b L : Nat} {xs : Nat → Int32} (hL : L ≤ 2048) (C0 : lw_At p s m meth c0 b L xs) {h : HX} {h' : HM} (hE : okE (EX h)) (hE' : okE (EM h')) (hK1 : va_K (EX h).1 vwCl (EX h).2.1 s) (hK2 : va_K (EM h').1 vwCl (EM h').2.1 s) (hA1 : ∀ q, (EX h).2.2.1 q → s.heap.size ≤ q) (hA2 : ∀ q, (EM h').2.2.1 q → s.heap.size ≤ q) (hdis : ∀ q, (EX h).2.2.1 q → ¬ (EM h').2.2.1 q) (c : Int32) {n : Nat} (ih : ∀ (i : Nat), i ≤ L → L + 1 ≤ i + n → ∀ (v : ST), Inv v → ∀ (H : Heap) (locs : List Loc) (ls : Array Slot), va_P (EX h).1 vwCl ((EX h).2.2.2 (sNx v c)) H → va_P (EM h').1 vwCl ((EM h').2.2.2 v) H → va_S (fun q : Nat => s.heap.size ≤ q) s.heap H locs → lv_has ls 4 [(3, .int (nI i)), (2, .ref (mO h')), (1, .ref (xO h)), (0, .ref b)] → W p l e room_1 s m #[Value.ref b] below meth c0 H locs 10 4128 (lw_Z below #[Value.ref b] s) (F0 m 18 ls [])) {i : Nat} (hi4 : i + 4 ≤ L) (hin : L + 1 ≤ i + (n + 1)) {v : ST} (hI : Inv v) {H : Heap} {locs : List Loc} {ls : Array Slot} (hP1 : va_P (EX h).1 vwCl ((EX h).2.2.2 (sNx v c)) H) (hP2 : va_P (EM h').1 vwCl ((EM h').2.2.2 v) H) (hS : va_S (fun q : Nat => s.heap.size ≤ q) s.heap H locs) (hl : lv_has ls 4 [(3, .int (nI i)), (2, .ref (mO h')), (1, .ref (xO h)), (0, .ref b)]) : W p l e room_1 s m #[Value.ref b] below meth c0 H locs 10 4128 (lw_Z below #[Value.ref b] s) (F0 m 443 ls []) := by
  obtain ⟨hx, hb, hr, hml, hown, hts, hX, hbl, hlocks, hgv⟩ := C0
  have htsL : ∀ w ∈ wsL_law, w.before #[Value.ref b] s = true := fun w hw => hts w (wsL_law_in w hw)
  have hbA : ¬ (fun q : Nat => s.heap.size ≤ q) b := Nat.not_le.mpr hbl
  have a0 : nI i + 0 = nI (i + 0) := nI_add i 0
  have a1 : nI i + 1 = nI (i + 1) := nI_add i 1
  have a2 : nI i + 2 = nI (i + 2) := nI_add i 2
  have a3 : nI i + 3 = nI (i + 3) := nI_add i 3
  have b0 : vp_in (nI i) L := vp_in_nI (by omega) (by omega)
  have b1 : vp_in (nI (i + 1)) L := vp_in_nI (by omega) (by omega)
  have b2 : vp_in (nI (i + 2)) L := vp_in_nI (by omega) (by omega)
  have b3 : vp_in (nI (i + 3)) L := vp_in_nI (by omega) (by omega)
  refine lv_aload_n hx hb dL_law_443 rfl (lv_at hl 2 rfl) ?_
  refine lv_aload_n hx hb dL_law_444 rfl (lv_at hl 3 rfl) ?_
  refine lv_iload_n hx hb dL_law_445 rfl (lv_at hl 0 rfl) ?_
  refine lv_iconst (v := 1) hx hb dL_law_446 (by decide) ?_
  refine lv_iadd hx hb dL_law_447 ?_
  rw [a1]
  refine va_sld hx hb hX hbl hbA hS b1 dL_law_448 ?_
  refine gl_call (E := EX h) (E' := EM h') (n := 1) (As := [.int (xs (nI (i + 1)).toNatClampNeg)]) (rest := []) ⟨hx, hb, hml, hown, htsL⟩ hK1 hP1 hP2 hS hA1 (fun k q hq hz => hdis q.1 hz ((hE' _).2 k q hq)) (lc_count hE hI c (xs (nI (i + 1)).toNatClampNeg)) gL_law_X4_count rfl rfl rfl (by decide +kernel) ⟨Nat.le_of_ble_eq_true rfl, Nat.le_of_ble_eq_true rfl⟩ 0 2 rfl rfl rfl rfl rfl (Nat.le_of_ble_eq_true rfl) hl.1 ⟨Nat.le_of_ble_eq_true rfl, Nat.le_of_ble_eq_true rfl⟩ dL_law_449 (fun H locs hP1 hP2 hS => ?_)
  refine lv_aload_n hx hb dL_law_452 rfl (lv_at hl 1 rfl) ?_
  refine lv_aload_n hx hb dL_law_453 rfl (lv_at hl 3 rfl) ?_
  refine lv_iload_n hx hb dL_law_454 rfl (lv_at hl 0 rfl) ?_
  refine lv_iconst (v := 1) hx hb dL_law_455 (by decide) ?_
  refine lv_iadd hx hb dL_law_456 ?_
  rw [a1]
  refine va_sld hx hb hX hbl hbA hS b1 dL_law_457 ?_
  refine gl_call (E := EM h') (E' := EX h) (n := 1) (As := [.int (xs (nI (i + 1)).toNatClampNeg)]) (rest := [.int (fX5_count (xs (nI (i + 1)).toNatClampNeg) v)]) ⟨hx, hb, hml, hown, htsL⟩ hK2 hP2 hP1 hS hA2 (fun k q hq hz => hdis q.1 ((hE _).2 k q hq) hz) (cX5_count_ h' hE' (xs (nI (i + 1)).toNatClampNeg) v ((rel_count v c (xs (nI (i + 1)).toNatClampNeg)).2.1)) gL_law_X5_count rfl rfl rfl (by decide +kernel) ⟨Nat.le_of_ble_eq_true rfl, Nat.le_of_ble_eq_true rfl⟩ 0 3 rfl rfl rfl rfl rfl (Nat.le_of_ble_eq_true rfl) hl.1 ⟨Nat.le_of_ble_eq_true rfl, Nat.le_of_ble_eq_true rfl⟩ dL_law_458 (fun H locs hP2 hP1 hS => ?_)
  refine lv_icmp_eq (tgt := 466) hx hb dL_law_461 (by decide) (fun _ => ?_) (fun z => absurd rfl z)
  refine lv_iinc (v := nI (i + 4)) (lv' := [(3, .int (nI (i + 4))), (2, .ref (mO h')), (1, .ref (xO h)), (0, .ref b)]) hx hb dL_law_466 hl (k := 0) rfl (nI_add i 4) (by decide) rfl (fun ls hl => ?_)
  refine lv_goto (tgt := 18) hx hb dL_law_469 (by decide) ?_
  exact ih (i + 4) hi4 (by omega) v hI H locs ls hP1 hP2 hS hl

set_option maxHeartbeats 4000000 in
set_option maxRecDepth 20000 in
/-- THE LAW'S LOOP: at its head both are as far -/
theorem law_loop {p : Program} {l : Launch} {e : Env} {s : State} {m : MethodId} {below : List Frame} {meth : Method} {c0 : Code} {b L : Nat} {xs : Nat → Int32} (hL : L ≤ 2048) (C0 : lw_At p s m meth c0 b L xs) {h : HX} {h' : HM} (hE : okE (EX h)) (hE' : okE (EM h')) (hK1 : va_K (EX h).1 vwCl (EX h).2.1 s) (hK2 : va_K (EM h').1 vwCl (EM h').2.1 s) (hA1 : ∀ q, (EX h).2.2.1 q → s.heap.size ≤ q) (hA2 : ∀ q, (EM h').2.2.1 q → s.heap.size ≤ q) (hdis : ∀ q, (EX h).2.2.1 q → ¬ (EM h').2.2.1 q) (c : Int32) : ∀ (n : Nat), ∀ (i : Nat), i ≤ L → L + 1 ≤ i + n → ∀ (v : ST), Inv v → ∀ (H : Heap) (locs : List Loc) (ls : Array Slot), va_P (EX h).1 vwCl ((EX h).2.2.2 (sNx v c)) H → va_P (EM h').1 vwCl ((EM h').2.2.2 v) H → va_S (fun q : Nat => s.heap.size ≤ q) s.heap H locs → lv_has ls 4 [(3, .int (nI i)), (2, .ref (mO h')), (1, .ref (xO h)), (0, .ref b)] → W p l e room_1 s m #[Value.ref b] below meth c0 H locs 10 4128 (lw_Z below #[Value.ref b] s) (F0 m 18 ls []) := by
  intro n
  induction n with
  | zero => intro i h1 h2; exact absurd h2 (by omega)
  | succ n ih =>
    intro i hi hin v hI H locs ls hP1 hP2 hS hl
    obtain ⟨hx, hb, hr, hml, hown, hts, hX, hbl, hlocks, hgv⟩ := id C0
    have hbA : ¬ (fun q : Nat => s.heap.size ≤ q) b := Nat.not_le.mpr hbl
    refine lv_iload_n hx hb dL_law_18 rfl (lv_at hl 0 rfl) ?_
    refine lv_aload_n hx hb dL_law_19 rfl (lv_at hl 3 rfl) ?_
    refine va_slen hx hb hX hbl hbA hS dL_law_20 ?_
    refine lv_iconst (v := 4) hx hb dL_law_21 (by decide) ?_
    refine lv_isub hx hb dL_law_22 ?_
    refine lv_icmp_gt (tgt := 472) hx hb dL_law_23 (by decide) (fun _ => ?_) (fun q => ?_)
    · refine lv_iconst (v := 1) hx hb dL_law_472 (by decide) ?_
      refine va_forget (fun q hq => hS.2.2 q hq) ?_
      exact lw_ret hx hb hr hlocks dL_law_473
    · have hi4 : i + 4 ≤ L := Decidable.byContradiction fun z => q ((lim_n hL hi).mpr z)
      have b0 : vp_in (nI i) L := vp_in_nI (by omega) (by omega)
      refine lv_aload_n hx hb dL_law_26 rfl (lv_at hl 3 rfl) ?_
      refine lv_iload_n hx hb dL_law_27 rfl (lv_at hl 0 rfl) ?_
      refine va_sld hx hb hX hbl hbA hS b0 dL_law_28 ?_
      refine lv_bipush (v := 15) hx hb dL_law_29 (by decide) ?_
      refine lv_iand hx hb dL_law_31 ?_
      obtain ⟨y, hy, ey⟩ := l_ex (xs (nI i).toNatClampNeg)
      rw [ey]
      rcases (show y = 0 ∨ y = 1 ∨ y = 2 ∨ y = 3 ∨ y = 4 ∨ y = 5 ∨ y = 6 ∨ y = 7 ∨ y = 8 ∨ y = 9 ∨ y = 10 ∨ y = 11 ∨ y = 12 ∨ y = 13 ∨ y = 14 ∨ y = 15 by omega) with rfl | rfl | rfl | rfl | rfl | rfl | rfl | rfl | rfl | rfl | rfl | rfl | rfl | rfl | rfl | rfl
      · refine lv_tableIn (off := 72) (tgt := 104) hx hb dL_law_32 (by decide) (by decide) (by decide) (by decide) ?_
        exact law_c0 hL C0 hE hE' hK1 hK2 hA1 hA2 hdis c ih hi4 hin hI hP1 hP2 hS hl
      · refine lv_tableIn (off := 105) (tgt := 137) hx hb dL_law_32 (by decide) (by decide) (by decide) (by decide) ?_
        exact law_c1 hL C0 hE hE' hK1 hK2 hA1 hA2 hdis c ih hi4 hin hI hP1 hP2 hS hl
      · refine lv_tableIn (off := 168) (tgt := 200) hx hb dL_law_32 (by decide) (by decide) (by decide) (by decide) ?_
        exact law_c2 hL C0 hE hE' hK1 hK2 hA1 hA2 hdis c ih hi4 hin hI hP1 hP2 hS hl
      · refine lv_tableIn (off := 191) (tgt := 223) hx hb dL_law_32 (by decide) (by decide) (by decide) (by decide) ?_
        exact law_c3 hL C0 hE hE' hK1 hK2 hA1 hA2 hdis c ih hi4 hin hI hP1 hP2 hS hl
      · refine lv_tableIn (off := 224) (tgt := 256) hx hb dL_law_32 (by decide) (by decide) (by decide) (by decide) ?_
        exact law_c4 hL C0 hE hE' hK1 hK2 hA1 hA2 hdis c ih hi4 hin hI hP1 hP2 hS hl
      · refine lv_tableIn (off := 247) (tgt := 279) hx hb dL_law_32 (by decide) (by decide) (by decide) (by decide) ?_
        exact law_c5 hL C0 hE hE' hK1 hK2 hA1 hA2 hdis c ih hi4 hin hI hP1 hP2 hS hl
      · refine lv_tableIn (off := 270) (tgt := 302) hx hb dL_law_32 (by decide) (by decide) (by decide) (by decide) ?_
        exact law_c6 hL C0 hE hE' hK1 hK2 hA1 hA2 hdis c ih hi4 hin hI hP1 hP2 hS hl
      · refine lv_tableIn (off := 293) (tgt := 325) hx hb dL_law_32 (by decide) (by decide) (by decide) (by decide) ?_
        exact law_c7 hL C0 hE hE' hK1 hK2 hA1 hA2 hdis c ih hi4 hin hI hP1 hP2 hS hl
      · refine lv_tableIn (off := 316) (tgt := 348) hx hb dL_law_32 (by decide) (by decide) (by decide) (by decide) ?_
        exact law_c8 hL C0 hE hE' hK1 hK2 hA1 hA2 hdis c ih hi4 hin hI hP1 hP2 hS hl
      · refine lv_tableIn (off := 329) (tgt := 361) hx hb dL_law_32 (by decide) (by decide) (by decide) (by decide) ?_
        exact law_c9 hL C0 hE hE' hK1 hK2 hA1 hA2 hdis c ih hi4 hin hI hP1 hP2 hS hl
      · refine lv_tableIn (off := 352) (tgt := 384) hx hb dL_law_32 (by decide) (by decide) (by decide) (by decide) ?_
        exact law_c10 hL C0 hE hE' hK1 hK2 hA1 hA2 hdis c ih hi4 hin hI hP1 hP2 hS hl
      · refine lv_tableIn (off := 365) (tgt := 397) hx hb dL_law_32 (by decide) (by decide) (by decide) (by decide) ?_
        exact law_c11 hL C0 hE hE' hK1 hK2 hA1 hA2 hdis c ih hi4 hin hI hP1 hP2 hS hl
      · refine lv_tableIn (off := 398) (tgt := 430) hx hb dL_law_32 (by decide) (by decide) (by decide) (by decide) ?_
        exact law_c12 hL C0 hE hE' hK1 hK2 hA1 hA2 hdis c ih hi4 hin hI hP1 hP2 hS hl
      · refine lv_tableIn (off := 411) (tgt := 443) hx hb dL_law_32 (by decide) (by decide) (by decide) (by decide) ?_
        exact law_c13 hL C0 hE hE' hK1 hK2 hA1 hA2 hdis c ih hi4 hin hI hP1 hP2 hS hl
      · refine lv_tableOut (tgt := 466) hx hb dL_law_32 (by decide) (by decide) ?_
        refine lv_iinc (v := nI (i + 4)) (lv' := [(3, .int (nI (i + 4))), (2, .ref (mO h')), (1, .ref (xO h)), (0, .ref b)]) hx hb dL_law_466 hl (k := 0) rfl (nI_add i 4) (by decide) rfl (fun ls hl => ?_)
        refine lv_goto (tgt := 18) hx hb dL_law_469 (by decide) ?_
        exact ih (i + 4) hi4 (by omega) v hI H locs ls hP1 hP2 hS hl
      · refine lv_tableOut (tgt := 466) hx hb dL_law_32 (by decide) (by decide) ?_
        refine lv_iinc (v := nI (i + 4)) (lv' := [(3, .int (nI (i + 4))), (2, .ref (mO h')), (1, .ref (xO h)), (0, .ref b)]) hx hb dL_law_466 hl (k := 0) rfl (nI_add i 4) (by decide) rfl (fun ls hl => ?_)
        refine lv_goto (tgt := 18) hx hb dL_law_469 (by decide) ?_
        exact ih (i + 4) hi4 (by omega) v hI H locs ls hP1 hP2 hS hl
