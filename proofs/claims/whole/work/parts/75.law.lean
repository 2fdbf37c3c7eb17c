/-! ===== the law: its rows over Wld, its cases ===== -/
def NWP (s : State) : Nat → Prop := fun q => s.heap.size ≤ q
/-- the law stands: its machine, its words, its script, the two objects -/
def LEnv (p : Program) (s : State) (m : MethodId) (meth : Method) (c : Code) (b L : Nat) (xs : Nat → Int32) (cA : Nat → ClassId) (ad : Nat → Nat) (D : va_G) : Prop :=
  p.tables.exec = Jvm.exec ∧ c.code = cL_law ∧ c.maxLocals = 4 ∧ meth.sig.returnType = ret ∧ meth.locks = false ∧ s.vm.findClass RL = some m.cls ∧ (∀ w ∈ wsL_law, w.before #[Value.ref b] s = true) ∧ va_X b L xs s s.heap ∧ b < s.heap.size ∧ EOK cA D s ∧ INJ ad ∧ ∀ i, i < 70 → s.heap.size ≤ ad i
def LWk (p : Program) (l : Launch) (e : Env) (s : State) (m : MethodId) (below : List Frame) (meth : Method) (c : Code) (b : Nat) (cA : Nat → ClassId) (ad : Nat → Nat) (D : va_G) (x3 : Int32) (pc : Nat) (st : List Value) (M : Mem) : Prop :=
  ∀ (H : Heap) (locs : List Loc) (ls : Array Slot), WOK cA ad D M H → va_S (NWP s) s.heap H locs → lv_has ls 4 [(0, .ref b), (1, .ref (ad 0)), (2, .ref (ad 4)), (3, .int x3)] → W p l e room_1 s m #[Value.ref b] below meth c H locs 600000 7302249 (lw_Z below #[Value.ref b] s) (F0 m pc ls st)
theorem call_kL {p : Program} {l : Launch} {e : Env} {R : Room} {s : State} {m : MethodId} {args : Array Value} {below : List Frame} {meth : Method} {c : Code} {H : Heap} {locs : List Loc} {Z : State → Prop} {ls : Array Slot} {pc c0 n0 : Nat} {st0 rest : List Value} {a : Array Value} {Q' : QT} {cA : Nat → ClassId} {ad : Nat → Nat} {D : va_G} {A0 : Nat → Prop}
    (hr : va_Run p l e R s m args below meth c H locs c0 n0 0 0 (F0 m pc ls st0) rest (QQ cA ad D Q' a) (AA ad)) (hS : va_S A0 s.heap H locs) (hA : ∀ q, AA ad q → A0 q)
    (kk : ∀ (r : Option Value) (M' : Mem) (H1 : Heap) (locs1 : List Loc), Q' r M' → WOK cA ad D M' H1 → va_S A0 s.heap H1 locs1 → W p l e R s m args below meth c H1 locs1 c0 n0 Z (F0 m (pc + 3) ls (r.toList ++ rest))) : W p l e R s m args below meth c H locs c0 n0 Z (F0 m pc ls st0) := by
  intro T hT X
  obtain ⟨v, st₀, t, T', L, h0, X', hL, e1, e2, ⟨⟨r, M', hv, hq, hw⟩, hz, hk⟩, st⟩ := hr T hT X
  cases hv
  rw [h0] at hz hk
  obtain ⟨t2, a1, b1⟩ := kk v M' T'.heap (locs ++ L) hq (by rw [e1]; exact hw)
    ⟨Nat.le_trans hS.1 (by rw [e1]; exact hz), fun q h1 h2 => by rw [e1, hk q (Nat.lt_of_lt_of_le h1 hS.1) (fun z => h2 (hA q z))]; exact hS.2.1 q h1 h2, fun q hq => by
      rcases List.mem_append.mp hq with h | h
      · exact hS.2.2 q h
      · exact hA _ (hL q h)⟩ T' rfl X'
  exact ⟨t2, st t2 a1, b1⟩
section LAWR
variable {p : Program} {l : Launch} {e : Env} {s : State} {m : MethodId} {below : List Frame} {meth : Method} {c : Code} {b L : Nat} {xs : Nat → Int32} {cA : Nat → ClassId} {ad : Nat → Nat} {D : va_G} {x3 : Int32} {pc n : Nat} {st rest : List Value} {M : Mem}
theorem L_al1 (E : LEnv p s m meth c b L xs cA ad D) (h : decode cL_law pc = .ok (.aload_n 1, 1)) (hn : pc + 1 = n) (kk : LWk p l e s m below meth c b cA ad D x3 n (.ref (ad 0) :: st) M) : LWk p l e s m below meth c b cA ad D x3 pc st M := by
  intro H locs ls hW hS hl
  subst hn
  exact lv_aload_n E.1 E.2.1 h rfl (lv_at hl 1 rfl) (kk H locs ls hW hS hl)
theorem L_al2 (E : LEnv p s m meth c b L xs cA ad D) (h : decode cL_law pc = .ok (.aload_n 2, 1)) (hn : pc + 1 = n) (kk : LWk p l e s m below meth c b cA ad D x3 n (.ref (ad 4) :: st) M) : LWk p l e s m below meth c b cA ad D x3 pc st M := by
  intro H locs ls hW hS hl
  subst hn
  exact lv_aload_n E.1 E.2.1 h rfl (lv_at hl 2 rfl) (kk H locs ls hW hS hl)
theorem L_arg (E : LEnv p s m meth c b L xs cA ad D) {j : Int} {v x : Int32} (d0 : decode cL_law pc = .ok (.aload_n 0, 1)) (d1 : decode cL_law (pc + 1) = .ok (.iload_n 3, 1)) (d2 : decode cL_law (pc + 1 + 1) = .ok (.iconst j, 1)) (d3 : decode cL_law (pc + 1 + 1 + 1) = .ok (.iadd, 1)) (d4 : decode cL_law (pc + 1 + 1 + 1 + 1) = .ok (.iaload, 1)) (hj : Int32.ofInt j = v) (hin : vp_in (x3 + v) L) (hx : xs (x3 + v).toNatClampNeg = x) (hn : pc + 5 = n) (kk : LWk p l e s m below meth c b cA ad D x3 n (.int x :: st) M) : LWk p l e s m below meth c b cA ad D x3 pc st M := by
  intro H locs ls hW hS hl
  subst hn
  subst hx
  have hbA : ¬ NWP s b := Nat.not_le.mpr E.2.2.2.2.2.2.2.2.1
  refine lv_aload_n E.1 E.2.1 d0 rfl (lv_at hl 0 rfl) ?_
  refine lv_iload_n E.1 E.2.1 d1 rfl (lv_at hl 3 rfl) ?_
  refine lv_iconst E.1 E.2.1 d2 hj ?_
  refine lv_iadd E.1 E.2.1 d3 ?_
  exact va_sld E.1 E.2.1 E.2.2.2.2.2.2.2.1 E.2.2.2.2.2.2.2.2.1 hbA hS hin d4 (kk H locs ls hW hS hl)
theorem L_call (E : LEnv p s m meth c b L xs cA ad D) {index i np d' ci N maxL : Nat} {y : MethodName} {ws' wst : List Cond} {bytes : ByteArray} {rty : Option FieldType} {C : String} {T : u_T} {fs : List Value} {As : List Value} {Q' : QT}
    (hM : PM cA ad D y ws' d' (.ref (ad i) :: As) M Q') (hg : GoodIn wsL_law (wsV RL index C y ws')) (hw : ws' = Cond.code y bytes maxL rty :: wst) (hd : y.cls = C ∧ y.cls ≠ "java/lang/invoke/MethodHandle" ∧ y.cls ≠ "java/lang/invoke/VarHandle" ∧ (parseMethodDescriptor y.desc).map (fun d => d.parameters.length) = some np) (hnp : As.length = np) (hdep : d' ≤ 7) (hmax : maxL ≤ 13)
    (hi : i < 70) (hc : cellOf cA ad M i = .inr (ci, fs)) (hcl : vwCl[ci]? = some (C, T, N)) (h : decode cL_law pc = .ok (.invokevirtual index, 3)) (hn : pc + 3 = n) (hst : st = As.reverse ++ .ref (ad i) :: rest) (hcat : (rest.map fun v => v.category).sum ≤ 8)
    (kk : ∀ r M', Q' r M' → LWk p l e s m below meth c b cA ad D x3 n (r.toList ++ rest) M') : LWk p l e s m below meth c b cA ad D x3 pc st M := by
  intro H locs ls hW hS hl
  subst hn
  obtain ⟨hx, hb, hml, hr, hlocks, hown, hts, hX, hbl, hek, hI, had⟩ := E
  refine call_kL (va_runV (As := As) (rest := rest) ⟨hx, hb, hml, hown, hts⟩ (hM hI l) (cwV np hts hg hw rfl rfl hd ⟨by show d' + 1 ≤ 10; omega, by show 8 + (maxL + 11) + 32 * d' ≤ 350; omega⟩) ⟨pc_blind cA ad D _ M, va_recv hek.1 hW hcl ((wld_get cA ad M hi).trans (by rw [hc])), fun U hU hw => pc_ok hek hW hU hw⟩ rfl hnp hl.1 hst (lv_room hcat) h ⟨Nat.le_of_ble_eq_true rfl, Nat.le_of_ble_eq_true rfl⟩) hS (fun q hq => by obtain ⟨i, hi, rfl⟩ := hq; exact had i hi) (fun r M' H1 locs1 hq hW1 hS1 => ?_)
  exact kk r M' hq H1 locs1 ls hW1 hS1 hl
theorem L_cmp (E : LEnv p s m meth c b L xs cA ad D) {off : Int} {x y : Int32} {tgt : Nat} (h : decode cL_law pc = .ok (.if_icmp .eq off, 3)) (ht : (pc : Int) + off = (tgt : Int)) (he : x = y) (kk : LWk p l e s m below meth c b cA ad D x3 tgt st M) : LWk p l e s m below meth c b cA ad D x3 pc (.int y :: .int x :: st) M := by
  intro H locs ls hW hS hl
  exact lv_icmp_eq E.1 E.2.1 h ht (fun _ => kk H locs ls hW hS hl) (fun q => absurd he q)
set_option maxHeartbeats 2000000 in
theorem law_smithy (E : LEnv p s m meth c b L xs cA ad D) (hR : REL M) (h1 : vp_in (x3 + 1) L) (h2 : vp_in (x3 + 2) L) (kk : ∀ M2, REL M2 → LWk p l e s m below meth c b cA ad D x3 635 [] M2) : LWk p l e s m below meth c b cA ad D x3 132 [] M := by
  obtain ⟨N, u, h, hs, t, tx, hc, hm, hv, hh⟩ := hR
  obtain ⟨A1, eA1⟩ : ∃ z, xs (x3 + 1).toNatClampNeg = z := ⟨_, rfl⟩
  obtain ⟨A2, eA2⟩ : ∃ z, xs (x3 + 2).toNatClampNeg = z := ⟨_, rfl⟩
  refine L_al1 (n := 133) E dL_law_132 rfl ?_
  refine L_arg (n := 138) (v := 1) (x := A1) E dL_law_133 dL_law_134 dL_law_135 dL_law_136 dL_law_137 (by decide) h1 eA1 rfl ?_
  refine L_arg (n := 143) (v := 2) (x := A2) E dL_law_138 dL_law_139 dL_law_140 dL_law_141 dL_law_142 (by decide) h2 eA2 rfl ?_
  refine L_call (n := 146) (np := 2) (i := 0) (As := [.int A1, .int A2]) (rest := []) E (c_X3_smithy hc hv.2.1 hv.1) gL_law_X3_smithy rfl (by decide +kernel) rfl (by decide) (by decide) (by decide) rfl rfl dL_law_143 rfl rfl (Nat.le_of_ble_eq_true rfl) ?_
  rintro r1 M1 ⟨rfl, q1⟩
  refine L_al2 (n := 147) E dL_law_146 rfl ?_
  refine L_arg (n := 152) (v := 1) (x := A1) E dL_law_147 dL_law_148 dL_law_149 dL_law_150 dL_law_151 (by decide) h1 eA1 rfl ?_
  refine L_arg (n := 157) (v := 2) (x := A2) E dL_law_152 dL_law_153 dL_law_154 dL_law_155 dL_law_156 (by decide) h2 eA2 rfl ?_
  refine L_call (n := 160) (np := 2) (i := 4) (As := [.int A1, .int A2]) (rest := [_]) E (q_X4_smithy (hm.fc q1.1) hv) gL_law_X4_smithy rfl (by decide +kernel) rfl (by decide) (by decide) (by decide) rfl rfl dL_law_157 rfl rfl (Nat.le_of_ble_eq_true rfl) ?_
  rintro r2 M2 ⟨rfl, q2⟩
  exact L_cmp (tgt := 635) E dL_law_160 (by decide) rfl (kk M2 (by obtain ⟨N2, hv2⟩ := VOK_add hv A1 A2; exact rel_op hm hv hh hv2 q1 q2))
set_option maxHeartbeats 2000000 in
theorem law_walk (E : LEnv p s m meth c b L xs cA ad D) (hR : REL M) (h1 : vp_in (x3 + 1) L) (kk : ∀ M2, REL M2 → LWk p l e s m below meth c b cA ad D x3 635 [] M2) : LWk p l e s m below meth c b cA ad D x3 165 [] M := by
  obtain ⟨N, u, h, hs, t, tx, hc, hm, hv, hh⟩ := hR
  obtain ⟨A1, eA1⟩ : ∃ z, xs (x3 + 1).toNatClampNeg = z := ⟨_, rfl⟩
  refine L_al1 (n := 166) E dL_law_165 rfl ?_
  refine L_arg (n := 171) (v := 1) (x := A1) E dL_law_166 dL_law_167 dL_law_168 dL_law_169 dL_law_170 (by decide) h1 eA1 rfl ?_
  refine L_call (n := 174) (np := 1) (i := 0) (As := [.int A1]) (rest := []) E (c_X3_walk hc) gL_law_X3_walk rfl (by decide +kernel) rfl (by decide) (by decide) (by decide) rfl rfl dL_law_171 rfl rfl (Nat.le_of_ble_eq_true rfl) ?_
  rintro r1 M1 ⟨rfl, q1⟩
  refine L_al2 (n := 175) E dL_law_174 rfl ?_
  refine L_arg (n := 180) (v := 1) (x := A1) E dL_law_175 dL_law_176 dL_law_177 dL_law_178 dL_law_179 (by decide) h1 eA1 rfl ?_
  refine L_call (n := 183) (np := 1) (i := 4) (As := [.int A1]) (rest := [_]) E (q_X4_walk (hm.fc q1.1) hv) gL_law_X4_walk rfl (by decide +kernel) rfl (by decide) (by decide) (by decide) rfl rfl dL_law_180 rfl rfl (Nat.le_of_ble_eq_true rfl) ?_
  rintro r2 M2 ⟨rfl, q2⟩
  exact L_cmp (tgt := 635) E dL_law_183 (by decide) rfl (kk M2 (rel_op hm hv hh (VOK_walk hv A1) q1 q2))
set_option maxHeartbeats 2000000 in
theorem law_buy (E : LEnv p s m meth c b L xs cA ad D) (hR : REL M) (h1 : vp_in (x3 + 1) L) (kk : ∀ M2, REL M2 → LWk p l e s m below meth c b cA ad D x3 635 [] M2) : LWk p l e s m below meth c b cA ad D x3 188 [] M := by
  obtain ⟨N, u, h, hs, t, tx, hc, hm, hv, hh⟩ := hR
  obtain ⟨A1, eA1⟩ : ∃ z, xs (x3 + 1).toNatClampNeg = z := ⟨_, rfl⟩
  refine L_al1 (n := 189) E dL_law_188 rfl ?_
  refine L_arg (n := 194) (v := 1) (x := A1) E dL_law_189 dL_law_190 dL_law_191 dL_law_192 dL_law_193 (by decide) h1 eA1 rfl ?_
  refine L_call (n := 197) (np := 1) (i := 0) (As := [.int A1]) (rest := []) E (c_X3_buy hc) gL_law_X3_buy rfl (by decide +kernel) rfl (by decide) (by decide) (by decide) rfl rfl dL_law_194 rfl rfl (Nat.le_of_ble_eq_true rfl) ?_
  rintro r1 M1 ⟨rfl, q1⟩
  refine L_al2 (n := 198) E dL_law_197 rfl ?_
  refine L_arg (n := 203) (v := 1) (x := A1) E dL_law_198 dL_law_199 dL_law_200 dL_law_201 dL_law_202 (by decide) h1 eA1 rfl ?_
  refine L_call (n := 206) (np := 1) (i := 4) (As := [.int A1]) (rest := [_]) E (q_X4_buy (hm.fc q1.1) hv) gL_law_X4_buy rfl (by decide +kernel) rfl (by decide) (by decide) (by decide) rfl rfl dL_law_203 rfl rfl (Nat.le_of_ble_eq_true rfl) ?_
  rintro r2 M2 ⟨rfl, q2⟩
  exact L_cmp (tgt := 635) E dL_law_206 (by decide) rfl (kk M2 (rel_op hm hv hh (VOK_buy hv A1) q1 q2))
set_option maxHeartbeats 2000000 in
theorem law_patch (E : LEnv p s m meth c b L xs cA ad D) (hR : REL M) (h1 : vp_in (x3 + 1) L) (kk : ∀ M2, REL M2 → LWk p l e s m below meth c b cA ad D x3 635 [] M2) : LWk p l e s m below meth c b cA ad D x3 211 [] M := by
  obtain ⟨N, u, h, hs, t, tx, hc, hm, hv, hh⟩ := hR
  obtain ⟨A1, eA1⟩ : ∃ z, xs (x3 + 1).toNatClampNeg = z := ⟨_, rfl⟩
  refine L_al1 (n := 212) E dL_law_211 rfl ?_
  refine L_arg (n := 217) (v := 1) (x := A1) E dL_law_212 dL_law_213 dL_law_214 dL_law_215 dL_law_216 (by decide) h1 eA1 rfl ?_
  refine L_call (n := 220) (np := 1) (i := 0) (As := [.int A1]) (rest := []) E (c_X3_patch hc) gL_law_X3_patch rfl (by decide +kernel) rfl (by decide) (by decide) (by decide) rfl rfl dL_law_217 rfl rfl (Nat.le_of_ble_eq_true rfl) ?_
  rintro r1 M1 ⟨rfl, q1⟩
  refine L_al2 (n := 221) E dL_law_220 rfl ?_
  refine L_arg (n := 226) (v := 1) (x := A1) E dL_law_221 dL_law_222 dL_law_223 dL_law_224 dL_law_225 (by decide) h1 eA1 rfl ?_
  refine L_call (n := 229) (np := 1) (i := 4) (As := [.int A1]) (rest := [_]) E (q_X4_patch (hm.fc q1.1) hv) gL_law_X4_patch rfl (by decide +kernel) rfl (by decide) (by decide) (by decide) rfl rfl dL_law_226 rfl rfl (Nat.le_of_ble_eq_true rfl) ?_
  rintro r2 M2 ⟨rfl, q2⟩
  exact L_cmp (tgt := 635) E dL_law_229 (by decide) rfl (kk M2 (rel_op hm hv hh (VOK_mendJ hv A1 false) q1 q2))
set_option maxHeartbeats 2000000 in
theorem law_hide (E : LEnv p s m meth c b L xs cA ad D) (hR : REL M) (h1 : vp_in (x3 + 1) L) (kk : ∀ M2, REL M2 → LWk p l e s m below meth c b cA ad D x3 635 [] M2) : LWk p l e s m below meth c b cA ad D x3 234 [] M := by
  obtain ⟨N, u, h, hs, t, tx, hc, hm, hv, hh⟩ := hR
  obtain ⟨A1, eA1⟩ : ∃ z, xs (x3 + 1).toNatClampNeg = z := ⟨_, rfl⟩
  refine L_al1 (n := 235) E dL_law_234 rfl ?_
  refine L_arg (n := 240) (v := 1) (x := A1) E dL_law_235 dL_law_236 dL_law_237 dL_law_238 dL_law_239 (by decide) h1 eA1 rfl ?_
  refine L_call (n := 243) (np := 1) (i := 0) (As := [.int A1]) (rest := []) E (c_X3_hide hc) gL_law_X3_hide rfl (by decide +kernel) rfl (by decide) (by decide) (by decide) rfl rfl dL_law_240 rfl rfl (Nat.le_of_ble_eq_true rfl) ?_
  rintro r1 M1 ⟨rfl, q1⟩
  refine L_al2 (n := 244) E dL_law_243 rfl ?_
  refine L_arg (n := 249) (v := 1) (x := A1) E dL_law_244 dL_law_245 dL_law_246 dL_law_247 dL_law_248 (by decide) h1 eA1 rfl ?_
  refine L_call (n := 252) (np := 1) (i := 4) (As := [.int A1]) (rest := [_]) E (q_X4_hide (hm.fc q1.1) hv) gL_law_X4_hide rfl (by decide +kernel) rfl (by decide) (by decide) (by decide) rfl rfl dL_law_249 rfl rfl (Nat.le_of_ble_eq_true rfl) ?_
  rintro r2 M2 ⟨rfl, q2⟩
  exact L_cmp (tgt := 635) E dL_law_252 (by decide) rfl (kk M2 (rel_op hm hv hh (VOK_mendJ hv A1 true) q1 q2))
set_option maxHeartbeats 2000000 in
theorem law_collect (E : LEnv p s m meth c b L xs cA ad D) (hR : REL M) (h1 : vp_in (x3 + 1) L) (kk : ∀ M2, REL M2 → LWk p l e s m below meth c b cA ad D x3 635 [] M2) : LWk p l e s m below meth c b cA ad D x3 257 [] M := by
  obtain ⟨N, u, h, hs, t, tx, hc, hm, hv, hh⟩ := hR
  obtain ⟨A1, eA1⟩ : ∃ z, xs (x3 + 1).toNatClampNeg = z := ⟨_, rfl⟩
  refine L_al1 (n := 258) E dL_law_257 rfl ?_
  refine L_arg (n := 263) (v := 1) (x := A1) E dL_law_258 dL_law_259 dL_law_260 dL_law_261 dL_law_262 (by decide) h1 eA1 rfl ?_
  refine L_call (n := 266) (np := 1) (i := 0) (As := [.int A1]) (rest := []) E (c_X3_collect hc) gL_law_X3_collect rfl (by decide +kernel) rfl (by decide) (by decide) (by decide) rfl rfl dL_law_263 rfl rfl (Nat.le_of_ble_eq_true rfl) ?_
  rintro r1 M1 ⟨rfl, q1⟩
  refine L_al2 (n := 267) E dL_law_266 rfl ?_
  refine L_arg (n := 272) (v := 1) (x := A1) E dL_law_267 dL_law_268 dL_law_269 dL_law_270 dL_law_271 (by decide) h1 eA1 rfl ?_
  refine L_call (n := 275) (np := 1) (i := 4) (As := [.int A1]) (rest := [_]) E (q_X4_collect (hm.fc q1.1) hv) gL_law_X4_collect rfl (by decide +kernel) rfl (by decide) (by decide) (by decide) rfl rfl dL_law_272 rfl rfl (Nat.le_of_ble_eq_true rfl) ?_
  rintro r2 M2 ⟨rfl, q2⟩
  exact L_cmp (tgt := 635) E dL_law_275 (by decide) rfl (kk M2 (rel_op hm hv hh (VOK_collJ hv A1) q1 q2))
set_option maxHeartbeats 2000000 in
theorem law_end (E : LEnv p s m meth c b L xs cA ad D) (hR : REL M) (h1 : vp_in (x3 + 1) L) (kk : ∀ M2, REL M2 → LWk p l e s m below meth c b cA ad D x3 635 [] M2) : LWk p l e s m below meth c b cA ad D x3 280 [] M := by
  obtain ⟨N, u, h, hs, t, tx, hc, hm, hv, hh⟩ := hR
  obtain ⟨A1, eA1⟩ : ∃ z, xs (x3 + 1).toNatClampNeg = z := ⟨_, rfl⟩
  refine L_al1 (n := 281) E dL_law_280 rfl ?_
  refine L_arg (n := 286) (v := 1) (x := A1) E dL_law_281 dL_law_282 dL_law_283 dL_law_284 dL_law_285 (by decide) h1 eA1 rfl ?_
  refine L_call (n := 289) (np := 1) (i := 0) (As := [.int A1]) (rest := []) E (c_X3_end hc hv.2.1 hv.1) gL_law_X3_end rfl (by decide +kernel) rfl (by decide) (by decide) (by decide) rfl rfl dL_law_286 rfl rfl (Nat.le_of_ble_eq_true rfl) ?_
  rintro r1 M1 ⟨rfl, q1⟩
  refine L_al2 (n := 290) E dL_law_289 rfl ?_
  refine L_arg (n := 295) (v := 1) (x := A1) E dL_law_290 dL_law_291 dL_law_292 dL_law_293 dL_law_294 (by decide) h1 eA1 rfl ?_
  refine L_call (n := 298) (np := 1) (i := 4) (As := [.int A1]) (rest := [_]) E (q_X4_end (hm.fc q1.1) hv) gL_law_X4_end rfl (by decide +kernel) rfl (by decide) (by decide) (by decide) rfl rfl dL_law_295 rfl rfl (Nat.le_of_ble_eq_true rfl) ?_
  rintro r2 M2 ⟨rfl, q2⟩
  exact L_cmp (tgt := 635) E dL_law_298 (by decide) rfl (kk M2 (rel_op hm hv hh (VOK_endS hv A1) q1 q2))
set_option maxHeartbeats 2000000 in
theorem law_set (E : LEnv p s m meth c b L xs cA ad D) (hR : REL M) (h1 : vp_in (x3 + 1) L) (h2 : vp_in (x3 + 2) L) (kk : ∀ M2, REL M2 → LWk p l e s m below meth c b cA ad D x3 635 [] M2) : LWk p l e s m below meth c b cA ad D x3 303 [] M := by
  obtain ⟨N, u, h, hs, t, tx, hc, hm, hv, hh⟩ := hR
  obtain ⟨A1, eA1⟩ : ∃ z, xs (x3 + 1).toNatClampNeg = z := ⟨_, rfl⟩
  obtain ⟨A2, eA2⟩ : ∃ z, xs (x3 + 2).toNatClampNeg = z := ⟨_, rfl⟩
  refine L_al1 (n := 304) E dL_law_303 rfl ?_
  refine L_arg (n := 309) (v := 1) (x := A1) E dL_law_304 dL_law_305 dL_law_306 dL_law_307 dL_law_308 (by decide) h1 eA1 rfl ?_
  refine L_arg (n := 314) (v := 2) (x := A2) E dL_law_309 dL_law_310 dL_law_311 dL_law_312 dL_law_313 (by decide) h2 eA2 rfl ?_
  refine L_call (n := 317) (np := 2) (i := 0) (As := [.int A1, .int A2]) (rest := []) E (c_X3_set hc) gL_law_X3_set rfl (by decide +kernel) rfl (by decide) (by decide) (by decide) rfl rfl dL_law_314 rfl rfl (Nat.le_of_ble_eq_true rfl) ?_
  rintro r1 M1 ⟨rfl, q1⟩
  refine L_al2 (n := 318) E dL_law_317 rfl ?_
  refine L_arg (n := 323) (v := 1) (x := A1) E dL_law_318 dL_law_319 dL_law_320 dL_law_321 dL_law_322 (by decide) h1 eA1 rfl ?_
  refine L_arg (n := 328) (v := 2) (x := A2) E dL_law_323 dL_law_324 dL_law_325 dL_law_326 dL_law_327 (by decide) h2 eA2 rfl ?_
  refine L_call (n := 331) (np := 2) (i := 4) (As := [.int A1, .int A2]) (rest := [_]) E (q_X4_set (hm.fc q1.1) hv) gL_law_X4_set rfl (by decide +kernel) rfl (by decide) (by decide) (by decide) rfl rfl dL_law_328 rfl rfl (Nat.le_of_ble_eq_true rfl) ?_
  rintro r2 M2 ⟨rfl, q2⟩
  exact L_cmp (tgt := 635) E dL_law_331 (by decide) rfl (kk M2 (rel_op hm hv hh (VOK_set hv A1 A2) q1 q2))
set_option maxHeartbeats 2000000 in
theorem law_smithyOf (E : LEnv p s m meth c b L xs cA ad D) (hR : REL M) (h1 : vp_in (x3 + 1) L) (h2 : vp_in (x3 + 2) L) (kk : ∀ M2, REL M2 → LWk p l e s m below meth c b cA ad D x3 635 [] M2) : LWk p l e s m below meth c b cA ad D x3 336 [] M := by
  obtain ⟨N, u, h, hs, t, tx, hc, hm, hv, hh⟩ := hR
  obtain ⟨A1, eA1⟩ : ∃ z, xs (x3 + 1).toNatClampNeg = z := ⟨_, rfl⟩
  obtain ⟨A2, eA2⟩ : ∃ z, xs (x3 + 2).toNatClampNeg = z := ⟨_, rfl⟩
  refine L_al1 (n := 337) E dL_law_336 rfl ?_
  refine L_arg (n := 342) (v := 1) (x := A1) E dL_law_337 dL_law_338 dL_law_339 dL_law_340 dL_law_341 (by decide) h1 eA1 rfl ?_
  refine L_arg (n := 347) (v := 2) (x := A2) E dL_law_342 dL_law_343 dL_law_344 dL_law_345 dL_law_346 (by decide) h2 eA2 rfl ?_
  refine L_call (n := 350) (np := 2) (i := 0) (As := [.int A1, .int A2]) (rest := []) E (c_X3_smithyOf hc hv) gL_law_X3_smithyOf rfl (by decide +kernel) rfl (by decide) (by decide) (by decide) rfl rfl dL_law_347 rfl rfl (Nat.le_of_ble_eq_true rfl) ?_
  rintro r1 M1 ⟨rfl, q1⟩
  refine L_al2 (n := 351) E dL_law_350 rfl ?_
  refine L_arg (n := 356) (v := 1) (x := A1) E dL_law_351 dL_law_352 dL_law_353 dL_law_354 dL_law_355 (by decide) h1 eA1 rfl ?_
  refine L_arg (n := 361) (v := 2) (x := A2) E dL_law_356 dL_law_357 dL_law_358 dL_law_359 dL_law_360 (by decide) h2 eA2 rfl ?_
  refine L_call (n := 364) (np := 2) (i := 4) (As := [.int A1, .int A2]) (rest := [_]) E (q_X4_smithyOf (hm.fc q1.1) hv) gL_law_X4_smithyOf rfl (by decide +kernel) rfl (by decide) (by decide) (by decide) rfl rfl dL_law_361 rfl rfl (Nat.le_of_ble_eq_true rfl) ?_
  rintro r2 M2 ⟨rfl, q2⟩
  exact L_cmp (tgt := 635) E dL_law_364 (by decide) rfl (kk M2 (rel_same hv hh q1 q2))
set_option maxHeartbeats 2000000 in
theorem law_why (E : LEnv p s m meth c b L xs cA ad D) (hR : REL M) (h1 : vp_in (x3 + 1) L) (h2 : vp_in (x3 + 2) L) (kk : ∀ M2, REL M2 → LWk p l e s m below meth c b cA ad D x3 635 [] M2) : LWk p l e s m below meth c b cA ad D x3 369 [] M := by
  obtain ⟨N, u, h, hs, t, tx, hc, hm, hv, hh⟩ := hR
  obtain ⟨A1, eA1⟩ : ∃ z, xs (x3 + 1).toNatClampNeg = z := ⟨_, rfl⟩
  obtain ⟨A2, eA2⟩ : ∃ z, xs (x3 + 2).toNatClampNeg = z := ⟨_, rfl⟩
  refine L_al1 (n := 370) E dL_law_369 rfl ?_
  refine L_arg (n := 375) (v := 1) (x := A1) E dL_law_370 dL_law_371 dL_law_372 dL_law_373 dL_law_374 (by decide) h1 eA1 rfl ?_
  refine L_arg (n := 380) (v := 2) (x := A2) E dL_law_375 dL_law_376 dL_law_377 dL_law_378 dL_law_379 (by decide) h2 eA2 rfl ?_
  refine L_call (n := 383) (np := 2) (i := 0) (As := [.int A1, .int A2]) (rest := []) E (c_X3_why hc hv) gL_law_X3_why rfl (by decide +kernel) rfl (by decide) (by decide) (by decide) rfl rfl dL_law_380 rfl rfl (Nat.le_of_ble_eq_true rfl) ?_
  rintro r1 M1 ⟨rfl, q1⟩
  refine L_al2 (n := 384) E dL_law_383 rfl ?_
  refine L_arg (n := 389) (v := 1) (x := A1) E dL_law_384 dL_law_385 dL_law_386 dL_law_387 dL_law_388 (by decide) h1 eA1 rfl ?_
  refine L_arg (n := 394) (v := 2) (x := A2) E dL_law_389 dL_law_390 dL_law_391 dL_law_392 dL_law_393 (by decide) h2 eA2 rfl ?_
  refine L_call (n := 397) (np := 2) (i := 4) (As := [.int A1, .int A2]) (rest := [_]) E (q_X4_why (hm.fc q1.1) hv) gL_law_X4_why rfl (by decide +kernel) rfl (by decide) (by decide) (by decide) rfl rfl dL_law_394 rfl rfl (Nat.le_of_ble_eq_true rfl) ?_
  rintro r2 M2 ⟨rfl, q2⟩
  exact L_cmp (tgt := 635) E dL_law_397 (by decide) rfl (kk M2 (rel_same hv hh q1 q2))
set_option maxHeartbeats 2000000 in
theorem law_mend (E : LEnv p s m meth c b L xs cA ad D) (hR : REL M) (h1 : vp_in (x3 + 1) L) (h2 : vp_in (x3 + 2) L) (h3 : vp_in (x3 + 3) L) (kk : ∀ M2, REL M2 → LWk p l e s m below meth c b cA ad D x3 635 [] M2) : LWk p l e s m below meth c b cA ad D x3 402 [] M := by
  obtain ⟨N, u, h, hs, t, tx, hc, hm, hv, hh⟩ := hR
  obtain ⟨A1, eA1⟩ : ∃ z, xs (x3 + 1).toNatClampNeg = z := ⟨_, rfl⟩
  obtain ⟨A2, eA2⟩ : ∃ z, xs (x3 + 2).toNatClampNeg = z := ⟨_, rfl⟩
  obtain ⟨A3, eA3⟩ : ∃ z, xs (x3 + 3).toNatClampNeg = z := ⟨_, rfl⟩
  refine L_al1 (n := 403) E dL_law_402 rfl ?_
  refine L_arg (n := 408) (v := 1) (x := A1) E dL_law_403 dL_law_404 dL_law_405 dL_law_406 dL_law_407 (by decide) h1 eA1 rfl ?_
  refine L_arg (n := 413) (v := 2) (x := A2) E dL_law_408 dL_law_409 dL_law_410 dL_law_411 dL_law_412 (by decide) h2 eA2 rfl ?_
  refine L_arg (n := 418) (v := 3) (x := A3) E dL_law_413 dL_law_414 dL_law_415 dL_law_416 dL_law_417 (by decide) h3 eA3 rfl ?_
  refine L_call (n := 421) (np := 3) (i := 0) (As := [.int A1, .int A2, .int A3]) (rest := []) E (c_X3_mend hc hv) gL_law_X3_mend rfl (by decide +kernel) rfl (by decide) (by decide) (by decide) rfl rfl dL_law_418 rfl rfl (Nat.le_of_ble_eq_true rfl) ?_
  rintro r1 M1 ⟨rfl, q1⟩
  refine L_al2 (n := 422) E dL_law_421 rfl ?_
  refine L_arg (n := 427) (v := 1) (x := A1) E dL_law_422 dL_law_423 dL_law_424 dL_law_425 dL_law_426 (by decide) h1 eA1 rfl ?_
  refine L_arg (n := 432) (v := 2) (x := A2) E dL_law_427 dL_law_428 dL_law_429 dL_law_430 dL_law_431 (by decide) h2 eA2 rfl ?_
  refine L_arg (n := 437) (v := 3) (x := A3) E dL_law_432 dL_law_433 dL_law_434 dL_law_435 dL_law_436 (by decide) h3 eA3 rfl ?_
  refine L_call (n := 440) (np := 3) (i := 4) (As := [.int A1, .int A2, .int A3]) (rest := [_]) E (q_X4_mend (hm.fc q1.1) hv) gL_law_X4_mend rfl (by decide +kernel) rfl (by decide) (by decide) (by decide) rfl rfl dL_law_437 rfl rfl (Nat.le_of_ble_eq_true rfl) ?_
  rintro r2 M2 ⟨rfl, q2⟩
  exact L_cmp (tgt := 635) E dL_law_440 (by decide) rfl (kk M2 (rel_same hv hh q1 q2))
set_option maxHeartbeats 2000000 in
theorem law_coldIn (E : LEnv p s m meth c b L xs cA ad D) (hR : REL M) (h1 : vp_in (x3 + 1) L) (kk : ∀ M2, REL M2 → LWk p l e s m below meth c b cA ad D x3 635 [] M2) : LWk p l e s m below meth c b cA ad D x3 445 [] M := by
  obtain ⟨N, u, h, hs, t, tx, hc, hm, hv, hh⟩ := hR
  obtain ⟨A1, eA1⟩ : ∃ z, xs (x3 + 1).toNatClampNeg = z := ⟨_, rfl⟩
  refine L_al1 (n := 446) E dL_law_445 rfl ?_
  refine L_arg (n := 451) (v := 1) (x := A1) E dL_law_446 dL_law_447 dL_law_448 dL_law_449 dL_law_450 (by decide) h1 eA1 rfl ?_
  refine L_call (n := 454) (np := 1) (i := 0) (As := [.int A1]) (rest := []) E (c_X3_coldIn hc hv) gL_law_X3_coldIn rfl (by decide +kernel) rfl (by decide) (by decide) (by decide) rfl rfl dL_law_451 rfl rfl (Nat.le_of_ble_eq_true rfl) ?_
  rintro r1 M1 ⟨rfl, q1⟩
  refine L_al2 (n := 455) E dL_law_454 rfl ?_
  refine L_arg (n := 460) (v := 1) (x := A1) E dL_law_455 dL_law_456 dL_law_457 dL_law_458 dL_law_459 (by decide) h1 eA1 rfl ?_
  refine L_call (n := 463) (np := 1) (i := 4) (As := [.int A1]) (rest := [_]) E (q_X4_coldIn (hm.fc q1.1) hv) gL_law_X4_coldIn rfl (by decide +kernel) rfl (by decide) (by decide) (by decide) rfl rfl dL_law_460 rfl rfl (Nat.le_of_ble_eq_true rfl) ?_
  rintro r2 M2 ⟨rfl, q2⟩
  exact L_cmp (tgt := 635) E dL_law_463 (by decide) rfl (kk M2 (rel_same hv hh q1 q2))
set_option maxHeartbeats 2000000 in
theorem law_next (E : LEnv p s m meth c b L xs cA ad D) (hR : REL M) (kk : ∀ M2, REL M2 → LWk p l e s m below meth c b cA ad D x3 635 [] M2) : LWk p l e s m below meth c b cA ad D x3 468 [] M := by
  obtain ⟨N, u, h, hs, t, tx, hc, hm, hv, hh⟩ := hR
  refine L_al1 (n := 469) E dL_law_468 rfl ?_
  refine L_call (n := 472) (np := 0) (i := 0) (As := []) (rest := []) E (c_X3_next hc hv) gL_law_X3_next rfl (by decide +kernel) rfl (by decide) (by decide) (by decide) rfl rfl dL_law_469 rfl rfl (Nat.le_of_ble_eq_true rfl) ?_
  rintro r1 M1 ⟨rfl, q1⟩
  refine L_al2 (n := 473) E dL_law_472 rfl ?_
  refine L_call (n := 476) (np := 0) (i := 4) (As := []) (rest := [_]) E (q_X4_next (hm.fc q1.1) hv) gL_law_X4_next rfl (by decide +kernel) rfl (by decide) (by decide) (by decide) rfl rfl dL_law_473 rfl rfl (Nat.le_of_ble_eq_true rfl) ?_
  rintro r2 M2 ⟨rfl, q2⟩
  exact L_cmp (tgt := 635) E dL_law_476 (by decide) rfl (kk M2 (rel_same hv hh q1 q2))
set_option maxHeartbeats 2000000 in
theorem law_round (E : LEnv p s m meth c b L xs cA ad D) (hR : REL M) (h1 : vp_in (x3 + 1) L) (h2 : vp_in (x3 + 2) L) (kk : ∀ M2, REL M2 → LWk p l e s m below meth c b cA ad D x3 635 [] M2) : LWk p l e s m below meth c b cA ad D x3 481 [] M := by
  obtain ⟨N, u, h, hs, t, tx, hc, hm, hv, hh⟩ := hR
  obtain ⟨A1, eA1⟩ : ∃ z, xs (x3 + 1).toNatClampNeg = z := ⟨_, rfl⟩
  obtain ⟨A2, eA2⟩ : ∃ z, xs (x3 + 2).toNatClampNeg = z := ⟨_, rfl⟩
  refine L_al1 (n := 482) E dL_law_481 rfl ?_
  refine L_arg (n := 487) (v := 1) (x := A1) E dL_law_482 dL_law_483 dL_law_484 dL_law_485 dL_law_486 (by decide) h1 eA1 rfl ?_
  refine L_arg (n := 492) (v := 2) (x := A2) E dL_law_487 dL_law_488 dL_law_489 dL_law_490 dL_law_491 (by decide) h2 eA2 rfl ?_
  refine L_call (n := 495) (np := 2) (i := 0) (As := [.int A1, .int A2]) (rest := []) E (c_X3_round hc hv) gL_law_X3_round rfl (by decide +kernel) rfl (by decide) (by decide) (by decide) rfl rfl dL_law_492 rfl rfl (Nat.le_of_ble_eq_true rfl) ?_
  rintro r1 M1 ⟨rfl, q1⟩
  refine L_al2 (n := 496) E dL_law_495 rfl ?_
  refine L_arg (n := 501) (v := 1) (x := A1) E dL_law_496 dL_law_497 dL_law_498 dL_law_499 dL_law_500 (by decide) h1 eA1 rfl ?_
  refine L_arg (n := 506) (v := 2) (x := A2) E dL_law_501 dL_law_502 dL_law_503 dL_law_504 dL_law_505 (by decide) h2 eA2 rfl ?_
  refine L_call (n := 509) (np := 2) (i := 4) (As := [.int A1, .int A2]) (rest := [_]) E (q_X4_round (hm.fc q1.1) hv) gL_law_X4_round rfl (by decide +kernel) rfl (by decide) (by decide) (by decide) rfl rfl dL_law_506 rfl rfl (Nat.le_of_ble_eq_true rfl) ?_
  rintro r2 M2 ⟨rfl, q2⟩
  exact L_cmp (tgt := 635) E dL_law_509 (by decide) rfl (kk M2 (rel_same hv hh q1 q2))
set_option maxHeartbeats 2000000 in
theorem law_mean (E : LEnv p s m meth c b L xs cA ad D) (hR : REL M) (kk : ∀ M2, REL M2 → LWk p l e s m below meth c b cA ad D x3 635 [] M2) : LWk p l e s m below meth c b cA ad D x3 514 [] M := by
  obtain ⟨N, u, h, hs, t, tx, hc, hm, hv, hh⟩ := hR
  refine L_al1 (n := 515) E dL_law_514 rfl ?_
  refine L_call (n := 518) (np := 0) (i := 0) (As := []) (rest := []) E (c_X3_mean hc hv) gL_law_X3_mean rfl (by decide +kernel) rfl (by decide) (by decide) (by decide) rfl rfl dL_law_515 rfl rfl (Nat.le_of_ble_eq_true rfl) ?_
  rintro r1 M1 ⟨rfl, q1⟩
  refine L_al2 (n := 519) E dL_law_518 rfl ?_
  refine L_call (n := 522) (np := 0) (i := 4) (As := []) (rest := [_]) E (q_X4_mean (hm.fc q1.1) hv) gL_law_X4_mean rfl (by decide +kernel) rfl (by decide) (by decide) (by decide) rfl rfl dL_law_519 rfl rfl (Nat.le_of_ble_eq_true rfl) ?_
  rintro r2 M2 ⟨rfl, q2⟩
  exact L_cmp (tgt := 635) E dL_law_522 (by decide) rfl (kk M2 (rel_same hv hh q1 q2))
set_option maxHeartbeats 2000000 in
theorem law_count (E : LEnv p s m meth c b L xs cA ad D) (hR : REL M) (h1 : vp_in (x3 + 1) L) (kk : ∀ M2, REL M2 → LWk p l e s m below meth c b cA ad D x3 635 [] M2) : LWk p l e s m below meth c b cA ad D x3 527 [] M := by
  obtain ⟨N, u, h, hs, t, tx, hc, hm, hv, hh⟩ := hR
  obtain ⟨A1, eA1⟩ : ∃ z, xs (x3 + 1).toNatClampNeg = z := ⟨_, rfl⟩
  refine L_al1 (n := 528) E dL_law_527 rfl ?_
  refine L_arg (n := 533) (v := 1) (x := A1) E dL_law_528 dL_law_529 dL_law_530 dL_law_531 dL_law_532 (by decide) h1 eA1 rfl ?_
  refine L_call (n := 536) (np := 1) (i := 0) (As := [.int A1]) (rest := []) E (c_X3_count hc hv) gL_law_X3_count rfl (by decide +kernel) rfl (by decide) (by decide) (by decide) rfl rfl dL_law_533 rfl rfl (Nat.le_of_ble_eq_true rfl) ?_
  rintro r1 M1 ⟨rfl, q1⟩
  refine L_al2 (n := 537) E dL_law_536 rfl ?_
  refine L_arg (n := 542) (v := 1) (x := A1) E dL_law_537 dL_law_538 dL_law_539 dL_law_540 dL_law_541 (by decide) h1 eA1 rfl ?_
  refine L_call (n := 545) (np := 1) (i := 4) (As := [.int A1]) (rest := [_]) E (q_X4_count (hm.fc q1.1) hv) gL_law_X4_count rfl (by decide +kernel) rfl (by decide) (by decide) (by decide) rfl rfl dL_law_542 rfl rfl (Nat.le_of_ble_eq_true rfl) ?_
  rintro r2 M2 ⟨rfl, q2⟩
  exact L_cmp (tgt := 635) E dL_law_545 (by decide) rfl (kk M2 (rel_same hv hh q1 q2))
set_option maxHeartbeats 2000000 in
theorem law_undo (E : LEnv p s m meth c b L xs cA ad D) (hR : REL M) (kk : ∀ M2, REL M2 → LWk p l e s m below meth c b cA ad D x3 635 [] M2) : LWk p l e s m below meth c b cA ad D x3 550 [] M := by
  obtain ⟨N, u, h, hs, t, tx, hc, hm, hv, hh⟩ := hR
  refine L_al1 (n := 551) E dL_law_550 rfl ?_
  refine L_call (n := 554) (np := 0) (i := 0) (As := []) (rest := []) E (c_X3_undo hc) gL_law_X3_undo rfl (by decide +kernel) rfl (by decide) (by decide) (by decide) rfl rfl dL_law_551 rfl rfl (Nat.le_of_ble_eq_true rfl) ?_
  rintro r1 M1 ⟨rfl, q1⟩
  refine L_al2 (n := 555) E dL_law_554 rfl ?_
  refine L_call (n := 558) (np := 0) (i := 4) (As := []) (rest := [_]) E (q_X4_undo (hm.fc q1.1)) gL_law_X4_undo rfl (by decide +kernel) rfl (by decide) (by decide) (by decide) rfl rfl dL_law_555 rfl rfl (Nat.le_of_ble_eq_true rfl) ?_
  rintro r2 M2 ⟨rfl, q2⟩
  exact L_cmp (tgt := 635) E dL_law_558 (by decide) rfl (kk M2 (rel_undo hv hh q1 q2))
set_option maxHeartbeats 2000000 in
theorem law_type (E : LEnv p s m meth c b L xs cA ad D) (hR : REL M) (h1 : vp_in (x3 + 1) L) (kk : ∀ M2, REL M2 → LWk p l e s m below meth c b cA ad D x3 635 [] M2) : LWk p l e s m below meth c b cA ad D x3 563 [] M := by
  obtain ⟨N, u, h, hs, t, tx, hc, hm, hv, hh⟩ := hR
  obtain ⟨A1, eA1⟩ : ∃ z, xs (x3 + 1).toNatClampNeg = z := ⟨_, rfl⟩
  refine L_al1 (n := 564) E dL_law_563 rfl ?_
  refine L_arg (n := 569) (v := 1) (x := A1) E dL_law_564 dL_law_565 dL_law_566 dL_law_567 dL_law_568 (by decide) h1 eA1 rfl ?_
  refine L_call (n := 572) (np := 1) (i := 0) (As := [.int A1]) (rest := []) E (c_X3_type hc) gL_law_X3_type rfl (by decide +kernel) rfl (by decide) (by decide) (by decide) rfl rfl dL_law_569 rfl rfl (Nat.le_of_ble_eq_true rfl) ?_
  rintro r1 M1 ⟨rfl, q1⟩
  refine L_al2 (n := 573) E dL_law_572 rfl ?_
  refine L_arg (n := 578) (v := 1) (x := A1) E dL_law_573 dL_law_574 dL_law_575 dL_law_576 dL_law_577 (by decide) h1 eA1 rfl ?_
  refine L_call (n := 581) (np := 1) (i := 4) (As := [.int A1]) (rest := [_]) E (q_X4_type (hm.fc q1.1)) gL_law_X4_type rfl (by decide +kernel) rfl (by decide) (by decide) (by decide) rfl rfl dL_law_578 rfl rfl (Nat.le_of_ble_eq_true rfl) ?_
  rintro r2 M2 ⟨rfl, q2⟩
  exact L_cmp (tgt := 635) E dL_law_581 (by decide) rfl (kk M2 (rel_typ (t := t) (tx := tx) hv hh q1 q2))
set_option maxHeartbeats 2000000 in
theorem law_clearText (E : LEnv p s m meth c b L xs cA ad D) (hR : REL M) (kk : ∀ M2, REL M2 → LWk p l e s m below meth c b cA ad D x3 635 [] M2) : LWk p l e s m below meth c b cA ad D x3 586 [] M := by
  obtain ⟨N, u, h, hs, t, tx, hc, hm, hv, hh⟩ := hR
  refine L_al1 (n := 587) E dL_law_586 rfl ?_
  refine L_call (n := 590) (np := 0) (i := 0) (As := []) (rest := []) E (c_X3_clearText hc) gL_law_X3_clearText rfl (by decide +kernel) rfl (by decide) (by decide) (by decide) rfl rfl dL_law_587 rfl rfl (Nat.le_of_ble_eq_true rfl) ?_
  rintro r1 M1 ⟨rfl, q1⟩
  refine L_al2 (n := 591) E dL_law_590 rfl ?_
  refine L_call (n := 594) (np := 0) (i := 4) (As := []) (rest := [_]) E (q_X4_clearText (hm.fc q1.1)) gL_law_X4_clearText rfl (by decide +kernel) rfl (by decide) (by decide) (by decide) rfl rfl dL_law_591 rfl rfl (Nat.le_of_ble_eq_true rfl) ?_
  rintro r2 M2 ⟨rfl, q2⟩
  exact L_cmp (tgt := 635) E dL_law_594 (by decide) rfl (kk M2 (rel_typ (t := t) (tx := tx) hv hh q1 q2))
set_option maxHeartbeats 2000000 in
theorem law_fault (E : LEnv p s m meth c b L xs cA ad D) (hR : REL M) (h1 : vp_in (x3 + 1) L) (kk : ∀ M2, REL M2 → LWk p l e s m below meth c b cA ad D x3 635 [] M2) : LWk p l e s m below meth c b cA ad D x3 599 [] M := by
  obtain ⟨N, u, h, hs, t, tx, hc, hm, hv, hh⟩ := hR
  obtain ⟨A1, eA1⟩ : ∃ z, xs (x3 + 1).toNatClampNeg = z := ⟨_, rfl⟩
  refine L_al1 (n := 600) E dL_law_599 rfl ?_
  refine L_arg (n := 605) (v := 1) (x := A1) E dL_law_600 dL_law_601 dL_law_602 dL_law_603 dL_law_604 (by decide) h1 eA1 rfl ?_
  refine L_call (n := 608) (np := 1) (i := 0) (As := [.int A1]) (rest := []) E (c_X3_fault hc hv.2.1 hv.1) gL_law_X3_fault rfl (by decide +kernel) rfl (by decide) (by decide) (by decide) rfl rfl dL_law_605 rfl rfl (Nat.le_of_ble_eq_true rfl) ?_
  rintro r1 M1 ⟨rfl, q1⟩
  refine L_al2 (n := 609) E dL_law_608 rfl ?_
  refine L_arg (n := 614) (v := 1) (x := A1) E dL_law_609 dL_law_610 dL_law_611 dL_law_612 dL_law_613 (by decide) h1 eA1 rfl ?_
  refine L_call (n := 617) (np := 1) (i := 4) (As := [.int A1]) (rest := [_]) E (q_X4_fault (hm.fc q1.1) hv) gL_law_X4_fault rfl (by decide +kernel) rfl (by decide) (by decide) (by decide) rfl rfl dL_law_614 rfl rfl (Nat.le_of_ble_eq_true rfl) ?_
  rintro r2 M2 ⟨rfl, q2⟩
  exact L_cmp (tgt := 635) E dL_law_617 (by decide) rfl (kk M2 (rel_typ (t := t) (tx := tx) hv hh q1 q2))
set_option maxHeartbeats 2000000 in
theorem law_play (E : LEnv p s m meth c b L xs cA ad D) (hR : REL M) (kk : ∀ M2, REL M2 → LWk p l e s m below meth c b cA ad D x3 635 [] M2) : LWk p l e s m below meth c b cA ad D x3 622 [] M := by
  obtain ⟨N, u, h, hs, t, tx, hc, hm, hv, hh⟩ := hR
  refine L_al1 (n := 623) E dL_law_622 rfl ?_
  refine L_call (n := 626) (np := 0) (i := 0) (As := []) (rest := []) E (c_X3_play hc hv.2.1 hv.1) gL_law_X3_play rfl (by decide +kernel) rfl (by decide) (by decide) (by decide) rfl rfl dL_law_623 rfl rfl (Nat.le_of_ble_eq_true rfl) ?_
  rintro r1 M1 ⟨rfl, q1⟩
  refine L_al2 (n := 627) E dL_law_626 rfl ?_
  refine L_call (n := 630) (np := 0) (i := 4) (As := []) (rest := [_]) E (q_X4_play (hm.fc q1.1) hv) gL_law_X4_play rfl (by decide +kernel) rfl (by decide) (by decide) (by decide) rfl rfl dL_law_627 rfl rfl (Nat.le_of_ble_eq_true rfl) ?_
  rintro r2 M2 ⟨rfl, q2⟩
  exact L_cmp (tgt := 635) E dL_law_630 (by decide) rfl (kk M2 (rel_op hm hv hh (VOK_play hv tx t) q1 q2))
end LAWR
