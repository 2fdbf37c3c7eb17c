/-! ===== the law's loops ===== -/
theorem k_L_law_8 : Cond.constant RL 8 (2147483647) ∈ wsL_law := by decide +kernel
theorem k_L_law_65 : Cond.constant RL 65 (-1000000001) ∈ wsL_law := by decide +kernel
theorem k_L_law_7 : Cond.constant RL 7 (40503) ∈ wsL_law := by decide +kernel
theorem k_L_law_40 : Cond.constant RL 40 (10000000) ∈ wsL_law := by decide +kernel
theorem k_L_law_24 : Cond.constant RL 24 (-1000000003) ∈ wsL_law := by decide +kernel
theorem k_L_law_23 : Cond.constant RL 23 (-1000000002) ∈ wsL_law := by decide +kernel
set_option maxHeartbeats 4000000 in
set_option maxRecDepth 100000 in
theorem law_e {p : Program} {l : Launch} {e : Env} {s : State} {m : MethodId} {below : List Frame} {meth : Method} {c : Code} {b L : Nat} {xs : Nat → Int32} {cA : Nat → ClassId} {ad : Nat → Nat} {D : va_G} (E : ENV cA ad D RL wsL_law cL_law 7 ret p s m #[Value.ref b] meth c) (had : ∀ i, i < 66 → s.heap.size ≤ ad i) (hX : va_X b L xs s s.heap) (hbl : b < s.heap.size) (hL : L ≤ 260) {M : Mem} (hR : RELA M) {x5 x6 : Int32} : LW p l e s m below meth c b cA ad D 247 [some (.ref b), some (.ref (ad 0)), some (.ref (ad 4)), some (.ref (ad 5)), some (.int 1), some (.int (x5)), some (.int (x6))] [] M := by
  obtain ⟨N, h, hs, tx, ca, hv, hi⟩ := hR
  refine L_iload E (i := 4) dL_law_247 rfl rfl ?_
  refine L_if_eq E (tgt := 289) (n := 252) dL_law_249 (by decide) rfl (fun c_249 => ?_) (fun c_249 => ?_)
  · exact absurd c_249 (by decide)
  · refine L_aload_n E (i := 1) dL_law_252 rfl rfl rfl ?_
    refine L_bipush E (v := 14) (n := 255) dL_law_253 (by decide) rfl ?_
    refine L_cVi E had (np := 1) (q_c ca hv (w := 14) (X := IA) rfl) gL_law_X3_count rfl (by decide +kernel) rfl (by decide) (by decide) (by omega) rfl rfl dL_law_255 rfl rfl (Nat.le_of_ble_eq_true rfl) ?_
    refine L_ldc E (n := 260) dL_law_258 k_L_law_65 rfl ?_
    refine L_icmp_ne E (tgt := 289) (n := 263) dL_law_260 (by decide) rfl (fun c_260 => ?_) (fun c_260 => ?_)
    · exact absurd c_260 (fun q => q rfl)
    · refine L_aload_n E (i := 1) dL_law_263 rfl rfl rfl ?_
      refine L_bipush E (v := 19) (n := 266) dL_law_264 (by decide) rfl ?_
      refine L_cVi E had (np := 1) (q_c ca hv (w := 19) (X := IA) rfl) gL_law_X3_count rfl (by decide +kernel) rfl (by decide) (by decide) (by omega) rfl rfl dL_law_266 rfl rfl (Nat.le_of_ble_eq_true rfl) ?_
      refine L_ldc E (n := 271) dL_law_269 k_L_law_65 rfl ?_
      refine L_icmp_ne E (tgt := 289) (n := 274) dL_law_271 (by decide) rfl (fun c_271 => ?_) (fun c_271 => ?_)
      · exact absurd c_271 (fun q => q rfl)
      · refine L_aload_n E (i := 1) dL_law_274 rfl rfl rfl ?_
        refine L_bipush E (v := 24) (n := 277) dL_law_275 (by decide) rfl ?_
        refine L_cVi E had (np := 1) (q_c ca hv (w := 24) (X := IA) rfl) gL_law_X3_count rfl (by decide +kernel) rfl (by decide) (by decide) (by omega) rfl rfl dL_law_277 rfl rfl (Nat.le_of_ble_eq_true rfl) ?_
        refine L_ldc E (n := 282) dL_law_280 k_L_law_65 rfl ?_
        refine L_icmp_ne E (tgt := 289) (n := 285) dL_law_282 (by decide) rfl (fun c_282 => ?_) (fun c_282 => ?_)
        · exact absurd c_282 (fun q => q rfl)
        · refine L_iconst E (v := 1) (n := 286) dL_law_285 (by decide) rfl ?_
          refine L_goto E (tgt := 290) dL_law_286 (by decide) ?_
          exact L_end E dL_law_290

set_option maxHeartbeats 4000000 in
set_option maxRecDepth 100000 in
theorem law_2 {p : Program} {l : Launch} {e : Env} {s : State} {m : MethodId} {below : List Frame} {meth : Method} {c : Code} {b L : Nat} {xs : Nat → Int32} {cA : Nat → ClassId} {ad : Nat → Nat} {D : va_G} (E : ENV cA ad D RL wsL_law cL_law 7 ret p s m #[Value.ref b] meth c) (had : ∀ i, i < 66 → s.heap.size ≤ ad i) (hX : va_X b L xs s s.heap) (hbl : b < s.heap.size) (hL : L ≤ 260) {T : Nat} (hT : T ≤ 100) : ∀ (n i : Nat), i + n = T → ∀ M : Mem, RELA M → LW p l e s m below meth c b cA ad D 188 [some (.ref b), some (.ref (ad 0)), some (.ref (ad 4)), some (.ref (ad 5)), some (.int 1), some (.int (nI T)), some (.int (nI i))] [] M := by
  intro n
  induction n with
  | zero =>
    intro i hi M hR
    have : i = T := by omega
    subst this
    refine L_iload E (i := 6) dL_law_188 rfl rfl ?_
    refine L_iload E (i := 5) dL_law_190 rfl rfl ?_
    refine L_icmp_ge E (tgt := 247) (n := 195) dL_law_192 (by decide) rfl (fun c_192 => ?_) (fun c_192 => ?_)
    · exact law_e E had hX hbl hL hR
    · exact absurd c_192 (fun q => q (nI_le (Nat.le_refl _) (by omega)))
  | succ n ih =>
    intro i hi M hR
    refine L_iload E (i := 6) dL_law_188 rfl rfl ?_
    refine L_iload E (i := 5) dL_law_190 rfl rfl ?_
    refine L_icmp_ge E (tgt := 247) (n := 195) dL_law_192 (by decide) rfl (fun c_192 => ?_) (fun c_192 => ?_)
    · exact absurd c_192 (nI_ge (by omega) (by omega))
    · refine L_iload E (i := 4) dL_law_195 rfl rfl ?_
      refine L_if_eq E (tgt := 247) (n := 200) dL_law_197 (by decide) rfl (fun c_197 => ?_) (fun c_197 => ?_)
      · exact absurd c_197 (by decide)
      · refine L_aload_n E (i := 1) dL_law_200 rfl rfl rfl ?_
        refine L_aload_n E (i := 2) dL_law_201 rfl rfl rfl ?_
        refine L_aload_n E (i := 3) dL_law_202 rfl rfl rfl ?_
        refine L_aload_n E (i := 0) dL_law_203 rfl rfl rfl ?_
        refine L_bipush E (v := 7) (n := 206) dL_law_204 (by decide) rfl ?_
        refine L_iload E (i := 6) dL_law_206 rfl rfl ?_
        refine L_iadd E (n := 209) dL_law_208 rfl ?_
        refine L_cell E hX hbl hL (j := 7 + i) (by omega) (nI_add 7 i) dL_law_209 rfl rfl (Nat.le_of_ble_eq_true rfl) (fun x_209 => ?_)
        refine L_sipush E (v := 7919) (n := 215) dL_law_212 (by decide) rfl ?_
        refine L_iload E (i := 6) dL_law_215 rfl rfl ?_
        refine L_imul E (n := 218) dL_law_217 rfl ?_
        refine L_ixor E (n := 219) dL_law_218 rfl ?_
        refine L_cSq E had (np := 4) (m_L_acts hR) gL_law_L_acts rfl (by decide +kernel) rfl (by decide) (by decide) dL_law_219 rfl rfl (Nat.le_of_ble_eq_true rfl) (fun M2 hR2 => ?_)
        refine L_if_eq E (tgt := 238) (n := 225) dL_law_222 (by decide) rfl (fun c_222 => ?_) (fun c_222 => ?_)
        · exact absurd c_222 (by decide)
        · refine L_aload_n E (i := 1) dL_law_225 rfl rfl rfl ?_
          refine L_aload_n E (i := 2) dL_law_226 rfl rfl rfl ?_
          refine L_aload_n E (i := 3) dL_law_227 rfl rfl rfl ?_
          refine L_cSi E had (np := 3) (m_L_isSo hR2) gL_law_L_isSo rfl (by decide +kernel) rfl (by decide) (by decide) dL_law_228 rfl rfl (Nat.le_of_ble_eq_true rfl) ?_
          refine L_if_eq E (tgt := 238) (n := 234) dL_law_231 (by decide) rfl (fun c_231 => ?_) (fun c_231 => ?_)
          · exact absurd c_231 (by decide)
          · refine L_iconst E (v := 1) (n := 235) dL_law_234 (by decide) rfl ?_
            refine L_goto E (tgt := 239) dL_law_235 (by decide) ?_
            refine L_istore E (i := 4) (by decide) rfl dL_law_239 rfl ?_
            refine L_iinc E (i := 6) (by decide) rfl dL_law_241 rfl (nI_1 i) rfl ?_
            refine L_goto E (tgt := 188) dL_law_244 (by decide) ?_
            exact ih (i + 1) (by omega) M2 hR2

set_option maxHeartbeats 4000000 in
set_option maxRecDepth 100000 in
theorem law_m {p : Program} {l : Launch} {e : Env} {s : State} {m : MethodId} {below : List Frame} {meth : Method} {c : Code} {b L : Nat} {xs : Nat → Int32} {cA : Nat → ClassId} {ad : Nat → Nat} {D : va_G} (E : ENV cA ad D RL wsL_law cL_law 7 ret p s m #[Value.ref b] meth c) (had : ∀ i, i < 66 → s.heap.size ≤ ad i) (hX : va_X b L xs s s.heap) (hbl : b < s.heap.size) (hL : L ≤ 260) {M : Mem} (hR : RELA M) {x5 : Int32} : LW p l e s m below meth c b cA ad D 149 [some (.ref b), some (.ref (ad 0)), some (.ref (ad 4)), some (.ref (ad 5)), some (.int 1), some (.int (x5)), none] [] M := by
  refine L_iload E (i := 4) dL_law_149 rfl rfl ?_
  refine L_if_eq E (tgt := 167) (n := 154) dL_law_151 (by decide) rfl (fun c_151 => ?_) (fun c_151 => ?_)
  · exact absurd c_151 (by decide)
  · refine L_aload_n E (i := 1) dL_law_154 rfl rfl rfl ?_
    refine L_aload_n E (i := 2) dL_law_155 rfl rfl rfl ?_
    refine L_aload_n E (i := 3) dL_law_156 rfl rfl rfl ?_
    refine L_cSi E had (np := 3) (m_L_isSo hR) gL_law_L_isSo rfl (by decide +kernel) rfl (by decide) (by decide) dL_law_157 rfl rfl (Nat.le_of_ble_eq_true rfl) ?_
    refine L_if_eq E (tgt := 167) (n := 163) dL_law_160 (by decide) rfl (fun c_160 => ?_) (fun c_160 => ?_)
    · exact absurd c_160 (by decide)
    · refine L_iconst E (v := 1) (n := 164) dL_law_163 (by decide) rfl ?_
      refine L_goto E (tgt := 168) dL_law_164 (by decide) ?_
      refine L_istore E (i := 4) (by decide) rfl dL_law_168 rfl ?_
      refine L_bipush E (v := 16) (n := 172) dL_law_170 (by decide) rfl ?_
      refine L_aload_n E (i := 0) dL_law_172 rfl rfl rfl ?_
      refine L_iconst E (v := 0) (n := 174) dL_law_173 (by decide) rfl ?_
      refine L_cell E hX hbl hL (j := 0) (by omega) (rfl) dL_law_174 rfl rfl (Nat.le_of_ble_eq_true rfl) (fun x_174 => ?_)
      refine L_bipush E (v := 60) (n := 179) dL_law_177 (by decide) rfl ?_
      refine L_cSi E had (np := 2) (m_L_low (by decide)) gL_law_L_low rfl (by decide +kernel) rfl (by decide) (by decide) dL_law_179 rfl rfl (Nat.le_of_ble_eq_true rfl) ?_
      obtain ⟨t, ht, eT⟩ := low_nI x_174 (n := 60) (by decide) (by decide)
      rw [show (60 : Int32) = nI 60 from rfl, eT]
      refine L_iadd E (n := 183) dL_law_182 rfl ?_
      rw [show (16 : Int32) + nI t = nI (16 + t) from nI_add 16 t]
      refine L_istore E (i := 5) (by decide) rfl dL_law_183 rfl ?_
      refine L_iconst E (v := 0) (n := 186) dL_law_185 (by decide) rfl ?_
      refine L_istore E (i := 6) (by decide) rfl dL_law_186 rfl ?_
      exact law_2 E had hX hbl hL (T := 16 + t) (by omega) (16 + t) 0 (by omega) M hR

set_option maxHeartbeats 4000000 in
set_option maxRecDepth 100000 in
theorem law_1 {p : Program} {l : Launch} {e : Env} {s : State} {m : MethodId} {below : List Frame} {meth : Method} {c : Code} {b L : Nat} {xs : Nat → Int32} {cA : Nat → ClassId} {ad : Nat → Nat} {D : va_G} (E : ENV cA ad D RL wsL_law cL_law 7 ret p s m #[Value.ref b] meth c) (had : ∀ i, i < 66 → s.heap.size ≤ ad i) (hX : va_X b L xs s s.heap) (hbl : b < s.heap.size) (hL : L ≤ 260) : ∀ (n i : Nat), i + n = 6 → ∀ M : Mem, RELA M → LW p l e s m below meth c b cA ad D 69 [some (.ref b), some (.ref (ad 0)), some (.ref (ad 4)), some (.ref (ad 5)), some (.int 1), some (.int (nI i)), none] [] M := by
  intro n
  induction n with
  | zero =>
    intro i hi M hR
    have : i = 6 := by omega
    subst this
    refine L_iload E (i := 5) dL_law_69 rfl rfl ?_
    refine L_bipush E (v := 6) (n := 73) dL_law_71 (by decide) rfl ?_
    refine L_icmp_ge E (tgt := 149) (n := 76) dL_law_73 (by decide) rfl (fun c_73 => ?_) (fun c_73 => ?_)
    · exact law_m E had hX hbl hL hR
    · exact absurd c_73 (fun q => q (by decide))
  | succ n ih =>
    intro i hi M hR
    have KK : ∀ x y : Int32, LW p l e s m below meth c b cA ad D 137 [some (.ref b), some (.ref (ad 0)), some (.ref (ad 4)), some (.ref (ad 5)), some (.int 1), some (.int (nI i)), none] [.int x, .int y, .ref (ad 5), .ref (ad 4), .ref (ad 0)] M := by
      intro x y
      refine L_iadd E (n := 138) dL_law_137 rfl ?_
      refine L_cSq E had (np := 4) (m_L_acts hR) gL_law_L_acts rfl (by decide +kernel) rfl (by decide) (by decide) dL_law_138 rfl rfl (Nat.le_of_ble_eq_true rfl) (fun M2 hR2 => ?_)
      refine L_istore E (i := 4) (by decide) rfl dL_law_141 rfl ?_
      refine L_iinc E (i := 5) (by decide) rfl dL_law_143 rfl (nI_1 i) rfl ?_
      refine L_goto E (tgt := 69) dL_law_146 (by decide) ?_
      exact ih (i + 1) (by omega) M2 hR2
    refine L_iload E (i := 5) dL_law_69 rfl rfl ?_
    refine L_bipush E (v := 6) (n := 73) dL_law_71 (by decide) rfl ?_
    refine L_icmp_ge E (tgt := 149) (n := 76) dL_law_73 (by decide) rfl (fun c_73 => ?_) (fun c_73 => ?_)
    · exact absurd c_73 (nI_ge (a := i) (b := 6) (by omega) (by decide))
    · refine L_iload E (i := 4) dL_law_76 rfl rfl ?_
      refine L_if_eq E (tgt := 149) (n := 81) dL_law_78 (by decide) rfl (fun c_78 => ?_) (fun c_78 => ?_)
      · exact absurd c_78 (by decide)
      · refine L_aload_n E (i := 1) dL_law_81 rfl rfl rfl ?_
        refine L_aload_n E (i := 2) dL_law_82 rfl rfl rfl ?_
        refine L_aload_n E (i := 3) dL_law_83 rfl rfl rfl ?_
        refine L_aload_n E (i := 0) dL_law_84 rfl rfl rfl ?_
        refine L_iconst E (v := 1) (n := 86) dL_law_85 (by decide) rfl ?_
        refine L_iload E (i := 5) dL_law_86 rfl rfl ?_
        refine L_iadd E (n := 89) dL_law_88 rfl ?_
        refine L_cell E hX hbl hL (j := 1 + i) (by omega) (nI_add 1 i) dL_law_89 rfl rfl (Nat.le_of_ble_eq_true rfl) (fun x_89 => ?_)
        refine L_ldc E (n := 94) dL_law_92 k_L_law_8 rfl ?_
        refine L_iand E (n := 95) dL_law_94 rfl ?_
        refine L_sipush E (v := 192) (n := 98) dL_law_95 (by decide) rfl ?_
        refine L_idiv E (n := 99) dL_law_98 (by decide) rfl ?_
        refine L_sipush E (v := 192) (n := 102) dL_law_99 (by decide) rfl ?_
        refine L_imul E (n := 103) dL_law_102 rfl ?_
        refine L_iload E (i := 5) dL_law_103 rfl rfl ?_
        refine L_iconst E (v := 3) (n := 106) dL_law_105 (by decide) rfl ?_
        refine L_icmp_ge E (tgt := 113) (n := 109) dL_law_106 (by decide) rfl (fun c_106 => ?_) (fun c_106 => ?_)
        · refine L_iload E (i := 5) dL_law_113 rfl rfl ?_
          refine L_iconst E (v := 3) (n := 116) dL_law_115 (by decide) rfl ?_
          refine L_icmp_ne E (tgt := 124) (n := 119) dL_law_116 (by decide) rfl (fun c_116 => ?_) (fun c_116 => ?_)
          · refine L_iload E (i := 5) dL_law_124 rfl rfl ?_
            refine L_iconst E (v := 4) (n := 127) dL_law_126 (by decide) rfl ?_
            refine L_icmp_ne E (tgt := 135) (n := 130) dL_law_127 (by decide) rfl (fun c_127 => ?_) (fun c_127 => ?_)
            · refine L_bipush E (v := 6) (n := 137) dL_law_135 (by decide) rfl ?_
              exact KK _ _
            · refine L_bipush E (v := 23) (n := 132) dL_law_130 (by decide) rfl ?_
              refine L_goto E (tgt := 137) dL_law_132 (by decide) ?_
              exact KK _ _
          · refine L_bipush E (v := 11) (n := 121) dL_law_119 (by decide) rfl ?_
            refine L_goto E (tgt := 137) dL_law_121 (by decide) ?_
            exact KK _ _
        · refine L_iconst E (v := 0) (n := 110) dL_law_109 (by decide) rfl ?_
          refine L_goto E (tgt := 137) dL_law_110 (by decide) ?_
          exact KK _ _

set_option maxHeartbeats 4000000 in
set_option maxRecDepth 100000 in
theorem law_0 {p : Program} {l : Launch} {e : Env} {s : State} {m : MethodId} {below : List Frame} {meth : Method} {c : Code} {b L : Nat} {xs : Nat → Int32} {cA : Nat → ClassId} {ad : Nat → Nat} {D : va_G} (E : ENV cA ad D RL wsL_law cL_law 7 ret p s m #[Value.ref b] meth c) (had : ∀ i, i < 66 → s.heap.size ≤ ad i) (hX : va_X b L xs s s.heap) (hbl : b < s.heap.size) (hL : L ≤ 260) {M : Mem} (h0 : M.1 10 = fun _ => 0) (hR : RELA (setp M 10 st0)) : LW p l e s m below meth c b cA ad D 18 [some (.ref b), some (.ref (ad 0)), some (.ref (ad 4)), some (.ref (ad 5)), none, none, none] [] M := by
  refine L_aload_n E (i := 2) dL_law_18 rfl rfl rfl ?_
  refine L_iconst E (v := 3) (n := 20) dL_law_19 (by decide) rfl ?_
  refine L_bipush E (v := 10) (n := 22) dL_law_20 (by decide) rfl ?_
  refine L_put_g E had (n := 23) (k := 3) (by decide) (by decide) dL_law_22 rfl ?_
  refine L_aload_n E (i := 2) dL_law_23 rfl rfl rfl ?_
  refine L_iconst E (v := 5) (n := 25) dL_law_24 (by decide) rfl ?_
  refine L_bipush E (v := 100) (n := 27) dL_law_25 (by decide) rfl ?_
  refine L_put_g E had (n := 28) (k := 5) (by decide) (by decide) dL_law_27 rfl ?_
  refine L_aload_n E (i := 2) dL_law_28 rfl rfl rfl ?_
  refine L_bipush E (v := 10) (n := 31) dL_law_29 (by decide) rfl ?_
  refine L_bipush E (v := 30) (n := 33) dL_law_31 (by decide) rfl ?_
  refine L_put_g E had (n := 34) (k := 10) (by decide) (by decide) dL_law_33 rfl ?_
  refine L_aload_n E (i := 2) dL_law_34 rfl rfl rfl ?_
  refine L_bipush E (v := 11) (n := 37) dL_law_35 (by decide) rfl ?_
  refine L_bipush E (v := 10) (n := 39) dL_law_37 (by decide) rfl ?_
  refine L_put_g E had (n := 40) (k := 11) (by decide) (by decide) dL_law_39 rfl ?_
  refine L_aload_n E (i := 2) dL_law_40 rfl rfl rfl ?_
  refine L_bipush E (v := 12) (n := 43) dL_law_41 (by decide) rfl ?_
  refine L_iconst E (v := 4) (n := 44) dL_law_43 (by decide) rfl ?_
  refine L_put_g E had (n := 45) (k := 12) (by decide) (by decide) dL_law_44 rfl ?_
  refine L_aload_n E (i := 2) dL_law_45 rfl rfl rfl ?_
  refine L_bipush E (v := 13) (n := 48) dL_law_46 (by decide) rfl ?_
  refine L_bipush E (v := 60) (n := 50) dL_law_48 (by decide) rfl ?_
  refine L_put_g E had (n := 51) (k := 13) (by decide) (by decide) dL_law_50 rfl ?_
  rw [M10_st M h0]
  have hR0 := hR
  obtain ⟨N, h, hs, tx, ca, hv, hi⟩ := hR
  have e10 : (setp M 10 st0).1 10 = st0 := setp_at _ _ _
  refine L_aload_n E (i := 1) dL_law_51 rfl rfl rfl ?_
  refine L_iconst E (v := 0) (n := 53) dL_law_52 (by decide) rfl ?_
  refine L_cVi E had (np := 1) (q_c ca hv (w := 0) (X := 0) (by rw [e10]; rfl)) gL_law_X3_count rfl (by decide +kernel) rfl (by decide) (by decide) (by omega) rfl rfl dL_law_53 rfl rfl (Nat.le_of_ble_eq_true rfl) ?_
  refine L_if_ne E (tgt := 63) (n := 59) dL_law_56 (by decide) rfl (fun c_56 => ?_) (fun c_56 => ?_)
  · exact absurd c_56 (fun q => q rfl)
  · refine L_iconst E (v := 1) (n := 60) dL_law_59 (by decide) rfl ?_
    refine L_goto E (tgt := 64) dL_law_60 (by decide) ?_
    refine L_istore E (i := 4) (by decide) rfl dL_law_64 rfl ?_
    refine L_iconst E (v := 0) (n := 67) dL_law_66 (by decide) rfl ?_
    refine L_istore E (i := 5) (by decide) rfl dL_law_67 rfl ?_
    exact law_1 E had hX hbl hL 6 0 (by omega) _ hR0

