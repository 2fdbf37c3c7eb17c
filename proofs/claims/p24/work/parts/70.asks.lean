/-! ===== the law's questions: the object answers as the law's rows say ===== -/
section ASKS
variable {cA : Nat → ClassId} {ad : Nat → Nat} {D : va_G} {M : Mem} {h N : Nat} {hs : Nat → Vec} {tx : Vec}
theorem q_s (c : CA M (M.1 10) h hs 0 tx) (hv : VOK N (M.1 10)) {k : Nat} (hk : k < N) {w X : Int32} (e : smoS (M.1 10) k w = X) : C_X3_smithyOf cA ad D [.ref (ad 0), .int (nI k), .int w] M (Ri X M) := by
  have h := n_X3_smithyOf (cA := cA) (ad := ad) (D := D) c hv (j := nI k) (w := w)
  rw [jS_k hv hk, e] at h
  exact h
theorem q_w (c : CA M (M.1 10) h hs 0 tx) (hv : VOK N (M.1 10)) {k : Nat} (hk : k < N) {w X : Int32} (e : whyS (M.1 10) k w = X) : C_X3_why cA ad D [.ref (ad 0), .int (nI k), .int w] M (Ri X M) := by
  have h := n_X3_why (cA := cA) (ad := ad) (D := D) c hv (j := nI k) (w := w)
  rw [jS_k hv hk, e] at h
  exact h
theorem q_m (c : CA M (M.1 10) h hs 0 tx) (hv : VOK N (M.1 10)) {k : Nat} (hk : k < N) {w x X : Int32} (e : mndS (M.1 10) k w x = X) : C_X3_mend cA ad D [.ref (ad 0), .int (nI k), .int w, .int x] M (Ri X M) := by
  have h := n_X3_mend (cA := cA) (ad := ad) (D := D) c hv (j := nI k) (w := w) (x := x)
  rw [jS_k hv hk, e] at h
  exact h
theorem q_c (c : CA M (M.1 10) h hs 0 tx) (hv : VOK N (M.1 10)) {w X : Int32} (e : cntS (M.1 10) N (nI h) (nI 0) w = X) : C_X3_count cA ad D [.ref (ad 0), .int w] M (Ri X M) := by
  have h := n_X3_count (cA := cA) (ad := ad) (D := D) c hv (w := w)
  rw [e] at h
  exact h

set_option maxHeartbeats 4000000 in
set_option maxRecDepth 100000 in
theorem l_L_areSmithies (c : CA M (M.1 10) h hs 0 tx) (hv : VOK N (M.1 10)) (hi : IDN N (M.1 10)) : ∀ (m i : Nat), i + m = N → P_L_areSmithies cA ad D 66 [some (.ref (ad 0)), some (.ref (ad 4)), some (.ref (ad 5)), some (.int (sumN (M.1 10) 5 i)), some (.int (sumN (M.1 10) 6 i)), some (.int 1), some (.int (nI i)), none, none] [] M (Ri 1 M) := by
  have h8 := hv.1
  intro m
  induction m with
  | zero =>
    intro i hz
    have : i = N := by omega
    subst this
    refine r_il6 (n := 68) dL_areSmithies_66 rfl ?_
    refine r_al1 (n := 69) dL_areSmithies_68 rfl ?_
    refine r_iconst (v := 0) (n := 70) dL_areSmithies_69 (by decide) rfl ?_
    refine a_g (n := 71) (k := 0) (by decide) (by decide) dL_areSmithies_70 rfl ?_
    refine r_icmp_ge (tgt := 549) (n := 74) dL_areSmithies_71 (by decide) rfl (fun c_71 => ?_) (fun c_71 => ?_)
    · refine r_il5 (n := 551) dL_areSmithies_549 rfl ?_
      refine r_if_eq (tgt := 601) (n := 554) dL_areSmithies_551 (by decide) rfl (fun c_551 => ?_) (fun c_551 => ?_)
      · exact absurd c_551 (by decide)
      · refine r_al0 (n := 555) dL_areSmithies_554 rfl ?_
        refine r_bipush (v := 6) (n := 557) dL_areSmithies_555 (by decide) rfl ?_
        refine cV_i (n := 560) (np := 1) (q_c c hv (w := 6) (X := sumN (M.1 10) 5 i) rfl) gL_areSmithies_X3_count rfl (by decide +kernel) rfl (by decide) (by decide) (by omega) rfl rfl dL_areSmithies_557 rfl rfl (Nat.le_of_ble_eq_true rfl) ?_
        refine r_il3 (n := 561) dL_areSmithies_560 rfl ?_
        refine r_icmp_ne (tgt := 601) (n := 564) dL_areSmithies_561 (by decide) rfl (fun c_561 => ?_) (fun c_561 => ?_)
        · exact absurd c_561 (fun q => q rfl)
        · refine r_al0 (n := 565) dL_areSmithies_564 rfl ?_
          refine r_bipush (v := 8) (n := 567) dL_areSmithies_565 (by decide) rfl ?_
          refine cV_i (n := 570) (np := 1) (q_c c hv (w := 8) (X := M.1 10 7) rfl) gL_areSmithies_X3_count rfl (by decide +kernel) rfl (by decide) (by decide) (by omega) rfl rfl dL_areSmithies_567 rfl rfl (Nat.le_of_ble_eq_true rfl) ?_
          refine r_il3 (n := 571) dL_areSmithies_570 rfl ?_
          refine r_il4 (n := 573) dL_areSmithies_571 rfl ?_
          refine r_iadd (n := 574) dL_areSmithies_573 rfl ?_
          refine r_icmp_ne (tgt := 601) (n := 577) dL_areSmithies_574 (by decide) rfl (fun c_574 => ?_) (fun c_574 => ?_)
          · exact absurd c_574 (fun q => q hi.1)
          · refine r_al0 (n := 578) dL_areSmithies_577 rfl ?_
            refine r_iconst (v := 5) (n := 579) dL_areSmithies_578 (by decide) rfl ?_
            refine cV_i (n := 582) (np := 1) (q_c c hv (w := 5) (X := M.1 10 5) rfl) gL_areSmithies_X3_count rfl (by decide +kernel) rfl (by decide) (by decide) (by omega) rfl rfl dL_areSmithies_579 rfl rfl (Nat.le_of_ble_eq_true rfl) ?_
            refine r_bipush (v := 100) (n := 584) dL_areSmithies_582 (by decide) rfl ?_
            refine r_il4 (n := 586) dL_areSmithies_584 rfl ?_
            refine r_iadd (n := 587) dL_areSmithies_586 rfl ?_
            refine r_al0 (n := 588) dL_areSmithies_587 rfl ?_
            refine r_bipush (v := 7) (n := 590) dL_areSmithies_588 (by decide) rfl ?_
            refine cV_i (n := 593) (np := 1) (q_c c hv (w := 7) (X := M.1 10 6) rfl) gL_areSmithies_X3_count rfl (by decide +kernel) rfl (by decide) (by decide) (by omega) rfl rfl dL_areSmithies_590 rfl rfl (Nat.le_of_ble_eq_true rfl) ?_
            refine r_isub (n := 594) dL_areSmithies_593 rfl ?_
            refine r_icmp_ne (tgt := 601) (n := 597) dL_areSmithies_594 (by decide) rfl (fun c_594 => ?_) (fun c_594 => ?_)
            · exact absurd c_594 (fun q => q hi.2)
            · refine r_iconst (v := 1) (n := 598) dL_areSmithies_597 (by decide) rfl ?_
              refine r_goto (tgt := 602) dL_areSmithies_598 (by decide) ?_
              exact e_z dL_areSmithies_602 rfl (by decide) rfl rfl
    · exact absurd c_71 (fun q => q (by rw [hv.2.1]; exact nI_le (Nat.le_refl _) (by omega)))
  | succ m ih =>
    intro i hz
    have hk : i < N := by omega
    refine r_il6 (n := 68) dL_areSmithies_66 rfl ?_
    refine r_al1 (n := 69) dL_areSmithies_68 rfl ?_
    refine r_iconst (v := 0) (n := 70) dL_areSmithies_69 (by decide) rfl ?_
    refine a_g (n := 71) (k := 0) (by decide) (by decide) dL_areSmithies_70 rfl ?_
    refine r_icmp_ge (tgt := 549) (n := 74) dL_areSmithies_71 (by decide) rfl (fun c_71 => ?_) (fun c_71 => ?_)
    · exact absurd c_71 (by rw [hv.2.1]; exact nI_ge hk (by omega))
    · refine r_il5 (n := 76) dL_areSmithies_74 rfl ?_
      refine r_if_eq (tgt := 549) (n := 79) dL_areSmithies_76 (by decide) rfl (fun c_76 => ?_) (fun c_76 => ?_)
      · exact absurd c_76 (by decide)
      · refine r_bipush (v := 8) (n := 81) dL_areSmithies_79 (by decide) rfl ?_
        refine r_il6 (n := 83) dL_areSmithies_81 rfl ?_
        refine r_imul (n := 84) dL_areSmithies_83 rfl ?_
        rw [show (8 : Int32) * nI i = nI (8 * i) from by rw [show (8 : Int32) = nI 8 from rfl, pk_mul]]
        refine r_is7 (n := 86) (by decide) rfl dL_areSmithies_84 rfl ?_
        refine r_il3 (n := 87) dL_areSmithies_86 rfl ?_
        refine r_al2 (n := 88) dL_areSmithies_87 rfl ?_
        refine r_il7 (n := 90) dL_areSmithies_88 rfl ?_
        refine r_iconst (v := 5) (n := 91) dL_areSmithies_90 (by decide) rfl ?_
        refine r_iadd (n := 92) dL_areSmithies_91 rfl ?_
        refine a_f (n := 93) (k := i) (c := 5) (by omega) (by decide) (nI_add _ _) dL_areSmithies_92 rfl ?_
        refine r_iadd (n := 94) dL_areSmithies_93 rfl ?_
        rw [show sumN (M.1 10) 5 i + M.1 10 (14 + 8 * i + 5) = sumN (M.1 10) 5 (i + 1) from rfl]
        refine r_is3 (n := 95) (by decide) rfl dL_areSmithies_94 rfl ?_
        refine r_il4 (n := 97) dL_areSmithies_95 rfl ?_
        refine r_al2 (n := 98) dL_areSmithies_97 rfl ?_
        refine r_il7 (n := 100) dL_areSmithies_98 rfl ?_
        refine r_bipush (v := 6) (n := 102) dL_areSmithies_100 (by decide) rfl ?_
        refine r_iadd (n := 103) dL_areSmithies_102 rfl ?_
        refine a_f (n := 104) (k := i) (c := 6) (by omega) (by decide) (nI_add _ _) dL_areSmithies_103 rfl ?_
        refine r_iadd (n := 105) dL_areSmithies_104 rfl ?_
        rw [show sumN (M.1 10) 6 i + M.1 10 (14 + 8 * i + 6) = sumN (M.1 10) 6 (i + 1) from rfl]
        refine r_is4 (n := 107) (by decide) rfl dL_areSmithies_105 rfl ?_
        refine r_al0 (n := 108) dL_areSmithies_107 rfl ?_
        refine r_il6 (n := 110) dL_areSmithies_108 rfl ?_
        refine r_iconst (v := 0) (n := 111) dL_areSmithies_110 (by decide) rfl ?_
        refine cV_i (n := 114) (np := 2) (q_s c hv hk (w := 0) (X := M.1 10 (14 + 8 * i)) rfl) gL_areSmithies_X3_smithyOf rfl (by decide +kernel) rfl (by decide) (by decide) (by omega) rfl rfl dL_areSmithies_111 rfl rfl (Nat.le_of_ble_eq_true rfl) ?_
        refine r_al2 (n := 115) dL_areSmithies_114 rfl ?_
        refine r_il7 (n := 117) dL_areSmithies_115 rfl ?_
        refine a_f0 (n := 118) (k := i) (by omega) rfl dL_areSmithies_117 rfl ?_
        refine r_icmp_ne (tgt := 327) (n := 121) dL_areSmithies_118 (by decide) rfl (fun c_118 => ?_) (fun c_118 => ?_)
        · exact absurd c_118 (fun q => q rfl)
        · refine r_al0 (n := 122) dL_areSmithies_121 rfl ?_
          refine r_il6 (n := 124) dL_areSmithies_122 rfl ?_
          refine r_iconst (v := 1) (n := 125) dL_areSmithies_124 (by decide) rfl ?_
          refine cV_i (n := 128) (np := 2) (q_s c hv hk (w := 1) (X := M.1 10 (14 + 8 * i + 1)) rfl) gL_areSmithies_X3_smithyOf rfl (by decide +kernel) rfl (by decide) (by decide) (by omega) rfl rfl dL_areSmithies_125 rfl rfl (Nat.le_of_ble_eq_true rfl) ?_
          refine r_al2 (n := 129) dL_areSmithies_128 rfl ?_
          refine r_il7 (n := 131) dL_areSmithies_129 rfl ?_
          refine r_iconst (v := 1) (n := 132) dL_areSmithies_131 (by decide) rfl ?_
          refine r_iadd (n := 133) dL_areSmithies_132 rfl ?_
          refine a_f (n := 134) (k := i) (c := 1) (by omega) (by decide) (nI_add _ _) dL_areSmithies_133 rfl ?_
          refine r_icmp_ne (tgt := 327) (n := 137) dL_areSmithies_134 (by decide) rfl (fun c_134 => ?_) (fun c_134 => ?_)
          · exact absurd c_134 (fun q => q rfl)
          · refine r_al0 (n := 138) dL_areSmithies_137 rfl ?_
            refine r_il6 (n := 140) dL_areSmithies_138 rfl ?_
            refine r_iconst (v := 2) (n := 141) dL_areSmithies_140 (by decide) rfl ?_
            refine cV_i (n := 144) (np := 2) (q_s c hv hk (w := 2) (X := M.1 10 (14 + 8 * i + 2)) rfl) gL_areSmithies_X3_smithyOf rfl (by decide +kernel) rfl (by decide) (by decide) (by omega) rfl rfl dL_areSmithies_141 rfl rfl (Nat.le_of_ble_eq_true rfl) ?_
            refine r_al2 (n := 145) dL_areSmithies_144 rfl ?_
            refine r_il7 (n := 147) dL_areSmithies_145 rfl ?_
            refine r_iconst (v := 2) (n := 148) dL_areSmithies_147 (by decide) rfl ?_
            refine r_iadd (n := 149) dL_areSmithies_148 rfl ?_
            refine a_f (n := 150) (k := i) (c := 2) (by omega) (by decide) (nI_add _ _) dL_areSmithies_149 rfl ?_
            refine r_icmp_ne (tgt := 327) (n := 153) dL_areSmithies_150 (by decide) rfl (fun c_150 => ?_) (fun c_150 => ?_)
            · exact absurd c_150 (fun q => q rfl)
            · refine r_al0 (n := 154) dL_areSmithies_153 rfl ?_
              refine r_il6 (n := 156) dL_areSmithies_154 rfl ?_
              refine r_iconst (v := 3) (n := 157) dL_areSmithies_156 (by decide) rfl ?_
              refine cV_i (n := 160) (np := 2) (q_s c hv hk (w := 3) (X := M.1 10 (14 + 8 * i + 2) / 10) rfl) gL_areSmithies_X3_smithyOf rfl (by decide +kernel) rfl (by decide) (by decide) (by omega) rfl rfl dL_areSmithies_157 rfl rfl (Nat.le_of_ble_eq_true rfl) ?_
              refine r_al2 (n := 161) dL_areSmithies_160 rfl ?_
              refine r_il7 (n := 163) dL_areSmithies_161 rfl ?_
              refine r_iconst (v := 2) (n := 164) dL_areSmithies_163 (by decide) rfl ?_
              refine r_iadd (n := 165) dL_areSmithies_164 rfl ?_
              refine a_f (n := 166) (k := i) (c := 2) (by omega) (by decide) (nI_add _ _) dL_areSmithies_165 rfl ?_
              refine r_bipush (v := 10) (n := 168) dL_areSmithies_166 (by decide) rfl ?_
              refine r_idiv (n := 169) dL_areSmithies_168 (by decide) rfl ?_
              refine r_icmp_ne (tgt := 327) (n := 172) dL_areSmithies_169 (by decide) rfl (fun c_169 => ?_) (fun c_169 => ?_)
              · exact absurd c_169 (fun q => q rfl)
              · refine r_al0 (n := 173) dL_areSmithies_172 rfl ?_
                refine r_il6 (n := 175) dL_areSmithies_173 rfl ?_
                refine r_iconst (v := 4) (n := 176) dL_areSmithies_175 (by decide) rfl ?_
                refine cV_i (n := 179) (np := 2) (q_s c hv hk (w := 4) (X := M.1 10 (14 + 8 * i + 3)) rfl) gL_areSmithies_X3_smithyOf rfl (by decide +kernel) rfl (by decide) (by decide) (by omega) rfl rfl dL_areSmithies_176 rfl rfl (Nat.le_of_ble_eq_true rfl) ?_
                refine r_al2 (n := 180) dL_areSmithies_179 rfl ?_
                refine r_il7 (n := 182) dL_areSmithies_180 rfl ?_
                refine r_iconst (v := 3) (n := 183) dL_areSmithies_182 (by decide) rfl ?_
                refine r_iadd (n := 184) dL_areSmithies_183 rfl ?_
                refine a_f (n := 185) (k := i) (c := 3) (by omega) (by decide) (nI_add _ _) dL_areSmithies_184 rfl ?_
                refine r_icmp_ne (tgt := 327) (n := 188) dL_areSmithies_185 (by decide) rfl (fun c_185 => ?_) (fun c_185 => ?_)
                · exact absurd c_185 (fun q => q rfl)
                · refine r_al0 (n := 189) dL_areSmithies_188 rfl ?_
                  refine r_il6 (n := 191) dL_areSmithies_189 rfl ?_
                  refine r_iconst (v := 5) (n := 192) dL_areSmithies_191 (by decide) rfl ?_
                  refine cV_i (n := 195) (np := 2) (q_s c hv hk (w := 5) (X := (if M.1 10 (14 + 8 * i + 3) < M.1 10 10 then 1 else 0)) rfl) gL_areSmithies_X3_smithyOf rfl (by decide +kernel) rfl (by decide) (by decide) (by omega) rfl rfl dL_areSmithies_192 rfl rfl (Nat.le_of_ble_eq_true rfl) ?_
                  refine pw_mg (pcM := 213) (x := (if M.1 10 (14 + 8 * i + 3) < M.1 10 10 then 1 else 0)) ?_ (fun K_213 => ?_)
                  · refine r_icmp_ne (tgt := 327) (n := 216) dL_areSmithies_213 (by decide) rfl (fun c_213 => ?_) (fun c_213 => ?_)
                    · exact absurd c_213 (fun q => q rfl)
                    · refine r_al0 (n := 217) dL_areSmithies_216 rfl ?_
                      refine r_il6 (n := 219) dL_areSmithies_217 rfl ?_
                      refine r_bipush (v := 6) (n := 221) dL_areSmithies_219 (by decide) rfl ?_
                      refine cV_i (n := 224) (np := 2) (q_s c hv hk (w := 6) (X := M.1 10 (14 + 8 * i + 4)) rfl) gL_areSmithies_X3_smithyOf rfl (by decide +kernel) rfl (by decide) (by decide) (by omega) rfl rfl dL_areSmithies_221 rfl rfl (Nat.le_of_ble_eq_true rfl) ?_
                      refine r_al2 (n := 225) dL_areSmithies_224 rfl ?_
                      refine r_il7 (n := 227) dL_areSmithies_225 rfl ?_
                      refine r_iconst (v := 4) (n := 228) dL_areSmithies_227 (by decide) rfl ?_
                      refine r_iadd (n := 229) dL_areSmithies_228 rfl ?_
                      refine a_f (n := 230) (k := i) (c := 4) (by omega) (by decide) (nI_add _ _) dL_areSmithies_229 rfl ?_
                      refine r_icmp_ne (tgt := 327) (n := 233) dL_areSmithies_230 (by decide) rfl (fun c_230 => ?_) (fun c_230 => ?_)
                      · exact absurd c_230 (fun q => q rfl)
                      · refine r_al0 (n := 234) dL_areSmithies_233 rfl ?_
                        refine r_il6 (n := 236) dL_areSmithies_234 rfl ?_
                        refine r_bipush (v := 7) (n := 238) dL_areSmithies_236 (by decide) rfl ?_
                        refine cV_i (n := 241) (np := 2) (q_s c hv hk (w := 7) (X := M.1 10 (14 + 8 * i + 5)) rfl) gL_areSmithies_X3_smithyOf rfl (by decide +kernel) rfl (by decide) (by decide) (by omega) rfl rfl dL_areSmithies_238 rfl rfl (Nat.le_of_ble_eq_true rfl) ?_
                        refine r_al2 (n := 242) dL_areSmithies_241 rfl ?_
                        refine r_il7 (n := 244) dL_areSmithies_242 rfl ?_
                        refine r_iconst (v := 5) (n := 245) dL_areSmithies_244 (by decide) rfl ?_
                        refine r_iadd (n := 246) dL_areSmithies_245 rfl ?_
                        refine a_f (n := 247) (k := i) (c := 5) (by omega) (by decide) (nI_add _ _) dL_areSmithies_246 rfl ?_
                        refine r_icmp_ne (tgt := 327) (n := 250) dL_areSmithies_247 (by decide) rfl (fun c_247 => ?_) (fun c_247 => ?_)
                        · exact absurd c_247 (fun q => q rfl)
                        · refine r_al0 (n := 251) dL_areSmithies_250 rfl ?_
                          refine r_il6 (n := 253) dL_areSmithies_251 rfl ?_
                          refine r_bipush (v := 8) (n := 255) dL_areSmithies_253 (by decide) rfl ?_
                          refine cV_i (n := 258) (np := 2) (q_s c hv hk (w := 8) (X := M.1 10 (14 + 8 * i + 6)) rfl) gL_areSmithies_X3_smithyOf rfl (by decide +kernel) rfl (by decide) (by decide) (by omega) rfl rfl dL_areSmithies_255 rfl rfl (Nat.le_of_ble_eq_true rfl) ?_
                          refine r_al2 (n := 259) dL_areSmithies_258 rfl ?_
                          refine r_il7 (n := 261) dL_areSmithies_259 rfl ?_
                          refine r_bipush (v := 6) (n := 263) dL_areSmithies_261 (by decide) rfl ?_
                          refine r_iadd (n := 264) dL_areSmithies_263 rfl ?_
                          refine a_f (n := 265) (k := i) (c := 6) (by omega) (by decide) (nI_add _ _) dL_areSmithies_264 rfl ?_
                          refine r_icmp_ne (tgt := 327) (n := 268) dL_areSmithies_265 (by decide) rfl (fun c_265 => ?_) (fun c_265 => ?_)
                          · exact absurd c_265 (fun q => q rfl)
                          · refine r_al0 (n := 269) dL_areSmithies_268 rfl ?_
                            refine r_il6 (n := 271) dL_areSmithies_269 rfl ?_
                            refine r_bipush (v := 9) (n := 273) dL_areSmithies_271 (by decide) rfl ?_
                            refine cV_i (n := 276) (np := 2) (q_s c hv hk (w := 9) (X := M.1 10 (14 + 8 * i + 7)) rfl) gL_areSmithies_X3_smithyOf rfl (by decide +kernel) rfl (by decide) (by decide) (by omega) rfl rfl dL_areSmithies_273 rfl rfl (Nat.le_of_ble_eq_true rfl) ?_
                            refine r_al2 (n := 277) dL_areSmithies_276 rfl ?_
                            refine r_il7 (n := 279) dL_areSmithies_277 rfl ?_
                            refine r_bipush (v := 7) (n := 281) dL_areSmithies_279 (by decide) rfl ?_
                            refine r_iadd (n := 282) dL_areSmithies_281 rfl ?_
                            refine a_f (n := 283) (k := i) (c := 7) (by omega) (by decide) (nI_add _ _) dL_areSmithies_282 rfl ?_
                            refine r_icmp_ne (tgt := 327) (n := 286) dL_areSmithies_283 (by decide) rfl (fun c_283 => ?_) (fun c_283 => ?_)
                            · exact absurd c_283 (fun q => q rfl)
                            · refine r_al0 (n := 287) dL_areSmithies_286 rfl ?_
                              refine r_il6 (n := 289) dL_areSmithies_287 rfl ?_
                              refine r_bipush (v := 10) (n := 291) dL_areSmithies_289 (by decide) rfl ?_
                              refine cV_i (n := 294) (np := 2) (q_s c hv hk (w := 10) (X := hB (M.1 10 2) (M.1 10 (14 + 8 * i))) rfl) gL_areSmithies_X3_smithyOf rfl (by decide +kernel) rfl (by decide) (by decide) (by omega) rfl rfl dL_areSmithies_291 rfl rfl (Nat.le_of_ble_eq_true rfl) ?_
                              refine r_al1 (n := 295) dL_areSmithies_294 rfl ?_
                              refine r_iconst (v := 2) (n := 296) dL_areSmithies_295 (by decide) rfl ?_
                              refine a_g (n := 297) (k := 2) (by decide) (by decide) dL_areSmithies_296 rfl ?_
                              refine r_al2 (n := 298) dL_areSmithies_297 rfl ?_
                              refine r_il7 (n := 300) dL_areSmithies_298 rfl ?_
                              refine a_f0 (n := 301) (k := i) (by omega) rfl dL_areSmithies_300 rfl ?_
                              refine cS_i (n := 304) (np := 2) (m_L_apart) gL_areSmithies_L_apart rfl (by decide +kernel) rfl (by decide) (by decide) dL_areSmithies_301 rfl rfl (Nat.le_of_ble_eq_true rfl) ?_
                              refine cS_i (n := 307) (np := 1) (m_L_tens) gL_areSmithies_L_tens rfl (by decide +kernel) rfl (by decide) (by decide) dL_areSmithies_304 rfl rfl (Nat.le_of_ble_eq_true rfl) ?_
                              refine r_icmp_ne (tgt := 327) (n := 310) dL_areSmithies_307 (by decide) rfl (fun c_307 => ?_) (fun c_307 => ?_)
                              · exact absurd c_307 (fun q => q (way_eq hv.2.2.1 (hv.2.2.2.2.2.2.2.2 i hk).1).symm)
                              · refine r_al0 (n := 311) dL_areSmithies_310 rfl ?_
                                refine r_il6 (n := 313) dL_areSmithies_311 rfl ?_
                                refine r_bipush (v := 11) (n := 315) dL_areSmithies_313 (by decide) rfl ?_
                                refine cV_i (n := 318) (np := 2) (q_s c hv hk (w := 11) (X := IA) rfl) gL_areSmithies_X3_smithyOf rfl (by decide +kernel) rfl (by decide) (by decide) (by omega) rfl rfl dL_areSmithies_315 rfl rfl (Nat.le_of_ble_eq_true rfl) ?_
                                refine r_ldc (n := 320) dL_areSmithies_318 k_L_areSmithies_65 rfl ?_
                                refine r_icmp_ne (tgt := 327) (n := 323) dL_areSmithies_320 (by decide) rfl (fun c_320 => ?_) (fun c_320 => ?_)
                                · exact absurd c_320 (fun q => q rfl)
                                · refine r_iconst (v := 1) (n := 324) dL_areSmithies_323 (by decide) rfl ?_
                                  refine r_goto (tgt := 328) dL_areSmithies_324 (by decide) ?_
                                  refine r_is5 (n := 330) (by decide) rfl dL_areSmithies_328 rfl ?_
                                  refine r_iconst (v := 0) (n := 331) dL_areSmithies_330 (by decide) rfl ?_
                                  refine r_is8 (n := 333) (by decide) rfl dL_areSmithies_331 rfl ?_
                                  refine r_il8 (n := 335) dL_areSmithies_333 rfl ?_
                                  refine r_iconst (v := 2) (n := 336) dL_areSmithies_335 (by decide) rfl ?_
                                  refine r_icmp_ge (tgt := 493) (n := 339) dL_areSmithies_336 (by decide) rfl (fun c_336 => ?_) (fun c_336 => ?_)
                                  · exact absurd c_336 (by decide)
                                  · refine r_il5 (n := 341) dL_areSmithies_339 rfl ?_
                                    refine r_if_eq (tgt := 493) (n := 344) dL_areSmithies_341 (by decide) rfl (fun c_341 => ?_) (fun c_341 => ?_)
                                    · exact absurd c_341 (by decide)
                                    · refine r_al0 (n := 345) dL_areSmithies_344 rfl ?_
                                      refine r_il6 (n := 347) dL_areSmithies_345 rfl ?_
                                      refine r_il8 (n := 349) dL_areSmithies_347 rfl ?_
                                      refine cV_i (n := 352) (np := 2) (q_w c hv hk (w := 0) (X := whyNot (M.1 10) i false) rfl) gL_areSmithies_X3_why rfl (by decide +kernel) rfl (by decide) (by decide) (by omega) rfl rfl dL_areSmithies_349 rfl rfl (Nat.le_of_ble_eq_true rfl) ?_
                                      refine r_al1 (n := 353) dL_areSmithies_352 rfl ?_
                                      refine r_al2 (n := 354) dL_areSmithies_353 rfl ?_
                                      refine r_il7 (n := 356) dL_areSmithies_354 rfl ?_
                                      refine r_il8 (n := 358) dL_areSmithies_356 rfl ?_
                                      refine r_iconst (v := 1) (n := 359) dL_areSmithies_358 (by decide) rfl ?_
                                      refine r_icmp_ne (tgt := 366) (n := 362) dL_areSmithies_359 (by decide) rfl (fun c_359 => ?_) (fun c_359 => ?_)
                                      · refine r_iconst (v := 0) (n := 367) dL_areSmithies_366 (by decide) rfl ?_
                                        refine cS_i (n := 370) (np := 4) (n_L_why hv hk false) gL_areSmithies_L_why rfl (by decide +kernel) rfl (by decide) (by decide) dL_areSmithies_367 rfl rfl (Nat.le_of_ble_eq_true rfl) ?_
                                        refine r_icmp_ne (tgt := 484) (n := 373) dL_areSmithies_370 (by decide) rfl (fun c_370 => ?_) (fun c_370 => ?_)
                                        · exact absurd c_370 (fun q => q rfl)
                                        · refine r_al0 (n := 374) dL_areSmithies_373 rfl ?_
                                          refine r_il6 (n := 376) dL_areSmithies_374 rfl ?_
                                          refine r_il8 (n := 378) dL_areSmithies_376 rfl ?_
                                          refine r_iconst (v := 0) (n := 379) dL_areSmithies_378 (by decide) rfl ?_
                                          refine cV_i (n := 382) (np := 3) (q_m c hv hk (w := 0) (x := 0) (X := hM false) rfl) gL_areSmithies_X3_mend rfl (by decide +kernel) rfl (by decide) (by decide) (by omega) rfl rfl dL_areSmithies_379 rfl rfl (Nat.le_of_ble_eq_true rfl) ?_
                                          refine r_iconst (v := 1) (n := 383) dL_areSmithies_382 (by decide) rfl ?_
                                          refine r_iconst (v := 2) (n := 384) dL_areSmithies_383 (by decide) rfl ?_
                                          refine r_il8 (n := 386) dL_areSmithies_384 rfl ?_
                                          refine r_imul (n := 387) dL_areSmithies_386 rfl ?_
                                          refine r_iadd (n := 388) dL_areSmithies_387 rfl ?_
                                          refine r_icmp_ne (tgt := 484) (n := 391) dL_areSmithies_388 (by decide) rfl (fun c_388 => ?_) (fun c_388 => ?_)
                                          · exact absurd c_388 (fun q => q (by decide))
                                          · refine r_al0 (n := 392) dL_areSmithies_391 rfl ?_
                                            refine r_il6 (n := 394) dL_areSmithies_392 rfl ?_
                                            refine r_il8 (n := 396) dL_areSmithies_394 rfl ?_
                                            refine r_iconst (v := 1) (n := 397) dL_areSmithies_396 (by decide) rfl ?_
                                            refine cV_i (n := 400) (np := 3) (q_m c hv hk (w := 0) (x := 1) (X := leatherOf (M.1 10) i false) rfl) gL_areSmithies_X3_mend rfl (by decide +kernel) rfl (by decide) (by decide) (by omega) rfl rfl dL_areSmithies_397 rfl rfl (Nat.le_of_ble_eq_true rfl) ?_
                                            refine r_al2 (n := 401) dL_areSmithies_400 rfl ?_
                                            refine r_il7 (n := 403) dL_areSmithies_401 rfl ?_
                                            refine r_il8 (n := 405) dL_areSmithies_403 rfl ?_
                                            refine r_iconst (v := 1) (n := 406) dL_areSmithies_405 (by decide) rfl ?_
                                            refine r_icmp_ne (tgt := 413) (n := 409) dL_areSmithies_406 (by decide) rfl (fun c_406 => ?_) (fun c_406 => ?_)
                                            · refine r_iconst (v := 0) (n := 414) dL_areSmithies_413 (by decide) rfl ?_
                                              refine cS_i (n := 417) (np := 3) (n_L_takes hv hk false) gL_areSmithies_L_takes rfl (by decide +kernel) rfl (by decide) (by decide) dL_areSmithies_414 rfl rfl (Nat.le_of_ble_eq_true rfl) ?_
                                              refine r_icmp_ne (tgt := 484) (n := 420) dL_areSmithies_417 (by decide) rfl (fun c_417 => ?_) (fun c_417 => ?_)
                                              · exact absurd c_417 (fun q => q rfl)
                                              · refine r_al0 (n := 421) dL_areSmithies_420 rfl ?_
                                                refine r_il6 (n := 423) dL_areSmithies_421 rfl ?_
                                                refine r_il8 (n := 425) dL_areSmithies_423 rfl ?_
                                                refine r_iconst (v := 2) (n := 426) dL_areSmithies_425 (by decide) rfl ?_
                                                refine cV_i (n := 429) (np := 3) (q_m c hv hk (w := 0) (x := 2) (X := owes (M.1 10) i false) rfl) gL_areSmithies_X3_mend rfl (by decide +kernel) rfl (by decide) (by decide) (by omega) rfl rfl dL_areSmithies_426 rfl rfl (Nat.le_of_ble_eq_true rfl) ?_
                                                refine r_al1 (n := 430) dL_areSmithies_429 rfl ?_
                                                refine r_al2 (n := 431) dL_areSmithies_430 rfl ?_
                                                refine r_il7 (n := 433) dL_areSmithies_431 rfl ?_
                                                refine r_il8 (n := 435) dL_areSmithies_433 rfl ?_
                                                refine r_iconst (v := 1) (n := 436) dL_areSmithies_435 (by decide) rfl ?_
                                                refine r_icmp_ne (tgt := 443) (n := 439) dL_areSmithies_436 (by decide) rfl (fun c_436 => ?_) (fun c_436 => ?_)
                                                · refine r_iconst (v := 0) (n := 444) dL_areSmithies_443 (by decide) rfl ?_
                                                  refine cS_i (n := 447) (np := 4) (n_L_owes hv hk false) gL_areSmithies_L_owes rfl (by decide +kernel) rfl (by decide) (by decide) dL_areSmithies_444 rfl rfl (Nat.le_of_ble_eq_true rfl) ?_
                                                  refine r_icmp_ne (tgt := 484) (n := 450) dL_areSmithies_447 (by decide) rfl (fun c_447 => ?_) (fun c_447 => ?_)
                                                  · exact absurd c_447 (fun q => q rfl)
                                                  · refine r_al0 (n := 451) dL_areSmithies_450 rfl ?_
                                                    refine r_il6 (n := 453) dL_areSmithies_451 rfl ?_
                                                    refine r_il8 (n := 455) dL_areSmithies_453 rfl ?_
                                                    refine r_iconst (v := 3) (n := 456) dL_areSmithies_455 (by decide) rfl ?_
                                                    refine cV_i (n := 459) (np := 3) (q_m c hv hk (w := 0) (x := 3) (X := wearBM (M.1 10) i false) rfl) gL_areSmithies_X3_mend rfl (by decide +kernel) rfl (by decide) (by decide) (by omega) rfl rfl dL_areSmithies_456 rfl rfl (Nat.le_of_ble_eq_true rfl) ?_
                                                    refine r_il8 (n := 461) dL_areSmithies_459 rfl ?_
                                                    refine r_iconst (v := 1) (n := 462) dL_areSmithies_461 (by decide) rfl ?_
                                                    refine r_icmp_ne (tgt := 469) (n := 465) dL_areSmithies_462 (by decide) rfl (fun c_462 => ?_) (fun c_462 => ?_)
                                                    · refine r_al2 (n := 470) dL_areSmithies_469 rfl ?_
                                                      refine r_il7 (n := 472) dL_areSmithies_470 rfl ?_
                                                      refine r_iconst (v := 2) (n := 473) dL_areSmithies_472 (by decide) rfl ?_
                                                      refine r_iadd (n := 474) dL_areSmithies_473 rfl ?_
                                                      refine a_f (n := 475) (k := i) (c := 2) (by omega) (by decide) (nI_add _ _) dL_areSmithies_474 rfl ?_
                                                      refine r_iconst (v := 3) (n := 476) dL_areSmithies_475 (by decide) rfl ?_
                                                      refine r_idiv (n := 477) dL_areSmithies_476 (by decide) rfl ?_
                                                      refine r_icmp_ne (tgt := 484) (n := 480) dL_areSmithies_477 (by decide) rfl (fun c_477 => ?_) (fun c_477 => ?_)
                                                      · exact absurd c_477 (fun q => q rfl)
                                                      · refine r_iconst (v := 1) (n := 481) dL_areSmithies_480 (by decide) rfl ?_
                                                        refine r_goto (tgt := 485) dL_areSmithies_481 (by decide) ?_
                                                        refine r_is5 (n := 487) (by decide) rfl dL_areSmithies_485 rfl ?_
                                                        refine r_ii8 (n := 490) (by decide) rfl dL_areSmithies_487 (show (0 : Int32) + Int32.ofInt 1 = 1 by decide) rfl ?_
                                                        refine r_goto (tgt := 333) dL_areSmithies_490 (by decide) ?_
                                                        refine r_il8 (n := 335) dL_areSmithies_333 rfl ?_
                                                        refine r_iconst (v := 2) (n := 336) dL_areSmithies_335 (by decide) rfl ?_
                                                        refine r_icmp_ge (tgt := 493) (n := 339) dL_areSmithies_336 (by decide) rfl (fun c_336 => ?_) (fun c_336 => ?_)
                                                        · exact absurd c_336 (by decide)
                                                        · refine r_il5 (n := 341) dL_areSmithies_339 rfl ?_
                                                          refine r_if_eq (tgt := 493) (n := 344) dL_areSmithies_341 (by decide) rfl (fun c_341 => ?_) (fun c_341 => ?_)
                                                          · exact absurd c_341 (by decide)
                                                          · refine r_al0 (n := 345) dL_areSmithies_344 rfl ?_
                                                            refine r_il6 (n := 347) dL_areSmithies_345 rfl ?_
                                                            refine r_il8 (n := 349) dL_areSmithies_347 rfl ?_
                                                            refine cV_i (n := 352) (np := 2) (q_w c hv hk (w := 1) (X := whyNot (M.1 10) i true) rfl) gL_areSmithies_X3_why rfl (by decide +kernel) rfl (by decide) (by decide) (by omega) rfl rfl dL_areSmithies_349 rfl rfl (Nat.le_of_ble_eq_true rfl) ?_
                                                            refine r_al1 (n := 353) dL_areSmithies_352 rfl ?_
                                                            refine r_al2 (n := 354) dL_areSmithies_353 rfl ?_
                                                            refine r_il7 (n := 356) dL_areSmithies_354 rfl ?_
                                                            refine r_il8 (n := 358) dL_areSmithies_356 rfl ?_
                                                            refine r_iconst (v := 1) (n := 359) dL_areSmithies_358 (by decide) rfl ?_
                                                            refine r_icmp_ne (tgt := 366) (n := 362) dL_areSmithies_359 (by decide) rfl (fun c_359 => ?_) (fun c_359 => ?_)
                                                            · exact absurd c_359 (fun q => q rfl)
                                                            · refine r_iconst (v := 1) (n := 363) dL_areSmithies_362 (by decide) rfl ?_
                                                              refine r_goto (tgt := 367) dL_areSmithies_363 (by decide) ?_
                                                              refine cS_i (n := 370) (np := 4) (n_L_why hv hk true) gL_areSmithies_L_why rfl (by decide +kernel) rfl (by decide) (by decide) dL_areSmithies_367 rfl rfl (Nat.le_of_ble_eq_true rfl) ?_
                                                              refine r_icmp_ne (tgt := 484) (n := 373) dL_areSmithies_370 (by decide) rfl (fun c_370 => ?_) (fun c_370 => ?_)
                                                              · exact absurd c_370 (fun q => q rfl)
                                                              · refine r_al0 (n := 374) dL_areSmithies_373 rfl ?_
                                                                refine r_il6 (n := 376) dL_areSmithies_374 rfl ?_
                                                                refine r_il8 (n := 378) dL_areSmithies_376 rfl ?_
                                                                refine r_iconst (v := 0) (n := 379) dL_areSmithies_378 (by decide) rfl ?_
                                                                refine cV_i (n := 382) (np := 3) (q_m c hv hk (w := 1) (x := 0) (X := hM true) rfl) gL_areSmithies_X3_mend rfl (by decide +kernel) rfl (by decide) (by decide) (by omega) rfl rfl dL_areSmithies_379 rfl rfl (Nat.le_of_ble_eq_true rfl) ?_
                                                                refine r_iconst (v := 1) (n := 383) dL_areSmithies_382 (by decide) rfl ?_
                                                                refine r_iconst (v := 2) (n := 384) dL_areSmithies_383 (by decide) rfl ?_
                                                                refine r_il8 (n := 386) dL_areSmithies_384 rfl ?_
                                                                refine r_imul (n := 387) dL_areSmithies_386 rfl ?_
                                                                refine r_iadd (n := 388) dL_areSmithies_387 rfl ?_
                                                                refine r_icmp_ne (tgt := 484) (n := 391) dL_areSmithies_388 (by decide) rfl (fun c_388 => ?_) (fun c_388 => ?_)
                                                                · exact absurd c_388 (fun q => q (by decide))
                                                                · refine r_al0 (n := 392) dL_areSmithies_391 rfl ?_
                                                                  refine r_il6 (n := 394) dL_areSmithies_392 rfl ?_
                                                                  refine r_il8 (n := 396) dL_areSmithies_394 rfl ?_
                                                                  refine r_iconst (v := 1) (n := 397) dL_areSmithies_396 (by decide) rfl ?_
                                                                  refine cV_i (n := 400) (np := 3) (q_m c hv hk (w := 1) (x := 1) (X := leatherOf (M.1 10) i true) rfl) gL_areSmithies_X3_mend rfl (by decide +kernel) rfl (by decide) (by decide) (by omega) rfl rfl dL_areSmithies_397 rfl rfl (Nat.le_of_ble_eq_true rfl) ?_
                                                                  refine r_al2 (n := 401) dL_areSmithies_400 rfl ?_
                                                                  refine r_il7 (n := 403) dL_areSmithies_401 rfl ?_
                                                                  refine r_il8 (n := 405) dL_areSmithies_403 rfl ?_
                                                                  refine r_iconst (v := 1) (n := 406) dL_areSmithies_405 (by decide) rfl ?_
                                                                  refine r_icmp_ne (tgt := 413) (n := 409) dL_areSmithies_406 (by decide) rfl (fun c_406 => ?_) (fun c_406 => ?_)
                                                                  · exact absurd c_406 (fun q => q rfl)
                                                                  · refine r_iconst (v := 1) (n := 410) dL_areSmithies_409 (by decide) rfl ?_
                                                                    refine r_goto (tgt := 414) dL_areSmithies_410 (by decide) ?_
                                                                    refine cS_i (n := 417) (np := 3) (n_L_takes hv hk true) gL_areSmithies_L_takes rfl (by decide +kernel) rfl (by decide) (by decide) dL_areSmithies_414 rfl rfl (Nat.le_of_ble_eq_true rfl) ?_
                                                                    refine r_icmp_ne (tgt := 484) (n := 420) dL_areSmithies_417 (by decide) rfl (fun c_417 => ?_) (fun c_417 => ?_)
                                                                    · exact absurd c_417 (fun q => q rfl)
                                                                    · refine r_al0 (n := 421) dL_areSmithies_420 rfl ?_
                                                                      refine r_il6 (n := 423) dL_areSmithies_421 rfl ?_
                                                                      refine r_il8 (n := 425) dL_areSmithies_423 rfl ?_
                                                                      refine r_iconst (v := 2) (n := 426) dL_areSmithies_425 (by decide) rfl ?_
                                                                      refine cV_i (n := 429) (np := 3) (q_m c hv hk (w := 1) (x := 2) (X := owes (M.1 10) i true) rfl) gL_areSmithies_X3_mend rfl (by decide +kernel) rfl (by decide) (by decide) (by omega) rfl rfl dL_areSmithies_426 rfl rfl (Nat.le_of_ble_eq_true rfl) ?_
                                                                      refine r_al1 (n := 430) dL_areSmithies_429 rfl ?_
                                                                      refine r_al2 (n := 431) dL_areSmithies_430 rfl ?_
                                                                      refine r_il7 (n := 433) dL_areSmithies_431 rfl ?_
                                                                      refine r_il8 (n := 435) dL_areSmithies_433 rfl ?_
                                                                      refine r_iconst (v := 1) (n := 436) dL_areSmithies_435 (by decide) rfl ?_
                                                                      refine r_icmp_ne (tgt := 443) (n := 439) dL_areSmithies_436 (by decide) rfl (fun c_436 => ?_) (fun c_436 => ?_)
                                                                      · exact absurd c_436 (fun q => q rfl)
                                                                      · refine r_iconst (v := 1) (n := 440) dL_areSmithies_439 (by decide) rfl ?_
                                                                        refine r_goto (tgt := 444) dL_areSmithies_440 (by decide) ?_
                                                                        refine cS_i (n := 447) (np := 4) (n_L_owes hv hk true) gL_areSmithies_L_owes rfl (by decide +kernel) rfl (by decide) (by decide) dL_areSmithies_444 rfl rfl (Nat.le_of_ble_eq_true rfl) ?_
                                                                        refine r_icmp_ne (tgt := 484) (n := 450) dL_areSmithies_447 (by decide) rfl (fun c_447 => ?_) (fun c_447 => ?_)
                                                                        · exact absurd c_447 (fun q => q rfl)
                                                                        · refine r_al0 (n := 451) dL_areSmithies_450 rfl ?_
                                                                          refine r_il6 (n := 453) dL_areSmithies_451 rfl ?_
                                                                          refine r_il8 (n := 455) dL_areSmithies_453 rfl ?_
                                                                          refine r_iconst (v := 3) (n := 456) dL_areSmithies_455 (by decide) rfl ?_
                                                                          refine cV_i (n := 459) (np := 3) (q_m c hv hk (w := 1) (x := 3) (X := wearBM (M.1 10) i true) rfl) gL_areSmithies_X3_mend rfl (by decide +kernel) rfl (by decide) (by decide) (by omega) rfl rfl dL_areSmithies_456 rfl rfl (Nat.le_of_ble_eq_true rfl) ?_
                                                                          refine r_il8 (n := 461) dL_areSmithies_459 rfl ?_
                                                                          refine r_iconst (v := 1) (n := 462) dL_areSmithies_461 (by decide) rfl ?_
                                                                          refine r_icmp_ne (tgt := 469) (n := 465) dL_areSmithies_462 (by decide) rfl (fun c_462 => ?_) (fun c_462 => ?_)
                                                                          · exact absurd c_462 (fun q => q rfl)
                                                                          · refine r_iconst (v := 0) (n := 466) dL_areSmithies_465 (by decide) rfl ?_
                                                                            refine r_goto (tgt := 477) dL_areSmithies_466 (by decide) ?_
                                                                            refine r_icmp_ne (tgt := 484) (n := 480) dL_areSmithies_477 (by decide) rfl (fun c_477 => ?_) (fun c_477 => ?_)
                                                                            · exact absurd c_477 (fun q => q rfl)
                                                                            · refine r_iconst (v := 1) (n := 481) dL_areSmithies_480 (by decide) rfl ?_
                                                                              refine r_goto (tgt := 485) dL_areSmithies_481 (by decide) ?_
                                                                              refine r_is5 (n := 487) (by decide) rfl dL_areSmithies_485 rfl ?_
                                                                              refine r_ii8 (n := 490) (by decide) rfl dL_areSmithies_487 (show (1 : Int32) + Int32.ofInt 1 = 2 by decide) rfl ?_
                                                                              refine r_goto (tgt := 333) dL_areSmithies_490 (by decide) ?_
                                                                              refine r_il8 (n := 335) dL_areSmithies_333 rfl ?_
                                                                              refine r_iconst (v := 2) (n := 336) dL_areSmithies_335 (by decide) rfl ?_
                                                                              refine r_icmp_ge (tgt := 493) (n := 339) dL_areSmithies_336 (by decide) rfl (fun c_336 => ?_) (fun c_336 => ?_)
                                                                              · refine r_il5 (n := 495) dL_areSmithies_493 rfl ?_
                                                                                refine r_if_eq (tgt := 540) (n := 498) dL_areSmithies_495 (by decide) rfl (fun c_495 => ?_) (fun c_495 => ?_)
                                                                                · exact absurd c_495 (by decide)
                                                                                · refine r_al0 (n := 499) dL_areSmithies_498 rfl ?_
                                                                                  refine r_il6 (n := 501) dL_areSmithies_499 rfl ?_
                                                                                  refine r_iconst (v := 2) (n := 502) dL_areSmithies_501 (by decide) rfl ?_
                                                                                  refine cV_i (n := 505) (np := 2) (q_w c hv hk (w := 2) (X := IA) rfl) gL_areSmithies_X3_why rfl (by decide +kernel) rfl (by decide) (by decide) (by omega) rfl rfl dL_areSmithies_502 rfl rfl (Nat.le_of_ble_eq_true rfl) ?_
                                                                                  refine r_ldc (n := 507) dL_areSmithies_505 k_L_areSmithies_65 rfl ?_
                                                                                  refine r_icmp_ne (tgt := 540) (n := 510) dL_areSmithies_507 (by decide) rfl (fun c_507 => ?_) (fun c_507 => ?_)
                                                                                  · exact absurd c_507 (fun q => q rfl)
                                                                                  · refine r_al0 (n := 511) dL_areSmithies_510 rfl ?_
                                                                                    refine r_il6 (n := 513) dL_areSmithies_511 rfl ?_
                                                                                    refine r_iconst (v := 2) (n := 514) dL_areSmithies_513 (by decide) rfl ?_
                                                                                    refine r_iconst (v := 0) (n := 515) dL_areSmithies_514 (by decide) rfl ?_
                                                                                    refine cV_i (n := 518) (np := 3) (q_m c hv hk (w := 2) (x := 0) (X := IA) rfl) gL_areSmithies_X3_mend rfl (by decide +kernel) rfl (by decide) (by decide) (by omega) rfl rfl dL_areSmithies_515 rfl rfl (Nat.le_of_ble_eq_true rfl) ?_
                                                                                    refine r_ldc (n := 520) dL_areSmithies_518 k_L_areSmithies_65 rfl ?_
                                                                                    refine r_icmp_ne (tgt := 540) (n := 523) dL_areSmithies_520 (by decide) rfl (fun c_520 => ?_) (fun c_520 => ?_)
                                                                                    · exact absurd c_520 (fun q => q rfl)
                                                                                    · refine r_al0 (n := 524) dL_areSmithies_523 rfl ?_
                                                                                      refine r_il6 (n := 526) dL_areSmithies_524 rfl ?_
                                                                                      refine r_iconst (v := 0) (n := 527) dL_areSmithies_526 (by decide) rfl ?_
                                                                                      refine r_iconst (v := 4) (n := 528) dL_areSmithies_527 (by decide) rfl ?_
                                                                                      refine cV_i (n := 531) (np := 3) (q_m c hv hk (w := 0) (x := 4) (X := IA) rfl) gL_areSmithies_X3_mend rfl (by decide +kernel) rfl (by decide) (by decide) (by omega) rfl rfl dL_areSmithies_528 rfl rfl (Nat.le_of_ble_eq_true rfl) ?_
                                                                                      refine r_ldc (n := 533) dL_areSmithies_531 k_L_areSmithies_65 rfl ?_
                                                                                      refine r_icmp_ne (tgt := 540) (n := 536) dL_areSmithies_533 (by decide) rfl (fun c_533 => ?_) (fun c_533 => ?_)
                                                                                      · exact absurd c_533 (fun q => q rfl)
                                                                                      · refine r_iconst (v := 1) (n := 537) dL_areSmithies_536 (by decide) rfl ?_
                                                                                        refine r_goto (tgt := 541) dL_areSmithies_537 (by decide) ?_
                                                                                        refine r_is5 (n := 543) (by decide) rfl dL_areSmithies_541 rfl ?_
                                                                                        refine r_ii6 (n := 546) (by decide) rfl dL_areSmithies_543 (nI_1 i) rfl ?_
                                                                                        refine r_goto (tgt := 66) dL_areSmithies_546 (by decide) ?_
                                                                                        refine r_dr7 ?_
                                                                                        refine r_dr8 ?_
                                                                                        exact ih (i + 1) (by omega)
                                                                              · exact absurd c_336 (fun q => q (by decide))
                                                    · exact absurd c_462 (by decide)
                                                · exact absurd c_436 (by decide)
                                            · exact absurd c_406 (by decide)
                                      · exact absurd c_359 (by decide)
                  · refine r_al2 (n := 196) dL_areSmithies_195 rfl ?_
                    refine r_il7 (n := 198) dL_areSmithies_196 rfl ?_
                    refine r_iconst (v := 3) (n := 199) dL_areSmithies_198 (by decide) rfl ?_
                    refine r_iadd (n := 200) dL_areSmithies_199 rfl ?_
                    refine a_f (n := 201) (k := i) (c := 3) (by omega) (by decide) (nI_add _ _) dL_areSmithies_200 rfl ?_
                    refine r_al1 (n := 202) dL_areSmithies_201 rfl ?_
                    refine r_bipush (v := 10) (n := 204) dL_areSmithies_202 (by decide) rfl ?_
                    refine a_g (n := 205) (k := 10) (by decide) (by decide) dL_areSmithies_204 rfl ?_
                    refine r_icmp_ge (tgt := 212) (n := 208) dL_areSmithies_205 (by decide) rfl (fun c_205 => ?_) (fun c_205 => ?_)
                    · refine r_iconst (v := 0) (n := 213) dL_areSmithies_212 (by decide) rfl ?_
                      first
                        | (rw [if_pos (Int32.not_le.mp c_205)] at K_213 ⊢; exact K_213)
                        | (rw [if_neg (Int32.not_lt.mpr c_205)] at K_213 ⊢; exact K_213)
                    · refine r_iconst (v := 1) (n := 209) dL_areSmithies_208 (by decide) rfl ?_
                      refine r_goto (tgt := 213) dL_areSmithies_209 (by decide) ?_
                      first
                        | (rw [if_pos (Int32.not_le.mp c_205)] at K_213 ⊢; exact K_213)
                        | (rw [if_neg (Int32.not_lt.mpr c_205)] at K_213 ⊢; exact K_213)

set_option maxHeartbeats 4000000 in
set_option maxRecDepth 100000 in
theorem m_L_areSmithies (hR : RELA M) : C_L_areSmithies cA ad D [.ref (ad 0), .ref (ad 4), .ref (ad 5)] M (Ri 1 M) := by
  refine PM_of (lv := [some (.ref (ad 0)), some (.ref (ad 4)), some (.ref (ad 5)), none, none, none, none, none, none]) (by decide +kernel) rfl (Nat.le_of_ble_eq_true rfl) rfl ?_
  obtain ⟨N, h, hs, tx, c, hv, hi⟩ := hR
  have h8 := hv.1
  refine r_iconst (v := 0) (n := 1) dL_areSmithies_0 (by decide) rfl ?_
  refine r_is3 (n := 2) (by decide) rfl dL_areSmithies_1 rfl ?_
  refine r_iconst (v := 0) (n := 3) dL_areSmithies_2 (by decide) rfl ?_
  refine r_is4 (n := 5) (by decide) rfl dL_areSmithies_3 rfl ?_
  refine r_al0 (n := 6) dL_areSmithies_5 rfl ?_
  refine r_al1 (n := 7) dL_areSmithies_6 rfl ?_
  refine r_iconst (v := 0) (n := 8) dL_areSmithies_7 (by decide) rfl ?_
  refine a_g (n := 9) (k := 0) (by decide) (by decide) dL_areSmithies_8 rfl ?_
  refine r_iconst (v := 0) (n := 10) dL_areSmithies_9 (by decide) rfl ?_
  refine cV_i (n := 13) (np := 2) (by have k := n_X3_smithyOf (cA := cA) (ad := ad) (D := D) c hv (j := M.1 10 0) (w := 0); rw [jS_n hv] at k; exact k) gL_areSmithies_X3_smithyOf rfl (by decide +kernel) rfl (by decide) (by decide) (by omega) rfl rfl dL_areSmithies_10 rfl rfl (Nat.le_of_ble_eq_true rfl) ?_
  refine r_ldc (n := 15) dL_areSmithies_13 k_L_areSmithies_65 rfl ?_
  refine r_icmp_ne (tgt := 60) (n := 18) dL_areSmithies_15 (by decide) rfl (fun c_15 => ?_) (fun c_15 => ?_)
  · exact absurd c_15 (fun q => q rfl)
  · refine r_al0 (n := 19) dL_areSmithies_18 rfl ?_
    refine r_iconst (v := -1) (n := 20) dL_areSmithies_19 (by decide) rfl ?_
    refine r_iconst (v := 0) (n := 21) dL_areSmithies_20 (by decide) rfl ?_
    refine cV_i (n := 24) (np := 2) (by have k := n_X3_smithyOf (cA := cA) (ad := ad) (D := D) c hv (j := -1) (w := 0); rw [jS_m] at k; exact k) gL_areSmithies_X3_smithyOf rfl (by decide +kernel) rfl (by decide) (by decide) (by omega) rfl rfl dL_areSmithies_21 rfl rfl (Nat.le_of_ble_eq_true rfl) ?_
    refine r_ldc (n := 26) dL_areSmithies_24 k_L_areSmithies_65 rfl ?_
    refine r_icmp_ne (tgt := 60) (n := 29) dL_areSmithies_26 (by decide) rfl (fun c_26 => ?_) (fun c_26 => ?_)
    · exact absurd c_26 (fun q => q rfl)
    · refine r_al0 (n := 30) dL_areSmithies_29 rfl ?_
      refine r_al1 (n := 31) dL_areSmithies_30 rfl ?_
      refine r_iconst (v := 0) (n := 32) dL_areSmithies_31 (by decide) rfl ?_
      refine a_g (n := 33) (k := 0) (by decide) (by decide) dL_areSmithies_32 rfl ?_
      refine r_iconst (v := 0) (n := 34) dL_areSmithies_33 (by decide) rfl ?_
      refine cV_i (n := 37) (np := 2) (by have k := n_X3_why (cA := cA) (ad := ad) (D := D) c hv (j := M.1 10 0) (w := 0); rw [jS_n hv] at k; exact k) gL_areSmithies_X3_why rfl (by decide +kernel) rfl (by decide) (by decide) (by omega) rfl rfl dL_areSmithies_34 rfl rfl (Nat.le_of_ble_eq_true rfl) ?_
      refine r_ldc (n := 39) dL_areSmithies_37 k_L_areSmithies_65 rfl ?_
      refine r_icmp_ne (tgt := 60) (n := 42) dL_areSmithies_39 (by decide) rfl (fun c_39 => ?_) (fun c_39 => ?_)
      · exact absurd c_39 (fun q => q rfl)
      · refine r_al0 (n := 43) dL_areSmithies_42 rfl ?_
        refine r_al1 (n := 44) dL_areSmithies_43 rfl ?_
        refine r_iconst (v := 0) (n := 45) dL_areSmithies_44 (by decide) rfl ?_
        refine a_g (n := 46) (k := 0) (by decide) (by decide) dL_areSmithies_45 rfl ?_
        refine r_iconst (v := 0) (n := 47) dL_areSmithies_46 (by decide) rfl ?_
        refine r_iconst (v := 0) (n := 48) dL_areSmithies_47 (by decide) rfl ?_
        refine cV_i (n := 51) (np := 3) (by have k := n_X3_mend (cA := cA) (ad := ad) (D := D) c hv (j := M.1 10 0) (w := 0) (x := 0); rw [jS_n hv] at k; exact k) gL_areSmithies_X3_mend rfl (by decide +kernel) rfl (by decide) (by decide) (by omega) rfl rfl dL_areSmithies_48 rfl rfl (Nat.le_of_ble_eq_true rfl) ?_
        refine r_ldc (n := 53) dL_areSmithies_51 k_L_areSmithies_65 rfl ?_
        refine r_icmp_ne (tgt := 60) (n := 56) dL_areSmithies_53 (by decide) rfl (fun c_53 => ?_) (fun c_53 => ?_)
        · exact absurd c_53 (fun q => q rfl)
        · refine r_iconst (v := 1) (n := 57) dL_areSmithies_56 (by decide) rfl ?_
          refine r_goto (tgt := 61) dL_areSmithies_57 (by decide) ?_
          refine r_is5 (n := 63) (by decide) rfl dL_areSmithies_61 rfl ?_
          refine r_iconst (v := 0) (n := 64) dL_areSmithies_63 (by decide) rfl ?_
          refine r_is6 (n := 66) (by decide) rfl dL_areSmithies_64 rfl ?_
          exact l_L_areSmithies c hv hi N 0 (by omega)

set_option maxHeartbeats 4000000 in
set_option maxRecDepth 100000 in
theorem m_L_isSo (hR : RELA M) : C_L_isSo cA ad D [.ref (ad 0), .ref (ad 4), .ref (ad 5)] M (Ri 1 M) := by
  refine PM_of (lv := [some (.ref (ad 0)), some (.ref (ad 4)), some (.ref (ad 5)), none, none]) (by decide +kernel) rfl (Nat.le_of_ble_eq_true rfl) rfl ?_
  have hR0 := hR
  obtain ⟨N, h, hs, tx, c, hv, hi⟩ := hR
  have h8 := hv.1
  refine r_al0 (n := 1) dL_isSo_0 rfl ?_
  refine r_al1 (n := 2) dL_isSo_1 rfl ?_
  refine r_al2 (n := 3) dL_isSo_2 rfl ?_
  refine cS_i (n := 6) (np := 3) (m_L_areSmithies hR0) gL_isSo_L_areSmithies rfl (by decide +kernel) rfl (by decide) (by decide) dL_isSo_3 rfl rfl (Nat.le_of_ble_eq_true rfl) ?_
  refine r_is3 (n := 7) (by decide) rfl dL_isSo_6 rfl ?_
  refine r_iconst (v := 0) (n := 8) dL_isSo_7 (by decide) rfl ?_
  refine r_is4 (n := 10) (by decide) rfl dL_isSo_8 rfl ?_
  refine r_il4 (n := 12) dL_isSo_10 rfl ?_
  refine r_bipush (v := 6) (n := 14) dL_isSo_12 (by decide) rfl ?_
  refine r_icmp_ge (tgt := 46) (n := 17) dL_isSo_14 (by decide) rfl (fun c_14 => ?_) (fun c_14 => ?_)
  · exact absurd c_14 (by decide)
  · refine r_il3 (n := 18) dL_isSo_17 rfl ?_
    refine r_if_eq (tgt := 46) (n := 21) dL_isSo_18 (by decide) rfl (fun c_18 => ?_) (fun c_18 => ?_)
    · exact absurd c_18 (by decide)
    · refine r_al0 (n := 22) dL_isSo_21 rfl ?_
      refine r_il4 (n := 24) dL_isSo_22 rfl ?_
      refine cV_i (n := 27) (np := 1) (q_c c hv (w := 0) (X := M.1 10 0) rfl) gL_isSo_X3_count rfl (by decide +kernel) rfl (by decide) (by decide) (by omega) rfl rfl dL_isSo_24 rfl rfl (Nat.le_of_ble_eq_true rfl) ?_
      refine r_al1 (n := 28) dL_isSo_27 rfl ?_
      refine r_il4 (n := 30) dL_isSo_28 rfl ?_
      refine a_g (n := 31) (k := 0) (by decide) (by decide) dL_isSo_30 rfl ?_
      refine r_icmp_ne (tgt := 38) (n := 34) dL_isSo_31 (by decide) rfl (fun c_31 => ?_) (fun c_31 => ?_)
      · exact absurd c_31 (fun q => q rfl)
      · refine r_iconst (v := 1) (n := 35) dL_isSo_34 (by decide) rfl ?_
        refine r_goto (tgt := 39) dL_isSo_35 (by decide) ?_
        refine r_is3 (n := 40) (by decide) rfl dL_isSo_39 rfl ?_
        refine r_ii4 (n := 43) (by decide) rfl dL_isSo_40 (show (0 : Int32) + Int32.ofInt 1 = 1 by decide) rfl ?_
        refine r_goto (tgt := 10) dL_isSo_43 (by decide) ?_
        refine r_il4 (n := 12) dL_isSo_10 rfl ?_
        refine r_bipush (v := 6) (n := 14) dL_isSo_12 (by decide) rfl ?_
        refine r_icmp_ge (tgt := 46) (n := 17) dL_isSo_14 (by decide) rfl (fun c_14 => ?_) (fun c_14 => ?_)
        · exact absurd c_14 (by decide)
        · refine r_il3 (n := 18) dL_isSo_17 rfl ?_
          refine r_if_eq (tgt := 46) (n := 21) dL_isSo_18 (by decide) rfl (fun c_18 => ?_) (fun c_18 => ?_)
          · exact absurd c_18 (by decide)
          · refine r_al0 (n := 22) dL_isSo_21 rfl ?_
            refine r_il4 (n := 24) dL_isSo_22 rfl ?_
            refine cV_i (n := 27) (np := 1) (q_c c hv (w := 1) (X := M.1 10 1) rfl) gL_isSo_X3_count rfl (by decide +kernel) rfl (by decide) (by decide) (by omega) rfl rfl dL_isSo_24 rfl rfl (Nat.le_of_ble_eq_true rfl) ?_
            refine r_al1 (n := 28) dL_isSo_27 rfl ?_
            refine r_il4 (n := 30) dL_isSo_28 rfl ?_
            refine a_g (n := 31) (k := 1) (by decide) (by decide) dL_isSo_30 rfl ?_
            refine r_icmp_ne (tgt := 38) (n := 34) dL_isSo_31 (by decide) rfl (fun c_31 => ?_) (fun c_31 => ?_)
            · exact absurd c_31 (fun q => q rfl)
            · refine r_iconst (v := 1) (n := 35) dL_isSo_34 (by decide) rfl ?_
              refine r_goto (tgt := 39) dL_isSo_35 (by decide) ?_
              refine r_is3 (n := 40) (by decide) rfl dL_isSo_39 rfl ?_
              refine r_ii4 (n := 43) (by decide) rfl dL_isSo_40 (show (1 : Int32) + Int32.ofInt 1 = 2 by decide) rfl ?_
              refine r_goto (tgt := 10) dL_isSo_43 (by decide) ?_
              refine r_il4 (n := 12) dL_isSo_10 rfl ?_
              refine r_bipush (v := 6) (n := 14) dL_isSo_12 (by decide) rfl ?_
              refine r_icmp_ge (tgt := 46) (n := 17) dL_isSo_14 (by decide) rfl (fun c_14 => ?_) (fun c_14 => ?_)
              · exact absurd c_14 (by decide)
              · refine r_il3 (n := 18) dL_isSo_17 rfl ?_
                refine r_if_eq (tgt := 46) (n := 21) dL_isSo_18 (by decide) rfl (fun c_18 => ?_) (fun c_18 => ?_)
                · exact absurd c_18 (by decide)
                · refine r_al0 (n := 22) dL_isSo_21 rfl ?_
                  refine r_il4 (n := 24) dL_isSo_22 rfl ?_
                  refine cV_i (n := 27) (np := 1) (q_c c hv (w := 2) (X := M.1 10 2) rfl) gL_isSo_X3_count rfl (by decide +kernel) rfl (by decide) (by decide) (by omega) rfl rfl dL_isSo_24 rfl rfl (Nat.le_of_ble_eq_true rfl) ?_
                  refine r_al1 (n := 28) dL_isSo_27 rfl ?_
                  refine r_il4 (n := 30) dL_isSo_28 rfl ?_
                  refine a_g (n := 31) (k := 2) (by decide) (by decide) dL_isSo_30 rfl ?_
                  refine r_icmp_ne (tgt := 38) (n := 34) dL_isSo_31 (by decide) rfl (fun c_31 => ?_) (fun c_31 => ?_)
                  · exact absurd c_31 (fun q => q rfl)
                  · refine r_iconst (v := 1) (n := 35) dL_isSo_34 (by decide) rfl ?_
                    refine r_goto (tgt := 39) dL_isSo_35 (by decide) ?_
                    refine r_is3 (n := 40) (by decide) rfl dL_isSo_39 rfl ?_
                    refine r_ii4 (n := 43) (by decide) rfl dL_isSo_40 (show (2 : Int32) + Int32.ofInt 1 = 3 by decide) rfl ?_
                    refine r_goto (tgt := 10) dL_isSo_43 (by decide) ?_
                    refine r_il4 (n := 12) dL_isSo_10 rfl ?_
                    refine r_bipush (v := 6) (n := 14) dL_isSo_12 (by decide) rfl ?_
                    refine r_icmp_ge (tgt := 46) (n := 17) dL_isSo_14 (by decide) rfl (fun c_14 => ?_) (fun c_14 => ?_)
                    · exact absurd c_14 (by decide)
                    · refine r_il3 (n := 18) dL_isSo_17 rfl ?_
                      refine r_if_eq (tgt := 46) (n := 21) dL_isSo_18 (by decide) rfl (fun c_18 => ?_) (fun c_18 => ?_)
                      · exact absurd c_18 (by decide)
                      · refine r_al0 (n := 22) dL_isSo_21 rfl ?_
                        refine r_il4 (n := 24) dL_isSo_22 rfl ?_
                        refine cV_i (n := 27) (np := 1) (q_c c hv (w := 3) (X := M.1 10 3) rfl) gL_isSo_X3_count rfl (by decide +kernel) rfl (by decide) (by decide) (by omega) rfl rfl dL_isSo_24 rfl rfl (Nat.le_of_ble_eq_true rfl) ?_
                        refine r_al1 (n := 28) dL_isSo_27 rfl ?_
                        refine r_il4 (n := 30) dL_isSo_28 rfl ?_
                        refine a_g (n := 31) (k := 3) (by decide) (by decide) dL_isSo_30 rfl ?_
                        refine r_icmp_ne (tgt := 38) (n := 34) dL_isSo_31 (by decide) rfl (fun c_31 => ?_) (fun c_31 => ?_)
                        · exact absurd c_31 (fun q => q rfl)
                        · refine r_iconst (v := 1) (n := 35) dL_isSo_34 (by decide) rfl ?_
                          refine r_goto (tgt := 39) dL_isSo_35 (by decide) ?_
                          refine r_is3 (n := 40) (by decide) rfl dL_isSo_39 rfl ?_
                          refine r_ii4 (n := 43) (by decide) rfl dL_isSo_40 (show (3 : Int32) + Int32.ofInt 1 = 4 by decide) rfl ?_
                          refine r_goto (tgt := 10) dL_isSo_43 (by decide) ?_
                          refine r_il4 (n := 12) dL_isSo_10 rfl ?_
                          refine r_bipush (v := 6) (n := 14) dL_isSo_12 (by decide) rfl ?_
                          refine r_icmp_ge (tgt := 46) (n := 17) dL_isSo_14 (by decide) rfl (fun c_14 => ?_) (fun c_14 => ?_)
                          · exact absurd c_14 (by decide)
                          · refine r_il3 (n := 18) dL_isSo_17 rfl ?_
                            refine r_if_eq (tgt := 46) (n := 21) dL_isSo_18 (by decide) rfl (fun c_18 => ?_) (fun c_18 => ?_)
                            · exact absurd c_18 (by decide)
                            · refine r_al0 (n := 22) dL_isSo_21 rfl ?_
                              refine r_il4 (n := 24) dL_isSo_22 rfl ?_
                              refine cV_i (n := 27) (np := 1) (q_c c hv (w := 4) (X := M.1 10 4) rfl) gL_isSo_X3_count rfl (by decide +kernel) rfl (by decide) (by decide) (by omega) rfl rfl dL_isSo_24 rfl rfl (Nat.le_of_ble_eq_true rfl) ?_
                              refine r_al1 (n := 28) dL_isSo_27 rfl ?_
                              refine r_il4 (n := 30) dL_isSo_28 rfl ?_
                              refine a_g (n := 31) (k := 4) (by decide) (by decide) dL_isSo_30 rfl ?_
                              refine r_icmp_ne (tgt := 38) (n := 34) dL_isSo_31 (by decide) rfl (fun c_31 => ?_) (fun c_31 => ?_)
                              · exact absurd c_31 (fun q => q rfl)
                              · refine r_iconst (v := 1) (n := 35) dL_isSo_34 (by decide) rfl ?_
                                refine r_goto (tgt := 39) dL_isSo_35 (by decide) ?_
                                refine r_is3 (n := 40) (by decide) rfl dL_isSo_39 rfl ?_
                                refine r_ii4 (n := 43) (by decide) rfl dL_isSo_40 (show (4 : Int32) + Int32.ofInt 1 = 5 by decide) rfl ?_
                                refine r_goto (tgt := 10) dL_isSo_43 (by decide) ?_
                                refine r_il4 (n := 12) dL_isSo_10 rfl ?_
                                refine r_bipush (v := 6) (n := 14) dL_isSo_12 (by decide) rfl ?_
                                refine r_icmp_ge (tgt := 46) (n := 17) dL_isSo_14 (by decide) rfl (fun c_14 => ?_) (fun c_14 => ?_)
                                · exact absurd c_14 (by decide)
                                · refine r_il3 (n := 18) dL_isSo_17 rfl ?_
                                  refine r_if_eq (tgt := 46) (n := 21) dL_isSo_18 (by decide) rfl (fun c_18 => ?_) (fun c_18 => ?_)
                                  · exact absurd c_18 (by decide)
                                  · refine r_al0 (n := 22) dL_isSo_21 rfl ?_
                                    refine r_il4 (n := 24) dL_isSo_22 rfl ?_
                                    refine cV_i (n := 27) (np := 1) (q_c c hv (w := 5) (X := M.1 10 5) rfl) gL_isSo_X3_count rfl (by decide +kernel) rfl (by decide) (by decide) (by omega) rfl rfl dL_isSo_24 rfl rfl (Nat.le_of_ble_eq_true rfl) ?_
                                    refine r_al1 (n := 28) dL_isSo_27 rfl ?_
                                    refine r_il4 (n := 30) dL_isSo_28 rfl ?_
                                    refine a_g (n := 31) (k := 5) (by decide) (by decide) dL_isSo_30 rfl ?_
                                    refine r_icmp_ne (tgt := 38) (n := 34) dL_isSo_31 (by decide) rfl (fun c_31 => ?_) (fun c_31 => ?_)
                                    · exact absurd c_31 (fun q => q rfl)
                                    · refine r_iconst (v := 1) (n := 35) dL_isSo_34 (by decide) rfl ?_
                                      refine r_goto (tgt := 39) dL_isSo_35 (by decide) ?_
                                      refine r_is3 (n := 40) (by decide) rfl dL_isSo_39 rfl ?_
                                      refine r_ii4 (n := 43) (by decide) rfl dL_isSo_40 (show (5 : Int32) + Int32.ofInt 1 = 6 by decide) rfl ?_
                                      refine r_goto (tgt := 10) dL_isSo_43 (by decide) ?_
                                      refine r_il4 (n := 12) dL_isSo_10 rfl ?_
                                      refine r_bipush (v := 6) (n := 14) dL_isSo_12 (by decide) rfl ?_
                                      refine r_icmp_ge (tgt := 46) (n := 17) dL_isSo_14 (by decide) rfl (fun c_14 => ?_) (fun c_14 => ?_)
                                      · refine r_il3 (n := 47) dL_isSo_46 rfl ?_
                                        refine r_if_eq (tgt := 181) (n := 50) dL_isSo_47 (by decide) rfl (fun c_47 => ?_) (fun c_47 => ?_)
                                        · exact absurd c_47 (by decide)
                                        · refine r_al0 (n := 51) dL_isSo_50 rfl ?_
                                          refine r_bipush (v := 7) (n := 53) dL_isSo_51 (by decide) rfl ?_
                                          refine cV_i (n := 56) (np := 1) (q_c c hv (w := 7) (X := M.1 10 6) rfl) gL_isSo_X3_count rfl (by decide +kernel) rfl (by decide) (by decide) (by omega) rfl rfl dL_isSo_53 rfl rfl (Nat.le_of_ble_eq_true rfl) ?_
                                          refine r_al1 (n := 57) dL_isSo_56 rfl ?_
                                          refine r_bipush (v := 6) (n := 59) dL_isSo_57 (by decide) rfl ?_
                                          refine a_g (n := 60) (k := 6) (by decide) (by decide) dL_isSo_59 rfl ?_
                                          refine r_icmp_ne (tgt := 181) (n := 63) dL_isSo_60 (by decide) rfl (fun c_60 => ?_) (fun c_60 => ?_)
                                          · exact absurd c_60 (fun q => q rfl)
                                          · refine r_al0 (n := 64) dL_isSo_63 rfl ?_
                                            refine r_bipush (v := 8) (n := 66) dL_isSo_64 (by decide) rfl ?_
                                            refine cV_i (n := 69) (np := 1) (q_c c hv (w := 8) (X := M.1 10 7) rfl) gL_isSo_X3_count rfl (by decide +kernel) rfl (by decide) (by decide) (by omega) rfl rfl dL_isSo_66 rfl rfl (Nat.le_of_ble_eq_true rfl) ?_
                                            refine r_al1 (n := 70) dL_isSo_69 rfl ?_
                                            refine r_bipush (v := 7) (n := 72) dL_isSo_70 (by decide) rfl ?_
                                            refine a_g (n := 73) (k := 7) (by decide) (by decide) dL_isSo_72 rfl ?_
                                            refine r_icmp_ne (tgt := 181) (n := 76) dL_isSo_73 (by decide) rfl (fun c_73 => ?_) (fun c_73 => ?_)
                                            · exact absurd c_73 (fun q => q rfl)
                                            · refine r_al0 (n := 77) dL_isSo_76 rfl ?_
                                              refine r_bipush (v := 9) (n := 79) dL_isSo_77 (by decide) rfl ?_
                                              refine cV_i (n := 82) (np := 1) (q_c c hv (w := 9) (X := csN (M.1 10) N) rfl) gL_isSo_X3_count rfl (by decide +kernel) rfl (by decide) (by decide) (by omega) rfl rfl dL_isSo_79 rfl rfl (Nat.le_of_ble_eq_true rfl) ?_
                                              refine r_al1 (n := 83) dL_isSo_82 rfl ?_
                                              refine r_al2 (n := 84) dL_isSo_83 rfl ?_
                                              refine cS_i (n := 87) (np := 2) (n_L_colds hv) gL_isSo_L_colds rfl (by decide +kernel) rfl (by decide) (by decide) dL_isSo_84 rfl rfl (Nat.le_of_ble_eq_true rfl) ?_
                                              refine r_icmp_ne (tgt := 181) (n := 90) dL_isSo_87 (by decide) rfl (fun c_87 => ?_) (fun c_87 => ?_)
                                              · exact absurd c_87 (fun q => q rfl)
                                              · refine r_al0 (n := 91) dL_isSo_90 rfl ?_
                                                refine r_bipush (v := 10) (n := 93) dL_isSo_91 (by decide) rfl ?_
                                                refine cV_i (n := 96) (np := 1) (q_c c hv (w := 10) (X := M.1 10 8) rfl) gL_isSo_X3_count rfl (by decide +kernel) rfl (by decide) (by decide) (by omega) rfl rfl dL_isSo_93 rfl rfl (Nat.le_of_ble_eq_true rfl) ?_
                                                refine r_al1 (n := 97) dL_isSo_96 rfl ?_
                                                refine r_bipush (v := 8) (n := 99) dL_isSo_97 (by decide) rfl ?_
                                                refine a_g (n := 100) (k := 8) (by decide) (by decide) dL_isSo_99 rfl ?_
                                                refine r_icmp_ne (tgt := 181) (n := 103) dL_isSo_100 (by decide) rfl (fun c_100 => ?_) (fun c_100 => ?_)
                                                · exact absurd c_100 (fun q => q rfl)
                                                · refine r_al0 (n := 104) dL_isSo_103 rfl ?_
                                                  refine r_bipush (v := 11) (n := 106) dL_isSo_104 (by decide) rfl ?_
                                                  refine cV_i (n := 109) (np := 1) (q_c c hv (w := 11) (X := M.1 10 9) rfl) gL_isSo_X3_count rfl (by decide +kernel) rfl (by decide) (by decide) (by omega) rfl rfl dL_isSo_106 rfl rfl (Nat.le_of_ble_eq_true rfl) ?_
                                                  refine r_al1 (n := 110) dL_isSo_109 rfl ?_
                                                  refine r_bipush (v := 9) (n := 112) dL_isSo_110 (by decide) rfl ?_
                                                  refine a_g (n := 113) (k := 9) (by decide) (by decide) dL_isSo_112 rfl ?_
                                                  refine r_icmp_ne (tgt := 181) (n := 116) dL_isSo_113 (by decide) rfl (fun c_113 => ?_) (fun c_113 => ?_)
                                                  · exact absurd c_113 (fun q => q rfl)
                                                  · refine r_al0 (n := 117) dL_isSo_116 rfl ?_
                                                    refine r_bipush (v := 13) (n := 119) dL_isSo_117 (by decide) rfl ?_
                                                    refine cV_i (n := 122) (np := 1) (q_c c hv (w := 13) (X := nI 0) rfl) gL_isSo_X3_count rfl (by decide +kernel) rfl (by decide) (by decide) (by omega) rfl rfl dL_isSo_119 rfl rfl (Nat.le_of_ble_eq_true rfl) ?_
                                                    refine r_if_ne (tgt := 181) (n := 125) dL_isSo_122 (by decide) rfl (fun c_122 => ?_) (fun c_122 => ?_)
                                                    · exact absurd c_122 (fun q => q rfl)
                                                    · refine r_al0 (n := 126) dL_isSo_125 rfl ?_
                                                      refine r_bipush (v := 20) (n := 128) dL_isSo_126 (by decide) rfl ?_
                                                      refine cV_i (n := 131) (np := 1) (q_c c hv (w := 20) (X := M.1 10 10) rfl) gL_isSo_X3_count rfl (by decide +kernel) rfl (by decide) (by decide) (by omega) rfl rfl dL_isSo_128 rfl rfl (Nat.le_of_ble_eq_true rfl) ?_
                                                      refine r_al1 (n := 132) dL_isSo_131 rfl ?_
                                                      refine r_bipush (v := 10) (n := 134) dL_isSo_132 (by decide) rfl ?_
                                                      refine a_g (n := 135) (k := 10) (by decide) (by decide) dL_isSo_134 rfl ?_
                                                      refine r_icmp_ne (tgt := 181) (n := 138) dL_isSo_135 (by decide) rfl (fun c_135 => ?_) (fun c_135 => ?_)
                                                      · exact absurd c_135 (fun q => q rfl)
                                                      · refine r_al0 (n := 139) dL_isSo_138 rfl ?_
                                                        refine r_bipush (v := 21) (n := 141) dL_isSo_139 (by decide) rfl ?_
                                                        refine cV_i (n := 144) (np := 1) (q_c c hv (w := 21) (X := M.1 10 11) rfl) gL_isSo_X3_count rfl (by decide +kernel) rfl (by decide) (by decide) (by omega) rfl rfl dL_isSo_141 rfl rfl (Nat.le_of_ble_eq_true rfl) ?_
                                                        refine r_al1 (n := 145) dL_isSo_144 rfl ?_
                                                        refine r_bipush (v := 11) (n := 147) dL_isSo_145 (by decide) rfl ?_
                                                        refine a_g (n := 148) (k := 11) (by decide) (by decide) dL_isSo_147 rfl ?_
                                                        refine r_icmp_ne (tgt := 181) (n := 151) dL_isSo_148 (by decide) rfl (fun c_148 => ?_) (fun c_148 => ?_)
                                                        · exact absurd c_148 (fun q => q rfl)
                                                        · refine r_al0 (n := 152) dL_isSo_151 rfl ?_
                                                          refine r_bipush (v := 22) (n := 154) dL_isSo_152 (by decide) rfl ?_
                                                          refine cV_i (n := 157) (np := 1) (q_c c hv (w := 22) (X := M.1 10 12) rfl) gL_isSo_X3_count rfl (by decide +kernel) rfl (by decide) (by decide) (by omega) rfl rfl dL_isSo_154 rfl rfl (Nat.le_of_ble_eq_true rfl) ?_
                                                          refine r_al1 (n := 158) dL_isSo_157 rfl ?_
                                                          refine r_bipush (v := 12) (n := 160) dL_isSo_158 (by decide) rfl ?_
                                                          refine a_g (n := 161) (k := 12) (by decide) (by decide) dL_isSo_160 rfl ?_
                                                          refine r_icmp_ne (tgt := 181) (n := 164) dL_isSo_161 (by decide) rfl (fun c_161 => ?_) (fun c_161 => ?_)
                                                          · exact absurd c_161 (fun q => q rfl)
                                                          · refine r_al0 (n := 165) dL_isSo_164 rfl ?_
                                                            refine r_bipush (v := 23) (n := 167) dL_isSo_165 (by decide) rfl ?_
                                                            refine cV_i (n := 170) (np := 1) (q_c c hv (w := 23) (X := M.1 10 13) rfl) gL_isSo_X3_count rfl (by decide +kernel) rfl (by decide) (by decide) (by omega) rfl rfl dL_isSo_167 rfl rfl (Nat.le_of_ble_eq_true rfl) ?_
                                                            refine r_al1 (n := 171) dL_isSo_170 rfl ?_
                                                            refine r_bipush (v := 13) (n := 173) dL_isSo_171 (by decide) rfl ?_
                                                            refine a_g (n := 174) (k := 13) (by decide) (by decide) dL_isSo_173 rfl ?_
                                                            refine r_icmp_ne (tgt := 181) (n := 177) dL_isSo_174 (by decide) rfl (fun c_174 => ?_) (fun c_174 => ?_)
                                                            · exact absurd c_174 (fun q => q rfl)
                                                            · refine r_iconst (v := 1) (n := 178) dL_isSo_177 (by decide) rfl ?_
                                                              refine r_goto (tgt := 182) dL_isSo_178 (by decide) ?_
                                                              exact e_z dL_isSo_182 rfl (by decide) rfl rfl
                                      · exact absurd c_14 (fun q => q (by decide))

end ASKS
