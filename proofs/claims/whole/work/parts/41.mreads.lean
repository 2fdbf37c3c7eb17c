/-! ===== the reference: one order ===== -/
section MTEXT2
variable {cA : Nat → ClassId} {ad : Nat → Nat} {D : va_G} {M : Mem}
set_option maxHeartbeats 4000000 in
set_option maxRecDepth 100000 in
theorem m_X4_reads {t s : Nat} (ht : M.1 9 2 = nI t) (h60 : t ≤ 60) (hs : M.1 9 3 = nI s) (hs2 : s < 60) : C_X4_reads cA ad D [.ref (ad 4)] M (Ri (bI (okB (chr (M.1 14) t) s)) (setp M 9 (rdV (M.1 9) (M.1 14) t s))) := by
  refine PM_of (lv := [some (.ref (ad 4)), none, none]) (by decide +kernel) rfl (Nat.le_of_ble_eq_true rfl) rfl ?_
  have K84 : isL (mor (M.1 14) t s) = true → P_X4_reads cA ad D 84 [some (.ref (ad 4)), none, none] [] (mput M 9 8 (mor (M.1 14) t s)) (Ri (bI (okB (chr (M.1 14) t) s)) (setp M 9 (rdV (M.1 9) (M.1 14) t s))) := by
    intro hL
    have hLc : isL (chr (M.1 14) t s) = true := by rw [← mor_L]; exact hL
    refine r_al0 (n := 85) dX4_reads_84 rfl ?_
    refine r_dup (n := 86) dX4_reads_85 rfl rfl ?_
    refine g_mo_spot (n := 89)  in_X4_reads_wsX40 k_X4_reads_132 dX4_reads_86 rfl ?_
    rw [mput_s, setp_at, upd_ne _ _ (by decide), hs]
    refine r_iconst (v := 1) (n := 90) dX4_reads_89 (by decide) rfl ?_
    refine r_iadd (n := 91) dX4_reads_90 rfl ?_
    rw [nI_1]
    refine p_mo_spot (n := 94)  in_X4_reads_wsX40 k_X4_reads_132 dX4_reads_91 rfl ?_
    refine r_al0 (n := 95) dX4_reads_94 rfl ?_
    refine g_mo_spot (n := 98)  in_X4_reads_wsX40 k_X4_reads_132 dX4_reads_95 rfl ?_
    rw [mput_at]
    refine r_is1 (n := 99) (by decide) rfl dX4_reads_98 rfl ?_
    refine r_al0 (n := 100) dX4_reads_99 rfl ?_
    refine r_iconst (v := 0) (n := 101) dX4_reads_100 (by decide) rfl ?_
    refine p_mo_number (n := 104)  in_X4_reads_wsX40 k_X4_reads_141 dX4_reads_101 rfl ?_
    rw [show mput (mput (setp M 9 (upd (M.1 9) 8 (mor (M.1 14) t s))) 9 3 (nI (s + 1))) 9 9 0 = setp M 9 (upd (upd (upd (M.1 9) 8 (mor (M.1 14) t s)) 3 (nI (s + 1 + 0))) 9 0) from by simp only [mput_s, setp_at, setp_2, Nat.add_zero]]
    refine l_X4_reads ht h60 (by omega) 3 0 rfl 0 ?_
    have hle := dgs_le (chr (M.1 14) t) s 3 0 0
    refine r_al0 (n := 163) dX4_reads_162 rfl ?_
    refine g_mo_spot (n := 166)  in_X4_reads_wsX40 k_X4_reads_132 dX4_reads_163 rfl ?_
    refine r_il1 (n := 167) dX4_reads_166 rfl ?_
    refine r_icmp_le (tgt := 185) (n := 170) dX4_reads_167 (by decide) rfl (fun c_167 => ?_) (fun c_167 => ?_)
    · rw [setp_at, upd_ne _ _ (by decide), upd_at] at c_167
      have hd0 : (dgs (chr (M.1 14) t) s 3 0 0).1 = 0 := by
        by_cases q : (dgs (chr (M.1 14) t) s 3 0 0).1 = 0
        · exact q
        · exact absurd c_167 (nI_ge (a := s + 1) (b := s + 1 + (dgs (chr (M.1 14) t) s 3 0 0).1) (by omega) (by omega))
      have hok : okB (chr (M.1 14) t) s = false := by rw [okB, if_pos hLc, if_pos hd0]
      refine r_iconst (v := 0) (n := 186) dX4_reads_185 (by decide) rfl ?_
      refine r_is2 (n := 187) (by decide) rfl dX4_reads_186 rfl ?_
      refine r_al0 (n := 188) dX4_reads_187 rfl ?_
      refine r_dup (n := 189) dX4_reads_188 rfl rfl ?_
      refine g_mo_spot (n := 192)  in_X4_reads_wsX40 k_X4_reads_132 dX4_reads_189 rfl ?_
      refine r_il2 (n := 193) dX4_reads_192 rfl ?_
      refine r_if_eq (tgt := 200) (n := 196) dX4_reads_193 (by decide) rfl (fun c_193 => ?_) (fun c_193 => ?_)
      · refine r_iconst (v := 0) (n := 201) dX4_reads_200 (by decide) rfl ?_
        refine r_iadd (n := 202) dX4_reads_201 rfl ?_
        refine p_mo_spot (n := 205)  in_X4_reads_wsX40 k_X4_reads_132 dX4_reads_202 rfl ?_
        refine r_il2 (n := 206) dX4_reads_205 rfl ?_
        exact e_z dX4_reads_206 rfl (by decide) (by rw [hok]; rfl) (by
        simp (disch := omega) only [mput_s, setp_at, setp_2, setp_ne, upd_at, upd_ne]
        rw [rdV, if_pos hL, hok]
        rw [upd_sw _ _ _ (show 9 ≠ 3 by decide), upd_2]
        rw [if_neg (by decide)]; rw [show nI (s + 1 + (dgs (chr (M.1 14) t) s 3 0 0).1) + 0 = nI (s + 1 + (dgs (chr (M.1 14) t) s 3 0 0).1) from Int32.add_zero _]; rfl)
      · exact absurd c_193 (fun q => q rfl)
    · rw [setp_at, upd_ne _ _ (by decide), upd_at] at c_167
      have hd0 : ¬ (dgs (chr (M.1 14) t) s 3 0 0).1 = 0 := fun q => c_167 (by rw [q]; exact Int32.le_refl _)
      refine r_al0 (n := 171) dX4_reads_170 rfl ?_
      refine r_bipush (v := 59) (n := 173) dX4_reads_171 (by decide) rfl ?_
      refine r_bipush (v := 59) (n := 175) dX4_reads_173 (by decide) rfl ?_
      refine cV_i (n := 178) (np := 2) (m_X4_isAt (t := t) (s := s + 1 + (dgs (chr (M.1 14) t) s 3 0 0).1) (by rw [setp_at, upd_ne _ _ (by decide), upd_ne _ _ (by decide), upd_ne _ _ (by decide)]; exact ht) h60 (by rw [setp_at, upd_ne _ _ (by decide), upd_at]) (by omega)) gX4_reads_X4_isAt rfl (by decide +kernel) rfl (by decide) (by decide) (by omega) rfl rfl dX4_reads_175 rfl rfl (Nat.le_of_ble_eq_true rfl) ?_
      rw [setp_ne _ _ (show 14 ≠ 9 by decide)]
      refine r_if_eq (tgt := 185) (n := 181) dX4_reads_178 (by decide) rfl (fun c_178 => ?_) (fun c_178 => ?_)
      · replace c_178 := bI_0 c_178
        have hok : okB (chr (M.1 14) t) s = false := by
          rw [okB, if_pos hLc, if_neg hd0]
          rw [mat_chr _ _ _ (by decide)] at c_178
          exact decide_eq_false fun q => by rw [rng_eq.mpr q] at c_178; cases c_178
        refine r_iconst (v := 0) (n := 186) dX4_reads_185 (by decide) rfl ?_
        refine r_is2 (n := 187) (by decide) rfl dX4_reads_186 rfl ?_
        refine r_al0 (n := 188) dX4_reads_187 rfl ?_
        refine r_dup (n := 189) dX4_reads_188 rfl rfl ?_
        refine g_mo_spot (n := 192)  in_X4_reads_wsX40 k_X4_reads_132 dX4_reads_189 rfl ?_
        refine r_il2 (n := 193) dX4_reads_192 rfl ?_
        refine r_if_eq (tgt := 200) (n := 196) dX4_reads_193 (by decide) rfl (fun c_193 => ?_) (fun c_193 => ?_)
        · refine r_iconst (v := 0) (n := 201) dX4_reads_200 (by decide) rfl ?_
          refine r_iadd (n := 202) dX4_reads_201 rfl ?_
          refine p_mo_spot (n := 205)  in_X4_reads_wsX40 k_X4_reads_132 dX4_reads_202 rfl ?_
          refine r_il2 (n := 206) dX4_reads_205 rfl ?_
          exact e_z dX4_reads_206 rfl (by decide) (by rw [hok]; rfl) (by
          simp (disch := omega) only [mput_s, setp_at, setp_2, setp_ne, upd_at, upd_ne]
          rw [rdV, if_pos hL, hok]
          rw [upd_sw _ _ _ (show 9 ≠ 3 by decide), upd_2]
          rw [if_neg (by decide)]; rw [show nI (s + 1 + (dgs (chr (M.1 14) t) s 3 0 0).1) + 0 = nI (s + 1 + (dgs (chr (M.1 14) t) s 3 0 0).1) from Int32.add_zero _]; rfl)
        · exact absurd c_193 (fun q => q rfl)
      · replace c_178 := bI_1 c_178
        have hok : okB (chr (M.1 14) t) s = true := by
          rw [okB, if_pos hLc, if_neg hd0]
          rw [mat_chr _ _ _ (by decide)] at c_178
          exact decide_eq_true (rng_eq.mp c_178)
        refine r_iconst (v := 1) (n := 182) dX4_reads_181 (by decide) rfl ?_
        refine r_goto (tgt := 186) dX4_reads_182 (by decide) ?_
        refine r_is2 (n := 187) (by decide) rfl dX4_reads_186 rfl ?_
        refine r_al0 (n := 188) dX4_reads_187 rfl ?_
        refine r_dup (n := 189) dX4_reads_188 rfl rfl ?_
        refine g_mo_spot (n := 192)  in_X4_reads_wsX40 k_X4_reads_132 dX4_reads_189 rfl ?_
        refine r_il2 (n := 193) dX4_reads_192 rfl ?_
        refine r_if_eq (tgt := 200) (n := 196) dX4_reads_193 (by decide) rfl (fun c_193 => ?_) (fun c_193 => ?_)
        · exact absurd c_193 (fun q => absurd q (by decide))
        · refine r_iconst (v := 1) (n := 197) dX4_reads_196 (by decide) rfl ?_
          refine r_goto (tgt := 201) dX4_reads_197 (by decide) ?_
          refine r_iadd (n := 202) dX4_reads_201 rfl ?_
          refine p_mo_spot (n := 205)  in_X4_reads_wsX40 k_X4_reads_132 dX4_reads_202 rfl ?_
          refine r_il2 (n := 206) dX4_reads_205 rfl ?_
          exact e_z dX4_reads_206 rfl (by decide) (by rw [hok]; rfl) (by
          simp (disch := omega) only [mput_s, setp_at, setp_2, setp_ne, upd_at, upd_ne]
          rw [rdV, if_pos hL, hok]
          rw [upd_sw _ _ _ (show 9 ≠ 3 by decide), upd_2]
          rw [if_pos rfl, nI_1])
  refine r_al0 (n := 1) dX4_reads_0 rfl ?_
  refine pw_mg (pcM := 25) (x := (mor (M.1 14) t s)) ?_ (fun K_25 => ?_)
  · refine p_mo_order (n := 28)  in_X4_reads_wsX40 k_X4_reads_138 dX4_reads_25 rfl ?_
    refine r_al0 (n := 29) dX4_reads_28 rfl ?_
    refine g_mo_order (n := 32)  in_X4_reads_wsX40 k_X4_reads_138 dX4_reads_29 rfl ?_
    refine r_bipush (v := 119) (n := 34) dX4_reads_32 (by decide) rfl ?_
    refine r_icmp_eq (tgt := 84) (n := 37) dX4_reads_34 (by decide) rfl (fun c_34 => ?_) (fun c_34 => ?_)
    · rw [mput_s, setp_at, upd_at] at c_34
      exact K84 (by rw [c_34]; decide)
    · rw [mput_s, setp_at, upd_at] at c_34
      refine r_al0 (n := 38) dX4_reads_37 rfl ?_
      refine g_mo_order (n := 41)  in_X4_reads_wsX40 k_X4_reads_138 dX4_reads_38 rfl ?_
      refine r_bipush (v := 98) (n := 43) dX4_reads_41 (by decide) rfl ?_
      refine r_icmp_eq (tgt := 84) (n := 46) dX4_reads_43 (by decide) rfl (fun c_43 => ?_) (fun c_43 => ?_)
      · rw [mput_s, setp_at, upd_at] at c_43
        exact K84 (by rw [c_43]; decide)
      · rw [mput_s, setp_at, upd_at] at c_43
        refine r_al0 (n := 47) dX4_reads_46 rfl ?_
        refine g_mo_order (n := 50)  in_X4_reads_wsX40 k_X4_reads_138 dX4_reads_47 rfl ?_
        refine r_bipush (v := 112) (n := 52) dX4_reads_50 (by decide) rfl ?_
        refine r_icmp_eq (tgt := 84) (n := 55) dX4_reads_52 (by decide) rfl (fun c_52 => ?_) (fun c_52 => ?_)
        · rw [mput_s, setp_at, upd_at] at c_52
          exact K84 (by rw [c_52]; decide)
        · rw [mput_s, setp_at, upd_at] at c_52
          refine r_al0 (n := 56) dX4_reads_55 rfl ?_
          refine g_mo_order (n := 59)  in_X4_reads_wsX40 k_X4_reads_138 dX4_reads_56 rfl ?_
          refine r_bipush (v := 104) (n := 61) dX4_reads_59 (by decide) rfl ?_
          refine r_icmp_eq (tgt := 84) (n := 64) dX4_reads_61 (by decide) rfl (fun c_61 => ?_) (fun c_61 => ?_)
          · rw [mput_s, setp_at, upd_at] at c_61
            exact K84 (by rw [c_61]; decide)
          · rw [mput_s, setp_at, upd_at] at c_61
            refine r_al0 (n := 65) dX4_reads_64 rfl ?_
            refine g_mo_order (n := 68)  in_X4_reads_wsX40 k_X4_reads_138 dX4_reads_65 rfl ?_
            refine r_bipush (v := 99) (n := 70) dX4_reads_68 (by decide) rfl ?_
            refine r_icmp_eq (tgt := 84) (n := 73) dX4_reads_70 (by decide) rfl (fun c_70 => ?_) (fun c_70 => ?_)
            · rw [mput_s, setp_at, upd_at] at c_70
              exact K84 (by rw [c_70]; decide)
            · rw [mput_s, setp_at, upd_at] at c_70
              refine r_al0 (n := 74) dX4_reads_73 rfl ?_
              refine g_mo_order (n := 77)  in_X4_reads_wsX40 k_X4_reads_138 dX4_reads_74 rfl ?_
              refine r_bipush (v := 100) (n := 79) dX4_reads_77 (by decide) rfl ?_
              refine r_icmp_eq (tgt := 84) (n := 82) dX4_reads_79 (by decide) rfl (fun c_79 => ?_) (fun c_79 => ?_)
              · rw [mput_s, setp_at, upd_at] at c_79
                exact K84 (by rw [c_79]; decide)
              · rw [mput_s, setp_at, upd_at] at c_79
                have hnl : isL (mor (M.1 14) t s) = false := by
                  cases h : isL (mor (M.1 14) t s)
                  · rfl
                  · rcases isL_of h with e | e | e | e | e | e
                    · exact absurd e c_34
                    · exact absurd e c_43
                    · exact absurd e c_52
                    · exact absurd e c_61
                    · exact absurd e c_70
                    · exact absurd e c_79
                refine r_iconst (v := 0) (n := 83) dX4_reads_82 (by decide) rfl ?_
                have hnl2 : isL (chr (M.1 14) t s) = false := by rw [← mor_L]; exact hnl
                exact e_z dX4_reads_83 rfl (by decide) (by rw [okB, hnl2]; rfl) (by rw [mput_s, rdV, hnl]; rfl)
  · refine r_al0 (n := 2) dX4_reads_1 rfl ?_
    refine r_bipush (v := 33) (n := 4) dX4_reads_2 (by decide) rfl ?_
    refine r_bipush (v := 126) (n := 6) dX4_reads_4 (by decide) rfl ?_
    refine cV_i (n := 9) (np := 2) (m_X4_isAt (t := t) (s := s) (ht) h60 (hs) (by omega)) gX4_reads_X4_isAt rfl (by decide +kernel) rfl (by decide) (by decide) (by omega) rfl rfl dX4_reads_6 rfl rfl (Nat.le_of_ble_eq_true rfl) ?_
    refine r_if_eq (tgt := 24) (n := 12) dX4_reads_9 (by decide) rfl (fun c_9 => ?_) (fun c_9 => ?_)
    · replace c_9 := bI_0 c_9
      refine r_iconst (v := 0) (n := 25) dX4_reads_24 (by decide) rfl ?_
      first
        | (rw [show mor (M.1 14) t s = 0 from by rw [mor, c_9]; rfl] at K_25; exact K_25)
        | (rw [show mor (M.1 14) t s = M.1 14 s from by rw [mor, if_pos c_9]] at K_25; exact K_25)
    · replace c_9 := bI_1 c_9
      refine r_al0 (n := 13) dX4_reads_12 rfl ?_
      refine g_mo_text (n := 16)  in_X4_reads_wsX40 k_X4_reads_22 dX4_reads_13 rfl ?_
      refine r_al0 (n := 17) dX4_reads_16 rfl ?_
      refine g_mo_spot (n := 20)  in_X4_reads_wsX40 k_X4_reads_132 dX4_reads_17 rfl ?_
      refine a_text (n := 21) (k := s) hs (by omega) dX4_reads_20 rfl ?_
      refine r_goto (tgt := 25) dX4_reads_21 (by decide) ?_
      first
        | (rw [show mor (M.1 14) t s = 0 from by rw [mor, c_9]; rfl] at K_25; exact K_25)
        | (rw [show mor (M.1 14) t s = M.1 14 s from by rw [mor, if_pos c_9]] at K_25; exact K_25)

end MTEXT2
