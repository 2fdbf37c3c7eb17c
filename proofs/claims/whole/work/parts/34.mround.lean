/-! ===== the reference: the next one, the nearest, rounds ===== -/
section MROUND
variable {cA : Nat → ClassId} {ad : Nat → Nat} {D : va_G} {M : Mem}
set_option maxHeartbeats 4000000 in
set_option maxRecDepth 100000 in
theorem m_X4_isAhead {k i : Nat} (hk : k < 8) (hi : i < 8) {x y : Int32} : C_X4_isAhead cA ad D [.ref (ad 4), .int (nI k), .int x, .int (nI i), .int y] M (Ri (iaS (M.1 10) k x i y) M) := by
  refine PM_of (lv := [some (.ref (ad 4)), some (.int (nI k)), some (.int x), some (.int (nI i)), some (.int y), none, none]) (by decide +kernel) rfl (Nat.le_of_ble_eq_true rfl) rfl ?_
  refine pw_mg (pcM := 11) (x := (dyS x)) ?_ (fun K_11 => ?_)
  · refine r_is5 (n := 13) (by decide) rfl dX4_isAhead_11 rfl ?_
    refine pw_mg (pcM := 26) (x := (dyS y)) ?_ (fun K_26 => ?_)
    · refine r_is6 (n := 28) (by decide) rfl dX4_isAhead_26 rfl ?_
      refine r_il5 (n := 30) dX4_isAhead_28 rfl ?_
      refine r_il6 (n := 32) dX4_isAhead_30 rfl ?_
      refine r_icmp_eq (tgt := 48) (n := 35) dX4_isAhead_32 (by decide) rfl (fun c_32 => ?_) (fun c_32 => ?_)
      · refine r_al0 (n := 49) dX4_isAhead_48 rfl ?_
        refine r_il1 (n := 50) dX4_isAhead_49 rfl ?_
        refine r_iconst (v := 2) (n := 51) dX4_isAhead_50 (by decide) rfl ?_
        refine cV_i (n := 54) (np := 2) (m_X4_of (k := k) (j := 2) hk (by decide)) gX4_isAhead_X4_of rfl (by decide +kernel) rfl (by decide) (by decide) (by omega) rfl rfl dX4_isAhead_51 rfl rfl (Nat.le_of_ble_eq_true rfl) ?_
        refine r_al0 (n := 55) dX4_isAhead_54 rfl ?_
        refine r_il3 (n := 56) dX4_isAhead_55 rfl ?_
        refine r_iconst (v := 2) (n := 57) dX4_isAhead_56 (by decide) rfl ?_
        refine cV_i (n := 60) (np := 2) (m_X4_of (k := i) (j := 2) hi (by decide)) gX4_isAhead_X4_of rfl (by decide +kernel) rfl (by decide) (by decide) (by omega) rfl rfl dX4_isAhead_57 rfl rfl (Nat.le_of_ble_eq_true rfl) ?_
        refine r_icmp_eq (tgt := 84) (n := 63) dX4_isAhead_60 (by decide) rfl (fun c_60 => ?_) (fun c_60 => ?_)
        · refine r_al0 (n := 85) dX4_isAhead_84 rfl ?_
          refine r_il1 (n := 86) dX4_isAhead_85 rfl ?_
          refine r_iconst (v := 0) (n := 87) dX4_isAhead_86 (by decide) rfl ?_
          refine cV_i (n := 90) (np := 2) (m_X4_of (k := k) (j := 0) hk (by decide)) gX4_isAhead_X4_of rfl (by decide +kernel) rfl (by decide) (by decide) (by omega) rfl rfl dX4_isAhead_87 rfl rfl (Nat.le_of_ble_eq_true rfl) ?_
          rw [Nat.add_zero]
          refine r_al0 (n := 91) dX4_isAhead_90 rfl ?_
          refine g_mo_s (n := 94)  in_X4_isAhead_wsX40 k_X4_isAhead_7 dX4_isAhead_91 rfl ?_
          refine r_iconst (v := 2) (n := 95) dX4_isAhead_94 (by decide) rfl ?_
          refine a_s (n := 96) (k := 2) (by decide) (by decide) dX4_isAhead_95 rfl ?_
          refine r_isub (n := 97) dX4_isAhead_96 rfl ?_
          refine cS_i (n := 100) (np := 1) (m_X4_size) gX4_isAhead_X4_size rfl (by decide +kernel) rfl (by decide) (by decide) dX4_isAhead_97 rfl rfl (Nat.le_of_ble_eq_true rfl) ?_
          refine r_al0 (n := 101) dX4_isAhead_100 rfl ?_
          refine r_il3 (n := 102) dX4_isAhead_101 rfl ?_
          refine r_iconst (v := 0) (n := 103) dX4_isAhead_102 (by decide) rfl ?_
          refine cV_i (n := 106) (np := 2) (m_X4_of (k := i) (j := 0) hi (by decide)) gX4_isAhead_X4_of rfl (by decide +kernel) rfl (by decide) (by decide) (by omega) rfl rfl dX4_isAhead_103 rfl rfl (Nat.le_of_ble_eq_true rfl) ?_
          rw [Nat.add_zero]
          refine r_al0 (n := 107) dX4_isAhead_106 rfl ?_
          refine g_mo_s (n := 110)  in_X4_isAhead_wsX40 k_X4_isAhead_7 dX4_isAhead_107 rfl ?_
          refine r_iconst (v := 2) (n := 111) dX4_isAhead_110 (by decide) rfl ?_
          refine a_s (n := 112) (k := 2) (by decide) (by decide) dX4_isAhead_111 rfl ?_
          refine r_isub (n := 113) dX4_isAhead_112 rfl ?_
          refine cS_i (n := 116) (np := 1) (m_X4_size) gX4_isAhead_X4_size rfl (by decide +kernel) rfl (by decide) (by decide) dX4_isAhead_113 rfl rfl (Nat.le_of_ble_eq_true rfl) ?_
          refine r_icmp_ge (tgt := 123) (n := 119) dX4_isAhead_116 (by decide) rfl (fun c_116 => ?_) (fun c_116 => ?_)
          · refine r_iconst (v := 0) (n := 124) dX4_isAhead_123 (by decide) rfl ?_
            exact e_z dX4_isAhead_124 rfl (by decide) (by simp only [iaS, aeS, *, if_true, if_false]) rfl
          · refine r_iconst (v := 1) (n := 120) dX4_isAhead_119 (by decide) rfl ?_
            refine r_goto (tgt := 124) dX4_isAhead_120 (by decide) ?_
            exact e_z dX4_isAhead_124 rfl (by decide) (by simp only [iaS, aeS, *, if_true, if_false]) rfl
        · refine r_al0 (n := 64) dX4_isAhead_63 rfl ?_
          refine r_il1 (n := 65) dX4_isAhead_64 rfl ?_
          refine r_iconst (v := 2) (n := 66) dX4_isAhead_65 (by decide) rfl ?_
          refine cV_i (n := 69) (np := 2) (m_X4_of (k := k) (j := 2) hk (by decide)) gX4_isAhead_X4_of rfl (by decide +kernel) rfl (by decide) (by decide) (by omega) rfl rfl dX4_isAhead_66 rfl rfl (Nat.le_of_ble_eq_true rfl) ?_
          refine r_al0 (n := 70) dX4_isAhead_69 rfl ?_
          refine r_il3 (n := 71) dX4_isAhead_70 rfl ?_
          refine r_iconst (v := 2) (n := 72) dX4_isAhead_71 (by decide) rfl ?_
          refine cV_i (n := 75) (np := 2) (m_X4_of (k := i) (j := 2) hi (by decide)) gX4_isAhead_X4_of rfl (by decide +kernel) rfl (by decide) (by decide) (by omega) rfl rfl dX4_isAhead_72 rfl rfl (Nat.le_of_ble_eq_true rfl) ?_
          refine r_icmp_le (tgt := 82) (n := 78) dX4_isAhead_75 (by decide) rfl (fun c_75 => ?_) (fun c_75 => ?_)
          · refine r_iconst (v := 0) (n := 83) dX4_isAhead_82 (by decide) rfl ?_
            exact e_z dX4_isAhead_83 rfl (by decide) (by simp only [iaS, aeS, *, if_true, if_false]) rfl
          · refine r_iconst (v := 1) (n := 79) dX4_isAhead_78 (by decide) rfl ?_
            refine r_goto (tgt := 83) dX4_isAhead_79 (by decide) ?_
            exact e_z dX4_isAhead_83 rfl (by decide) (by simp only [iaS, aeS, *, if_true, if_false]) rfl
      · refine r_il5 (n := 37) dX4_isAhead_35 rfl ?_
        refine r_il6 (n := 39) dX4_isAhead_37 rfl ?_
        refine r_icmp_ge (tgt := 46) (n := 42) dX4_isAhead_39 (by decide) rfl (fun c_39 => ?_) (fun c_39 => ?_)
        · refine r_iconst (v := 0) (n := 47) dX4_isAhead_46 (by decide) rfl ?_
          exact e_z dX4_isAhead_47 rfl (by decide) (by simp only [iaS, aeS, *, if_true, if_false]) rfl
        · refine r_iconst (v := 1) (n := 43) dX4_isAhead_42 (by decide) rfl ?_
          refine r_goto (tgt := 47) dX4_isAhead_43 (by decide) ?_
          exact e_z dX4_isAhead_47 rfl (by decide) (by simp only [iaS, aeS, *, if_true, if_false]) rfl
    · refine r_il4 (n := 15) dX4_isAhead_13 rfl ?_
      refine r_if_ge (tgt := 24) (n := 18) dX4_isAhead_15 (by decide) rfl (fun c_15 => ?_) (fun c_15 => ?_)
      · refine r_il4 (n := 26) dX4_isAhead_24 rfl ?_
        first
          | (rw [show dyS y = y from if_pos c_15] at K_26; exact K_26)
          | (rw [show dyS y = 201 from if_neg c_15] at K_26; exact K_26)
      · refine r_sipush (v := 201) (n := 21) dX4_isAhead_18 (by decide) rfl ?_
        refine r_goto (tgt := 26) dX4_isAhead_21 (by decide) ?_
        first
          | (rw [show dyS y = y from if_pos c_15] at K_26; exact K_26)
          | (rw [show dyS y = 201 from if_neg c_15] at K_26; exact K_26)
  · refine r_il2 (n := 1) dX4_isAhead_0 rfl ?_
    refine r_if_ge (tgt := 10) (n := 4) dX4_isAhead_1 (by decide) rfl (fun c_1 => ?_) (fun c_1 => ?_)
    · refine r_il2 (n := 11) dX4_isAhead_10 rfl ?_
      first
        | (rw [show dyS x = x from if_pos c_1] at K_11; exact K_11)
        | (rw [show dyS x = 201 from if_neg c_1] at K_11; exact K_11)
    · refine r_sipush (v := 201) (n := 7) dX4_isAhead_4 (by decide) rfl ?_
      refine r_goto (tgt := 11) dX4_isAhead_7 (by decide) ?_
      first
        | (rw [show dyS x = x from if_pos c_1] at K_11; exact K_11)
        | (rw [show dyS x = 201 from if_neg c_1] at K_11; exact K_11)

set_option maxHeartbeats 4000000 in
set_option maxRecDepth 100000 in
theorem l_X4_next {N : Nat} (hN : M.1 10 0 = nI N) (h8 : N ≤ 8) : ∀ (m i : Nat), i + m = N → ∀ (T : Vec), P_X4_next cA ad D 7 [some (.ref (ad 4)), some (.int (nxI (nxM (M.1 10) i).1)), some (.int (nxM (M.1 10) i).2), some (.int (nI i)), none, none] [] (setp M 13 T) (QR (nxI (nxM (M.1 10) N).1) (fun M' => ∃ T', M' = setp M 13 T')) := by
  intro m
  induction m with
  | zero =>
    intro i hi T
    have hi2 : i = N := by omega
    subst hi2
    refine r_il3 (n := 8) dX4_next_7 rfl ?_
    refine r_al0 (n := 9) dX4_next_8 rfl ?_
    refine g_mo_s (n := 12)  in_X4_next_wsX40 k_X4_next_7 dX4_next_9 rfl ?_
    refine r_iconst (v := 0) (n := 13) dX4_next_12 (by decide) rfl ?_
    refine a_s (n := 14) (k := 0) (by decide) (by decide) dX4_next_13 rfl ?_
    refine r_icmp_ge (tgt := 85) (n := 17) dX4_next_14 (by decide) rfl (fun c_14 => ?_) (fun c_14 => ?_)
    · refine r_il1 (n := 86) dX4_next_85 rfl ?_
      exact e_q dX4_next_86 rfl rfl ⟨T, rfl⟩
    · exact absurd c_14 (fun q => q (by rw [setp_ne _ _ (by decide), hN]; exact nI_le (Nat.le_refl _) (by omega)))
  | succ m ih =>
    intro i hi T
    cases hq : nxM (M.1 10) i with
    | mk ob y =>
    cases ob with
    | none =>
      simp only [nxI]
      refine r_il3 (n := 8) dX4_next_7 rfl ?_
      refine r_al0 (n := 9) dX4_next_8 rfl ?_
      refine g_mo_s (n := 12)  in_X4_next_wsX40 k_X4_next_7 dX4_next_9 rfl ?_
      refine r_iconst (v := 0) (n := 13) dX4_next_12 (by decide) rfl ?_
      refine a_s (n := 14) (k := 0) (by decide) (by decide) dX4_next_13 rfl ?_
      refine r_icmp_ge (tgt := 85) (n := 17) dX4_next_14 (by decide) rfl (fun c_14 => ?_) (fun c_14 => ?_)
      · exact absurd c_14 (by rw [setp_ne _ _ (by decide), hN]; exact nI_ge (by omega) (by omega))
      · refine r_al0 (n := 18) dX4_next_17 rfl ?_
        refine r_il3 (n := 19) dX4_next_18 rfl ?_
        refine cV_i (n := 22) (np := 1) (m_X4_coldDays (k := i) (by omega)) gX4_next_X4_coldDays rfl (by decide +kernel) rfl (by decide) (by decide) (by omega) rfl rfl dX4_next_19 rfl rfl (Nat.le_of_ble_eq_true rfl) ?_
        try simp only [setp_2, setp_ne _ _ (show 10 ≠ 13 by decide), setp_at]
        refine r_is4 (n := 24) (by decide) rfl dX4_next_22 rfl ?_
        refine r_al0 (n := 25) dX4_next_24 rfl ?_
        refine r_il3 (n := 26) dX4_next_25 rfl ?_
        refine r_iconst (v := 2) (n := 27) dX4_next_26 (by decide) rfl ?_
        refine cV_i (n := 30) (np := 2) (m_X4_of (k := i) (j := 2) (by omega) (by decide)) gX4_next_X4_of rfl (by decide +kernel) rfl (by decide) (by decide) (by omega) rfl rfl dX4_next_27 rfl rfl (Nat.le_of_ble_eq_true rfl) ?_
        refine r_if_le (tgt := 53) (n := 33) dX4_next_30 (by decide) rfl (fun c_30 => ?_) (fun c_30 => ?_)
        · try simp only [setp_ne _ _ (show 10 ≠ 13 by decide)] at c_30
          try simp only [setp_ne _ _ (show 10 ≠ 13 by decide)] at c_30
          refine r_iconst (v := 0) (n := 54) dX4_next_53 (by decide) rfl ?_
          refine r_is5 (n := 56) (by decide) rfl dX4_next_54 rfl ?_
          refine r_il5 (n := 58) dX4_next_56 rfl ?_
          refine r_if_eq (tgt := 65) (n := 61) dX4_next_58 (by decide) rfl (fun c_58 => ?_) (fun c_58 => ?_)
          · refine r_il1 (n := 66) dX4_next_65 rfl ?_
            refine r_is1 (n := 67) (by decide) rfl dX4_next_66 rfl ?_
            refine r_il5 (n := 69) dX4_next_67 rfl ?_
            refine r_if_eq (tgt := 77) (n := 72) dX4_next_69 (by decide) rfl (fun c_69 => ?_) (fun c_69 => ?_)
            · refine r_il2 (n := 78) dX4_next_77 rfl ?_
              refine r_is2 (n := 79) (by decide) rfl dX4_next_78 rfl ?_
              refine r_ii3 (n := 82) (by decide) rfl dX4_next_79 (nI_inc _) rfl ?_
              refine r_goto (tgt := 7) dX4_next_82 (by decide) ?_
              refine r_dr4 ?_
              refine r_dr5 ?_
              have h := ih (i + 1) (by omega) (cpN T (M.1 10) 78)
              simp only [nxM, hq, if_pos c_30, c_30, if_true, if_false] at h
              try simp only [setp_2, setp_ne _ _ (show 10 ≠ 13 by decide), setp_at]
              exact h
            · exact absurd c_69 (fun q => q rfl)
          · exact absurd c_58 (fun q => q rfl)
        · try simp only [setp_ne _ _ (show 10 ≠ 13 by decide)] at c_30
          refine r_il1 (n := 34) dX4_next_33 rfl ?_
          refine r_if_lt (tgt := 49) (n := 37) dX4_next_34 (by decide) rfl (fun c_34 => ?_) (fun c_34 => ?_)
          · refine r_iconst (v := 1) (n := 50) dX4_next_49 (by decide) rfl ?_
            refine r_goto (tgt := 54) dX4_next_50 (by decide) ?_
            refine r_is5 (n := 56) (by decide) rfl dX4_next_54 rfl ?_
            refine r_il5 (n := 58) dX4_next_56 rfl ?_
            refine r_if_eq (tgt := 65) (n := 61) dX4_next_58 (by decide) rfl (fun c_58 => ?_) (fun c_58 => ?_)
            · exact absurd c_58 (by decide)
            · refine r_il3 (n := 62) dX4_next_61 rfl ?_
              refine r_goto (tgt := 66) dX4_next_62 (by decide) ?_
              refine r_is1 (n := 67) (by decide) rfl dX4_next_66 rfl ?_
              refine r_il5 (n := 69) dX4_next_67 rfl ?_
              refine r_if_eq (tgt := 77) (n := 72) dX4_next_69 (by decide) rfl (fun c_69 => ?_) (fun c_69 => ?_)
              · exact absurd c_69 (by decide)
              · refine r_il4 (n := 74) dX4_next_72 rfl ?_
                refine r_goto (tgt := 78) dX4_next_74 (by decide) ?_
                refine r_is2 (n := 79) (by decide) rfl dX4_next_78 rfl ?_
                refine r_ii3 (n := 82) (by decide) rfl dX4_next_79 (nI_inc _) rfl ?_
                refine r_goto (tgt := 7) dX4_next_82 (by decide) ?_
                refine r_dr4 ?_
                refine r_dr5 ?_
                have h := ih (i + 1) (by omega) (cpN T (M.1 10) 78)
                simp only [nxM, hq, if_neg c_30, c_30, if_true, if_false] at h
                try simp only [setp_2, setp_ne _ _ (show 10 ≠ 13 by decide), setp_at]
                exact h
          · exact absurd c_34 (fun q => q (by decide))
    | some b =>
      simp only [nxI]
      refine r_il3 (n := 8) dX4_next_7 rfl ?_
      refine r_al0 (n := 9) dX4_next_8 rfl ?_
      refine g_mo_s (n := 12)  in_X4_next_wsX40 k_X4_next_7 dX4_next_9 rfl ?_
      refine r_iconst (v := 0) (n := 13) dX4_next_12 (by decide) rfl ?_
      refine a_s (n := 14) (k := 0) (by decide) (by decide) dX4_next_13 rfl ?_
      refine r_icmp_ge (tgt := 85) (n := 17) dX4_next_14 (by decide) rfl (fun c_14 => ?_) (fun c_14 => ?_)
      · exact absurd c_14 (by rw [setp_ne _ _ (by decide), hN]; exact nI_ge (by omega) (by omega))
      · refine r_al0 (n := 18) dX4_next_17 rfl ?_
        refine r_il3 (n := 19) dX4_next_18 rfl ?_
        refine cV_i (n := 22) (np := 1) (m_X4_coldDays (k := i) (by omega)) gX4_next_X4_coldDays rfl (by decide +kernel) rfl (by decide) (by decide) (by omega) rfl rfl dX4_next_19 rfl rfl (Nat.le_of_ble_eq_true rfl) ?_
        try simp only [setp_2, setp_ne _ _ (show 10 ≠ 13 by decide), setp_at]
        refine r_is4 (n := 24) (by decide) rfl dX4_next_22 rfl ?_
        refine r_al0 (n := 25) dX4_next_24 rfl ?_
        refine r_il3 (n := 26) dX4_next_25 rfl ?_
        refine r_iconst (v := 2) (n := 27) dX4_next_26 (by decide) rfl ?_
        refine cV_i (n := 30) (np := 2) (m_X4_of (k := i) (j := 2) (by omega) (by decide)) gX4_next_X4_of rfl (by decide +kernel) rfl (by decide) (by decide) (by omega) rfl rfl dX4_next_27 rfl rfl (Nat.le_of_ble_eq_true rfl) ?_
        refine r_if_le (tgt := 53) (n := 33) dX4_next_30 (by decide) rfl (fun c_30 => ?_) (fun c_30 => ?_)
        · try simp only [setp_ne _ _ (show 10 ≠ 13 by decide)] at c_30
          try simp only [setp_ne _ _ (show 10 ≠ 13 by decide)] at c_30
          refine r_iconst (v := 0) (n := 54) dX4_next_53 (by decide) rfl ?_
          refine r_is5 (n := 56) (by decide) rfl dX4_next_54 rfl ?_
          refine r_il5 (n := 58) dX4_next_56 rfl ?_
          refine r_if_eq (tgt := 65) (n := 61) dX4_next_58 (by decide) rfl (fun c_58 => ?_) (fun c_58 => ?_)
          · refine r_il1 (n := 66) dX4_next_65 rfl ?_
            refine r_is1 (n := 67) (by decide) rfl dX4_next_66 rfl ?_
            refine r_il5 (n := 69) dX4_next_67 rfl ?_
            refine r_if_eq (tgt := 77) (n := 72) dX4_next_69 (by decide) rfl (fun c_69 => ?_) (fun c_69 => ?_)
            · refine r_il2 (n := 78) dX4_next_77 rfl ?_
              refine r_is2 (n := 79) (by decide) rfl dX4_next_78 rfl ?_
              refine r_ii3 (n := 82) (by decide) rfl dX4_next_79 (nI_inc _) rfl ?_
              refine r_goto (tgt := 7) dX4_next_82 (by decide) ?_
              refine r_dr4 ?_
              refine r_dr5 ?_
              have h := ih (i + 1) (by omega) (cpN T (M.1 10) 78)
              simp only [nxM, hq, c_30, if_true, if_false] at h
              try simp only [setp_2, setp_ne _ _ (show 10 ≠ 13 by decide), setp_at]
              exact h
            · exact absurd c_69 (fun q => q rfl)
          · exact absurd c_58 (fun q => q rfl)
        · try simp only [setp_ne _ _ (show 10 ≠ 13 by decide)] at c_30
          refine r_il1 (n := 34) dX4_next_33 rfl ?_
          refine r_if_lt (tgt := 49) (n := 37) dX4_next_34 (by decide) rfl (fun c_34 => ?_) (fun c_34 => ?_)
          · exact absurd c_34 (nI_pos (by have := nxM_lt _ _ _ _ hq; omega))
          · refine r_al0 (n := 38) dX4_next_37 rfl ?_
            refine r_il3 (n := 39) dX4_next_38 rfl ?_
            refine r_il4 (n := 41) dX4_next_39 rfl ?_
            refine r_il1 (n := 42) dX4_next_41 rfl ?_
            refine r_il2 (n := 43) dX4_next_42 rfl ?_
            refine cV_i (n := 46) (np := 4) (m_X4_isAhead (by omega) (by have := nxM_lt _ _ _ _ hq; omega)) gX4_next_X4_isAhead rfl (by decide +kernel) rfl (by decide) (by decide) (by omega) rfl rfl dX4_next_43 rfl rfl (Nat.le_of_ble_eq_true rfl) ?_
            refine r_if_eq (tgt := 53) (n := 49) dX4_next_46 (by decide) rfl (fun c_46 => ?_) (fun c_46 => ?_)
            · try simp only [setp_ne _ _ (show 10 ≠ 13 by decide)] at c_46
              try simp only [setp_ne _ _ (show 10 ≠ 13 by decide)] at c_46
              refine r_iconst (v := 0) (n := 54) dX4_next_53 (by decide) rfl ?_
              refine r_is5 (n := 56) (by decide) rfl dX4_next_54 rfl ?_
              refine r_il5 (n := 58) dX4_next_56 rfl ?_
              refine r_if_eq (tgt := 65) (n := 61) dX4_next_58 (by decide) rfl (fun c_58 => ?_) (fun c_58 => ?_)
              · refine r_il1 (n := 66) dX4_next_65 rfl ?_
                refine r_is1 (n := 67) (by decide) rfl dX4_next_66 rfl ?_
                refine r_il5 (n := 69) dX4_next_67 rfl ?_
                refine r_if_eq (tgt := 77) (n := 72) dX4_next_69 (by decide) rfl (fun c_69 => ?_) (fun c_69 => ?_)
                · refine r_il2 (n := 78) dX4_next_77 rfl ?_
                  refine r_is2 (n := 79) (by decide) rfl dX4_next_78 rfl ?_
                  refine r_ii3 (n := 82) (by decide) rfl dX4_next_79 (nI_inc _) rfl ?_
                  refine r_goto (tgt := 7) dX4_next_82 (by decide) ?_
                  refine r_dr4 ?_
                  refine r_dr5 ?_
                  have h := ih (i + 1) (by omega) (cpN T (M.1 10) 78)
                  simp only [nxM, hq, c_30, c_46, if_true, if_false] at h
                  try simp only [setp_2, setp_ne _ _ (show 10 ≠ 13 by decide), setp_at]
                  exact h
                · exact absurd c_69 (fun q => q rfl)
              · exact absurd c_58 (fun q => q rfl)
            · try simp only [setp_ne _ _ (show 10 ≠ 13 by decide)] at c_46
              refine r_iconst (v := 1) (n := 50) dX4_next_49 (by decide) rfl ?_
              refine r_goto (tgt := 54) dX4_next_50 (by decide) ?_
              refine r_is5 (n := 56) (by decide) rfl dX4_next_54 rfl ?_
              refine r_il5 (n := 58) dX4_next_56 rfl ?_
              refine r_if_eq (tgt := 65) (n := 61) dX4_next_58 (by decide) rfl (fun c_58 => ?_) (fun c_58 => ?_)
              · exact absurd c_58 (by decide)
              · refine r_il3 (n := 62) dX4_next_61 rfl ?_
                refine r_goto (tgt := 66) dX4_next_62 (by decide) ?_
                refine r_is1 (n := 67) (by decide) rfl dX4_next_66 rfl ?_
                refine r_il5 (n := 69) dX4_next_67 rfl ?_
                refine r_if_eq (tgt := 77) (n := 72) dX4_next_69 (by decide) rfl (fun c_69 => ?_) (fun c_69 => ?_)
                · exact absurd c_69 (by decide)
                · refine r_il4 (n := 74) dX4_next_72 rfl ?_
                  refine r_goto (tgt := 78) dX4_next_74 (by decide) ?_
                  refine r_is2 (n := 79) (by decide) rfl dX4_next_78 rfl ?_
                  refine r_ii3 (n := 82) (by decide) rfl dX4_next_79 (nI_inc _) rfl ?_
                  refine r_goto (tgt := 7) dX4_next_82 (by decide) ?_
                  refine r_dr4 ?_
                  refine r_dr5 ?_
                  have h := ih (i + 1) (by omega) (cpN T (M.1 10) 78)
                  simp only [nxM, hq, c_30, c_46, if_true, if_false] at h
                  try simp only [setp_2, setp_ne _ _ (show 10 ≠ 13 by decide), setp_at]
                  exact h

set_option maxHeartbeats 4000000 in
set_option maxRecDepth 100000 in
theorem m_X4_next {N : Nat} (hN : M.1 10 0 = nI N) (h8 : N ≤ 8) : C_X4_next cA ad D [.ref (ad 4)] M (QR (nxI (nxM (M.1 10) N).1) (fun M' => ∃ T', M' = setp M 13 T')) := by
  refine PM_of (lv := [some (.ref (ad 4)), none, none, none, none, none]) (by decide +kernel) rfl (Nat.le_of_ble_eq_true rfl) rfl ?_
  refine r_ldc (n := 2) dX4_next_0 k_X4_next_109 rfl ?_
  refine r_is1 (n := 3) (by decide) rfl dX4_next_2 rfl ?_
  refine r_iconst (v := 0) (n := 4) dX4_next_3 (by decide) rfl ?_
  refine r_is2 (n := 5) (by decide) rfl dX4_next_4 rfl ?_
  refine r_iconst (v := 0) (n := 6) dX4_next_5 (by decide) rfl ?_
  refine r_is3 (n := 7) (by decide) rfl dX4_next_6 rfl ?_
  refine pw_mem (setp_self M 13).symm ?_
  exact l_X4_next hN h8 N 0 (by omega) (M.1 13)

set_option maxHeartbeats 4000000 in
set_option maxRecDepth 100000 in
theorem l_X4_nearest {N : Nat} (hN : M.1 10 0 = nI N) (h8 : N ≤ 8) {s : Int32} : ∀ (m i : Nat), i + m = N → P_X4_nearest cA ad D 5 [some (.ref (ad 4)), some (.int s), some (.int (nxI (neM (M.1 10) s i))), some (.int (nI i)), none] [] M (Ri (nxI (neM (M.1 10) s N)) M) := by
  intro m
  induction m with
  | zero =>
    intro i hi
    have hi2 : i = N := by omega
    subst hi2
    refine r_il3 (n := 6) dX4_nearest_5 rfl ?_
    refine r_al0 (n := 7) dX4_nearest_6 rfl ?_
    refine g_mo_s (n := 10)  in_X4_nearest_wsX40 k_X4_nearest_7 dX4_nearest_7 rfl ?_
    refine r_iconst (v := 0) (n := 11) dX4_nearest_10 (by decide) rfl ?_
    refine a_s (n := 12) (k := 0) (by decide) (by decide) dX4_nearest_11 rfl ?_
    refine r_icmp_ge (tgt := 67) (n := 15) dX4_nearest_12 (by decide) rfl (fun c_12 => ?_) (fun c_12 => ?_)
    · refine r_il2 (n := 68) dX4_nearest_67 rfl ?_
      exact e_i dX4_nearest_68 rfl rfl rfl
    · exact absurd c_12 (fun q => q (by rw [hN]; exact nI_le (Nat.le_refl _) (by omega)))
  | succ m ih =>
    intro i hi
    cases hq : neM (M.1 10) s i with
    | none =>
      simp only [nxI]
      refine r_il3 (n := 6) dX4_nearest_5 rfl ?_
      refine r_al0 (n := 7) dX4_nearest_6 rfl ?_
      refine g_mo_s (n := 10)  in_X4_nearest_wsX40 k_X4_nearest_7 dX4_nearest_7 rfl ?_
      refine r_iconst (v := 0) (n := 11) dX4_nearest_10 (by decide) rfl ?_
      refine a_s (n := 12) (k := 0) (by decide) (by decide) dX4_nearest_11 rfl ?_
      refine r_icmp_ge (tgt := 67) (n := 15) dX4_nearest_12 (by decide) rfl (fun c_12 => ?_) (fun c_12 => ?_)
      · exact absurd c_12 (by rw [hN]; exact nI_ge (by omega) (by omega))
      · refine r_il1 (n := 16) dX4_nearest_15 rfl ?_
        refine r_il3 (n := 17) dX4_nearest_16 rfl ?_
        refine r_ishr (n := 18) dX4_nearest_17 rfl ?_
        refine r_iconst (v := 1) (n := 19) dX4_nearest_18 (by decide) rfl ?_
        refine r_iand (n := 20) dX4_nearest_19 rfl ?_
        refine r_iconst (v := 1) (n := 21) dX4_nearest_20 (by decide) rfl ?_
        refine r_icmp_ne (tgt := 47) (n := 24) dX4_nearest_21 (by decide) rfl (fun c_21 => ?_) (fun c_21 => ?_)
        · refine r_iconst (v := 0) (n := 48) dX4_nearest_47 (by decide) rfl ?_
          refine r_is4 (n := 50) (by decide) rfl dX4_nearest_48 rfl ?_
          refine r_il4 (n := 52) dX4_nearest_50 rfl ?_
          refine r_if_eq (tgt := 59) (n := 55) dX4_nearest_52 (by decide) rfl (fun c_52 => ?_) (fun c_52 => ?_)
          · refine r_il2 (n := 60) dX4_nearest_59 rfl ?_
            refine r_is2 (n := 61) (by decide) rfl dX4_nearest_60 rfl ?_
            refine r_ii3 (n := 64) (by decide) rfl dX4_nearest_61 (nI_inc _) rfl ?_
            refine r_goto (tgt := 5) dX4_nearest_64 (by decide) ?_
            refine r_dr4 ?_
            have h := ih (i + 1) (by omega)
            simp only [neM, hq, if_neg c_21, if_true, if_false] at h
            exact h
          · exact absurd c_52 (fun q => q rfl)
        · refine r_il2 (n := 25) dX4_nearest_24 rfl ?_
          refine r_if_lt (tgt := 43) (n := 28) dX4_nearest_25 (by decide) rfl (fun c_25 => ?_) (fun c_25 => ?_)
          · refine r_iconst (v := 1) (n := 44) dX4_nearest_43 (by decide) rfl ?_
            refine r_goto (tgt := 48) dX4_nearest_44 (by decide) ?_
            refine r_is4 (n := 50) (by decide) rfl dX4_nearest_48 rfl ?_
            refine r_il4 (n := 52) dX4_nearest_50 rfl ?_
            refine r_if_eq (tgt := 59) (n := 55) dX4_nearest_52 (by decide) rfl (fun c_52 => ?_) (fun c_52 => ?_)
            · exact absurd c_52 (by decide)
            · refine r_il3 (n := 56) dX4_nearest_55 rfl ?_
              refine r_goto (tgt := 60) dX4_nearest_56 (by decide) ?_
              refine r_is2 (n := 61) (by decide) rfl dX4_nearest_60 rfl ?_
              refine r_ii3 (n := 64) (by decide) rfl dX4_nearest_61 (nI_inc _) rfl ?_
              refine r_goto (tgt := 5) dX4_nearest_64 (by decide) ?_
              refine r_dr4 ?_
              have h := ih (i + 1) (by omega)
              simp only [neM, hq, if_pos c_21, if_true, if_false] at h
              exact h
          · exact absurd c_25 (fun q => q (by decide))
    | some b =>
      simp only [nxI]
      refine r_il3 (n := 6) dX4_nearest_5 rfl ?_
      refine r_al0 (n := 7) dX4_nearest_6 rfl ?_
      refine g_mo_s (n := 10)  in_X4_nearest_wsX40 k_X4_nearest_7 dX4_nearest_7 rfl ?_
      refine r_iconst (v := 0) (n := 11) dX4_nearest_10 (by decide) rfl ?_
      refine a_s (n := 12) (k := 0) (by decide) (by decide) dX4_nearest_11 rfl ?_
      refine r_icmp_ge (tgt := 67) (n := 15) dX4_nearest_12 (by decide) rfl (fun c_12 => ?_) (fun c_12 => ?_)
      · exact absurd c_12 (by rw [hN]; exact nI_ge (by omega) (by omega))
      · refine r_il1 (n := 16) dX4_nearest_15 rfl ?_
        refine r_il3 (n := 17) dX4_nearest_16 rfl ?_
        refine r_ishr (n := 18) dX4_nearest_17 rfl ?_
        refine r_iconst (v := 1) (n := 19) dX4_nearest_18 (by decide) rfl ?_
        refine r_iand (n := 20) dX4_nearest_19 rfl ?_
        refine r_iconst (v := 1) (n := 21) dX4_nearest_20 (by decide) rfl ?_
        refine r_icmp_ne (tgt := 47) (n := 24) dX4_nearest_21 (by decide) rfl (fun c_21 => ?_) (fun c_21 => ?_)
        · refine r_iconst (v := 0) (n := 48) dX4_nearest_47 (by decide) rfl ?_
          refine r_is4 (n := 50) (by decide) rfl dX4_nearest_48 rfl ?_
          refine r_il4 (n := 52) dX4_nearest_50 rfl ?_
          refine r_if_eq (tgt := 59) (n := 55) dX4_nearest_52 (by decide) rfl (fun c_52 => ?_) (fun c_52 => ?_)
          · refine r_il2 (n := 60) dX4_nearest_59 rfl ?_
            refine r_is2 (n := 61) (by decide) rfl dX4_nearest_60 rfl ?_
            refine r_ii3 (n := 64) (by decide) rfl dX4_nearest_61 (nI_inc _) rfl ?_
            refine r_goto (tgt := 5) dX4_nearest_64 (by decide) ?_
            refine r_dr4 ?_
            have h := ih (i + 1) (by omega)
            simp only [neM, hq, if_neg c_21, if_true, if_false] at h
            exact h
          · exact absurd c_52 (fun q => q rfl)
        · refine r_il2 (n := 25) dX4_nearest_24 rfl ?_
          refine r_if_lt (tgt := 43) (n := 28) dX4_nearest_25 (by decide) rfl (fun c_25 => ?_) (fun c_25 => ?_)
          · exact absurd c_25 (nI_pos (by have := neM_lt _ _ _ _ hq; omega))
          · refine r_al0 (n := 29) dX4_nearest_28 rfl ?_
            refine r_il3 (n := 30) dX4_nearest_29 rfl ?_
            refine r_iconst (v := 0) (n := 31) dX4_nearest_30 (by decide) rfl ?_
            refine cV_i (n := 34) (np := 2) (m_X4_of (k := i) (j := 0) (by omega) (by decide)) gX4_nearest_X4_of rfl (by decide +kernel) rfl (by decide) (by decide) (by omega) rfl rfl dX4_nearest_31 rfl rfl (Nat.le_of_ble_eq_true rfl) ?_
            rw [Nat.add_zero]
            refine r_al0 (n := 35) dX4_nearest_34 rfl ?_
            refine r_il2 (n := 36) dX4_nearest_35 rfl ?_
            refine r_iconst (v := 0) (n := 37) dX4_nearest_36 (by decide) rfl ?_
            refine cV_i (n := 40) (np := 2) (m_X4_of (k := b) (j := 0) (by have := neM_lt _ _ _ _ hq; omega) (by decide)) gX4_nearest_X4_of rfl (by decide +kernel) rfl (by decide) (by decide) (by omega) rfl rfl dX4_nearest_37 rfl rfl (Nat.le_of_ble_eq_true rfl) ?_
            rw [Nat.add_zero]
            refine r_icmp_ge (tgt := 47) (n := 43) dX4_nearest_40 (by decide) rfl (fun c_40 => ?_) (fun c_40 => ?_)
            · refine r_iconst (v := 0) (n := 48) dX4_nearest_47 (by decide) rfl ?_
              refine r_is4 (n := 50) (by decide) rfl dX4_nearest_48 rfl ?_
              refine r_il4 (n := 52) dX4_nearest_50 rfl ?_
              refine r_if_eq (tgt := 59) (n := 55) dX4_nearest_52 (by decide) rfl (fun c_52 => ?_) (fun c_52 => ?_)
              · refine r_il2 (n := 60) dX4_nearest_59 rfl ?_
                refine r_is2 (n := 61) (by decide) rfl dX4_nearest_60 rfl ?_
                refine r_ii3 (n := 64) (by decide) rfl dX4_nearest_61 (nI_inc _) rfl ?_
                refine r_goto (tgt := 5) dX4_nearest_64 (by decide) ?_
                refine r_dr4 ?_
                have h := ih (i + 1) (by omega)
                simp only [neM, hq, if_pos c_21, if_pos c_40, if_true, if_false] at h
                exact h
              · exact absurd c_52 (fun q => q rfl)
            · refine r_iconst (v := 1) (n := 44) dX4_nearest_43 (by decide) rfl ?_
              refine r_goto (tgt := 48) dX4_nearest_44 (by decide) ?_
              refine r_is4 (n := 50) (by decide) rfl dX4_nearest_48 rfl ?_
              refine r_il4 (n := 52) dX4_nearest_50 rfl ?_
              refine r_if_eq (tgt := 59) (n := 55) dX4_nearest_52 (by decide) rfl (fun c_52 => ?_) (fun c_52 => ?_)
              · exact absurd c_52 (by decide)
              · refine r_il3 (n := 56) dX4_nearest_55 rfl ?_
                refine r_goto (tgt := 60) dX4_nearest_56 (by decide) ?_
                refine r_is2 (n := 61) (by decide) rfl dX4_nearest_60 rfl ?_
                refine r_ii3 (n := 64) (by decide) rfl dX4_nearest_61 (nI_inc _) rfl ?_
                refine r_goto (tgt := 5) dX4_nearest_64 (by decide) ?_
                refine r_dr4 ?_
                have h := ih (i + 1) (by omega)
                simp only [neM, hq, if_pos c_21, if_neg c_40, if_true, if_false] at h
                exact h

set_option maxHeartbeats 4000000 in
set_option maxRecDepth 100000 in
theorem m_X4_nearest {N : Nat} (hN : M.1 10 0 = nI N) (h8 : N ≤ 8) {s : Int32} : C_X4_nearest cA ad D [.ref (ad 4), .int s] M (Ri (nxI (neM (M.1 10) s N)) M) := by
  refine PM_of (lv := [some (.ref (ad 4)), some (.int s), none, none, none]) (by decide +kernel) rfl (Nat.le_of_ble_eq_true rfl) rfl ?_
  refine r_ldc (n := 2) dX4_nearest_0 k_X4_nearest_109 rfl ?_
  refine r_is2 (n := 3) (by decide) rfl dX4_nearest_2 rfl ?_
  refine r_iconst (v := 0) (n := 4) dX4_nearest_3 (by decide) rfl ?_
  refine r_is3 (n := 5) (by decide) rfl dX4_nearest_4 rfl ?_
  exact l_X4_nearest hN h8 N 0 (by omega)

set_option maxHeartbeats 4000000 in
set_option maxRecDepth 100000 in
theorem l_X4_round {N : Nat} (hN : M.1 10 0 = nI N) (h8 : N ≤ 8) {s0 w : Int32} {P : Nat → Int32 → Prop} (hG : GdM (M.1 10) N P) : ∀ (m : Nat) (s pl : Int32) (q : Int32 × Int32 × Int32), P m s →
    P_X4_round cA ad D 49 [some (.ref (ad 4)), some (.int s0), some (.int w), some (.int q.1), some (.int q.2.1), some (.int q.2.2), some (.int pl), some (.int s), none, none] [] M (Ri (rdW (rdM (M.1 10) N m s pl q) w) M) := by
  intro m
  induction m with
  | zero =>
    intro s pl q hP
    have c_s := hG.1 s hP
    refine r_il7 (n := 51) dX4_round_49 rfl ?_
    refine r_if_eq (tgt := 188) (n := 54) dX4_round_51 (by decide) rfl (fun c_51 => ?_) (fun c_51 => ?_)
    · refine r_il2 (n := 189) dX4_round_188 rfl ?_
      refine r_if_ne (tgt := 196) (n := 192) dX4_round_189 (by decide) rfl (fun c_189 => ?_) (fun c_189 => ?_)
      · refine r_il2 (n := 197) dX4_round_196 rfl ?_
        refine r_iconst (v := 1) (n := 198) dX4_round_197 (by decide) rfl ?_
        refine r_icmp_ne (tgt := 206) (n := 201) dX4_round_198 (by decide) rfl (fun c_198 => ?_) (fun c_198 => ?_)
        · refine r_il5 (n := 208) dX4_round_206 rfl ?_
          exact e_i dX4_round_208 rfl (by simp only [rdM, rdW, *, if_true, if_false] <;> simp) rfl
        · refine r_il4 (n := 203) dX4_round_201 rfl ?_
          refine r_goto (tgt := 208) dX4_round_203 (by decide) ?_
          exact e_i dX4_round_208 rfl (by simp only [rdM, rdW, *, if_true, if_false] <;> simp) rfl
      · refine r_il3 (n := 193) dX4_round_192 rfl ?_
        refine r_goto (tgt := 208) dX4_round_193 (by decide) ?_
        exact e_i dX4_round_208 rfl (by simp only [rdM, rdW, *, if_true, if_false] <;> simp) rfl
    · exact absurd c_51 (fun q => q c_s)
  | succ m ih =>
    intro s pl q hP
    refine r_il7 (n := 51) dX4_round_49 rfl ?_
    refine r_if_eq (tgt := 188) (n := 54) dX4_round_51 (by decide) rfl (fun c_51 => ?_) (fun c_51 => ?_)
    · refine r_il2 (n := 189) dX4_round_188 rfl ?_
      refine r_if_ne (tgt := 196) (n := 192) dX4_round_189 (by decide) rfl (fun c_189 => ?_) (fun c_189 => ?_)
      · refine r_il2 (n := 197) dX4_round_196 rfl ?_
        refine r_iconst (v := 1) (n := 198) dX4_round_197 (by decide) rfl ?_
        refine r_icmp_ne (tgt := 206) (n := 201) dX4_round_198 (by decide) rfl (fun c_198 => ?_) (fun c_198 => ?_)
        · refine r_il5 (n := 208) dX4_round_206 rfl ?_
          exact e_i dX4_round_208 rfl (by simp only [rdM, rdW, *, if_true, if_false] <;> simp) rfl
        · refine r_il4 (n := 203) dX4_round_201 rfl ?_
          refine r_goto (tgt := 208) dX4_round_203 (by decide) ?_
          exact e_i dX4_round_208 rfl (by simp only [rdM, rdW, *, if_true, if_false] <;> simp) rfl
      · refine r_il3 (n := 193) dX4_round_192 rfl ?_
        refine r_goto (tgt := 208) dX4_round_193 (by decide) ?_
        exact e_i dX4_round_208 rfl (by simp only [rdM, rdW, *, if_true, if_false] <;> simp) rfl
    · obtain ⟨k, hk, hne, hP2⟩ := hG.2 m s hP c_51
      refine r_al0 (n := 55) dX4_round_54 rfl ?_
      refine r_il7 (n := 57) dX4_round_55 rfl ?_
      refine cV_i (n := 60) (np := 1) (m_X4_nearest hN h8) gX4_round_X4_nearest rfl (by decide +kernel) rfl (by decide) (by decide) (by omega) rfl rfl dX4_round_57 rfl rfl (Nat.le_of_ble_eq_true rfl) ?_
      rw [hne]
      simp only [nxI]
      refine r_is8 (n := 62) (by decide) rfl dX4_round_60 rfl ?_
      refine r_al0 (n := 63) dX4_round_62 rfl ?_
      refine r_il8 (n := 65) dX4_round_63 rfl ?_
      refine r_iconst (v := 5) (n := 66) dX4_round_65 (by decide) rfl ?_
      refine cV_i (n := 69) (np := 2) (m_X4_of (k := k) (j := 5) (by omega) (by decide)) gX4_round_X4_of rfl (by decide +kernel) rfl (by decide) (by decide) (by omega) rfl rfl dX4_round_66 rfl rfl (Nat.le_of_ble_eq_true rfl) ?_
      refine r_al0 (n := 70) dX4_round_69 rfl ?_
      refine g_mo_s (n := 73)  in_X4_round_wsX40 k_X4_round_7 dX4_round_70 rfl ?_
      refine r_bipush (v := 13) (n := 75) dX4_round_73 (by decide) rfl ?_
      refine a_s (n := 76) (k := 13) (by decide) (by decide) dX4_round_75 rfl ?_
      refine r_icmp_gt (tgt := 93) (n := 79) dX4_round_76 (by decide) rfl (fun c_76 => ?_) (fun c_76 => ?_)
      · refine r_iconst (v := 0) (n := 94) dX4_round_93 (by decide) rfl ?_
        refine r_is9 (n := 96) (by decide) rfl dX4_round_94 rfl ?_
        refine r_il3 (n := 97) dX4_round_96 rfl ?_
        refine r_il6 (n := 99) dX4_round_97 rfl ?_
        refine r_al0 (n := 100) dX4_round_99 rfl ?_
        refine r_il8 (n := 102) dX4_round_100 rfl ?_
        refine r_iconst (v := 0) (n := 103) dX4_round_102 (by decide) rfl ?_
        refine cV_i (n := 106) (np := 2) (m_X4_of (k := k) (j := 0) (by omega) (by decide)) gX4_round_X4_of rfl (by decide +kernel) rfl (by decide) (by decide) (by omega) rfl rfl dX4_round_103 rfl rfl (Nat.le_of_ble_eq_true rfl) ?_
        rw [Nat.add_zero]
        refine cS_i (n := 109) (np := 2) (m_X4_hoursBetween) gX4_round_X4_hoursBetween rfl (by decide +kernel) rfl (by decide) (by decide) dX4_round_106 rfl rfl (Nat.le_of_ble_eq_true rfl) ?_
        refine r_il9 (n := 111) dX4_round_109 rfl ?_
        refine r_if_eq (tgt := 121) (n := 114) dX4_round_111 (by decide) rfl (fun c_111 => ?_) (fun c_111 => ?_)
        · refine r_iconst (v := 0) (n := 122) dX4_round_121 (by decide) rfl ?_
          refine r_iadd (n := 123) dX4_round_122 rfl ?_
          refine r_iadd (n := 124) dX4_round_123 rfl ?_
          refine r_is3 (n := 125) (by decide) rfl dX4_round_124 rfl ?_
          refine r_il4 (n := 127) dX4_round_125 rfl ?_
          refine r_il9 (n := 129) dX4_round_127 rfl ?_
          refine r_if_eq (tgt := 142) (n := 132) dX4_round_129 (by decide) rfl (fun c_129 => ?_) (fun c_129 => ?_)
          · refine r_iconst (v := 0) (n := 143) dX4_round_142 (by decide) rfl ?_
            refine r_iadd (n := 144) dX4_round_143 rfl ?_
            refine r_is4 (n := 146) (by decide) rfl dX4_round_144 rfl ?_
            refine r_il5 (n := 148) dX4_round_146 rfl ?_
            refine r_il9 (n := 150) dX4_round_148 rfl ?_
            refine r_if_eq (tgt := 163) (n := 153) dX4_round_150 (by decide) rfl (fun c_150 => ?_) (fun c_150 => ?_)
            · refine r_iconst (v := 0) (n := 164) dX4_round_163 (by decide) rfl ?_
              refine r_iadd (n := 165) dX4_round_164 rfl ?_
              refine r_is5 (n := 167) (by decide) rfl dX4_round_165 rfl ?_
              refine r_al0 (n := 168) dX4_round_167 rfl ?_
              refine r_il8 (n := 170) dX4_round_168 rfl ?_
              refine r_iconst (v := 0) (n := 171) dX4_round_170 (by decide) rfl ?_
              refine cV_i (n := 174) (np := 2) (m_X4_of (k := k) (j := 0) (by omega) (by decide)) gX4_round_X4_of rfl (by decide +kernel) rfl (by decide) (by decide) (by omega) rfl rfl dX4_round_171 rfl rfl (Nat.le_of_ble_eq_true rfl) ?_
              rw [Nat.add_zero]
              refine r_is6 (n := 176) (by decide) rfl dX4_round_174 rfl ?_
              refine r_il7 (n := 178) dX4_round_176 rfl ?_
              refine r_iconst (v := 1) (n := 179) dX4_round_178 (by decide) rfl ?_
              refine r_il8 (n := 181) dX4_round_179 rfl ?_
              refine r_ishl (n := 182) dX4_round_181 rfl ?_
              refine r_ixor (n := 183) dX4_round_182 rfl ?_
              refine r_is7 (n := 185) (by decide) rfl dX4_round_183 rfl ?_
              refine r_goto (tgt := 49) dX4_round_185 (by decide) ?_
              refine r_dr8 ?_
              refine r_dr9 ?_
              have hR : rdM (M.1 10) N (m + 1) s pl q = rdM (M.1 10) N m (s ^^^ ((1 : Int32) <<< (nI k &&& 31))) (M.1 10 (14 + 8 * k)) (q.1 + (hB pl (M.1 10 (14 + 8 * k)) + 0), q.2.1 + 0, q.2.2 + 0) := by
                rw [rdM, if_neg c_51, hne]
                simp only [if_pos c_76, if_true, if_false]
              rw [hR]
              exact ih _ _ (_, _, _) hP2
            · exact absurd c_150 (fun q => q rfl)
          · exact absurd c_129 (fun q => q rfl)
        · exact absurd c_111 (fun q => q rfl)
      · refine r_al0 (n := 80) dX4_round_79 rfl ?_
        refine r_il8 (n := 82) dX4_round_80 rfl ?_
        refine r_iconst (v := 2) (n := 83) dX4_round_82 (by decide) rfl ?_
        refine cV_i (n := 86) (np := 2) (m_X4_of (k := k) (j := 2) (by omega) (by decide)) gX4_round_X4_of rfl (by decide +kernel) rfl (by decide) (by decide) (by omega) rfl rfl dX4_round_83 rfl rfl (Nat.le_of_ble_eq_true rfl) ?_
        refine r_if_le (tgt := 93) (n := 89) dX4_round_86 (by decide) rfl (fun c_86 => ?_) (fun c_86 => ?_)
        · refine r_iconst (v := 0) (n := 94) dX4_round_93 (by decide) rfl ?_
          refine r_is9 (n := 96) (by decide) rfl dX4_round_94 rfl ?_
          refine r_il3 (n := 97) dX4_round_96 rfl ?_
          refine r_il6 (n := 99) dX4_round_97 rfl ?_
          refine r_al0 (n := 100) dX4_round_99 rfl ?_
          refine r_il8 (n := 102) dX4_round_100 rfl ?_
          refine r_iconst (v := 0) (n := 103) dX4_round_102 (by decide) rfl ?_
          refine cV_i (n := 106) (np := 2) (m_X4_of (k := k) (j := 0) (by omega) (by decide)) gX4_round_X4_of rfl (by decide +kernel) rfl (by decide) (by decide) (by omega) rfl rfl dX4_round_103 rfl rfl (Nat.le_of_ble_eq_true rfl) ?_
          rw [Nat.add_zero]
          refine cS_i (n := 109) (np := 2) (m_X4_hoursBetween) gX4_round_X4_hoursBetween rfl (by decide +kernel) rfl (by decide) (by decide) dX4_round_106 rfl rfl (Nat.le_of_ble_eq_true rfl) ?_
          refine r_il9 (n := 111) dX4_round_109 rfl ?_
          refine r_if_eq (tgt := 121) (n := 114) dX4_round_111 (by decide) rfl (fun c_111 => ?_) (fun c_111 => ?_)
          · refine r_iconst (v := 0) (n := 122) dX4_round_121 (by decide) rfl ?_
            refine r_iadd (n := 123) dX4_round_122 rfl ?_
            refine r_iadd (n := 124) dX4_round_123 rfl ?_
            refine r_is3 (n := 125) (by decide) rfl dX4_round_124 rfl ?_
            refine r_il4 (n := 127) dX4_round_125 rfl ?_
            refine r_il9 (n := 129) dX4_round_127 rfl ?_
            refine r_if_eq (tgt := 142) (n := 132) dX4_round_129 (by decide) rfl (fun c_129 => ?_) (fun c_129 => ?_)
            · refine r_iconst (v := 0) (n := 143) dX4_round_142 (by decide) rfl ?_
              refine r_iadd (n := 144) dX4_round_143 rfl ?_
              refine r_is4 (n := 146) (by decide) rfl dX4_round_144 rfl ?_
              refine r_il5 (n := 148) dX4_round_146 rfl ?_
              refine r_il9 (n := 150) dX4_round_148 rfl ?_
              refine r_if_eq (tgt := 163) (n := 153) dX4_round_150 (by decide) rfl (fun c_150 => ?_) (fun c_150 => ?_)
              · refine r_iconst (v := 0) (n := 164) dX4_round_163 (by decide) rfl ?_
                refine r_iadd (n := 165) dX4_round_164 rfl ?_
                refine r_is5 (n := 167) (by decide) rfl dX4_round_165 rfl ?_
                refine r_al0 (n := 168) dX4_round_167 rfl ?_
                refine r_il8 (n := 170) dX4_round_168 rfl ?_
                refine r_iconst (v := 0) (n := 171) dX4_round_170 (by decide) rfl ?_
                refine cV_i (n := 174) (np := 2) (m_X4_of (k := k) (j := 0) (by omega) (by decide)) gX4_round_X4_of rfl (by decide +kernel) rfl (by decide) (by decide) (by omega) rfl rfl dX4_round_171 rfl rfl (Nat.le_of_ble_eq_true rfl) ?_
                rw [Nat.add_zero]
                refine r_is6 (n := 176) (by decide) rfl dX4_round_174 rfl ?_
                refine r_il7 (n := 178) dX4_round_176 rfl ?_
                refine r_iconst (v := 1) (n := 179) dX4_round_178 (by decide) rfl ?_
                refine r_il8 (n := 181) dX4_round_179 rfl ?_
                refine r_ishl (n := 182) dX4_round_181 rfl ?_
                refine r_ixor (n := 183) dX4_round_182 rfl ?_
                refine r_is7 (n := 185) (by decide) rfl dX4_round_183 rfl ?_
                refine r_goto (tgt := 49) dX4_round_185 (by decide) ?_
                refine r_dr8 ?_
                refine r_dr9 ?_
                have hR : rdM (M.1 10) N (m + 1) s pl q = rdM (M.1 10) N m (s ^^^ ((1 : Int32) <<< (nI k &&& 31))) (M.1 10 (14 + 8 * k)) (q.1 + (hB pl (M.1 10 (14 + 8 * k)) + 0), q.2.1 + 0, q.2.2 + 0) := by
                  rw [rdM, if_neg c_51, hne]
                  simp only [if_neg c_76, if_pos c_86, if_true, if_false]
                rw [hR]
                exact ih _ _ (_, _, _) hP2
              · exact absurd c_150 (fun q => q rfl)
            · exact absurd c_129 (fun q => q rfl)
          · exact absurd c_111 (fun q => q rfl)
        · refine r_iconst (v := 1) (n := 90) dX4_round_89 (by decide) rfl ?_
          refine r_goto (tgt := 94) dX4_round_90 (by decide) ?_
          refine r_is9 (n := 96) (by decide) rfl dX4_round_94 rfl ?_
          refine r_il3 (n := 97) dX4_round_96 rfl ?_
          refine r_il6 (n := 99) dX4_round_97 rfl ?_
          refine r_al0 (n := 100) dX4_round_99 rfl ?_
          refine r_il8 (n := 102) dX4_round_100 rfl ?_
          refine r_iconst (v := 0) (n := 103) dX4_round_102 (by decide) rfl ?_
          refine cV_i (n := 106) (np := 2) (m_X4_of (k := k) (j := 0) (by omega) (by decide)) gX4_round_X4_of rfl (by decide +kernel) rfl (by decide) (by decide) (by omega) rfl rfl dX4_round_103 rfl rfl (Nat.le_of_ble_eq_true rfl) ?_
          rw [Nat.add_zero]
          refine cS_i (n := 109) (np := 2) (m_X4_hoursBetween) gX4_round_X4_hoursBetween rfl (by decide +kernel) rfl (by decide) (by decide) dX4_round_106 rfl rfl (Nat.le_of_ble_eq_true rfl) ?_
          refine r_il9 (n := 111) dX4_round_109 rfl ?_
          refine r_if_eq (tgt := 121) (n := 114) dX4_round_111 (by decide) rfl (fun c_111 => ?_) (fun c_111 => ?_)
          · exact absurd c_111 (by decide)
          · refine r_iconst (v := 0) (n := 115) dX4_round_114 (by decide) rfl ?_
            refine cS_i (n := 118) (np := 1) (m_X4_hoursOf false) gX4_round_X4_hoursOf rfl (by decide +kernel) rfl (by decide) (by decide) dX4_round_115 rfl rfl (Nat.le_of_ble_eq_true rfl) ?_
            refine r_goto (tgt := 122) dX4_round_118 (by decide) ?_
            refine r_iadd (n := 123) dX4_round_122 rfl ?_
            refine r_iadd (n := 124) dX4_round_123 rfl ?_
            refine r_is3 (n := 125) (by decide) rfl dX4_round_124 rfl ?_
            refine r_il4 (n := 127) dX4_round_125 rfl ?_
            refine r_il9 (n := 129) dX4_round_127 rfl ?_
            refine r_if_eq (tgt := 142) (n := 132) dX4_round_129 (by decide) rfl (fun c_129 => ?_) (fun c_129 => ?_)
            · exact absurd c_129 (by decide)
            · refine r_al0 (n := 133) dX4_round_132 rfl ?_
              refine r_il8 (n := 135) dX4_round_133 rfl ?_
              refine r_iconst (v := 0) (n := 136) dX4_round_135 (by decide) rfl ?_
              refine cV_i (n := 139) (np := 2) (m_X4_leatherOf (k := k) (by omega) false) gX4_round_X4_leatherOf rfl (by decide +kernel) rfl (by decide) (by decide) (by omega) rfl rfl dX4_round_136 rfl rfl (Nat.le_of_ble_eq_true rfl) ?_
              refine r_goto (tgt := 143) dX4_round_139 (by decide) ?_
              refine r_iadd (n := 144) dX4_round_143 rfl ?_
              refine r_is4 (n := 146) (by decide) rfl dX4_round_144 rfl ?_
              refine r_il5 (n := 148) dX4_round_146 rfl ?_
              refine r_il9 (n := 150) dX4_round_148 rfl ?_
              refine r_if_eq (tgt := 163) (n := 153) dX4_round_150 (by decide) rfl (fun c_150 => ?_) (fun c_150 => ?_)
              · exact absurd c_150 (by decide)
              · refine r_al0 (n := 154) dX4_round_153 rfl ?_
                refine r_il8 (n := 156) dX4_round_154 rfl ?_
                refine r_iconst (v := 0) (n := 157) dX4_round_156 (by decide) rfl ?_
                refine cV_i (n := 160) (np := 2) (m_X4_owes (k := k) (by omega) false) gX4_round_X4_owes rfl (by decide +kernel) rfl (by decide) (by decide) (by omega) rfl rfl dX4_round_157 rfl rfl (Nat.le_of_ble_eq_true rfl) ?_
                refine r_goto (tgt := 164) dX4_round_160 (by decide) ?_
                refine r_iadd (n := 165) dX4_round_164 rfl ?_
                refine r_is5 (n := 167) (by decide) rfl dX4_round_165 rfl ?_
                refine r_al0 (n := 168) dX4_round_167 rfl ?_
                refine r_il8 (n := 170) dX4_round_168 rfl ?_
                refine r_iconst (v := 0) (n := 171) dX4_round_170 (by decide) rfl ?_
                refine cV_i (n := 174) (np := 2) (m_X4_of (k := k) (j := 0) (by omega) (by decide)) gX4_round_X4_of rfl (by decide +kernel) rfl (by decide) (by decide) (by omega) rfl rfl dX4_round_171 rfl rfl (Nat.le_of_ble_eq_true rfl) ?_
                rw [Nat.add_zero]
                refine r_is6 (n := 176) (by decide) rfl dX4_round_174 rfl ?_
                refine r_il7 (n := 178) dX4_round_176 rfl ?_
                refine r_iconst (v := 1) (n := 179) dX4_round_178 (by decide) rfl ?_
                refine r_il8 (n := 181) dX4_round_179 rfl ?_
                refine r_ishl (n := 182) dX4_round_181 rfl ?_
                refine r_ixor (n := 183) dX4_round_182 rfl ?_
                refine r_is7 (n := 185) (by decide) rfl dX4_round_183 rfl ?_
                refine r_goto (tgt := 49) dX4_round_185 (by decide) ?_
                refine r_dr8 ?_
                refine r_dr9 ?_
                have hR : rdM (M.1 10) N (m + 1) s pl q = rdM (M.1 10) N m (s ^^^ ((1 : Int32) <<< (nI k &&& 31))) (M.1 10 (14 + 8 * k)) (q.1 + (hB pl (M.1 10 (14 + 8 * k)) + hM false), q.2.1 + leatherOf (M.1 10) k false, q.2.2 + owes (M.1 10) k false) := by
                  rw [rdM, if_neg c_51, hne]
                  simp only [if_neg c_76, if_neg c_86, if_true, if_false]
                rw [hR]
                exact ih _ _ (_, _, _) hP2

end MROUND
