/-! ===== the text of orders ===== -/
section TEXT
variable {cA : Nat → ClassId} {ad : Nat → Nat} {D : va_G} {M : Mem}
set_option maxHeartbeats 4000000 in
set_option maxRecDepth 100000 in
theorem m_X0_append_f (ht : M.1 6 0 = nI 60) {v : Int32} : C_X0_append cA ad D [.ref (ad 1), .int v] M (Ri LR M) := by
  refine PM_of (lv := [some (.ref (ad 1)), some (.int v)]) (by decide +kernel) rfl (Nat.le_of_ble_eq_true rfl) rfl ?_
  refine r_al0 (n := 1) dX0_append_0 rfl ?_
  refine g_ot_length (n := 4)  in_X0_append_wsX00 k_X0_append_15 dX0_append_1 rfl ?_
  refine r_if_lt (tgt := 19) (n := 7) dX0_append_4 (by decide) rfl (fun c_4 => ?_) (fun c_4 => ?_)
  · exact absurd c_4 (by rw [ht]; decide)
  · refine r_al0 (n := 8) dX0_append_7 rfl ?_
    refine g_ot_length (n := 11)  in_X0_append_wsX00 k_X0_append_15 dX0_append_8 rfl ?_
    refine r_al0 (n := 12) dX0_append_11 rfl ?_
    refine g_ot_characters (n := 15)  in_X0_append_wsX00 k_X0_append_9 dX0_append_12 rfl ?_
    refine a_lenChars (n := 16) dX0_append_15 rfl ?_
    refine r_icmp_lt (tgt := 22) (n := 19) dX0_append_16 (by decide) rfl (fun c_16 => ?_) (fun c_16 => ?_)
    · exact absurd c_16 (by rw [ht]; decide)
    · refine r_ldc (n := 21) dX0_append_19 k_X0_append_19 rfl ?_
      exact e_i dX0_append_21 rfl rfl rfl

set_option maxHeartbeats 4000000 in
set_option maxRecDepth 100000 in
theorem m_X0_append {t : Nat} (ht : M.1 6 0 = nI t) (h60 : t < 60) {v : Int32} (hv : vp_nar .char v = v) : C_X0_append cA ad D [.ref (ad 1), .int v] M (Ri (nI (t + 1)) (mput (mput M 7 t v) 6 0 (nI (t + 1)))) := by
  refine PM_of (lv := [some (.ref (ad 1)), some (.int v)]) (by decide +kernel) rfl (Nat.le_of_ble_eq_true rfl) rfl ?_
  refine r_al0 (n := 1) dX0_append_0 rfl ?_
  refine g_ot_length (n := 4)  in_X0_append_wsX00 k_X0_append_15 dX0_append_1 rfl ?_
  refine r_if_lt (tgt := 19) (n := 7) dX0_append_4 (by decide) rfl (fun c_4 => ?_) (fun c_4 => ?_)
  · exact absurd c_4 (by rw [ht]; exact nI_pos (by omega))
  · refine r_al0 (n := 8) dX0_append_7 rfl ?_
    refine g_ot_length (n := 11)  in_X0_append_wsX00 k_X0_append_15 dX0_append_8 rfl ?_
    refine r_al0 (n := 12) dX0_append_11 rfl ?_
    refine g_ot_characters (n := 15)  in_X0_append_wsX00 k_X0_append_9 dX0_append_12 rfl ?_
    refine a_lenChars (n := 16) dX0_append_15 rfl ?_
    refine r_icmp_lt (tgt := 22) (n := 19) dX0_append_16 (by decide) rfl (fun c_16 => ?_) (fun c_16 => ?_)
    · refine r_al0 (n := 23) dX0_append_22 rfl ?_
      refine g_ot_characters (n := 26)  in_X0_append_wsX00 k_X0_append_9 dX0_append_23 rfl ?_
      refine r_al0 (n := 27) dX0_append_26 rfl ?_
      refine g_ot_length (n := 30)  in_X0_append_wsX00 k_X0_append_15 dX0_append_27 rfl ?_
      refine r_il1 (n := 31) dX0_append_30 rfl ?_
      refine a_put_chars (n := 32) ht h60 hv dX0_append_31 rfl ?_
      refine r_al0 (n := 33) dX0_append_32 rfl ?_
      refine r_dup (n := 34) dX0_append_33 rfl rfl ?_
      refine g_ot_length (n := 37)  in_X0_append_wsX00 k_X0_append_15 dX0_append_34 rfl ?_
      refine r_iconst (v := 1) (n := 38) dX0_append_37 (by decide) rfl ?_
      refine r_iadd (n := 39) dX0_append_38 rfl ?_
      rw [mput_ne (by decide), ht, nI_1]
      refine p_ot_length (n := 42)  in_X0_append_wsX00 k_X0_append_15 dX0_append_39 rfl ?_
      refine r_al0 (n := 43) dX0_append_42 rfl ?_
      refine g_ot_length (n := 46)  in_X0_append_wsX00 k_X0_append_15 dX0_append_43 rfl ?_
      exact e_i dX0_append_46 rfl (mput_at) rfl
    · exact absurd c_16 (fun h => h (by rw [ht]; exact nI_lt (a := t) (b := 60) (by omega) (by omega)))

set_option maxHeartbeats 4000000 in
set_option maxRecDepth 100000 in
theorem m_X0_characterAt {t : Nat} (ht : M.1 6 0 = nI t) (h60 : t ≤ 60) {j : Nat} (hj : j < 2 ^ 31) : C_X0_characterAt cA ad D [.ref (ad 1), .int (nI j)] M (Ri (chr (M.1 7) t j) M) := by
  refine PM_of (lv := [some (.ref (ad 1)), some (.int (nI j))]) (by decide +kernel) rfl (Nat.le_of_ble_eq_true rfl) rfl ?_
  refine r_il1 (n := 1) dX0_characterAt_0 rfl ?_
  refine r_if_lt (tgt := 21) (n := 4) dX0_characterAt_1 (by decide) rfl (fun c_1 => ?_) (fun c_1 => ?_)
  · exact absurd c_1 (nI_pos (by omega))
  · refine r_il1 (n := 5) dX0_characterAt_4 rfl ?_
    refine r_al0 (n := 6) dX0_characterAt_5 rfl ?_
    refine g_ot_length (n := 9)  in_X0_characterAt_wsX00 k_X0_characterAt_15 dX0_characterAt_6 rfl ?_
    refine r_icmp_ge (tgt := 21) (n := 12) dX0_characterAt_9 (by decide) rfl (fun c_9 => ?_) (fun c_9 => ?_)
    · rw [ht] at c_9
      have hq : ¬ j < t := fun h => nI_ge h (by omega) c_9
      refine r_iconst (v := -1) (n := 22) dX0_characterAt_21 (by decide) rfl ?_
      exact e_i dX0_characterAt_22 rfl (by simp only [chr, hq, if_true, if_false]) rfl
    · rw [ht] at c_9
      have hq : j < t := Nat.lt_of_not_le fun h => c_9 (nI_le h (by omega))
      refine r_il1 (n := 13) dX0_characterAt_12 rfl ?_
      refine r_al0 (n := 14) dX0_characterAt_13 rfl ?_
      refine g_ot_characters (n := 17)  in_X0_characterAt_wsX00 k_X0_characterAt_9 dX0_characterAt_14 rfl ?_
      refine a_lenChars (n := 18) dX0_characterAt_17 rfl ?_
      refine r_icmp_lt (tgt := 23) (n := 21) dX0_characterAt_18 (by decide) rfl (fun c_18 => ?_) (fun c_18 => ?_)
      · refine r_al0 (n := 24) dX0_characterAt_23 rfl ?_
        refine g_ot_characters (n := 27)  in_X0_characterAt_wsX00 k_X0_characterAt_9 dX0_characterAt_24 rfl ?_
        refine r_il1 (n := 28) dX0_characterAt_27 rfl ?_
        refine a_chars (n := 29) rfl (by omega) dX0_characterAt_28 rfl ?_
        exact e_i dX0_characterAt_29 rfl (by simp only [chr, hq, if_true, if_false]) rfl
      · exact absurd c_18 (fun h => h (nI_lt (a := j) (b := 60) (by omega) (by omega)))

set_option maxHeartbeats 4000000 in
set_option maxRecDepth 100000 in
theorem m_X0_isOrderLetter {v : Int32} : C_X0_isOrderLetter cA ad D [.int v] M (Ri (bI (isL v)) M) := by
  refine PM_of (lv := [some (.int v)]) (by decide +kernel) rfl (Nat.le_of_ble_eq_true rfl) rfl ?_
  refine r_il0 (n := 1) dX0_isOrderLetter_0 rfl ?_
  by_cases h_98 : v = 98
  · subst h_98
    refine r_lookup (off := 59) (tgt := 60) dX0_isOrderLetter_1 (by decide) (by decide) (by decide) ?_
    refine r_iconst (v := 1) (n := 61) dX0_isOrderLetter_60 (by decide) rfl ?_
    exact e_z dX0_isOrderLetter_61 rfl (by decide) (by simp [isL, bI, *]) rfl
  by_cases h_99 : v = 99
  · subst h_99
    refine r_lookup (off := 59) (tgt := 60) dX0_isOrderLetter_1 (by decide) (by decide) (by decide) ?_
    refine r_iconst (v := 1) (n := 61) dX0_isOrderLetter_60 (by decide) rfl ?_
    exact e_z dX0_isOrderLetter_61 rfl (by decide) (by simp [isL, bI, *]) rfl
  by_cases h_100 : v = 100
  · subst h_100
    refine r_lookup (off := 59) (tgt := 60) dX0_isOrderLetter_1 (by decide) (by decide) (by decide) ?_
    refine r_iconst (v := 1) (n := 61) dX0_isOrderLetter_60 (by decide) rfl ?_
    exact e_z dX0_isOrderLetter_61 rfl (by decide) (by simp [isL, bI, *]) rfl
  by_cases h_104 : v = 104
  · subst h_104
    refine r_lookup (off := 59) (tgt := 60) dX0_isOrderLetter_1 (by decide) (by decide) (by decide) ?_
    refine r_iconst (v := 1) (n := 61) dX0_isOrderLetter_60 (by decide) rfl ?_
    exact e_z dX0_isOrderLetter_61 rfl (by decide) (by simp [isL, bI, *]) rfl
  by_cases h_112 : v = 112
  · subst h_112
    refine r_lookup (off := 59) (tgt := 60) dX0_isOrderLetter_1 (by decide) (by decide) (by decide) ?_
    refine r_iconst (v := 1) (n := 61) dX0_isOrderLetter_60 (by decide) rfl ?_
    exact e_z dX0_isOrderLetter_61 rfl (by decide) (by simp [isL, bI, *]) rfl
  by_cases h_119 : v = 119
  · subst h_119
    refine r_lookup (off := 59) (tgt := 60) dX0_isOrderLetter_1 (by decide) (by decide) (by decide) ?_
    refine r_iconst (v := 1) (n := 61) dX0_isOrderLetter_60 (by decide) rfl ?_
    exact e_z dX0_isOrderLetter_61 rfl (by decide) (by simp [isL, bI, *]) rfl
  refine r_lookup (off := 61) (tgt := 62) dX0_isOrderLetter_1 (by decide) (six_out h_98 h_99 h_100 h_104 h_112 h_119) (by decide) ?_
  refine r_iconst (v := 0) (n := 63) dX0_isOrderLetter_62 (by decide) rfl ?_
  exact e_z dX0_isOrderLetter_63 rfl (by decide) (by simp [isL, bI, *]) rfl

set_option maxHeartbeats 4000000 in
set_option maxRecDepth 100000 in
theorem m_X0_isDigit {v : Int32} : C_X0_isDigit cA ad D [.int v] M (Ri (bI (rng v 48 57)) M) := by
  refine PM_of (lv := [some (.int v)]) (by decide +kernel) rfl (Nat.le_of_ble_eq_true rfl) rfl ?_
  refine r_il0 (n := 1) dX0_isDigit_0 rfl ?_
  refine r_bipush (v := 48) (n := 3) dX0_isDigit_1 (by decide) rfl ?_
  refine r_icmp_lt (tgt := 16) (n := 6) dX0_isDigit_3 (by decide) rfl (fun c_3 => ?_) (fun c_3 => ?_)
  · refine r_iconst (v := 0) (n := 17) dX0_isDigit_16 (by decide) rfl ?_
    exact e_z dX0_isDigit_17 rfl (by decide) (by simp [rng, bI, *]) rfl
  · refine r_il0 (n := 7) dX0_isDigit_6 rfl ?_
    refine r_bipush (v := 57) (n := 9) dX0_isDigit_7 (by decide) rfl ?_
    refine r_icmp_gt (tgt := 16) (n := 12) dX0_isDigit_9 (by decide) rfl (fun c_9 => ?_) (fun c_9 => ?_)
    · refine r_iconst (v := 0) (n := 17) dX0_isDigit_16 (by decide) rfl ?_
      exact e_z dX0_isDigit_17 rfl (by decide) (by simp [rng, bI, *]) rfl
    · refine r_iconst (v := 1) (n := 13) dX0_isDigit_12 (by decide) rfl ?_
      refine r_goto (tgt := 17) dX0_isDigit_13 (by decide) ?_
      exact e_z dX0_isDigit_17 rfl (by decide) (by simp [rng, bI, *]) rfl

set_option maxHeartbeats 4000000 in
set_option maxRecDepth 100000 in
theorem l_X0_readOrder {t : Nat} (ht : M.1 6 0 = nI t) (h60 : t ≤ 60) {s : Nat} (hs : s < 60) {Q : QT} : ∀ (m e : Nat), e + m = 3 → ∀ (n : Int32),
    P_X0_readOrder cA ad D 83 [some (.ref (ad 1)), some (.int (nI s)), some (.int (nI (dgs (chr (M.1 7) t) s m e n).1))] [] (setp M 6 (upd (upd (M.1 6) 1 (chr (M.1 7) t s)) 2 (dgs (chr (M.1 7) t) s m e n).2)) Q →
    P_X0_readOrder cA ad D 33 [some (.ref (ad 1)), some (.int (nI s)), some (.int (nI e))] [] (setp M 6 (upd (upd (M.1 6) 1 (chr (M.1 7) t s)) 2 n)) Q := by
  intro m
  induction m with
  | zero =>
    intro e he n K
    refine r_il2 (n := 34) dX0_readOrder_33 rfl ?_
    refine r_iconst (v := 3) (n := 35) dX0_readOrder_34 (by decide) rfl ?_
    refine r_icmp_ge (tgt := 83) (n := 38) dX0_readOrder_35 (by decide) rfl (fun c_35 => ?_) (fun c_35 => ?_)
    · rw [dgs] at K
      exact K
    · exact absurd c_35 (fun h => h (nI_le (a := 3) (b := e) (by omega) (by omega)))
  | succ m ih =>
    intro e he n K
    refine r_il2 (n := 34) dX0_readOrder_33 rfl ?_
    refine r_iconst (v := 3) (n := 35) dX0_readOrder_34 (by decide) rfl ?_
    refine r_icmp_ge (tgt := 83) (n := 38) dX0_readOrder_35 (by decide) rfl (fun c_35 => ?_) (fun c_35 => ?_)
    · exact absurd c_35 (nI_ge (a := e) (b := 3) (by omega) (by omega))
    · refine r_al0 (n := 39) dX0_readOrder_38 rfl ?_
      refine r_il1 (n := 40) dX0_readOrder_39 rfl ?_
      refine r_iconst (v := 1) (n := 41) dX0_readOrder_40 (by decide) rfl ?_
      refine r_iadd (n := 42) dX0_readOrder_41 rfl ?_
      refine r_il2 (n := 43) dX0_readOrder_42 rfl ?_
      refine r_iadd (n := 44) dX0_readOrder_43 rfl ?_
      rw [show (1 : Int32) = nI 1 from rfl, pos3]
      refine cV_i (n := 47) (np := 1) (m_X0_characterAt (t := t) (j := s + 1 + e) (by rw [setp_at, upd_ne _ _ (by decide), upd_ne _ _ (by decide)]; exact ht) h60 (by omega)) gX0_readOrder_X0_characterAt rfl (by decide +kernel) rfl (by decide) (by decide) (by omega) rfl rfl dX0_readOrder_44 rfl rfl (Nat.le_of_ble_eq_true rfl) ?_
      rw [setp_ne _ _ (by decide)]
      refine cS_i (n := 50) (np := 1) (m_X0_isDigit) gX0_readOrder_X0_isDigit rfl (by decide +kernel) rfl (by decide) (by decide) dX0_readOrder_47 rfl rfl (Nat.le_of_ble_eq_true rfl) ?_
      refine r_if_eq (tgt := 83) (n := 53) dX0_readOrder_50 (by decide) rfl (fun c_50 => ?_) (fun c_50 => ?_)
      · have hb := bI_0 c_50
        rw [dgs, if_neg (by rw [hb]; decide)] at K
        exact K
      · have hb := bI_1 c_50
        refine r_al0 (n := 54) dX0_readOrder_53 rfl ?_
        refine r_al0 (n := 55) dX0_readOrder_54 rfl ?_
        refine g_ot_number (n := 58)  in_X0_readOrder_wsX00 k_X0_readOrder_34 dX0_readOrder_55 rfl ?_
        refine r_bipush (v := 10) (n := 60) dX0_readOrder_58 (by decide) rfl ?_
        refine r_imul (n := 61) dX0_readOrder_60 rfl ?_
        refine r_al0 (n := 62) dX0_readOrder_61 rfl ?_
        refine r_il1 (n := 63) dX0_readOrder_62 rfl ?_
        refine r_iconst (v := 1) (n := 64) dX0_readOrder_63 (by decide) rfl ?_
        refine r_iadd (n := 65) dX0_readOrder_64 rfl ?_
        refine r_il2 (n := 66) dX0_readOrder_65 rfl ?_
        refine r_iadd (n := 67) dX0_readOrder_66 rfl ?_
        rw [show (1 : Int32) = nI 1 from rfl, pos3]
        refine cV_i (n := 70) (np := 1) (m_X0_characterAt (t := t) (j := s + 1 + e) (by rw [setp_at, upd_ne _ _ (by decide), upd_ne _ _ (by decide)]; exact ht) h60 (by omega)) gX0_readOrder_X0_characterAt rfl (by decide +kernel) rfl (by decide) (by decide) (by omega) rfl rfl dX0_readOrder_67 rfl rfl (Nat.le_of_ble_eq_true rfl) ?_
        rw [setp_ne _ _ (by decide)]
        refine r_iadd (n := 71) dX0_readOrder_70 rfl ?_
        refine r_bipush (v := 48) (n := 73) dX0_readOrder_71 (by decide) rfl ?_
        refine r_isub (n := 74) dX0_readOrder_73 rfl ?_
        refine p_ot_number (n := 77)  in_X0_readOrder_wsX00 k_X0_readOrder_34 dX0_readOrder_74 rfl ?_
        refine r_ii2 (n := 80) (by decide) rfl dX0_readOrder_77 (nI_inc _) rfl ?_
        refine r_goto (tgt := 33) dX0_readOrder_80 (by decide) ?_
        rw [dgs, if_pos hb] at K
        simp (disch := omega) only [mput_s, setp_at, setp_2, upd_at, upd_2]
        exact ih (e + 1) (by omega) _ K

set_option maxHeartbeats 4000000 in
set_option maxRecDepth 100000 in
theorem m_X0_readOrder {t : Nat} (ht : M.1 6 0 = nI t) (h60 : t ≤ 60) {s : Nat} (hs : s < 60) : C_X0_readOrder cA ad D [.ref (ad 1), .int (nI s)] M (Ri (roS (M.1 6) (chr (M.1 7) t) s).1 (setp M 6 (roS (M.1 6) (chr (M.1 7) t) s).2)) := by
  refine PM_of (lv := [some (.ref (ad 1)), some (.int (nI s)), none]) (by decide +kernel) rfl (Nat.le_of_ble_eq_true rfl) rfl ?_
  refine r_al0 (n := 1) dX0_readOrder_0 rfl ?_
  refine r_al0 (n := 2) dX0_readOrder_1 rfl ?_
  refine r_il1 (n := 3) dX0_readOrder_2 rfl ?_
  refine cV_i (n := 6) (np := 1) (m_X0_characterAt ht h60 (by omega)) gX0_readOrder_X0_characterAt rfl (by decide +kernel) rfl (by decide) (by decide) (by omega) rfl rfl dX0_readOrder_3 rfl rfl (Nat.le_of_ble_eq_true rfl) ?_
  refine p_ot_letter (n := 9)  in_X0_readOrder_wsX00 k_X0_readOrder_24 dX0_readOrder_6 rfl ?_
  simp only [mput_s]
  refine r_al0 (n := 10) dX0_readOrder_9 rfl ?_
  refine g_ot_letter (n := 13)  in_X0_readOrder_wsX00 k_X0_readOrder_24 dX0_readOrder_10 rfl ?_
  rw [setp_at, upd_at]
  refine cS_i (n := 16) (np := 1) (m_X0_isOrderLetter) gX0_readOrder_X0_isOrderLetter rfl (by decide +kernel) rfl (by decide) (by decide) dX0_readOrder_13 rfl rfl (Nat.le_of_ble_eq_true rfl) ?_
  refine r_if_ne (tgt := 26) (n := 19) dX0_readOrder_16 (by decide) rfl (fun c_16 => ?_) (fun c_16 => ?_)
  · have hb := bI_1 c_16
    refine r_al0 (n := 27) dX0_readOrder_26 rfl ?_
    refine r_iconst (v := 0) (n := 28) dX0_readOrder_27 (by decide) rfl ?_
    refine p_ot_number (n := 31)  in_X0_readOrder_wsX00 k_X0_readOrder_34 dX0_readOrder_28 rfl ?_
    refine r_iconst (v := 0) (n := 32) dX0_readOrder_31 (by decide) rfl ?_
    refine r_is2 (n := 33) (by decide) rfl dX0_readOrder_32 rfl ?_
    simp only [mput_s, setp_at, setp_2]
    have hle := dgs_le (chr (M.1 7) t) s 3 0 0
    refine l_X0_readOrder ht h60 hs 3 0 (by omega) 0 ?_
    refine r_il2 (n := 84) dX0_readOrder_83 rfl ?_
    refine r_if_eq (tgt := 101) (n := 87) dX0_readOrder_84 (by decide) rfl (fun c_84 => ?_) (fun c_84 => ?_)
    · have hz : (dgs (chr (M.1 7) t) s 3 0 0).1 = 0 := by
        by_cases h : (dgs (chr (M.1 7) t) s 3 0 0).1 = 0
        · exact h
        · exact absurd c_84 (nI_ne0 (by omega) (by omega))
      refine r_al0 (n := 102) dX0_readOrder_101 rfl ?_
      refine r_iconst (v := 1) (n := 103) dX0_readOrder_102 (by decide) rfl ?_
      refine r_il2 (n := 104) dX0_readOrder_103 rfl ?_
      refine r_iadd (n := 105) dX0_readOrder_104 rfl ?_
      refine p_ot_brokenAt (n := 108)  in_X0_readOrder_wsX00 k_X0_readOrder_31 dX0_readOrder_105 rfl ?_
      refine r_iconst (v := 0) (n := 109) dX0_readOrder_108 (by decide) rfl ?_
      exact e_z dX0_readOrder_109 rfl (by decide) (by rw [roS, if_pos hb]; first | rw [if_pos hz] | rw [if_neg hz, if_neg c_98]) (by rw [roS, if_pos hb]; first | (rw [if_pos hz]; simp only [mput_s, setp_at, setp_2]) | (rw [if_neg hz, if_neg c_98]; simp only [mput_s, setp_at, setp_2]))
    · have hz : ¬ (dgs (chr (M.1 7) t) s 3 0 0).1 = 0 := fun h => c_84 (by rw [h]; rfl)
      refine r_al0 (n := 88) dX0_readOrder_87 rfl ?_
      refine r_il1 (n := 89) dX0_readOrder_88 rfl ?_
      refine r_iconst (v := 1) (n := 90) dX0_readOrder_89 (by decide) rfl ?_
      refine r_iadd (n := 91) dX0_readOrder_90 rfl ?_
      refine r_il2 (n := 92) dX0_readOrder_91 rfl ?_
      refine r_iadd (n := 93) dX0_readOrder_92 rfl ?_
      rw [show (1 : Int32) = nI 1 from rfl, pos3]
      refine cV_i (n := 96) (np := 1) (m_X0_characterAt (t := t) (j := s + 1 + (dgs (chr (M.1 7) t) s 3 0 0).1) (by rw [setp_at, upd_ne _ _ (by decide), upd_ne _ _ (by decide)]; exact ht) h60 (by omega)) gX0_readOrder_X0_characterAt rfl (by decide +kernel) rfl (by decide) (by decide) (by omega) rfl rfl dX0_readOrder_93 rfl rfl (Nat.le_of_ble_eq_true rfl) ?_
      rw [setp_ne _ _ (by decide)]
      refine r_bipush (v := 59) (n := 98) dX0_readOrder_96 (by decide) rfl ?_
      refine r_icmp_eq (tgt := 110) (n := 101) dX0_readOrder_98 (by decide) rfl (fun c_98 => ?_) (fun c_98 => ?_)
      · refine r_al0 (n := 111) dX0_readOrder_110 rfl ?_
        refine r_il1 (n := 112) dX0_readOrder_111 rfl ?_
        refine r_iconst (v := 2) (n := 113) dX0_readOrder_112 (by decide) rfl ?_
        refine r_iadd (n := 114) dX0_readOrder_113 rfl ?_
        refine r_il2 (n := 115) dX0_readOrder_114 rfl ?_
        refine r_iadd (n := 116) dX0_readOrder_115 rfl ?_
        rw [show (2 : Int32) = nI 2 from rfl, pos3]
        refine p_ot_behind (n := 119)  in_X0_readOrder_wsX00 k_X0_readOrder_40 dX0_readOrder_116 rfl ?_
        refine r_iconst (v := 1) (n := 120) dX0_readOrder_119 (by decide) rfl ?_
        exact e_z dX0_readOrder_120 rfl (by decide) (by rw [roS, if_pos hb, if_neg hz, if_pos c_98]) (by rw [roS, if_pos hb, if_neg hz, if_pos c_98]; simp only [mput_s, setp_at, setp_2])
      · refine r_al0 (n := 102) dX0_readOrder_101 rfl ?_
        refine r_iconst (v := 1) (n := 103) dX0_readOrder_102 (by decide) rfl ?_
        refine r_il2 (n := 104) dX0_readOrder_103 rfl ?_
        refine r_iadd (n := 105) dX0_readOrder_104 rfl ?_
        refine p_ot_brokenAt (n := 108)  in_X0_readOrder_wsX00 k_X0_readOrder_31 dX0_readOrder_105 rfl ?_
        refine r_iconst (v := 0) (n := 109) dX0_readOrder_108 (by decide) rfl ?_
        exact e_z dX0_readOrder_109 rfl (by decide) (by rw [roS, if_pos hb]; first | rw [if_pos hz] | rw [if_neg hz, if_neg c_98]) (by rw [roS, if_pos hb]; first | (rw [if_pos hz]; simp only [mput_s, setp_at, setp_2]) | (rw [if_neg hz, if_neg c_98]; simp only [mput_s, setp_at, setp_2]))
  · have hb := bI_0 c_16
    refine r_al0 (n := 20) dX0_readOrder_19 rfl ?_
    refine r_iconst (v := 0) (n := 21) dX0_readOrder_20 (by decide) rfl ?_
    refine p_ot_brokenAt (n := 24)  in_X0_readOrder_wsX00 k_X0_readOrder_31 dX0_readOrder_21 rfl ?_
    refine r_iconst (v := 0) (n := 25) dX0_readOrder_24 (by decide) rfl ?_
    exact e_z dX0_readOrder_25 rfl (by decide) (by rw [roS, if_neg (by rw [hb]; decide)]) (by rw [roS, if_neg (by rw [hb]; decide)]; simp only [mput_s, setp_at, setp_2])

end TEXT
