/-! ===== the class's states, more ===== -/
section STATES2
variable {cA : Nat → ClassId} {ad : Nat → Nat} {D : va_G} {M : Mem}
set_option maxHeartbeats 4000000 in
set_option maxRecDepth 100000 in
theorem m_X2_reasonOfSmithy {p k : Nat} (hp : p < 6) (hk : k < 8) : C_X2_reasonOfSmithy cA ad D [.ref (ad (6 + 10 * p)), .ref (ad (8 + 10 * p + k))] M (Ri (rsn (M.1 p) k) M) := by
  refine PM_of (lv := [some (.ref (ad (6 + 10 * p))), some (.ref (ad (8 + 10 * p + k)))]) (by decide +kernel) rfl (Nat.le_of_ble_eq_true rfl) rfl ?_
  refine r_al1 (n := 1) dX2_reasonOfSmithy_0 rfl ?_
  refine g_sm_debt (n := 4) (by first | assumption | omega) (by first | assumption | omega) in_X2_reasonOfSmithy_wsX10 k_X2_reasonOfSmithy_100 dX2_reasonOfSmithy_1 rfl ?_
  refine r_al0 (n := 5) dX2_reasonOfSmithy_4 rfl ?_
  refine g_st_patience (n := 8) (by first | assumption | omega) in_X2_reasonOfSmithy_wsX20 k_X2_reasonOfSmithy_27 dX2_reasonOfSmithy_5 rfl ?_
  refine r_icmp_le (tgt := 13) (n := 11) dX2_reasonOfSmithy_8 (by decide) rfl (fun c_8 => ?_) (fun c_8 => ?_)
  · refine r_al1 (n := 14) dX2_reasonOfSmithy_13 rfl ?_
    refine g_sm_wear (n := 17) (by first | assumption | omega) (by first | assumption | omega) in_X2_reasonOfSmithy_wsX10 k_X2_reasonOfSmithy_106 dX2_reasonOfSmithy_14 rfl ?_
    refine r_if_ne (tgt := 24) (n := 20) dX2_reasonOfSmithy_17 (by decide) rfl (fun c_17 => ?_) (fun c_17 => ?_)
    · refine r_iconst (v := 0) (n := 25) dX2_reasonOfSmithy_24 (by decide) rfl ?_
      exact e_i dX2_reasonOfSmithy_25 rfl (by simp only [rsn, *, if_true, if_false]) rfl
    · refine r_iconst (v := 5) (n := 21) dX2_reasonOfSmithy_20 (by decide) rfl ?_
      refine r_goto (tgt := 25) dX2_reasonOfSmithy_21 (by decide) ?_
      exact e_i dX2_reasonOfSmithy_25 rfl (by simp only [rsn, *, if_true, if_false]) rfl
  · refine r_iconst (v := 4) (n := 12) dX2_reasonOfSmithy_11 (by decide) rfl ?_
    exact e_i dX2_reasonOfSmithy_12 rfl (by simp only [rsn, *, if_true, if_false]) rfl

set_option maxHeartbeats 4000000 in
set_option maxRecDepth 100000 in
theorem m_X2_reasonAgainst {p k : Nat} (hp : p < 6) (hk : k < 8) (b : Bool) : C_X2_reasonAgainst cA ad D [.ref (ad (6 + 10 * p)), .ref (ad (8 + 10 * p + k)), .int (bI b)] M (Ri (whyNot (M.1 p) k b) M) := by
  refine PM_of (lv := [some (.ref (ad (6 + 10 * p))), some (.ref (ad (8 + 10 * p + k))), some (.int (bI b))]) (by decide +kernel) rfl (Nat.le_of_ble_eq_true rfl) rfl ?_
  refine r_al1 (n := 1) dX2_reasonAgainst_0 rfl ?_
  refine g_sm_mile (n := 4) (by first | assumption | omega) (by first | assumption | omega) in_X2_reasonAgainst_wsX10 k_X2_reasonAgainst_112 dX2_reasonAgainst_1 rfl ?_
  refine r_al0 (n := 5) dX2_reasonAgainst_4 rfl ?_
  refine g_st_mile (n := 8) (by first | assumption | omega) in_X2_reasonAgainst_wsX20 k_X2_reasonAgainst_43 dX2_reasonAgainst_5 rfl ?_
  refine r_icmp_eq (tgt := 13) (n := 11) dX2_reasonAgainst_8 (by decide) rfl (fun c_8 => ?_) (fun c_8 => ?_)
  · refine r_il2 (n := 14) dX2_reasonAgainst_13 rfl ?_
    refine cN_i (n := 17) (np := 1) (m_X3_hoursOfMend b) gX2_reasonAgainst_X3_hoursOfMend_n93 rfl (fun _ h => h.2.1) ki_X2_reasonAgainst_X3_hoursOfMend ks_X2_reasonAgainst_X3_hoursOfMend (by decide +kernel) rfl (by decide) (by decide) dX2_reasonAgainst_14 rfl rfl (Nat.le_of_ble_eq_true rfl) ?_
    refine r_al0 (n := 18) dX2_reasonAgainst_17 rfl ?_
    refine g_st_hoursLeft (n := 21) (by first | assumption | omega) in_X2_reasonAgainst_wsX20 k_X2_reasonAgainst_30 dX2_reasonAgainst_18 rfl ?_
    refine r_icmp_le (tgt := 26) (n := 24) dX2_reasonAgainst_21 (by decide) rfl (fun c_21 => ?_) (fun c_21 => ?_)
    · refine r_al1 (n := 27) dX2_reasonAgainst_26 rfl ?_
      refine r_il2 (n := 28) dX2_reasonAgainst_27 rfl ?_
      refine cV_i (n := 31) (np := 1) (m_X1_leatherOfMend (by assumption) (by assumption) b) gX2_reasonAgainst_X1_leatherOfMend rfl (by decide +kernel) rfl (by decide) (by decide) (by omega) (cell_sm cA ad _ (by first | assumption | omega) (by first | assumption | omega)) rfl dX2_reasonAgainst_28 rfl rfl (Nat.le_of_ble_eq_true rfl) ?_
      refine r_al0 (n := 32) dX2_reasonAgainst_31 rfl ?_
      refine g_st_leather (n := 35) (by first | assumption | omega) in_X2_reasonAgainst_wsX20 k_X2_reasonAgainst_46 dX2_reasonAgainst_32 rfl ?_
      refine r_icmp_le (tgt := 40) (n := 38) dX2_reasonAgainst_35 (by decide) rfl (fun c_35 => ?_) (fun c_35 => ?_)
      · refine r_al0 (n := 41) dX2_reasonAgainst_40 rfl ?_
        refine r_al1 (n := 42) dX2_reasonAgainst_41 rfl ?_
        refine cV_i (n := 45) (np := 1) (m_X2_reasonOfSmithy (by assumption) (by assumption)) gX2_reasonAgainst_X2_reasonOfSmithy rfl (by decide +kernel) rfl (by decide) (by decide) (by omega) (cell_st cA ad _ (by first | assumption | omega)) rfl dX2_reasonAgainst_42 rfl rfl (Nat.le_of_ble_eq_true rfl) ?_
        exact e_i dX2_reasonAgainst_45 rfl (by simp only [whyNot, *, if_true, if_false]) rfl
      · refine r_iconst (v := 3) (n := 39) dX2_reasonAgainst_38 (by decide) rfl ?_
        exact e_i dX2_reasonAgainst_39 rfl (by simp only [whyNot, *, if_true, if_false]) rfl
    · refine r_iconst (v := 2) (n := 25) dX2_reasonAgainst_24 (by decide) rfl ?_
      exact e_i dX2_reasonAgainst_25 rfl (by simp only [whyNot, *, if_true, if_false]) rfl
  · refine r_iconst (v := 1) (n := 12) dX2_reasonAgainst_11 (by decide) rfl ?_
    exact e_i dX2_reasonAgainst_12 rfl (by simp only [whyNot, *, if_true, if_false]) rfl

set_option maxHeartbeats 4000000 in
set_option maxRecDepth 100000 in
theorem m_X2_priceOfMend {p k : Nat} (hp : p < 6) (hk : k < 8) (b : Bool) : C_X2_priceOfMend cA ad D [.ref (ad (6 + 10 * p)), .ref (ad (8 + 10 * p + k)), .int (bI b)] M (Ri (owes (M.1 p) k b) M) := by
  refine PM_of (lv := [some (.ref (ad (6 + 10 * p))), some (.ref (ad (8 + 10 * p + k))), some (.int (bI b))]) (by decide +kernel) rfl (Nat.le_of_ble_eq_true rfl) rfl ?_
  refine r_al0 (n := 1) dX2_priceOfMend_0 rfl ?_
  refine g_st_rate (n := 4) (by first | assumption | omega) in_X2_priceOfMend_wsX20 k_X2_priceOfMend_24 dX2_priceOfMend_1 rfl ?_
  refine r_il2 (n := 5) dX2_priceOfMend_4 rfl ?_
  refine cN_i (n := 8) (np := 1) (m_X3_hoursOfMend b) gX2_priceOfMend_X3_hoursOfMend_n93 rfl (fun _ h => h.2.1) ki_X2_priceOfMend_X3_hoursOfMend ks_X2_priceOfMend_X3_hoursOfMend (by decide +kernel) rfl (by decide) (by decide) dX2_priceOfMend_5 rfl rfl (Nat.le_of_ble_eq_true rfl) ?_
  refine r_imul (n := 9) dX2_priceOfMend_8 rfl ?_
  refine r_iconst (v := 3) (n := 10) dX2_priceOfMend_9 (by decide) rfl ?_
  refine r_al1 (n := 11) dX2_priceOfMend_10 rfl ?_
  refine r_il2 (n := 12) dX2_priceOfMend_11 rfl ?_
  refine cV_i (n := 15) (np := 1) (m_X1_leatherOfMend (by assumption) (by assumption) b) gX2_priceOfMend_X1_leatherOfMend rfl (by decide +kernel) rfl (by decide) (by decide) (by omega) (cell_sm cA ad _ (by first | assumption | omega) (by first | assumption | omega)) rfl dX2_priceOfMend_12 rfl rfl (Nat.le_of_ble_eq_true rfl) ?_
  refine r_imul (n := 16) dX2_priceOfMend_15 rfl ?_
  refine r_iadd (n := 17) dX2_priceOfMend_16 rfl ?_
  exact e_i dX2_priceOfMend_17 rfl rfl rfl

set_option maxHeartbeats 4000000 in
set_option maxRecDepth 100000 in
theorem m_X2_mendBellows_n {p : Nat} (hp : p < 6) {j : Int32} (hj : ¬ isSm (M.1 p) j) (b : Bool) : C_X2_mendBellows cA ad D [.ref (ad (6 + 10 * p)), .int j, .int (bI b)] M (Ri IA M) := by
  refine PM_of (lv := [some (.ref (ad (6 + 10 * p))), some (.int j), some (.int (bI b)), none, none]) (by decide +kernel) rfl (Nat.le_of_ble_eq_true rfl) rfl ?_
  refine r_al0 (n := 1) dX2_mendBellows_0 rfl ?_
  refine r_il1 (n := 2) dX2_mendBellows_1 rfl ?_
  refine cV_n (n := 5) (np := 1) (m_X2_find_n (by assumption) hj) gX2_mendBellows_X2_find rfl (by decide +kernel) rfl (by decide) (by decide) (by omega) (cell_st cA ad _ (by first | assumption | omega)) rfl dX2_mendBellows_2 rfl rfl (Nat.le_of_ble_eq_true rfl) ?_
  refine r_as3N (n := 6) (by decide) rfl dX2_mendBellows_5 rfl ?_
  refine r_al3N (n := 7) dX2_mendBellows_6 rfl ?_
  refine r_ifnonnullN (n := 10) dX2_mendBellows_7 rfl ?_
  refine r_ldc (n := 12) dX2_mendBellows_10 k_X2_mendBellows_69 rfl ?_
  exact e_i dX2_mendBellows_12 rfl rfl rfl

set_option maxHeartbeats 4000000 in
set_option maxRecDepth 100000 in
theorem m_X2_mendBellows_s {p k : Nat} (hp : p < 6) {N : Nat} (hN : M.1 p 0 = nI N) (h8 : N ≤ 8) (hk : k < N) (b : Bool) : C_X2_mendBellows cA ad D [.ref (ad (6 + 10 * p)), .int (nI k), .int (bI b)] M (Ri (mendS (M.1 p) k b).1 (setp M p (mendS (M.1 p) k b).2)) := by
  refine PM_of (lv := [some (.ref (ad (6 + 10 * p))), some (.int (nI k)), some (.int (bI b)), none, none]) (by decide +kernel) rfl (Nat.le_of_ble_eq_true rfl) rfl ?_
  refine r_al0 (n := 1) dX2_mendBellows_0 rfl ?_
  refine r_il1 (n := 2) dX2_mendBellows_1 rfl ?_
  refine cV_a (n := 5) (np := 1) (m_X2_find_s (N := N) (k := k) (by first | assumption | omega) hN h8 (by first | assumption | omega)) gX2_mendBellows_X2_find rfl (by decide +kernel) rfl (by decide) (by decide) (by omega) (cell_st cA ad _ (by first | assumption | omega)) rfl dX2_mendBellows_2 rfl rfl (Nat.le_of_ble_eq_true rfl) ?_
  refine r_as3 (n := 6) (by decide) rfl dX2_mendBellows_5 rfl ?_
  refine r_al3 (n := 7) dX2_mendBellows_6 rfl ?_
  refine r_ifnonnull (tgt := 13) dX2_mendBellows_7 (by decide) ?_
  refine r_al0 (n := 14) dX2_mendBellows_13 rfl ?_
  refine r_al3 (n := 15) dX2_mendBellows_14 rfl ?_
  refine r_il2 (n := 16) dX2_mendBellows_15 rfl ?_
  refine cV_i (n := 19) (np := 2) (m_X2_reasonAgainst (by assumption) (by omega) b) gX2_mendBellows_X2_reasonAgainst rfl (by decide +kernel) rfl (by decide) (by decide) (by omega) (cell_st cA ad _ (by first | assumption | omega)) rfl dX2_mendBellows_16 rfl rfl (Nat.le_of_ble_eq_true rfl) ?_
  refine r_if_eq (tgt := 25) (n := 22) dX2_mendBellows_19 (by decide) rfl (fun c_19 => ?_) (fun c_19 => ?_)
  · refine r_al0 (n := 26) dX2_mendBellows_25 rfl ?_
    refine r_al3 (n := 27) dX2_mendBellows_26 rfl ?_
    refine r_il2 (n := 28) dX2_mendBellows_27 rfl ?_
    refine cV_i (n := 31) (np := 2) (m_X2_priceOfMend (by assumption) (by omega) b) gX2_mendBellows_X2_priceOfMend rfl (by decide +kernel) rfl (by decide) (by decide) (by omega) (cell_st cA ad _ (by first | assumption | omega)) rfl dX2_mendBellows_28 rfl rfl (Nat.le_of_ble_eq_true rfl) ?_
    refine r_is4 (n := 33) (by decide) rfl dX2_mendBellows_31 rfl ?_
    refine r_al0 (n := 34) dX2_mendBellows_33 rfl ?_
    refine r_dup (n := 35) dX2_mendBellows_34 rfl rfl ?_
    refine g_st_hoursLeft (n := 38) (by first | assumption | omega) in_X2_mendBellows_wsX20 k_X2_mendBellows_30 dX2_mendBellows_35 rfl ?_
    refine r_il2 (n := 39) dX2_mendBellows_38 rfl ?_
    refine cN_i (n := 42) (np := 1) (m_X3_hoursOfMend b) gX2_mendBellows_X3_hoursOfMend_n93 rfl (fun _ h => h.2.1) ki_X2_mendBellows_X3_hoursOfMend ks_X2_mendBellows_X3_hoursOfMend (by decide +kernel) rfl (by decide) (by decide) dX2_mendBellows_39 rfl rfl (Nat.le_of_ble_eq_true rfl) ?_
    refine r_isub (n := 43) dX2_mendBellows_42 rfl ?_
    refine p_st_hoursLeft (n := 46) (by first | assumption | omega) in_X2_mendBellows_wsX20 k_X2_mendBellows_30 dX2_mendBellows_43 rfl ?_
    refine r_al0 (n := 47) dX2_mendBellows_46 rfl ?_
    refine r_dup (n := 48) dX2_mendBellows_47 rfl rfl ?_
    refine g_st_leather (n := 51) (by first | assumption | omega) in_X2_mendBellows_wsX20 k_X2_mendBellows_46 dX2_mendBellows_48 rfl ?_
    refine r_al3 (n := 52) dX2_mendBellows_51 rfl ?_
    refine r_il2 (n := 53) dX2_mendBellows_52 rfl ?_
    refine cV_i (n := 56) (np := 1) (m_X1_leatherOfMend (by assumption) (by omega) b) gX2_mendBellows_X1_leatherOfMend rfl (by decide +kernel) rfl (by decide) (by decide) (by omega) (cell_sm cA ad _ (by first | assumption | omega) (by first | assumption | omega)) rfl dX2_mendBellows_53 rfl rfl (Nat.le_of_ble_eq_true rfl) ?_
    refine r_isub (n := 57) dX2_mendBellows_56 rfl ?_
    refine p_st_leather (n := 60) (by first | assumption | omega) in_X2_mendBellows_wsX20 k_X2_mendBellows_46 dX2_mendBellows_57 rfl ?_
    refine r_al0 (n := 61) dX2_mendBellows_60 rfl ?_
    refine r_dup (n := 62) dX2_mendBellows_61 rfl rfl ?_
    refine g_st_owedForMends (n := 65) (by first | assumption | omega) in_X2_mendBellows_wsX20 k_X2_mendBellows_52 dX2_mendBellows_62 rfl ?_
    refine r_il4 (n := 67) dX2_mendBellows_65 rfl ?_
    refine r_iadd (n := 68) dX2_mendBellows_67 rfl ?_
    refine p_st_owedForMends (n := 71) (by first | assumption | omega) in_X2_mendBellows_wsX20 k_X2_mendBellows_52 dX2_mendBellows_68 rfl ?_
    refine r_al3 (n := 72) dX2_mendBellows_71 rfl ?_
    refine r_dup (n := 73) dX2_mendBellows_72 rfl rfl ?_
    refine g_sm_debt (n := 76) (by first | assumption | omega) (by first | assumption | omega) in_X2_mendBellows_wsX10 k_X2_mendBellows_100 dX2_mendBellows_73 rfl ?_
    refine r_il4 (n := 78) dX2_mendBellows_76 rfl ?_
    refine r_iadd (n := 79) dX2_mendBellows_78 rfl ?_
    refine p_sm_debt (n := 82) (by first | assumption | omega) (by first | assumption | omega) in_X2_mendBellows_wsX10 k_X2_mendBellows_100 dX2_mendBellows_79 rfl ?_
    refine r_al3 (n := 83) dX2_mendBellows_82 rfl ?_
    refine r_al3 (n := 84) dX2_mendBellows_83 rfl ?_
    refine r_il2 (n := 85) dX2_mendBellows_84 rfl ?_
    refine cV_i (n := 88) (np := 1) (m_X1_wearBehindMend (by assumption) (by omega) b) gX2_mendBellows_X1_wearBehindMend rfl (by decide +kernel) rfl (by decide) (by decide) (by omega) (cell_sm cA ad _ (by first | assumption | omega) (by first | assumption | omega)) rfl dX2_mendBellows_85 rfl rfl (Nat.le_of_ble_eq_true rfl) ?_
    refine p_sm_wear (n := 91) (by first | assumption | omega) (by first | assumption | omega) in_X2_mendBellows_wsX10 k_X2_mendBellows_106 dX2_mendBellows_88 rfl ?_
    refine r_al3 (n := 92) dX2_mendBellows_91 rfl ?_
    refine r_dup (n := 93) dX2_mendBellows_92 rfl rfl ?_
    refine g_sm_mends (n := 96) (by first | assumption | omega) (by first | assumption | omega) in_X2_mendBellows_wsX10 k_X2_mendBellows_109 dX2_mendBellows_93 rfl ?_
    refine r_iconst (v := 1) (n := 97) dX2_mendBellows_96 (by decide) rfl ?_
    refine r_iadd (n := 98) dX2_mendBellows_97 rfl ?_
    refine p_sm_mends (n := 101) (by first | assumption | omega) (by first | assumption | omega) in_X2_mendBellows_wsX10 k_X2_mendBellows_109 dX2_mendBellows_98 rfl ?_
    refine pw_mem (M2 := setp M p (mendU (M.1 p) k b)) ?_ ?_
    · simp (disch := omega) only [mput_s, setp_at, setp_2, setp_r, upd_at, upd_ne, leatherOf, wearBM, mendU]
    refine r_il2 (n := 102) dX2_mendBellows_101 rfl ?_
    refine r_if_eq (tgt := 112) (n := 105) dX2_mendBellows_102 (by decide) rfl (fun c_102 => ?_) (fun c_102 => ?_)
    · have hb := bI_0 c_102
      subst hb
      refine r_al3 (n := 113) dX2_mendBellows_112 rfl ?_
      refine g_sm_wear (n := 116) (by first | assumption | omega) (by first | assumption | omega) in_X2_mendBellows_wsX10 k_X2_mendBellows_106 dX2_mendBellows_113 rfl ?_
      exact e_i dX2_mendBellows_116 rfl (by simp (disch := omega) [mendS, c_19, mendR, mendU, wearBM, mput_s, setp_at, setp_2, setp_r, upd_at, upd_ne]) (by simp only [mendS, c_19, if_true])
    · have hb := bI_1 c_102
      subst hb
      refine r_al3 (n := 106) dX2_mendBellows_105 rfl ?_
      refine g_sm_debt (n := 109) (by first | assumption | omega) (by first | assumption | omega) in_X2_mendBellows_wsX10 k_X2_mendBellows_100 dX2_mendBellows_106 rfl ?_
      refine r_goto (tgt := 116) dX2_mendBellows_109 (by decide) ?_
      exact e_i dX2_mendBellows_116 rfl (by simp (disch := omega) [mendS, c_19, mendR, mendU, wearBM, mput_s, setp_at, setp_2, setp_r, upd_at, upd_ne]) (by simp only [mendS, c_19, if_true])
  · refine r_ldc (n := 24) dX2_mendBellows_22 k_X2_mendBellows_79 rfl ?_
    exact e_i dX2_mendBellows_24 rfl (by simp only [mendS, c_19, if_false]) (by simp only [mendS, c_19, if_false]; rw [setp_self])

set_option maxHeartbeats 4000000 in
set_option maxRecDepth 100000 in
theorem m_X2_collectDebt_n {p : Nat} (hp : p < 6) {j : Int32} (hj : ¬ isSm (M.1 p) j) : C_X2_collectDebt cA ad D [.ref (ad (6 + 10 * p)), .int j] M (Ri IA M) := by
  refine PM_of (lv := [some (.ref (ad (6 + 10 * p))), some (.int j), none, none]) (by decide +kernel) rfl (Nat.le_of_ble_eq_true rfl) rfl ?_
  refine r_al0 (n := 1) dX2_collectDebt_0 rfl ?_
  refine r_il1 (n := 2) dX2_collectDebt_1 rfl ?_
  refine cV_n (n := 5) (np := 1) (m_X2_find_n (by assumption) hj) gX2_collectDebt_X2_find rfl (by decide +kernel) rfl (by decide) (by decide) (by omega) (cell_st cA ad _ (by first | assumption | omega)) rfl dX2_collectDebt_2 rfl rfl (Nat.le_of_ble_eq_true rfl) ?_
  refine r_as2N (n := 6) (by decide) rfl dX2_collectDebt_5 rfl ?_
  refine r_al2N (n := 7) dX2_collectDebt_6 rfl ?_
  refine r_ifnonnullN (n := 10) dX2_collectDebt_7 rfl ?_
  refine r_ldc (n := 12) dX2_collectDebt_10 k_X2_collectDebt_69 rfl ?_
  exact e_i dX2_collectDebt_12 rfl rfl rfl

set_option maxHeartbeats 4000000 in
set_option maxRecDepth 100000 in
theorem m_X2_collectDebt_s {p k : Nat} (hp : p < 6) {N : Nat} (hN : M.1 p 0 = nI N) (h8 : N ≤ 8) (hk : k < N) : C_X2_collectDebt cA ad D [.ref (ad (6 + 10 * p)), .int (nI k)] M (Ri (collS (M.1 p) k).1 (setp M p (collS (M.1 p) k).2)) := by
  refine PM_of (lv := [some (.ref (ad (6 + 10 * p))), some (.int (nI k)), none, none]) (by decide +kernel) rfl (Nat.le_of_ble_eq_true rfl) rfl ?_
  refine r_al0 (n := 1) dX2_collectDebt_0 rfl ?_
  refine r_il1 (n := 2) dX2_collectDebt_1 rfl ?_
  refine cV_a (n := 5) (np := 1) (m_X2_find_s (N := N) (k := k) (by first | assumption | omega) hN h8 (by first | assumption | omega)) gX2_collectDebt_X2_find rfl (by decide +kernel) rfl (by decide) (by decide) (by omega) (cell_st cA ad _ (by first | assumption | omega)) rfl dX2_collectDebt_2 rfl rfl (Nat.le_of_ble_eq_true rfl) ?_
  refine r_as2 (n := 6) (by decide) rfl dX2_collectDebt_5 rfl ?_
  refine r_al2 (n := 7) dX2_collectDebt_6 rfl ?_
  refine r_ifnonnull (tgt := 13) dX2_collectDebt_7 (by decide) ?_
  refine r_al2 (n := 14) dX2_collectDebt_13 rfl ?_
  refine g_sm_mile (n := 17) (by first | assumption | omega) (by first | assumption | omega) in_X2_collectDebt_wsX10 k_X2_collectDebt_112 dX2_collectDebt_14 rfl ?_
  refine r_al0 (n := 18) dX2_collectDebt_17 rfl ?_
  refine g_st_mile (n := 21) (by first | assumption | omega) in_X2_collectDebt_wsX20 k_X2_collectDebt_43 dX2_collectDebt_18 rfl ?_
  refine r_icmp_ne (tgt := 31) (n := 24) dX2_collectDebt_21 (by decide) rfl (fun c_21 => ?_) (fun c_21 => ?_)
  · refine r_ldc (n := 33) dX2_collectDebt_31 k_X2_collectDebt_79 rfl ?_
    exact e_i dX2_collectDebt_33 rfl (by simp only [collS, pays, *, if_true, if_false]) (by simp only [collS, collU, pays, *, if_true, if_false]; first | rw [setp_self] | simp (disch := omega) only [mput_s, setp_at, setp_2, setp_r, upd_at, upd_ne])
  · refine r_al2 (n := 25) dX2_collectDebt_24 rfl ?_
    refine g_sm_debt (n := 28) (by first | assumption | omega) (by first | assumption | omega) in_X2_collectDebt_wsX10 k_X2_collectDebt_100 dX2_collectDebt_25 rfl ?_
    refine r_if_gt (tgt := 34) (n := 31) dX2_collectDebt_28 (by decide) rfl (fun c_28 => ?_) (fun c_28 => ?_)
    · refine r_al0 (n := 35) dX2_collectDebt_34 rfl ?_
      refine r_al2 (n := 36) dX2_collectDebt_35 rfl ?_
      refine g_sm_heat (n := 39) (by first | assumption | omega) (by first | assumption | omega) in_X2_collectDebt_wsX10 k_X2_collectDebt_113 dX2_collectDebt_36 rfl ?_
      refine cV_i (n := 42) (np := 1) (m_X2_isCold (by assumption)) gX2_collectDebt_X2_isCold rfl (by decide +kernel) rfl (by decide) (by decide) (by omega) (cell_st cA ad _ (by first | assumption | omega)) rfl dX2_collectDebt_39 rfl rfl (Nat.le_of_ble_eq_true rfl) ?_
      refine r_if_eq (tgt := 54) (n := 45) dX2_collectDebt_42 (by decide) rfl (fun c_42 => ?_) (fun c_42 => ?_)
      · try replace c_42 := i10 c_42
        refine r_al2 (n := 55) dX2_collectDebt_54 rfl ?_
        refine g_sm_debt (n := 58) (by first | assumption | omega) (by first | assumption | omega) in_X2_collectDebt_wsX10 k_X2_collectDebt_100 dX2_collectDebt_55 rfl ?_
        refine r_is3 (n := 59) (by decide) rfl dX2_collectDebt_58 rfl ?_
        refine r_al2 (n := 60) dX2_collectDebt_59 rfl ?_
        refine r_dup (n := 61) dX2_collectDebt_60 rfl rfl ?_
        refine g_sm_debt (n := 64) (by first | assumption | omega) (by first | assumption | omega) in_X2_collectDebt_wsX10 k_X2_collectDebt_100 dX2_collectDebt_61 rfl ?_
        refine r_il3 (n := 65) dX2_collectDebt_64 rfl ?_
        refine r_isub (n := 66) dX2_collectDebt_65 rfl ?_
        refine p_sm_debt (n := 69) (by first | assumption | omega) (by first | assumption | omega) in_X2_collectDebt_wsX10 k_X2_collectDebt_100 dX2_collectDebt_66 rfl ?_
        refine r_al2 (n := 70) dX2_collectDebt_69 rfl ?_
        refine r_dup (n := 71) dX2_collectDebt_70 rfl rfl ?_
        refine g_sm_paid (n := 74) (by first | assumption | omega) (by first | assumption | omega) in_X2_collectDebt_wsX10 k_X2_collectDebt_120 dX2_collectDebt_71 rfl ?_
        refine r_il3 (n := 75) dX2_collectDebt_74 rfl ?_
        refine r_iadd (n := 76) dX2_collectDebt_75 rfl ?_
        refine p_sm_paid (n := 79) (by first | assumption | omega) (by first | assumption | omega) in_X2_collectDebt_wsX10 k_X2_collectDebt_120 dX2_collectDebt_76 rfl ?_
        refine r_al0 (n := 80) dX2_collectDebt_79 rfl ?_
        refine r_dup (n := 81) dX2_collectDebt_80 rfl rfl ?_
        refine g_st_money (n := 84) (by first | assumption | omega) in_X2_collectDebt_wsX20 k_X2_collectDebt_33 dX2_collectDebt_81 rfl ?_
        refine r_il3 (n := 85) dX2_collectDebt_84 rfl ?_
        refine r_iadd (n := 86) dX2_collectDebt_85 rfl ?_
        refine p_st_money (n := 89) (by first | assumption | omega) in_X2_collectDebt_wsX20 k_X2_collectDebt_33 dX2_collectDebt_86 rfl ?_
        refine r_il3 (n := 90) dX2_collectDebt_89 rfl ?_
        exact e_i dX2_collectDebt_90 rfl (by simp only [collS, pays, *, if_true, if_false]) (by simp only [collS, collU, pays, *, if_true, if_false]; first | rw [setp_self] | simp (disch := omega) only [mput_s, setp_at, setp_2, setp_r, upd_at, upd_ne])
      · try replace c_42 := i11 c_42
        refine r_al2 (n := 46) dX2_collectDebt_45 rfl ?_
        refine g_sm_debt (n := 49) (by first | assumption | omega) (by first | assumption | omega) in_X2_collectDebt_wsX10 k_X2_collectDebt_100 dX2_collectDebt_46 rfl ?_
        refine r_iconst (v := 2) (n := 50) dX2_collectDebt_49 (by decide) rfl ?_
        refine r_idiv (n := 51) dX2_collectDebt_50 (by decide) rfl ?_
        refine r_goto (tgt := 58) dX2_collectDebt_51 (by decide) ?_
        refine r_is3 (n := 59) (by decide) rfl dX2_collectDebt_58 rfl ?_
        refine r_al2 (n := 60) dX2_collectDebt_59 rfl ?_
        refine r_dup (n := 61) dX2_collectDebt_60 rfl rfl ?_
        refine g_sm_debt (n := 64) (by first | assumption | omega) (by first | assumption | omega) in_X2_collectDebt_wsX10 k_X2_collectDebt_100 dX2_collectDebt_61 rfl ?_
        refine r_il3 (n := 65) dX2_collectDebt_64 rfl ?_
        refine r_isub (n := 66) dX2_collectDebt_65 rfl ?_
        refine p_sm_debt (n := 69) (by first | assumption | omega) (by first | assumption | omega) in_X2_collectDebt_wsX10 k_X2_collectDebt_100 dX2_collectDebt_66 rfl ?_
        refine r_al2 (n := 70) dX2_collectDebt_69 rfl ?_
        refine r_dup (n := 71) dX2_collectDebt_70 rfl rfl ?_
        refine g_sm_paid (n := 74) (by first | assumption | omega) (by first | assumption | omega) in_X2_collectDebt_wsX10 k_X2_collectDebt_120 dX2_collectDebt_71 rfl ?_
        refine r_il3 (n := 75) dX2_collectDebt_74 rfl ?_
        refine r_iadd (n := 76) dX2_collectDebt_75 rfl ?_
        refine p_sm_paid (n := 79) (by first | assumption | omega) (by first | assumption | omega) in_X2_collectDebt_wsX10 k_X2_collectDebt_120 dX2_collectDebt_76 rfl ?_
        refine r_al0 (n := 80) dX2_collectDebt_79 rfl ?_
        refine r_dup (n := 81) dX2_collectDebt_80 rfl rfl ?_
        refine g_st_money (n := 84) (by first | assumption | omega) in_X2_collectDebt_wsX20 k_X2_collectDebt_33 dX2_collectDebt_81 rfl ?_
        refine r_il3 (n := 85) dX2_collectDebt_84 rfl ?_
        refine r_iadd (n := 86) dX2_collectDebt_85 rfl ?_
        refine p_st_money (n := 89) (by first | assumption | omega) in_X2_collectDebt_wsX20 k_X2_collectDebt_33 dX2_collectDebt_86 rfl ?_
        refine r_il3 (n := 90) dX2_collectDebt_89 rfl ?_
        exact e_i dX2_collectDebt_90 rfl (by simp only [collS, pays, *, if_true, if_false]) (by simp only [collS, collU, pays, *, if_true, if_false]; first | rw [setp_self] | simp (disch := omega) only [mput_s, setp_at, setp_2, setp_r, upd_at, upd_ne])
    · refine r_ldc (n := 33) dX2_collectDebt_31 k_X2_collectDebt_79 rfl ?_
      exact e_i dX2_collectDebt_33 rfl (by simp only [collS, pays, *, if_true, if_false]) (by simp only [collS, collU, pays, *, if_true, if_false]; first | rw [setp_self] | simp (disch := omega) only [mput_s, setp_at, setp_2, setp_r, upd_at, upd_ne])

set_option maxHeartbeats 4000000 in
set_option maxRecDepth 100000 in
theorem m_X2_endDayOf {p k : Nat} (hp : p < 6) (hk : k < 8) : C_X2_endDayOf cA ad D [.ref (ad (6 + 10 * p)), .ref (ad (8 + 10 * p + k))] M (Rv (setp M p (dayU (M.1 p) k))) := by
  refine PM_of (lv := [some (.ref (ad (6 + 10 * p))), some (.ref (ad (8 + 10 * p + k)))]) (by decide +kernel) rfl (Nat.le_of_ble_eq_true rfl) rfl ?_
  refine r_al1 (n := 1) dX2_endDayOf_0 rfl ?_
  refine r_al1 (n := 2) dX2_endDayOf_1 rfl ?_
  refine g_sm_wear (n := 5) (by first | assumption | omega) (by first | assumption | omega) in_X2_endDayOf_wsX10 k_X2_endDayOf_106 dX2_endDayOf_2 rfl ?_
  refine r_al1 (n := 6) dX2_endDayOf_5 rfl ?_
  refine g_sm_size (n := 9) (by first | assumption | omega) (by first | assumption | omega) in_X2_endDayOf_wsX10 k_X2_endDayOf_135 dX2_endDayOf_6 rfl ?_
  refine cN_i (n := 12) (np := 2) (m_X3_wearBehindDay) gX2_endDayOf_X3_wearBehindDay_n138 rfl (fun _ h => h.2.2.2.1) ki_X2_endDayOf_X3_wearBehindDay ks_X2_endDayOf_X3_wearBehindDay (by decide +kernel) rfl (by decide) (by decide) dX2_endDayOf_9 rfl rfl (Nat.le_of_ble_eq_true rfl) ?_
  refine p_sm_wear (n := 15) (by first | assumption | omega) (by first | assumption | omega) in_X2_endDayOf_wsX10 k_X2_endDayOf_106 dX2_endDayOf_12 rfl ?_
  refine r_al1 (n := 16) dX2_endDayOf_15 rfl ?_
  refine r_al1 (n := 17) dX2_endDayOf_16 rfl ?_
  refine g_sm_heat (n := 20) (by first | assumption | omega) (by first | assumption | omega) in_X2_endDayOf_wsX10 k_X2_endDayOf_113 dX2_endDayOf_17 rfl ?_
  refine r_al1 (n := 21) dX2_endDayOf_20 rfl ?_
  refine g_sm_wear (n := 24) (by first | assumption | omega) (by first | assumption | omega) in_X2_endDayOf_wsX10 k_X2_endDayOf_106 dX2_endDayOf_21 rfl ?_
  refine cN_i (n := 27) (np := 2) (m_X3_heatBehindDay) gX2_endDayOf_X3_heatBehindDay_n141 rfl (fun _ h => h.2.2.2.2) ki_X2_endDayOf_X3_heatBehindDay ks_X2_endDayOf_X3_heatBehindDay (by decide +kernel) rfl (by decide) (by decide) dX2_endDayOf_24 rfl rfl (Nat.le_of_ble_eq_true rfl) ?_
  refine p_sm_heat (n := 30) (by first | assumption | omega) (by first | assumption | omega) in_X2_endDayOf_wsX10 k_X2_endDayOf_113 dX2_endDayOf_27 rfl ?_
  refine r_al1 (n := 31) dX2_endDayOf_30 rfl ?_
  refine r_al0 (n := 32) dX2_endDayOf_31 rfl ?_
  refine r_al1 (n := 33) dX2_endDayOf_32 rfl ?_
  refine g_sm_heat (n := 36) (by first | assumption | omega) (by first | assumption | omega) in_X2_endDayOf_wsX10 k_X2_endDayOf_113 dX2_endDayOf_33 rfl ?_
  refine cV_i (n := 39) (np := 1) (m_X2_isCold (by assumption)) gX2_endDayOf_X2_isCold rfl (by decide +kernel) rfl (by decide) (by decide) (by omega) (cell_st cA ad _ (by first | assumption | omega)) rfl dX2_endDayOf_36 rfl rfl (Nat.le_of_ble_eq_true rfl) ?_
  refine r_if_eq (tgt := 51) (n := 42) dX2_endDayOf_39 (by decide) rfl (fun c_39 => ?_) (fun c_39 => ?_)
  · try replace c_39 := i10 c_39
    refine r_iconst (v := 0) (n := 52) dX2_endDayOf_51 (by decide) rfl ?_
    refine p_sm_coldDays (n := 55) (by first | assumption | omega) (by first | assumption | omega) in_X2_endDayOf_wsX10 k_X2_endDayOf_144 dX2_endDayOf_52 rfl ?_
    refine r_al0 (n := 56) dX2_endDayOf_55 rfl ?_
    refine r_al0 (n := 57) dX2_endDayOf_56 rfl ?_
    refine g_st_longestCold (n := 60) (by first | assumption | omega) in_X2_endDayOf_wsX20 k_X2_endDayOf_55 dX2_endDayOf_57 rfl ?_
    refine r_al1 (n := 61) dX2_endDayOf_60 rfl ?_
    refine g_sm_coldDays (n := 64) (by first | assumption | omega) (by first | assumption | omega) in_X2_endDayOf_wsX10 k_X2_endDayOf_144 dX2_endDayOf_61 rfl ?_
    refine r_mmax (n := 67) (by decide) k_X2_endDayOf_147 ks_X2_endDayOf_max ki_X2_endDayOf_math kc_X2_endDayOf_max (Nat.le_of_ble_eq_true rfl) dX2_endDayOf_64 rfl ?_
    refine p_st_longestCold (n := 70) (by first | assumption | omega) in_X2_endDayOf_wsX20 k_X2_endDayOf_55 dX2_endDayOf_67 rfl ?_
    exact e_v dX2_endDayOf_70 rfl (by simp (disch := omega) only [mput_s, setp_at, setp_2, setp_r, upd_at, upd_ne] at c_39 ⊢; simp only [dayU, dayC, dayH, dayW, c_39, if_true, if_false])
  · try replace c_39 := i11 c_39
    refine r_al1 (n := 43) dX2_endDayOf_42 rfl ?_
    refine g_sm_coldDays (n := 46) (by first | assumption | omega) (by first | assumption | omega) in_X2_endDayOf_wsX10 k_X2_endDayOf_144 dX2_endDayOf_43 rfl ?_
    refine r_iconst (v := 1) (n := 47) dX2_endDayOf_46 (by decide) rfl ?_
    refine r_iadd (n := 48) dX2_endDayOf_47 rfl ?_
    refine r_goto (tgt := 52) dX2_endDayOf_48 (by decide) ?_
    refine p_sm_coldDays (n := 55) (by first | assumption | omega) (by first | assumption | omega) in_X2_endDayOf_wsX10 k_X2_endDayOf_144 dX2_endDayOf_52 rfl ?_
    refine r_al0 (n := 56) dX2_endDayOf_55 rfl ?_
    refine r_al0 (n := 57) dX2_endDayOf_56 rfl ?_
    refine g_st_longestCold (n := 60) (by first | assumption | omega) in_X2_endDayOf_wsX20 k_X2_endDayOf_55 dX2_endDayOf_57 rfl ?_
    refine r_al1 (n := 61) dX2_endDayOf_60 rfl ?_
    refine g_sm_coldDays (n := 64) (by first | assumption | omega) (by first | assumption | omega) in_X2_endDayOf_wsX10 k_X2_endDayOf_144 dX2_endDayOf_61 rfl ?_
    refine r_mmax (n := 67) (by decide) k_X2_endDayOf_147 ks_X2_endDayOf_max ki_X2_endDayOf_math kc_X2_endDayOf_max (Nat.le_of_ble_eq_true rfl) dX2_endDayOf_64 rfl ?_
    refine p_st_longestCold (n := 70) (by first | assumption | omega) in_X2_endDayOf_wsX20 k_X2_endDayOf_55 dX2_endDayOf_67 rfl ?_
    exact e_v dX2_endDayOf_70 rfl (by simp (disch := omega) only [mput_s, setp_at, setp_2, setp_r, upd_at, upd_ne] at c_39 ⊢; simp only [dayU, dayC, dayH, dayW, c_39, if_true, if_false])

set_option maxHeartbeats 4000000 in
set_option maxRecDepth 100000 in
theorem m_J6_bitCount_0f7a4 {v : Int32} : C_J6_bitCount_0f7a4 cA ad D [.int v] M (Ri (bitc v) M) := by
  refine PM_of (lv := [some (.int v)]) (by decide +kernel) rfl (Nat.le_of_ble_eq_true rfl) rfl ?_
  refine r_il0 (n := 1) dJ6_bitCount_0f7a4_0 rfl ?_
  refine r_il0 (n := 2) dJ6_bitCount_0f7a4_1 rfl ?_
  refine r_iconst (v := 1) (n := 3) dJ6_bitCount_0f7a4_2 (by decide) rfl ?_
  refine r_iushr (n := 4) dJ6_bitCount_0f7a4_3 rfl ?_
  refine r_ldcw (n := 7) dJ6_bitCount_0f7a4_4 k_J6_bitCount_0f7a4_265 rfl ?_
  refine r_iand (n := 8) dJ6_bitCount_0f7a4_7 rfl ?_
  refine r_isub (n := 9) dJ6_bitCount_0f7a4_8 rfl ?_
  refine r_is0 (n := 10) (by decide) rfl dJ6_bitCount_0f7a4_9 rfl ?_
  refine r_il0 (n := 11) dJ6_bitCount_0f7a4_10 rfl ?_
  refine r_ldcw (n := 14) dJ6_bitCount_0f7a4_11 k_J6_bitCount_0f7a4_266 rfl ?_
  refine r_iand (n := 15) dJ6_bitCount_0f7a4_14 rfl ?_
  refine r_il0 (n := 16) dJ6_bitCount_0f7a4_15 rfl ?_
  refine r_iconst (v := 2) (n := 17) dJ6_bitCount_0f7a4_16 (by decide) rfl ?_
  refine r_iushr (n := 18) dJ6_bitCount_0f7a4_17 rfl ?_
  refine r_ldcw (n := 21) dJ6_bitCount_0f7a4_18 k_J6_bitCount_0f7a4_266 rfl ?_
  refine r_iand (n := 22) dJ6_bitCount_0f7a4_21 rfl ?_
  refine r_iadd (n := 23) dJ6_bitCount_0f7a4_22 rfl ?_
  refine r_is0 (n := 24) (by decide) rfl dJ6_bitCount_0f7a4_23 rfl ?_
  refine r_il0 (n := 25) dJ6_bitCount_0f7a4_24 rfl ?_
  refine r_il0 (n := 26) dJ6_bitCount_0f7a4_25 rfl ?_
  refine r_iconst (v := 4) (n := 27) dJ6_bitCount_0f7a4_26 (by decide) rfl ?_
  refine r_iushr (n := 28) dJ6_bitCount_0f7a4_27 rfl ?_
  refine r_iadd (n := 29) dJ6_bitCount_0f7a4_28 rfl ?_
  refine r_ldcw (n := 32) dJ6_bitCount_0f7a4_29 k_J6_bitCount_0f7a4_267 rfl ?_
  refine r_iand (n := 33) dJ6_bitCount_0f7a4_32 rfl ?_
  refine r_is0 (n := 34) (by decide) rfl dJ6_bitCount_0f7a4_33 rfl ?_
  refine r_il0 (n := 35) dJ6_bitCount_0f7a4_34 rfl ?_
  refine r_il0 (n := 36) dJ6_bitCount_0f7a4_35 rfl ?_
  refine r_bipush (v := 8) (n := 38) dJ6_bitCount_0f7a4_36 (by decide) rfl ?_
  refine r_iushr (n := 39) dJ6_bitCount_0f7a4_38 rfl ?_
  refine r_iadd (n := 40) dJ6_bitCount_0f7a4_39 rfl ?_
  refine r_is0 (n := 41) (by decide) rfl dJ6_bitCount_0f7a4_40 rfl ?_
  refine r_il0 (n := 42) dJ6_bitCount_0f7a4_41 rfl ?_
  refine r_il0 (n := 43) dJ6_bitCount_0f7a4_42 rfl ?_
  refine r_bipush (v := 16) (n := 45) dJ6_bitCount_0f7a4_43 (by decide) rfl ?_
  refine r_iushr (n := 46) dJ6_bitCount_0f7a4_45 rfl ?_
  refine r_iadd (n := 47) dJ6_bitCount_0f7a4_46 rfl ?_
  refine r_is0 (n := 48) (by decide) rfl dJ6_bitCount_0f7a4_47 rfl ?_
  refine r_il0 (n := 49) dJ6_bitCount_0f7a4_48 rfl ?_
  refine r_bipush (v := 63) (n := 51) dJ6_bitCount_0f7a4_49 (by decide) rfl ?_
  refine r_iand (n := 52) dJ6_bitCount_0f7a4_51 rfl ?_
  exact e_i dJ6_bitCount_0f7a4_52 rfl rfl rfl

set_option maxHeartbeats 4000000 in
set_option maxRecDepth 100000 in
theorem l_X2_coldSet {p : Nat} (hp : p < 6) {N : Nat} (hN : M.1 p 0 = nI N) (h8 : N ≤ 8)  : ∀ (m i : Nat), i + m = N → P_X2_coldSet cA ad D 4 [some (.ref (ad (6 + 10 * p))), some (.int (csN (M.1 p) i)), some (.int (nI i)), none] [] M (Ri (csN (M.1 p) N) M) := by
  intro m
  induction m with
  | zero =>
    intro i hi
    have hi2 : i = N := by omega
    subst hi2
    refine r_il2 (n := 5) dX2_coldSet_4 rfl ?_
    refine r_al0 (n := 6) dX2_coldSet_5 rfl ?_
    refine g_st_smithyCount (n := 9) (by first | assumption | omega) in_X2_coldSet_wsX20 k_X2_coldSet_37 dX2_coldSet_6 rfl ?_
    refine r_icmp_ge (tgt := 45) (n := 12) dX2_coldSet_9 (by decide) rfl (fun c_9 => ?_) (fun c_9 => ?_)
    · refine r_il1 (n := 46) dX2_coldSet_45 rfl ?_
      exact e_i dX2_coldSet_46 rfl rfl rfl
    · exact absurd c_9 (fun h => h (by rw [hN]; exact nI_le (Nat.le_refl _) (by omega)))
  | succ m ih =>
    intro i hi
    refine r_il2 (n := 5) dX2_coldSet_4 rfl ?_
    refine r_al0 (n := 6) dX2_coldSet_5 rfl ?_
    refine g_st_smithyCount (n := 9) (by first | assumption | omega) in_X2_coldSet_wsX20 k_X2_coldSet_37 dX2_coldSet_6 rfl ?_
    refine r_icmp_ge (tgt := 45) (n := 12) dX2_coldSet_9 (by decide) rfl (fun c_9 => ?_) (fun c_9 => ?_)
    · exact absurd c_9 (by rw [hN]; exact nI_ge (by omega) (by omega))
    · refine r_al0 (n := 13) dX2_coldSet_12 rfl ?_
      refine r_il2 (n := 14) dX2_coldSet_13 rfl ?_
      refine cV_a (n := 17) (np := 1) (m_X2_find_s (N := N) (k := i) (by first | assumption | omega) hN h8 (by first | assumption | omega)) gX2_coldSet_X2_find rfl (by decide +kernel) rfl (by decide) (by decide) (by omega) (cell_st cA ad _ (by first | assumption | omega)) rfl dX2_coldSet_14 rfl rfl (Nat.le_of_ble_eq_true rfl) ?_
      refine r_as3 (n := 18) (by decide) rfl dX2_coldSet_17 rfl ?_
      refine r_al3 (n := 19) dX2_coldSet_18 rfl ?_
      refine r_ifnull (n := 22) dX2_coldSet_19 rfl ?_
      refine r_al0 (n := 23) dX2_coldSet_22 rfl ?_
      refine r_al3 (n := 24) dX2_coldSet_23 rfl ?_
      refine g_sm_heat (n := 27) (by first | assumption | omega) (by first | assumption | omega) in_X2_coldSet_wsX10 k_X2_coldSet_113 dX2_coldSet_24 rfl ?_
      refine cV_i (n := 30) (np := 1) (m_X2_isCold (by assumption)) gX2_coldSet_X2_isCold rfl (by decide +kernel) rfl (by decide) (by decide) (by omega) (cell_st cA ad _ (by first | assumption | omega)) rfl dX2_coldSet_27 rfl rfl (Nat.le_of_ble_eq_true rfl) ?_
      refine r_if_eq (tgt := 39) (n := 33) dX2_coldSet_30 (by decide) rfl (fun c_30 => ?_) (fun c_30 => ?_)
      · try replace c_30 := i10 c_30
        refine r_ii2 (n := 42) (by decide) rfl dX2_coldSet_39 (nI_inc _) rfl ?_
        refine r_goto (tgt := 4) dX2_coldSet_42 (by decide) ?_
        refine r_dr3 ?_
        have e : csN (M.1 p) (i + 1) = _ := rfl
        first
          | (have h := ih (i + 1) (by omega); simp only [csN, c_30, if_true, if_false] at h; exact h)
      · try replace c_30 := i11 c_30
        refine r_il1 (n := 34) dX2_coldSet_33 rfl ?_
        refine r_iconst (v := 1) (n := 35) dX2_coldSet_34 (by decide) rfl ?_
        refine r_il2 (n := 36) dX2_coldSet_35 rfl ?_
        refine r_ishl (n := 37) dX2_coldSet_36 rfl ?_
        refine r_ior (n := 38) dX2_coldSet_37 rfl ?_
        refine r_is1 (n := 39) (by decide) rfl dX2_coldSet_38 rfl ?_
        refine r_ii2 (n := 42) (by decide) rfl dX2_coldSet_39 (nI_inc _) rfl ?_
        refine r_goto (tgt := 4) dX2_coldSet_42 (by decide) ?_
        refine r_dr3 ?_
        have e : csN (M.1 p) (i + 1) = _ := rfl
        first
          | (have h := ih (i + 1) (by omega); simp only [csN, c_30, if_true, if_false] at h; exact h)

set_option maxHeartbeats 4000000 in
set_option maxRecDepth 100000 in
theorem m_X2_coldSet {p : Nat} (hp : p < 6) {N : Nat} (hN : M.1 p 0 = nI N) (h8 : N ≤ 8) : C_X2_coldSet cA ad D [.ref (ad (6 + 10 * p))] M (Ri (csN (M.1 p) N) M) := by
  refine PM_of (lv := [some (.ref (ad (6 + 10 * p))), none, none, none]) (by decide +kernel) rfl (Nat.le_of_ble_eq_true rfl) rfl ?_
  refine r_iconst (v := 0) (n := 1) dX2_coldSet_0 (by decide) rfl ?_
  refine r_is1 (n := 2) (by decide) rfl dX2_coldSet_1 rfl ?_
  refine r_iconst (v := 0) (n := 3) dX2_coldSet_2 (by decide) rfl ?_
  refine r_is2 (n := 4) (by decide) rfl dX2_coldSet_3 rfl ?_
  exact l_X2_coldSet hp hN h8 N 0 (by omega)

set_option maxHeartbeats 4000000 in
set_option maxRecDepth 100000 in
theorem l_X2_debtsTogether {p : Nat} (hp : p < 6) {N : Nat} (hN : M.1 p 0 = nI N) (h8 : N ≤ 8)  : ∀ (m i : Nat), i + m = N → P_X2_debtsTogether cA ad D 4 [some (.ref (ad (6 + 10 * p))), some (.int (sumN (M.1 p) 5 i)), some (.int (nI i)), none] [] M (Ri (sumN (M.1 p) 5 N) M) := by
  intro m
  induction m with
  | zero =>
    intro i hi
    have hi2 : i = N := by omega
    subst hi2
    refine r_il2 (n := 5) dX2_debtsTogether_4 rfl ?_
    refine r_al0 (n := 6) dX2_debtsTogether_5 rfl ?_
    refine g_st_smithyCount (n := 9) (by first | assumption | omega) in_X2_debtsTogether_wsX20 k_X2_debtsTogether_37 dX2_debtsTogether_6 rfl ?_
    refine r_icmp_ge (tgt := 35) (n := 12) dX2_debtsTogether_9 (by decide) rfl (fun c_9 => ?_) (fun c_9 => ?_)
    · refine r_il1 (n := 36) dX2_debtsTogether_35 rfl ?_
      exact e_i dX2_debtsTogether_36 rfl rfl rfl
    · exact absurd c_9 (fun h => h (by rw [hN]; exact nI_le (Nat.le_refl _) (by omega)))
  | succ m ih =>
    intro i hi
    refine r_il2 (n := 5) dX2_debtsTogether_4 rfl ?_
    refine r_al0 (n := 6) dX2_debtsTogether_5 rfl ?_
    refine g_st_smithyCount (n := 9) (by first | assumption | omega) in_X2_debtsTogether_wsX20 k_X2_debtsTogether_37 dX2_debtsTogether_6 rfl ?_
    refine r_icmp_ge (tgt := 35) (n := 12) dX2_debtsTogether_9 (by decide) rfl (fun c_9 => ?_) (fun c_9 => ?_)
    · exact absurd c_9 (by rw [hN]; exact nI_ge (by omega) (by omega))
    · refine r_al0 (n := 13) dX2_debtsTogether_12 rfl ?_
      refine r_il2 (n := 14) dX2_debtsTogether_13 rfl ?_
      refine cV_a (n := 17) (np := 1) (m_X2_find_s (N := N) (k := i) (by first | assumption | omega) hN h8 (by first | assumption | omega)) gX2_debtsTogether_X2_find rfl (by decide +kernel) rfl (by decide) (by decide) (by omega) (cell_st cA ad _ (by first | assumption | omega)) rfl dX2_debtsTogether_14 rfl rfl (Nat.le_of_ble_eq_true rfl) ?_
      refine r_as3 (n := 18) (by decide) rfl dX2_debtsTogether_17 rfl ?_
      refine r_al3 (n := 19) dX2_debtsTogether_18 rfl ?_
      refine r_ifnull (n := 22) dX2_debtsTogether_19 rfl ?_
      refine r_il1 (n := 23) dX2_debtsTogether_22 rfl ?_
      refine r_al3 (n := 24) dX2_debtsTogether_23 rfl ?_
      refine g_sm_debt (n := 27) (by first | assumption | omega) (by first | assumption | omega) in_X2_debtsTogether_wsX10 k_X2_debtsTogether_100 dX2_debtsTogether_24 rfl ?_
      refine r_iadd (n := 28) dX2_debtsTogether_27 rfl ?_
      refine r_is1 (n := 29) (by decide) rfl dX2_debtsTogether_28 rfl ?_
      refine r_ii2 (n := 32) (by decide) rfl dX2_debtsTogether_29 (nI_inc _) rfl ?_
      refine r_goto (tgt := 4) dX2_debtsTogether_32 (by decide) ?_
      refine r_dr3 ?_
      exact ih (i + 1) (by omega)

set_option maxHeartbeats 4000000 in
set_option maxRecDepth 100000 in
theorem m_X2_debtsTogether {p : Nat} (hp : p < 6) {N : Nat} (hN : M.1 p 0 = nI N) (h8 : N ≤ 8) : C_X2_debtsTogether cA ad D [.ref (ad (6 + 10 * p))] M (Ri (sumN (M.1 p) 5 N) M) := by
  refine PM_of (lv := [some (.ref (ad (6 + 10 * p))), none, none, none]) (by decide +kernel) rfl (Nat.le_of_ble_eq_true rfl) rfl ?_
  refine r_iconst (v := 0) (n := 1) dX2_debtsTogether_0 (by decide) rfl ?_
  refine r_is1 (n := 2) (by decide) rfl dX2_debtsTogether_1 rfl ?_
  refine r_iconst (v := 0) (n := 3) dX2_debtsTogether_2 (by decide) rfl ?_
  refine r_is2 (n := 4) (by decide) rfl dX2_debtsTogether_3 rfl ?_
  exact l_X2_debtsTogether hp hN h8 N 0 (by omega)

end STATES2

