/-! ===== the reference: changes ===== -/
section MCH
variable {cA : Nat → ClassId} {ad : Nat → Nat} {D : va_G} {M : Mem}
set_option maxHeartbeats 4000000 in
set_option maxRecDepth 100000 in
theorem m_X4_walk {M' : Mem} (hch : C_X4_changes cA ad D [.ref (ad 4)] M (Rv M')) (h10 : M'.1 10 = M.1 10) {v : Int32} : C_X4_walk cA ad D [.ref (ad 4), .int v] M (Ri (walkM (M.1 10) v).1 (mo M M' (walkM (M.1 10) v).2)) := by
  refine PM_of (lv := [some (.ref (ad 4)), some (.int v), none]) (by decide +kernel) rfl (Nat.le_of_ble_eq_true rfl) rfl ?_
  refine r_il1 (n := 1) dX4_walk_0 rfl ?_
  refine r_iconst (v := 0) (n := 2) dX4_walk_1 (by decide) rfl ?_
  refine r_bipush (v := 99) (n := 4) dX4_walk_2 (by decide) rfl ?_
  refine cS_i (n := 7) (np := 3) (m_X4_in) gX4_walk_X4_in rfl (by decide +kernel) rfl (by decide) (by decide) dX4_walk_4 rfl rfl (Nat.le_of_ble_eq_true rfl) ?_
  refine r_if_ne (tgt := 13) (n := 10) dX4_walk_7 (by decide) rfl (fun c_7 => ?_) (fun c_7 => ?_)
  · replace c_7 := bI_1 c_7
    refine r_al0 (n := 14) dX4_walk_13 rfl ?_
    refine g_mo_s (n := 17)  in_X4_walk_wsX40 k_X4_walk_7 dX4_walk_14 rfl ?_
    refine r_iconst (v := 2) (n := 18) dX4_walk_17 (by decide) rfl ?_
    refine a_s (n := 19) (k := 2) (by decide) (by decide) dX4_walk_18 rfl ?_
    refine r_il1 (n := 20) dX4_walk_19 rfl ?_
    refine cS_i (n := 23) (np := 2) (m_X4_hoursBetween) gX4_walk_X4_hoursBetween rfl (by decide +kernel) rfl (by decide) (by decide) dX4_walk_20 rfl rfl (Nat.le_of_ble_eq_true rfl) ?_
    refine r_is2 (n := 24) (by decide) rfl dX4_walk_23 rfl ?_
    refine r_il2 (n := 25) dX4_walk_24 rfl ?_
    refine r_al0 (n := 26) dX4_walk_25 rfl ?_
    refine g_mo_s (n := 29)  in_X4_walk_wsX40 k_X4_walk_7 dX4_walk_26 rfl ?_
    refine r_iconst (v := 3) (n := 30) dX4_walk_29 (by decide) rfl ?_
    refine a_s (n := 31) (k := 3) (by decide) (by decide) dX4_walk_30 rfl ?_
    refine r_icmp_le (tgt := 37) (n := 34) dX4_walk_31 (by decide) rfl (fun c_31 => ?_) (fun c_31 => ?_)
    · refine r_al0 (n := 38) dX4_walk_37 rfl ?_
      refine cV_v (n := 41) (np := 0) (hch) gX4_walk_X4_changes rfl (by decide +kernel) rfl (by decide) (by decide) (by omega) rfl rfl dX4_walk_38 rfl rfl (Nat.le_of_ble_eq_true rfl) ?_
      refine r_al0 (n := 42) dX4_walk_41 rfl ?_
      refine g_mo_s (n := 45)  in_X4_walk_wsX40 k_X4_walk_7 dX4_walk_42 rfl ?_
      refine r_iconst (v := 3) (n := 46) dX4_walk_45 (by decide) rfl ?_
      refine r_dup2 (n := 47) dX4_walk_46 rfl rfl rfl ?_
      refine a_s (n := 48) (k := 3) (by decide) (by decide) dX4_walk_47 rfl ?_
      refine r_il2 (n := 49) dX4_walk_48 rfl ?_
      refine r_isub (n := 50) dX4_walk_49 rfl ?_
      refine a_put_s (n := 51) (k := 3) (by decide) (by decide) dX4_walk_50 rfl ?_
      refine r_al0 (n := 52) dX4_walk_51 rfl ?_
      refine g_mo_s (n := 55)  in_X4_walk_wsX40 k_X4_walk_7 dX4_walk_52 rfl ?_
      refine r_bipush (v := 9) (n := 57) dX4_walk_55 (by decide) rfl ?_
      refine r_dup2 (n := 58) dX4_walk_57 rfl rfl rfl ?_
      refine a_s (n := 59) (k := 9) (by decide) (by decide) dX4_walk_58 rfl ?_
      refine r_al0 (n := 60) dX4_walk_59 rfl ?_
      refine g_mo_s (n := 63)  in_X4_walk_wsX40 k_X4_walk_7 dX4_walk_60 rfl ?_
      refine r_iconst (v := 2) (n := 64) dX4_walk_63 (by decide) rfl ?_
      refine a_s (n := 65) (k := 2) (by decide) (by decide) dX4_walk_64 rfl ?_
      refine r_il1 (n := 66) dX4_walk_65 rfl ?_
      refine r_isub (n := 67) dX4_walk_66 rfl ?_
      refine cS_i (n := 70) (np := 1) (m_X4_size) gX4_walk_X4_size rfl (by decide +kernel) rfl (by decide) (by decide) dX4_walk_67 rfl rfl (Nat.le_of_ble_eq_true rfl) ?_
      refine r_iadd (n := 71) dX4_walk_70 rfl ?_
      refine a_put_s (n := 72) (k := 9) (by decide) (by decide) dX4_walk_71 rfl ?_
      refine r_al0 (n := 73) dX4_walk_72 rfl ?_
      refine g_mo_s (n := 76)  in_X4_walk_wsX40 k_X4_walk_7 dX4_walk_73 rfl ?_
      refine r_iconst (v := 2) (n := 77) dX4_walk_76 (by decide) rfl ?_
      refine r_il1 (n := 78) dX4_walk_77 rfl ?_
      refine a_put_s (n := 79) (k := 2) (by decide) (by decide) dX4_walk_78 rfl ?_
      refine r_al0 (n := 80) dX4_walk_79 rfl ?_
      refine g_mo_s (n := 83)  in_X4_walk_wsX40 k_X4_walk_7 dX4_walk_80 rfl ?_
      refine r_iconst (v := 3) (n := 84) dX4_walk_83 (by decide) rfl ?_
      refine a_s (n := 85) (k := 3) (by decide) (by decide) dX4_walk_84 rfl ?_
      exact e_i dX4_walk_85 rfl (by simp (disch := omega) [walkM, h10, mput_s, setp_at, setp_2, upd_at, upd_ne, *]) (by simp (disch := omega) [walkM, mo, mput_s, setp_at, setp_2, upd_at, upd_ne, h10, *])
    · refine r_ldc (n := 36) dX4_walk_34 k_X4_walk_71 rfl ?_
      exact e_i dX4_walk_36 rfl (by simp (disch := omega) [walkM, h10, mput_s, setp_at, setp_2, upd_at, upd_ne, *]) (by simp (disch := omega) [walkM, mo, mput_s, setp_at, setp_2, upd_at, upd_ne, h10, *])
  · replace c_7 := bI_0 c_7
    refine r_ldc (n := 12) dX4_walk_10 k_X4_walk_57 rfl ?_
    exact e_i dX4_walk_12 rfl (by simp (disch := omega) [walkM, h10, mput_s, setp_at, setp_2, upd_at, upd_ne, *]) (by simp (disch := omega) [walkM, mo, mput_s, setp_at, setp_2, upd_at, upd_ne, h10, *])

set_option maxHeartbeats 4000000 in
set_option maxRecDepth 100000 in
theorem m_X4_buy {M' : Mem} (hch : C_X4_changes cA ad D [.ref (ad 4)] M (Rv M')) (h10 : M'.1 10 = M.1 10) {v : Int32} : C_X4_buy cA ad D [.ref (ad 4), .int v] M (Ri (buyM (M.1 10) v).1 (mo M M' (buyM (M.1 10) v).2)) := by
  refine PM_of (lv := [some (.ref (ad 4)), some (.int v)]) (by decide +kernel) rfl (Nat.le_of_ble_eq_true rfl) rfl ?_
  refine r_il1 (n := 1) dX4_buy_0 rfl ?_
  refine r_iconst (v := 1) (n := 2) dX4_buy_1 (by decide) rfl ?_
  refine r_sipush (v := 999) (n := 5) dX4_buy_2 (by decide) rfl ?_
  refine cS_i (n := 8) (np := 3) (m_X4_in) gX4_buy_X4_in rfl (by decide +kernel) rfl (by decide) (by decide) dX4_buy_5 rfl rfl (Nat.le_of_ble_eq_true rfl) ?_
  refine r_if_ne (tgt := 14) (n := 11) dX4_buy_8 (by decide) rfl (fun c_8 => ?_) (fun c_8 => ?_)
  · replace c_8 := bI_1 c_8
    refine r_al0 (n := 15) dX4_buy_14 rfl ?_
    refine g_mo_s (n := 18)  in_X4_buy_wsX40 k_X4_buy_7 dX4_buy_15 rfl ?_
    refine r_iconst (v := 2) (n := 19) dX4_buy_18 (by decide) rfl ?_
    refine a_s (n := 20) (k := 2) (by decide) (by decide) dX4_buy_19 rfl ?_
    refine r_if_eq (tgt := 26) (n := 23) dX4_buy_20 (by decide) rfl (fun c_20 => ?_) (fun c_20 => ?_)
    · refine r_al0 (n := 27) dX4_buy_26 rfl ?_
      refine g_mo_s (n := 30)  in_X4_buy_wsX40 k_X4_buy_7 dX4_buy_27 rfl ?_
      refine r_iconst (v := 4) (n := 31) dX4_buy_30 (by decide) rfl ?_
      refine a_s (n := 32) (k := 4) (by decide) (by decide) dX4_buy_31 rfl ?_
      refine r_il1 (n := 33) dX4_buy_32 rfl ?_
      refine r_iadd (n := 34) dX4_buy_33 rfl ?_
      refine r_sipush (v := 999) (n := 37) dX4_buy_34 (by decide) rfl ?_
      refine r_icmp_le (tgt := 43) (n := 40) dX4_buy_37 (by decide) rfl (fun c_37 => ?_) (fun c_37 => ?_)
      · refine r_al0 (n := 44) dX4_buy_43 rfl ?_
        refine cV_v (n := 47) (np := 0) (hch) gX4_buy_X4_changes rfl (by decide +kernel) rfl (by decide) (by decide) (by omega) rfl rfl dX4_buy_44 rfl rfl (Nat.le_of_ble_eq_true rfl) ?_
        refine r_al0 (n := 48) dX4_buy_47 rfl ?_
        refine g_mo_s (n := 51)  in_X4_buy_wsX40 k_X4_buy_7 dX4_buy_48 rfl ?_
        refine r_iconst (v := 4) (n := 52) dX4_buy_51 (by decide) rfl ?_
        refine r_dup2 (n := 53) dX4_buy_52 rfl rfl rfl ?_
        refine a_s (n := 54) (k := 4) (by decide) (by decide) dX4_buy_53 rfl ?_
        refine r_il1 (n := 55) dX4_buy_54 rfl ?_
        refine r_iadd (n := 56) dX4_buy_55 rfl ?_
        refine a_put_s (n := 57) (k := 4) (by decide) (by decide) dX4_buy_56 rfl ?_
        refine r_al0 (n := 58) dX4_buy_57 rfl ?_
        refine g_mo_s (n := 61)  in_X4_buy_wsX40 k_X4_buy_7 dX4_buy_58 rfl ?_
        refine r_iconst (v := 5) (n := 62) dX4_buy_61 (by decide) rfl ?_
        refine r_dup2 (n := 63) dX4_buy_62 rfl rfl rfl ?_
        refine a_s (n := 64) (k := 5) (by decide) (by decide) dX4_buy_63 rfl ?_
        refine r_iconst (v := 2) (n := 65) dX4_buy_64 (by decide) rfl ?_
        refine r_il1 (n := 66) dX4_buy_65 rfl ?_
        refine r_imul (n := 67) dX4_buy_66 rfl ?_
        refine r_isub (n := 68) dX4_buy_67 rfl ?_
        refine a_put_s (n := 69) (k := 5) (by decide) (by decide) dX4_buy_68 rfl ?_
        refine r_al0 (n := 70) dX4_buy_69 rfl ?_
        refine g_mo_s (n := 73)  in_X4_buy_wsX40 k_X4_buy_7 dX4_buy_70 rfl ?_
        refine r_bipush (v := 6) (n := 75) dX4_buy_73 (by decide) rfl ?_
        refine r_dup2 (n := 76) dX4_buy_75 rfl rfl rfl ?_
        refine a_s (n := 77) (k := 6) (by decide) (by decide) dX4_buy_76 rfl ?_
        refine r_iconst (v := 2) (n := 78) dX4_buy_77 (by decide) rfl ?_
        refine r_il1 (n := 79) dX4_buy_78 rfl ?_
        refine r_imul (n := 80) dX4_buy_79 rfl ?_
        refine r_iadd (n := 81) dX4_buy_80 rfl ?_
        refine a_put_s (n := 82) (k := 6) (by decide) (by decide) dX4_buy_81 rfl ?_
        refine r_al0 (n := 83) dX4_buy_82 rfl ?_
        refine g_mo_s (n := 86)  in_X4_buy_wsX40 k_X4_buy_7 dX4_buy_83 rfl ?_
        refine r_iconst (v := 4) (n := 87) dX4_buy_86 (by decide) rfl ?_
        refine a_s (n := 88) (k := 4) (by decide) (by decide) dX4_buy_87 rfl ?_
        exact e_i dX4_buy_88 rfl (by simp (disch := omega) [buyM, h10, mput_s, setp_at, setp_2, upd_at, upd_ne, *]) (by simp (disch := omega) [buyM, mo, mput_s, setp_at, setp_2, upd_at, upd_ne, h10, *])
      · refine r_ldc (n := 42) dX4_buy_40 k_X4_buy_58 rfl ?_
        exact e_i dX4_buy_42 rfl (by simp (disch := omega) [buyM, h10, mput_s, setp_at, setp_2, upd_at, upd_ne, *]) (by simp (disch := omega) [buyM, mo, mput_s, setp_at, setp_2, upd_at, upd_ne, h10, *])
    · refine r_ldc (n := 25) dX4_buy_23 k_X4_buy_71 rfl ?_
      exact e_i dX4_buy_25 rfl (by simp (disch := omega) [buyM, h10, mput_s, setp_at, setp_2, upd_at, upd_ne, *]) (by simp (disch := omega) [buyM, mo, mput_s, setp_at, setp_2, upd_at, upd_ne, h10, *])
  · replace c_8 := bI_0 c_8
    refine r_ldc (n := 13) dX4_buy_11 k_X4_buy_57 rfl ?_
    exact e_i dX4_buy_13 rfl (by simp (disch := omega) [buyM, h10, mput_s, setp_at, setp_2, upd_at, upd_ne, *]) (by simp (disch := omega) [buyM, mo, mput_s, setp_at, setp_2, upd_at, upd_ne, h10, *])

set_option maxHeartbeats 4000000 in
set_option maxRecDepth 100000 in
theorem m_X4_patch_n {j : Int32} (hj : ¬ isSm (M.1 10) j) : C_X4_patch cA ad D [.ref (ad 4), .int j] M (Ri IA M) := by
  refine PM_of (lv := [some (.ref (ad 4)), some (.int j)]) (by decide +kernel) rfl (Nat.le_of_ble_eq_true rfl) rfl ?_
  refine r_al0 (n := 1) dX4_patch_0 rfl ?_
  refine r_il1 (n := 2) dX4_patch_1 rfl ?_
  refine cV_i (n := 5) (np := 1) (m_X4_isSmithy_n hj) gX4_patch_X4_isSmithy rfl (by decide +kernel) rfl (by decide) (by decide) (by omega) rfl rfl dX4_patch_2 rfl rfl (Nat.le_of_ble_eq_true rfl) ?_
  refine r_if_ne (tgt := 11) (n := 8) dX4_patch_5 (by decide) rfl (fun c_5 => ?_) (fun c_5 => ?_)
  · exact absurd c_5 (fun q => q rfl)
  · try replace c_5 := i10 c_5
    refine r_ldc (n := 10) dX4_patch_8 k_X4_patch_57 rfl ?_
    exact e_i dX4_patch_10 rfl rfl rfl

set_option maxHeartbeats 4000000 in
set_option maxRecDepth 100000 in
theorem m_X4_patch_s {M' : Mem} (hch : C_X4_changes cA ad D [.ref (ad 4)] M (Rv M')) (h10 : M'.1 10 = M.1 10) {N : Nat} (hN : M.1 10 0 = nI N) (h8 : N ≤ 8) {k : Nat} (hk : k < N) : C_X4_patch cA ad D [.ref (ad 4), .int (nI k)] M (Ri (mendM (M.1 10) k false).1 (mo M M' (mendM (M.1 10) k false).2)) := by
  refine PM_of (lv := [some (.ref (ad 4)), some (.int (nI k))]) (by decide +kernel) rfl (Nat.le_of_ble_eq_true rfl) rfl ?_
  have hk8 : k < 8 := by omega
  refine r_al0 (n := 1) dX4_patch_0 rfl ?_
  refine r_il1 (n := 2) dX4_patch_1 rfl ?_
  refine cV_i (n := 5) (np := 1) (m_X4_isSmithy_y hN h8 hk) gX4_patch_X4_isSmithy rfl (by decide +kernel) rfl (by decide) (by decide) (by omega) rfl rfl dX4_patch_2 rfl rfl (Nat.le_of_ble_eq_true rfl) ?_
  refine r_if_ne (tgt := 11) (n := 8) dX4_patch_5 (by decide) rfl (fun c_5 => ?_) (fun c_5 => ?_)
  · try replace c_5 := i11 c_5
    refine r_al0 (n := 12) dX4_patch_11 rfl ?_
    refine r_il1 (n := 13) dX4_patch_12 rfl ?_
    refine r_iconst (v := 0) (n := 14) dX4_patch_13 (by decide) rfl ?_
    refine cV_i (n := 17) (np := 2) (m_X4_whyNot hk8 false) gX4_patch_X4_whyNot rfl (by decide +kernel) rfl (by decide) (by decide) (by omega) rfl rfl dX4_patch_14 rfl rfl (Nat.le_of_ble_eq_true rfl) ?_
    refine r_if_eq (tgt := 23) (n := 20) dX4_patch_17 (by decide) rfl (fun c_17 => ?_) (fun c_17 => ?_)
    · refine r_al0 (n := 24) dX4_patch_23 rfl ?_
      refine cV_v (n := 27) (np := 0) (hch) gX4_patch_X4_changes rfl (by decide +kernel) rfl (by decide) (by decide) (by omega) rfl rfl dX4_patch_24 rfl rfl (Nat.le_of_ble_eq_true rfl) ?_
      refine r_al0 (n := 28) dX4_patch_27 rfl ?_
      refine r_il1 (n := 29) dX4_patch_28 rfl ?_
      refine r_iconst (v := 0) (n := 30) dX4_patch_29 (by decide) rfl ?_
      refine cV_v (n := 33) (np := 2) (m_X4_mends hk8 false) gX4_patch_X4_mends rfl (by decide +kernel) rfl (by decide) (by decide) (by omega) rfl rfl dX4_patch_30 rfl rfl (Nat.le_of_ble_eq_true rfl) ?_
      refine r_al0 (n := 34) dX4_patch_33 rfl ?_
      refine r_il1 (n := 35) dX4_patch_34 rfl ?_
      refine r_iconst (v := 2) (n := 36) dX4_patch_35 (by decide) rfl ?_
      refine cV_i (n := 39) (np := 2) (m_X4_of (k := k) (j := 2) hk8 (by decide)) gX4_patch_X4_of rfl (by decide +kernel) rfl (by decide) (by decide) (by omega) rfl rfl dX4_patch_36 rfl rfl (Nat.le_of_ble_eq_true rfl) ?_
      exact e_i dX4_patch_39 rfl (by simp (disch := omega) [mendM, mendR, mendU, wearBM, collU, pays, h10, mput_s, setp_at, setp_2, upd_at, upd_ne, *]) (by simp (disch := omega) [mendM, mo, collU, pays, mput_s, setp_at, setp_2, upd_at, upd_ne, h10, *])
    · refine r_ldc (n := 22) dX4_patch_20 k_X4_patch_71 rfl ?_
      exact e_i dX4_patch_22 rfl (by simp (disch := omega) [mendM, mendR, mendU, wearBM, collU, pays, h10, mput_s, setp_at, setp_2, upd_at, upd_ne, *]) (by simp (disch := omega) [mendM, mo, collU, pays, mput_s, setp_at, setp_2, upd_at, upd_ne, h10, *])
  · exact absurd c_5 (by decide)

set_option maxHeartbeats 4000000 in
set_option maxRecDepth 100000 in
theorem m_X4_hide_n {j : Int32} (hj : ¬ isSm (M.1 10) j) : C_X4_hide cA ad D [.ref (ad 4), .int j] M (Ri IA M) := by
  refine PM_of (lv := [some (.ref (ad 4)), some (.int j)]) (by decide +kernel) rfl (Nat.le_of_ble_eq_true rfl) rfl ?_
  refine r_al0 (n := 1) dX4_hide_0 rfl ?_
  refine r_il1 (n := 2) dX4_hide_1 rfl ?_
  refine cV_i (n := 5) (np := 1) (m_X4_isSmithy_n hj) gX4_hide_X4_isSmithy rfl (by decide +kernel) rfl (by decide) (by decide) (by omega) rfl rfl dX4_hide_2 rfl rfl (Nat.le_of_ble_eq_true rfl) ?_
  refine r_if_ne (tgt := 11) (n := 8) dX4_hide_5 (by decide) rfl (fun c_5 => ?_) (fun c_5 => ?_)
  · exact absurd c_5 (fun q => q rfl)
  · try replace c_5 := i10 c_5
    refine r_ldc (n := 10) dX4_hide_8 k_X4_hide_57 rfl ?_
    exact e_i dX4_hide_10 rfl rfl rfl

set_option maxHeartbeats 4000000 in
set_option maxRecDepth 100000 in
theorem m_X4_hide_s {M' : Mem} (hch : C_X4_changes cA ad D [.ref (ad 4)] M (Rv M')) (h10 : M'.1 10 = M.1 10) {N : Nat} (hN : M.1 10 0 = nI N) (h8 : N ≤ 8) {k : Nat} (hk : k < N) : C_X4_hide cA ad D [.ref (ad 4), .int (nI k)] M (Ri (mendM (M.1 10) k true).1 (mo M M' (mendM (M.1 10) k true).2)) := by
  refine PM_of (lv := [some (.ref (ad 4)), some (.int (nI k))]) (by decide +kernel) rfl (Nat.le_of_ble_eq_true rfl) rfl ?_
  have hk8 : k < 8 := by omega
  refine r_al0 (n := 1) dX4_hide_0 rfl ?_
  refine r_il1 (n := 2) dX4_hide_1 rfl ?_
  refine cV_i (n := 5) (np := 1) (m_X4_isSmithy_y hN h8 hk) gX4_hide_X4_isSmithy rfl (by decide +kernel) rfl (by decide) (by decide) (by omega) rfl rfl dX4_hide_2 rfl rfl (Nat.le_of_ble_eq_true rfl) ?_
  refine r_if_ne (tgt := 11) (n := 8) dX4_hide_5 (by decide) rfl (fun c_5 => ?_) (fun c_5 => ?_)
  · try replace c_5 := i11 c_5
    refine r_al0 (n := 12) dX4_hide_11 rfl ?_
    refine r_il1 (n := 13) dX4_hide_12 rfl ?_
    refine r_iconst (v := 1) (n := 14) dX4_hide_13 (by decide) rfl ?_
    refine cV_i (n := 17) (np := 2) (m_X4_whyNot hk8 true) gX4_hide_X4_whyNot rfl (by decide +kernel) rfl (by decide) (by decide) (by omega) rfl rfl dX4_hide_14 rfl rfl (Nat.le_of_ble_eq_true rfl) ?_
    refine r_if_eq (tgt := 23) (n := 20) dX4_hide_17 (by decide) rfl (fun c_17 => ?_) (fun c_17 => ?_)
    · refine r_al0 (n := 24) dX4_hide_23 rfl ?_
      refine cV_v (n := 27) (np := 0) (hch) gX4_hide_X4_changes rfl (by decide +kernel) rfl (by decide) (by decide) (by omega) rfl rfl dX4_hide_24 rfl rfl (Nat.le_of_ble_eq_true rfl) ?_
      refine r_al0 (n := 28) dX4_hide_27 rfl ?_
      refine r_il1 (n := 29) dX4_hide_28 rfl ?_
      refine r_iconst (v := 1) (n := 30) dX4_hide_29 (by decide) rfl ?_
      refine cV_v (n := 33) (np := 2) (m_X4_mends hk8 true) gX4_hide_X4_mends rfl (by decide +kernel) rfl (by decide) (by decide) (by omega) rfl rfl dX4_hide_30 rfl rfl (Nat.le_of_ble_eq_true rfl) ?_
      refine r_al0 (n := 34) dX4_hide_33 rfl ?_
      refine r_il1 (n := 35) dX4_hide_34 rfl ?_
      refine r_iconst (v := 5) (n := 36) dX4_hide_35 (by decide) rfl ?_
      refine cV_i (n := 39) (np := 2) (m_X4_of (k := k) (j := 5) hk8 (by decide)) gX4_hide_X4_of rfl (by decide +kernel) rfl (by decide) (by decide) (by omega) rfl rfl dX4_hide_36 rfl rfl (Nat.le_of_ble_eq_true rfl) ?_
      exact e_i dX4_hide_39 rfl (by simp (disch := omega) [mendM, mendR, mendU, wearBM, collU, pays, h10, mput_s, setp_at, setp_2, upd_at, upd_ne, *]) (by simp (disch := omega) [mendM, mo, collU, pays, mput_s, setp_at, setp_2, upd_at, upd_ne, h10, *])
    · refine r_ldc (n := 22) dX4_hide_20 k_X4_hide_71 rfl ?_
      exact e_i dX4_hide_22 rfl (by simp (disch := omega) [mendM, mendR, mendU, wearBM, collU, pays, h10, mput_s, setp_at, setp_2, upd_at, upd_ne, *]) (by simp (disch := omega) [mendM, mo, collU, pays, mput_s, setp_at, setp_2, upd_at, upd_ne, h10, *])
  · exact absurd c_5 (by decide)

set_option maxHeartbeats 4000000 in
set_option maxRecDepth 100000 in
theorem m_X4_collect_n {j : Int32} (hj : ¬ isSm (M.1 10) j) : C_X4_collect cA ad D [.ref (ad 4), .int j] M (Ri IA M) := by
  refine PM_of (lv := [some (.ref (ad 4)), some (.int j), none]) (by decide +kernel) rfl (Nat.le_of_ble_eq_true rfl) rfl ?_
  refine r_al0 (n := 1) dX4_collect_0 rfl ?_
  refine r_il1 (n := 2) dX4_collect_1 rfl ?_
  refine cV_i (n := 5) (np := 1) (m_X4_isSmithy_n hj) gX4_collect_X4_isSmithy rfl (by decide +kernel) rfl (by decide) (by decide) (by omega) rfl rfl dX4_collect_2 rfl rfl (Nat.le_of_ble_eq_true rfl) ?_
  refine r_if_ne (tgt := 11) (n := 8) dX4_collect_5 (by decide) rfl (fun c_5 => ?_) (fun c_5 => ?_)
  · exact absurd c_5 (fun q => q rfl)
  · try replace c_5 := i10 c_5
    refine r_ldc (n := 10) dX4_collect_8 k_X4_collect_57 rfl ?_
    exact e_i dX4_collect_10 rfl rfl rfl

set_option maxHeartbeats 4000000 in
set_option maxRecDepth 100000 in
theorem m_X4_collect_s {M' : Mem} (hch : C_X4_changes cA ad D [.ref (ad 4)] M (Rv M')) (h10 : M'.1 10 = M.1 10) {N : Nat} (hN : M.1 10 0 = nI N) (h8 : N ≤ 8) {k : Nat} (hk : k < N) : C_X4_collect cA ad D [.ref (ad 4), .int (nI k)] M (Ri (collM (M.1 10) k).1 (mo M M' (collM (M.1 10) k).2)) := by
  refine PM_of (lv := [some (.ref (ad 4)), some (.int (nI k)), none]) (by decide +kernel) rfl (Nat.le_of_ble_eq_true rfl) rfl ?_
  have hk8 : k < 8 := by omega
  refine r_al0 (n := 1) dX4_collect_0 rfl ?_
  refine r_il1 (n := 2) dX4_collect_1 rfl ?_
  refine cV_i (n := 5) (np := 1) (m_X4_isSmithy_y hN h8 hk) gX4_collect_X4_isSmithy rfl (by decide +kernel) rfl (by decide) (by decide) (by omega) rfl rfl dX4_collect_2 rfl rfl (Nat.le_of_ble_eq_true rfl) ?_
  refine r_if_ne (tgt := 11) (n := 8) dX4_collect_5 (by decide) rfl (fun c_5 => ?_) (fun c_5 => ?_)
  · try replace c_5 := i11 c_5
    refine r_al0 (n := 12) dX4_collect_11 rfl ?_
    refine g_mo_s (n := 15)  in_X4_collect_wsX40 k_X4_collect_7 dX4_collect_12 rfl ?_
    refine r_iconst (v := 2) (n := 16) dX4_collect_15 (by decide) rfl ?_
    refine a_s (n := 17) (k := 2) (by decide) (by decide) dX4_collect_16 rfl ?_
    refine r_al0 (n := 18) dX4_collect_17 rfl ?_
    refine r_il1 (n := 19) dX4_collect_18 rfl ?_
    refine r_iconst (v := 0) (n := 20) dX4_collect_19 (by decide) rfl ?_
    refine cV_i (n := 23) (np := 2) (m_X4_of (k := k) (j := 0) hk8 (by decide)) gX4_collect_X4_of rfl (by decide +kernel) rfl (by decide) (by decide) (by omega) rfl rfl dX4_collect_20 rfl rfl (Nat.le_of_ble_eq_true rfl) ?_
    rw [Nat.add_zero]
    refine r_icmp_ne (tgt := 35) (n := 26) dX4_collect_23 (by decide) rfl (fun c_23 => ?_) (fun c_23 => ?_)
    · refine r_ldc (n := 37) dX4_collect_35 k_X4_collect_71 rfl ?_
      exact e_i dX4_collect_37 rfl (by simp (disch := omega) [collM, mendR, mendU, wearBM, collU, pays, h10, mput_s, setp_at, setp_2, upd_at, upd_ne, *]) (by simp (disch := omega) [collM, mo, collU, pays, mput_s, setp_at, setp_2, upd_at, upd_ne, h10, *])
    · refine r_al0 (n := 27) dX4_collect_26 rfl ?_
      refine r_il1 (n := 28) dX4_collect_27 rfl ?_
      refine r_iconst (v := 5) (n := 29) dX4_collect_28 (by decide) rfl ?_
      refine cV_i (n := 32) (np := 2) (m_X4_of (k := k) (j := 5) hk8 (by decide)) gX4_collect_X4_of rfl (by decide +kernel) rfl (by decide) (by decide) (by omega) rfl rfl dX4_collect_29 rfl rfl (Nat.le_of_ble_eq_true rfl) ?_
      refine r_if_ne (tgt := 38) (n := 35) dX4_collect_32 (by decide) rfl (fun c_32 => ?_) (fun c_32 => ?_)
      · refine r_al0 (n := 39) dX4_collect_38 rfl ?_
        refine cV_v (n := 42) (np := 0) (hch) gX4_collect_X4_changes rfl (by decide +kernel) rfl (by decide) (by decide) (by omega) rfl rfl dX4_collect_39 rfl rfl (Nat.le_of_ble_eq_true rfl) ?_
        refine r_al0 (n := 43) dX4_collect_42 rfl ?_
        refine r_il1 (n := 44) dX4_collect_43 rfl ?_
        refine cV_i (n := 47) (np := 1) (m_X4_isCold hk8) gX4_collect_X4_isCold rfl (by decide +kernel) rfl (by decide) (by decide) (by omega) rfl rfl dX4_collect_44 rfl rfl (Nat.le_of_ble_eq_true rfl) ?_
        refine r_if_eq (tgt := 61) (n := 50) dX4_collect_47 (by decide) rfl (fun c_47 => ?_) (fun c_47 => ?_)
        · replace c_47 := i10 c_47
          rw [h10] at c_47
          refine r_al0 (n := 62) dX4_collect_61 rfl ?_
          refine r_il1 (n := 63) dX4_collect_62 rfl ?_
          refine r_iconst (v := 5) (n := 64) dX4_collect_63 (by decide) rfl ?_
          refine cV_i (n := 67) (np := 2) (m_X4_of (k := k) (j := 5) hk8 (by decide)) gX4_collect_X4_of rfl (by decide +kernel) rfl (by decide) (by decide) (by omega) rfl rfl dX4_collect_64 rfl rfl (Nat.le_of_ble_eq_true rfl) ?_
          refine r_is2 (n := 68) (by decide) rfl dX4_collect_67 rfl ?_
          refine r_al0 (n := 69) dX4_collect_68 rfl ?_
          refine r_il1 (n := 70) dX4_collect_69 rfl ?_
          refine r_iconst (v := 5) (n := 71) dX4_collect_70 (by decide) rfl ?_
          refine r_al0 (n := 72) dX4_collect_71 rfl ?_
          refine r_il1 (n := 73) dX4_collect_72 rfl ?_
          refine r_iconst (v := 5) (n := 74) dX4_collect_73 (by decide) rfl ?_
          refine cV_i (n := 77) (np := 2) (m_X4_of (k := k) (j := 5) hk8 (by decide)) gX4_collect_X4_of rfl (by decide +kernel) rfl (by decide) (by decide) (by omega) rfl rfl dX4_collect_74 rfl rfl (Nat.le_of_ble_eq_true rfl) ?_
          refine r_il2 (n := 78) dX4_collect_77 rfl ?_
          refine r_isub (n := 79) dX4_collect_78 rfl ?_
          refine cV_v (n := 82) (np := 3) (m_X4_sets (k := k) (j := 5) hk8 (by decide)) gX4_collect_X4_sets rfl (by decide +kernel) rfl (by decide) (by decide) (by omega) rfl rfl dX4_collect_79 rfl rfl (Nat.le_of_ble_eq_true rfl) ?_
          refine r_al0 (n := 83) dX4_collect_82 rfl ?_
          refine r_il1 (n := 84) dX4_collect_83 rfl ?_
          refine r_bipush (v := 6) (n := 86) dX4_collect_84 (by decide) rfl ?_
          refine r_al0 (n := 87) dX4_collect_86 rfl ?_
          refine r_il1 (n := 88) dX4_collect_87 rfl ?_
          refine r_bipush (v := 6) (n := 90) dX4_collect_88 (by decide) rfl ?_
          refine cV_i (n := 93) (np := 2) (m_X4_of (k := k) (j := 6) hk8 (by decide)) gX4_collect_X4_of rfl (by decide +kernel) rfl (by decide) (by decide) (by omega) rfl rfl dX4_collect_90 rfl rfl (Nat.le_of_ble_eq_true rfl) ?_
          refine r_il2 (n := 94) dX4_collect_93 rfl ?_
          refine r_iadd (n := 95) dX4_collect_94 rfl ?_
          refine cV_v (n := 98) (np := 3) (m_X4_sets (k := k) (j := 6) hk8 (by decide)) gX4_collect_X4_sets rfl (by decide +kernel) rfl (by decide) (by decide) (by omega) rfl rfl dX4_collect_95 rfl rfl (Nat.le_of_ble_eq_true rfl) ?_
          refine r_al0 (n := 99) dX4_collect_98 rfl ?_
          refine g_mo_s (n := 102)  in_X4_collect_wsX40 k_X4_collect_7 dX4_collect_99 rfl ?_
          refine r_iconst (v := 5) (n := 103) dX4_collect_102 (by decide) rfl ?_
          refine r_dup2 (n := 104) dX4_collect_103 rfl rfl rfl ?_
          refine a_s (n := 105) (k := 5) (by decide) (by decide) dX4_collect_104 rfl ?_
          refine r_il2 (n := 106) dX4_collect_105 rfl ?_
          refine r_iadd (n := 107) dX4_collect_106 rfl ?_
          refine a_put_s (n := 108) (k := 5) (by decide) (by decide) dX4_collect_107 rfl ?_
          refine r_il2 (n := 109) dX4_collect_108 rfl ?_
          exact e_i dX4_collect_109 rfl (by simp (disch := omega) [collM, mendR, mendU, wearBM, collU, pays, h10, mput_s, setp_at, setp_2, upd_at, upd_ne, *]) (by simp (disch := omega) [collM, mo, collU, pays, mput_s, setp_at, setp_2, upd_at, upd_ne, h10, *])
        · replace c_47 := i11 c_47
          rw [h10] at c_47
          refine r_al0 (n := 51) dX4_collect_50 rfl ?_
          refine r_il1 (n := 52) dX4_collect_51 rfl ?_
          refine r_iconst (v := 5) (n := 53) dX4_collect_52 (by decide) rfl ?_
          refine cV_i (n := 56) (np := 2) (m_X4_of (k := k) (j := 5) hk8 (by decide)) gX4_collect_X4_of rfl (by decide +kernel) rfl (by decide) (by decide) (by omega) rfl rfl dX4_collect_53 rfl rfl (Nat.le_of_ble_eq_true rfl) ?_
          refine r_iconst (v := 2) (n := 57) dX4_collect_56 (by decide) rfl ?_
          refine r_idiv (n := 58) dX4_collect_57 (by decide) rfl ?_
          refine r_goto (tgt := 67) dX4_collect_58 (by decide) ?_
          refine r_is2 (n := 68) (by decide) rfl dX4_collect_67 rfl ?_
          refine r_al0 (n := 69) dX4_collect_68 rfl ?_
          refine r_il1 (n := 70) dX4_collect_69 rfl ?_
          refine r_iconst (v := 5) (n := 71) dX4_collect_70 (by decide) rfl ?_
          refine r_al0 (n := 72) dX4_collect_71 rfl ?_
          refine r_il1 (n := 73) dX4_collect_72 rfl ?_
          refine r_iconst (v := 5) (n := 74) dX4_collect_73 (by decide) rfl ?_
          refine cV_i (n := 77) (np := 2) (m_X4_of (k := k) (j := 5) hk8 (by decide)) gX4_collect_X4_of rfl (by decide +kernel) rfl (by decide) (by decide) (by omega) rfl rfl dX4_collect_74 rfl rfl (Nat.le_of_ble_eq_true rfl) ?_
          refine r_il2 (n := 78) dX4_collect_77 rfl ?_
          refine r_isub (n := 79) dX4_collect_78 rfl ?_
          refine cV_v (n := 82) (np := 3) (m_X4_sets (k := k) (j := 5) hk8 (by decide)) gX4_collect_X4_sets rfl (by decide +kernel) rfl (by decide) (by decide) (by omega) rfl rfl dX4_collect_79 rfl rfl (Nat.le_of_ble_eq_true rfl) ?_
          refine r_al0 (n := 83) dX4_collect_82 rfl ?_
          refine r_il1 (n := 84) dX4_collect_83 rfl ?_
          refine r_bipush (v := 6) (n := 86) dX4_collect_84 (by decide) rfl ?_
          refine r_al0 (n := 87) dX4_collect_86 rfl ?_
          refine r_il1 (n := 88) dX4_collect_87 rfl ?_
          refine r_bipush (v := 6) (n := 90) dX4_collect_88 (by decide) rfl ?_
          refine cV_i (n := 93) (np := 2) (m_X4_of (k := k) (j := 6) hk8 (by decide)) gX4_collect_X4_of rfl (by decide +kernel) rfl (by decide) (by decide) (by omega) rfl rfl dX4_collect_90 rfl rfl (Nat.le_of_ble_eq_true rfl) ?_
          refine r_il2 (n := 94) dX4_collect_93 rfl ?_
          refine r_iadd (n := 95) dX4_collect_94 rfl ?_
          refine cV_v (n := 98) (np := 3) (m_X4_sets (k := k) (j := 6) hk8 (by decide)) gX4_collect_X4_sets rfl (by decide +kernel) rfl (by decide) (by decide) (by omega) rfl rfl dX4_collect_95 rfl rfl (Nat.le_of_ble_eq_true rfl) ?_
          refine r_al0 (n := 99) dX4_collect_98 rfl ?_
          refine g_mo_s (n := 102)  in_X4_collect_wsX40 k_X4_collect_7 dX4_collect_99 rfl ?_
          refine r_iconst (v := 5) (n := 103) dX4_collect_102 (by decide) rfl ?_
          refine r_dup2 (n := 104) dX4_collect_103 rfl rfl rfl ?_
          refine a_s (n := 105) (k := 5) (by decide) (by decide) dX4_collect_104 rfl ?_
          refine r_il2 (n := 106) dX4_collect_105 rfl ?_
          refine r_iadd (n := 107) dX4_collect_106 rfl ?_
          refine a_put_s (n := 108) (k := 5) (by decide) (by decide) dX4_collect_107 rfl ?_
          refine r_il2 (n := 109) dX4_collect_108 rfl ?_
          exact e_i dX4_collect_109 rfl (by simp (disch := omega) [collM, mendR, mendU, wearBM, collU, pays, h10, mput_s, setp_at, setp_2, upd_at, upd_ne, *]) (by simp (disch := omega) [collM, mo, collU, pays, mput_s, setp_at, setp_2, upd_at, upd_ne, h10, *])
      · refine r_ldc (n := 37) dX4_collect_35 k_X4_collect_71 rfl ?_
        exact e_i dX4_collect_37 rfl (by simp (disch := omega) [collM, mendR, mendU, wearBM, collU, pays, h10, mput_s, setp_at, setp_2, upd_at, upd_ne, *]) (by simp (disch := omega) [collM, mo, collU, pays, mput_s, setp_at, setp_2, upd_at, upd_ne, h10, *])
  · exact absurd c_5 (by decide)

set_option maxHeartbeats 4000000 in
set_option maxRecDepth 100000 in
theorem m_X4_maySet {w v : Int32} : C_X4_maySet cA ad D [.int w, .int v] M (Ri (bI (may w v)) M) := by
  refine PM_of (lv := [some (.int w), some (.int v)]) (by decide +kernel) rfl (Nat.le_of_ble_eq_true rfl) rfl ?_
  refine r_il0 (n := 1) dX4_maySet_0 rfl ?_
  by_cases h_0 : w = 0
  · subst h_0
    refine r_tableIn (tgt := 28) dX4_maySet_1 (by decide) (by decide) rfl (by decide) ?_
    refine r_il1 (n := 29) dX4_maySet_28 rfl ?_
    refine r_iconst (v := 1) (n := 30) dX4_maySet_29 (by decide) rfl ?_
    refine r_bipush (v := 99) (n := 32) dX4_maySet_30 (by decide) rfl ?_
    refine cS_i (n := 35) (np := 3) (m_X4_in) gX4_maySet_X4_in rfl (by decide +kernel) rfl (by decide) (by decide) dX4_maySet_32 rfl rfl (Nat.le_of_ble_eq_true rfl) ?_
    exact e_z dX4_maySet_35 rfl (bI01 _) (by simp_all [may]) rfl
  by_cases h_1 : w = 1
  · subst h_1
    refine r_tableIn (tgt := 36) dX4_maySet_1 (by decide) (by decide) rfl (by decide) ?_
    refine r_il1 (n := 37) dX4_maySet_36 rfl ?_
    refine r_iconst (v := 1) (n := 38) dX4_maySet_37 (by decide) rfl ?_
    refine r_bipush (v := 24) (n := 40) dX4_maySet_38 (by decide) rfl ?_
    refine cS_i (n := 43) (np := 3) (m_X4_in) gX4_maySet_X4_in rfl (by decide +kernel) rfl (by decide) (by decide) dX4_maySet_40 rfl rfl (Nat.le_of_ble_eq_true rfl) ?_
    exact e_z dX4_maySet_43 rfl (bI01 _) (by simp_all [may]) rfl
  by_cases h_2 : w = 2
  · subst h_2
    refine r_tableIn (tgt := 44) dX4_maySet_1 (by decide) (by decide) rfl (by decide) ?_
    refine r_il1 (n := 45) dX4_maySet_44 rfl ?_
    refine r_iconst (v := 0) (n := 46) dX4_maySet_45 (by decide) rfl ?_
    refine r_bipush (v := 20) (n := 48) dX4_maySet_46 (by decide) rfl ?_
    refine cS_i (n := 51) (np := 3) (m_X4_in) gX4_maySet_X4_in rfl (by decide +kernel) rfl (by decide) (by decide) dX4_maySet_48 rfl rfl (Nat.le_of_ble_eq_true rfl) ?_
    exact e_z dX4_maySet_51 rfl (bI01 _) (by simp_all [may]) rfl
  refine r_tableOut (tgt := 52) dX4_maySet_1 (sw_out (lo := 0) (hi := 2) (by decide) (by decide) (fun k h1 h2 => by
    have hk : k = 0 ∨ k = 1 ∨ k = 2 := by omega
    rcases hk with rfl | rfl | rfl
    · exact h_0
    · exact h_1
    · exact h_2
    )) (by decide) ?_
  refine r_il1 (n := 53) dX4_maySet_52 rfl ?_
  refine r_iconst (v := 0) (n := 54) dX4_maySet_53 (by decide) rfl ?_
  refine r_sipush (v := 500) (n := 57) dX4_maySet_54 (by decide) rfl ?_
  refine cS_i (n := 60) (np := 3) (m_X4_in) gX4_maySet_X4_in rfl (by decide +kernel) rfl (by decide) (by decide) dX4_maySet_57 rfl rfl (Nat.le_of_ble_eq_true rfl) ?_
  exact e_z dX4_maySet_60 rfl (bI01 _) (by simp_all [may]) rfl

set_option maxHeartbeats 4000000 in
set_option maxRecDepth 100000 in
theorem m_X4_set_n {w v : Int32} (hw : rng w 0 3 = false) : C_X4_set cA ad D [.ref (ad 4), .int w, .int v] M (Ri IA M) := by
  refine PM_of (lv := [some (.ref (ad 4)), some (.int w), some (.int v), none]) (by decide +kernel) rfl (Nat.le_of_ble_eq_true rfl) rfl ?_
  refine r_il1 (n := 1) dX4_set_0 rfl ?_
  refine r_iconst (v := 0) (n := 2) dX4_set_1 (by decide) rfl ?_
  refine r_iconst (v := 3) (n := 3) dX4_set_2 (by decide) rfl ?_
  refine cS_i (n := 6) (np := 3) (m_X4_in) gX4_set_X4_in rfl (by decide +kernel) rfl (by decide) (by decide) dX4_set_3 rfl rfl (Nat.le_of_ble_eq_true rfl) ?_
  refine r_if_eq (tgt := 17) (n := 9) dX4_set_6 (by decide) rfl (fun c_6 => ?_) (fun c_6 => ?_)
  · replace c_6 := bI_0 c_6
    refine r_ldc (n := 19) dX4_set_17 k_X4_set_57 rfl ?_
    exact e_i dX4_set_19 rfl rfl rfl
  · replace c_6 := bI_1 c_6
    rw [hw] at c_6
    cases c_6

set_option maxHeartbeats 4000000 in
set_option maxRecDepth 100000 in
theorem m_X4_set_y {M' : Mem} (hch : C_X4_changes cA ad D [.ref (ad 4)] M (Rv M')) (h10 : M'.1 10 = M.1 10) {j : Nat} (hj : j ≤ 3) (hw : rng (nI j) 0 3 = true) {v : Int32} : C_X4_set cA ad D [.ref (ad 4), .int (nI j), .int v] M (Ri (setM (M.1 10) j v).1 (mo M M' (setM (M.1 10) j v).2)) := by
  refine PM_of (lv := [some (.ref (ad 4)), some (.int (nI j)), some (.int v), none]) (by decide +kernel) rfl (Nat.le_of_ble_eq_true rfl) rfl ?_
  refine r_il1 (n := 1) dX4_set_0 rfl ?_
  refine r_iconst (v := 0) (n := 2) dX4_set_1 (by decide) rfl ?_
  refine r_iconst (v := 3) (n := 3) dX4_set_2 (by decide) rfl ?_
  refine cS_i (n := 6) (np := 3) (m_X4_in) gX4_set_X4_in rfl (by decide +kernel) rfl (by decide) (by decide) dX4_set_3 rfl rfl (Nat.le_of_ble_eq_true rfl) ?_
  refine r_if_eq (tgt := 17) (n := 9) dX4_set_6 (by decide) rfl (fun c_6 => ?_) (fun c_6 => ?_)
  · replace c_6 := bI_0 c_6
    rw [hw] at c_6
    cases c_6
  · replace c_6 := bI_1 c_6
    refine r_il1 (n := 10) dX4_set_9 rfl ?_
    refine r_il2 (n := 11) dX4_set_10 rfl ?_
    refine cS_i (n := 14) (np := 2) (m_X4_maySet) gX4_set_X4_maySet rfl (by decide +kernel) rfl (by decide) (by decide) dX4_set_11 rfl rfl (Nat.le_of_ble_eq_true rfl) ?_
    refine r_if_ne (tgt := 20) (n := 17) dX4_set_14 (by decide) rfl (fun c_14 => ?_) (fun c_14 => ?_)
    · replace c_14 := bI_1 c_14
      refine r_al0 (n := 21) dX4_set_20 rfl ?_
      refine cV_v (n := 24) (np := 0) (hch) gX4_set_X4_changes rfl (by decide +kernel) rfl (by decide) (by decide) (by omega) rfl rfl dX4_set_21 rfl rfl (Nat.le_of_ble_eq_true rfl) ?_
      refine r_al0 (n := 25) dX4_set_24 rfl ?_
      refine g_mo_s (n := 28)  in_X4_set_wsX40 k_X4_set_7 dX4_set_25 rfl ?_
      refine r_bipush (v := 10) (n := 30) dX4_set_28 (by decide) rfl ?_
      refine r_il1 (n := 31) dX4_set_30 rfl ?_
      refine r_iadd (n := 32) dX4_set_31 rfl ?_
      rw [show (10 : Int32) = nI 10 from rfl, nI_add]
      refine a_s (n := 33) (k := 10 + j) rfl (by omega) dX4_set_32 rfl ?_
      refine r_is3 (n := 34) (by decide) rfl dX4_set_33 rfl ?_
      refine r_al0 (n := 35) dX4_set_34 rfl ?_
      refine g_mo_s (n := 38)  in_X4_set_wsX40 k_X4_set_7 dX4_set_35 rfl ?_
      refine r_bipush (v := 10) (n := 40) dX4_set_38 (by decide) rfl ?_
      refine r_il1 (n := 41) dX4_set_40 rfl ?_
      refine r_iadd (n := 42) dX4_set_41 rfl ?_
      rw [show (10 : Int32) = nI 10 from rfl, nI_add]
      refine r_il2 (n := 43) dX4_set_42 rfl ?_
      refine a_put_s (n := 44) (k := 10 + j) rfl (by omega) dX4_set_43 rfl ?_
      refine r_il3 (n := 45) dX4_set_44 rfl ?_
      exact e_i dX4_set_45 rfl (by simp [setM, h10, *]) (by simp [setM, mo, mput_s, h10, *])
    · replace c_14 := bI_0 c_14
      refine r_ldc (n := 19) dX4_set_17 k_X4_set_57 rfl ?_
      exact e_i dX4_set_19 rfl (by simp [setM, h10, *]) (by simp [setM, mo, mput_s, h10, *])

set_option maxHeartbeats 4000000 in
set_option maxRecDepth 100000 in
theorem l_X4_smithy {N : Nat} (hlt : N < 8) {v w : Int32} (u : Vec) {Q : QT} (K : P_X4_smithy cA ad D 67 [some (.ref (ad 4)), some (.int v), some (.int w), some (.int (nI N)), some (.int (nI 8))] [] (setp M 10 (zeN u N 8)) Q) : ∀ (m i : Nat), i + m = 8 → P_X4_smithy cA ad D 46 [some (.ref (ad 4)), some (.int v), some (.int w), some (.int (nI N)), some (.int (nI i))] [] (setp M 10 (zeN u N i)) Q := by
  intro m
  induction m with
  | zero =>
    intro i hi
    have hi2 : i = 8 := by omega
    subst hi2
    refine r_il4 (n := 48) dX4_smithy_46 rfl ?_
    refine r_bipush (v := 8) (n := 50) dX4_smithy_48 (by decide) rfl ?_
    refine r_icmp_ge (tgt := 67) (n := 53) dX4_smithy_50 (by decide) rfl (fun c_50 => ?_) (fun c_50 => ?_)
    · exact K
    · exact absurd c_50 (fun q => q (by decide))
  | succ m ih =>
    intro i hi
    refine r_il4 (n := 48) dX4_smithy_46 rfl ?_
    refine r_bipush (v := 8) (n := 50) dX4_smithy_48 (by decide) rfl ?_
    refine r_icmp_ge (tgt := 67) (n := 53) dX4_smithy_50 (by decide) rfl (fun c_50 => ?_) (fun c_50 => ?_)
    · exact absurd c_50 (nI_ge (a := i) (b := 8) (by omega) (by omega))
    · refine r_al0 (n := 54) dX4_smithy_53 rfl ?_
      refine r_il3 (n := 55) dX4_smithy_54 rfl ?_
      refine r_il4 (n := 57) dX4_smithy_55 rfl ?_
      refine r_iconst (v := 0) (n := 58) dX4_smithy_57 (by decide) rfl ?_
      refine cV_v (n := 61) (np := 3) (m_X4_sets (k := N) (j := i) hlt (by omega)) gX4_smithy_X4_sets rfl (by decide +kernel) rfl (by decide) (by decide) (by omega) rfl rfl dX4_smithy_58 rfl rfl (Nat.le_of_ble_eq_true rfl) ?_
      refine r_ii4 (n := 64) (by decide) rfl dX4_smithy_61 (nI_inc _) rfl ?_
      refine r_goto (tgt := 46) dX4_smithy_64 (by decide) ?_
      rw [setp_at, setp_2]
      exact ih (i + 1) (by omega)

set_option maxHeartbeats 4000000 in
set_option maxRecDepth 100000 in
theorem m_X4_smithy {M' : Mem} (hch : C_X4_changes cA ad D [.ref (ad 4)] M (Rv M')) (h10 : M'.1 10 = M.1 10) {N : Nat} (hN : M.1 10 0 = nI N) (h8 : N ≤ 8) {v w : Int32} : C_X4_smithy cA ad D [.ref (ad 4), .int v, .int w] M (Ri (addM (M.1 10) N v w).1 (mo M M' (addM (M.1 10) N v w).2)) := by
  refine PM_of (lv := [some (.ref (ad 4)), some (.int v), some (.int w), none, none]) (by decide +kernel) rfl (Nat.le_of_ble_eq_true rfl) rfl ?_
  refine r_il1 (n := 1) dX4_smithy_0 rfl ?_
  refine r_iconst (v := 0) (n := 2) dX4_smithy_1 (by decide) rfl ?_
  refine r_bipush (v := 99) (n := 4) dX4_smithy_2 (by decide) rfl ?_
  refine cS_i (n := 7) (np := 3) (m_X4_in) gX4_smithy_X4_in rfl (by decide +kernel) rfl (by decide) (by decide) dX4_smithy_4 rfl rfl (Nat.le_of_ble_eq_true rfl) ?_
  refine r_if_eq (tgt := 20) (n := 10) dX4_smithy_7 (by decide) rfl (fun c_7 => ?_) (fun c_7 => ?_)
  · replace c_7 := bI_0 c_7
    refine r_ldc (n := 22) dX4_smithy_20 k_X4_smithy_57 rfl ?_
    exact e_i dX4_smithy_22 rfl (by simp [addM, *]) (by simp [addM, mo, *])
  · replace c_7 := bI_1 c_7
    refine r_il2 (n := 11) dX4_smithy_10 rfl ?_
    refine r_iconst (v := 1) (n := 12) dX4_smithy_11 (by decide) rfl ?_
    refine r_bipush (v := 9) (n := 14) dX4_smithy_12 (by decide) rfl ?_
    refine cS_i (n := 17) (np := 3) (m_X4_in) gX4_smithy_X4_in rfl (by decide +kernel) rfl (by decide) (by decide) dX4_smithy_14 rfl rfl (Nat.le_of_ble_eq_true rfl) ?_
    refine r_if_ne (tgt := 23) (n := 20) dX4_smithy_17 (by decide) rfl (fun c_17 => ?_) (fun c_17 => ?_)
    · replace c_17 := bI_1 c_17
      refine r_al0 (n := 24) dX4_smithy_23 rfl ?_
      refine g_mo_s (n := 27)  in_X4_smithy_wsX40 k_X4_smithy_7 dX4_smithy_24 rfl ?_
      refine r_iconst (v := 0) (n := 28) dX4_smithy_27 (by decide) rfl ?_
      refine a_s (n := 29) (k := 0) (by decide) (by decide) dX4_smithy_28 rfl ?_
      refine r_is3 (n := 30) (by decide) rfl dX4_smithy_29 rfl ?_
      refine r_il3 (n := 31) dX4_smithy_30 rfl ?_
      refine r_bipush (v := 8) (n := 33) dX4_smithy_31 (by decide) rfl ?_
      refine r_icmp_ne (tgt := 39) (n := 36) dX4_smithy_33 (by decide) rfl (fun c_33 => ?_) (fun c_33 => ?_)
      · have hlt : N < 8 := by
          rcases Nat.lt_or_ge N 8 with q | q
          · exact q
          · exact absurd (by rw [hN, show N = 8 by omega]; rfl) c_33
        refine r_al0 (n := 40) dX4_smithy_39 rfl ?_
        refine cV_v (n := 43) (np := 0) (hch) gX4_smithy_X4_changes rfl (by decide +kernel) rfl (by decide) (by decide) (by omega) rfl rfl dX4_smithy_40 rfl rfl (Nat.le_of_ble_eq_true rfl) ?_
        refine r_iconst (v := 0) (n := 44) dX4_smithy_43 (by decide) rfl ?_
        refine r_is4 (n := 46) (by decide) rfl dX4_smithy_44 rfl ?_
        refine pw_mem (setp_self M' 10).symm ?_
        have e0 : setp M' 10 (M'.1 10) = setp M' 10 (zeN (M.1 10) N 0) := by rw [h10, zeN]
        have eS : addM (M.1 10) N v w = (nI N, some (addV (M.1 10) N v w)) := by rw [addM, if_pos c_7, if_pos c_17, if_neg c_33, hN]
        rw [eS, e0, hN]
        refine l_X4_smithy hlt (M.1 10) ?_ 8 0 (by omega)
        refine r_al0 (n := 68) dX4_smithy_67 rfl ?_
        refine r_il3 (n := 69) dX4_smithy_68 rfl ?_
        refine r_iconst (v := 0) (n := 70) dX4_smithy_69 (by decide) rfl ?_
        refine r_il1 (n := 71) dX4_smithy_70 rfl ?_
        refine cV_v (n := 74) (np := 3) (m_X4_sets (k := N) (j := 0) hlt (by decide)) gX4_smithy_X4_sets rfl (by decide +kernel) rfl (by decide) (by decide) (by omega) rfl rfl dX4_smithy_71 rfl rfl (Nat.le_of_ble_eq_true rfl) ?_
        rw [Nat.add_zero]
        refine r_al0 (n := 75) dX4_smithy_74 rfl ?_
        refine r_il3 (n := 76) dX4_smithy_75 rfl ?_
        refine r_iconst (v := 1) (n := 77) dX4_smithy_76 (by decide) rfl ?_
        refine r_il2 (n := 78) dX4_smithy_77 rfl ?_
        refine cV_v (n := 81) (np := 3) (m_X4_sets (k := N) (j := 1) hlt (by decide)) gX4_smithy_X4_sets rfl (by decide +kernel) rfl (by decide) (by decide) (by omega) rfl rfl dX4_smithy_78 rfl rfl (Nat.le_of_ble_eq_true rfl) ?_
        refine r_al0 (n := 82) dX4_smithy_81 rfl ?_
        refine r_il3 (n := 83) dX4_smithy_82 rfl ?_
        refine r_iconst (v := 3) (n := 84) dX4_smithy_83 (by decide) rfl ?_
        refine r_bipush (v := 100) (n := 86) dX4_smithy_84 (by decide) rfl ?_
        refine cV_v (n := 89) (np := 3) (m_X4_sets (k := N) (j := 3) hlt (by decide)) gX4_smithy_X4_sets rfl (by decide +kernel) rfl (by decide) (by decide) (by omega) rfl rfl dX4_smithy_86 rfl rfl (Nat.le_of_ble_eq_true rfl) ?_
        refine r_al0 (n := 90) dX4_smithy_89 rfl ?_
        refine g_mo_s (n := 93)  in_X4_smithy_wsX40 k_X4_smithy_7 dX4_smithy_90 rfl ?_
        refine r_iconst (v := 0) (n := 94) dX4_smithy_93 (by decide) rfl ?_
        refine r_dup2 (n := 95) dX4_smithy_94 rfl rfl rfl ?_
        refine a_s (n := 96) (k := 0) (by decide) (by decide) dX4_smithy_95 rfl ?_
        refine r_iconst (v := 1) (n := 97) dX4_smithy_96 (by decide) rfl ?_
        refine r_iadd (n := 98) dX4_smithy_97 rfl ?_
        refine a_put_s (n := 99) (k := 0) (by decide) (by decide) dX4_smithy_98 rfl ?_
        refine r_il3 (n := 100) dX4_smithy_99 rfl ?_
        exact e_i dX4_smithy_100 rfl rfl (by
            simp (disch := omega) only [mput_s, setp_at, setp_2, upd_ne, zeN_0, mo, addV])
      · refine r_ldc (n := 38) dX4_smithy_36 k_X4_smithy_58 rfl ?_
        exact e_i dX4_smithy_38 rfl (by rw [addM, if_pos c_7, if_pos c_17, if_pos c_33]) (by rw [addM, if_pos c_7, if_pos c_17, if_pos c_33]; rfl)
    · replace c_17 := bI_0 c_17
      refine r_ldc (n := 22) dX4_smithy_20 k_X4_smithy_57 rfl ?_
      exact e_i dX4_smithy_22 rfl (by simp [addM, *]) (by simp [addM, mo, *])

set_option maxHeartbeats 4000000 in
set_option maxRecDepth 100000 in
theorem l_X4_end {N d : Nat} (h8 : N ≤ 8) (hd : d ≤ 99) (u : Vec) (hN : u 0 = nI N) (hz : ∀ w, onZ 8 (csN w N)) : ∀ (m i : Nat), i + m = d → P_X4_end cA ad D 36 [some (.ref (ad 4)), some (.int (nI d)), some (.int (nI i))] [] (setp M 10 (edsU u N i)) (Ri (onF 8 (csN (edsU u N d) N) 0) (setp M 10 (edsU u N d))) := by
  intro m
  induction m with
  | zero =>
    intro i hi
    have hi2 : i = d := by omega
    subst hi2
    refine r_il2 (n := 37) dX4_end_36 rfl ?_
    refine r_il1 (n := 38) dX4_end_37 rfl ?_
    refine r_icmp_ge (tgt := 51) (n := 41) dX4_end_38 (by decide) rfl (fun c_38 => ?_) (fun c_38 => ?_)
    · refine r_al0 (n := 52) dX4_end_51 rfl ?_
      refine cV_i (n := 55) (np := 0) (m_X4_coldOnes (N := N) (by rw [setp_at, edsU_0]; exact hN) h8) gX4_end_X4_coldOnes rfl (by decide +kernel) rfl (by decide) (by decide) (by omega) rfl rfl dX4_end_52 rfl rfl (Nat.le_of_ble_eq_true rfl) ?_
      refine cS_i (n := 58) (np := 1) (m_X4_ones (m := 8) (by rw [setp_at]; exact hz _)) gX4_end_X4_ones rfl (by decide +kernel) rfl (by decide) (by decide) dX4_end_55 rfl rfl (Nat.le_of_ble_eq_true rfl) ?_
      exact e_i dX4_end_58 rfl (by rw [setp_at]) rfl
    · exact absurd c_38 (fun q => q (nI_le (Nat.le_refl _) (by omega)))
  | succ m ih =>
    intro i hi
    refine r_il2 (n := 37) dX4_end_36 rfl ?_
    refine r_il1 (n := 38) dX4_end_37 rfl ?_
    refine r_icmp_ge (tgt := 51) (n := 41) dX4_end_38 (by decide) rfl (fun c_38 => ?_) (fun c_38 => ?_)
    · exact absurd c_38 (nI_ge (by omega) (by omega))
    · refine r_al0 (n := 42) dX4_end_41 rfl ?_
      refine cV_v (n := 45) (np := 0) (m_X4_ends (N := N) (by rw [setp_at, edsU_0]; exact hN) h8) gX4_end_X4_ends rfl (by decide +kernel) rfl (by decide) (by decide) (by omega) rfl rfl dX4_end_42 rfl rfl (Nat.le_of_ble_eq_true rfl) ?_
      refine r_ii2 (n := 48) (by decide) rfl dX4_end_45 (nI_inc _) rfl ?_
      refine r_goto (tgt := 36) dX4_end_48 (by decide) ?_
      rw [setp_at, setp_2]
      exact ih (i + 1) (by omega)

set_option maxHeartbeats 4000000 in
set_option maxRecDepth 100000 in
theorem m_X4_end {M' : Mem} (hch : C_X4_changes cA ad D [.ref (ad 4)] M (Rv M')) (h10 : M'.1 10 = M.1 10) {N : Nat} (hN : M.1 10 0 = nI N) (h8 : N ≤ 8) (hz : ∀ w, onZ 8 (csN w N)) {v : Int32} : C_X4_end cA ad D [.ref (ad 4), .int v] M (Ri (endM (M.1 10) N v).1 (mo M M' (endM (M.1 10) N v).2)) := by
  refine PM_of (lv := [some (.ref (ad 4)), some (.int v), none]) (by decide +kernel) rfl (Nat.le_of_ble_eq_true rfl) rfl ?_
  refine r_il1 (n := 1) dX4_end_0 rfl ?_
  refine r_iconst (v := 1) (n := 2) dX4_end_1 (by decide) rfl ?_
  refine r_bipush (v := 99) (n := 4) dX4_end_2 (by decide) rfl ?_
  refine cS_i (n := 7) (np := 3) (m_X4_in) gX4_end_X4_in rfl (by decide +kernel) rfl (by decide) (by decide) dX4_end_4 rfl rfl (Nat.le_of_ble_eq_true rfl) ?_
  refine r_if_ne (tgt := 13) (n := 10) dX4_end_7 (by decide) rfl (fun c_7 => ?_) (fun c_7 => ?_)
  · replace c_7 := bI_1 c_7
    refine r_al0 (n := 14) dX4_end_13 rfl ?_
    refine g_mo_s (n := 17)  in_X4_end_wsX40 k_X4_end_7 dX4_end_14 rfl ?_
    refine r_iconst (v := 1) (n := 18) dX4_end_17 (by decide) rfl ?_
    refine a_s (n := 19) (k := 1) (by decide) (by decide) dX4_end_18 rfl ?_
    refine r_il1 (n := 20) dX4_end_19 rfl ?_
    refine r_iadd (n := 21) dX4_end_20 rfl ?_
    refine r_sipush (v := 9999) (n := 24) dX4_end_21 (by decide) rfl ?_
    refine r_icmp_le (tgt := 30) (n := 27) dX4_end_24 (by decide) rfl (fun c_24 => ?_) (fun c_24 => ?_)
    · refine r_al0 (n := 31) dX4_end_30 rfl ?_
      refine cV_v (n := 34) (np := 0) (hch) gX4_end_X4_changes rfl (by decide +kernel) rfl (by decide) (by decide) (by omega) rfl rfl dX4_end_31 rfl rfl (Nat.le_of_ble_eq_true rfl) ?_
      refine r_iconst (v := 0) (n := 35) dX4_end_34 (by decide) rfl ?_
      refine r_is2 (n := 36) (by decide) rfl dX4_end_35 rfl ?_
      obtain ⟨d, hd1, hd2, hv, hcl⟩ := rng_nI (a := 1) (b := 99) (by decide) c_7 (by decide)
      rw [hv]
      refine pw_mem (setp_self M' 10).symm ?_
      have e0 : setp M' 10 (M'.1 10) = setp M' 10 (edsU (M.1 10) N 0) := by rw [h10, edsU]
      rw [e0]
      have k := l_X4_end (cA := cA) (ad := ad) (D := D) (M := M') h8 hd2 (M.1 10) hN hz d 0 (by omega)
      have eS : endM (M.1 10) N (nI d) = (onF 8 (csN (edsU (M.1 10) N d) N) 0, some (edsU (M.1 10) N d)) := by
        rw [← hv, endM, if_pos c_7, if_pos c_24, hcl]
      rw [eS]
      exact k
    · refine r_ldc (n := 29) dX4_end_27 k_X4_end_58 rfl ?_
      exact e_i dX4_end_29 rfl (by simp [endM, *]) (by simp [endM, mo, *])
  · replace c_7 := bI_0 c_7
    refine r_ldc (n := 12) dX4_end_10 k_X4_end_57 rfl ?_
    exact e_i dX4_end_12 rfl (by simp [endM, *]) (by simp [endM, mo, *])

end MCH
