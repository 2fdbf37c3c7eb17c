/-! ===== the reference: loops ===== -/
section MLOOP
variable {cA : Nat → ClassId} {ad : Nat → Nat} {D : va_G} {M : Mem}
set_option maxHeartbeats 4000000 in
set_option maxRecDepth 100000 in
theorem l_copies_s_tried (v : Vec) : ∀ (m i : Nat), i + m = 78 → P_X4_copies cA ad D 2 [some (.ref (ad 5)), some (.ref (ad 8)), some (.int (nI i))] [] (setp M 13 (cpN v (M.1 10) i)) (Rv (setp M 13 (cpN v (M.1 10) 78))) := by
  intro m
  induction m with
  | zero =>
    intro i hi
    have hi2 : i = 78 := by omega
    subst hi2
    refine r_il2 (n := 3) dX4_copies_2 rfl ?_
    refine r_bipush (v := 78) (n := 5) dX4_copies_3 (by decide) rfl ?_
    refine r_icmp_ge (tgt := 20) (n := 8) dX4_copies_5 (by decide) rfl (fun c_5 => ?_) (fun c_5 => ?_)
    · exact e_v dX4_copies_20 rfl rfl
    · exact absurd c_5 (fun q => q (by decide))
  | succ m ih =>
    intro i hi
    refine r_il2 (n := 3) dX4_copies_2 rfl ?_
    refine r_bipush (v := 78) (n := 5) dX4_copies_3 (by decide) rfl ?_
    refine r_icmp_ge (tgt := 20) (n := 8) dX4_copies_5 (by decide) rfl (fun c_5 => ?_) (fun c_5 => ?_)
    · exact absurd c_5 (nI_ge (a := i) (b := 78) (by omega) (by omega))
    · refine r_al1 (n := 9) dX4_copies_8 rfl ?_
      refine r_il2 (n := 10) dX4_copies_9 rfl ?_
      refine r_al0 (n := 11) dX4_copies_10 rfl ?_
      refine r_il2 (n := 12) dX4_copies_11 rfl ?_
      refine a_s (n := 13) (k := i) rfl (by omega) dX4_copies_12 rfl ?_
      refine a_put_tried (n := 14) (k := i) rfl (by omega) dX4_copies_13 rfl ?_
      refine r_ii2 (n := 17) (by decide) rfl dX4_copies_14 (nI_inc _) rfl ?_
      refine r_goto (tgt := 2) dX4_copies_17 (by decide) ?_
      rw [setp_ne _ _ (by decide), mput_s, setp_at, setp_2, cpN_s]
      exact ih (i + 1) (by omega)

set_option maxHeartbeats 4000000 in
set_option maxRecDepth 100000 in
theorem m_copies_s_tried : C_X4_copies cA ad D [.ref (ad 5), .ref (ad 8)] M (Rv (setp M 13 (cpN (M.1 13) (M.1 10) 78))) := by
  refine PM_of (lv := [some (.ref (ad 5)), some (.ref (ad 8)), none]) (by decide +kernel) rfl (Nat.le_of_ble_eq_true rfl) rfl ?_
  refine r_iconst (v := 0) (n := 1) dX4_copies_0 (by decide) rfl ?_
  refine r_is2 (n := 2) (by decide) rfl dX4_copies_1 rfl ?_
  have k := l_copies_s_tried (cA := cA) (ad := ad) (D := D) (M := M) (M.1 13) 78 0 (by omega)
  rw [cpN_0, setp_self] at k
  exact k

set_option maxHeartbeats 4000000 in
set_option maxRecDepth 100000 in
theorem l_copies_tried_s (v : Vec) : ∀ (m i : Nat), i + m = 78 → P_X4_copies cA ad D 2 [some (.ref (ad 8)), some (.ref (ad 5)), some (.int (nI i))] [] (setp M 10 (cpN v (M.1 13) i)) (Rv (setp M 10 (cpN v (M.1 13) 78))) := by
  intro m
  induction m with
  | zero =>
    intro i hi
    have hi2 : i = 78 := by omega
    subst hi2
    refine r_il2 (n := 3) dX4_copies_2 rfl ?_
    refine r_bipush (v := 78) (n := 5) dX4_copies_3 (by decide) rfl ?_
    refine r_icmp_ge (tgt := 20) (n := 8) dX4_copies_5 (by decide) rfl (fun c_5 => ?_) (fun c_5 => ?_)
    · exact e_v dX4_copies_20 rfl rfl
    · exact absurd c_5 (fun q => q (by decide))
  | succ m ih =>
    intro i hi
    refine r_il2 (n := 3) dX4_copies_2 rfl ?_
    refine r_bipush (v := 78) (n := 5) dX4_copies_3 (by decide) rfl ?_
    refine r_icmp_ge (tgt := 20) (n := 8) dX4_copies_5 (by decide) rfl (fun c_5 => ?_) (fun c_5 => ?_)
    · exact absurd c_5 (nI_ge (a := i) (b := 78) (by omega) (by omega))
    · refine r_al1 (n := 9) dX4_copies_8 rfl ?_
      refine r_il2 (n := 10) dX4_copies_9 rfl ?_
      refine r_al0 (n := 11) dX4_copies_10 rfl ?_
      refine r_il2 (n := 12) dX4_copies_11 rfl ?_
      refine a_tried (n := 13) (k := i) rfl (by omega) dX4_copies_12 rfl ?_
      refine a_put_s (n := 14) (k := i) rfl (by omega) dX4_copies_13 rfl ?_
      refine r_ii2 (n := 17) (by decide) rfl dX4_copies_14 (nI_inc _) rfl ?_
      refine r_goto (tgt := 2) dX4_copies_17 (by decide) ?_
      rw [setp_ne _ _ (by decide), mput_s, setp_at, setp_2, cpN_s]
      exact ih (i + 1) (by omega)

set_option maxHeartbeats 4000000 in
set_option maxRecDepth 100000 in
theorem m_copies_tried_s : C_X4_copies cA ad D [.ref (ad 8), .ref (ad 5)] M (Rv (setp M 10 (cpN (M.1 10) (M.1 13) 78))) := by
  refine PM_of (lv := [some (.ref (ad 8)), some (.ref (ad 5)), none]) (by decide +kernel) rfl (Nat.le_of_ble_eq_true rfl) rfl ?_
  refine r_iconst (v := 0) (n := 1) dX4_copies_0 (by decide) rfl ?_
  refine r_is2 (n := 2) (by decide) rfl dX4_copies_1 rfl ?_
  have k := l_copies_tried_s (cA := cA) (ad := ad) (D := D) (M := M) (M.1 10) 78 0 (by omega)
  rw [cpN_0, setp_self] at k
  exact k

set_option maxHeartbeats 4000000 in
set_option maxRecDepth 100000 in
theorem l_copies_s_held (v : Vec) : ∀ (m i : Nat), i + m = 78 → P_X4_copies cA ad D 2 [some (.ref (ad 5)), some (.ref (ad 7)), some (.int (nI i))] [] (setp M 12 (cpN v (M.1 10) i)) (Rv (setp M 12 (cpN v (M.1 10) 78))) := by
  intro m
  induction m with
  | zero =>
    intro i hi
    have hi2 : i = 78 := by omega
    subst hi2
    refine r_il2 (n := 3) dX4_copies_2 rfl ?_
    refine r_bipush (v := 78) (n := 5) dX4_copies_3 (by decide) rfl ?_
    refine r_icmp_ge (tgt := 20) (n := 8) dX4_copies_5 (by decide) rfl (fun c_5 => ?_) (fun c_5 => ?_)
    · exact e_v dX4_copies_20 rfl rfl
    · exact absurd c_5 (fun q => q (by decide))
  | succ m ih =>
    intro i hi
    refine r_il2 (n := 3) dX4_copies_2 rfl ?_
    refine r_bipush (v := 78) (n := 5) dX4_copies_3 (by decide) rfl ?_
    refine r_icmp_ge (tgt := 20) (n := 8) dX4_copies_5 (by decide) rfl (fun c_5 => ?_) (fun c_5 => ?_)
    · exact absurd c_5 (nI_ge (a := i) (b := 78) (by omega) (by omega))
    · refine r_al1 (n := 9) dX4_copies_8 rfl ?_
      refine r_il2 (n := 10) dX4_copies_9 rfl ?_
      refine r_al0 (n := 11) dX4_copies_10 rfl ?_
      refine r_il2 (n := 12) dX4_copies_11 rfl ?_
      refine a_s (n := 13) (k := i) rfl (by omega) dX4_copies_12 rfl ?_
      refine a_put_held (n := 14) (k := i) rfl (by omega) dX4_copies_13 rfl ?_
      refine r_ii2 (n := 17) (by decide) rfl dX4_copies_14 (nI_inc _) rfl ?_
      refine r_goto (tgt := 2) dX4_copies_17 (by decide) ?_
      rw [setp_ne _ _ (by decide), mput_s, setp_at, setp_2, cpN_s]
      exact ih (i + 1) (by omega)

set_option maxHeartbeats 4000000 in
set_option maxRecDepth 100000 in
theorem m_copies_s_held : C_X4_copies cA ad D [.ref (ad 5), .ref (ad 7)] M (Rv (setp M 12 (cpN (M.1 12) (M.1 10) 78))) := by
  refine PM_of (lv := [some (.ref (ad 5)), some (.ref (ad 7)), none]) (by decide +kernel) rfl (Nat.le_of_ble_eq_true rfl) rfl ?_
  refine r_iconst (v := 0) (n := 1) dX4_copies_0 (by decide) rfl ?_
  refine r_is2 (n := 2) (by decide) rfl dX4_copies_1 rfl ?_
  have k := l_copies_s_held (cA := cA) (ad := ad) (D := D) (M := M) (M.1 12) 78 0 (by omega)
  rw [cpN_0, setp_self] at k
  exact k

set_option maxHeartbeats 4000000 in
set_option maxRecDepth 100000 in
theorem l_copies_held_s (v : Vec) : ∀ (m i : Nat), i + m = 78 → P_X4_copies cA ad D 2 [some (.ref (ad 7)), some (.ref (ad 5)), some (.int (nI i))] [] (setp M 10 (cpN v (M.1 12) i)) (Rv (setp M 10 (cpN v (M.1 12) 78))) := by
  intro m
  induction m with
  | zero =>
    intro i hi
    have hi2 : i = 78 := by omega
    subst hi2
    refine r_il2 (n := 3) dX4_copies_2 rfl ?_
    refine r_bipush (v := 78) (n := 5) dX4_copies_3 (by decide) rfl ?_
    refine r_icmp_ge (tgt := 20) (n := 8) dX4_copies_5 (by decide) rfl (fun c_5 => ?_) (fun c_5 => ?_)
    · exact e_v dX4_copies_20 rfl rfl
    · exact absurd c_5 (fun q => q (by decide))
  | succ m ih =>
    intro i hi
    refine r_il2 (n := 3) dX4_copies_2 rfl ?_
    refine r_bipush (v := 78) (n := 5) dX4_copies_3 (by decide) rfl ?_
    refine r_icmp_ge (tgt := 20) (n := 8) dX4_copies_5 (by decide) rfl (fun c_5 => ?_) (fun c_5 => ?_)
    · exact absurd c_5 (nI_ge (a := i) (b := 78) (by omega) (by omega))
    · refine r_al1 (n := 9) dX4_copies_8 rfl ?_
      refine r_il2 (n := 10) dX4_copies_9 rfl ?_
      refine r_al0 (n := 11) dX4_copies_10 rfl ?_
      refine r_il2 (n := 12) dX4_copies_11 rfl ?_
      refine a_held (n := 13) (k := i) rfl (by omega) dX4_copies_12 rfl ?_
      refine a_put_s (n := 14) (k := i) rfl (by omega) dX4_copies_13 rfl ?_
      refine r_ii2 (n := 17) (by decide) rfl dX4_copies_14 (nI_inc _) rfl ?_
      refine r_goto (tgt := 2) dX4_copies_17 (by decide) ?_
      rw [setp_ne _ _ (by decide), mput_s, setp_at, setp_2, cpN_s]
      exact ih (i + 1) (by omega)

set_option maxHeartbeats 4000000 in
set_option maxRecDepth 100000 in
theorem m_copies_held_s : C_X4_copies cA ad D [.ref (ad 7), .ref (ad 5)] M (Rv (setp M 10 (cpN (M.1 10) (M.1 12) 78))) := by
  refine PM_of (lv := [some (.ref (ad 7)), some (.ref (ad 5)), none]) (by decide +kernel) rfl (Nat.le_of_ble_eq_true rfl) rfl ?_
  refine r_iconst (v := 0) (n := 1) dX4_copies_0 (by decide) rfl ?_
  refine r_is2 (n := 2) (by decide) rfl dX4_copies_1 rfl ?_
  have k := l_copies_held_s (cA := cA) (ad := ad) (D := D) (M := M) (M.1 10) 78 0 (by omega)
  rw [cpN_0, setp_self] at k
  exact k

set_option maxHeartbeats 4000000 in
set_option maxRecDepth 100000 in
theorem m_X4_changes_r (hr : M.1 9 1 = 1) : C_X4_changes cA ad D [.ref (ad 4)] M (Rv M) := by
  refine PM_of (lv := [some (.ref (ad 4)), none]) (by decide +kernel) rfl (Nat.le_of_ble_eq_true rfl) rfl ?_
  refine r_al0 (n := 1) dX4_changes_0 rfl ?_
  refine g_mo_runs (n := 4)  in_X4_changes_wsX40 k_X4_changes_25 dX4_changes_1 rfl ?_
  refine r_if_eq (tgt := 8) (n := 7) dX4_changes_4 (by decide) rfl (fun c_4 => ?_) (fun c_4 => ?_)
  · exact absurd c_4 (by rw [hr]; decide)
  · exact e_v dX4_changes_7 rfl rfl

set_option maxHeartbeats 4000000 in
set_option maxRecDepth 100000 in
theorem l_changes_1 (v : Vec) {Q : QT} (K : P_X4_changes cA ad D 46 [some (.ref (ad 4)), some (.int (nI 234))] [] (setp M 11 (shN v 234)) Q) : ∀ (m i : Nat), i + m = 234 → P_X4_changes cA ad D 18 [some (.ref (ad 4)), some (.int (nI i))] [] (setp M 11 (shN v i)) Q := by
  intro m
  induction m with
  | zero =>
    intro i hi
    have hi2 : i = 234 := by omega
    subst hi2
    refine r_il1 (n := 19) dX4_changes_18 rfl ?_
    refine r_sipush (v := 234) (n := 22) dX4_changes_19 (by decide) rfl ?_
    refine r_icmp_ge (tgt := 46) (n := 25) dX4_changes_22 (by decide) rfl (fun c_22 => ?_) (fun c_22 => ?_)
    · exact K
    · exact absurd c_22 (fun q => q (by decide))
  | succ m ih =>
    intro i hi
    refine r_il1 (n := 19) dX4_changes_18 rfl ?_
    refine r_sipush (v := 234) (n := 22) dX4_changes_19 (by decide) rfl ?_
    refine r_icmp_ge (tgt := 46) (n := 25) dX4_changes_22 (by decide) rfl (fun c_22 => ?_) (fun c_22 => ?_)
    · exact absurd c_22 (nI_ge (a := i) (b := 234) (by omega) (by omega))
    · refine r_al0 (n := 26) dX4_changes_25 rfl ?_
      refine g_mo_past (n := 29)  in_X4_changes_wsX40 k_X4_changes_13 dX4_changes_26 rfl ?_
      refine r_il1 (n := 30) dX4_changes_29 rfl ?_
      refine r_al0 (n := 31) dX4_changes_30 rfl ?_
      refine g_mo_past (n := 34)  in_X4_changes_wsX40 k_X4_changes_13 dX4_changes_31 rfl ?_
      refine r_il1 (n := 35) dX4_changes_34 rfl ?_
      refine r_bipush (v := 78) (n := 37) dX4_changes_35 (by decide) rfl ?_
      refine r_iadd (n := 38) dX4_changes_37 rfl ?_
      refine a_past (n := 39) (k := i + 78) (by rw [show (78 : Int32) = nI 78 from rfl, nI_add]) (by omega) dX4_changes_38 rfl ?_
      refine a_put_past (n := 40) (k := i) rfl (by omega) dX4_changes_39 rfl ?_
      refine r_ii1 (n := 43) (by decide) rfl dX4_changes_40 (nI_inc _) rfl ?_
      refine r_goto (tgt := 18) dX4_changes_43 (by decide) ?_
      rw [setp_at, shN_at, mput_s, setp_at, setp_2, shN_s]
      exact ih (i + 1) (by omega)

set_option maxHeartbeats 4000000 in
set_option maxRecDepth 100000 in
theorem l_changes_2 (v : Vec) {h : Nat} (hh : M.1 9 0 = nI h) (h4 : h < 4) {Q : QT} (K : P_X4_changes cA ad D 90 [some (.ref (ad 4)), some (.int (nI 78))] [] (setp M 11 (wrN v (M.1 10) (78 * h) 78)) Q) : ∀ (m i : Nat), i + m = 78 → P_X4_changes cA ad D 58 [some (.ref (ad 4)), some (.int (nI i))] [] (setp M 11 (wrN v (M.1 10) (78 * h) i)) Q := by
  intro m
  induction m with
  | zero =>
    intro i hi
    have hi2 : i = 78 := by omega
    subst hi2
    refine r_il1 (n := 59) dX4_changes_58 rfl ?_
    refine r_bipush (v := 78) (n := 61) dX4_changes_59 (by decide) rfl ?_
    refine r_icmp_ge (tgt := 90) (n := 64) dX4_changes_61 (by decide) rfl (fun c_61 => ?_) (fun c_61 => ?_)
    · exact K
    · exact absurd c_61 (fun q => q (by decide))
  | succ m ih =>
    intro i hi
    refine r_il1 (n := 59) dX4_changes_58 rfl ?_
    refine r_bipush (v := 78) (n := 61) dX4_changes_59 (by decide) rfl ?_
    refine r_icmp_ge (tgt := 90) (n := 64) dX4_changes_61 (by decide) rfl (fun c_61 => ?_) (fun c_61 => ?_)
    · exact absurd c_61 (nI_ge (a := i) (b := 78) (by omega) (by omega))
    · refine r_al0 (n := 65) dX4_changes_64 rfl ?_
      refine g_mo_past (n := 68)  in_X4_changes_wsX40 k_X4_changes_13 dX4_changes_65 rfl ?_
      refine r_bipush (v := 78) (n := 70) dX4_changes_68 (by decide) rfl ?_
      refine r_al0 (n := 71) dX4_changes_70 rfl ?_
      refine g_mo_pasts (n := 74)  in_X4_changes_wsX40 k_X4_changes_29 dX4_changes_71 rfl ?_
      refine r_imul (n := 75) dX4_changes_74 rfl ?_
      refine r_il1 (n := 76) dX4_changes_75 rfl ?_
      refine r_iadd (n := 77) dX4_changes_76 rfl ?_
      refine r_al0 (n := 78) dX4_changes_77 rfl ?_
      refine g_mo_s (n := 81)  in_X4_changes_wsX40 k_X4_changes_7 dX4_changes_78 rfl ?_
      refine r_il1 (n := 82) dX4_changes_81 rfl ?_
      refine a_s (n := 83) (k := i) rfl (by omega) dX4_changes_82 rfl ?_
      refine a_put_past (n := 84) (k := 78 * h + i) (by rw [setp_ne _ _ (by decide), hh, show (78 : Int32) = nI 78 from rfl, pk_mul, nI_add]) (by omega) dX4_changes_83 rfl ?_
      refine r_ii1 (n := 87) (by decide) rfl dX4_changes_84 (nI_inc _) rfl ?_
      refine r_goto (tgt := 58) dX4_changes_87 (by decide) ?_
      rw [setp_ne _ _ (by decide), mput_s, setp_at, setp_2, wrN_s]
      exact ih (i + 1) (by omega)

set_option maxHeartbeats 4000000 in
set_option maxRecDepth 100000 in
theorem t_changes {o1 : Option Value} (hc1 : catok [o1] = true) {h : Nat} (hh : M.1 9 0 = nI h) (h4 : h < 4) : P_X4_changes cA ad D 56 [some (.ref (ad 4)), o1] [] M (Rv (mput (setp M 11 (wrN (M.1 11) (M.1 10) (78 * h) 78)) 9 0 (nI (h + 1)))) := by
  refine r_iconst (v := 0) (n := 57) dX4_changes_56 (by decide) rfl ?_
  refine r_is1 (n := 58) (by decide) (show catok [some (.ref (ad 4)), o1] = true from hc1) dX4_changes_57 rfl ?_
  have k := l_changes_2 (cA := cA) (ad := ad) (D := D) (M := M) (M.1 11) hh h4 (Q := Rv (mput (setp M 11 (wrN (M.1 11) (M.1 10) (78 * h) 78)) 9 0 (nI (h + 1)))) (by
    refine r_al0 (n := 91) dX4_changes_90 rfl ?_
    refine r_dup (n := 92) dX4_changes_91 rfl rfl ?_
    refine g_mo_pasts (n := 95)  in_X4_changes_wsX40 k_X4_changes_29 dX4_changes_92 rfl ?_
    refine r_iconst (v := 1) (n := 96) dX4_changes_95 (by decide) rfl ?_
    refine r_iadd (n := 97) dX4_changes_96 rfl ?_
    rw [setp_ne _ _ (by decide), hh, nI_1]
    refine p_mo_pasts (n := 100)  in_X4_changes_wsX40 k_X4_changes_29 dX4_changes_97 rfl ?_
    exact e_v dX4_changes_100 rfl rfl) 78 0 (by omega)
  rw [wrN_0, setp_self] at k
  exact k

set_option maxHeartbeats 4000000 in
set_option maxRecDepth 100000 in
theorem m_X4_changes_lt (hr : M.1 9 1 = 0) {h : Nat} (hh : M.1 9 0 = nI h) (h4 : h < 4) : C_X4_changes cA ad D [.ref (ad 4)] M (Rv (mput (setp M 11 (wrN (M.1 11) (M.1 10) (78 * h) 78)) 9 0 (nI (h + 1)))) := by
  refine PM_of (lv := [some (.ref (ad 4)), none]) (by decide +kernel) rfl (Nat.le_of_ble_eq_true rfl) rfl ?_
  refine r_al0 (n := 1) dX4_changes_0 rfl ?_
  refine g_mo_runs (n := 4)  in_X4_changes_wsX40 k_X4_changes_25 dX4_changes_1 rfl ?_
  refine r_if_eq (tgt := 8) (n := 7) dX4_changes_4 (by decide) rfl (fun c_4 => ?_) (fun c_4 => ?_)
  · refine r_al0 (n := 9) dX4_changes_8 rfl ?_
    refine g_mo_pasts (n := 12)  in_X4_changes_wsX40 k_X4_changes_29 dX4_changes_9 rfl ?_
    refine r_iconst (v := 4) (n := 13) dX4_changes_12 (by decide) rfl ?_
    refine r_icmp_ne (tgt := 56) (n := 16) dX4_changes_13 (by decide) rfl (fun c_13 => ?_) (fun c_13 => ?_)
    · exact t_changes rfl hh h4
    · exact absurd c_13 (fun q : M.1 9 0 = 4 => absurd ((nI_eq (a := h) (b := 4) (by omega) (by omega)).mp (hh ▸ q)) (by omega))
  · exact absurd c_4 (fun q => q hr)

set_option maxHeartbeats 4000000 in
set_option maxRecDepth 100000 in
theorem m_X4_changes_4 (hr : M.1 9 1 = 0) (hh : M.1 9 0 = nI 4) : C_X4_changes cA ad D [.ref (ad 4)] M (Rv (mput (setp (mput (setp M 11 (shN (M.1 11) 234)) 9 0 (nI 3)) 11 (wrN (shN (M.1 11) 234) (M.1 10) (78 * 3) 78)) 9 0 (nI 4))) := by
  refine PM_of (lv := [some (.ref (ad 4)), none]) (by decide +kernel) rfl (Nat.le_of_ble_eq_true rfl) rfl ?_
  refine r_al0 (n := 1) dX4_changes_0 rfl ?_
  refine g_mo_runs (n := 4)  in_X4_changes_wsX40 k_X4_changes_25 dX4_changes_1 rfl ?_
  refine r_if_eq (tgt := 8) (n := 7) dX4_changes_4 (by decide) rfl (fun c_4 => ?_) (fun c_4 => ?_)
  · refine r_al0 (n := 9) dX4_changes_8 rfl ?_
    refine g_mo_pasts (n := 12)  in_X4_changes_wsX40 k_X4_changes_29 dX4_changes_9 rfl ?_
    refine r_iconst (v := 4) (n := 13) dX4_changes_12 (by decide) rfl ?_
    refine r_icmp_ne (tgt := 56) (n := 16) dX4_changes_13 (by decide) rfl (fun c_13 => ?_) (fun c_13 => ?_)
    · exact absurd c_13 (fun q => q (by rw [hh]; rfl))
    · refine r_iconst (v := 0) (n := 17) dX4_changes_16 (by decide) rfl ?_
      refine r_is1 (n := 18) (by decide) rfl dX4_changes_17 rfl ?_
      refine pw_mem (setp_self M 11).symm ?_
      have e0 : setp M 11 (M.1 11) = setp M 11 (shN (M.1 11) 0) := by rw [shN_0]
      rw [e0]
      refine l_changes_1 (M.1 11) ?_ 234 0 (by omega)
      refine r_al0 (n := 47) dX4_changes_46 rfl ?_
      refine r_dup (n := 48) dX4_changes_47 rfl rfl ?_
      refine g_mo_pasts (n := 51)  in_X4_changes_wsX40 k_X4_changes_29 dX4_changes_48 rfl ?_
      refine r_iconst (v := 1) (n := 52) dX4_changes_51 (by decide) rfl ?_
      refine r_isub (n := 53) dX4_changes_52 rfl ?_
      rw [setp_ne _ _ (by decide), hh, show nI 4 - 1 = nI 3 from by decide]
      refine p_mo_pasts (n := 56)  in_X4_changes_wsX40 k_X4_changes_29 dX4_changes_53 rfl ?_
      have k := t_changes (cA := cA) (ad := ad) (D := D) (M := mput (setp M 11 (shN (M.1 11) 234)) 9 0 (nI 3)) (o1 := some (.int (nI 234))) rfl (h := 3) mput_at (by decide)
      rw [mput_ne (show 11 ≠ 9 by decide), mput_ne (show 10 ≠ 9 by decide), setp_at, setp_ne _ _ (show 10 ≠ 11 by decide)] at k
      exact k
  · exact absurd c_4 (fun q => q hr)

set_option maxHeartbeats 4000000 in
set_option maxRecDepth 100000 in
theorem l_X4_ends (u : Vec) {N : Nat} (hN : u 0 = nI N) (h8 : N ≤ 8) : ∀ (m i : Nat), i + m = N → P_X4_ends cA ad D 2 [some (.ref (ad 4)), some (.int (nI i))] [] (setp M 10 (agsU u i)) (Rv (setp M 10 (edU u N))) := by
  intro m
  induction m with
  | zero =>
    intro i hi
    have hi2 : i = N := by omega
    subst hi2
    refine r_il1 (n := 3) dX4_ends_2 rfl ?_
    refine r_al0 (n := 4) dX4_ends_3 rfl ?_
    refine g_mo_s (n := 7)  in_X4_ends_wsX40 k_X4_ends_7 dX4_ends_4 rfl ?_
    refine r_iconst (v := 0) (n := 8) dX4_ends_7 (by decide) rfl ?_
    refine a_s (n := 9) (k := 0) (by decide) (by decide) dX4_ends_8 rfl ?_
    refine r_icmp_ge (tgt := 23) (n := 12) dX4_ends_9 (by decide) rfl (fun c_9 => ?_) (fun c_9 => ?_)
    · try simp only [setp_at]
      refine r_al0 (n := 24) dX4_ends_23 rfl ?_
      refine g_mo_s (n := 27)  in_X4_ends_wsX40 k_X4_ends_7 dX4_ends_24 rfl ?_
      refine r_iconst (v := 1) (n := 28) dX4_ends_27 (by decide) rfl ?_
      refine r_dup2 (n := 29) dX4_ends_28 rfl rfl rfl ?_
      refine a_s (n := 30) (k := 1) (by decide) (by decide) dX4_ends_29 rfl ?_
      refine r_iconst (v := 1) (n := 31) dX4_ends_30 (by decide) rfl ?_
      refine r_iadd (n := 32) dX4_ends_31 rfl ?_
      refine a_put_s (n := 33) (k := 1) (by decide) (by decide) dX4_ends_32 rfl ?_
      refine r_al0 (n := 34) dX4_ends_33 rfl ?_
      refine g_mo_s (n := 37)  in_X4_ends_wsX40 k_X4_ends_7 dX4_ends_34 rfl ?_
      refine r_iconst (v := 3) (n := 38) dX4_ends_37 (by decide) rfl ?_
      refine r_al0 (n := 39) dX4_ends_38 rfl ?_
      refine g_mo_s (n := 42)  in_X4_ends_wsX40 k_X4_ends_7 dX4_ends_39 rfl ?_
      refine r_bipush (v := 11) (n := 44) dX4_ends_42 (by decide) rfl ?_
      refine a_s (n := 45) (k := 11) (by decide) (by decide) dX4_ends_44 rfl ?_
      refine a_put_s (n := 46) (k := 3) (by decide) (by decide) dX4_ends_45 rfl ?_
      exact e_v dX4_ends_46 rfl (by
        simp (disch := omega) only [mput_s, setp_at, setp_2, upd_ne]
        rw [edU, agsU_j _ 1 (by decide) (by decide), agsU_j _ 11 (by decide) (by decide)])
    · exact absurd c_9 (fun q => q (by rw [setp_at, agsU_j _ _ (by decide) (by decide), hN]; exact nI_le (Nat.le_refl _) (by omega)))
  | succ m ih =>
    intro i hi
    refine r_il1 (n := 3) dX4_ends_2 rfl ?_
    refine r_al0 (n := 4) dX4_ends_3 rfl ?_
    refine g_mo_s (n := 7)  in_X4_ends_wsX40 k_X4_ends_7 dX4_ends_4 rfl ?_
    refine r_iconst (v := 0) (n := 8) dX4_ends_7 (by decide) rfl ?_
    refine a_s (n := 9) (k := 0) (by decide) (by decide) dX4_ends_8 rfl ?_
    refine r_icmp_ge (tgt := 23) (n := 12) dX4_ends_9 (by decide) rfl (fun c_9 => ?_) (fun c_9 => ?_)
    · exact absurd c_9 (by rw [setp_at, agsU_j _ _ (by decide) (by decide), hN]; exact nI_ge (by omega) (by omega))
    · refine r_al0 (n := 13) dX4_ends_12 rfl ?_
      refine r_il1 (n := 14) dX4_ends_13 rfl ?_
      refine cV_v (n := 17) (np := 1) (m_X4_ages (k := i) (by omega)) gX4_ends_X4_ages rfl (by decide +kernel) rfl (by decide) (by decide) (by omega) rfl rfl dX4_ends_14 rfl rfl (Nat.le_of_ble_eq_true rfl) ?_
      refine r_ii1 (n := 20) (by decide) rfl dX4_ends_17 (nI_inc _) rfl ?_
      refine r_goto (tgt := 2) dX4_ends_20 (by decide) ?_
      rw [setp_at, setp_2]
      exact ih (i + 1) (by omega)

set_option maxHeartbeats 4000000 in
set_option maxRecDepth 100000 in
theorem m_X4_ends {N : Nat} (hN : M.1 10 0 = nI N) (h8 : N ≤ 8) : C_X4_ends cA ad D [.ref (ad 4)] M (Rv (setp M 10 (edU (M.1 10) N))) := by
  refine PM_of (lv := [some (.ref (ad 4)), none]) (by decide +kernel) rfl (Nat.le_of_ble_eq_true rfl) rfl ?_
  refine r_iconst (v := 0) (n := 1) dX4_ends_0 (by decide) rfl ?_
  refine r_is1 (n := 2) (by decide) rfl dX4_ends_1 rfl ?_
  have k := l_X4_ends (cA := cA) (ad := ad) (D := D) (M := M) (M.1 10) hN h8 N 0 (by omega)
  rw [agsU, setp_self] at k
  exact k

set_option maxHeartbeats 4000000 in
set_option maxRecDepth 100000 in
theorem l_X4_coldOnes {N : Nat} (hN : M.1 10 0 = nI N) (h8 : N ≤ 8) : ∀ (m i : Nat), i + m = N → P_X4_coldOnes cA ad D 4 [some (.ref (ad 4)), some (.int (csN (M.1 10) i)), some (.int (nI i))] [] M (Ri (csN (M.1 10) N) M) := by
  intro m
  induction m with
  | zero =>
    intro i hi
    have hi2 : i = N := by omega
    subst hi2
    refine r_il2 (n := 5) dX4_coldOnes_4 rfl ?_
    refine r_al0 (n := 6) dX4_coldOnes_5 rfl ?_
    refine g_mo_s (n := 9)  in_X4_coldOnes_wsX40 k_X4_coldOnes_7 dX4_coldOnes_6 rfl ?_
    refine r_iconst (v := 0) (n := 10) dX4_coldOnes_9 (by decide) rfl ?_
    refine a_s (n := 11) (k := 0) (by decide) (by decide) dX4_coldOnes_10 rfl ?_
    refine r_icmp_ge (tgt := 38) (n := 14) dX4_coldOnes_11 (by decide) rfl (fun c_11 => ?_) (fun c_11 => ?_)
    · refine r_il1 (n := 39) dX4_coldOnes_38 rfl ?_
      exact e_i dX4_coldOnes_39 rfl rfl rfl
    · exact absurd c_11 (fun q => q (by rw [hN]; exact nI_le (Nat.le_refl _) (by omega)))
  | succ m ih =>
    intro i hi
    refine r_il2 (n := 5) dX4_coldOnes_4 rfl ?_
    refine r_al0 (n := 6) dX4_coldOnes_5 rfl ?_
    refine g_mo_s (n := 9)  in_X4_coldOnes_wsX40 k_X4_coldOnes_7 dX4_coldOnes_6 rfl ?_
    refine r_iconst (v := 0) (n := 10) dX4_coldOnes_9 (by decide) rfl ?_
    refine a_s (n := 11) (k := 0) (by decide) (by decide) dX4_coldOnes_10 rfl ?_
    refine r_icmp_ge (tgt := 38) (n := 14) dX4_coldOnes_11 (by decide) rfl (fun c_11 => ?_) (fun c_11 => ?_)
    · exact absurd c_11 (by rw [hN]; exact nI_ge (by omega) (by omega))
    · refine r_il1 (n := 15) dX4_coldOnes_14 rfl ?_
      refine r_al0 (n := 16) dX4_coldOnes_15 rfl ?_
      refine r_il2 (n := 17) dX4_coldOnes_16 rfl ?_
      refine cV_i (n := 20) (np := 1) (m_X4_isCold (k := i) (by omega)) gX4_coldOnes_X4_isCold rfl (by decide +kernel) rfl (by decide) (by decide) (by omega) rfl rfl dX4_coldOnes_17 rfl rfl (Nat.le_of_ble_eq_true rfl) ?_
      refine r_if_eq (tgt := 29) (n := 23) dX4_coldOnes_20 (by decide) rfl (fun c_20 => ?_) (fun c_20 => ?_)
      · try replace c_20 := i10 c_20
        refine r_iconst (v := 0) (n := 30) dX4_coldOnes_29 (by decide) rfl ?_
        refine r_ior (n := 31) dX4_coldOnes_30 rfl ?_
        refine r_is1 (n := 32) (by decide) rfl dX4_coldOnes_31 rfl ?_
        refine r_ii2 (n := 35) (by decide) rfl dX4_coldOnes_32 (nI_inc _) rfl ?_
        refine r_goto (tgt := 4) dX4_coldOnes_35 (by decide) ?_
        have h := ih (i + 1) (by omega)
        first
          | (simp only [csN, if_pos c_20] at h; exact h)
          | (simp only [csN, if_neg c_20] at h; simp only [Int32.or_zero]; exact h)
      · try replace c_20 := i11 c_20
        refine r_iconst (v := 1) (n := 24) dX4_coldOnes_23 (by decide) rfl ?_
        refine r_il2 (n := 25) dX4_coldOnes_24 rfl ?_
        refine r_ishl (n := 26) dX4_coldOnes_25 rfl ?_
        refine r_goto (tgt := 30) dX4_coldOnes_26 (by decide) ?_
        refine r_ior (n := 31) dX4_coldOnes_30 rfl ?_
        refine r_is1 (n := 32) (by decide) rfl dX4_coldOnes_31 rfl ?_
        refine r_ii2 (n := 35) (by decide) rfl dX4_coldOnes_32 (nI_inc _) rfl ?_
        refine r_goto (tgt := 4) dX4_coldOnes_35 (by decide) ?_
        have h := ih (i + 1) (by omega)
        first
          | (simp only [csN, if_pos c_20] at h; exact h)
          | (simp only [csN, if_neg c_20] at h; simp only [Int32.or_zero]; exact h)

set_option maxHeartbeats 4000000 in
set_option maxRecDepth 100000 in
theorem m_X4_coldOnes {N : Nat} (hN : M.1 10 0 = nI N) (h8 : N ≤ 8) : C_X4_coldOnes cA ad D [.ref (ad 4)] M (Ri (csN (M.1 10) N) M) := by
  refine PM_of (lv := [some (.ref (ad 4)), none, none]) (by decide +kernel) rfl (Nat.le_of_ble_eq_true rfl) rfl ?_
  refine r_iconst (v := 0) (n := 1) dX4_coldOnes_0 (by decide) rfl ?_
  refine r_is1 (n := 2) (by decide) rfl dX4_coldOnes_1 rfl ?_
  refine r_iconst (v := 0) (n := 3) dX4_coldOnes_2 (by decide) rfl ?_
  refine r_is2 (n := 4) (by decide) rfl dX4_coldOnes_3 rfl ?_
  exact l_X4_coldOnes hN h8 N 0 (by omega)

set_option maxHeartbeats 4000000 in
set_option maxRecDepth 100000 in
theorem l_X4_sum {N : Nat} (hN : M.1 10 0 = nI N) (h8 : N ≤ 8) {j : Nat} (hj : j < 8) : ∀ (m i : Nat), i + m = N → P_X4_sum cA ad D 4 [some (.ref (ad 4)), some (.int (nI j)), some (.int (sumN (M.1 10) j i)), some (.int (nI i))] [] M (Ri (sumN (M.1 10) j N) M) := by
  intro m
  induction m with
  | zero =>
    intro i hi
    have hi2 : i = N := by omega
    subst hi2
    refine r_il3 (n := 5) dX4_sum_4 rfl ?_
    refine r_al0 (n := 6) dX4_sum_5 rfl ?_
    refine g_mo_s (n := 9)  in_X4_sum_wsX40 k_X4_sum_7 dX4_sum_6 rfl ?_
    refine r_iconst (v := 0) (n := 10) dX4_sum_9 (by decide) rfl ?_
    refine a_s (n := 11) (k := 0) (by decide) (by decide) dX4_sum_10 rfl ?_
    refine r_icmp_ge (tgt := 29) (n := 14) dX4_sum_11 (by decide) rfl (fun c_11 => ?_) (fun c_11 => ?_)
    · refine r_il2 (n := 30) dX4_sum_29 rfl ?_
      exact e_i dX4_sum_30 rfl rfl rfl
    · exact absurd c_11 (fun q => q (by rw [hN]; exact nI_le (Nat.le_refl _) (by omega)))
  | succ m ih =>
    intro i hi
    refine r_il3 (n := 5) dX4_sum_4 rfl ?_
    refine r_al0 (n := 6) dX4_sum_5 rfl ?_
    refine g_mo_s (n := 9)  in_X4_sum_wsX40 k_X4_sum_7 dX4_sum_6 rfl ?_
    refine r_iconst (v := 0) (n := 10) dX4_sum_9 (by decide) rfl ?_
    refine a_s (n := 11) (k := 0) (by decide) (by decide) dX4_sum_10 rfl ?_
    refine r_icmp_ge (tgt := 29) (n := 14) dX4_sum_11 (by decide) rfl (fun c_11 => ?_) (fun c_11 => ?_)
    · exact absurd c_11 (by rw [hN]; exact nI_ge (by omega) (by omega))
    · refine r_il2 (n := 15) dX4_sum_14 rfl ?_
      refine r_al0 (n := 16) dX4_sum_15 rfl ?_
      refine r_il3 (n := 17) dX4_sum_16 rfl ?_
      refine r_il1 (n := 18) dX4_sum_17 rfl ?_
      refine cV_i (n := 21) (np := 2) (m_X4_of (k := i) (j := j) (by omega) hj) gX4_sum_X4_of rfl (by decide +kernel) rfl (by decide) (by decide) (by omega) rfl rfl dX4_sum_18 rfl rfl (Nat.le_of_ble_eq_true rfl) ?_
      refine r_iadd (n := 22) dX4_sum_21 rfl ?_
      refine r_is2 (n := 23) (by decide) rfl dX4_sum_22 rfl ?_
      refine r_ii3 (n := 26) (by decide) rfl dX4_sum_23 (nI_inc _) rfl ?_
      refine r_goto (tgt := 4) dX4_sum_26 (by decide) ?_
      exact ih (i + 1) (by omega)

set_option maxHeartbeats 4000000 in
set_option maxRecDepth 100000 in
theorem m_X4_sum {N : Nat} (hN : M.1 10 0 = nI N) (h8 : N ≤ 8) {j : Nat} (hj : j < 8) : C_X4_sum cA ad D [.ref (ad 4), .int (nI j)] M (Ri (sumN (M.1 10) j N) M) := by
  refine PM_of (lv := [some (.ref (ad 4)), some (.int (nI j)), none, none]) (by decide +kernel) rfl (Nat.le_of_ble_eq_true rfl) rfl ?_
  refine r_iconst (v := 0) (n := 1) dX4_sum_0 (by decide) rfl ?_
  refine r_is2 (n := 2) (by decide) rfl dX4_sum_1 rfl ?_
  refine r_iconst (v := 0) (n := 3) dX4_sum_2 (by decide) rfl ?_
  refine r_is3 (n := 4) (by decide) rfl dX4_sum_3 rfl ?_
  exact l_X4_sum hN h8 hj N 0 (by omega)

set_option maxHeartbeats 4000000 in
set_option maxRecDepth 100000 in
theorem l_X4_ones {x0 : Int32} : ∀ (m : Nat) (x n : Int32), onZ m x → P_X4_ones cA ad D 4 [some (.int x0), some (.int n), some (.int x)] [] M (Ri (onF m x n) M) := by
  intro m
  induction m with
  | zero =>
    intro x n hz
    have hz : x = 0 := hz
    refine r_il2 (n := 5) dX4_ones_4 rfl ?_
    refine r_if_eq (tgt := 20) (n := 8) dX4_ones_5 (by decide) rfl (fun c_5 => ?_) (fun c_5 => ?_)
    · refine r_il1 (n := 21) dX4_ones_20 rfl ?_
      exact e_i dX4_ones_21 rfl rfl rfl
    · exact absurd c_5 (fun q => q hz)
  | succ m ih =>
    intro x n hz
    have hz : x = 0 ∨ onZ m (x &&& (x - 1)) := hz
    refine r_il2 (n := 5) dX4_ones_4 rfl ?_
    refine r_if_eq (tgt := 20) (n := 8) dX4_ones_5 (by decide) rfl (fun c_5 => ?_) (fun c_5 => ?_)
    · refine r_il1 (n := 21) dX4_ones_20 rfl ?_
      exact e_i dX4_ones_21 rfl (by rw [onF, if_pos c_5]) rfl
    · rw [onF, if_neg c_5]
      refine r_ii1 (n := 11) (by decide) rfl dX4_ones_8 rfl rfl ?_
      refine r_il2 (n := 12) dX4_ones_11 rfl ?_
      refine r_il2 (n := 13) dX4_ones_12 rfl ?_
      refine r_iconst (v := 1) (n := 14) dX4_ones_13 (by decide) rfl ?_
      refine r_isub (n := 15) dX4_ones_14 rfl ?_
      refine r_iand (n := 16) dX4_ones_15 rfl ?_
      refine r_is2 (n := 17) (by decide) rfl dX4_ones_16 rfl ?_
      refine r_goto (tgt := 4) dX4_ones_17 (by decide) ?_
      refine ih _ _ (hz.resolve_left c_5)

set_option maxHeartbeats 4000000 in
set_option maxRecDepth 100000 in
theorem m_X4_ones {x : Int32} {m : Nat} (hz : onZ m x) : C_X4_ones cA ad D [.int x] M (Ri (onF m x 0) M) := by
  refine PM_of (lv := [some (.int x), none, none]) (by decide +kernel) rfl (Nat.le_of_ble_eq_true rfl) rfl ?_
  refine r_iconst (v := 0) (n := 1) dX4_ones_0 (by decide) rfl ?_
  refine r_is1 (n := 2) (by decide) rfl dX4_ones_1 rfl ?_
  refine r_il0 (n := 3) dX4_ones_2 rfl ?_
  refine r_is2 (n := 4) (by decide) rfl dX4_ones_3 rfl ?_
  exact l_X4_ones m x 0 hz

set_option maxHeartbeats 4000000 in
set_option maxRecDepth 100000 in
theorem l_X4_coldDays {k : Nat} (hk : k < 8) {Q : QT} : ∀ (m n : Nat), n + m = 200 → ∀ (w : Vec), P_X4_coldDays cA ad D 39 [some (.ref (ad 4)), some (.int (nI k)), some (.int (nI (cdR k m n w).1)), none] [] (setp M 10 (cdR k m n w).2) Q → P_X4_coldDays cA ad D 13 [some (.ref (ad 4)), some (.int (nI k)), some (.int (nI n)), none] [] (setp M 10 w) Q := by
  intro m
  induction m with
  | zero =>
    intro n hn w K
    have hn2 : n = 200 := by omega
    subst hn2
    refine r_il2 (n := 14) dX4_coldDays_13 rfl ?_
    refine r_sipush (v := 200) (n := 17) dX4_coldDays_14 (by decide) rfl ?_
    refine r_icmp_ge (tgt := 39) (n := 20) dX4_coldDays_17 (by decide) rfl (fun c_17 => ?_) (fun c_17 => ?_)
    · exact K
    · exact absurd c_17 (fun q => q (by decide))
  | succ m ih =>
    intro n hn w K
    refine r_il2 (n := 14) dX4_coldDays_13 rfl ?_
    refine r_sipush (v := 200) (n := 17) dX4_coldDays_14 (by decide) rfl ?_
    refine r_icmp_ge (tgt := 39) (n := 20) dX4_coldDays_17 (by decide) rfl (fun c_17 => ?_) (fun c_17 => ?_)
    · exact absurd c_17 (nI_ge (a := n) (b := 200) (by omega) (by omega))
    · refine r_al0 (n := 21) dX4_coldDays_20 rfl ?_
      refine r_il1 (n := 22) dX4_coldDays_21 rfl ?_
      refine cV_i (n := 25) (np := 1) (m_X4_isCold hk) gX4_coldDays_X4_isCold rfl (by decide +kernel) rfl (by decide) (by decide) (by omega) rfl rfl dX4_coldDays_22 rfl rfl (Nat.le_of_ble_eq_true rfl) ?_
      refine r_if_ne (tgt := 39) (n := 28) dX4_coldDays_25 (by decide) rfl (fun c_25 => ?_) (fun c_25 => ?_)
      · replace c_25 := i11 c_25
        rw [setp_at] at c_25
        rw [cdR, if_pos c_25] at K
        exact K
      · replace c_25 := i10 c_25
        rw [setp_at] at c_25
        refine r_al0 (n := 29) dX4_coldDays_28 rfl ?_
        refine r_il1 (n := 30) dX4_coldDays_29 rfl ?_
        refine cV_v (n := 33) (np := 1) (m_X4_ages hk) gX4_coldDays_X4_ages rfl (by decide +kernel) rfl (by decide) (by decide) (by omega) rfl rfl dX4_coldDays_30 rfl rfl (Nat.le_of_ble_eq_true rfl) ?_
        refine r_ii2 (n := 36) (by decide) rfl dX4_coldDays_33 (nI_inc _) rfl ?_
        refine r_goto (tgt := 13) dX4_coldDays_36 (by decide) ?_
        rw [cdR, if_neg c_25] at K
        rw [setp_at, setp_2]
        exact ih (n + 1) (by omega) _ K

set_option maxHeartbeats 4000000 in
set_option maxRecDepth 100000 in
theorem m_X4_coldDays {k : Nat} (hk : k < 8) : C_X4_coldDays cA ad D [.ref (ad 4), .int (nI k)] M (Ri (cdM (M.1 10) k) (setp M 13 (cpN (M.1 13) (M.1 10) 78))) := by
  refine PM_of (lv := [some (.ref (ad 4)), some (.int (nI k)), none, none]) (by decide +kernel) rfl (Nat.le_of_ble_eq_true rfl) rfl ?_
  refine r_al0 (n := 1) dX4_coldDays_0 rfl ?_
  refine g_mo_s (n := 4)  in_X4_coldDays_wsX40 k_X4_coldDays_7 dX4_coldDays_1 rfl ?_
  refine r_al0 (n := 5) dX4_coldDays_4 rfl ?_
  refine g_mo_tried (n := 8)  in_X4_coldDays_wsX40 k_X4_coldDays_19 dX4_coldDays_5 rfl ?_
  refine cS_v (n := 11) (np := 2) (m_copies_s_tried) gX4_coldDays_X4_copies rfl (by decide +kernel) rfl (by decide) (by decide) dX4_coldDays_8 rfl rfl (Nat.le_of_ble_eq_true rfl) ?_
  refine r_iconst (v := 0) (n := 12) dX4_coldDays_11 (by decide) rfl ?_
  refine r_is2 (n := 13) (by decide) rfl dX4_coldDays_12 rfl ?_
  refine pw_mem (setp_self _ 10).symm ?_
  rw [setp_ne _ _ (show 10 ≠ 13 by decide)]
  refine l_X4_coldDays hk 200 0 (by omega) (M.1 10) ?_
  have eB : setp (setp (setp M 13 (cpN (M.1 13) (M.1 10) 78)) 10 (cdR k 200 0 (M.1 10)).2) 10 (cpN (cdR k 200 0 (M.1 10)).2 (cpN (M.1 13) (M.1 10) 78) 78) = setp M 13 (cpN (M.1 13) (M.1 10) 78) := by
    rw [setp_2, cp_back (fun j hj => cdR_t hk 200 0 (M.1 10) j hj)]
    have q := setp_self (setp M 13 (cpN (M.1 13) (M.1 10) 78)) 10
    rw [setp_ne _ _ (show 10 ≠ 13 by decide)] at q
    exact q
  refine r_al0 (n := 40) dX4_coldDays_39 rfl ?_
  refine r_il1 (n := 41) dX4_coldDays_40 rfl ?_
  refine cV_i (n := 44) (np := 1) (m_X4_isCold hk) gX4_coldDays_X4_isCold rfl (by decide +kernel) rfl (by decide) (by decide) (by omega) rfl rfl dX4_coldDays_41 rfl rfl (Nat.le_of_ble_eq_true rfl) ?_
  refine r_is3 (n := 45) (by decide) rfl dX4_coldDays_44 rfl ?_
  refine r_al0 (n := 46) dX4_coldDays_45 rfl ?_
  refine g_mo_tried (n := 49)  in_X4_coldDays_wsX40 k_X4_coldDays_19 dX4_coldDays_46 rfl ?_
  refine r_al0 (n := 50) dX4_coldDays_49 rfl ?_
  refine g_mo_s (n := 53)  in_X4_coldDays_wsX40 k_X4_coldDays_7 dX4_coldDays_50 rfl ?_
  refine cS_v (n := 56) (np := 2) (m_copies_tried_s) gX4_coldDays_X4_copies rfl (by decide +kernel) rfl (by decide) (by decide) dX4_coldDays_53 rfl rfl (Nat.le_of_ble_eq_true rfl) ?_
  rw [setp_at, setp_ne _ _ (show 13 ≠ 10 by decide), setp_at, eB]
  refine r_il3 (n := 57) dX4_coldDays_56 rfl ?_
  refine r_if_eq (tgt := 64) (n := 60) dX4_coldDays_57 (by decide) rfl (fun c_57 => ?_) (fun c_57 => ?_)
  · replace c_57 := i10 c_57
    refine r_ldc (n := 66) dX4_coldDays_64 k_X4_coldDays_109 rfl ?_
    exact e_i dX4_coldDays_66 rfl (by simp only [cdM, *, if_true, if_false]) rfl
  · replace c_57 := i11 c_57
    refine r_il2 (n := 61) dX4_coldDays_60 rfl ?_
    refine r_goto (tgt := 66) dX4_coldDays_61 (by decide) ?_
    exact e_i dX4_coldDays_66 rfl (by simp only [cdM, *, if_true, if_false]) rfl

end MLOOP
