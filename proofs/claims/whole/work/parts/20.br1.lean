/-! ===== the object: history and commit ===== -/
section BR1
variable {cA : Nat → ClassId} {ad : Nat → Nat} {D : va_G} {M : Mem}
set_option maxHeartbeats 4000000 in
set_option maxRecDepth 100000 in
theorem s_X3_dropOldestState (hr : ∀ i, i < 6 → M.2 i < 6) {Q : QT} {i : Nat} (hi : i < 3) (K : P_X3_dropOldestState cA ad D 2 [some (.ref (ad 0)), some (.int (nI (i + 1))), none] [] (M.1, rot1 M.2 i) Q) : P_X3_dropOldestState cA ad D 2 [some (.ref (ad 0)), some (.int (nI i)), none] [] M Q := by
  refine r_il1 (n := 3) dX3_dropOldestState_2 rfl ?_
  refine r_iconst (v := 1) (n := 4) dX3_dropOldestState_3 (by decide) rfl ?_
  refine r_iadd (n := 5) dX3_dropOldestState_4 rfl ?_
  rw [nI_1]
  refine r_al0 (n := 6) dX3_dropOldestState_5 rfl ?_
  refine g_br_history (n := 9)  in_X3_dropOldestState_wsX30 k_X3_dropOldestState_19 dX3_dropOldestState_6 rfl ?_
  refine a_lenHist (n := 10) dX3_dropOldestState_9 rfl ?_
  refine r_icmp_ge (tgt := 49) (n := 13) dX3_dropOldestState_10 (by decide) rfl (fun c_10 => ?_) (fun c_10 => ?_)
  · exact absurd c_10 (nI_ge (a := i + 1) (b := 4) (by omega) (by omega))
  · refine r_al0 (n := 14) dX3_dropOldestState_13 rfl ?_
    refine g_br_history (n := 17)  in_X3_dropOldestState_wsX30 k_X3_dropOldestState_19 dX3_dropOldestState_14 rfl ?_
    refine r_il1 (n := 18) dX3_dropOldestState_17 rfl ?_
    refine a_hist (n := 19) (k := i) rfl (by omega) dX3_dropOldestState_18 rfl ?_
    refine r_as2 (n := 20) (by decide) rfl dX3_dropOldestState_19 rfl ?_
    refine r_al0 (n := 21) dX3_dropOldestState_20 rfl ?_
    refine g_br_history (n := 24)  in_X3_dropOldestState_wsX30 k_X3_dropOldestState_19 dX3_dropOldestState_21 rfl ?_
    refine r_il1 (n := 25) dX3_dropOldestState_24 rfl ?_
    refine r_al0 (n := 26) dX3_dropOldestState_25 rfl ?_
    refine g_br_history (n := 29)  in_X3_dropOldestState_wsX30 k_X3_dropOldestState_19 dX3_dropOldestState_26 rfl ?_
    refine r_il1 (n := 30) dX3_dropOldestState_29 rfl ?_
    refine r_iconst (v := 1) (n := 31) dX3_dropOldestState_30 (by decide) rfl ?_
    refine r_iadd (n := 32) dX3_dropOldestState_31 rfl ?_
    rw [nI_1]
    refine a_hist (n := 33) (k := i + 1) rfl (by omega) dX3_dropOldestState_32 rfl ?_
    refine a_putHist (n := 34) (k := i) (q := M.2 (2 + (i + 1))) rfl (by omega) (hr _ (by omega)) dX3_dropOldestState_33 rfl ?_
    refine r_al0 (n := 35) dX3_dropOldestState_34 rfl ?_
    refine g_br_history (n := 38)  in_X3_dropOldestState_wsX30 k_X3_dropOldestState_19 dX3_dropOldestState_35 rfl ?_
    refine r_il1 (n := 39) dX3_dropOldestState_38 rfl ?_
    refine r_iconst (v := 1) (n := 40) dX3_dropOldestState_39 (by decide) rfl ?_
    refine r_iadd (n := 41) dX3_dropOldestState_40 rfl ?_
    rw [nI_1]
    refine r_al2 (n := 42) dX3_dropOldestState_41 rfl ?_
    refine a_putHist (n := 43) (k := i + 1) (q := M.2 (2 + i)) rfl (by omega) (hr _ (by omega)) dX3_dropOldestState_42 rfl ?_
    refine r_ii1 (n := 46) (by decide) rfl dX3_dropOldestState_43 (nI_inc _) rfl ?_
    refine r_goto (tgt := 2) dX3_dropOldestState_46 (by decide) ?_
    refine r_dr2 ?_
    exact K

set_option maxHeartbeats 4000000 in
set_option maxRecDepth 100000 in
theorem m_X3_dropOldestState (hr : ∀ i, i < 6 → M.2 i < 6) : C_X3_dropOldestState cA ad D [.ref (ad 0)] M (Rv (mput (M.1, rot M.2) 8 0 (M.1 8 0 - 1))) := by
  refine PM_of (lv := [some (.ref (ad 0)), none, none]) (by decide +kernel) rfl (Nat.le_of_ble_eq_true rfl) rfl ?_
  refine r_iconst (v := 0) (n := 1) dX3_dropOldestState_0 (by decide) rfl ?_
  refine r_is1 (n := 2) (by decide) rfl dX3_dropOldestState_1 rfl ?_
  refine s_X3_dropOldestState hr (i := 0) (by decide) ?_
  refine s_X3_dropOldestState (M := (M.1, rot1 M.2 0)) (rot1_lt hr (by decide)) (i := 1) (by decide) ?_
  refine s_X3_dropOldestState (M := (M.1, rot1 (rot1 M.2 0) 1)) (rot1_lt (rot1_lt hr (by decide)) (by decide)) (i := 2) (by decide) ?_
  refine r_il1 (n := 3) dX3_dropOldestState_2 rfl ?_
  refine r_iconst (v := 1) (n := 4) dX3_dropOldestState_3 (by decide) rfl ?_
  refine r_iadd (n := 5) dX3_dropOldestState_4 rfl ?_
  refine r_al0 (n := 6) dX3_dropOldestState_5 rfl ?_
  refine g_br_history (n := 9)  in_X3_dropOldestState_wsX30 k_X3_dropOldestState_19 dX3_dropOldestState_6 rfl ?_
  refine a_lenHist (n := 10) dX3_dropOldestState_9 rfl ?_
  refine r_icmp_ge (tgt := 49) (n := 13) dX3_dropOldestState_10 (by decide) rfl (fun c_10 => ?_) (fun c_10 => ?_)
  · refine r_al0 (n := 50) dX3_dropOldestState_49 rfl ?_
    refine r_dup (n := 51) dX3_dropOldestState_50 rfl rfl ?_
    refine g_br_states (n := 54)  in_X3_dropOldestState_wsX30 k_X3_dropOldestState_176 dX3_dropOldestState_51 rfl ?_
    refine r_iconst (v := 1) (n := 55) dX3_dropOldestState_54 (by decide) rfl ?_
    refine r_isub (n := 56) dX3_dropOldestState_55 rfl ?_
    refine p_br_states (n := 59)  in_X3_dropOldestState_wsX30 k_X3_dropOldestState_176 dX3_dropOldestState_56 rfl ?_
    exact e_v dX3_dropOldestState_59 rfl rfl
  · exact absurd c_10 (by decide)

set_option maxHeartbeats 4000000 in
set_option maxRecDepth 100000 in
theorem m_X3_remember_lt (hr : ∀ i, i < 6 → M.2 i < 6) {N : Nat} (hN : M.1 (M.2 0) 0 = nI N) (h8 : N ≤ 8) {h : Nat} (hh : M.1 8 0 = nI h) (h4 : h < 4) (hne : M.2 0 ≠ M.2 (2 + h)) : C_X3_remember cA ad D [.ref (ad 0)] M (Rv (mput (setp M (M.2 (2 + h)) (copyU (M.1 (M.2 (2 + h))) (M.1 (M.2 0)) N)) 8 0 (nI (h + 1)))) := by
  refine PM_of (lv := [some (.ref (ad 0)), none]) (by decide +kernel) rfl (Nat.le_of_ble_eq_true rfl) rfl ?_
  have hq0 := hr 0 (by decide)
  have hq1 := hr (2 + h) (by omega)
  refine r_al0 (n := 1) dX3_remember_0 rfl ?_
  refine g_br_states (n := 4)  in_X3_remember_wsX30 k_X3_remember_176 dX3_remember_1 rfl ?_
  refine r_al0 (n := 5) dX3_remember_4 rfl ?_
  refine g_br_history (n := 8)  in_X3_remember_wsX30 k_X3_remember_19 dX3_remember_5 rfl ?_
  refine a_lenHist (n := 9) dX3_remember_8 rfl ?_
  refine r_icmp_lt (tgt := 16) (n := 12) dX3_remember_9 (by decide) rfl (fun c_9 => ?_) (fun c_9 => ?_)
  · refine r_al0 (n := 17) dX3_remember_16 rfl ?_
    refine g_br_states (n := 20)  in_X3_remember_wsX30 k_X3_remember_176 dX3_remember_17 rfl ?_
    refine r_if_lt (tgt := 35) (n := 23) dX3_remember_20 (by decide) rfl (fun c_20 => ?_) (fun c_20 => ?_)
    · exact absurd c_20 (by rw [hh]; exact nI_pos (by omega))
    · refine r_al0 (n := 24) dX3_remember_23 rfl ?_
      refine g_br_states (n := 27)  in_X3_remember_wsX30 k_X3_remember_176 dX3_remember_24 rfl ?_
      refine r_al0 (n := 28) dX3_remember_27 rfl ?_
      refine g_br_history (n := 31)  in_X3_remember_wsX30 k_X3_remember_19 dX3_remember_28 rfl ?_
      refine a_lenHist (n := 32) dX3_remember_31 rfl ?_
      refine r_icmp_lt (tgt := 36) (n := 35) dX3_remember_32 (by decide) rfl (fun c_32 => ?_) (fun c_32 => ?_)
      · refine r_al0 (n := 37) dX3_remember_36 rfl ?_
        refine g_br_history (n := 40)  in_X3_remember_wsX30 k_X3_remember_19 dX3_remember_37 rfl ?_
        refine r_al0 (n := 41) dX3_remember_40 rfl ?_
        refine g_br_states (n := 44)  in_X3_remember_wsX30 k_X3_remember_176 dX3_remember_41 rfl ?_
        refine a_hist (n := 45) (k := h) hh (by omega) dX3_remember_44 rfl ?_
        refine r_as1 (n := 46) (by decide) rfl dX3_remember_45 rfl ?_
        refine r_al1 (n := 47) dX3_remember_46 rfl ?_
        refine r_ifnull (n := 50) dX3_remember_47 rfl ?_
        refine r_al1 (n := 51) dX3_remember_50 rfl ?_
        refine r_al0 (n := 52) dX3_remember_51 rfl ?_
        refine g_br_now (n := 55)  in_X3_remember_wsX30 k_X3_remember_12 dX3_remember_52 rfl ?_
        refine cV_v (n := 58) (np := 1) (m_X2_copyFrom (hr _ (by omega)) (hr _ (by omega)) hne hN h8) gX3_remember_X2_copyFrom rfl (by decide +kernel) rfl (by decide) (by decide) (by omega) (cell_st cA ad _ (by first | assumption | omega | exact hr _ (by omega))) rfl dX3_remember_55 rfl rfl (Nat.le_of_ble_eq_true rfl) ?_
        refine r_al0 (n := 59) dX3_remember_58 rfl ?_
        refine r_dup (n := 60) dX3_remember_59 rfl rfl ?_
        refine g_br_states (n := 63)  in_X3_remember_wsX30 k_X3_remember_176 dX3_remember_60 rfl ?_
        refine r_iconst (v := 1) (n := 64) dX3_remember_63 (by decide) rfl ?_
        refine r_iadd (n := 65) dX3_remember_64 rfl ?_
        rw [setp_ne _ _ (by have := hr (2 + h) (by omega); omega), hh, nI_1]
        refine p_br_states (n := 68)  in_X3_remember_wsX30 k_X3_remember_176 dX3_remember_65 rfl ?_
        exact e_v dX3_remember_68 rfl rfl
      · exact absurd c_32 (fun q => q (by rw [hh]; exact nI_lt (a := h) (b := 4) (by omega) (by omega)))
  · exact absurd c_9 (fun q => q (by rw [hh]; exact nI_lt (a := h) (b := 4) (by omega) (by omega)))

set_option maxHeartbeats 4000000 in
set_option maxRecDepth 100000 in
theorem t_X3_remember (hr : ∀ i, i < 6 → M.2 i < 6) {N : Nat} (hN : M.1 (M.2 0) 0 = nI N) (h8 : N ≤ 8) {h : Nat} (hh : M.1 8 0 = nI h) (h4 : h < 4) (hne : M.2 0 ≠ M.2 (2 + h)) : P_X3_remember cA ad D 16 [some (.ref (ad 0)), none] [] M (Rv (mput (setp M (M.2 (2 + h)) (copyU (M.1 (M.2 (2 + h))) (M.1 (M.2 0)) N)) 8 0 (nI (h + 1)))) := by
  have hq0 := hr 0 (by decide)
  have hq1 := hr (2 + h) (by omega)
  refine r_al0 (n := 17) dX3_remember_16 rfl ?_
  refine g_br_states (n := 20)  in_X3_remember_wsX30 k_X3_remember_176 dX3_remember_17 rfl ?_
  refine r_if_lt (tgt := 35) (n := 23) dX3_remember_20 (by decide) rfl (fun c_20 => ?_) (fun c_20 => ?_)
  · exact absurd c_20 (by rw [hh]; exact nI_pos (by omega))
  · refine r_al0 (n := 24) dX3_remember_23 rfl ?_
    refine g_br_states (n := 27)  in_X3_remember_wsX30 k_X3_remember_176 dX3_remember_24 rfl ?_
    refine r_al0 (n := 28) dX3_remember_27 rfl ?_
    refine g_br_history (n := 31)  in_X3_remember_wsX30 k_X3_remember_19 dX3_remember_28 rfl ?_
    refine a_lenHist (n := 32) dX3_remember_31 rfl ?_
    refine r_icmp_lt (tgt := 36) (n := 35) dX3_remember_32 (by decide) rfl (fun c_32 => ?_) (fun c_32 => ?_)
    · refine r_al0 (n := 37) dX3_remember_36 rfl ?_
      refine g_br_history (n := 40)  in_X3_remember_wsX30 k_X3_remember_19 dX3_remember_37 rfl ?_
      refine r_al0 (n := 41) dX3_remember_40 rfl ?_
      refine g_br_states (n := 44)  in_X3_remember_wsX30 k_X3_remember_176 dX3_remember_41 rfl ?_
      refine a_hist (n := 45) (k := h) hh (by omega) dX3_remember_44 rfl ?_
      refine r_as1 (n := 46) (by decide) rfl dX3_remember_45 rfl ?_
      refine r_al1 (n := 47) dX3_remember_46 rfl ?_
      refine r_ifnull (n := 50) dX3_remember_47 rfl ?_
      refine r_al1 (n := 51) dX3_remember_50 rfl ?_
      refine r_al0 (n := 52) dX3_remember_51 rfl ?_
      refine g_br_now (n := 55)  in_X3_remember_wsX30 k_X3_remember_12 dX3_remember_52 rfl ?_
      refine cV_v (n := 58) (np := 1) (m_X2_copyFrom (hr _ (by omega)) (hr _ (by omega)) hne hN h8) gX3_remember_X2_copyFrom rfl (by decide +kernel) rfl (by decide) (by decide) (by omega) (cell_st cA ad _ (by first | assumption | omega | exact hr _ (by omega))) rfl dX3_remember_55 rfl rfl (Nat.le_of_ble_eq_true rfl) ?_
      refine r_al0 (n := 59) dX3_remember_58 rfl ?_
      refine r_dup (n := 60) dX3_remember_59 rfl rfl ?_
      refine g_br_states (n := 63)  in_X3_remember_wsX30 k_X3_remember_176 dX3_remember_60 rfl ?_
      refine r_iconst (v := 1) (n := 64) dX3_remember_63 (by decide) rfl ?_
      refine r_iadd (n := 65) dX3_remember_64 rfl ?_
      rw [setp_ne _ _ (by have := hr (2 + h) (by omega); omega), hh, nI_1]
      refine p_br_states (n := 68)  in_X3_remember_wsX30 k_X3_remember_176 dX3_remember_65 rfl ?_
      exact e_v dX3_remember_68 rfl rfl
    · exact absurd c_32 (fun q => q (by rw [hh]; exact nI_lt (a := h) (b := 4) (by omega) (by omega)))

set_option maxHeartbeats 4000000 in
set_option maxRecDepth 100000 in
theorem m_X3_remember_4 (hr : ∀ i, i < 6 → M.2 i < 6) {N : Nat} (hN : M.1 (M.2 0) 0 = nI N) (h8 : N ≤ 8) (hh : M.1 8 0 = nI 4) (hne : M.2 0 ≠ M.2 2) : C_X3_remember cA ad D [.ref (ad 0)] M (Rv (mput (setp (mput (M.1, rot M.2) 8 0 (nI 3)) (M.2 2) (copyU (M.1 (M.2 2)) (M.1 (M.2 0)) N)) 8 0 (nI 4))) := by
  refine PM_of (lv := [some (.ref (ad 0)), none]) (by decide +kernel) rfl (Nat.le_of_ble_eq_true rfl) rfl ?_
  refine r_al0 (n := 1) dX3_remember_0 rfl ?_
  refine g_br_states (n := 4)  in_X3_remember_wsX30 k_X3_remember_176 dX3_remember_1 rfl ?_
  refine r_al0 (n := 5) dX3_remember_4 rfl ?_
  refine g_br_history (n := 8)  in_X3_remember_wsX30 k_X3_remember_19 dX3_remember_5 rfl ?_
  refine a_lenHist (n := 9) dX3_remember_8 rfl ?_
  refine r_icmp_lt (tgt := 16) (n := 12) dX3_remember_9 (by decide) rfl (fun c_9 => ?_) (fun c_9 => ?_)
  · exact absurd c_9 (by rw [hh]; decide)
  · refine r_al0 (n := 13) dX3_remember_12 rfl ?_
    refine cV_v (n := 16) (np := 0) (m_X3_dropOldestState hr) gX3_remember_X3_dropOldestState rfl (by decide +kernel) rfl (by decide) (by decide) (by omega) rfl rfl dX3_remember_13 rfl rfl (Nat.le_of_ble_eq_true rfl) ?_
    rw [show M.1 8 0 - 1 = nI 3 by rw [hh]; decide]
    obtain ⟨r0, r1, r2, r3, r4, r5⟩ := rot_v M.2
    have e0 : (mput (M.1, rot M.2) 8 0 (nI 3)).2 0 = M.2 0 := r0
    have e5 : (mput (M.1, rot M.2) 8 0 (nI 3)).2 (2 + 3) = M.2 2 := r5
    have hq : ∀ i, i < 6 → (mput (M.1, rot M.2) 8 0 (nI 3)).2 i < 6 := rot_lt hr
    have h0 := hr 0 (by decide)
    have h2 := hr 2 (by decide)
    have k := t_X3_remember (cA := cA) (ad := ad) (D := D) (M := mput (M.1, rot M.2) 8 0 (nI 3)) hq (N := N) (by rw [e0, mput_ne (by omega)]; exact hN) h8 (h := 3) mput_at (by decide) (by rw [e0, e5]; exact hne)
    rw [e0, e5, mput_ne (show M.2 2 ≠ 8 by omega), mput_ne (show M.2 0 ≠ 8 by omega)] at k
    exact k

set_option maxHeartbeats 4000000 in
set_option maxRecDepth 100000 in
theorem m_X3_commit_e {x : Int32} (hx : x < 0) : C_X3_commit cA ad D [.ref (ad 0), .int x] M (Ri x M) := by
  refine PM_of (lv := [some (.ref (ad 0)), some (.int x), none]) (by decide +kernel) rfl (Nat.le_of_ble_eq_true rfl) rfl ?_
  refine r_il1 (n := 1) dX3_commit_0 rfl ?_
  refine r_if_ge (tgt := 6) (n := 4) dX3_commit_1 (by decide) rfl (fun c_1 => ?_) (fun c_1 => ?_)
  · exact absurd c_1 (Int32.not_le.mpr hx)
  · refine r_il1 (n := 5) dX3_commit_4 rfl ?_
    exact e_i dX3_commit_5 rfl rfl rfl

set_option maxHeartbeats 4000000 in
set_option maxRecDepth 100000 in
theorem m_X3_commit_g {x : Int32} (hx : ¬ x < 0) {M' : Mem} (hR : C_X3_remember cA ad D [.ref (ad 0)] M (Rv M')) (hr : ∀ i, i < 6 → M'.2 i < 6) : C_X3_commit cA ad D [.ref (ad 0), .int x] M (Ri x (swp M')) := by
  refine PM_of (lv := [some (.ref (ad 0)), some (.int x), none]) (by decide +kernel) rfl (Nat.le_of_ble_eq_true rfl) rfl ?_
  refine r_il1 (n := 1) dX3_commit_0 rfl ?_
  refine r_if_ge (tgt := 6) (n := 4) dX3_commit_1 (by decide) rfl (fun c_1 => ?_) (fun c_1 => ?_)
  · refine r_al0 (n := 7) dX3_commit_6 rfl ?_
    refine cV_v (n := 10) (np := 0) (hR) gX3_commit_X3_remember rfl (by decide +kernel) rfl (by decide) (by decide) (by omega) rfl rfl dX3_commit_7 rfl rfl (Nat.le_of_ble_eq_true rfl) ?_
    refine r_al0 (n := 11) dX3_commit_10 rfl ?_
    refine g_br_now (n := 14)  in_X3_commit_wsX30 k_X3_commit_12 dX3_commit_11 rfl ?_
    refine r_as2 (n := 15) (by decide) rfl dX3_commit_14 rfl ?_
    refine r_al0 (n := 16) dX3_commit_15 rfl ?_
    refine r_al0 (n := 17) dX3_commit_16 rfl ?_
    refine g_br_trial (n := 20)  in_X3_commit_wsX30 k_X3_commit_16 dX3_commit_17 rfl ?_
    refine p_br_now (n := 23) (hr _ (by decide)) in_X3_commit_wsX30 k_X3_commit_12 dX3_commit_20 rfl ?_
    refine r_al0 (n := 24) dX3_commit_23 rfl ?_
    refine r_al2 (n := 25) dX3_commit_24 rfl ?_
    refine p_br_trial (n := 28) (hr _ (by decide)) in_X3_commit_wsX30 k_X3_commit_16 dX3_commit_25 rfl ?_
    refine r_il1 (n := 29) dX3_commit_28 rfl ?_
    exact e_i dX3_commit_29 rfl rfl rfl
  · exact absurd c_1 (fun h => hx (Int32.not_le.mp h))

set_option maxHeartbeats 4000000 in
set_option maxRecDepth 100000 in
theorem m_X3_keepFault {x y z : Int32} : C_X3_keepFault cA ad D [.ref (ad 0), .int x, .int y, .int z] M (Rv (setp M 8 (upd (upd (upd (M.1 8) 2 x) 3 y) 4 z))) := by
  refine PM_of (lv := [some (.ref (ad 0)), some (.int x), some (.int y), some (.int z)]) (by decide +kernel) rfl (Nat.le_of_ble_eq_true rfl) rfl ?_
  refine r_al0 (n := 1) dX3_keepFault_0 rfl ?_
  refine r_il1 (n := 2) dX3_keepFault_1 rfl ?_
  refine p_br_faultPosition (n := 5)  in_X3_keepFault_wsX30 k_X3_keepFault_203 dX3_keepFault_2 rfl ?_
  refine r_al0 (n := 6) dX3_keepFault_5 rfl ?_
  refine r_il2 (n := 7) dX3_keepFault_6 rfl ?_
  refine p_br_faultReason (n := 10)  in_X3_keepFault_wsX30 k_X3_keepFault_206 dX3_keepFault_7 rfl ?_
  refine r_al0 (n := 11) dX3_keepFault_10 rfl ?_
  refine r_il3 (n := 12) dX3_keepFault_11 rfl ?_
  refine p_br_faultCause (n := 15)  in_X3_keepFault_wsX30 k_X3_keepFault_209 dX3_keepFault_12 rfl ?_
  exact e_v dX3_keepFault_15 rfl (by simp only [mput_s, setp_at, setp_2])

set_option maxHeartbeats 4000000 in
set_option maxRecDepth 100000 in
theorem l_X3_tryOrders (hr : ∀ i, i < 6 → M.2 i < 6) {t N : Nat} (h60 : t ≤ 60) (h8 : N ≤ 8) (f : Nat → Int32) (hf : f = chr (M.1 7) t) : ∀ (m i : Nat), i + m = 60 → ∀ (s : Nat), s < 1000 - 10 * m → ∀ (w o b : Vec), w 0 = nI N → o 0 = nI t →
    P_X3_tryOrders cA ad D 20 [some (.ref (ad 0)), some (.int (nI s)), some (.int (nI i)), none] [] (M3 M (M.2 1) w o b) (Ri (tryF f t N m s w o b).1 (M3 M (M.2 1) (tryF f t N m s w o b).2.1 (tryF f t N m s w o b).2.2.1 (tryF f t N m s w o b).2.2.2)) := by
  have hp1 := hr 1 (by decide)
  subst hf
  intro m
  induction m with
  | zero =>
    intro i hi s hs w o b hw ho
    refine r_il2 (n := 21) dX3_tryOrders_20 rfl ?_
    refine r_bipush (v := 60) (n := 23) dX3_tryOrders_21 (by decide) rfl ?_
    refine r_icmp_ge (tgt := 122) (n := 26) dX3_tryOrders_23 (by decide) rfl (fun c_23 => ?_) (fun c_23 => ?_)
    · refine r_iconst (v := 1) (n := 123) dX3_tryOrders_122 (by decide) rfl ?_
      exact e_z dX3_tryOrders_123 rfl (by decide) (by first | rfl | rw [tryF, if_neg hst]) (by first | rfl | rw [tryF, if_neg hst])
    · exact absurd c_23 (fun q => q (nI_le (a := 60) (b := i) (by omega) (by omega)))
  | succ m ih =>
    intro i hi s hs w o b hw ho
    refine r_il2 (n := 21) dX3_tryOrders_20 rfl ?_
    refine r_bipush (v := 60) (n := 23) dX3_tryOrders_21 (by decide) rfl ?_
    refine r_icmp_ge (tgt := 122) (n := 26) dX3_tryOrders_23 (by decide) rfl (fun c_23 => ?_) (fun c_23 => ?_)
    · exact absurd c_23 (nI_ge (a := i) (b := 60) (by omega) (by omega))
    · refine r_il1 (n := 27) dX3_tryOrders_26 rfl ?_
      refine r_al0 (n := 28) dX3_tryOrders_27 rfl ?_
      refine g_br_text (n := 31)  in_X3_tryOrders_wsX30 k_X3_tryOrders_26 dX3_tryOrders_28 rfl ?_
      refine g_ot_length (n := 34)  in_X3_tryOrders_wsX00 k_X3_tryOrders_179 dX3_tryOrders_31 rfl ?_
      refine r_icmp_ge (tgt := 122) (n := 37) dX3_tryOrders_34 (by decide) rfl (fun c_34 => ?_) (fun c_34 => ?_)
      · rw [M3_6, ho] at c_34
        have hst : ¬ s < t := fun q => nI_ge q (by omega) c_34
        refine r_iconst (v := 1) (n := 123) dX3_tryOrders_122 (by decide) rfl ?_
        exact e_z dX3_tryOrders_123 rfl (by decide) (by first | rfl | rw [tryF, if_neg hst]) (by first | rfl | rw [tryF, if_neg hst])
      · rw [M3_6, ho] at c_34
        have hst : s < t := Nat.lt_of_not_le fun q => c_34 (nI_le q (by omega))
        refine r_al0 (n := 38) dX3_tryOrders_37 rfl ?_
        refine g_br_text (n := 41)  in_X3_tryOrders_wsX30 k_X3_tryOrders_26 dX3_tryOrders_38 rfl ?_
        refine r_il1 (n := 42) dX3_tryOrders_41 rfl ?_
        refine cV_i (n := 45) (np := 1) (m_X0_readOrder (t := t) (s := s) (by rw [M3_6]; exact ho) h60 (by omega)) gX3_tryOrders_X0_readOrder rfl (by decide +kernel) rfl (by decide) (by decide) (by omega) rfl rfl dX3_tryOrders_42 rfl rfl (Nat.le_of_ble_eq_true rfl) ?_
        rw [M3_6, M3_q _ _ _ _ (by omega) (by decide) (by decide), M3_s6]
        refine r_if_ne (tgt := 63) (n := 48) dX3_tryOrders_45 (by decide) rfl (fun c_45 => ?_) (fun c_45 => ?_)
        · have hok := roS_ok c_45
          refine r_al0 (n := 64) dX3_tryOrders_63 rfl ?_
          refine g_br_trial (n := 67)  in_X3_tryOrders_wsX30 k_X3_tryOrders_16 dX3_tryOrders_64 rfl ?_
          refine r_al0 (n := 68) dX3_tryOrders_67 rfl ?_
          refine g_br_text (n := 71)  in_X3_tryOrders_wsX30 k_X3_tryOrders_26 dX3_tryOrders_68 rfl ?_
          refine g_ot_letter (n := 74)  in_X3_tryOrders_wsX00 k_X3_tryOrders_231 dX3_tryOrders_71 rfl ?_
          refine r_al0 (n := 75) dX3_tryOrders_74 rfl ?_
          refine g_br_text (n := 78)  in_X3_tryOrders_wsX30 k_X3_tryOrders_26 dX3_tryOrders_75 rfl ?_
          refine g_ot_number (n := 81)  in_X3_tryOrders_wsX00 k_X3_tryOrders_234 dX3_tryOrders_78 rfl ?_
          rw [M3_6]
          refine cV_i (n := 84) (np := 2) (m_X2_doOrder (N := N) hp1 (by rw [M3_p _ hp1]; exact hw) h8 (by rw [roS_1]; exact isL_of hok.1)) gX3_tryOrders_X2_doOrder rfl (by decide +kernel) rfl (by decide) (by decide) (by omega) (cell_st cA ad _ hp1) rfl dX3_tryOrders_81 rfl rfl (Nat.le_of_ble_eq_true rfl) ?_
          rw [M3_p _ hp1, M3_sp _ hp1]
          refine r_is3 (n := 85) (by decide) rfl dX3_tryOrders_84 rfl ?_
          refine r_il3 (n := 86) dX3_tryOrders_85 rfl ?_
          refine r_if_ge (tgt := 98) (n := 89) dX3_tryOrders_86 (by decide) rfl (fun c_86 => ?_) (fun c_86 => ?_)
          · refine r_al0 (n := 99) dX3_tryOrders_98 rfl ?_
            refine r_dup (n := 100) dX3_tryOrders_99 rfl rfl ?_
            refine g_br_ordersTried (n := 103)  in_X3_tryOrders_wsX30 k_X3_tryOrders_212 dX3_tryOrders_100 rfl ?_
            refine r_iconst (v := 1) (n := 104) dX3_tryOrders_103 (by decide) rfl ?_
            refine r_iadd (n := 105) dX3_tryOrders_104 rfl ?_
            refine p_br_ordersTried (n := 108)  in_X3_tryOrders_wsX30 k_X3_tryOrders_212 dX3_tryOrders_105 rfl ?_
            rw [M3_8, mput_s, M3_8, M3_s8]
            refine r_al0 (n := 109) dX3_tryOrders_108 rfl ?_
            refine g_br_text (n := 112)  in_X3_tryOrders_wsX30 k_X3_tryOrders_26 dX3_tryOrders_109 rfl ?_
            refine g_ot_behind (n := 115)  in_X3_tryOrders_wsX00 k_X3_tryOrders_240 dX3_tryOrders_112 rfl ?_
            rw [M3_6, hok.2]
            refine r_is1 (n := 116) (by decide) rfl dX3_tryOrders_115 rfl ?_
            refine r_ii2 (n := 119) (by decide) rfl dX3_tryOrders_116 (nI_inc _) rfl ?_
            refine r_goto (tgt := 20) dX3_tryOrders_119 (by decide) ?_
            refine r_dr3 ?_
            have hF : tryF (chr (M.1 7) t) t N (m + 1) s w o b = tryF (chr (M.1 7) t) t N m (s + 2 + (dgs (chr (M.1 7) t) s 3 0 0).1) (ordS w N ((roS o (chr (M.1 7) t) s).2 1) ((roS o (chr (M.1 7) t) s).2 2)).2 (roS o (chr (M.1 7) t) s).2 (upd b 1 (b 1 + 1)) := by
              rw [tryF, if_pos hst, if_neg c_45, if_neg (Int32.not_lt.mpr c_86)]
            rw [hF]
            have hE := dgs_le (chr (M.1 7) t) s 3 0 0
            exact ih (i + 1) (by omega) _ (by omega) _ _ _ (by rw [ordS_0]; exact hw) (by rw [roS_0]; exact ho)
          · refine r_al0 (n := 90) dX3_tryOrders_89 rfl ?_
            refine r_il1 (n := 91) dX3_tryOrders_90 rfl ?_
            refine r_iconst (v := 2) (n := 92) dX3_tryOrders_91 (by decide) rfl ?_
            refine r_il3 (n := 93) dX3_tryOrders_92 rfl ?_
            refine cV_v (n := 96) (np := 3) (m_X3_keepFault) gX3_tryOrders_X3_keepFault rfl (by decide +kernel) rfl (by decide) (by decide) (by omega) rfl rfl dX3_tryOrders_93 rfl rfl (Nat.le_of_ble_eq_true rfl) ?_
            rw [M3_8, M3_s8]
            refine r_iconst (v := 0) (n := 97) dX3_tryOrders_96 (by decide) rfl ?_
            exact e_z dX3_tryOrders_97 rfl (by decide) (by rw [tryF, if_pos hst, if_neg c_45, if_pos (Int32.not_le.mp c_86)]) (by rw [tryF, if_pos hst, if_neg c_45, if_pos (Int32.not_le.mp c_86)])
        · refine r_al0 (n := 49) dX3_tryOrders_48 rfl ?_
          refine r_il1 (n := 50) dX3_tryOrders_49 rfl ?_
          refine r_iconst (v := 1) (n := 51) dX3_tryOrders_50 (by decide) rfl ?_
          refine r_al0 (n := 52) dX3_tryOrders_51 rfl ?_
          refine g_br_text (n := 55)  in_X3_tryOrders_wsX30 k_X3_tryOrders_26 dX3_tryOrders_52 rfl ?_
          refine g_ot_brokenAt (n := 58)  in_X3_tryOrders_wsX00 k_X3_tryOrders_224 dX3_tryOrders_55 rfl ?_
          rw [M3_6]
          refine cV_v (n := 61) (np := 3) (m_X3_keepFault) gX3_tryOrders_X3_keepFault rfl (by decide +kernel) rfl (by decide) (by decide) (by omega) rfl rfl dX3_tryOrders_58 rfl rfl (Nat.le_of_ble_eq_true rfl) ?_
          rw [M3_8, M3_s8]
          refine r_iconst (v := 0) (n := 62) dX3_tryOrders_61 (by decide) rfl ?_
          exact e_z dX3_tryOrders_62 rfl (by decide) (by rw [tryF, if_pos hst, if_pos c_45]) (by rw [tryF, if_pos hst, if_pos c_45])

end BR1
