/-! ===== the object: history and commit ===== -/
section BR1
variable {cA : Nat → ClassId} {ad : Nat → Nat} {D : va_G} {M : Mem}
set_option maxHeartbeats 4000000 in
set_option maxRecDepth 100000 in
theorem s_X3_dropOldestState (hr : ∀ i, i < 6 → M.2 i < 6) {Q : QT} {i : Nat} (hi : i < 3) (K : P_X3_dropOldestState cA ad D 2 [some (.ref (ad 0)), some (.int (nI (i + 1))), none] [] (M.1, rot1 M.2 i) Q) : P_X3_dropOldestState cA ad D 2 [some (.ref (ad 0)), some (.int (nI i)), none] [] M Q := by
  refine r_il1 (n := 3) dX3_dropOldestState_2 rfl ?_
  refine r_iconst (v := 1) (n := 4) dX3_dropOldestState_3 (by decide) rfl ?_
  refine r_iadd (n := 5) dX3_dropOldestState_4 rfl ?_
  rw [nI_1]
  refine r_al0 (n := 6) dX3_dropOldestState_5 rfl ?_
  refine g_br_history (n := 9)  in_X3_dropOldestState_wsX30 k_X3_dropOldestState_19 dX3_dropOldestState_6 rfl ?_
  refine a_lenHist (n := 10) dX3_dropOldestState_9 rfl ?_
  refine r_icmp_ge (tgt := 49) (n := 13) dX3_dropOldestState_10 (by decide) rfl (fun c_10 => ?_) (fun c_10 => ?_)
  · exact absurd c_10 (nI_ge (a := i + 1) (b := 4) (by omega) (by omega))
  · refine r_al0 (n := 14) dX3_dropOldestState_13 rfl ?_
    refine g_br_history (n := 17)  in_X3_dropOldestState_wsX30 k_X3_dropOldestState_19 dX3_dropOldestState_14 rfl ?_
    refine r_il1 (n := 18) dX3_dropOldestState_17 rfl ?_
    refine a_hist (n := 19) (k := i) rfl (by omega) dX3_dropOldestState_18 rfl ?_
    refine r_as2 (n := 20) (by decide) rfl dX3_dropOldestState_19 rfl ?_
    refine r_al0 (n := 21) dX3_dropOldestState_20 rfl ?_
    refine g_br_history (n := 24)  in_X3_dropOldestState_wsX30 k_X3_dropOldestState_19 dX3_dropOldestState_21 rfl ?_
    refine r_il1 (n := 25) dX3_dropOldestState_24 rfl ?_
    refine r_al0 (n := 26) dX3_dropOldestState_25 rfl ?_
    refine g_br_history (n := 29)  in_X3_dropOldestState_wsX30 k_X3_dropOldestState_19 dX3_dropOldestState_26 rfl ?_
    refine r_il1 (n := 30) dX3_dropOldestState_29 rfl ?_
    refine r_iconst (v := 1) (n := 31) dX3_dropOldestState_30 (by decide) rfl ?_
    refine r_iadd (n := 32) dX3_dropOldestState_31 rfl ?_
    rw [nI_1]
    refine a_hist (n := 33) (k := i + 1) rfl (by omega) dX3_dropOldestState_32 rfl ?_
    refine a_putHist (n := 34) (k := i) (q := M.2 (2 + (i + 1))) rfl (by omega) (hr _ (by omega)) dX3_dropOldestState_33 rfl ?_
    refine r_al0 (n := 35) dX3_dropOldestState_34 rfl ?_
    refine g_br_history (n := 38)  in_X3_dropOldestState_wsX30 k_X3_dropOldestState_19 dX3_dropOldestState_35 rfl ?_
    refine r_il1 (n := 39) dX3_dropOldestState_38 rfl ?_
    refine r_iconst (v := 1) (n := 40) dX3_dropOldestState_39 (by decide) rfl ?_
    refine r_iadd (n := 41) dX3_dropOldestState_40 rfl ?_
    rw [nI_1]
    refine r_al2 (n := 42) dX3_dropOldestState_41 rfl ?_
    refine a_putHist (n := 43) (k := i + 1) (q := M.2 (2 + i)) rfl (by omega) (hr _ (by omega)) dX3_dropOldestState_42 rfl ?_
    refine r_ii1 (n := 46) (by decide) rfl dX3_dropOldestState_43 (nI_inc _) rfl ?_
    refine r_goto (tgt := 2) dX3_dropOldestState_46 (by decide) ?_
    refine r_dr2 ?_
    exact K

set_option maxHeartbeats 4000000 in
set_option maxRecDepth 100000 in
theorem m_X3_dropOldestState (hr : ∀ i, i < 6 → M.2 i < 6) : C_X3_dropOldestState cA ad D [.ref (ad 0)] M (Rv (mput (M.1, rot M.2) 8 0 (M.1 8 0 - 1))) := by
  refine PM_of (lv := [some (.ref (ad 0)), none, none]) (by decide +kernel) rfl (Nat.le_of_ble_eq_true rfl) rfl ?_
  refine r_iconst (v := 0) (n := 1) dX3_dropOldestState_0 (by decide) rfl ?_
  refine r_is1 (n := 2) (by decide) rfl dX3_dropOldestState_1 rfl ?_
  refine s_X3_dropOldestState hr (i := 0) (by decide) ?_
  refine s_X3_dropOldestState (M := (M.1, rot1 M.2 0)) (rot1_lt hr (by decide)) (i := 1) (by decide) ?_
  refine s_X3_dropOldestState (M := (M.1, rot1 (rot1 M.2 0) 1)) (rot1_lt (rot1_lt hr (by decide)) (by decide)) (i := 2) (by decide) ?_
  refine r_il1 (n := 3) dX3_dropOldestState_2 rfl ?_
  refine r_iconst (v := 1) (n := 4) dX3_dropOldestState_3 (by decide) rfl ?_
  refine r_iadd (n := 5) dX3_dropOldestState_4 rfl ?_
  refine r_al0 (n := 6) dX3_dropOldestState_5 rfl ?_
  refine g_br_history (n := 9)  in_X3_dropOldestState_wsX30 k_X3_dropOldestState_19 dX3_dropOldestState_6 rfl ?_
  refine a_lenHist (n := 10) dX3_dropOldestState_9 rfl ?_
  refine r_icmp_ge (tgt := 49) (n := 13) dX3_dropOldestState_10 (by decide) rfl (fun c_10 => ?_) (fun c_10 => ?_)
  · refine r_al0 (n := 50) dX3_dropOldestState_49 rfl ?_
    refine r_dup (n := 51) dX3_dropOldestState_50 rfl rfl ?_
    refine g_br_states (n := 54)  in_X3_dropOldestState_wsX30 k_X3_dropOldestState_176 dX3_dropOldestState_51 rfl ?_
    refine r_iconst (v := 1) (n := 55) dX3_dropOldestState_54 (by decide) rfl ?_
    refine r_isub (n := 56) dX3_dropOldestState_55 rfl ?_
    refine p_br_states (n := 59)  in_X3_dropOldestState_wsX30 k_X3_dropOldestState_176 dX3_dropOldestState_56 rfl ?_
    exact e_v dX3_dropOldestState_59 rfl rfl
  · exact absurd c_10 (by decide)

set_option maxHeartbeats 4000000 in
set_option maxRecDepth 100000 in
theorem m_X3_remember_lt (hr : ∀ i, i < 6 → M.2 i < 6) {N : Nat} (hN : M.1 (M.2 0) 0 = nI N) (h8 : N ≤ 8) {h : Nat} (hh : M.1 8 0 = nI h) (h4 : h < 4) (hne : M.2 0 ≠ M.2 (2 + h)) : C_X3_remember cA ad D [.ref (ad 0)] M (Rv (mput (setp M (M.2 (2 + h)) (copyU (M.1 (M.2 (2 + h))) (M.1 (M.2 0)) N)) 8 0 (nI (h + 1)))) := by
  refine PM_of (lv := [some (.ref (ad 0)), none]) (by decide +kernel) rfl (Nat.le_of_ble_eq_true rfl) rfl ?_
  have hq0 := hr 0 (by decide)
  have hq1 := hr (2 + h) (by omega)
  refine r_al0 (n := 1) dX3_remember_0 rfl ?_
  refine g_br_states (n := 4)  in_X3_remember_wsX30 k_X3_remember_176 dX3_remember_1 rfl ?_
  refine r_al0 (n := 5) dX3_remember_4 rfl ?_
  refine g_br_history (n := 8)  in_X3_remember_wsX30 k_X3_remember_19 dX3_remember_5 rfl ?_
  refine a_lenHist (n := 9) dX3_remember_8 rfl ?_
  refine r_icmp_lt (tgt := 16) (n := 12) dX3_remember_9 (by decide) rfl (fun c_9 => ?_) (fun c_9 => ?_)
  · refine r_al0 (n := 17) dX3_remember_16 rfl ?_
    refine g_br_states (n := 20)  in_X3_remember_wsX30 k_X3_remember_176 dX3_remember_17 rfl ?_
    refine r_if_lt (tgt := 35) (n := 23) dX3_remember_20 (by decide) rfl (fun c_20 => ?_) (fun c_20 => ?_)
    · exact absurd c_20 (by rw [hh]; exact nI_pos (by omega))
    · refine r_al0 (n := 24) dX3_remember_23 rfl ?_
      refine g_br_states (n := 27)  in_X3_remember_wsX30 k_X3_remember_176 dX3_remember_24 rfl ?_
      refine r_al0 (n := 28) dX3_remember_27 rfl ?_
      refine g_br_history (n := 31)  in_X3_remember_wsX30 k_X3_remember_19 dX3_remember_28 rfl ?_
      refine a_lenHist (n := 32) dX3_remember_31 rfl ?_
      refine r_icmp_lt (tgt := 36) (n := 35) dX3_remember_32 (by decide) rfl (fun c_32 => ?_) (fun c_32 => ?_)
      · refine r_al0 (n := 37) dX3_remember_36 rfl ?_
        refine g_br_history (n := 40)  in_X3_remember_wsX30 k_X3_remember_19 dX3_remember_37 rfl ?_
        refine r_al0 (n := 41) dX3_remember_40 rfl ?_
        refine g_br_states (n := 44)  in_X3_remember_wsX30 k_X3_remember_176 dX3_remember_41 rfl ?_
        refine a_hist (n := 45) (k := h) hh (by omega) dX3_remember_44 rfl ?_
        refine r_as1 (n := 46) (by decide) rfl dX3_remember_45 rfl ?_
        refine r_al1 (n := 47) dX3_remember_46 rfl ?_
        refine r_ifnull (n := 50) dX3_remember_47 rfl ?_
        refine r_al1 (n := 51) dX3_remember_50 rfl ?_
        refine r_al0 (n := 52) dX3_remember_51 rfl ?_
        refine g_br_now (n := 55)  in_X3_remember_wsX30 k_X3_remember_12 dX3_remember_52 rfl ?_
        refine cV_v (n := 58) (np := 1) (m_X2_copyFrom (hr _ (by omega)) (hr _ (by omega)) hne hN h8) gX3_remember_X2_copyFrom rfl (by decide +kernel) rfl (by decide) (by decide) (by omega) (cell_st cA ad _ (by first | assumption | omega | exact hr _ (by omega))) rfl dX3_remember_55 rfl rfl (Nat.le_of_ble_eq_true rfl) ?_
        refine r_al0 (n := 59) dX3_remember_58 rfl ?_
        refine r_dup (n := 60) dX3_remember_59 rfl rfl ?_
        refine g_br_states (n := 63)  in_X3_remember_wsX30 k_X3_remember_176 dX3_remember_60 rfl ?_
        refine r_iconst (v := 1) (n := 64) dX3_remember_63 (by decide) rfl ?_
        refine r_iadd (n := 65) dX3_remember_64 rfl ?_
        rw [setp_ne _ _ (by have := hr (2 + h) (by omega); omega), hh, nI_1]
        refine p_br_states (n := 68)  in_X3_remember_wsX30 k_X3_remember_176 dX3_remember_65 rfl ?_
        exact e_v dX3_remember_68 rfl rfl
      · exact absurd c_32 (fun q => q (by rw [hh]; exact nI_lt (a := h) (b := 4) (by omega) (by omega)))
  · exact absurd c_9 (fun q => q (by rw [hh]; exact nI_lt (a := h) (b := 4) (by omega) (by omega)))

set_option maxHeartbeats 4000000 in
set_option maxRecDepth 100000 in
theorem t_X3_remember (hr : ∀ i, i < 6 → M.2 i < 6) {N : Nat} (hN : M.1 (M.2 0) 0 = nI N) (h8 : N ≤ 8) {h : Nat} (hh : M.1 8 0 = nI h) (h4 : h < 4) (hne : M.2 0 ≠ M.2 (2 + h)) : P_X3_remember cA ad D 16 [some (.ref (ad 0)), none] [] M (Rv (mput (setp M (M.2 (2 + h)) (copyU (M.1 (M.2 (2 + h))) (M.1 (M.2 0)) N)) 8 0 (nI (h + 1)))) := by
  have hq0 := hr 0 (by decide)
  have hq1 := hr (2 + h) (by omega)
  refine r_al0 (n := 17) dX3_remember_16 rfl ?_
  refine g_br_states (n := 20)  in_X3_remember_wsX30 k_X3_remember_176 dX3_remember_17 rfl ?_
  refine r_if_lt (tgt := 35) (n := 23) dX3_remember_20 (by decide) rfl (fun c_20 => ?_) (fun c_20 => ?_)
  · exact absurd c_20 (by rw [hh]; exact nI_pos (by omega))
  · refine r_al0 (n := 24) dX3_remember_23 rfl ?_
    refine g_br_states (n := 27)  in_X3_remember_wsX30 k_X3_remember_176 dX3_remember_24 rfl ?_
    refine r_al0 (n := 28) dX3_remember_27 rfl ?_
    refine g_br_history (n := 31)  in_X3_remember_wsX30 k_X3_remember_19 dX3_remember_28 rfl ?_
    refine a_lenHist (n := 32) dX3_remember_31 rfl ?_
    refine r_icmp_lt (tgt := 36) (n := 35) dX3_remember_32 (by decide) rfl (fun c_32 => ?_) (fun c_32 => ?_)
    · refine r_al0 (n := 37) dX3_remember_36 rfl ?_
      refine g_br_history (n := 40)  in_X3_remember_wsX30 k_X3_remember_19 dX3_remember_37 rfl ?_
      refine r_al0 (n := 41) dX3_remember_40 rfl ?_
      refine g_br_states (n := 44)  in_X3_remember_wsX30 k_X3_remember_176 dX3_remember_41 rfl ?_
      refine a_hist (n := 45) (k := h) hh (by omega) dX3_remember_44 rfl ?_
      refine r_as1 (n := 46) (by decide) rfl dX3_remember_45 rfl ?_
      refine r_al1 (n := 47) dX3_remember_46 rfl ?_
      refine r_ifnull (n := 50) dX3_remember_47 rfl ?_
      refine r_al1 (n := 51) dX3_remember_50 rfl ?_
      refine r_al0 (n := 52) dX3_remember_51 rfl ?_
      refine g_br_now (n := 55)  in_X3_remember_wsX30 k_X3_remember_12 dX3_remember_52 rfl ?_
      refine cV_v (n := 58) (np := 1) (m_X2_copyFrom (hr _ (by omega)) (hr _ (by omega)) hne hN h8) gX3_remember_X2_copyFrom rfl (by decide +kernel) rfl (by decide) (by decide) (by omega) (cell_st cA ad _ (by first | assumption | omega | exact hr _ (by omega))) rfl dX3_remember_55 rfl rfl (Nat.le_of_ble_eq_true rfl) ?_
      refine r_al0 (n := 59) dX3_remember_58 rfl ?_
      refine r_dup (n := 60) dX3_remember_59 rfl rfl ?_
      refine g_br_states (n := 63)  in_X3_remember_wsX30 k_X3_remember_176 dX3_remember_60 rfl ?_
      refine r_iconst (v := 1) (n := 64) dX3_remember_63 (by decide) rfl ?_
      refine r_iadd (n := 65) dX3_remember_64 rfl ?_
      rw [setp_ne _ _ (by have := hr (2 + h) (by omega); omega), hh, nI_1]
      refine p_br_states (n := 68)  in_X3_remember_wsX30 k_X3_remember_176 dX3_remember_65 rfl ?_
      exact e_v dX3_remember_68 rfl rfl
    · exact absurd c_32 (fun q => q (by rw [hh]; exact nI_lt (a := h) (b := 4) (by omega) (by omega)))

set_option maxHeartbeats 4000000 in
set_option maxRecDepth 100000 in
theorem m_X3_remember_4 (hr : ∀ i, i < 6 → M.2 i < 6) {N : Nat} (hN : M.1 (M.2 0) 0 = nI N) (h8 : N ≤ 8) (hh : M.1 8 0 = nI 4) (hne : M.2 0 ≠ M.2 2) : C_X3_remember cA ad D [.ref (ad 0)] M (Rv (mput (setp (mput (M.1, rot M.2) 8 0 (nI 3)) (M.2 2) (copyU (M.1 (M.2 2)) (M.1 (M.2 0)) N)) 8 0 (nI 4))) := by
  refine PM_of (lv := [some (.ref (ad 0)), none]) (by decide +kernel) rfl (Nat.le_of_ble_eq_true rfl) rfl ?_
  refine r_al0 (n := 1) dX3_remember_0 rfl ?_
  refine g_br_states (n := 4)  in_X3_remember_wsX30 k_X3_remember_176 dX3_remember_1 rfl ?_
  refine r_al0 (n := 5) dX3_remember_4 rfl ?_
  refine g_br_history (n := 8)  in_X3_remember_wsX30 k_X3_remember_19 dX3_remember_5 rfl ?_
  refine a_lenHist (n := 9) dX3_remember_8 rfl ?_
  refine r_icmp_lt (tgt := 16) (n := 12) dX3_remember_9 (by decide) rfl (fun c_9 => ?_) (fun c_9 => ?_)
  · exact absurd c_9 (by rw [hh]; decide)
  · refine r_al0 (n := 13) dX3_remember_12 rfl ?_
    refine cV_v (n := 16) (np := 0) (m_X3_dropOldestState hr) gX3_remember_X3_dropOldestState rfl (by decide +kernel) rfl (by decide) (by decide) (by omega) rfl rfl dX3_remember_13 rfl rfl (Nat.le_of_ble_eq_true rfl) ?_
    rw [show M.1 8 0 - 1 = nI 3 by rw [hh]; decide]
    obtain ⟨r0, r1, r2, r3, r4, r5⟩ := rot_v M.2
    have e0 : (mput (M.1, rot M.2) 8 0 (nI 3)).2 0 = M.2 0 := r0
    have e5 : (mput (M.1, rot M.2) 8 0 (nI 3)).2 (2 + 3) = M.2 2 := r5
    have hq : ∀ i, i < 6 → (mput (M.1, rot M.2) 8 0 (nI 3)).2 i < 6 := rot_lt hr
    have h0 := hr 0 (by decide)
    have h2 := hr 2 (by decide)
    have k := t_X3_remember (cA := cA) (ad := ad) (D := D) (M := mput (M.1, rot M.2) 8 0 (nI 3)) hq (N := N) (by rw [e0, mput_ne (by omega)]; exact hN) h8 (h := 3) mput_at (by decide) (by rw [e0, e5]; exact hne)
    rw [e0, e5, mput_ne (show M.2 2 ≠ 8 by omega), mput_ne (show M.2 0 ≠ 8 by omega)] at k
    exact k

set_option maxHeartbeats 4000000 in
set_option maxRecDepth 100000 in
theorem m_X3_commit_e {x : Int32} (hx : x < 0) : C_X3_commit cA ad D [.ref (ad 0), .int x] M (Ri x M) := by
  refine PM_of (lv := [some (.ref (ad 0)), some (.int x), none]) (by decide +kernel) rfl (Nat.le_of_ble_eq_true rfl) rfl ?_
  refine r_il1 (n := 1) dX3_commit_0 rfl ?_
  refine r_if_ge (tgt := 6) (n := 4) dX3_commit_1 (by decide) rfl (fun c_1 => ?_) (fun c_1 => ?_)
  · exact absurd c_1 (Int32.not_le.mpr hx)
  · refine r_il1 (n := 5) dX3_commit_4 rfl ?_
    exact e_i dX3_commit_5 rfl rfl rfl

set_option maxHeartbeats 4000000 in
set_option maxRecDepth 100000 in
theorem m_X3_commit_g {x : Int32} (hx : ¬ x < 0) {M' : Mem} (hR : C_X3_remember cA ad D [.ref (ad 0)] M (Rv M')) (hr : ∀ i, i < 6 → M'.2 i < 6) : C_X3_commit cA ad D [.ref (ad 0), .int x] M (Ri x (swp M')) := by
  refine PM_of (lv := [some (.ref (ad 0)), some (.int x), none]) (by decide +kernel) rfl (Nat.le_of_ble_eq_true rfl) rfl ?_
  refine r_il1 (n := 1) dX3_commit_0 rfl ?_
  refine r_if_ge (tgt := 6) (n := 4) dX3_commit_1 (by decide) rfl (fun c_1 => ?_) (fun c_1 => ?_)
  · refine r_al0 (n := 7) dX3_commit_6 rfl ?_
    refine cV_v (n := 10) (np := 0) (hR) gX3_commit_X3_remember rfl (by decide +kernel) rfl (by decide) (by decide) (by omega) rfl rfl dX3_commit_7 rfl rfl (Nat.le_of_ble_eq_true rfl) ?_
    refine r_al0 (n := 11) dX3_commit_10 rfl ?_
    refine g_br_now (n := 14)  in_X3_commit_wsX30 k_X3_commit_12 dX3_commit_11 rfl ?_
    refine r_as2 (n := 15) (by decide) rfl dX3_commit_14 rfl ?_
    refine r_al0 (n := 16) dX3_commit_15 rfl ?_
    refine r_al0 (n := 17) dX3_commit_16 rfl ?_
    refine g_br_trial (n := 20)  in_X3_commit_wsX30 k_X3_commit_16 dX3_commit_17 rfl ?_
    refine p_br_now (n := 23) (hr _ (by decide)) in_X3_commit_wsX30 k_X3_commit_12 dX3_commit_20 rfl ?_
    refine r_al0 (n := 24) dX3_commit_23 rfl ?_
    refine r_al2 (n := 25) dX3_commit_24 rfl ?_
    refine p_br_trial (n := 28) (hr _ (by decide)) in_X3_commit_wsX30 k_X3_commit_16 dX3_commit_25 rfl ?_
    refine r_il1 (n := 29) dX3_commit_28 rfl ?_
    exact e_i dX3_commit_29 rfl rfl rfl
  · exact absurd c_1 (fun h => hx (Int32.not_le.mp h))

end BR1

