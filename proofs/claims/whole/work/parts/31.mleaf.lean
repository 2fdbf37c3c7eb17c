/-! ===== the reference: leaves ===== -/
section ML
variable {cA : Nat → ClassId} {ad : Nat → Nat} {D : va_G} {M : Mem}
set_option maxHeartbeats 4000000 in
set_option maxRecDepth 100000 in
theorem m_X4_in {v a b : Int32} : C_X4_in cA ad D [.int v, .int a, .int b] M (Ri (bI (rng v a b)) M) := by
  refine PM_of (lv := [some (.int v), some (.int a), some (.int b)]) (by decide +kernel) rfl (Nat.le_of_ble_eq_true rfl) rfl ?_
  refine r_il0 (n := 1) dX4_in_0 rfl ?_
  refine r_il1 (n := 2) dX4_in_1 rfl ?_
  refine r_icmp_lt (tgt := 14) (n := 5) dX4_in_2 (by decide) rfl (fun c_2 => ?_) (fun c_2 => ?_)
  · refine r_iconst (v := 0) (n := 15) dX4_in_14 (by decide) rfl ?_
    exact e_z dX4_in_15 rfl (by decide) (by simp [rng, bI, *]) rfl
  · refine r_il0 (n := 6) dX4_in_5 rfl ?_
    refine r_il2 (n := 7) dX4_in_6 rfl ?_
    refine r_icmp_gt (tgt := 14) (n := 10) dX4_in_7 (by decide) rfl (fun c_7 => ?_) (fun c_7 => ?_)
    · refine r_iconst (v := 0) (n := 15) dX4_in_14 (by decide) rfl ?_
      exact e_z dX4_in_15 rfl (by decide) (by simp [rng, bI, *]) rfl
    · refine r_iconst (v := 1) (n := 11) dX4_in_10 (by decide) rfl ?_
      refine r_goto (tgt := 15) dX4_in_11 (by decide) ?_
      exact e_z dX4_in_15 rfl (by decide) (by simp [rng, bI, *]) rfl

set_option maxHeartbeats 4000000 in
set_option maxRecDepth 100000 in
theorem m_X4_size {v : Int32} : C_X4_size cA ad D [.int v] M (Ri (absI v) M) := by
  refine PM_of (lv := [some (.int v)]) (by decide +kernel) rfl (Nat.le_of_ble_eq_true rfl) rfl ?_
  refine r_il0 (n := 1) dX4_size_0 rfl ?_
  refine r_if_ge (tgt := 9) (n := 4) dX4_size_1 (by decide) rfl (fun c_1 => ?_) (fun c_1 => ?_)
  · refine r_il0 (n := 10) dX4_size_9 rfl ?_
    exact e_i dX4_size_10 rfl (by first | (rw [absI, if_pos c_1]) | (rw [absI, if_neg c_1, neg0])) rfl
  · refine r_il0 (n := 5) dX4_size_4 rfl ?_
    refine r_ineg (n := 6) dX4_size_5 rfl ?_
    refine r_goto (tgt := 10) dX4_size_6 (by decide) ?_
    exact e_i dX4_size_10 rfl (by first | (rw [absI, if_pos c_1]) | (rw [absI, if_neg c_1, neg0])) rfl

set_option maxHeartbeats 4000000 in
set_option maxRecDepth 100000 in
theorem m_X4_tens {v : Int32} : C_X4_tens cA ad D [.int v] M (Ri (tens v) M) := by
  refine PM_of (lv := [some (.int v)]) (by decide +kernel) rfl (Nat.le_of_ble_eq_true rfl) rfl ?_
  refine r_il0 (n := 1) dX4_tens_0 rfl ?_
  refine r_bipush (v := 9) (n := 3) dX4_tens_1 (by decide) rfl ?_
  refine r_iadd (n := 4) dX4_tens_3 rfl ?_
  refine r_bipush (v := 10) (n := 6) dX4_tens_4 (by decide) rfl ?_
  refine r_idiv (n := 7) dX4_tens_6 (by decide) rfl ?_
  exact e_i dX4_tens_7 rfl rfl rfl

set_option maxHeartbeats 4000000 in
set_option maxRecDepth 100000 in
theorem m_X4_hoursBetween {v w : Int32} : C_X4_hoursBetween cA ad D [.int v, .int w] M (Ri (hB v w) M) := by
  refine PM_of (lv := [some (.int v), some (.int w)]) (by decide +kernel) rfl (Nat.le_of_ble_eq_true rfl) rfl ?_
  refine r_il0 (n := 1) dX4_hoursBetween_0 rfl ?_
  refine r_il1 (n := 2) dX4_hoursBetween_1 rfl ?_
  refine r_isub (n := 3) dX4_hoursBetween_2 rfl ?_
  refine cS_i (n := 6) (np := 1) (m_X4_size) gX4_hoursBetween_X4_size rfl (by decide +kernel) rfl (by decide) (by decide) dX4_hoursBetween_3 rfl rfl (Nat.le_of_ble_eq_true rfl) ?_
  refine cS_i (n := 9) (np := 1) (m_X4_tens) gX4_hoursBetween_X4_tens rfl (by decide +kernel) rfl (by decide) (by decide) dX4_hoursBetween_6 rfl rfl (Nat.le_of_ble_eq_true rfl) ?_
  exact e_i dX4_hoursBetween_9 rfl rfl rfl

set_option maxHeartbeats 4000000 in
set_option maxRecDepth 100000 in
theorem m_X4_hoursOf (b : Bool) : C_X4_hoursOf cA ad D [.int (bI b)] M (Ri (hM b) M) := by
  refine PM_of (lv := [some (.int (bI b))]) (by decide +kernel) rfl (Nat.le_of_ble_eq_true rfl) rfl ?_
  refine r_il0 (n := 1) dX4_hoursOf_0 rfl ?_
  refine r_iconst (v := 1) (n := 2) dX4_hoursOf_1 (by decide) rfl ?_
  refine r_icmp_ne (tgt := 9) (n := 5) dX4_hoursOf_2 (by decide) rfl (fun c_2 => ?_) (fun c_2 => ?_)
  · refine r_iconst (v := 1) (n := 10) dX4_hoursOf_9 (by decide) rfl ?_
    exact e_i dX4_hoursOf_10 rfl (by cases b <;> simp_all [hM, bI]) rfl
  · refine r_iconst (v := 3) (n := 6) dX4_hoursOf_5 (by decide) rfl ?_
    refine r_goto (tgt := 10) dX4_hoursOf_6 (by decide) ?_
    exact e_i dX4_hoursOf_10 rfl (by cases b <;> simp_all [hM, bI]) rfl

set_option maxHeartbeats 4000000 in
set_option maxRecDepth 100000 in
theorem m_X4_of {k j : Nat} (hk : k < 8) (hj : j < 8) : C_X4_of cA ad D [.ref (ad 4), .int (nI k), .int (nI j)] M (Ri ((M.1 10) (14 + 8 * k + j)) M) := by
  refine PM_of (lv := [some (.ref (ad 4)), some (.int (nI k)), some (.int (nI j))]) (by decide +kernel) rfl (Nat.le_of_ble_eq_true rfl) rfl ?_
  refine r_al0 (n := 1) dX4_of_0 rfl ?_
  refine g_mo_s (n := 4)  in_X4_of_wsX40 k_X4_of_7 dX4_of_1 rfl ?_
  refine r_bipush (v := 14) (n := 6) dX4_of_4 (by decide) rfl ?_
  refine r_bipush (v := 8) (n := 8) dX4_of_6 (by decide) rfl ?_
  refine r_il1 (n := 9) dX4_of_8 rfl ?_
  refine r_imul (n := 10) dX4_of_9 rfl ?_
  refine r_iadd (n := 11) dX4_of_10 rfl ?_
  refine r_il2 (n := 12) dX4_of_11 rfl ?_
  refine r_iadd (n := 13) dX4_of_12 rfl ?_
  refine a_s (n := 14) (k := 14 + 8 * k + j) (idx3 k j) (by omega) dX4_of_13 rfl ?_
  exact e_i dX4_of_14 rfl rfl rfl

set_option maxHeartbeats 4000000 in
set_option maxRecDepth 100000 in
theorem m_X4_sets {k j : Nat} (hk : k < 8) (hj : j < 8) {x : Int32} : C_X4_sets cA ad D [.ref (ad 4), .int (nI k), .int (nI j), .int x] M (Rv (setp M 10 (upd (M.1 10) (14 + 8 * k + j) x))) := by
  refine PM_of (lv := [some (.ref (ad 4)), some (.int (nI k)), some (.int (nI j)), some (.int x)]) (by decide +kernel) rfl (Nat.le_of_ble_eq_true rfl) rfl ?_
  refine r_al0 (n := 1) dX4_sets_0 rfl ?_
  refine g_mo_s (n := 4)  in_X4_sets_wsX40 k_X4_sets_7 dX4_sets_1 rfl ?_
  refine r_bipush (v := 14) (n := 6) dX4_sets_4 (by decide) rfl ?_
  refine r_bipush (v := 8) (n := 8) dX4_sets_6 (by decide) rfl ?_
  refine r_il1 (n := 9) dX4_sets_8 rfl ?_
  refine r_imul (n := 10) dX4_sets_9 rfl ?_
  refine r_iadd (n := 11) dX4_sets_10 rfl ?_
  refine r_il2 (n := 12) dX4_sets_11 rfl ?_
  refine r_iadd (n := 13) dX4_sets_12 rfl ?_
  refine r_il3 (n := 14) dX4_sets_13 rfl ?_
  refine a_put_s (n := 15) (k := 14 + 8 * k + j) (idx3 k j) (by omega) dX4_sets_14 rfl ?_
  exact e_v dX4_sets_15 rfl rfl

set_option maxHeartbeats 4000000 in
set_option maxRecDepth 100000 in
theorem m_X4_leak {k : Nat} (hk : k < 8) : C_X4_leak cA ad D [.ref (ad 4), .int (nI k)] M (Ri ((M.1 10) (14 + 8 * k + 2) / 10) M) := by
  refine PM_of (lv := [some (.ref (ad 4)), some (.int (nI k))]) (by decide +kernel) rfl (Nat.le_of_ble_eq_true rfl) rfl ?_
  refine r_al0 (n := 1) dX4_leak_0 rfl ?_
  refine r_il1 (n := 2) dX4_leak_1 rfl ?_
  refine r_iconst (v := 2) (n := 3) dX4_leak_2 (by decide) rfl ?_
  refine cV_i (n := 6) (np := 2) (m_X4_of (k := k) (j := 2) hk (by decide)) gX4_leak_X4_of rfl (by decide +kernel) rfl (by decide) (by decide) (by omega) rfl rfl dX4_leak_3 rfl rfl (Nat.le_of_ble_eq_true rfl) ?_
  refine r_bipush (v := 10) (n := 8) dX4_leak_6 (by decide) rfl ?_
  refine r_idiv (n := 9) dX4_leak_8 (by decide) rfl ?_
  exact e_i dX4_leak_9 rfl rfl rfl

set_option maxHeartbeats 4000000 in
set_option maxRecDepth 100000 in
theorem m_X4_isCold {k : Nat} (hk : k < 8) : C_X4_isCold cA ad D [.ref (ad 4), .int (nI k)] M (Ri (if (M.1 10) (14 + 8 * k + 3) < (M.1 10) 10 then 1 else 0) M) := by
  refine PM_of (lv := [some (.ref (ad 4)), some (.int (nI k))]) (by decide +kernel) rfl (Nat.le_of_ble_eq_true rfl) rfl ?_
  refine r_al0 (n := 1) dX4_isCold_0 rfl ?_
  refine r_il1 (n := 2) dX4_isCold_1 rfl ?_
  refine r_iconst (v := 3) (n := 3) dX4_isCold_2 (by decide) rfl ?_
  refine cV_i (n := 6) (np := 2) (m_X4_of (k := k) (j := 3) hk (by decide)) gX4_isCold_X4_of rfl (by decide +kernel) rfl (by decide) (by decide) (by omega) rfl rfl dX4_isCold_3 rfl rfl (Nat.le_of_ble_eq_true rfl) ?_
  refine r_al0 (n := 7) dX4_isCold_6 rfl ?_
  refine g_mo_s (n := 10)  in_X4_isCold_wsX40 k_X4_isCold_7 dX4_isCold_7 rfl ?_
  refine r_bipush (v := 10) (n := 12) dX4_isCold_10 (by decide) rfl ?_
  refine a_s (n := 13) (k := 10) (by decide) (by decide) dX4_isCold_12 rfl ?_
  refine r_icmp_ge (tgt := 20) (n := 16) dX4_isCold_13 (by decide) rfl (fun c_13 => ?_) (fun c_13 => ?_)
  · refine r_iconst (v := 0) (n := 21) dX4_isCold_20 (by decide) rfl ?_
    exact e_z dX4_isCold_21 rfl (by decide) (by simp_all [Int32.not_le, Int32.not_lt]) rfl
  · refine r_iconst (v := 1) (n := 17) dX4_isCold_16 (by decide) rfl ?_
    refine r_goto (tgt := 21) dX4_isCold_17 (by decide) ?_
    exact e_z dX4_isCold_21 rfl (by decide) (by simp_all [Int32.not_le, Int32.not_lt]) rfl

set_option maxHeartbeats 4000000 in
set_option maxRecDepth 100000 in
theorem m_X4_leatherOf {k : Nat} (hk : k < 8) (b : Bool) : C_X4_leatherOf cA ad D [.ref (ad 4), .int (nI k), .int (bI b)] M (Ri (leatherOf (M.1 10) k b) M) := by
  refine PM_of (lv := [some (.ref (ad 4)), some (.int (nI k)), some (.int (bI b))]) (by decide +kernel) rfl (Nat.le_of_ble_eq_true rfl) rfl ?_
  refine r_il2 (n := 1) dX4_leatherOf_0 rfl ?_
  refine r_iconst (v := 1) (n := 2) dX4_leatherOf_1 (by decide) rfl ?_
  refine r_icmp_ne (tgt := 16) (n := 5) dX4_leatherOf_2 (by decide) rfl (fun c_2 => ?_) (fun c_2 => ?_)
  · have hb : b = false := by cases b; rfl; exact absurd rfl c_2
    subst hb
    refine r_al0 (n := 17) dX4_leatherOf_16 rfl ?_
    refine r_il1 (n := 18) dX4_leatherOf_17 rfl ?_
    refine r_iconst (v := 2) (n := 19) dX4_leatherOf_18 (by decide) rfl ?_
    refine cV_i (n := 22) (np := 2) (m_X4_of (k := k) (j := 2) hk (by decide)) gX4_leatherOf_X4_of rfl (by decide +kernel) rfl (by decide) (by decide) (by omega) rfl rfl dX4_leatherOf_19 rfl rfl (Nat.le_of_ble_eq_true rfl) ?_
    refine cS_i (n := 25) (np := 1) (m_X4_tens) gX4_leatherOf_X4_tens rfl (by decide +kernel) rfl (by decide) (by decide) dX4_leatherOf_22 rfl rfl (Nat.le_of_ble_eq_true rfl) ?_
    exact e_i dX4_leatherOf_25 rfl (by simp [leatherOf]) rfl
  · have hb : b = true := by cases b; exact absurd c_2 (by decide); rfl
    subst hb
    refine r_iconst (v := 4) (n := 6) dX4_leatherOf_5 (by decide) rfl ?_
    refine r_al0 (n := 7) dX4_leatherOf_6 rfl ?_
    refine r_il1 (n := 8) dX4_leatherOf_7 rfl ?_
    refine r_iconst (v := 1) (n := 9) dX4_leatherOf_8 (by decide) rfl ?_
    refine cV_i (n := 12) (np := 2) (m_X4_of (k := k) (j := 1) hk (by decide)) gX4_leatherOf_X4_of rfl (by decide +kernel) rfl (by decide) (by decide) (by omega) rfl rfl dX4_leatherOf_9 rfl rfl (Nat.le_of_ble_eq_true rfl) ?_
    refine r_imul (n := 13) dX4_leatherOf_12 rfl ?_
    refine r_goto (tgt := 25) dX4_leatherOf_13 (by decide) ?_
    exact e_i dX4_leatherOf_25 rfl (by simp [leatherOf]) rfl

set_option maxHeartbeats 4000000 in
set_option maxRecDepth 100000 in
theorem m_X4_owes {k : Nat} (hk : k < 8) (b : Bool) : C_X4_owes cA ad D [.ref (ad 4), .int (nI k), .int (bI b)] M (Ri (owes (M.1 10) k b) M) := by
  refine PM_of (lv := [some (.ref (ad 4)), some (.int (nI k)), some (.int (bI b))]) (by decide +kernel) rfl (Nat.le_of_ble_eq_true rfl) rfl ?_
  refine r_al0 (n := 1) dX4_owes_0 rfl ?_
  refine g_mo_s (n := 4)  in_X4_owes_wsX40 k_X4_owes_7 dX4_owes_1 rfl ?_
  refine r_bipush (v := 12) (n := 6) dX4_owes_4 (by decide) rfl ?_
  refine a_s (n := 7) (k := 12) (by decide) (by decide) dX4_owes_6 rfl ?_
  refine r_il2 (n := 8) dX4_owes_7 rfl ?_
  refine cS_i (n := 11) (np := 1) (m_X4_hoursOf b) gX4_owes_X4_hoursOf rfl (by decide +kernel) rfl (by decide) (by decide) dX4_owes_8 rfl rfl (Nat.le_of_ble_eq_true rfl) ?_
  refine r_imul (n := 12) dX4_owes_11 rfl ?_
  refine r_iconst (v := 3) (n := 13) dX4_owes_12 (by decide) rfl ?_
  refine r_al0 (n := 14) dX4_owes_13 rfl ?_
  refine r_il1 (n := 15) dX4_owes_14 rfl ?_
  refine r_il2 (n := 16) dX4_owes_15 rfl ?_
  refine cV_i (n := 19) (np := 2) (m_X4_leatherOf hk b) gX4_owes_X4_leatherOf rfl (by decide +kernel) rfl (by decide) (by decide) (by omega) rfl rfl dX4_owes_16 rfl rfl (Nat.le_of_ble_eq_true rfl) ?_
  refine r_imul (n := 20) dX4_owes_19 rfl ?_
  refine r_iadd (n := 21) dX4_owes_20 rfl ?_
  exact e_i dX4_owes_21 rfl rfl rfl

set_option maxHeartbeats 4000000 in
set_option maxRecDepth 100000 in
theorem m_X4_whyNot {k : Nat} (hk : k < 8) (b : Bool) : C_X4_whyNot cA ad D [.ref (ad 4), .int (nI k), .int (bI b)] M (Ri (whyNot (M.1 10) k b) M) := by
  refine PM_of (lv := [some (.ref (ad 4)), some (.int (nI k)), some (.int (bI b))]) (by decide +kernel) rfl (Nat.le_of_ble_eq_true rfl) rfl ?_
  refine r_al0 (n := 1) dX4_whyNot_0 rfl ?_
  refine g_mo_s (n := 4)  in_X4_whyNot_wsX40 k_X4_whyNot_7 dX4_whyNot_1 rfl ?_
  refine r_iconst (v := 2) (n := 5) dX4_whyNot_4 (by decide) rfl ?_
  refine a_s (n := 6) (k := 2) (by decide) (by decide) dX4_whyNot_5 rfl ?_
  refine r_al0 (n := 7) dX4_whyNot_6 rfl ?_
  refine r_il1 (n := 8) dX4_whyNot_7 rfl ?_
  refine r_iconst (v := 0) (n := 9) dX4_whyNot_8 (by decide) rfl ?_
  refine cV_i (n := 12) (np := 2) (m_X4_of (k := k) (j := 0) hk (by decide)) gX4_whyNot_X4_of rfl (by decide +kernel) rfl (by decide) (by decide) (by omega) rfl rfl dX4_whyNot_9 rfl rfl (Nat.le_of_ble_eq_true rfl) ?_
  rw [Nat.add_zero]
  refine r_icmp_eq (tgt := 17) (n := 15) dX4_whyNot_12 (by decide) rfl (fun c_12 => ?_) (fun c_12 => ?_)
  · replace c_12 := c_12.symm
    refine r_al0 (n := 18) dX4_whyNot_17 rfl ?_
    refine g_mo_s (n := 21)  in_X4_whyNot_wsX40 k_X4_whyNot_7 dX4_whyNot_18 rfl ?_
    refine r_iconst (v := 3) (n := 22) dX4_whyNot_21 (by decide) rfl ?_
    refine a_s (n := 23) (k := 3) (by decide) (by decide) dX4_whyNot_22 rfl ?_
    refine r_il2 (n := 24) dX4_whyNot_23 rfl ?_
    refine cS_i (n := 27) (np := 1) (m_X4_hoursOf b) gX4_whyNot_X4_hoursOf rfl (by decide +kernel) rfl (by decide) (by decide) dX4_whyNot_24 rfl rfl (Nat.le_of_ble_eq_true rfl) ?_
    refine r_icmp_ge (tgt := 32) (n := 30) dX4_whyNot_27 (by decide) rfl (fun c_27 => ?_) (fun c_27 => ?_)
    · refine r_al0 (n := 33) dX4_whyNot_32 rfl ?_
      refine g_mo_s (n := 36)  in_X4_whyNot_wsX40 k_X4_whyNot_7 dX4_whyNot_33 rfl ?_
      refine r_iconst (v := 4) (n := 37) dX4_whyNot_36 (by decide) rfl ?_
      refine a_s (n := 38) (k := 4) (by decide) (by decide) dX4_whyNot_37 rfl ?_
      refine r_al0 (n := 39) dX4_whyNot_38 rfl ?_
      refine r_il1 (n := 40) dX4_whyNot_39 rfl ?_
      refine r_il2 (n := 41) dX4_whyNot_40 rfl ?_
      refine cV_i (n := 44) (np := 2) (m_X4_leatherOf hk b) gX4_whyNot_X4_leatherOf rfl (by decide +kernel) rfl (by decide) (by decide) (by omega) rfl rfl dX4_whyNot_41 rfl rfl (Nat.le_of_ble_eq_true rfl) ?_
      refine r_icmp_ge (tgt := 49) (n := 47) dX4_whyNot_44 (by decide) rfl (fun c_44 => ?_) (fun c_44 => ?_)
      · refine r_al0 (n := 50) dX4_whyNot_49 rfl ?_
        refine r_il1 (n := 51) dX4_whyNot_50 rfl ?_
        refine r_iconst (v := 5) (n := 52) dX4_whyNot_51 (by decide) rfl ?_
        refine cV_i (n := 55) (np := 2) (m_X4_of (k := k) (j := 5) hk (by decide)) gX4_whyNot_X4_of rfl (by decide +kernel) rfl (by decide) (by decide) (by omega) rfl rfl dX4_whyNot_52 rfl rfl (Nat.le_of_ble_eq_true rfl) ?_
        refine r_al0 (n := 56) dX4_whyNot_55 rfl ?_
        refine g_mo_s (n := 59)  in_X4_whyNot_wsX40 k_X4_whyNot_7 dX4_whyNot_56 rfl ?_
        refine r_bipush (v := 13) (n := 61) dX4_whyNot_59 (by decide) rfl ?_
        refine a_s (n := 62) (k := 13) (by decide) (by decide) dX4_whyNot_61 rfl ?_
        refine r_icmp_le (tgt := 69) (n := 65) dX4_whyNot_62 (by decide) rfl (fun c_62 => ?_) (fun c_62 => ?_)
        · refine r_al0 (n := 70) dX4_whyNot_69 rfl ?_
          refine r_il1 (n := 71) dX4_whyNot_70 rfl ?_
          refine r_iconst (v := 2) (n := 72) dX4_whyNot_71 (by decide) rfl ?_
          refine cV_i (n := 75) (np := 2) (m_X4_of (k := k) (j := 2) hk (by decide)) gX4_whyNot_X4_of rfl (by decide +kernel) rfl (by decide) (by decide) (by omega) rfl rfl dX4_whyNot_72 rfl rfl (Nat.le_of_ble_eq_true rfl) ?_
          refine r_if_ne (tgt := 82) (n := 78) dX4_whyNot_75 (by decide) rfl (fun c_75 => ?_) (fun c_75 => ?_)
          · refine r_iconst (v := 0) (n := 83) dX4_whyNot_82 (by decide) rfl ?_
            exact e_i dX4_whyNot_83 rfl (by simp only [whyNot, rsn, *, if_true, if_false]) rfl
          · refine r_iconst (v := 5) (n := 79) dX4_whyNot_78 (by decide) rfl ?_
            refine r_goto (tgt := 83) dX4_whyNot_79 (by decide) ?_
            exact e_i dX4_whyNot_83 rfl (by simp only [whyNot, rsn, *, if_true, if_false]) rfl
        · refine r_iconst (v := 4) (n := 66) dX4_whyNot_65 (by decide) rfl ?_
          refine r_goto (tgt := 83) dX4_whyNot_66 (by decide) ?_
          exact e_i dX4_whyNot_83 rfl (by simp only [whyNot, rsn, *, if_true, if_false]) rfl
      · refine r_iconst (v := 3) (n := 48) dX4_whyNot_47 (by decide) rfl ?_
        exact e_i dX4_whyNot_48 rfl (by simp only [whyNot, rsn, *, if_true, if_false]) rfl
    · refine r_iconst (v := 2) (n := 31) dX4_whyNot_30 (by decide) rfl ?_
      exact e_i dX4_whyNot_31 rfl (by simp only [whyNot, rsn, *, if_true, if_false]) rfl
  · replace c_12 := Ne.symm c_12
    refine r_iconst (v := 1) (n := 16) dX4_whyNot_15 (by decide) rfl ?_
    exact e_i dX4_whyNot_16 rfl (by simp only [whyNot, rsn, *, if_true, if_false]) rfl

set_option maxHeartbeats 4000000 in
set_option maxRecDepth 100000 in
theorem m_X4_isSmithy_y {N : Nat} (hN : M.1 10 0 = nI N) (h8 : N ≤ 8) {k : Nat} (hk : k < N) : C_X4_isSmithy cA ad D [.ref (ad 4), .int (nI k)] M (Ri 1 M) := by
  refine PM_of (lv := [some (.ref (ad 4)), some (.int (nI k))]) (by decide +kernel) rfl (Nat.le_of_ble_eq_true rfl) rfl ?_
  refine r_il1 (n := 1) dX4_isSmithy_0 rfl ?_
  refine r_if_lt (tgt := 18) (n := 4) dX4_isSmithy_1 (by decide) rfl (fun c_1 => ?_) (fun c_1 => ?_)
  · exact absurd c_1 (nI_pos (by omega))
  · refine r_il1 (n := 5) dX4_isSmithy_4 rfl ?_
    refine r_al0 (n := 6) dX4_isSmithy_5 rfl ?_
    refine g_mo_s (n := 9)  in_X4_isSmithy_wsX40 k_X4_isSmithy_7 dX4_isSmithy_6 rfl ?_
    refine r_iconst (v := 0) (n := 10) dX4_isSmithy_9 (by decide) rfl ?_
    refine a_s (n := 11) (k := 0) (by decide) (by decide) dX4_isSmithy_10 rfl ?_
    refine r_icmp_ge (tgt := 18) (n := 14) dX4_isSmithy_11 (by decide) rfl (fun c_11 => ?_) (fun c_11 => ?_)
    · exact absurd c_11 (by rw [hN]; exact nI_ge hk (by omega))
    · refine r_iconst (v := 1) (n := 15) dX4_isSmithy_14 (by decide) rfl ?_
      refine r_goto (tgt := 19) dX4_isSmithy_15 (by decide) ?_
      exact e_z dX4_isSmithy_19 rfl (by decide) rfl rfl

set_option maxHeartbeats 4000000 in
set_option maxRecDepth 100000 in
theorem m_X4_isSmithy_n {j : Int32} (hj : ¬ isSm (M.1 10) j) : C_X4_isSmithy cA ad D [.ref (ad 4), .int j] M (Ri 0 M) := by
  refine PM_of (lv := [some (.ref (ad 4)), some (.int j)]) (by decide +kernel) rfl (Nat.le_of_ble_eq_true rfl) rfl ?_
  refine r_il1 (n := 1) dX4_isSmithy_0 rfl ?_
  refine r_if_lt (tgt := 18) (n := 4) dX4_isSmithy_1 (by decide) rfl (fun c_1 => ?_) (fun c_1 => ?_)
  · refine r_iconst (v := 0) (n := 19) dX4_isSmithy_18 (by decide) rfl ?_
    exact e_z dX4_isSmithy_19 rfl (by decide) rfl rfl
  · refine r_il1 (n := 5) dX4_isSmithy_4 rfl ?_
    refine r_al0 (n := 6) dX4_isSmithy_5 rfl ?_
    refine g_mo_s (n := 9)  in_X4_isSmithy_wsX40 k_X4_isSmithy_7 dX4_isSmithy_6 rfl ?_
    refine r_iconst (v := 0) (n := 10) dX4_isSmithy_9 (by decide) rfl ?_
    refine a_s (n := 11) (k := 0) (by decide) (by decide) dX4_isSmithy_10 rfl ?_
    refine r_icmp_ge (tgt := 18) (n := 14) dX4_isSmithy_11 (by decide) rfl (fun c_11 => ?_) (fun c_11 => ?_)
    · refine r_iconst (v := 0) (n := 19) dX4_isSmithy_18 (by decide) rfl ?_
      exact e_z dX4_isSmithy_19 rfl (by decide) rfl rfl
    · exact absurd ⟨c_1, Int32.not_le.mp c_11⟩ hj

set_option maxHeartbeats 4000000 in
set_option maxRecDepth 100000 in
theorem m_X4_mends {k : Nat} (hk : k < 8) (b : Bool) : C_X4_mends cA ad D [.ref (ad 4), .int (nI k), .int (bI b)] M (Rv (setp M 10 (mendU (M.1 10) k b))) := by
  refine PM_of (lv := [some (.ref (ad 4)), some (.int (nI k)), some (.int (bI b)), none]) (by decide +kernel) rfl (Nat.le_of_ble_eq_true rfl) rfl ?_
  refine r_al0 (n := 1) dX4_mends_0 rfl ?_
  refine r_il1 (n := 2) dX4_mends_1 rfl ?_
  refine r_il2 (n := 3) dX4_mends_2 rfl ?_
  refine cV_i (n := 6) (np := 2) (m_X4_owes hk b) gX4_mends_X4_owes rfl (by decide +kernel) rfl (by decide) (by decide) (by omega) rfl rfl dX4_mends_3 rfl rfl (Nat.le_of_ble_eq_true rfl) ?_
  refine r_is3 (n := 7) (by decide) rfl dX4_mends_6 rfl ?_
  refine r_al0 (n := 8) dX4_mends_7 rfl ?_
  refine g_mo_s (n := 11)  in_X4_mends_wsX40 k_X4_mends_7 dX4_mends_8 rfl ?_
  refine r_iconst (v := 3) (n := 12) dX4_mends_11 (by decide) rfl ?_
  refine r_dup2 (n := 13) dX4_mends_12 rfl rfl rfl ?_
  refine a_s (n := 14) (k := 3) (by decide) (by decide) dX4_mends_13 rfl ?_
  refine r_il2 (n := 15) dX4_mends_14 rfl ?_
  refine cS_i (n := 18) (np := 1) (m_X4_hoursOf b) gX4_mends_X4_hoursOf rfl (by decide +kernel) rfl (by decide) (by decide) dX4_mends_15 rfl rfl (Nat.le_of_ble_eq_true rfl) ?_
  refine r_isub (n := 19) dX4_mends_18 rfl ?_
  refine a_put_s (n := 20) (k := 3) (by decide) (by decide) dX4_mends_19 rfl ?_
  refine r_al0 (n := 21) dX4_mends_20 rfl ?_
  refine g_mo_s (n := 24)  in_X4_mends_wsX40 k_X4_mends_7 dX4_mends_21 rfl ?_
  refine r_iconst (v := 4) (n := 25) dX4_mends_24 (by decide) rfl ?_
  refine r_dup2 (n := 26) dX4_mends_25 rfl rfl rfl ?_
  refine a_s (n := 27) (k := 4) (by decide) (by decide) dX4_mends_26 rfl ?_
  refine r_al0 (n := 28) dX4_mends_27 rfl ?_
  refine r_il1 (n := 29) dX4_mends_28 rfl ?_
  refine r_il2 (n := 30) dX4_mends_29 rfl ?_
  refine cV_i (n := 33) (np := 2) (m_X4_leatherOf hk b) gX4_mends_X4_leatherOf rfl (by decide +kernel) rfl (by decide) (by decide) (by omega) rfl rfl dX4_mends_30 rfl rfl (Nat.le_of_ble_eq_true rfl) ?_
  refine r_isub (n := 34) dX4_mends_33 rfl ?_
  refine a_put_s (n := 35) (k := 4) (by decide) (by decide) dX4_mends_34 rfl ?_
  refine r_al0 (n := 36) dX4_mends_35 rfl ?_
  refine g_mo_s (n := 39)  in_X4_mends_wsX40 k_X4_mends_7 dX4_mends_36 rfl ?_
  refine r_bipush (v := 7) (n := 41) dX4_mends_39 (by decide) rfl ?_
  refine r_dup2 (n := 42) dX4_mends_41 rfl rfl rfl ?_
  refine a_s (n := 43) (k := 7) (by decide) (by decide) dX4_mends_42 rfl ?_
  refine r_il3 (n := 44) dX4_mends_43 rfl ?_
  refine r_iadd (n := 45) dX4_mends_44 rfl ?_
  refine a_put_s (n := 46) (k := 7) (by decide) (by decide) dX4_mends_45 rfl ?_
  refine r_al0 (n := 47) dX4_mends_46 rfl ?_
  refine r_il1 (n := 48) dX4_mends_47 rfl ?_
  refine r_iconst (v := 5) (n := 49) dX4_mends_48 (by decide) rfl ?_
  refine r_al0 (n := 50) dX4_mends_49 rfl ?_
  refine r_il1 (n := 51) dX4_mends_50 rfl ?_
  refine r_iconst (v := 5) (n := 52) dX4_mends_51 (by decide) rfl ?_
  refine cV_i (n := 55) (np := 2) (m_X4_of (k := k) (j := 5) hk (by decide)) gX4_mends_X4_of rfl (by decide +kernel) rfl (by decide) (by decide) (by omega) rfl rfl dX4_mends_52 rfl rfl (Nat.le_of_ble_eq_true rfl) ?_
  refine r_il3 (n := 56) dX4_mends_55 rfl ?_
  refine r_iadd (n := 57) dX4_mends_56 rfl ?_
  refine cV_v (n := 60) (np := 3) (m_X4_sets (k := k) (j := 5) hk (by decide)) gX4_mends_X4_sets rfl (by decide +kernel) rfl (by decide) (by decide) (by omega) rfl rfl dX4_mends_57 rfl rfl (Nat.le_of_ble_eq_true rfl) ?_
  refine r_al0 (n := 61) dX4_mends_60 rfl ?_
  refine r_il1 (n := 62) dX4_mends_61 rfl ?_
  refine r_bipush (v := 7) (n := 64) dX4_mends_62 (by decide) rfl ?_
  refine r_al0 (n := 65) dX4_mends_64 rfl ?_
  refine r_il1 (n := 66) dX4_mends_65 rfl ?_
  refine r_bipush (v := 7) (n := 68) dX4_mends_66 (by decide) rfl ?_
  refine cV_i (n := 71) (np := 2) (m_X4_of (k := k) (j := 7) hk (by decide)) gX4_mends_X4_of rfl (by decide +kernel) rfl (by decide) (by decide) (by omega) rfl rfl dX4_mends_68 rfl rfl (Nat.le_of_ble_eq_true rfl) ?_
  refine r_iconst (v := 1) (n := 72) dX4_mends_71 (by decide) rfl ?_
  refine r_iadd (n := 73) dX4_mends_72 rfl ?_
  refine cV_v (n := 76) (np := 3) (m_X4_sets (k := k) (j := 7) hk (by decide)) gX4_mends_X4_sets rfl (by decide +kernel) rfl (by decide) (by decide) (by omega) rfl rfl dX4_mends_73 rfl rfl (Nat.le_of_ble_eq_true rfl) ?_
  refine r_al0 (n := 77) dX4_mends_76 rfl ?_
  refine r_il1 (n := 78) dX4_mends_77 rfl ?_
  refine r_iconst (v := 2) (n := 79) dX4_mends_78 (by decide) rfl ?_
  refine r_il2 (n := 80) dX4_mends_79 rfl ?_
  refine r_iconst (v := 1) (n := 81) dX4_mends_80 (by decide) rfl ?_
  refine r_icmp_ne (tgt := 88) (n := 84) dX4_mends_81 (by decide) rfl (fun c_81 => ?_) (fun c_81 => ?_)
  · have hb : b = false := by cases b; rfl; exact absurd rfl c_81
    subst hb
    refine r_al0 (n := 89) dX4_mends_88 rfl ?_
    refine r_il1 (n := 90) dX4_mends_89 rfl ?_
    refine r_iconst (v := 2) (n := 91) dX4_mends_90 (by decide) rfl ?_
    refine cV_i (n := 94) (np := 2) (m_X4_of (k := k) (j := 2) hk (by decide)) gX4_mends_X4_of rfl (by decide +kernel) rfl (by decide) (by decide) (by omega) rfl rfl dX4_mends_91 rfl rfl (Nat.le_of_ble_eq_true rfl) ?_
    refine r_iconst (v := 3) (n := 95) dX4_mends_94 (by decide) rfl ?_
    refine r_idiv (n := 96) dX4_mends_95 (by decide) rfl ?_
    refine cV_v (n := 99) (np := 3) (m_X4_sets (k := k) (j := 2) hk (by decide)) gX4_mends_X4_sets rfl (by decide +kernel) rfl (by decide) (by decide) (by omega) rfl rfl dX4_mends_96 rfl rfl (Nat.le_of_ble_eq_true rfl) ?_
    exact e_v dX4_mends_99 rfl (by
      unfold mendU wearBM
      rw [upd_sw _ _ _ (show 14 + 8 * k + 2 ≠ 14 + 8 * k + 7 by omega)]
      simp (disch := omega) [mput_s, setp_at, setp_2, setp_r, upd_at, upd_ne, leatherOf])
  · have hb : b = true := by cases b; exact absurd c_81 (by decide); rfl
    subst hb
    refine r_iconst (v := 0) (n := 85) dX4_mends_84 (by decide) rfl ?_
    refine r_goto (tgt := 96) dX4_mends_85 (by decide) ?_
    refine cV_v (n := 99) (np := 3) (m_X4_sets (k := k) (j := 2) hk (by decide)) gX4_mends_X4_sets rfl (by decide +kernel) rfl (by decide) (by decide) (by omega) rfl rfl dX4_mends_96 rfl rfl (Nat.le_of_ble_eq_true rfl) ?_
    exact e_v dX4_mends_99 rfl (by
      unfold mendU wearBM
      rw [upd_sw _ _ _ (show 14 + 8 * k + 2 ≠ 14 + 8 * k + 7 by omega)]
      simp (disch := omega) [mput_s, setp_at, setp_2, setp_r, upd_at, upd_ne, leatherOf])

set_option maxHeartbeats 4000000 in
set_option maxRecDepth 100000 in
theorem m_X4_ages {k : Nat} (hk : k < 8) : C_X4_ages cA ad D [.ref (ad 4), .int (nI k)] M (Rv (setp M 10 (agU (M.1 10) k))) := by
  refine PM_of (lv := [some (.ref (ad 4)), some (.int (nI k)), none, none]) (by decide +kernel) rfl (Nat.le_of_ble_eq_true rfl) rfl ?_
  refine r_al0 (n := 1) dX4_ages_0 rfl ?_
  refine r_il1 (n := 2) dX4_ages_1 rfl ?_
  refine r_iconst (v := 2) (n := 3) dX4_ages_2 (by decide) rfl ?_
  refine cV_i (n := 6) (np := 2) (m_X4_of (k := k) (j := 2) hk (by decide)) gX4_ages_X4_of rfl (by decide +kernel) rfl (by decide) (by decide) (by omega) rfl rfl dX4_ages_3 rfl rfl (Nat.le_of_ble_eq_true rfl) ?_
  refine r_al0 (n := 7) dX4_ages_6 rfl ?_
  refine r_il1 (n := 8) dX4_ages_7 rfl ?_
  refine r_iconst (v := 1) (n := 9) dX4_ages_8 (by decide) rfl ?_
  refine cV_i (n := 12) (np := 2) (m_X4_of (k := k) (j := 1) hk (by decide)) gX4_ages_X4_of rfl (by decide +kernel) rfl (by decide) (by decide) (by omega) rfl rfl dX4_ages_9 rfl rfl (Nat.le_of_ble_eq_true rfl) ?_
  refine r_iconst (v := 2) (n := 13) dX4_ages_12 (by decide) rfl ?_
  refine r_idiv (n := 14) dX4_ages_13 (by decide) rfl ?_
  refine r_iadd (n := 15) dX4_ages_14 rfl ?_
  refine r_iconst (v := 1) (n := 16) dX4_ages_15 (by decide) rfl ?_
  refine r_iadd (n := 17) dX4_ages_16 rfl ?_
  refine r_is2 (n := 18) (by decide) rfl dX4_ages_17 rfl ?_
  refine r_al0 (n := 19) dX4_ages_18 rfl ?_
  refine r_il1 (n := 20) dX4_ages_19 rfl ?_
  refine r_iconst (v := 2) (n := 21) dX4_ages_20 (by decide) rfl ?_
  refine pw_mg (pcM := 33) (x := (agW (M.1 10) k)) ?_ (fun K_33 => ?_)
  · refine cV_v (n := 36) (np := 3) (m_X4_sets (k := k) (j := 2) hk (by decide)) gX4_ages_X4_sets rfl (by decide +kernel) rfl (by decide) (by decide) (by omega) rfl rfl dX4_ages_33 rfl rfl (Nat.le_of_ble_eq_true rfl) ?_
    refine r_al0 (n := 37) dX4_ages_36 rfl ?_
    refine r_il1 (n := 38) dX4_ages_37 rfl ?_
    refine r_iconst (v := 3) (n := 39) dX4_ages_38 (by decide) rfl ?_
    refine cV_i (n := 42) (np := 2) (m_X4_of (k := k) (j := 3) hk (by decide)) gX4_ages_X4_of rfl (by decide +kernel) rfl (by decide) (by decide) (by omega) rfl rfl dX4_ages_39 rfl rfl (Nat.le_of_ble_eq_true rfl) ?_
    refine pw_mg (pcM := 63) (x := (if agW (M.1 10) k / 10 = 0 then 10 else -2 * (agW (M.1 10) k / 10))) ?_ (fun K_63 => ?_)
    · refine r_iadd (n := 64) dX4_ages_63 rfl ?_
      simp (disch := omega) only [setp_at, upd_ne]
      refine pw_sx (y := agT (M.1 10) k) rfl ?_
      refine r_is3 (n := 65) (by decide) rfl dX4_ages_64 rfl ?_
      refine r_al0 (n := 66) dX4_ages_65 rfl ?_
      refine r_il1 (n := 67) dX4_ages_66 rfl ?_
      refine r_iconst (v := 3) (n := 68) dX4_ages_67 (by decide) rfl ?_
      refine pw_mg (pcM := 88) (x := (agH (M.1 10) k)) ?_ (fun K_88 => ?_)
      · refine cV_v (n := 91) (np := 3) (m_X4_sets (k := k) (j := 3) hk (by decide)) gX4_ages_X4_sets rfl (by decide +kernel) rfl (by decide) (by decide) (by omega) rfl rfl dX4_ages_88 rfl rfl (Nat.le_of_ble_eq_true rfl) ?_
        refine r_al0 (n := 92) dX4_ages_91 rfl ?_
        refine r_il1 (n := 93) dX4_ages_92 rfl ?_
        refine r_iconst (v := 4) (n := 94) dX4_ages_93 (by decide) rfl ?_
        refine pw_mg (pcM := 114) (x := (agC (M.1 10) k)) ?_ (fun K_114 => ?_)
        · refine cV_v (n := 117) (np := 3) (m_X4_sets (k := k) (j := 4) hk (by decide)) gX4_ages_X4_sets rfl (by decide +kernel) rfl (by decide) (by decide) (by omega) rfl rfl dX4_ages_114 rfl rfl (Nat.le_of_ble_eq_true rfl) ?_
          refine r_al0 (n := 118) dX4_ages_117 rfl ?_
          refine g_mo_s (n := 121)  in_X4_ages_wsX40 k_X4_ages_7 dX4_ages_118 rfl ?_
          refine r_bipush (v := 8) (n := 123) dX4_ages_121 (by decide) rfl ?_
          refine r_al0 (n := 124) dX4_ages_123 rfl ?_
          refine r_il1 (n := 125) dX4_ages_124 rfl ?_
          refine r_iconst (v := 4) (n := 126) dX4_ages_125 (by decide) rfl ?_
          refine cV_i (n := 129) (np := 2) (m_X4_of (k := k) (j := 4) hk (by decide)) gX4_ages_X4_of rfl (by decide +kernel) rfl (by decide) (by decide) (by omega) rfl rfl dX4_ages_126 rfl rfl (Nat.le_of_ble_eq_true rfl) ?_
          refine r_al0 (n := 130) dX4_ages_129 rfl ?_
          refine g_mo_s (n := 133)  in_X4_ages_wsX40 k_X4_ages_7 dX4_ages_130 rfl ?_
          refine r_bipush (v := 8) (n := 135) dX4_ages_133 (by decide) rfl ?_
          refine a_s (n := 136) (k := 8) (by decide) (by decide) dX4_ages_135 rfl ?_
          refine r_icmp_le (tgt := 148) (n := 139) dX4_ages_136 (by decide) rfl (fun c_136 => ?_) (fun c_136 => ?_)
          · simp (disch := omega) only [setp_at, setp_2, upd_at, upd_ne] at c_136
            refine r_al0 (n := 149) dX4_ages_148 rfl ?_
            refine g_mo_s (n := 152)  in_X4_ages_wsX40 k_X4_ages_7 dX4_ages_149 rfl ?_
            refine r_bipush (v := 8) (n := 154) dX4_ages_152 (by decide) rfl ?_
            refine a_s (n := 155) (k := 8) (by decide) (by decide) dX4_ages_154 rfl ?_
            refine a_put_s (n := 156) (k := 8) (by decide) (by decide) dX4_ages_155 rfl ?_
            exact e_v dX4_ages_156 rfl (by simp (disch := omega) only [mput_s, setp_at, setp_2, setp_r, upd_at, upd_ne, agU, c_136, if_true, if_false])
          · simp (disch := omega) only [setp_at, setp_2, upd_at, upd_ne] at c_136
            refine r_al0 (n := 140) dX4_ages_139 rfl ?_
            refine r_il1 (n := 141) dX4_ages_140 rfl ?_
            refine r_iconst (v := 4) (n := 142) dX4_ages_141 (by decide) rfl ?_
            refine cV_i (n := 145) (np := 2) (m_X4_of (k := k) (j := 4) hk (by decide)) gX4_ages_X4_of rfl (by decide +kernel) rfl (by decide) (by decide) (by omega) rfl rfl dX4_ages_142 rfl rfl (Nat.le_of_ble_eq_true rfl) ?_
            refine r_goto (tgt := 155) dX4_ages_145 (by decide) ?_
            refine a_put_s (n := 156) (k := 8) (by decide) (by decide) dX4_ages_155 rfl ?_
            exact e_v dX4_ages_156 rfl (by simp (disch := omega) only [mput_s, setp_at, setp_2, setp_r, upd_at, upd_ne, agU, c_136, if_true, if_false])
        · refine r_al0 (n := 95) dX4_ages_94 rfl ?_
          refine r_il1 (n := 96) dX4_ages_95 rfl ?_
          refine cV_i (n := 99) (np := 1) (m_X4_isCold hk) gX4_ages_X4_isCold rfl (by decide +kernel) rfl (by decide) (by decide) (by omega) rfl rfl dX4_ages_96 rfl rfl (Nat.le_of_ble_eq_true rfl) ?_
          refine r_if_eq (tgt := 113) (n := 102) dX4_ages_99 (by decide) rfl (fun c_99 => ?_) (fun c_99 => ?_)
          · replace c_99 := i10 c_99
            simp (disch := omega) only [setp_at, setp_2, upd_at, upd_ne] at c_99
            refine r_iconst (v := 0) (n := 114) dX4_ages_113 (by decide) rfl ?_
            first
              | (simp only [agC, if_pos c_99] at K_114; simp (disch := omega) only [setp_at, upd_at, upd_ne]; exact K_114)
              | (simp only [agC, if_neg c_99] at K_114; exact K_114)
          · replace c_99 := i11 c_99
            simp (disch := omega) only [setp_at, setp_2, upd_at, upd_ne] at c_99
            refine r_al0 (n := 103) dX4_ages_102 rfl ?_
            refine r_il1 (n := 104) dX4_ages_103 rfl ?_
            refine r_iconst (v := 4) (n := 105) dX4_ages_104 (by decide) rfl ?_
            refine cV_i (n := 108) (np := 2) (m_X4_of (k := k) (j := 4) hk (by decide)) gX4_ages_X4_of rfl (by decide +kernel) rfl (by decide) (by decide) (by omega) rfl rfl dX4_ages_105 rfl rfl (Nat.le_of_ble_eq_true rfl) ?_
            refine r_iconst (v := 1) (n := 109) dX4_ages_108 (by decide) rfl ?_
            refine r_iadd (n := 110) dX4_ages_109 rfl ?_
            refine r_goto (tgt := 114) dX4_ages_110 (by decide) ?_
            first
              | (simp only [agC, if_pos c_99] at K_114; simp (disch := omega) only [setp_at, upd_at, upd_ne]; exact K_114)
              | (simp only [agC, if_neg c_99] at K_114; exact K_114)
      · refine r_il3 (n := 69) dX4_ages_68 rfl ?_
        refine r_bipush (v := 100) (n := 71) dX4_ages_69 (by decide) rfl ?_
        refine r_icmp_le (tgt := 79) (n := 74) dX4_ages_71 (by decide) rfl (fun c_71 => ?_) (fun c_71 => ?_)
        · refine r_il3 (n := 80) dX4_ages_79 rfl ?_
          refine r_if_ge (tgt := 87) (n := 83) dX4_ages_80 (by decide) rfl (fun c_80 => ?_) (fun c_80 => ?_)
          · refine r_il3 (n := 88) dX4_ages_87 rfl ?_
            first
              | (simp only [agH, if_pos c_71, if_pos c_80] at K_88; exact K_88)
              | (simp only [agH, if_pos c_71, if_neg c_80] at K_88; exact K_88)
              | (simp only [agH, if_neg c_71] at K_88; exact K_88)
          · refine r_iconst (v := 0) (n := 84) dX4_ages_83 (by decide) rfl ?_
            refine r_goto (tgt := 88) dX4_ages_84 (by decide) ?_
            first
              | (simp only [agH, if_pos c_71, if_pos c_80] at K_88; exact K_88)
              | (simp only [agH, if_pos c_71, if_neg c_80] at K_88; exact K_88)
              | (simp only [agH, if_neg c_71] at K_88; exact K_88)
        · refine r_bipush (v := 100) (n := 76) dX4_ages_74 (by decide) rfl ?_
          refine r_goto (tgt := 88) dX4_ages_76 (by decide) ?_
          first
            | (simp only [agH, if_pos c_71, if_pos c_80] at K_88; exact K_88)
            | (simp only [agH, if_pos c_71, if_neg c_80] at K_88; exact K_88)
            | (simp only [agH, if_neg c_71] at K_88; exact K_88)
    · refine r_al0 (n := 43) dX4_ages_42 rfl ?_
      refine r_il1 (n := 44) dX4_ages_43 rfl ?_
      refine cV_i (n := 47) (np := 1) (m_X4_leak hk) gX4_ages_X4_leak rfl (by decide +kernel) rfl (by decide) (by decide) (by omega) rfl rfl dX4_ages_44 rfl rfl (Nat.le_of_ble_eq_true rfl) ?_
      refine r_if_ne (tgt := 55) (n := 50) dX4_ages_47 (by decide) rfl (fun c_47 => ?_) (fun c_47 => ?_)
      · simp (disch := omega) only [setp_at, upd_at] at c_47
        refine r_bipush (v := -2) (n := 57) dX4_ages_55 (by decide) rfl ?_
        refine r_al0 (n := 58) dX4_ages_57 rfl ?_
        refine r_il1 (n := 59) dX4_ages_58 rfl ?_
        refine cV_i (n := 62) (np := 1) (m_X4_leak hk) gX4_ages_X4_leak rfl (by decide +kernel) rfl (by decide) (by decide) (by omega) rfl rfl dX4_ages_59 rfl rfl (Nat.le_of_ble_eq_true rfl) ?_
        refine r_imul (n := 63) dX4_ages_62 rfl ?_
        first
          | (rw [if_pos c_47] at K_63; exact K_63)
          | (rw [if_neg c_47] at K_63; simp (disch := omega) only [setp_at, upd_at]; exact K_63)
      · simp (disch := omega) only [setp_at, upd_at] at c_47
        refine r_bipush (v := 10) (n := 52) dX4_ages_50 (by decide) rfl ?_
        refine r_goto (tgt := 63) dX4_ages_52 (by decide) ?_
        first
          | (rw [if_pos c_47] at K_63; exact K_63)
          | (rw [if_neg c_47] at K_63; simp (disch := omega) only [setp_at, upd_at]; exact K_63)
  · refine r_il2 (n := 22) dX4_ages_21 rfl ?_
    refine r_bipush (v := 100) (n := 24) dX4_ages_22 (by decide) rfl ?_
    refine r_icmp_le (tgt := 32) (n := 27) dX4_ages_24 (by decide) rfl (fun c_24 => ?_) (fun c_24 => ?_)
    · refine r_il2 (n := 33) dX4_ages_32 rfl ?_
      first
        | (simp only [agW, if_pos c_24] at K_33; exact K_33)
        | (simp only [agW, if_neg c_24] at K_33; exact K_33)
    · refine r_bipush (v := 100) (n := 29) dX4_ages_27 (by decide) rfl ?_
      refine r_goto (tgt := 33) dX4_ages_29 (by decide) ?_
      first
        | (simp only [agW, if_pos c_24] at K_33; exact K_33)
        | (simp only [agW, if_neg c_24] at K_33; exact K_33)

end ML
