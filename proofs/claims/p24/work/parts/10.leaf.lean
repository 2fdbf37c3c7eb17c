/-! ===== leaves ===== -/
section LEAF
variable {cA : Nat → ClassId} {ad : Nat → Nat} {D : va_G} {M : Mem}
set_option maxHeartbeats 4000000 in
set_option maxRecDepth 100000 in
theorem m_X3_tensBegun {v : Int32} : C_X3_tensBegun cA ad D [.int v] M (Ri (tens v) M) := by
  refine PM_of (lv := [some (.int v)]) (by decide +kernel) rfl (Nat.le_of_ble_eq_true rfl) rfl ?_
  refine r_il0 (n := 1) dX3_tensBegun_0 rfl ?_
  refine r_bipush (v := 9) (n := 3) dX3_tensBegun_1 (by decide) rfl ?_
  refine r_iadd (n := 4) dX3_tensBegun_3 rfl ?_
  refine r_bipush (v := 10) (n := 6) dX3_tensBegun_4 (by decide) rfl ?_
  refine r_idiv (n := 7) dX3_tensBegun_6 (by decide) rfl ?_
  exact e_i dX3_tensBegun_7 rfl rfl rfl

set_option maxHeartbeats 4000000 in
set_option maxRecDepth 100000 in
theorem m_X3_hoursOfMend (b : Bool) : C_X3_hoursOfMend cA ad D [.int (bI b)] M (Ri (hM b) M) := by
  refine PM_of (lv := [some (.int (bI b))]) (by decide +kernel) rfl (Nat.le_of_ble_eq_true rfl) rfl ?_
  refine r_il0 (n := 1) dX3_hoursOfMend_0 rfl ?_
  refine r_if_eq (tgt := 8) (n := 4) dX3_hoursOfMend_1 (by decide) rfl (fun c_1 => ?_) (fun c_1 => ?_)
  · refine r_iconst (v := 1) (n := 9) dX3_hoursOfMend_8 (by decide) rfl ?_
    exact e_i dX3_hoursOfMend_9 rfl (by cases b <;> simp_all [hM, bI]) rfl
  · refine r_iconst (v := 3) (n := 5) dX3_hoursOfMend_4 (by decide) rfl ?_
    refine r_goto (tgt := 9) dX3_hoursOfMend_5 (by decide) ?_
    exact e_i dX3_hoursOfMend_9 rfl (by cases b <;> simp_all [hM, bI]) rfl

set_option maxHeartbeats 4000000 in
set_option maxRecDepth 100000 in
theorem m_X3_leakOf {v : Int32} : C_X3_leakOf cA ad D [.int v] M (Ri (v / 10) M) := by
  refine PM_of (lv := [some (.int v)]) (by decide +kernel) rfl (Nat.le_of_ble_eq_true rfl) rfl ?_
  refine r_il0 (n := 1) dX3_leakOf_0 rfl ?_
  refine r_bipush (v := 10) (n := 3) dX3_leakOf_1 (by decide) rfl ?_
  refine r_idiv (n := 4) dX3_leakOf_3 (by decide) rfl ?_
  exact e_i dX3_leakOf_4 rfl rfl rfl

set_option maxHeartbeats 4000000 in
set_option maxRecDepth 100000 in
theorem m_X3_hoursOfWay {v w : Int32} : C_X3_hoursOfWay cA ad D [.int v, .int w] M (Ri (hB v w) M) := by
  refine PM_of (lv := [some (.int v), some (.int w)]) (by decide +kernel) rfl (Nat.le_of_ble_eq_true rfl) rfl ?_
  refine r_il0 (n := 1) dX3_hoursOfWay_0 rfl ?_
  refine r_il1 (n := 2) dX3_hoursOfWay_1 rfl ?_
  refine r_isub (n := 3) dX3_hoursOfWay_2 rfl ?_
  refine r_mabs (n := 6) (by decide) k_X3_hoursOfWay_251 ks_X3_hoursOfWay_abs ki_X3_hoursOfWay_math kc_X3_hoursOfWay_abs (Nat.le_of_ble_eq_true rfl) dX3_hoursOfWay_3 rfl ?_
  refine cS_i (n := 9) (np := 1) (m_X3_tensBegun) gX3_hoursOfWay_X3_tensBegun rfl (by decide +kernel) rfl (by decide) (by decide) dX3_hoursOfWay_6 rfl rfl (Nat.le_of_ble_eq_true rfl) ?_
  exact e_i dX3_hoursOfWay_9 rfl rfl rfl

set_option maxHeartbeats 4000000 in
set_option maxRecDepth 100000 in
theorem m_X3_isFlag {v : Int32} : C_X3_isFlag cA ad D [.int v] M (Ri (if v = 0 ∨ v = 1 then 1 else 0) M) := by
  refine PM_of (lv := [some (.int v)]) (by decide +kernel) rfl (Nat.le_of_ble_eq_true rfl) rfl ?_
  refine r_il0 (n := 1) dX3_isFlag_0 rfl ?_
  refine r_if_eq (tgt := 9) (n := 4) dX3_isFlag_1 (by decide) rfl (fun c_1 => ?_) (fun c_1 => ?_)
  · refine r_iconst (v := 1) (n := 10) dX3_isFlag_9 (by decide) rfl ?_
    refine r_goto (tgt := 14) dX3_isFlag_10 (by decide) ?_
    exact e_z dX3_isFlag_14 rfl (by decide) (by simp_all) rfl
  · refine r_il0 (n := 5) dX3_isFlag_4 rfl ?_
    refine r_iconst (v := 1) (n := 6) dX3_isFlag_5 (by decide) rfl ?_
    refine r_icmp_ne (tgt := 13) (n := 9) dX3_isFlag_6 (by decide) rfl (fun c_6 => ?_) (fun c_6 => ?_)
    · refine r_iconst (v := 0) (n := 14) dX3_isFlag_13 (by decide) rfl ?_
      exact e_z dX3_isFlag_14 rfl (by decide) (by simp_all) rfl
    · refine r_iconst (v := 1) (n := 10) dX3_isFlag_9 (by decide) rfl ?_
      refine r_goto (tgt := 14) dX3_isFlag_10 (by decide) ?_
      exact e_z dX3_isFlag_14 rfl (by decide) (by simp_all) rfl

set_option maxHeartbeats 4000000 in
set_option maxRecDepth 100000 in
theorem m_X2_isCold {p : Nat} (hp : p < 6) {h : Int32} : C_X2_isCold cA ad D [.ref (ad (6 + 10 * p)), .int h] M (Ri (if h < M.1 p 10 then 1 else 0) M) := by
  refine PM_of (lv := [some (.ref (ad (6 + 10 * p))), some (.int h)]) (by decide +kernel) rfl (Nat.le_of_ble_eq_true rfl) rfl ?_
  refine r_il1 (n := 1) dX2_isCold_0 rfl ?_
  refine r_al0 (n := 2) dX2_isCold_1 rfl ?_
  refine g_st_cold (n := 5) (by first | assumption | omega) in_X2_isCold_wsX20 k_X2_isCold_17 dX2_isCold_2 rfl ?_
  refine r_icmp_ge (tgt := 12) (n := 8) dX2_isCold_5 (by decide) rfl (fun c_5 => ?_) (fun c_5 => ?_)
  · refine r_iconst (v := 0) (n := 13) dX2_isCold_12 (by decide) rfl ?_
    exact e_z dX2_isCold_13 rfl (by decide) (by simp_all [Int32.not_le]) rfl
  · refine r_iconst (v := 1) (n := 9) dX2_isCold_8 (by decide) rfl ?_
    refine r_goto (tgt := 13) dX2_isCold_9 (by decide) ?_
    exact e_z dX2_isCold_13 rfl (by decide) (by simp_all [Int32.not_le]) rfl

set_option maxHeartbeats 4000000 in
set_option maxRecDepth 100000 in
theorem m_X1_leatherOfMend {p k : Nat} (hp : p < 6) (hk : k < 8) (b : Bool) : C_X1_leatherOfMend cA ad D [.ref (ad (8 + 10 * p + k)), .int (bI b)] M (Ri (leatherOf (M.1 p) k b) M) := by
  refine PM_of (lv := [some (.ref (ad (8 + 10 * p + k))), some (.int (bI b))]) (by decide +kernel) rfl (Nat.le_of_ble_eq_true rfl) rfl ?_
  refine r_il1 (n := 1) dX1_leatherOfMend_0 rfl ?_
  refine r_if_eq (tgt := 13) (n := 4) dX1_leatherOfMend_1 (by decide) rfl (fun c_1 => ?_) (fun c_1 => ?_)
  · refine r_al0 (n := 14) dX1_leatherOfMend_13 rfl ?_
    refine g_sm_wear (n := 17) (by first | assumption | omega) (by first | assumption | omega) in_X1_leatherOfMend_wsX10 k_X1_leatherOfMend_18 dX1_leatherOfMend_14 rfl ?_
    refine cN_i (n := 20) (np := 1) (m_X3_tensBegun) gX1_leatherOfMend_X3_tensBegun_n36 rfl (fun _ h => h.2.2.1) ki_X1_leatherOfMend_X3_tensBegun ks_X1_leatherOfMend_X3_tensBegun (by decide +kernel) rfl (by decide) (by decide) dX1_leatherOfMend_17 rfl rfl (Nat.le_of_ble_eq_true rfl) ?_
    exact e_i dX1_leatherOfMend_20 rfl (by cases b <;> simp_all [leatherOf, bI]) rfl
  · refine r_iconst (v := 4) (n := 5) dX1_leatherOfMend_4 (by decide) rfl ?_
    refine r_al0 (n := 6) dX1_leatherOfMend_5 rfl ?_
    refine g_sm_size (n := 9) (by first | assumption | omega) (by first | assumption | omega) in_X1_leatherOfMend_wsX10 k_X1_leatherOfMend_15 dX1_leatherOfMend_6 rfl ?_
    refine r_imul (n := 10) dX1_leatherOfMend_9 rfl ?_
    refine r_goto (tgt := 20) dX1_leatherOfMend_10 (by decide) ?_
    exact e_i dX1_leatherOfMend_20 rfl (by cases b <;> simp_all [leatherOf, bI]) rfl

set_option maxHeartbeats 4000000 in
set_option maxRecDepth 100000 in
theorem m_X1_wearBehindMend {p k : Nat} (hp : p < 6) (hk : k < 8) (b : Bool) : C_X1_wearBehindMend cA ad D [.ref (ad (8 + 10 * p + k)), .int (bI b)] M (Ri (wearBM (M.1 p) k b) M) := by
  refine PM_of (lv := [some (.ref (ad (8 + 10 * p + k))), some (.int (bI b))]) (by decide +kernel) rfl (Nat.le_of_ble_eq_true rfl) rfl ?_
  refine r_il1 (n := 1) dX1_wearBehindMend_0 rfl ?_
  refine r_if_eq (tgt := 8) (n := 4) dX1_wearBehindMend_1 (by decide) rfl (fun c_1 => ?_) (fun c_1 => ?_)
  · refine r_al0 (n := 9) dX1_wearBehindMend_8 rfl ?_
    refine g_sm_wear (n := 12) (by first | assumption | omega) (by first | assumption | omega) in_X1_wearBehindMend_wsX10 k_X1_wearBehindMend_18 dX1_wearBehindMend_9 rfl ?_
    refine r_iconst (v := 3) (n := 13) dX1_wearBehindMend_12 (by decide) rfl ?_
    refine r_idiv (n := 14) dX1_wearBehindMend_13 (by decide) rfl ?_
    exact e_i dX1_wearBehindMend_14 rfl (by cases b <;> simp_all [wearBM, bI]) rfl
  · refine r_iconst (v := 0) (n := 5) dX1_wearBehindMend_4 (by decide) rfl ?_
    refine r_goto (tgt := 14) dX1_wearBehindMend_5 (by decide) ?_
    exact e_i dX1_wearBehindMend_14 rfl (by cases b <;> simp_all [wearBM, bI]) rfl

set_option maxHeartbeats 4000000 in
set_option maxRecDepth 100000 in
theorem m_X3_wearBehindDay {v w : Int32} : C_X3_wearBehindDay cA ad D [.int v, .int w] M (Ri (wearD v w) M) := by
  refine PM_of (lv := [some (.int v), some (.int w)]) (by decide +kernel) rfl (Nat.le_of_ble_eq_true rfl) rfl ?_
  refine r_bipush (v := 100) (n := 2) dX3_wearBehindDay_0 (by decide) rfl ?_
  refine r_il0 (n := 3) dX3_wearBehindDay_2 rfl ?_
  refine r_il1 (n := 4) dX3_wearBehindDay_3 rfl ?_
  refine r_iconst (v := 2) (n := 5) dX3_wearBehindDay_4 (by decide) rfl ?_
  refine r_idiv (n := 6) dX3_wearBehindDay_5 (by decide) rfl ?_
  refine r_iadd (n := 7) dX3_wearBehindDay_6 rfl ?_
  refine r_iconst (v := 1) (n := 8) dX3_wearBehindDay_7 (by decide) rfl ?_
  refine r_iadd (n := 9) dX3_wearBehindDay_8 rfl ?_
  refine r_mmin (n := 12) (by decide) k_X3_wearBehindDay_243 ks_X3_wearBehindDay_min ki_X3_wearBehindDay_math kc_X3_wearBehindDay_min (Nat.le_of_ble_eq_true rfl) dX3_wearBehindDay_9 rfl ?_
  exact e_i dX3_wearBehindDay_12 rfl rfl rfl

set_option maxHeartbeats 4000000 in
set_option maxRecDepth 100000 in
theorem m_X3_heatBehindDay {v w : Int32} : C_X3_heatBehindDay cA ad D [.int v, .int w] M (Ri (heatD v w) M) := by
  refine PM_of (lv := [some (.int v), some (.int w), none]) (by decide +kernel) rfl (Nat.le_of_ble_eq_true rfl) rfl ?_
  refine r_il1 (n := 1) dX3_heatBehindDay_0 rfl ?_
  refine cS_i (n := 4) (np := 1) (m_X3_leakOf) gX3_heatBehindDay_X3_leakOf rfl (by decide +kernel) rfl (by decide) (by decide) dX3_heatBehindDay_1 rfl rfl (Nat.le_of_ble_eq_true rfl) ?_
  refine r_is2 (n := 5) (by decide) rfl dX3_heatBehindDay_4 rfl ?_
  refine r_il2 (n := 6) dX3_heatBehindDay_5 rfl ?_
  refine r_if_ne (tgt := 19) (n := 9) dX3_heatBehindDay_6 (by decide) rfl (fun c_6 => ?_) (fun c_6 => ?_)
  · refine r_iconst (v := 0) (n := 20) dX3_heatBehindDay_19 (by decide) rfl ?_
    refine r_il0 (n := 21) dX3_heatBehindDay_20 rfl ?_
    refine r_il2 (n := 22) dX3_heatBehindDay_21 rfl ?_
    refine r_iconst (v := 2) (n := 23) dX3_heatBehindDay_22 (by decide) rfl ?_
    refine r_imul (n := 24) dX3_heatBehindDay_23 rfl ?_
    refine r_isub (n := 25) dX3_heatBehindDay_24 rfl ?_
    refine r_mmax (n := 28) (by decide) k_X3_heatBehindDay_248 ks_X3_heatBehindDay_max ki_X3_heatBehindDay_math kc_X3_heatBehindDay_max (Nat.le_of_ble_eq_true rfl) dX3_heatBehindDay_25 rfl ?_
    exact e_i dX3_heatBehindDay_28 rfl (by simp_all [heatD]) rfl
  · refine r_bipush (v := 100) (n := 11) dX3_heatBehindDay_9 (by decide) rfl ?_
    refine r_il0 (n := 12) dX3_heatBehindDay_11 rfl ?_
    refine r_bipush (v := 10) (n := 14) dX3_heatBehindDay_12 (by decide) rfl ?_
    refine r_iadd (n := 15) dX3_heatBehindDay_14 rfl ?_
    refine r_mmin (n := 18) (by decide) k_X3_heatBehindDay_243 ks_X3_heatBehindDay_min ki_X3_heatBehindDay_math kc_X3_heatBehindDay_min (Nat.le_of_ble_eq_true rfl) dX3_heatBehindDay_15 rfl ?_
    exact e_i dX3_heatBehindDay_18 rfl (by simp_all [heatD]) rfl

end LEAF

