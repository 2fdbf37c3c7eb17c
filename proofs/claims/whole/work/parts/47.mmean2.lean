/-! ===== the mean, both sides ===== -/
section MMEAN2
variable {cA : Nat → ClassId} {ad : Nat → Nat} {D : va_G} {M : Mem}
def avB (u : Vec) (N : Nat) : UInt32 := FP.fdiv (FP.i2f (sumN u 2 N)) (FP.i2f (u 0))
def meanS (u : Vec) (N : Nat) : Int32 := if 0 < u 0 then btF (avB u N) else NF
def avM (u : Vec) (N : Nat) : UInt32 := FP.fdiv (FP.i2f (sumN u 2 N)) (FP.i2f (if u 0 = 0 then 1 else u 0))
def meanM (u : Vec) (N : Nat) : Int32 := if u 0 = 0 then NF else (avM u N).toInt32
set_option maxHeartbeats 4000000 in
set_option maxRecDepth 100000 in
theorem m_X3_mean (hr : ∀ i, i < 6 → M.2 i < 6) {N : Nat} (hN : (M.1 (M.2 0)) 0 = nI N) (h8 : N ≤ 8) (hA : 0 < (M.1 (M.2 0)) 0 → vfb (avB (M.1 (M.2 0)) N) = true ∧ btK (avB (M.1 (M.2 0)) N) = true) : C_X3_mean cA ad D [.ref (ad 0)] M (Ri (meanS (M.1 (M.2 0)) N) M) := by
  refine PM_of (lv := [some (.ref (ad 0))]) (by decide +kernel) rfl (Nat.le_of_ble_eq_true rfl) rfl ?_
  have hq0 := hr 0 (by decide)
  refine r_al0 (n := 1) dX3_mean_0 rfl ?_
  refine g_br_now (n := 4)  in_X3_mean_wsX30 k_X3_mean_12 dX3_mean_1 rfl ?_
  refine g_st_smithyCount (n := 7) (by first | assumption | omega) in_X3_mean_wsX20 k_X3_mean_133 dX3_mean_4 rfl ?_
  refine r_if_gt (tgt := 13) (n := 10) dX3_mean_7 (by decide) rfl (fun c_7 => ?_) (fun c_7 => ?_)
  · refine r_al0 (n := 14) dX3_mean_13 rfl ?_
    refine g_br_now (n := 17)  in_X3_mean_wsX30 k_X3_mean_12 dX3_mean_14 rfl ?_
    refine cV_i (n := 20) (np := 0) (m_X2_wearTogether (hr _ (by decide)) hN h8) gX3_mean_X2_wearTogether rfl (by decide +kernel) rfl (by decide) (by decide) (by omega) (cell_st cA ad _ (by first | assumption | omega)) rfl dX3_mean_17 rfl rfl (Nat.le_of_ble_eq_true rfl) ?_
    refine r_i2f (n := 21) dX3_mean_20 rfl ?_
    refine r_al0 (n := 22) dX3_mean_21 rfl ?_
    refine g_br_now (n := 25)  in_X3_mean_wsX30 k_X3_mean_12 dX3_mean_22 rfl ?_
    refine g_st_smithyCount (n := 28) (by first | assumption | omega) in_X3_mean_wsX20 k_X3_mean_133 dX3_mean_25 rfl ?_
    refine r_i2f (n := 29) dX3_mean_28 rfl ?_
    refine r_fdiv (n := 30) dX3_mean_29 (vfb_n (hA c_7).1) rfl ?_
    refine cS_i (n := 33) (np := 1) (m_X3_bitsOf (hA c_7).2) gX3_mean_X3_bitsOf rfl (by decide +kernel) rfl (by decide) (by decide) dX3_mean_30 rfl rfl (Nat.le_of_ble_eq_true rfl) ?_
    exact e_i dX3_mean_33 rfl (by rw [meanS, if_pos c_7]) rfl
  · refine r_ldc (n := 12) dX3_mean_10 k_X3_mean_128 rfl ?_
    exact e_i dX3_mean_12 rfl (by rw [meanS, if_neg c_7]) rfl

set_option maxHeartbeats 4000000 in
set_option maxRecDepth 100000 in
theorem m_X4_mean {N : Nat} (hN : (M.1 10) 0 = nI N) (h8 : N ≤ 8) (hA : vfb (avM (M.1 10) N) = true) (hB : Op.cmpValue (FP.fcmp (avM (M.1 10) N) (avM (M.1 10) N)) .l = 0) : C_X4_mean cA ad D [.ref (ad 4)] M (Ri (meanM (M.1 10) N) M) := by
  refine PM_of (lv := [some (.ref (ad 4)), none]) (by decide +kernel) rfl (Nat.le_of_ble_eq_true rfl) rfl ?_
  refine r_al0 (n := 1) dX4_mean_0 rfl ?_
  refine r_iconst (v := 2) (n := 2) dX4_mean_1 (by decide) rfl ?_
  refine cV_i (n := 5) (np := 1) (m_X4_sum (j := 2) hN h8 (by decide)) gX4_mean_X4_sum rfl (by decide +kernel) rfl (by decide) (by decide) (by omega) rfl rfl dX4_mean_2 rfl rfl (Nat.le_of_ble_eq_true rfl) ?_
  refine r_i2f (n := 6) dX4_mean_5 rfl ?_
  refine pw_mg (pcM := 25) (x := (if (M.1 10) 0 = 0 then 1 else (M.1 10) 0)) ?_ (fun K_25 => ?_)
  · refine r_i2f (n := 26) dX4_mean_25 rfl ?_
    refine r_fdiv (n := 27) dX4_mean_26 (vfb_n hA) rfl ?_
    refine r_fs1 (n := 28) (by decide) rfl dX4_mean_27 rfl ?_
    refine r_al0 (n := 29) dX4_mean_28 rfl ?_
    refine g_mo_s (n := 32)  in_X4_mean_wsX40 k_X4_mean_7 dX4_mean_29 rfl ?_
    refine r_iconst (v := 0) (n := 33) dX4_mean_32 (by decide) rfl ?_
    refine a_s (n := 34) (k := 0) (by decide) (by decide) dX4_mean_33 rfl ?_
    refine r_if_ne (tgt := 42) (n := 37) dX4_mean_34 (by decide) rfl (fun c_34 => ?_) (fun c_34 => ?_)
    · refine r_fl1 (n := 43) dX4_mean_42 rfl ?_
      refine cS_i (n := 46) (np := 1) (m_floatToIntBits hB) gX4_mean_Jxf58ca_floatToIntBits_5c35a rfl (by decide +kernel) rfl (by decide) (by decide) dX4_mean_43 rfl rfl (Nat.le_of_ble_eq_true rfl) ?_
      exact e_i dX4_mean_46 rfl (by first | rw [meanM, if_pos c_34] | rw [meanM, if_neg c_34]) rfl
    · refine r_ldc (n := 39) dX4_mean_37 k_X4_mean_109 rfl ?_
      refine r_goto (tgt := 46) dX4_mean_39 (by decide) ?_
      exact e_i dX4_mean_46 rfl (by first | rw [meanM, if_pos c_34] | rw [meanM, if_neg c_34]) rfl
  · refine r_al0 (n := 7) dX4_mean_6 rfl ?_
    refine g_mo_s (n := 10)  in_X4_mean_wsX40 k_X4_mean_7 dX4_mean_7 rfl ?_
    refine r_iconst (v := 0) (n := 11) dX4_mean_10 (by decide) rfl ?_
    refine a_s (n := 12) (k := 0) (by decide) (by decide) dX4_mean_11 rfl ?_
    refine r_if_ne (tgt := 19) (n := 15) dX4_mean_12 (by decide) rfl (fun c_12 => ?_) (fun c_12 => ?_)
    · refine r_al0 (n := 20) dX4_mean_19 rfl ?_
      refine g_mo_s (n := 23)  in_X4_mean_wsX40 k_X4_mean_7 dX4_mean_20 rfl ?_
      refine r_iconst (v := 0) (n := 24) dX4_mean_23 (by decide) rfl ?_
      refine a_s (n := 25) (k := 0) (by decide) (by decide) dX4_mean_24 rfl ?_
      first
        | (rw [if_pos c_12] at K_25; exact K_25)
        | (rw [if_neg c_12] at K_25; exact K_25)
    · refine r_iconst (v := 1) (n := 16) dX4_mean_15 (by decide) rfl ?_
      refine r_goto (tgt := 25) dX4_mean_16 (by decide) ?_
      first
        | (rw [if_pos c_12] at K_25; exact K_25)
        | (rw [if_neg c_12] at K_25; exact K_25)

end MMEAN2
