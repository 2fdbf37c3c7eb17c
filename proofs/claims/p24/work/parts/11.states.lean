/-! ===== the class's states ===== -/
section STATES
variable {cA : Nat → ClassId} {ad : Nat → Nat} {D : va_G} {M : Mem}
set_option maxHeartbeats 4000000 in
set_option maxRecDepth 100000 in
theorem m_X2_find_s {p k : Nat} (hp : p < 6) {N : Nat} (hN : M.1 p 0 = nI N) (h8 : N ≤ 8) (hk : k < N) : C_X2_find cA ad D [.ref (ad (6 + 10 * p)), .int (nI k)] M (Ra (ad (8 + 10 * p + k)) M) := by
  refine PM_of (lv := [some (.ref (ad (6 + 10 * p))), some (.int (nI k))]) (by decide +kernel) rfl (Nat.le_of_ble_eq_true rfl) rfl ?_
  refine r_il1 (n := 1) dX2_find_0 rfl ?_
  refine r_if_lt (tgt := 21) (n := 4) dX2_find_1 (by decide) rfl (fun c_1 => ?_) (fun c_1 => ?_)
  · exact absurd c_1 (nI_pos (by omega))
  · refine r_il1 (n := 5) dX2_find_4 rfl ?_
    refine r_al0 (n := 6) dX2_find_5 rfl ?_
    refine g_st_smithyCount (n := 9) (by first | assumption | omega) in_X2_find_wsX20 k_X2_find_37 dX2_find_6 rfl ?_
    refine r_icmp_ge (tgt := 21) (n := 12) dX2_find_9 (by decide) rfl (fun c_9 => ?_) (fun c_9 => ?_)
    · exact absurd c_9 (by rw [hN]; exact nI_ge hk (by omega))
    · refine r_il1 (n := 13) dX2_find_12 rfl ?_
      refine r_al0 (n := 14) dX2_find_13 rfl ?_
      refine g_st_smithies (n := 17) (by first | assumption | omega) in_X2_find_wsX20 k_X2_find_11 dX2_find_14 rfl ?_
      refine a_lenSms (n := 18) (by first | assumption | omega) dX2_find_17 rfl ?_
      refine r_icmp_lt (tgt := 23) (n := 21) dX2_find_18 (by decide) rfl (fun c_18 => ?_) (fun c_18 => ?_)
      · refine r_al0 (n := 24) dX2_find_23 rfl ?_
        refine g_st_smithies (n := 27) (by first | assumption | omega) in_X2_find_wsX20 k_X2_find_11 dX2_find_24 rfl ?_
        refine r_il1 (n := 28) dX2_find_27 rfl ?_
        refine a_sms (n := 29) (by first | assumption | omega) rfl (by omega) dX2_find_28 rfl ?_
        exact e_a dX2_find_29 rfl rfl rfl
      · exact absurd c_18 (fun h => h (show nI k < nI 8 from nI_lt (by omega) (by omega)))

set_option maxHeartbeats 4000000 in
set_option maxRecDepth 100000 in
theorem m_X2_find_n {p : Nat} (hp : p < 6) {j : Int32} (hj : ¬ isSm (M.1 p) j) : C_X2_find cA ad D [.ref (ad (6 + 10 * p)), .int j] M (Rn M) := by
  refine PM_of (lv := [some (.ref (ad (6 + 10 * p))), some (.int j)]) (by decide +kernel) rfl (Nat.le_of_ble_eq_true rfl) rfl ?_
  refine r_il1 (n := 1) dX2_find_0 rfl ?_
  refine r_if_lt (tgt := 21) (n := 4) dX2_find_1 (by decide) rfl (fun c_1 => ?_) (fun c_1 => ?_)
  · refine r_null (n := 22) dX2_find_21 rfl ?_
    exact e_n dX2_find_22 rfl rfl
  · refine r_il1 (n := 5) dX2_find_4 rfl ?_
    refine r_al0 (n := 6) dX2_find_5 rfl ?_
    refine g_st_smithyCount (n := 9) (by first | assumption | omega) in_X2_find_wsX20 k_X2_find_37 dX2_find_6 rfl ?_
    refine r_icmp_ge (tgt := 21) (n := 12) dX2_find_9 (by decide) rfl (fun c_9 => ?_) (fun c_9 => ?_)
    · refine r_null (n := 22) dX2_find_21 rfl ?_
      exact e_n dX2_find_22 rfl rfl
    · exact absurd ⟨c_1, Int32.not_le.mp c_9⟩ hj

set_option maxHeartbeats 4000000 in
set_option maxRecDepth 100000 in
theorem m_X1_copyFrom {p k q i : Nat} (hp : p < 6) (hk : k < 8) (hq : q < 6) (hi : i < 8) (hpq : q ≠ p) : C_X1_copyFrom cA ad D [.ref (ad (8 + 10 * p + k)), .ref (ad (8 + 10 * q + i))] M (Rv (setp M p (upd (upd (upd (upd (upd (upd (upd (upd (M.1 p) (14 + 8 * k) (M.1 q (14 + 8 * i))) (14 + 8 * k + 1) (M.1 q (14 + 8 * i + 1))) (14 + 8 * k + 2) (M.1 q (14 + 8 * i + 2))) (14 + 8 * k + 3) (M.1 q (14 + 8 * i + 3))) (14 + 8 * k + 4) (M.1 q (14 + 8 * i + 4))) (14 + 8 * k + 5) (M.1 q (14 + 8 * i + 5))) (14 + 8 * k + 6) (M.1 q (14 + 8 * i + 6))) (14 + 8 * k + 7) (M.1 q (14 + 8 * i + 7))))) := by
  refine PM_of (lv := [some (.ref (ad (8 + 10 * p + k))), some (.ref (ad (8 + 10 * q + i)))]) (by decide +kernel) rfl (Nat.le_of_ble_eq_true rfl) rfl ?_
  refine r_al0 (n := 1) dX1_copyFrom_0 rfl ?_
  refine r_al1 (n := 2) dX1_copyFrom_1 rfl ?_
  refine g_sm_mile (n := 5) (by first | assumption | omega) (by first | assumption | omega) in_X1_copyFrom_wsX10 k_X1_copyFrom_9 dX1_copyFrom_2 rfl ?_
  refine p_sm_mile (n := 8) (by first | assumption | omega) (by first | assumption | omega) in_X1_copyFrom_wsX10 k_X1_copyFrom_9 dX1_copyFrom_5 rfl ?_
  refine r_al0 (n := 9) dX1_copyFrom_8 rfl ?_
  refine r_al1 (n := 10) dX1_copyFrom_9 rfl ?_
  refine g_sm_size (n := 13) (by first | assumption | omega) (by first | assumption | omega) in_X1_copyFrom_wsX10 k_X1_copyFrom_15 dX1_copyFrom_10 rfl ?_
  refine p_sm_size (n := 16) (by first | assumption | omega) (by first | assumption | omega) in_X1_copyFrom_wsX10 k_X1_copyFrom_15 dX1_copyFrom_13 rfl ?_
  refine r_al0 (n := 17) dX1_copyFrom_16 rfl ?_
  refine r_al1 (n := 18) dX1_copyFrom_17 rfl ?_
  refine g_sm_wear (n := 21) (by first | assumption | omega) (by first | assumption | omega) in_X1_copyFrom_wsX10 k_X1_copyFrom_18 dX1_copyFrom_18 rfl ?_
  refine p_sm_wear (n := 24) (by first | assumption | omega) (by first | assumption | omega) in_X1_copyFrom_wsX10 k_X1_copyFrom_18 dX1_copyFrom_21 rfl ?_
  refine r_al0 (n := 25) dX1_copyFrom_24 rfl ?_
  refine r_al1 (n := 26) dX1_copyFrom_25 rfl ?_
  refine g_sm_heat (n := 29) (by first | assumption | omega) (by first | assumption | omega) in_X1_copyFrom_wsX10 k_X1_copyFrom_21 dX1_copyFrom_26 rfl ?_
  refine p_sm_heat (n := 32) (by first | assumption | omega) (by first | assumption | omega) in_X1_copyFrom_wsX10 k_X1_copyFrom_21 dX1_copyFrom_29 rfl ?_
  refine r_al0 (n := 33) dX1_copyFrom_32 rfl ?_
  refine r_al1 (n := 34) dX1_copyFrom_33 rfl ?_
  refine g_sm_coldDays (n := 37) (by first | assumption | omega) (by first | assumption | omega) in_X1_copyFrom_wsX10 k_X1_copyFrom_24 dX1_copyFrom_34 rfl ?_
  refine p_sm_coldDays (n := 40) (by first | assumption | omega) (by first | assumption | omega) in_X1_copyFrom_wsX10 k_X1_copyFrom_24 dX1_copyFrom_37 rfl ?_
  refine r_al0 (n := 41) dX1_copyFrom_40 rfl ?_
  refine r_al1 (n := 42) dX1_copyFrom_41 rfl ?_
  refine g_sm_debt (n := 45) (by first | assumption | omega) (by first | assumption | omega) in_X1_copyFrom_wsX10 k_X1_copyFrom_27 dX1_copyFrom_42 rfl ?_
  refine p_sm_debt (n := 48) (by first | assumption | omega) (by first | assumption | omega) in_X1_copyFrom_wsX10 k_X1_copyFrom_27 dX1_copyFrom_45 rfl ?_
  refine r_al0 (n := 49) dX1_copyFrom_48 rfl ?_
  refine r_al1 (n := 50) dX1_copyFrom_49 rfl ?_
  refine g_sm_paid (n := 53) (by first | assumption | omega) (by first | assumption | omega) in_X1_copyFrom_wsX10 k_X1_copyFrom_30 dX1_copyFrom_50 rfl ?_
  refine p_sm_paid (n := 56) (by first | assumption | omega) (by first | assumption | omega) in_X1_copyFrom_wsX10 k_X1_copyFrom_30 dX1_copyFrom_53 rfl ?_
  refine r_al0 (n := 57) dX1_copyFrom_56 rfl ?_
  refine r_al1 (n := 58) dX1_copyFrom_57 rfl ?_
  refine g_sm_mends (n := 61) (by first | assumption | omega) (by first | assumption | omega) in_X1_copyFrom_wsX10 k_X1_copyFrom_33 dX1_copyFrom_58 rfl ?_
  refine p_sm_mends (n := 64) (by first | assumption | omega) (by first | assumption | omega) in_X1_copyFrom_wsX10 k_X1_copyFrom_33 dX1_copyFrom_61 rfl ?_
  exact e_v dX1_copyFrom_64 rfl (by simp only [mput_s, setp_at, setp_2, setp_ne _ _ hpq])

set_option maxHeartbeats 4000000 in
set_option maxRecDepth 100000 in
theorem m_X1_beginAt {p k : Nat} (hp : p < 6) (hk : k < 8) {v w : Int32} : C_X1_beginAt cA ad D [.ref (ad (8 + 10 * p + k)), .int v, .int w] M (Rv (setp M p (upd (upd (upd (upd (upd (upd (upd (upd (M.1 p) (14 + 8 * k) v) (14 + 8 * k + 1) w) (14 + 8 * k + 2) 0) (14 + 8 * k + 3) 100) (14 + 8 * k + 4) 0) (14 + 8 * k + 5) 0) (14 + 8 * k + 6) 0) (14 + 8 * k + 7) 0))) := by
  refine PM_of (lv := [some (.ref (ad (8 + 10 * p + k))), some (.int v), some (.int w)]) (by decide +kernel) rfl (Nat.le_of_ble_eq_true rfl) rfl ?_
  refine r_al0 (n := 1) dX1_beginAt_0 rfl ?_
  refine r_il1 (n := 2) dX1_beginAt_1 rfl ?_
  refine p_sm_mile (n := 5) (by first | assumption | omega) (by first | assumption | omega) in_X1_beginAt_wsX10 k_X1_beginAt_9 dX1_beginAt_2 rfl ?_
  refine r_al0 (n := 6) dX1_beginAt_5 rfl ?_
  refine r_il2 (n := 7) dX1_beginAt_6 rfl ?_
  refine p_sm_size (n := 10) (by first | assumption | omega) (by first | assumption | omega) in_X1_beginAt_wsX10 k_X1_beginAt_15 dX1_beginAt_7 rfl ?_
  refine r_al0 (n := 11) dX1_beginAt_10 rfl ?_
  refine r_iconst (v := 0) (n := 12) dX1_beginAt_11 (by decide) rfl ?_
  refine p_sm_wear (n := 15) (by first | assumption | omega) (by first | assumption | omega) in_X1_beginAt_wsX10 k_X1_beginAt_18 dX1_beginAt_12 rfl ?_
  refine r_al0 (n := 16) dX1_beginAt_15 rfl ?_
  refine r_bipush (v := 100) (n := 18) dX1_beginAt_16 (by decide) rfl ?_
  refine p_sm_heat (n := 21) (by first | assumption | omega) (by first | assumption | omega) in_X1_beginAt_wsX10 k_X1_beginAt_21 dX1_beginAt_18 rfl ?_
  refine r_al0 (n := 22) dX1_beginAt_21 rfl ?_
  refine r_iconst (v := 0) (n := 23) dX1_beginAt_22 (by decide) rfl ?_
  refine p_sm_coldDays (n := 26) (by first | assumption | omega) (by first | assumption | omega) in_X1_beginAt_wsX10 k_X1_beginAt_24 dX1_beginAt_23 rfl ?_
  refine r_al0 (n := 27) dX1_beginAt_26 rfl ?_
  refine r_iconst (v := 0) (n := 28) dX1_beginAt_27 (by decide) rfl ?_
  refine p_sm_debt (n := 31) (by first | assumption | omega) (by first | assumption | omega) in_X1_beginAt_wsX10 k_X1_beginAt_27 dX1_beginAt_28 rfl ?_
  refine r_al0 (n := 32) dX1_beginAt_31 rfl ?_
  refine r_iconst (v := 0) (n := 33) dX1_beginAt_32 (by decide) rfl ?_
  refine p_sm_paid (n := 36) (by first | assumption | omega) (by first | assumption | omega) in_X1_beginAt_wsX10 k_X1_beginAt_30 dX1_beginAt_33 rfl ?_
  refine r_al0 (n := 37) dX1_beginAt_36 rfl ?_
  refine r_iconst (v := 0) (n := 38) dX1_beginAt_37 (by decide) rfl ?_
  refine p_sm_mends (n := 41) (by first | assumption | omega) (by first | assumption | omega) in_X1_beginAt_wsX10 k_X1_beginAt_33 dX1_beginAt_38 rfl ?_
  exact e_v dX1_beginAt_41 rfl (by simp only [mput_s, setp_at, setp_2])

set_option maxHeartbeats 4000000 in
set_option maxRecDepth 100000 in
theorem l_X2_copyFrom {p q : Nat} (hp : p < 6) (hq : q < 6) (hpq : q ≠ p) {N : Nat} (hN : M.1 q 0 = nI N) (h8 : N ≤ 8) (v : Vec) : ∀ (m i : Nat), i + m = N →
    P_X2_copyFrom cA ad D 114 [some (.ref (ad (6 + 10 * p))), some (.ref (ad (6 + 10 * q))), some (.int (nI i)), none, none] [] (setp M p (copyU v (M.1 q) i)) (Rv (setp M p (copyU v (M.1 q) N))) := by
  have hc : ∀ i, copyU v (M.1 q) i 0 = nI N := fun i => by rw [show copyU v (M.1 q) i 0 = M.1 q 0 by simp [copyU]]; exact hN
  intro m
  induction m with
  | zero =>
    intro i hi
    have : i = N := by omega
    subst this
    refine r_il2 (n := 115) dX2_copyFrom_114 rfl ?_
    refine r_al0 (n := 116) dX2_copyFrom_115 rfl ?_
    refine g_st_smithyCount (n := 119) (by first | assumption | omega) in_X2_copyFrom_wsX20 k_X2_copyFrom_37 dX2_copyFrom_116 rfl ?_
    refine r_icmp_ge (tgt := 156) (n := 122) dX2_copyFrom_119 (by decide) rfl (fun c_119 => ?_) (fun c_119 => ?_)
    · exact e_v dX2_copyFrom_156 rfl rfl
    · exact absurd c_119 (fun h => h (by rw [setp_at, hc]; exact nI_le (Nat.le_refl _) (by omega)))
  | succ m ih =>
    intro i hi
    refine r_il2 (n := 115) dX2_copyFrom_114 rfl ?_
    refine r_al0 (n := 116) dX2_copyFrom_115 rfl ?_
    refine g_st_smithyCount (n := 119) (by first | assumption | omega) in_X2_copyFrom_wsX20 k_X2_copyFrom_37 dX2_copyFrom_116 rfl ?_
    refine r_icmp_ge (tgt := 156) (n := 122) dX2_copyFrom_119 (by decide) rfl (fun c_119 => ?_) (fun c_119 => ?_)
    · exact absurd c_119 (by rw [setp_at, hc]; exact nI_ge (by omega) (by omega))
    · refine r_al0 (n := 123) dX2_copyFrom_122 rfl ?_
      refine r_il2 (n := 124) dX2_copyFrom_123 rfl ?_
      refine cV_a (n := 127) (np := 1) (m_X2_find_s (N := N) (k := i) (by first | assumption | omega) (by rw [setp_at]; exact hc i) h8 (by omega)) gX2_copyFrom_X2_find rfl (by decide +kernel) rfl (by decide) (by decide) (by omega) (cell_st cA ad _ (by first | assumption | omega)) rfl dX2_copyFrom_124 rfl rfl (Nat.le_of_ble_eq_true rfl) ?_
      refine r_as3 (n := 128) (by decide) rfl dX2_copyFrom_127 rfl ?_
      refine r_al1 (n := 129) dX2_copyFrom_128 rfl ?_
      refine r_il2 (n := 130) dX2_copyFrom_129 rfl ?_
      refine cV_a (n := 133) (np := 1) (m_X2_find_s (N := N) (k := i) (by first | assumption | omega) (by rw [setp_ne _ _ hpq]; exact hN) h8 (by omega)) gX2_copyFrom_X2_find rfl (by decide +kernel) rfl (by decide) (by decide) (by omega) (cell_st cA ad _ (by first | assumption | omega)) rfl dX2_copyFrom_130 rfl rfl (Nat.le_of_ble_eq_true rfl) ?_
      refine r_as4 (n := 135) (by decide) rfl dX2_copyFrom_133 rfl ?_
      refine r_al3 (n := 136) dX2_copyFrom_135 rfl ?_
      refine r_ifnull (n := 139) dX2_copyFrom_136 rfl ?_
      refine r_al4 (n := 141) dX2_copyFrom_139 rfl ?_
      refine r_ifnull (n := 144) dX2_copyFrom_141 rfl ?_
      refine r_al3 (n := 145) dX2_copyFrom_144 rfl ?_
      refine r_al4 (n := 147) dX2_copyFrom_145 rfl ?_
      refine cV_v (n := 150) (np := 1) (m_X1_copyFrom (by first | assumption | omega) (by omega) (by first | assumption | omega) (by omega) hpq) gX2_copyFrom_X1_copyFrom rfl (by decide +kernel) rfl (by decide) (by decide) (by omega) (cell_sm cA ad _ (by first | assumption | omega) (by omega)) rfl dX2_copyFrom_147 rfl rfl (Nat.le_of_ble_eq_true rfl) ?_
      simp only [setp_at, setp_2, setp_ne _ _ hpq]
      rw [copyU_s]
      refine r_ii2 (n := 153) (by decide) rfl dX2_copyFrom_150 (nI_inc _) rfl ?_
      refine r_goto (tgt := 114) dX2_copyFrom_153 (by decide) ?_
      refine r_dr3 ?_
      refine r_dr4 ?_
      exact ih (i + 1) (by omega)

set_option maxHeartbeats 4000000 in
set_option maxRecDepth 100000 in
theorem m_X2_copyFrom {p q : Nat} (hp : p < 6) (hq : q < 6) (hpq : q ≠ p) {N : Nat} (hN : M.1 q 0 = nI N) (h8 : N ≤ 8) : C_X2_copyFrom cA ad D [.ref (ad (6 + 10 * p)), .ref (ad (6 + 10 * q))] M (Rv (setp M p (copyU (M.1 p) (M.1 q) N))) := by
  refine PM_of (lv := [some (.ref (ad (6 + 10 * p))), some (.ref (ad (6 + 10 * q))), none, none, none]) (by decide +kernel) rfl (Nat.le_of_ble_eq_true rfl) rfl ?_
  refine r_al0 (n := 1) dX2_copyFrom_0 rfl ?_
  refine r_al1 (n := 2) dX2_copyFrom_1 rfl ?_
  refine g_st_smithyCount (n := 5) (by first | assumption | omega) in_X2_copyFrom_wsX20 k_X2_copyFrom_37 dX2_copyFrom_2 rfl ?_
  refine p_st_smithyCount (n := 8) (by first | assumption | omega) in_X2_copyFrom_wsX20 k_X2_copyFrom_37 dX2_copyFrom_5 rfl ?_
  refine r_al0 (n := 9) dX2_copyFrom_8 rfl ?_
  refine r_al1 (n := 10) dX2_copyFrom_9 rfl ?_
  refine g_st_cold (n := 13) (by first | assumption | omega) in_X2_copyFrom_wsX20 k_X2_copyFrom_17 dX2_copyFrom_10 rfl ?_
  refine p_st_cold (n := 16) (by first | assumption | omega) in_X2_copyFrom_wsX20 k_X2_copyFrom_17 dX2_copyFrom_13 rfl ?_
  refine r_al0 (n := 17) dX2_copyFrom_16 rfl ?_
  refine r_al1 (n := 18) dX2_copyFrom_17 rfl ?_
  refine g_st_hours (n := 21) (by first | assumption | omega) in_X2_copyFrom_wsX20 k_X2_copyFrom_21 dX2_copyFrom_18 rfl ?_
  refine p_st_hours (n := 24) (by first | assumption | omega) in_X2_copyFrom_wsX20 k_X2_copyFrom_21 dX2_copyFrom_21 rfl ?_
  refine r_al0 (n := 25) dX2_copyFrom_24 rfl ?_
  refine r_al1 (n := 26) dX2_copyFrom_25 rfl ?_
  refine g_st_rate (n := 29) (by first | assumption | omega) in_X2_copyFrom_wsX20 k_X2_copyFrom_24 dX2_copyFrom_26 rfl ?_
  refine p_st_rate (n := 32) (by first | assumption | omega) in_X2_copyFrom_wsX20 k_X2_copyFrom_24 dX2_copyFrom_29 rfl ?_
  refine r_al0 (n := 33) dX2_copyFrom_32 rfl ?_
  refine r_al1 (n := 34) dX2_copyFrom_33 rfl ?_
  refine g_st_patience (n := 37) (by first | assumption | omega) in_X2_copyFrom_wsX20 k_X2_copyFrom_27 dX2_copyFrom_34 rfl ?_
  refine p_st_patience (n := 40) (by first | assumption | omega) in_X2_copyFrom_wsX20 k_X2_copyFrom_27 dX2_copyFrom_37 rfl ?_
  refine r_al0 (n := 41) dX2_copyFrom_40 rfl ?_
  refine r_al1 (n := 42) dX2_copyFrom_41 rfl ?_
  refine g_st_day (n := 45) (by first | assumption | omega) in_X2_copyFrom_wsX20 k_X2_copyFrom_40 dX2_copyFrom_42 rfl ?_
  refine p_st_day (n := 48) (by first | assumption | omega) in_X2_copyFrom_wsX20 k_X2_copyFrom_40 dX2_copyFrom_45 rfl ?_
  refine r_al0 (n := 49) dX2_copyFrom_48 rfl ?_
  refine r_al1 (n := 50) dX2_copyFrom_49 rfl ?_
  refine g_st_mile (n := 53) (by first | assumption | omega) in_X2_copyFrom_wsX20 k_X2_copyFrom_43 dX2_copyFrom_50 rfl ?_
  refine p_st_mile (n := 56) (by first | assumption | omega) in_X2_copyFrom_wsX20 k_X2_copyFrom_43 dX2_copyFrom_53 rfl ?_
  refine r_al0 (n := 57) dX2_copyFrom_56 rfl ?_
  refine r_al1 (n := 58) dX2_copyFrom_57 rfl ?_
  refine g_st_hoursLeft (n := 61) (by first | assumption | omega) in_X2_copyFrom_wsX20 k_X2_copyFrom_30 dX2_copyFrom_58 rfl ?_
  refine p_st_hoursLeft (n := 64) (by first | assumption | omega) in_X2_copyFrom_wsX20 k_X2_copyFrom_30 dX2_copyFrom_61 rfl ?_
  refine r_al0 (n := 65) dX2_copyFrom_64 rfl ?_
  refine r_al1 (n := 66) dX2_copyFrom_65 rfl ?_
  refine g_st_leather (n := 69) (by first | assumption | omega) in_X2_copyFrom_wsX20 k_X2_copyFrom_46 dX2_copyFrom_66 rfl ?_
  refine p_st_leather (n := 72) (by first | assumption | omega) in_X2_copyFrom_wsX20 k_X2_copyFrom_46 dX2_copyFrom_69 rfl ?_
  refine r_al0 (n := 73) dX2_copyFrom_72 rfl ?_
  refine r_al1 (n := 74) dX2_copyFrom_73 rfl ?_
  refine g_st_money (n := 77) (by first | assumption | omega) in_X2_copyFrom_wsX20 k_X2_copyFrom_33 dX2_copyFrom_74 rfl ?_
  refine p_st_money (n := 80) (by first | assumption | omega) in_X2_copyFrom_wsX20 k_X2_copyFrom_33 dX2_copyFrom_77 rfl ?_
  refine r_al0 (n := 81) dX2_copyFrom_80 rfl ?_
  refine r_al1 (n := 82) dX2_copyFrom_81 rfl ?_
  refine g_st_paidForLeather (n := 85) (by first | assumption | omega) in_X2_copyFrom_wsX20 k_X2_copyFrom_49 dX2_copyFrom_82 rfl ?_
  refine p_st_paidForLeather (n := 88) (by first | assumption | omega) in_X2_copyFrom_wsX20 k_X2_copyFrom_49 dX2_copyFrom_85 rfl ?_
  refine r_al0 (n := 89) dX2_copyFrom_88 rfl ?_
  refine r_al1 (n := 90) dX2_copyFrom_89 rfl ?_
  refine g_st_owedForMends (n := 93) (by first | assumption | omega) in_X2_copyFrom_wsX20 k_X2_copyFrom_52 dX2_copyFrom_90 rfl ?_
  refine p_st_owedForMends (n := 96) (by first | assumption | omega) in_X2_copyFrom_wsX20 k_X2_copyFrom_52 dX2_copyFrom_93 rfl ?_
  refine r_al0 (n := 97) dX2_copyFrom_96 rfl ?_
  refine r_al1 (n := 98) dX2_copyFrom_97 rfl ?_
  refine g_st_longestCold (n := 101) (by first | assumption | omega) in_X2_copyFrom_wsX20 k_X2_copyFrom_55 dX2_copyFrom_98 rfl ?_
  refine p_st_longestCold (n := 104) (by first | assumption | omega) in_X2_copyFrom_wsX20 k_X2_copyFrom_55 dX2_copyFrom_101 rfl ?_
  refine r_al0 (n := 105) dX2_copyFrom_104 rfl ?_
  refine r_al1 (n := 106) dX2_copyFrom_105 rfl ?_
  refine g_st_milesWalked (n := 109) (by first | assumption | omega) in_X2_copyFrom_wsX20 k_X2_copyFrom_58 dX2_copyFrom_106 rfl ?_
  refine p_st_milesWalked (n := 112) (by first | assumption | omega) in_X2_copyFrom_wsX20 k_X2_copyFrom_58 dX2_copyFrom_109 rfl ?_
  refine r_iconst (v := 0) (n := 113) dX2_copyFrom_112 (by decide) rfl ?_
  refine r_is2 (n := 114) (by decide) rfl dX2_copyFrom_113 rfl ?_
  simp only [mput_s, setp_at, setp_2, setp_ne _ _ hpq]
  rw [copyU_0]
  exact l_X2_copyFrom hp hq hpq hN h8 (M.1 p) N 0 (by omega)

set_option maxHeartbeats 4000000 in
set_option maxRecDepth 100000 in
theorem m_X2_walkTo {p : Nat} (hp : p < 6) {v : Int32} : C_X2_walkTo cA ad D [.ref (ad (6 + 10 * p)), .int v] M (Ri (walkS (M.1 p) v).1 (setp M p (walkS (M.1 p) v).2)) := by
  refine PM_of (lv := [some (.ref (ad (6 + 10 * p))), some (.int v), none]) (by decide +kernel) rfl (Nat.le_of_ble_eq_true rfl) rfl ?_
  refine r_il1 (n := 1) dX2_walkTo_0 rfl ?_
  refine r_if_lt (tgt := 10) (n := 4) dX2_walkTo_1 (by decide) rfl (fun c_1 => ?_) (fun c_1 => ?_)
  · refine r_ldc (n := 12) dX2_walkTo_10 k_X2_walkTo_69 rfl ?_
    exact e_i dX2_walkTo_12 rfl (by simp only [walkS, *, if_true, if_false, ite_true, ite_false]; try simp (disch := omega) only [mput_s, setp_at, setp_2, setp_r, upd_at, upd_ne]) (by simp only [walkS, *, if_true, if_false]; first | rw [setp_self] | (simp (disch := omega) only [mput_s, setp_at, setp_2, setp_r, upd_at, upd_ne]; rfl))
  · refine r_il1 (n := 5) dX2_walkTo_4 rfl ?_
    refine r_bipush (v := 99) (n := 7) dX2_walkTo_5 (by decide) rfl ?_
    refine r_icmp_le (tgt := 13) (n := 10) dX2_walkTo_7 (by decide) rfl (fun c_7 => ?_) (fun c_7 => ?_)
    · refine r_al0 (n := 14) dX2_walkTo_13 rfl ?_
      refine g_st_mile (n := 17) (by first | assumption | omega) in_X2_walkTo_wsX20 k_X2_walkTo_43 dX2_walkTo_14 rfl ?_
      refine r_il1 (n := 18) dX2_walkTo_17 rfl ?_
      refine cN_i (n := 21) (np := 2) (m_X3_hoursOfWay) gX2_walkTo_X3_hoursOfWay_n75 rfl (fun _ h => h.1) ki_X2_walkTo_X3_hoursOfWay ks_X2_walkTo_X3_hoursOfWay (by decide +kernel) rfl (by decide) (by decide) dX2_walkTo_18 rfl rfl (Nat.le_of_ble_eq_true rfl) ?_
      refine r_is2 (n := 22) (by decide) rfl dX2_walkTo_21 rfl ?_
      refine r_il2 (n := 23) dX2_walkTo_22 rfl ?_
      refine r_al0 (n := 24) dX2_walkTo_23 rfl ?_
      refine g_st_hoursLeft (n := 27) (by first | assumption | omega) in_X2_walkTo_wsX20 k_X2_walkTo_30 dX2_walkTo_24 rfl ?_
      refine r_icmp_le (tgt := 33) (n := 30) dX2_walkTo_27 (by decide) rfl (fun c_27 => ?_) (fun c_27 => ?_)
      · refine r_al0 (n := 34) dX2_walkTo_33 rfl ?_
        refine r_dup (n := 35) dX2_walkTo_34 rfl rfl ?_
        refine g_st_hoursLeft (n := 38) (by first | assumption | omega) in_X2_walkTo_wsX20 k_X2_walkTo_30 dX2_walkTo_35 rfl ?_
        refine r_il2 (n := 39) dX2_walkTo_38 rfl ?_
        refine r_isub (n := 40) dX2_walkTo_39 rfl ?_
        refine p_st_hoursLeft (n := 43) (by first | assumption | omega) in_X2_walkTo_wsX20 k_X2_walkTo_30 dX2_walkTo_40 rfl ?_
        refine r_al0 (n := 44) dX2_walkTo_43 rfl ?_
        refine r_dup (n := 45) dX2_walkTo_44 rfl rfl ?_
        refine g_st_milesWalked (n := 48) (by first | assumption | omega) in_X2_walkTo_wsX20 k_X2_walkTo_58 dX2_walkTo_45 rfl ?_
        refine r_il1 (n := 49) dX2_walkTo_48 rfl ?_
        refine r_al0 (n := 50) dX2_walkTo_49 rfl ?_
        refine g_st_mile (n := 53) (by first | assumption | omega) in_X2_walkTo_wsX20 k_X2_walkTo_43 dX2_walkTo_50 rfl ?_
        refine r_isub (n := 54) dX2_walkTo_53 rfl ?_
        refine r_mabs (n := 57) (by decide) k_X2_walkTo_80 ks_X2_walkTo_abs ki_X2_walkTo_math kc_X2_walkTo_abs (Nat.le_of_ble_eq_true rfl) dX2_walkTo_54 rfl ?_
        refine r_iadd (n := 58) dX2_walkTo_57 rfl ?_
        refine p_st_milesWalked (n := 61) (by first | assumption | omega) in_X2_walkTo_wsX20 k_X2_walkTo_58 dX2_walkTo_58 rfl ?_
        refine r_al0 (n := 62) dX2_walkTo_61 rfl ?_
        refine r_il1 (n := 63) dX2_walkTo_62 rfl ?_
        refine p_st_mile (n := 66) (by first | assumption | omega) in_X2_walkTo_wsX20 k_X2_walkTo_43 dX2_walkTo_63 rfl ?_
        refine r_al0 (n := 67) dX2_walkTo_66 rfl ?_
        refine g_st_hoursLeft (n := 70) (by first | assumption | omega) in_X2_walkTo_wsX20 k_X2_walkTo_30 dX2_walkTo_67 rfl ?_
        exact e_i dX2_walkTo_70 rfl (by simp only [walkS, *, if_true, if_false, ite_true, ite_false]; try simp (disch := omega) only [mput_s, setp_at, setp_2, setp_r, upd_at, upd_ne]) (by simp only [walkS, *, if_true, if_false]; first | rw [setp_self] | (simp (disch := omega) only [mput_s, setp_at, setp_2, setp_r, upd_at, upd_ne]; rfl))
      · refine r_ldc (n := 32) dX2_walkTo_30 k_X2_walkTo_79 rfl ?_
        exact e_i dX2_walkTo_32 rfl (by simp only [walkS, *, if_true, if_false, ite_true, ite_false]; try simp (disch := omega) only [mput_s, setp_at, setp_2, setp_r, upd_at, upd_ne]) (by simp only [walkS, *, if_true, if_false]; first | rw [setp_self] | (simp (disch := omega) only [mput_s, setp_at, setp_2, setp_r, upd_at, upd_ne]; rfl))
    · refine r_ldc (n := 12) dX2_walkTo_10 k_X2_walkTo_69 rfl ?_
      exact e_i dX2_walkTo_12 rfl (by simp only [walkS, *, if_true, if_false, ite_true, ite_false]; try simp (disch := omega) only [mput_s, setp_at, setp_2, setp_r, upd_at, upd_ne]) (by simp only [walkS, *, if_true, if_false]; first | rw [setp_self] | (simp (disch := omega) only [mput_s, setp_at, setp_2, setp_r, upd_at, upd_ne]; rfl))

set_option maxHeartbeats 4000000 in
set_option maxRecDepth 100000 in
theorem m_X2_buyLeather {p : Nat} (hp : p < 6) {v : Int32} : C_X2_buyLeather cA ad D [.ref (ad (6 + 10 * p)), .int v] M (Ri (buyS (M.1 p) v).1 (setp M p (buyS (M.1 p) v).2)) := by
  refine PM_of (lv := [some (.ref (ad (6 + 10 * p))), some (.int v), none]) (by decide +kernel) rfl (Nat.le_of_ble_eq_true rfl) rfl ?_
  refine r_il1 (n := 1) dX2_buyLeather_0 rfl ?_
  refine r_iconst (v := 1) (n := 2) dX2_buyLeather_1 (by decide) rfl ?_
  refine r_icmp_lt (tgt := 12) (n := 5) dX2_buyLeather_2 (by decide) rfl (fun c_2 => ?_) (fun c_2 => ?_)
  · refine r_ldc (n := 14) dX2_buyLeather_12 k_X2_buyLeather_69 rfl ?_
    exact e_i dX2_buyLeather_14 rfl (by simp only [buyS, *, if_true, if_false]; try simp (disch := omega) only [mput_s, setp_at, setp_2, setp_r, upd_at, upd_ne]) (by simp only [buyS, *, if_true, if_false]; first | rw [setp_self] | (simp (disch := omega) only [mput_s, setp_at, setp_2, setp_r, upd_at, upd_ne]; rfl))
  · refine r_il1 (n := 6) dX2_buyLeather_5 rfl ?_
    refine r_sipush (v := 999) (n := 9) dX2_buyLeather_6 (by decide) rfl ?_
    refine r_icmp_le (tgt := 15) (n := 12) dX2_buyLeather_9 (by decide) rfl (fun c_9 => ?_) (fun c_9 => ?_)
    · refine r_al0 (n := 16) dX2_buyLeather_15 rfl ?_
      refine g_st_mile (n := 19) (by first | assumption | omega) in_X2_buyLeather_wsX20 k_X2_buyLeather_43 dX2_buyLeather_16 rfl ?_
      refine r_if_eq (tgt := 25) (n := 22) dX2_buyLeather_19 (by decide) rfl (fun c_19 => ?_) (fun c_19 => ?_)
      · refine r_al0 (n := 26) dX2_buyLeather_25 rfl ?_
        refine g_st_leather (n := 29) (by first | assumption | omega) in_X2_buyLeather_wsX20 k_X2_buyLeather_46 dX2_buyLeather_26 rfl ?_
        refine r_il1 (n := 30) dX2_buyLeather_29 rfl ?_
        refine r_iadd (n := 31) dX2_buyLeather_30 rfl ?_
        refine r_sipush (v := 999) (n := 34) dX2_buyLeather_31 (by decide) rfl ?_
        refine r_icmp_le (tgt := 40) (n := 37) dX2_buyLeather_34 (by decide) rfl (fun c_34 => ?_) (fun c_34 => ?_)
        · refine r_iconst (v := 2) (n := 41) dX2_buyLeather_40 (by decide) rfl ?_
          refine r_il1 (n := 42) dX2_buyLeather_41 rfl ?_
          refine r_imul (n := 43) dX2_buyLeather_42 rfl ?_
          refine r_is2 (n := 44) (by decide) rfl dX2_buyLeather_43 rfl ?_
          refine r_al0 (n := 45) dX2_buyLeather_44 rfl ?_
          refine r_dup (n := 46) dX2_buyLeather_45 rfl rfl ?_
          refine g_st_leather (n := 49) (by first | assumption | omega) in_X2_buyLeather_wsX20 k_X2_buyLeather_46 dX2_buyLeather_46 rfl ?_
          refine r_il1 (n := 50) dX2_buyLeather_49 rfl ?_
          refine r_iadd (n := 51) dX2_buyLeather_50 rfl ?_
          refine p_st_leather (n := 54) (by first | assumption | omega) in_X2_buyLeather_wsX20 k_X2_buyLeather_46 dX2_buyLeather_51 rfl ?_
          refine r_al0 (n := 55) dX2_buyLeather_54 rfl ?_
          refine r_dup (n := 56) dX2_buyLeather_55 rfl rfl ?_
          refine g_st_money (n := 59) (by first | assumption | omega) in_X2_buyLeather_wsX20 k_X2_buyLeather_33 dX2_buyLeather_56 rfl ?_
          refine r_il2 (n := 60) dX2_buyLeather_59 rfl ?_
          refine r_isub (n := 61) dX2_buyLeather_60 rfl ?_
          refine p_st_money (n := 64) (by first | assumption | omega) in_X2_buyLeather_wsX20 k_X2_buyLeather_33 dX2_buyLeather_61 rfl ?_
          refine r_al0 (n := 65) dX2_buyLeather_64 rfl ?_
          refine r_dup (n := 66) dX2_buyLeather_65 rfl rfl ?_
          refine g_st_paidForLeather (n := 69) (by first | assumption | omega) in_X2_buyLeather_wsX20 k_X2_buyLeather_49 dX2_buyLeather_66 rfl ?_
          refine r_il2 (n := 70) dX2_buyLeather_69 rfl ?_
          refine r_iadd (n := 71) dX2_buyLeather_70 rfl ?_
          refine p_st_paidForLeather (n := 74) (by first | assumption | omega) in_X2_buyLeather_wsX20 k_X2_buyLeather_49 dX2_buyLeather_71 rfl ?_
          refine r_al0 (n := 75) dX2_buyLeather_74 rfl ?_
          refine g_st_leather (n := 78) (by first | assumption | omega) in_X2_buyLeather_wsX20 k_X2_buyLeather_46 dX2_buyLeather_75 rfl ?_
          exact e_i dX2_buyLeather_78 rfl (by simp only [buyS, *, if_true, if_false]; try simp (disch := omega) only [mput_s, setp_at, setp_2, setp_r, upd_at, upd_ne]) (by simp only [buyS, *, if_true, if_false]; first | rw [setp_self] | (simp (disch := omega) only [mput_s, setp_at, setp_2, setp_r, upd_at, upd_ne]; rfl))
        · refine r_ldc (n := 39) dX2_buyLeather_37 k_X2_buyLeather_70 rfl ?_
          exact e_i dX2_buyLeather_39 rfl (by simp only [buyS, *, if_true, if_false]; try simp (disch := omega) only [mput_s, setp_at, setp_2, setp_r, upd_at, upd_ne]) (by simp only [buyS, *, if_true, if_false]; first | rw [setp_self] | (simp (disch := omega) only [mput_s, setp_at, setp_2, setp_r, upd_at, upd_ne]; rfl))
      · refine r_ldc (n := 24) dX2_buyLeather_22 k_X2_buyLeather_79 rfl ?_
        exact e_i dX2_buyLeather_24 rfl (by simp only [buyS, *, if_true, if_false]; try simp (disch := omega) only [mput_s, setp_at, setp_2, setp_r, upd_at, upd_ne]) (by simp only [buyS, *, if_true, if_false]; first | rw [setp_self] | (simp (disch := omega) only [mput_s, setp_at, setp_2, setp_r, upd_at, upd_ne]; rfl))
    · refine r_ldc (n := 14) dX2_buyLeather_12 k_X2_buyLeather_69 rfl ?_
      exact e_i dX2_buyLeather_14 rfl (by simp only [buyS, *, if_true, if_false]; try simp (disch := omega) only [mput_s, setp_at, setp_2, setp_r, upd_at, upd_ne]) (by simp only [buyS, *, if_true, if_false]; first | rw [setp_self] | (simp (disch := omega) only [mput_s, setp_at, setp_2, setp_r, upd_at, upd_ne]; rfl))

end STATES

