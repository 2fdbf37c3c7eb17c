/-! ===== the object: what is asked ===== -/
section BR2
variable {cA : Nat → ClassId} {ad : Nat → Nat} {D : va_G} {M : Mem}
set_option maxHeartbeats 4000000 in
set_option maxRecDepth 100000 in
theorem m_X3_smithyOf_n (hr : ∀ i, i < 6 → M.2 i < 6) {j : Int32} (hj : ¬ isSm (M.1 (M.2 0)) j) {w : Int32} : C_X3_smithyOf cA ad D [.ref (ad 0), .int j, .int w] M (Ri IA M) := by
  refine PM_of (lv := [some (.ref (ad 0)), some (.int j), some (.int w), none]) (by decide +kernel) rfl (Nat.le_of_ble_eq_true rfl) rfl ?_
  have hq0 := hr 0 (by decide)
  refine r_al0 (n := 1) dX3_smithyOf_0 rfl ?_
  refine g_br_now (n := 4)  in_X3_smithyOf_wsX30 k_X3_smithyOf_12 dX3_smithyOf_1 rfl ?_
  refine r_il1 (n := 5) dX3_smithyOf_4 rfl ?_
  refine cV_n (n := 8) (np := 1) (m_X2_find_n (hr _ (by decide)) hj) gX3_smithyOf_X2_find rfl (by decide +kernel) rfl (by decide) (by decide) (by omega) (cell_st cA ad _ (by first | assumption | omega | exact hr _ (by omega))) rfl dX3_smithyOf_5 rfl rfl (Nat.le_of_ble_eq_true rfl) ?_
  refine r_as3N (n := 9) (by decide) rfl dX3_smithyOf_8 rfl ?_
  refine r_al3N (n := 10) dX3_smithyOf_9 rfl ?_
  refine r_ifnonnullN (n := 13) dX3_smithyOf_10 rfl ?_
  refine r_ldc (n := 15) dX3_smithyOf_13 k_X3_smithyOf_65 rfl ?_
  exact e_i dX3_smithyOf_15 rfl rfl rfl

set_option maxHeartbeats 4000000 in
set_option maxRecDepth 100000 in
theorem m_X3_smithyOf_s (hr : ∀ i, i < 6 → M.2 i < 6) {N : Nat} (hN : M.1 (M.2 0) 0 = nI N) (h8 : N ≤ 8) {k : Nat} (hk : k < N) {w : Int32} : C_X3_smithyOf cA ad D [.ref (ad 0), .int (nI k), .int w] M (Ri (smoS (M.1 (M.2 0)) k w) M) := by
  refine PM_of (lv := [some (.ref (ad 0)), some (.int (nI k)), some (.int w), none]) (by decide +kernel) rfl (Nat.le_of_ble_eq_true rfl) rfl ?_
  have hq0 := hr 0 (by decide)
  refine r_al0 (n := 1) dX3_smithyOf_0 rfl ?_
  refine g_br_now (n := 4)  in_X3_smithyOf_wsX30 k_X3_smithyOf_12 dX3_smithyOf_1 rfl ?_
  refine r_il1 (n := 5) dX3_smithyOf_4 rfl ?_
  refine cV_a (n := 8) (np := 1) (m_X2_find_s (N := N) (k := k) (hr _ (by decide)) hN h8 hk) gX3_smithyOf_X2_find rfl (by decide +kernel) rfl (by decide) (by decide) (by omega) (cell_st cA ad _ (by first | assumption | omega | exact hr _ (by omega))) rfl dX3_smithyOf_5 rfl rfl (Nat.le_of_ble_eq_true rfl) ?_
  refine r_as3 (n := 9) (by decide) rfl dX3_smithyOf_8 rfl ?_
  refine r_al3 (n := 10) dX3_smithyOf_9 rfl ?_
  refine r_ifnonnull (tgt := 16) dX3_smithyOf_10 (by decide) ?_
  refine r_il2 (n := 17) dX3_smithyOf_16 rfl ?_
  by_cases h_0 : w = 0
  · subst h_0
    refine r_tableIn (tgt := 76) dX3_smithyOf_17 (by decide) (by decide) rfl (by decide) ?_
    refine r_al3 (n := 77) dX3_smithyOf_76 rfl ?_
    refine g_sm_mile (n := 80) (by first | assumption | omega | exact hr _ (by omega)) (by first | assumption | omega | exact hr _ (by omega)) in_X3_smithyOf_wsX10 k_X3_smithyOf_66 dX3_smithyOf_77 rfl ?_
    exact e_i dX3_smithyOf_80 rfl (by simp_all [smoS]) rfl
  by_cases h_1 : w = 1
  · subst h_1
    refine r_tableIn (tgt := 81) dX3_smithyOf_17 (by decide) (by decide) rfl (by decide) ?_
    refine r_al3 (n := 82) dX3_smithyOf_81 rfl ?_
    refine g_sm_size (n := 85) (by first | assumption | omega | exact hr _ (by omega)) (by first | assumption | omega | exact hr _ (by omega)) in_X3_smithyOf_wsX10 k_X3_smithyOf_72 dX3_smithyOf_82 rfl ?_
    exact e_i dX3_smithyOf_85 rfl (by simp_all [smoS]) rfl
  by_cases h_2 : w = 2
  · subst h_2
    refine r_tableIn (tgt := 86) dX3_smithyOf_17 (by decide) (by decide) rfl (by decide) ?_
    refine r_al3 (n := 87) dX3_smithyOf_86 rfl ?_
    refine g_sm_wear (n := 90) (by first | assumption | omega | exact hr _ (by omega)) (by first | assumption | omega | exact hr _ (by omega)) in_X3_smithyOf_wsX10 k_X3_smithyOf_75 dX3_smithyOf_87 rfl ?_
    exact e_i dX3_smithyOf_90 rfl (by simp_all [smoS]) rfl
  by_cases h_3 : w = 3
  · subst h_3
    refine r_tableIn (tgt := 91) dX3_smithyOf_17 (by decide) (by decide) rfl (by decide) ?_
    refine r_al3 (n := 92) dX3_smithyOf_91 rfl ?_
    refine g_sm_wear (n := 95) (by first | assumption | omega | exact hr _ (by omega)) (by first | assumption | omega | exact hr _ (by omega)) in_X3_smithyOf_wsX10 k_X3_smithyOf_75 dX3_smithyOf_92 rfl ?_
    refine cS_i (n := 98) (np := 1) (m_X3_leakOf) gX3_smithyOf_X3_leakOf rfl (by decide +kernel) rfl (by decide) (by decide) dX3_smithyOf_95 rfl rfl (Nat.le_of_ble_eq_true rfl) ?_
    exact e_i dX3_smithyOf_98 rfl (by simp_all [smoS]) rfl
  by_cases h_4 : w = 4
  · subst h_4
    refine r_tableIn (tgt := 99) dX3_smithyOf_17 (by decide) (by decide) rfl (by decide) ?_
    refine r_al3 (n := 100) dX3_smithyOf_99 rfl ?_
    refine g_sm_heat (n := 103) (by first | assumption | omega | exact hr _ (by omega)) (by first | assumption | omega | exact hr _ (by omega)) in_X3_smithyOf_wsX10 k_X3_smithyOf_81 dX3_smithyOf_100 rfl ?_
    exact e_i dX3_smithyOf_103 rfl (by simp_all [smoS]) rfl
  by_cases h_5 : w = 5
  · subst h_5
    refine r_tableIn (tgt := 104) dX3_smithyOf_17 (by decide) (by decide) rfl (by decide) ?_
    refine r_al0 (n := 105) dX3_smithyOf_104 rfl ?_
    refine g_br_now (n := 108)  in_X3_smithyOf_wsX30 k_X3_smithyOf_12 dX3_smithyOf_105 rfl ?_
    refine r_al3 (n := 109) dX3_smithyOf_108 rfl ?_
    refine g_sm_heat (n := 112) (by first | assumption | omega | exact hr _ (by omega)) (by first | assumption | omega | exact hr _ (by omega)) in_X3_smithyOf_wsX10 k_X3_smithyOf_81 dX3_smithyOf_109 rfl ?_
    refine cV_i (n := 115) (np := 1) (m_X2_isCold (hr _ (by decide))) gX3_smithyOf_X2_isCold rfl (by decide +kernel) rfl (by decide) (by decide) (by omega) (cell_st cA ad _ (by first | assumption | omega | exact hr _ (by omega))) rfl dX3_smithyOf_112 rfl rfl (Nat.le_of_ble_eq_true rfl) ?_
    refine r_if_eq (tgt := 122) (n := 118) dX3_smithyOf_115 (by decide) rfl (fun c_115 => ?_) (fun c_115 => ?_)
    · try replace c_115 := i10 c_115
      refine r_iconst (v := 0) (n := 123) dX3_smithyOf_122 (by decide) rfl ?_
      exact e_i dX3_smithyOf_123 rfl (by simp_all [smoS]) rfl
    · try replace c_115 := i11 c_115
      refine r_iconst (v := 1) (n := 119) dX3_smithyOf_118 (by decide) rfl ?_
      refine r_goto (tgt := 123) dX3_smithyOf_119 (by decide) ?_
      exact e_i dX3_smithyOf_123 rfl (by simp_all [smoS]) rfl
  by_cases h_6 : w = 6
  · subst h_6
    refine r_tableIn (tgt := 124) dX3_smithyOf_17 (by decide) (by decide) rfl (by decide) ?_
    refine r_al3 (n := 125) dX3_smithyOf_124 rfl ?_
    refine g_sm_coldDays (n := 128) (by first | assumption | omega | exact hr _ (by omega)) (by first | assumption | omega | exact hr _ (by omega)) in_X3_smithyOf_wsX10 k_X3_smithyOf_88 dX3_smithyOf_125 rfl ?_
    exact e_i dX3_smithyOf_128 rfl (by simp_all [smoS]) rfl
  by_cases h_7 : w = 7
  · subst h_7
    refine r_tableIn (tgt := 129) dX3_smithyOf_17 (by decide) (by decide) rfl (by decide) ?_
    refine r_al3 (n := 130) dX3_smithyOf_129 rfl ?_
    refine g_sm_debt (n := 133) (by first | assumption | omega | exact hr _ (by omega)) (by first | assumption | omega | exact hr _ (by omega)) in_X3_smithyOf_wsX10 k_X3_smithyOf_91 dX3_smithyOf_130 rfl ?_
    exact e_i dX3_smithyOf_133 rfl (by simp_all [smoS]) rfl
  by_cases h_8 : w = 8
  · subst h_8
    refine r_tableIn (tgt := 134) dX3_smithyOf_17 (by decide) (by decide) rfl (by decide) ?_
    refine r_al3 (n := 135) dX3_smithyOf_134 rfl ?_
    refine g_sm_paid (n := 138) (by first | assumption | omega | exact hr _ (by omega)) (by first | assumption | omega | exact hr _ (by omega)) in_X3_smithyOf_wsX10 k_X3_smithyOf_94 dX3_smithyOf_135 rfl ?_
    exact e_i dX3_smithyOf_138 rfl (by simp_all [smoS]) rfl
  by_cases h_9 : w = 9
  · subst h_9
    refine r_tableIn (tgt := 139) dX3_smithyOf_17 (by decide) (by decide) rfl (by decide) ?_
    refine r_al3 (n := 140) dX3_smithyOf_139 rfl ?_
    refine g_sm_mends (n := 143) (by first | assumption | omega | exact hr _ (by omega)) (by first | assumption | omega | exact hr _ (by omega)) in_X3_smithyOf_wsX10 k_X3_smithyOf_97 dX3_smithyOf_140 rfl ?_
    exact e_i dX3_smithyOf_143 rfl (by simp_all [smoS]) rfl
  by_cases h_10 : w = 10
  · subst h_10
    refine r_tableIn (tgt := 144) dX3_smithyOf_17 (by decide) (by decide) rfl (by decide) ?_
    refine r_al0 (n := 145) dX3_smithyOf_144 rfl ?_
    refine g_br_now (n := 148)  in_X3_smithyOf_wsX30 k_X3_smithyOf_12 dX3_smithyOf_145 rfl ?_
    refine g_st_mile (n := 151) (by first | assumption | omega | exact hr _ (by omega)) in_X3_smithyOf_wsX20 k_X3_smithyOf_100 dX3_smithyOf_148 rfl ?_
    refine r_al3 (n := 152) dX3_smithyOf_151 rfl ?_
    refine g_sm_mile (n := 155) (by first | assumption | omega | exact hr _ (by omega)) (by first | assumption | omega | exact hr _ (by omega)) in_X3_smithyOf_wsX10 k_X3_smithyOf_66 dX3_smithyOf_152 rfl ?_
    refine cS_i (n := 158) (np := 2) (m_X3_hoursOfWay) gX3_smithyOf_X3_hoursOfWay rfl (by decide +kernel) rfl (by decide) (by decide) dX3_smithyOf_155 rfl rfl (Nat.le_of_ble_eq_true rfl) ?_
    exact e_i dX3_smithyOf_158 rfl (by simp_all [smoS]) rfl
  refine r_tableOut (tgt := 159) dX3_smithyOf_17 (sw_out (lo := 0) (hi := 10) (by decide) (by decide) (fun k h1 h2 => by
    have hk : k = 0 ∨ k = 1 ∨ k = 2 ∨ k = 3 ∨ k = 4 ∨ k = 5 ∨ k = 6 ∨ k = 7 ∨ k = 8 ∨ k = 9 ∨ k = 10 := by omega
    rcases hk with rfl | rfl | rfl | rfl | rfl | rfl | rfl | rfl | rfl | rfl | rfl
    · exact h_0
    · exact h_1
    · exact h_2
    · exact h_3
    · exact h_4
    · exact h_5
    · exact h_6
    · exact h_7
    · exact h_8
    · exact h_9
    · exact h_10
    )) (by decide) ?_
  refine r_ldc (n := 161) dX3_smithyOf_159 k_X3_smithyOf_65 rfl ?_
  exact e_i dX3_smithyOf_161 rfl (by simp_all [smoS]) rfl

set_option maxHeartbeats 4000000 in
set_option maxRecDepth 100000 in
theorem m_X3_why_n (hr : ∀ i, i < 6 → M.2 i < 6) {j : Int32} (hj : ¬ isSm (M.1 (M.2 0)) j) {w : Int32} : C_X3_why cA ad D [.ref (ad 0), .int j, .int w] M (Ri IA M) := by
  refine PM_of (lv := [some (.ref (ad 0)), some (.int j), some (.int w), none]) (by decide +kernel) rfl (Nat.le_of_ble_eq_true rfl) rfl ?_
  have hq0 := hr 0 (by decide)
  refine r_al0 (n := 1) dX3_why_0 rfl ?_
  refine g_br_now (n := 4)  in_X3_why_wsX30 k_X3_why_12 dX3_why_1 rfl ?_
  refine r_il1 (n := 5) dX3_why_4 rfl ?_
  refine cV_n (n := 8) (np := 1) (m_X2_find_n (hr _ (by decide)) hj) gX3_why_X2_find rfl (by decide +kernel) rfl (by decide) (by decide) (by omega) (cell_st cA ad _ (by first | assumption | omega | exact hr _ (by omega))) rfl dX3_why_5 rfl rfl (Nat.le_of_ble_eq_true rfl) ?_
  refine r_as3N (n := 9) (by decide) rfl dX3_why_8 rfl ?_
  refine r_al3N (n := 10) dX3_why_9 rfl ?_
  refine r_ifnullN (tgt := 20) dX3_why_10 (by decide) ?_
  refine r_ldc (n := 22) dX3_why_20 k_X3_why_65 rfl ?_
  exact e_i dX3_why_22 rfl rfl rfl

set_option maxHeartbeats 4000000 in
set_option maxRecDepth 100000 in
theorem m_X3_why_s (hr : ∀ i, i < 6 → M.2 i < 6) {N : Nat} (hN : M.1 (M.2 0) 0 = nI N) (h8 : N ≤ 8) {k : Nat} (hk : k < N) {w : Int32} : C_X3_why cA ad D [.ref (ad 0), .int (nI k), .int w] M (Ri (whyS (M.1 (M.2 0)) k w) M) := by
  refine PM_of (lv := [some (.ref (ad 0)), some (.int (nI k)), some (.int w), none]) (by decide +kernel) rfl (Nat.le_of_ble_eq_true rfl) rfl ?_
  have hq0 := hr 0 (by decide)
  refine r_al0 (n := 1) dX3_why_0 rfl ?_
  refine g_br_now (n := 4)  in_X3_why_wsX30 k_X3_why_12 dX3_why_1 rfl ?_
  refine r_il1 (n := 5) dX3_why_4 rfl ?_
  refine cV_a (n := 8) (np := 1) (m_X2_find_s (N := N) (k := k) (hr _ (by decide)) hN h8 hk) gX3_why_X2_find rfl (by decide +kernel) rfl (by decide) (by decide) (by omega) (cell_st cA ad _ (by first | assumption | omega | exact hr _ (by omega))) rfl dX3_why_5 rfl rfl (Nat.le_of_ble_eq_true rfl) ?_
  refine r_as3 (n := 9) (by decide) rfl dX3_why_8 rfl ?_
  refine r_al3 (n := 10) dX3_why_9 rfl ?_
  refine r_ifnull (n := 13) dX3_why_10 rfl ?_
  refine r_il2 (n := 14) dX3_why_13 rfl ?_
  refine cS_i (n := 17) (np := 1) (m_X3_isFlag) gX3_why_X3_isFlag rfl (by decide +kernel) rfl (by decide) (by decide) dX3_why_14 rfl rfl (Nat.le_of_ble_eq_true rfl) ?_
  refine r_if_ne (tgt := 23) (n := 20) dX3_why_17 (by decide) rfl (fun c_17 => ?_) (fun c_17 => ?_)
  · replace c_17 := i11 c_17
    refine r_al0 (n := 24) dX3_why_23 rfl ?_
    refine g_br_now (n := 27)  in_X3_why_wsX30 k_X3_why_12 dX3_why_24 rfl ?_
    refine r_al3 (n := 28) dX3_why_27 rfl ?_
    refine r_il2 (n := 29) dX3_why_28 rfl ?_
    refine r_iconst (v := 1) (n := 30) dX3_why_29 (by decide) rfl ?_
    refine r_icmp_ne (tgt := 37) (n := 33) dX3_why_30 (by decide) rfl (fun c_30 => ?_) (fun c_30 => ?_)
    · have hw : w = 0 := c_17.resolve_right c_30
      subst hw
      refine r_iconst (v := 0) (n := 38) dX3_why_37 (by decide) rfl ?_
      refine cV_i (n := 41) (np := 2) (m_X2_reasonAgainst (hr _ (by decide)) (by omega) false) gX3_why_X2_reasonAgainst rfl (by decide +kernel) rfl (by decide) (by decide) (by omega) (cell_st cA ad _ (by first | assumption | omega | exact hr _ (by omega))) rfl dX3_why_38 rfl rfl (Nat.le_of_ble_eq_true rfl) ?_
      exact e_i dX3_why_41 rfl (by simp [whyS]) rfl
    · subst c_30
      refine r_iconst (v := 1) (n := 34) dX3_why_33 (by decide) rfl ?_
      refine r_goto (tgt := 38) dX3_why_34 (by decide) ?_
      refine cV_i (n := 41) (np := 2) (m_X2_reasonAgainst (hr _ (by decide)) (by omega) true) gX3_why_X2_reasonAgainst rfl (by decide +kernel) rfl (by decide) (by decide) (by omega) (cell_st cA ad _ (by first | assumption | omega | exact hr _ (by omega))) rfl dX3_why_38 rfl rfl (Nat.le_of_ble_eq_true rfl) ?_
      exact e_i dX3_why_41 rfl (by simp [whyS]) rfl
  · replace c_17 := i10 c_17
    rw [not_or] at c_17
    refine r_ldc (n := 22) dX3_why_20 k_X3_why_65 rfl ?_
    exact e_i dX3_why_22 rfl (by simp only [whyS, if_neg c_17.1, if_neg c_17.2]) rfl

set_option maxHeartbeats 4000000 in
set_option maxRecDepth 100000 in
theorem m_X3_mend_n (hr : ∀ i, i < 6 → M.2 i < 6) {j : Int32} (hj : ¬ isSm (M.1 (M.2 0)) j) {w x : Int32} : C_X3_mend cA ad D [.ref (ad 0), .int j, .int w, .int x] M (Ri IA M) := by
  refine PM_of (lv := [some (.ref (ad 0)), some (.int j), some (.int w), some (.int x), none, none]) (by decide +kernel) rfl (Nat.le_of_ble_eq_true rfl) rfl ?_
  have hq0 := hr 0 (by decide)
  refine r_al0 (n := 1) dX3_mend_0 rfl ?_
  refine g_br_now (n := 4)  in_X3_mend_wsX30 k_X3_mend_12 dX3_mend_1 rfl ?_
  refine r_il1 (n := 5) dX3_mend_4 rfl ?_
  refine cV_n (n := 8) (np := 1) (m_X2_find_n (hr _ (by decide)) hj) gX3_mend_X2_find rfl (by decide +kernel) rfl (by decide) (by decide) (by omega) (cell_st cA ad _ (by first | assumption | omega | exact hr _ (by omega))) rfl dX3_mend_5 rfl rfl (Nat.le_of_ble_eq_true rfl) ?_
  refine r_astoreN4 (n := 10) (by decide) rfl dX3_mend_8 rfl ?_
  refine r_aloadN4 (n := 12) dX3_mend_10 rfl ?_
  refine r_ifnullN (tgt := 22) dX3_mend_12 (by decide) ?_
  refine r_ldc (n := 24) dX3_mend_22 k_X3_mend_65 rfl ?_
  exact e_i dX3_mend_24 rfl rfl rfl

set_option maxHeartbeats 4000000 in
set_option maxRecDepth 100000 in
theorem m_X3_mend_s (hr : ∀ i, i < 6 → M.2 i < 6) {N : Nat} (hN : M.1 (M.2 0) 0 = nI N) (h8 : N ≤ 8) {k : Nat} (hk : k < N) {w x : Int32} : C_X3_mend cA ad D [.ref (ad 0), .int (nI k), .int w, .int x] M (Ri (mndS (M.1 (M.2 0)) k w x) M) := by
  refine PM_of (lv := [some (.ref (ad 0)), some (.int (nI k)), some (.int w), some (.int x), none, none]) (by decide +kernel) rfl (Nat.le_of_ble_eq_true rfl) rfl ?_
  have hq0 := hr 0 (by decide)
  refine r_al0 (n := 1) dX3_mend_0 rfl ?_
  refine g_br_now (n := 4)  in_X3_mend_wsX30 k_X3_mend_12 dX3_mend_1 rfl ?_
  refine r_il1 (n := 5) dX3_mend_4 rfl ?_
  refine cV_a (n := 8) (np := 1) (m_X2_find_s (N := N) (k := k) (hr _ (by decide)) hN h8 hk) gX3_mend_X2_find rfl (by decide +kernel) rfl (by decide) (by decide) (by omega) (cell_st cA ad _ (by first | assumption | omega | exact hr _ (by omega))) rfl dX3_mend_5 rfl rfl (Nat.le_of_ble_eq_true rfl) ?_
  refine r_as4 (n := 10) (by decide) rfl dX3_mend_8 rfl ?_
  refine r_al4 (n := 12) dX3_mend_10 rfl ?_
  refine r_ifnull (n := 15) dX3_mend_12 rfl ?_
  refine r_il2 (n := 16) dX3_mend_15 rfl ?_
  refine cS_i (n := 19) (np := 1) (m_X3_isFlag) gX3_mend_X3_isFlag rfl (by decide +kernel) rfl (by decide) (by decide) dX3_mend_16 rfl rfl (Nat.le_of_ble_eq_true rfl) ?_
  refine r_if_ne (tgt := 25) (n := 22) dX3_mend_19 (by decide) rfl (fun c_19 => ?_) (fun c_19 => ?_)
  · replace c_19 := i11 c_19
    refine r_il2 (n := 26) dX3_mend_25 rfl ?_
    refine r_iconst (v := 1) (n := 27) dX3_mend_26 (by decide) rfl ?_
    refine r_icmp_ne (tgt := 34) (n := 30) dX3_mend_27 (by decide) rfl (fun c_27 => ?_) (fun c_27 => ?_)
    · have hw : w = 0 := c_19.resolve_right c_27
      subst hw
      refine r_iconst (v := 0) (n := 35) dX3_mend_34 (by decide) rfl ?_
      refine r_is5 (n := 37) (by decide) rfl dX3_mend_35 rfl ?_
      refine r_il3 (n := 38) dX3_mend_37 rfl ?_
      by_cases h_0 : x = 0
      · subst h_0
        refine r_tableIn (tgt := 68) dX3_mend_38 (by decide) (by decide) rfl (by decide) ?_
        refine r_il5 (n := 70) dX3_mend_68 rfl ?_
        refine cS_i (n := 73) (np := 1) (m_X3_hoursOfMend false) gX3_mend_X3_hoursOfMend rfl (by decide +kernel) rfl (by decide) (by decide) dX3_mend_70 rfl rfl (Nat.le_of_ble_eq_true rfl) ?_
        exact e_i dX3_mend_73 rfl (by simp_all [mndS, mndB]) rfl
      by_cases h_1 : x = 1
      · subst h_1
        refine r_tableIn (tgt := 74) dX3_mend_38 (by decide) (by decide) rfl (by decide) ?_
        refine r_al4 (n := 76) dX3_mend_74 rfl ?_
        refine r_il5 (n := 78) dX3_mend_76 rfl ?_
        refine cV_i (n := 81) (np := 1) (m_X1_leatherOfMend (hr _ (by decide)) (by omega) false) gX3_mend_X1_leatherOfMend rfl (by decide +kernel) rfl (by decide) (by decide) (by omega) (cell_sm cA ad _ (by first | assumption | omega | exact hr _ (by omega)) (by first | assumption | omega | exact hr _ (by omega))) rfl dX3_mend_78 rfl rfl (Nat.le_of_ble_eq_true rfl) ?_
        exact e_i dX3_mend_81 rfl (by simp_all [mndS, mndB]) rfl
      by_cases h_2 : x = 2
      · subst h_2
        refine r_tableIn (tgt := 82) dX3_mend_38 (by decide) (by decide) rfl (by decide) ?_
        refine r_al0 (n := 83) dX3_mend_82 rfl ?_
        refine g_br_now (n := 86)  in_X3_mend_wsX30 k_X3_mend_12 dX3_mend_83 rfl ?_
        refine r_al4 (n := 88) dX3_mend_86 rfl ?_
        refine r_il5 (n := 90) dX3_mend_88 rfl ?_
        refine cV_i (n := 93) (np := 2) (m_X2_priceOfMend (hr _ (by decide)) (by omega) false) gX3_mend_X2_priceOfMend rfl (by decide +kernel) rfl (by decide) (by decide) (by omega) (cell_st cA ad _ (by first | assumption | omega | exact hr _ (by omega))) rfl dX3_mend_90 rfl rfl (Nat.le_of_ble_eq_true rfl) ?_
        exact e_i dX3_mend_93 rfl (by simp_all [mndS, mndB]) rfl
      by_cases h_3 : x = 3
      · subst h_3
        refine r_tableIn (tgt := 94) dX3_mend_38 (by decide) (by decide) rfl (by decide) ?_
        refine r_al4 (n := 96) dX3_mend_94 rfl ?_
        refine r_il5 (n := 98) dX3_mend_96 rfl ?_
        refine cV_i (n := 101) (np := 1) (m_X1_wearBehindMend (hr _ (by decide)) (by omega) false) gX3_mend_X1_wearBehindMend rfl (by decide +kernel) rfl (by decide) (by decide) (by omega) (cell_sm cA ad _ (by first | assumption | omega | exact hr _ (by omega)) (by first | assumption | omega | exact hr _ (by omega))) rfl dX3_mend_98 rfl rfl (Nat.le_of_ble_eq_true rfl) ?_
        exact e_i dX3_mend_101 rfl (by simp_all [mndS, mndB]) rfl
      refine r_tableOut (tgt := 102) dX3_mend_38 (sw_out (lo := 0) (hi := 3) (by decide) (by decide) (fun k h1 h2 => by
        have hk : k = 0 ∨ k = 1 ∨ k = 2 ∨ k = 3 := by omega
        rcases hk with rfl | rfl | rfl | rfl
        · exact h_0
        · exact h_1
        · exact h_2
        · exact h_3
        )) (by decide) ?_
      refine r_ldc (n := 104) dX3_mend_102 k_X3_mend_65 rfl ?_
      exact e_i dX3_mend_104 rfl (by simp_all [mndS, mndB]) rfl
    · subst c_27
      refine r_iconst (v := 1) (n := 31) dX3_mend_30 (by decide) rfl ?_
      refine r_goto (tgt := 35) dX3_mend_31 (by decide) ?_
      refine r_is5 (n := 37) (by decide) rfl dX3_mend_35 rfl ?_
      refine r_il3 (n := 38) dX3_mend_37 rfl ?_
      by_cases h_0 : x = 0
      · subst h_0
        refine r_tableIn (tgt := 68) dX3_mend_38 (by decide) (by decide) rfl (by decide) ?_
        refine r_il5 (n := 70) dX3_mend_68 rfl ?_
        refine cS_i (n := 73) (np := 1) (m_X3_hoursOfMend true) gX3_mend_X3_hoursOfMend rfl (by decide +kernel) rfl (by decide) (by decide) dX3_mend_70 rfl rfl (Nat.le_of_ble_eq_true rfl) ?_
        exact e_i dX3_mend_73 rfl (by simp_all [mndS, mndB]) rfl
      by_cases h_1 : x = 1
      · subst h_1
        refine r_tableIn (tgt := 74) dX3_mend_38 (by decide) (by decide) rfl (by decide) ?_
        refine r_al4 (n := 76) dX3_mend_74 rfl ?_
        refine r_il5 (n := 78) dX3_mend_76 rfl ?_
        refine cV_i (n := 81) (np := 1) (m_X1_leatherOfMend (hr _ (by decide)) (by omega) true) gX3_mend_X1_leatherOfMend rfl (by decide +kernel) rfl (by decide) (by decide) (by omega) (cell_sm cA ad _ (by first | assumption | omega | exact hr _ (by omega)) (by first | assumption | omega | exact hr _ (by omega))) rfl dX3_mend_78 rfl rfl (Nat.le_of_ble_eq_true rfl) ?_
        exact e_i dX3_mend_81 rfl (by simp_all [mndS, mndB]) rfl
      by_cases h_2 : x = 2
      · subst h_2
        refine r_tableIn (tgt := 82) dX3_mend_38 (by decide) (by decide) rfl (by decide) ?_
        refine r_al0 (n := 83) dX3_mend_82 rfl ?_
        refine g_br_now (n := 86)  in_X3_mend_wsX30 k_X3_mend_12 dX3_mend_83 rfl ?_
        refine r_al4 (n := 88) dX3_mend_86 rfl ?_
        refine r_il5 (n := 90) dX3_mend_88 rfl ?_
        refine cV_i (n := 93) (np := 2) (m_X2_priceOfMend (hr _ (by decide)) (by omega) true) gX3_mend_X2_priceOfMend rfl (by decide +kernel) rfl (by decide) (by decide) (by omega) (cell_st cA ad _ (by first | assumption | omega | exact hr _ (by omega))) rfl dX3_mend_90 rfl rfl (Nat.le_of_ble_eq_true rfl) ?_
        exact e_i dX3_mend_93 rfl (by simp_all [mndS, mndB]) rfl
      by_cases h_3 : x = 3
      · subst h_3
        refine r_tableIn (tgt := 94) dX3_mend_38 (by decide) (by decide) rfl (by decide) ?_
        refine r_al4 (n := 96) dX3_mend_94 rfl ?_
        refine r_il5 (n := 98) dX3_mend_96 rfl ?_
        refine cV_i (n := 101) (np := 1) (m_X1_wearBehindMend (hr _ (by decide)) (by omega) true) gX3_mend_X1_wearBehindMend rfl (by decide +kernel) rfl (by decide) (by decide) (by omega) (cell_sm cA ad _ (by first | assumption | omega | exact hr _ (by omega)) (by first | assumption | omega | exact hr _ (by omega))) rfl dX3_mend_98 rfl rfl (Nat.le_of_ble_eq_true rfl) ?_
        exact e_i dX3_mend_101 rfl (by simp_all [mndS, mndB]) rfl
      refine r_tableOut (tgt := 102) dX3_mend_38 (sw_out (lo := 0) (hi := 3) (by decide) (by decide) (fun k h1 h2 => by
        have hk : k = 0 ∨ k = 1 ∨ k = 2 ∨ k = 3 := by omega
        rcases hk with rfl | rfl | rfl | rfl
        · exact h_0
        · exact h_1
        · exact h_2
        · exact h_3
        )) (by decide) ?_
      refine r_ldc (n := 104) dX3_mend_102 k_X3_mend_65 rfl ?_
      exact e_i dX3_mend_104 rfl (by simp_all [mndS, mndB]) rfl
  · replace c_19 := i10 c_19
    rw [not_or] at c_19
    refine r_ldc (n := 24) dX3_mend_22 k_X3_mend_65 rfl ?_
    exact e_i dX3_mend_24 rfl (by simp only [mndS, if_neg c_19.1, if_neg c_19.2]) rfl

set_option maxHeartbeats 4000000 in
set_option maxRecDepth 100000 in
theorem m_X3_count (hr : ∀ i, i < 6 → M.2 i < 6) {N : Nat} (hN : M.1 (M.2 0) 0 = nI N) (h8 : N ≤ 8) {w : Int32} : C_X3_count cA ad D [.ref (ad 0), .int w] M (Ri (cntS (M.1 (M.2 0)) N (M.1 8 0) (M.1 6 0) w) M) := by
  refine PM_of (lv := [some (.ref (ad 0)), some (.int w)]) (by decide +kernel) rfl (Nat.le_of_ble_eq_true rfl) rfl ?_
  have hq0 := hr 0 (by decide)
  refine r_il1 (n := 1) dX3_count_0 rfl ?_
  by_cases h_0 : w = 0
  · subst h_0
    refine r_tableIn (tgt := 112) dX3_count_1 (by decide) (by decide) rfl (by decide) ?_
    refine r_al0 (n := 113) dX3_count_112 rfl ?_
    refine g_br_now (n := 116)  in_X3_count_wsX30 k_X3_count_12 dX3_count_113 rfl ?_
    refine g_st_smithyCount (n := 119) (by first | assumption | omega | exact hr _ (by omega)) in_X3_count_wsX20 k_X3_count_133 dX3_count_116 rfl ?_
    exact e_i dX3_count_119 rfl (by simp_all [cntS]) rfl
  by_cases h_1 : w = 1
  · subst h_1
    refine r_tableIn (tgt := 120) dX3_count_1 (by decide) (by decide) rfl (by decide) ?_
    refine r_al0 (n := 121) dX3_count_120 rfl ?_
    refine g_br_now (n := 124)  in_X3_count_wsX30 k_X3_count_12 dX3_count_121 rfl ?_
    refine g_st_day (n := 127) (by first | assumption | omega | exact hr _ (by omega)) in_X3_count_wsX20 k_X3_count_146 dX3_count_124 rfl ?_
    exact e_i dX3_count_127 rfl (by simp_all [cntS]) rfl
  by_cases h_2 : w = 2
  · subst h_2
    refine r_tableIn (tgt := 128) dX3_count_1 (by decide) (by decide) rfl (by decide) ?_
    refine r_al0 (n := 129) dX3_count_128 rfl ?_
    refine g_br_now (n := 132)  in_X3_count_wsX30 k_X3_count_12 dX3_count_129 rfl ?_
    refine g_st_mile (n := 135) (by first | assumption | omega | exact hr _ (by omega)) in_X3_count_wsX20 k_X3_count_100 dX3_count_132 rfl ?_
    exact e_i dX3_count_135 rfl (by simp_all [cntS]) rfl
  by_cases h_3 : w = 3
  · subst h_3
    refine r_tableIn (tgt := 136) dX3_count_1 (by decide) (by decide) rfl (by decide) ?_
    refine r_al0 (n := 137) dX3_count_136 rfl ?_
    refine g_br_now (n := 140)  in_X3_count_wsX30 k_X3_count_12 dX3_count_137 rfl ?_
    refine g_st_hoursLeft (n := 143) (by first | assumption | omega | exact hr _ (by omega)) in_X3_count_wsX20 k_X3_count_149 dX3_count_140 rfl ?_
    exact e_i dX3_count_143 rfl (by simp_all [cntS]) rfl
  by_cases h_4 : w = 4
  · subst h_4
    refine r_tableIn (tgt := 144) dX3_count_1 (by decide) (by decide) rfl (by decide) ?_
    refine r_al0 (n := 145) dX3_count_144 rfl ?_
    refine g_br_now (n := 148)  in_X3_count_wsX30 k_X3_count_12 dX3_count_145 rfl ?_
    refine g_st_leather (n := 151) (by first | assumption | omega | exact hr _ (by omega)) in_X3_count_wsX20 k_X3_count_152 dX3_count_148 rfl ?_
    exact e_i dX3_count_151 rfl (by simp_all [cntS]) rfl
  by_cases h_5 : w = 5
  · subst h_5
    refine r_tableIn (tgt := 152) dX3_count_1 (by decide) (by decide) rfl (by decide) ?_
    refine r_al0 (n := 153) dX3_count_152 rfl ?_
    refine g_br_now (n := 156)  in_X3_count_wsX30 k_X3_count_12 dX3_count_153 rfl ?_
    refine g_st_money (n := 159) (by first | assumption | omega | exact hr _ (by omega)) in_X3_count_wsX20 k_X3_count_155 dX3_count_156 rfl ?_
    exact e_i dX3_count_159 rfl (by simp_all [cntS]) rfl
  by_cases h_6 : w = 6
  · subst h_6
    refine r_tableIn (tgt := 160) dX3_count_1 (by decide) (by decide) rfl (by decide) ?_
    refine r_al0 (n := 161) dX3_count_160 rfl ?_
    refine g_br_now (n := 164)  in_X3_count_wsX30 k_X3_count_12 dX3_count_161 rfl ?_
    refine cV_i (n := 167) (np := 0) (m_X2_debtsTogether (hr _ (by decide)) hN h8) gX3_count_X2_debtsTogether rfl (by decide +kernel) rfl (by decide) (by decide) (by omega) (cell_st cA ad _ (by first | assumption | omega | exact hr _ (by omega))) rfl dX3_count_164 rfl rfl (Nat.le_of_ble_eq_true rfl) ?_
    exact e_i dX3_count_167 rfl (by simp_all [cntS]) rfl
  by_cases h_7 : w = 7
  · subst h_7
    refine r_tableIn (tgt := 168) dX3_count_1 (by decide) (by decide) rfl (by decide) ?_
    refine r_al0 (n := 169) dX3_count_168 rfl ?_
    refine g_br_now (n := 172)  in_X3_count_wsX30 k_X3_count_12 dX3_count_169 rfl ?_
    refine g_st_paidForLeather (n := 175) (by first | assumption | omega | exact hr _ (by omega)) in_X3_count_wsX20 k_X3_count_161 dX3_count_172 rfl ?_
    exact e_i dX3_count_175 rfl (by simp_all [cntS]) rfl
  by_cases h_8 : w = 8
  · subst h_8
    refine r_tableIn (tgt := 176) dX3_count_1 (by decide) (by decide) rfl (by decide) ?_
    refine r_al0 (n := 177) dX3_count_176 rfl ?_
    refine g_br_now (n := 180)  in_X3_count_wsX30 k_X3_count_12 dX3_count_177 rfl ?_
    refine g_st_owedForMends (n := 183) (by first | assumption | omega | exact hr _ (by omega)) in_X3_count_wsX20 k_X3_count_164 dX3_count_180 rfl ?_
    exact e_i dX3_count_183 rfl (by simp_all [cntS]) rfl
  by_cases h_9 : w = 9
  · subst h_9
    refine r_tableIn (tgt := 184) dX3_count_1 (by decide) (by decide) rfl (by decide) ?_
    refine r_al0 (n := 185) dX3_count_184 rfl ?_
    refine g_br_now (n := 188)  in_X3_count_wsX30 k_X3_count_12 dX3_count_185 rfl ?_
    refine cV_i (n := 191) (np := 0) (m_X2_coldSet (hr _ (by decide)) hN h8) gX3_count_X2_coldSet rfl (by decide +kernel) rfl (by decide) (by decide) (by omega) (cell_st cA ad _ (by first | assumption | omega | exact hr _ (by omega))) rfl dX3_count_188 rfl rfl (Nat.le_of_ble_eq_true rfl) ?_
    exact e_i dX3_count_191 rfl (by simp_all [cntS]) rfl
  by_cases h_10 : w = 10
  · subst h_10
    refine r_tableIn (tgt := 192) dX3_count_1 (by decide) (by decide) rfl (by decide) ?_
    refine r_al0 (n := 193) dX3_count_192 rfl ?_
    refine g_br_now (n := 196)  in_X3_count_wsX30 k_X3_count_12 dX3_count_193 rfl ?_
    refine g_st_longestCold (n := 199) (by first | assumption | omega | exact hr _ (by omega)) in_X3_count_wsX20 k_X3_count_170 dX3_count_196 rfl ?_
    exact e_i dX3_count_199 rfl (by simp_all [cntS]) rfl
  by_cases h_11 : w = 11
  · subst h_11
    refine r_tableIn (tgt := 200) dX3_count_1 (by decide) (by decide) rfl (by decide) ?_
    refine r_al0 (n := 201) dX3_count_200 rfl ?_
    refine g_br_now (n := 204)  in_X3_count_wsX30 k_X3_count_12 dX3_count_201 rfl ?_
    refine g_st_milesWalked (n := 207) (by first | assumption | omega | exact hr _ (by omega)) in_X3_count_wsX20 k_X3_count_173 dX3_count_204 rfl ?_
    exact e_i dX3_count_207 rfl (by simp_all [cntS]) rfl
  by_cases h_12 : w = 12
  · subst h_12
    refine r_tableIn (tgt := 208) dX3_count_1 (by decide) (by decide) rfl (by decide) ?_
    refine r_al0 (n := 209) dX3_count_208 rfl ?_
    refine g_br_states (n := 212)  in_X3_count_wsX30 k_X3_count_176 dX3_count_209 rfl ?_
    exact e_i dX3_count_212 rfl (by simp_all [cntS]) rfl
  by_cases h_13 : w = 13
  · subst h_13
    refine r_tableIn (tgt := 213) dX3_count_1 (by decide) (by decide) rfl (by decide) ?_
    refine r_al0 (n := 214) dX3_count_213 rfl ?_
    refine g_br_text (n := 217)  in_X3_count_wsX30 k_X3_count_26 dX3_count_214 rfl ?_
    refine g_ot_length (n := 220)  in_X3_count_wsX00 k_X3_count_179 dX3_count_217 rfl ?_
    exact e_i dX3_count_220 rfl (by simp_all [cntS]) rfl
  by_cases h_14 : w = 14
  · subst h_14
    refine r_tableIn (tgt := 253) dX3_count_1 (by decide) (by decide) rfl (by decide) ?_
    refine r_ldc (n := 255) dX3_count_253 k_X3_count_65 rfl ?_
    exact e_i dX3_count_255 rfl (by simp_all [cntS]) rfl
  by_cases h_15 : w = 15
  · subst h_15
    refine r_tableIn (tgt := 253) dX3_count_1 (by decide) (by decide) rfl (by decide) ?_
    refine r_ldc (n := 255) dX3_count_253 k_X3_count_65 rfl ?_
    exact e_i dX3_count_255 rfl (by simp_all [cntS]) rfl
  by_cases h_16 : w = 16
  · subst h_16
    refine r_tableIn (tgt := 253) dX3_count_1 (by decide) (by decide) rfl (by decide) ?_
    refine r_ldc (n := 255) dX3_count_253 k_X3_count_65 rfl ?_
    exact e_i dX3_count_255 rfl (by simp_all [cntS]) rfl
  by_cases h_17 : w = 17
  · subst h_17
    refine r_tableIn (tgt := 253) dX3_count_1 (by decide) (by decide) rfl (by decide) ?_
    refine r_ldc (n := 255) dX3_count_253 k_X3_count_65 rfl ?_
    exact e_i dX3_count_255 rfl (by simp_all [cntS]) rfl
  by_cases h_18 : w = 18
  · subst h_18
    refine r_tableIn (tgt := 253) dX3_count_1 (by decide) (by decide) rfl (by decide) ?_
    refine r_ldc (n := 255) dX3_count_253 k_X3_count_65 rfl ?_
    exact e_i dX3_count_255 rfl (by simp_all [cntS]) rfl
  by_cases h_19 : w = 19
  · subst h_19
    refine r_tableIn (tgt := 253) dX3_count_1 (by decide) (by decide) rfl (by decide) ?_
    refine r_ldc (n := 255) dX3_count_253 k_X3_count_65 rfl ?_
    exact e_i dX3_count_255 rfl (by simp_all [cntS]) rfl
  by_cases h_20 : w = 20
  · subst h_20
    refine r_tableIn (tgt := 221) dX3_count_1 (by decide) (by decide) rfl (by decide) ?_
    refine r_al0 (n := 222) dX3_count_221 rfl ?_
    refine g_br_now (n := 225)  in_X3_count_wsX30 k_X3_count_12 dX3_count_222 rfl ?_
    refine g_st_cold (n := 228) (by first | assumption | omega | exact hr _ (by omega)) in_X3_count_wsX20 k_X3_count_182 dX3_count_225 rfl ?_
    exact e_i dX3_count_228 rfl (by simp_all [cntS]) rfl
  by_cases h_21 : w = 21
  · subst h_21
    refine r_tableIn (tgt := 229) dX3_count_1 (by decide) (by decide) rfl (by decide) ?_
    refine r_al0 (n := 230) dX3_count_229 rfl ?_
    refine g_br_now (n := 233)  in_X3_count_wsX30 k_X3_count_12 dX3_count_230 rfl ?_
    refine g_st_hours (n := 236) (by first | assumption | omega | exact hr _ (by omega)) in_X3_count_wsX20 k_X3_count_185 dX3_count_233 rfl ?_
    exact e_i dX3_count_236 rfl (by simp_all [cntS]) rfl
  by_cases h_22 : w = 22
  · subst h_22
    refine r_tableIn (tgt := 237) dX3_count_1 (by decide) (by decide) rfl (by decide) ?_
    refine r_al0 (n := 238) dX3_count_237 rfl ?_
    refine g_br_now (n := 241)  in_X3_count_wsX30 k_X3_count_12 dX3_count_238 rfl ?_
    refine g_st_rate (n := 244) (by first | assumption | omega | exact hr _ (by omega)) in_X3_count_wsX20 k_X3_count_188 dX3_count_241 rfl ?_
    exact e_i dX3_count_244 rfl (by simp_all [cntS]) rfl
  by_cases h_23 : w = 23
  · subst h_23
    refine r_tableIn (tgt := 245) dX3_count_1 (by decide) (by decide) rfl (by decide) ?_
    refine r_al0 (n := 246) dX3_count_245 rfl ?_
    refine g_br_now (n := 249)  in_X3_count_wsX30 k_X3_count_12 dX3_count_246 rfl ?_
    refine g_st_patience (n := 252) (by first | assumption | omega | exact hr _ (by omega)) in_X3_count_wsX20 k_X3_count_191 dX3_count_249 rfl ?_
    exact e_i dX3_count_252 rfl (by simp_all [cntS]) rfl
  refine r_tableOut (tgt := 253) dX3_count_1 (sw_out (lo := 0) (hi := 23) (by decide) (by decide) (fun k h1 h2 => by
    have hk : k = 0 ∨ k = 1 ∨ k = 2 ∨ k = 3 ∨ k = 4 ∨ k = 5 ∨ k = 6 ∨ k = 7 ∨ k = 8 ∨ k = 9 ∨ k = 10 ∨ k = 11 ∨ k = 12 ∨ k = 13 ∨ k = 14 ∨ k = 15 ∨ k = 16 ∨ k = 17 ∨ k = 18 ∨ k = 19 ∨ k = 20 ∨ k = 21 ∨ k = 22 ∨ k = 23 := by omega
    rcases hk with rfl | rfl | rfl | rfl | rfl | rfl | rfl | rfl | rfl | rfl | rfl | rfl | rfl | rfl | rfl | rfl | rfl | rfl | rfl | rfl | rfl | rfl | rfl | rfl
    · exact h_0
    · exact h_1
    · exact h_2
    · exact h_3
    · exact h_4
    · exact h_5
    · exact h_6
    · exact h_7
    · exact h_8
    · exact h_9
    · exact h_10
    · exact h_11
    · exact h_12
    · exact h_13
    · exact h_14
    · exact h_15
    · exact h_16
    · exact h_17
    · exact h_18
    · exact h_19
    · exact h_20
    · exact h_21
    · exact h_22
    · exact h_23
    )) (by decide) ?_
  refine r_ldc (n := 255) dX3_count_253 k_X3_count_65 rfl ?_
  exact e_i dX3_count_255 rfl (by simp_all [cntS]) rfl

end BR2

