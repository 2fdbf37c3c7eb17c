/-! ===== the reference: what is asked ===== -/
section MQ_
variable {cA : Nat → ClassId} {ad : Nat → Nat} {D : va_G} {M : Mem}
set_option maxHeartbeats 4000000 in
set_option maxRecDepth 100000 in
theorem m_X4_smithyOf_n {j : Int32} (hj : ¬ isSm (M.1 10) j) {w : Int32} : C_X4_smithyOf cA ad D [.ref (ad 4), .int j, .int w] M (Ri IA M) := by
  refine PM_of (lv := [some (.ref (ad 4)), some (.int j), some (.int w)]) (by decide +kernel) rfl (Nat.le_of_ble_eq_true rfl) rfl ?_
  refine r_al0 (n := 1) dX4_smithyOf_0 rfl ?_
  refine r_il1 (n := 2) dX4_smithyOf_1 rfl ?_
  refine cV_i (n := 5) (np := 1) (m_X4_isSmithy_n hj) gX4_smithyOf_X4_isSmithy rfl (by decide +kernel) rfl (by decide) (by decide) (by omega) rfl rfl dX4_smithyOf_2 rfl rfl (Nat.le_of_ble_eq_true rfl) ?_
  refine r_if_eq (tgt := 18) (n := 8) dX4_smithyOf_5 (by decide) rfl (fun c_5 => ?_) (fun c_5 => ?_)
  · try replace c_5 := i10 c_5
    refine r_ldc (n := 20) dX4_smithyOf_18 k_X4_smithyOf_57 rfl ?_
    exact e_i dX4_smithyOf_20 rfl rfl rfl
  · exact absurd c_5 (fun q => q rfl)

set_option maxHeartbeats 4000000 in
set_option maxRecDepth 100000 in
theorem m_X4_smithyOf_y {N : Nat} (hN : M.1 10 0 = nI N) (h8 : N ≤ 8) {k : Nat} (hk : k < N) {w : Int32} (hb : rng w 0 10 = true) : C_X4_smithyOf cA ad D [.ref (ad 4), .int (nI k), .int w] M (Ri (smoS (M.1 10) k w) M) := by
  refine PM_of (lv := [some (.ref (ad 4)), some (.int (nI k)), some (.int w)]) (by decide +kernel) rfl (Nat.le_of_ble_eq_true rfl) rfl ?_
  have hk8 : k < 8 := by omega
  refine r_al0 (n := 1) dX4_smithyOf_0 rfl ?_
  refine r_il1 (n := 2) dX4_smithyOf_1 rfl ?_
  refine cV_i (n := 5) (np := 1) (m_X4_isSmithy_y hN h8 hk) gX4_smithyOf_X4_isSmithy rfl (by decide +kernel) rfl (by decide) (by decide) (by omega) rfl rfl dX4_smithyOf_2 rfl rfl (Nat.le_of_ble_eq_true rfl) ?_
  refine r_if_eq (tgt := 18) (n := 8) dX4_smithyOf_5 (by decide) rfl (fun c_5 => ?_) (fun c_5 => ?_)
  · exact absurd c_5 (by decide)
  · try replace c_5 := i11 c_5
    refine r_il2 (n := 9) dX4_smithyOf_8 rfl ?_
    refine r_iconst (v := 0) (n := 10) dX4_smithyOf_9 (by decide) rfl ?_
    refine r_bipush (v := 10) (n := 12) dX4_smithyOf_10 (by decide) rfl ?_
    refine cS_i (n := 15) (np := 3) (m_X4_in) gX4_smithyOf_X4_in rfl (by decide +kernel) rfl (by decide) (by decide) dX4_smithyOf_12 rfl rfl (Nat.le_of_ble_eq_true rfl) ?_
    refine r_if_ne (tgt := 21) (n := 18) dX4_smithyOf_15 (by decide) rfl (fun c_15 => ?_) (fun c_15 => ?_)
    · replace c_15 := bI_1 c_15
      refine r_il2 (n := 22) dX4_smithyOf_21 rfl ?_
      by_cases h_3 : w = 3
      · subst h_3
        refine r_tableIn (tgt := 68) dX4_smithyOf_22 (by decide) (by decide) rfl (by decide) ?_
        refine r_al0 (n := 69) dX4_smithyOf_68 rfl ?_
        refine r_il1 (n := 70) dX4_smithyOf_69 rfl ?_
        refine cV_i (n := 73) (np := 1) (m_X4_leak hk8) gX4_smithyOf_X4_leak rfl (by decide +kernel) rfl (by decide) (by decide) (by omega) rfl rfl dX4_smithyOf_70 rfl rfl (Nat.le_of_ble_eq_true rfl) ?_
        exact e_i dX4_smithyOf_73 rfl (by simp_all [smoS]) rfl
      by_cases h_4 : w = 4
      · subst h_4
        refine r_tableIn (tgt := 74) dX4_smithyOf_22 (by decide) (by decide) rfl (by decide) ?_
        refine r_al0 (n := 75) dX4_smithyOf_74 rfl ?_
        refine r_il1 (n := 76) dX4_smithyOf_75 rfl ?_
        refine r_iconst (v := 3) (n := 77) dX4_smithyOf_76 (by decide) rfl ?_
        refine cV_i (n := 80) (np := 2) (m_X4_of (k := k) (j := 3) hk8 (by decide)) gX4_smithyOf_X4_of rfl (by decide +kernel) rfl (by decide) (by decide) (by omega) rfl rfl dX4_smithyOf_77 rfl rfl (Nat.le_of_ble_eq_true rfl) ?_
        exact e_i dX4_smithyOf_80 rfl (by simp_all [smoS]) rfl
      by_cases h_5 : w = 5
      · subst h_5
        refine r_tableIn (tgt := 81) dX4_smithyOf_22 (by decide) (by decide) rfl (by decide) ?_
        refine r_al0 (n := 82) dX4_smithyOf_81 rfl ?_
        refine r_il1 (n := 83) dX4_smithyOf_82 rfl ?_
        refine cV_i (n := 86) (np := 1) (m_X4_isCold hk8) gX4_smithyOf_X4_isCold rfl (by decide +kernel) rfl (by decide) (by decide) (by omega) rfl rfl dX4_smithyOf_83 rfl rfl (Nat.le_of_ble_eq_true rfl) ?_
        refine r_if_eq (tgt := 93) (n := 89) dX4_smithyOf_86 (by decide) rfl (fun c_86 => ?_) (fun c_86 => ?_)
        · try replace c_86 := i10 c_86
          refine r_iconst (v := 0) (n := 94) dX4_smithyOf_93 (by decide) rfl ?_
          exact e_i dX4_smithyOf_94 rfl (by simp_all [smoS]) rfl
        · try replace c_86 := i11 c_86
          refine r_iconst (v := 1) (n := 90) dX4_smithyOf_89 (by decide) rfl ?_
          refine r_goto (tgt := 94) dX4_smithyOf_90 (by decide) ?_
          exact e_i dX4_smithyOf_94 rfl (by simp_all [smoS]) rfl
      by_cases h_6 : w = 6
      · subst h_6
        refine r_tableIn (tgt := 95) dX4_smithyOf_22 (by decide) (by decide) rfl (by decide) ?_
        refine r_al0 (n := 96) dX4_smithyOf_95 rfl ?_
        refine r_il1 (n := 97) dX4_smithyOf_96 rfl ?_
        refine r_il2 (n := 98) dX4_smithyOf_97 rfl ?_
        refine r_iconst (v := 2) (n := 99) dX4_smithyOf_98 (by decide) rfl ?_
        refine r_isub (n := 100) dX4_smithyOf_99 rfl ?_
        rw [show (6 : Int32) - 2 = nI 4 from by decide]
        refine cV_i (n := 103) (np := 2) (m_X4_of (k := k) (j := 4) hk8 (by decide)) gX4_smithyOf_X4_of rfl (by decide +kernel) rfl (by decide) (by decide) (by omega) rfl rfl dX4_smithyOf_100 rfl rfl (Nat.le_of_ble_eq_true rfl) ?_
        exact e_i dX4_smithyOf_103 rfl (by simp_all [smoS]) rfl
      by_cases h_7 : w = 7
      · subst h_7
        refine r_tableIn (tgt := 95) dX4_smithyOf_22 (by decide) (by decide) rfl (by decide) ?_
        refine r_al0 (n := 96) dX4_smithyOf_95 rfl ?_
        refine r_il1 (n := 97) dX4_smithyOf_96 rfl ?_
        refine r_il2 (n := 98) dX4_smithyOf_97 rfl ?_
        refine r_iconst (v := 2) (n := 99) dX4_smithyOf_98 (by decide) rfl ?_
        refine r_isub (n := 100) dX4_smithyOf_99 rfl ?_
        rw [show (7 : Int32) - 2 = nI 5 from by decide]
        refine cV_i (n := 103) (np := 2) (m_X4_of (k := k) (j := 5) hk8 (by decide)) gX4_smithyOf_X4_of rfl (by decide +kernel) rfl (by decide) (by decide) (by omega) rfl rfl dX4_smithyOf_100 rfl rfl (Nat.le_of_ble_eq_true rfl) ?_
        exact e_i dX4_smithyOf_103 rfl (by simp_all [smoS]) rfl
      by_cases h_8 : w = 8
      · subst h_8
        refine r_tableIn (tgt := 95) dX4_smithyOf_22 (by decide) (by decide) rfl (by decide) ?_
        refine r_al0 (n := 96) dX4_smithyOf_95 rfl ?_
        refine r_il1 (n := 97) dX4_smithyOf_96 rfl ?_
        refine r_il2 (n := 98) dX4_smithyOf_97 rfl ?_
        refine r_iconst (v := 2) (n := 99) dX4_smithyOf_98 (by decide) rfl ?_
        refine r_isub (n := 100) dX4_smithyOf_99 rfl ?_
        rw [show (8 : Int32) - 2 = nI 6 from by decide]
        refine cV_i (n := 103) (np := 2) (m_X4_of (k := k) (j := 6) hk8 (by decide)) gX4_smithyOf_X4_of rfl (by decide +kernel) rfl (by decide) (by decide) (by omega) rfl rfl dX4_smithyOf_100 rfl rfl (Nat.le_of_ble_eq_true rfl) ?_
        exact e_i dX4_smithyOf_103 rfl (by simp_all [smoS]) rfl
      by_cases h_9 : w = 9
      · subst h_9
        refine r_tableIn (tgt := 95) dX4_smithyOf_22 (by decide) (by decide) rfl (by decide) ?_
        refine r_al0 (n := 96) dX4_smithyOf_95 rfl ?_
        refine r_il1 (n := 97) dX4_smithyOf_96 rfl ?_
        refine r_il2 (n := 98) dX4_smithyOf_97 rfl ?_
        refine r_iconst (v := 2) (n := 99) dX4_smithyOf_98 (by decide) rfl ?_
        refine r_isub (n := 100) dX4_smithyOf_99 rfl ?_
        rw [show (9 : Int32) - 2 = nI 7 from by decide]
        refine cV_i (n := 103) (np := 2) (m_X4_of (k := k) (j := 7) hk8 (by decide)) gX4_smithyOf_X4_of rfl (by decide +kernel) rfl (by decide) (by decide) (by omega) rfl rfl dX4_smithyOf_100 rfl rfl (Nat.le_of_ble_eq_true rfl) ?_
        exact e_i dX4_smithyOf_103 rfl (by simp_all [smoS]) rfl
      by_cases h_10 : w = 10
      · subst h_10
        refine r_tableIn (tgt := 104) dX4_smithyOf_22 (by decide) (by decide) rfl (by decide) ?_
        refine r_al0 (n := 105) dX4_smithyOf_104 rfl ?_
        refine g_mo_s (n := 108)  in_X4_smithyOf_wsX40 k_X4_smithyOf_7 dX4_smithyOf_105 rfl ?_
        refine r_iconst (v := 2) (n := 109) dX4_smithyOf_108 (by decide) rfl ?_
        refine a_s (n := 110) (k := 2) (by decide) (by decide) dX4_smithyOf_109 rfl ?_
        refine r_al0 (n := 111) dX4_smithyOf_110 rfl ?_
        refine r_il1 (n := 112) dX4_smithyOf_111 rfl ?_
        refine r_iconst (v := 0) (n := 113) dX4_smithyOf_112 (by decide) rfl ?_
        refine cV_i (n := 116) (np := 2) (m_X4_of (k := k) (j := 0) hk8 (by decide)) gX4_smithyOf_X4_of rfl (by decide +kernel) rfl (by decide) (by decide) (by omega) rfl rfl dX4_smithyOf_113 rfl rfl (Nat.le_of_ble_eq_true rfl) ?_
        rw [Nat.add_zero]
        refine cS_i (n := 119) (np := 2) (m_X4_hoursBetween) gX4_smithyOf_X4_hoursBetween rfl (by decide +kernel) rfl (by decide) (by decide) dX4_smithyOf_116 rfl rfl (Nat.le_of_ble_eq_true rfl) ?_
        exact e_i dX4_smithyOf_119 rfl (by simp_all [smoS]) rfl
      obtain ⟨j, hj1, hj2, hw, -⟩ := rng_nI (a := 0) (b := 10) (by decide) c_15 (by decide)
      have hj : j = 0 ∨ j = 1 ∨ j = 2 ∨ j = 3 ∨ j = 4 ∨ j = 5 ∨ j = 6 ∨ j = 7 ∨ j = 8 ∨ j = 9 ∨ j = 10 := by omega
      refine r_tableOut (tgt := 120) dX4_smithyOf_22 (sw_out (lo := 3) (hi := 10) (by decide) (by decide) (fun k h1 h2 => by
        have hk : k = 3 ∨ k = 4 ∨ k = 5 ∨ k = 6 ∨ k = 7 ∨ k = 8 ∨ k = 9 ∨ k = 10 := by omega
        rcases hk with rfl | rfl | rfl | rfl | rfl | rfl | rfl | rfl
        · exact h_3
        · exact h_4
        · exact h_5
        · exact h_6
        · exact h_7
        · exact h_8
        · exact h_9
        · exact h_10
        )) (by decide) ?_
      rcases hj with rfl | rfl | rfl | rfl | rfl | rfl | rfl | rfl | rfl | rfl | rfl
      · subst hw
        refine r_al0 (n := 121) dX4_smithyOf_120 rfl ?_
        refine r_il1 (n := 122) dX4_smithyOf_121 rfl ?_
        refine r_il2 (n := 123) dX4_smithyOf_122 rfl ?_
        refine cV_i (n := 126) (np := 2) (m_X4_of (k := k) (j := 0) hk8 (by decide)) gX4_smithyOf_X4_of rfl (by decide +kernel) rfl (by decide) (by decide) (by omega) rfl rfl dX4_smithyOf_123 rfl rfl (Nat.le_of_ble_eq_true rfl) ?_
        exact e_i dX4_smithyOf_126 rfl (by simp [smoS, show nI 0 = (0 : Int32) from rfl]) rfl
      · subst hw
        refine r_al0 (n := 121) dX4_smithyOf_120 rfl ?_
        refine r_il1 (n := 122) dX4_smithyOf_121 rfl ?_
        refine r_il2 (n := 123) dX4_smithyOf_122 rfl ?_
        refine cV_i (n := 126) (np := 2) (m_X4_of (k := k) (j := 1) hk8 (by decide)) gX4_smithyOf_X4_of rfl (by decide +kernel) rfl (by decide) (by decide) (by omega) rfl rfl dX4_smithyOf_123 rfl rfl (Nat.le_of_ble_eq_true rfl) ?_
        exact e_i dX4_smithyOf_126 rfl (by simp [smoS, show nI 1 = (1 : Int32) from rfl]) rfl
      · subst hw
        refine r_al0 (n := 121) dX4_smithyOf_120 rfl ?_
        refine r_il1 (n := 122) dX4_smithyOf_121 rfl ?_
        refine r_il2 (n := 123) dX4_smithyOf_122 rfl ?_
        refine cV_i (n := 126) (np := 2) (m_X4_of (k := k) (j := 2) hk8 (by decide)) gX4_smithyOf_X4_of rfl (by decide +kernel) rfl (by decide) (by decide) (by omega) rfl rfl dX4_smithyOf_123 rfl rfl (Nat.le_of_ble_eq_true rfl) ?_
        exact e_i dX4_smithyOf_126 rfl (by simp [smoS, show nI 2 = (2 : Int32) from rfl]) rfl
      · exact absurd hw h_3
      · exact absurd hw h_4
      · exact absurd hw h_5
      · exact absurd hw h_6
      · exact absurd hw h_7
      · exact absurd hw h_8
      · exact absurd hw h_9
      · exact absurd hw h_10
    · replace c_15 := bI_0 c_15
      rw [hb] at c_15
      cases c_15

set_option maxHeartbeats 4000000 in
set_option maxRecDepth 100000 in
theorem m_X4_smithyOf_r {N : Nat} (hN : M.1 10 0 = nI N) (h8 : N ≤ 8) {k : Nat} (hk : k < N) {w : Int32} (hb : rng w 0 10 = false) : C_X4_smithyOf cA ad D [.ref (ad 4), .int (nI k), .int w] M (Ri IA M) := by
  refine PM_of (lv := [some (.ref (ad 4)), some (.int (nI k)), some (.int w)]) (by decide +kernel) rfl (Nat.le_of_ble_eq_true rfl) rfl ?_
  have hk8 : k < 8 := by omega
  refine r_al0 (n := 1) dX4_smithyOf_0 rfl ?_
  refine r_il1 (n := 2) dX4_smithyOf_1 rfl ?_
  refine cV_i (n := 5) (np := 1) (m_X4_isSmithy_y hN h8 hk) gX4_smithyOf_X4_isSmithy rfl (by decide +kernel) rfl (by decide) (by decide) (by omega) rfl rfl dX4_smithyOf_2 rfl rfl (Nat.le_of_ble_eq_true rfl) ?_
  refine r_if_eq (tgt := 18) (n := 8) dX4_smithyOf_5 (by decide) rfl (fun c_5 => ?_) (fun c_5 => ?_)
  · exact absurd c_5 (by decide)
  · try replace c_5 := i11 c_5
    refine r_il2 (n := 9) dX4_smithyOf_8 rfl ?_
    refine r_iconst (v := 0) (n := 10) dX4_smithyOf_9 (by decide) rfl ?_
    refine r_bipush (v := 10) (n := 12) dX4_smithyOf_10 (by decide) rfl ?_
    refine cS_i (n := 15) (np := 3) (m_X4_in) gX4_smithyOf_X4_in rfl (by decide +kernel) rfl (by decide) (by decide) dX4_smithyOf_12 rfl rfl (Nat.le_of_ble_eq_true rfl) ?_
    refine r_if_ne (tgt := 21) (n := 18) dX4_smithyOf_15 (by decide) rfl (fun c_15 => ?_) (fun c_15 => ?_)
    · replace c_15 := bI_1 c_15
      rw [hb] at c_15
      cases c_15
    · replace c_15 := bI_0 c_15
      refine r_ldc (n := 20) dX4_smithyOf_18 k_X4_smithyOf_57 rfl ?_
      exact e_i dX4_smithyOf_20 rfl rfl rfl

set_option maxHeartbeats 4000000 in
set_option maxRecDepth 100000 in
theorem m_X4_why_n {j : Int32} (hj : ¬ isSm (M.1 10) j) {w : Int32} : C_X4_why cA ad D [.ref (ad 4), .int j, .int w] M (Ri IA M) := by
  refine PM_of (lv := [some (.ref (ad 4)), some (.int j), some (.int w)]) (by decide +kernel) rfl (Nat.le_of_ble_eq_true rfl) rfl ?_
  refine r_al0 (n := 1) dX4_why_0 rfl ?_
  refine r_il1 (n := 2) dX4_why_1 rfl ?_
  refine cV_i (n := 5) (np := 1) (m_X4_isSmithy_n hj) gX4_why_X4_isSmithy rfl (by decide +kernel) rfl (by decide) (by decide) (by omega) rfl rfl dX4_why_2 rfl rfl (Nat.le_of_ble_eq_true rfl) ?_
  refine r_if_eq (tgt := 26) (n := 8) dX4_why_5 (by decide) rfl (fun c_5 => ?_) (fun c_5 => ?_)
  · try replace c_5 := i10 c_5
    refine r_ldc (n := 28) dX4_why_26 k_X4_why_57 rfl ?_
    exact e_i dX4_why_28 rfl rfl rfl
  · exact absurd c_5 (fun q => q rfl)

set_option maxHeartbeats 4000000 in
set_option maxRecDepth 100000 in
theorem m_X4_why_s {N : Nat} (hN : M.1 10 0 = nI N) (h8 : N ≤ 8) {k : Nat} (hk : k < N) {w : Int32} : C_X4_why cA ad D [.ref (ad 4), .int (nI k), .int w] M (Ri (whyS (M.1 10) k w) M) := by
  refine PM_of (lv := [some (.ref (ad 4)), some (.int (nI k)), some (.int w)]) (by decide +kernel) rfl (Nat.le_of_ble_eq_true rfl) rfl ?_
  have hk8 : k < 8 := by omega
  refine r_al0 (n := 1) dX4_why_0 rfl ?_
  refine r_il1 (n := 2) dX4_why_1 rfl ?_
  refine cV_i (n := 5) (np := 1) (m_X4_isSmithy_y hN h8 hk) gX4_why_X4_isSmithy rfl (by decide +kernel) rfl (by decide) (by decide) (by omega) rfl rfl dX4_why_2 rfl rfl (Nat.le_of_ble_eq_true rfl) ?_
  refine r_if_eq (tgt := 26) (n := 8) dX4_why_5 (by decide) rfl (fun c_5 => ?_) (fun c_5 => ?_)
  · exact absurd c_5 (by decide)
  · try replace c_5 := i11 c_5
    refine r_il2 (n := 9) dX4_why_8 rfl ?_
    refine r_iconst (v := 0) (n := 10) dX4_why_9 (by decide) rfl ?_
    refine r_iconst (v := 1) (n := 11) dX4_why_10 (by decide) rfl ?_
    refine cS_i (n := 14) (np := 3) (m_X4_in) gX4_why_X4_in rfl (by decide +kernel) rfl (by decide) (by decide) dX4_why_11 rfl rfl (Nat.le_of_ble_eq_true rfl) ?_
    refine r_if_eq (tgt := 26) (n := 17) dX4_why_14 (by decide) rfl (fun c_14 => ?_) (fun c_14 => ?_)
    · replace c_14 := bI_0 c_14
      refine r_ldc (n := 28) dX4_why_26 k_X4_why_57 rfl ?_
      exact e_i dX4_why_28 rfl (by rw [whyS, if_neg (rng01n c_14).1, if_neg (rng01n c_14).2]) rfl
    · replace c_14 := bI_1 c_14
      rcases rng01 c_14 with hw | hw
      · subst hw
        refine r_al0 (n := 18) dX4_why_17 rfl ?_
        refine r_il1 (n := 19) dX4_why_18 rfl ?_
        refine r_il2 (n := 20) dX4_why_19 rfl ?_
        refine cV_i (n := 23) (np := 2) (m_X4_whyNot hk8 false) gX4_why_X4_whyNot rfl (by decide +kernel) rfl (by decide) (by decide) (by omega) rfl rfl dX4_why_20 rfl rfl (Nat.le_of_ble_eq_true rfl) ?_
        refine r_goto (tgt := 28) dX4_why_23 (by decide) ?_
        exact e_i dX4_why_28 rfl (by simp [whyS]) rfl
      · subst hw
        refine r_al0 (n := 18) dX4_why_17 rfl ?_
        refine r_il1 (n := 19) dX4_why_18 rfl ?_
        refine r_il2 (n := 20) dX4_why_19 rfl ?_
        refine cV_i (n := 23) (np := 2) (m_X4_whyNot hk8 true) gX4_why_X4_whyNot rfl (by decide +kernel) rfl (by decide) (by decide) (by omega) rfl rfl dX4_why_20 rfl rfl (Nat.le_of_ble_eq_true rfl) ?_
        refine r_goto (tgt := 28) dX4_why_23 (by decide) ?_
        exact e_i dX4_why_28 rfl (by simp [whyS]) rfl

set_option maxHeartbeats 4000000 in
set_option maxRecDepth 100000 in
theorem m_X4_mend_n {j : Int32} (hj : ¬ isSm (M.1 10) j) {w x : Int32} : C_X4_mend cA ad D [.ref (ad 4), .int j, .int w, .int x] M (Ri IA M) := by
  refine PM_of (lv := [some (.ref (ad 4)), some (.int j), some (.int w), some (.int x)]) (by decide +kernel) rfl (Nat.le_of_ble_eq_true rfl) rfl ?_
  refine r_al0 (n := 1) dX4_mend_0 rfl ?_
  refine r_il1 (n := 2) dX4_mend_1 rfl ?_
  refine cV_i (n := 5) (np := 1) (m_X4_isSmithy_n hj) gX4_mend_X4_isSmithy rfl (by decide +kernel) rfl (by decide) (by decide) (by omega) rfl rfl dX4_mend_2 rfl rfl (Nat.le_of_ble_eq_true rfl) ?_
  refine r_if_eq (tgt := 26) (n := 8) dX4_mend_5 (by decide) rfl (fun c_5 => ?_) (fun c_5 => ?_)
  · try replace c_5 := i10 c_5
    refine r_ldc (n := 28) dX4_mend_26 k_X4_mend_57 rfl ?_
    exact e_i dX4_mend_28 rfl rfl rfl
  · exact absurd c_5 (fun q => q rfl)

set_option maxHeartbeats 4000000 in
set_option maxRecDepth 100000 in
theorem m_X4_mend_s {N : Nat} (hN : M.1 10 0 = nI N) (h8 : N ≤ 8) {k : Nat} (hk : k < N) {w x : Int32} : C_X4_mend cA ad D [.ref (ad 4), .int (nI k), .int w, .int x] M (Ri (mndM (M.1 10) k w x) M) := by
  refine PM_of (lv := [some (.ref (ad 4)), some (.int (nI k)), some (.int w), some (.int x)]) (by decide +kernel) rfl (Nat.le_of_ble_eq_true rfl) rfl ?_
  have hk8 : k < 8 := by omega
  refine r_al0 (n := 1) dX4_mend_0 rfl ?_
  refine r_il1 (n := 2) dX4_mend_1 rfl ?_
  refine cV_i (n := 5) (np := 1) (m_X4_isSmithy_y hN h8 hk) gX4_mend_X4_isSmithy rfl (by decide +kernel) rfl (by decide) (by decide) (by omega) rfl rfl dX4_mend_2 rfl rfl (Nat.le_of_ble_eq_true rfl) ?_
  refine r_if_eq (tgt := 26) (n := 8) dX4_mend_5 (by decide) rfl (fun c_5 => ?_) (fun c_5 => ?_)
  · exact absurd c_5 (by decide)
  · try replace c_5 := i11 c_5
    refine r_il2 (n := 9) dX4_mend_8 rfl ?_
    refine r_iconst (v := 0) (n := 10) dX4_mend_9 (by decide) rfl ?_
    refine r_iconst (v := 1) (n := 11) dX4_mend_10 (by decide) rfl ?_
    refine cS_i (n := 14) (np := 3) (m_X4_in) gX4_mend_X4_in rfl (by decide +kernel) rfl (by decide) (by decide) dX4_mend_11 rfl rfl (Nat.le_of_ble_eq_true rfl) ?_
    refine r_if_eq (tgt := 26) (n := 17) dX4_mend_14 (by decide) rfl (fun c_14 => ?_) (fun c_14 => ?_)
    · replace c_14 := bI_0 c_14
      refine r_ldc (n := 28) dX4_mend_26 k_X4_mend_57 rfl ?_
      exact e_i dX4_mend_28 rfl (by simp [mndM, *]) rfl
    · replace c_14 := bI_1 c_14
      refine r_il3 (n := 18) dX4_mend_17 rfl ?_
      refine r_iconst (v := 0) (n := 19) dX4_mend_18 (by decide) rfl ?_
      refine r_iconst (v := 3) (n := 20) dX4_mend_19 (by decide) rfl ?_
      refine cS_i (n := 23) (np := 3) (m_X4_in) gX4_mend_X4_in rfl (by decide +kernel) rfl (by decide) (by decide) dX4_mend_20 rfl rfl (Nat.le_of_ble_eq_true rfl) ?_
      refine r_if_ne (tgt := 29) (n := 26) dX4_mend_23 (by decide) rfl (fun c_23 => ?_) (fun c_23 => ?_)
      · replace c_23 := bI_1 c_23
        have hw0 := c_14
        rcases rng01 c_14 with hw | hw
        · subst hw
          refine r_il3 (n := 30) dX4_mend_29 rfl ?_
          refine r_if_ne (tgt := 40) (n := 33) dX4_mend_30 (by decide) rfl (fun c_30 => ?_) (fun c_30 => ?_)
          · refine r_il3 (n := 41) dX4_mend_40 rfl ?_
            refine r_iconst (v := 1) (n := 42) dX4_mend_41 (by decide) rfl ?_
            refine r_icmp_ne (tgt := 54) (n := 45) dX4_mend_42 (by decide) rfl (fun c_42 => ?_) (fun c_42 => ?_)
            · refine r_il3 (n := 55) dX4_mend_54 rfl ?_
              refine r_iconst (v := 2) (n := 56) dX4_mend_55 (by decide) rfl ?_
              refine r_icmp_ne (tgt := 68) (n := 59) dX4_mend_56 (by decide) rfl (fun c_56 => ?_) (fun c_56 => ?_)
              · refine r_il2 (n := 69) dX4_mend_68 rfl ?_
                refine r_iconst (v := 1) (n := 70) dX4_mend_69 (by decide) rfl ?_
                refine r_icmp_ne (tgt := 77) (n := 73) dX4_mend_70 (by decide) rfl (fun c_70 => ?_) (fun c_70 => ?_)
                · refine r_al0 (n := 78) dX4_mend_77 rfl ?_
                  refine r_il1 (n := 79) dX4_mend_78 rfl ?_
                  refine r_iconst (v := 2) (n := 80) dX4_mend_79 (by decide) rfl ?_
                  refine cV_i (n := 83) (np := 2) (m_X4_of (k := k) (j := 2) hk8 (by decide)) gX4_mend_X4_of rfl (by decide +kernel) rfl (by decide) (by decide) (by omega) rfl rfl dX4_mend_80 rfl rfl (Nat.le_of_ble_eq_true rfl) ?_
                  refine r_iconst (v := 3) (n := 84) dX4_mend_83 (by decide) rfl ?_
                  refine r_idiv (n := 85) dX4_mend_84 (by decide) rfl ?_
                  exact e_i dX4_mend_85 rfl (by rw [mndM, if_pos hw0, if_pos c_23]; simp [mnT, wearBM, *]) rfl
                · exact absurd c_70 (by decide)
              · refine r_al0 (n := 60) dX4_mend_59 rfl ?_
                refine r_il1 (n := 61) dX4_mend_60 rfl ?_
                refine r_il2 (n := 62) dX4_mend_61 rfl ?_
                refine cV_i (n := 65) (np := 2) (m_X4_owes hk8 false) gX4_mend_X4_owes rfl (by decide +kernel) rfl (by decide) (by decide) (by omega) rfl rfl dX4_mend_62 rfl rfl (Nat.le_of_ble_eq_true rfl) ?_
                refine r_goto (tgt := 85) dX4_mend_65 (by decide) ?_
                exact e_i dX4_mend_85 rfl (by rw [mndM, if_pos hw0, if_pos c_23]; simp [mnT, wearBM, *]) rfl
            · refine r_al0 (n := 46) dX4_mend_45 rfl ?_
              refine r_il1 (n := 47) dX4_mend_46 rfl ?_
              refine r_il2 (n := 48) dX4_mend_47 rfl ?_
              refine cV_i (n := 51) (np := 2) (m_X4_leatherOf hk8 false) gX4_mend_X4_leatherOf rfl (by decide +kernel) rfl (by decide) (by decide) (by omega) rfl rfl dX4_mend_48 rfl rfl (Nat.le_of_ble_eq_true rfl) ?_
              refine r_goto (tgt := 85) dX4_mend_51 (by decide) ?_
              exact e_i dX4_mend_85 rfl (by rw [mndM, if_pos hw0, if_pos c_23]; simp [mnT, wearBM, *]) rfl
          · refine r_il2 (n := 34) dX4_mend_33 rfl ?_
            refine cS_i (n := 37) (np := 1) (m_X4_hoursOf false) gX4_mend_X4_hoursOf rfl (by decide +kernel) rfl (by decide) (by decide) dX4_mend_34 rfl rfl (Nat.le_of_ble_eq_true rfl) ?_
            refine r_goto (tgt := 85) dX4_mend_37 (by decide) ?_
            exact e_i dX4_mend_85 rfl (by rw [mndM, if_pos hw0, if_pos c_23]; simp [mnT, wearBM, *]) rfl
        · subst hw
          refine r_il3 (n := 30) dX4_mend_29 rfl ?_
          refine r_if_ne (tgt := 40) (n := 33) dX4_mend_30 (by decide) rfl (fun c_30 => ?_) (fun c_30 => ?_)
          · refine r_il3 (n := 41) dX4_mend_40 rfl ?_
            refine r_iconst (v := 1) (n := 42) dX4_mend_41 (by decide) rfl ?_
            refine r_icmp_ne (tgt := 54) (n := 45) dX4_mend_42 (by decide) rfl (fun c_42 => ?_) (fun c_42 => ?_)
            · refine r_il3 (n := 55) dX4_mend_54 rfl ?_
              refine r_iconst (v := 2) (n := 56) dX4_mend_55 (by decide) rfl ?_
              refine r_icmp_ne (tgt := 68) (n := 59) dX4_mend_56 (by decide) rfl (fun c_56 => ?_) (fun c_56 => ?_)
              · refine r_il2 (n := 69) dX4_mend_68 rfl ?_
                refine r_iconst (v := 1) (n := 70) dX4_mend_69 (by decide) rfl ?_
                refine r_icmp_ne (tgt := 77) (n := 73) dX4_mend_70 (by decide) rfl (fun c_70 => ?_) (fun c_70 => ?_)
                · exact absurd c_70 (fun q => q rfl)
                · refine r_iconst (v := 0) (n := 74) dX4_mend_73 (by decide) rfl ?_
                  refine r_goto (tgt := 85) dX4_mend_74 (by decide) ?_
                  exact e_i dX4_mend_85 rfl (by rw [mndM, if_pos hw0, if_pos c_23]; simp [mnT, wearBM, *]) rfl
              · refine r_al0 (n := 60) dX4_mend_59 rfl ?_
                refine r_il1 (n := 61) dX4_mend_60 rfl ?_
                refine r_il2 (n := 62) dX4_mend_61 rfl ?_
                refine cV_i (n := 65) (np := 2) (m_X4_owes hk8 true) gX4_mend_X4_owes rfl (by decide +kernel) rfl (by decide) (by decide) (by omega) rfl rfl dX4_mend_62 rfl rfl (Nat.le_of_ble_eq_true rfl) ?_
                refine r_goto (tgt := 85) dX4_mend_65 (by decide) ?_
                exact e_i dX4_mend_85 rfl (by rw [mndM, if_pos hw0, if_pos c_23]; simp [mnT, wearBM, *]) rfl
            · refine r_al0 (n := 46) dX4_mend_45 rfl ?_
              refine r_il1 (n := 47) dX4_mend_46 rfl ?_
              refine r_il2 (n := 48) dX4_mend_47 rfl ?_
              refine cV_i (n := 51) (np := 2) (m_X4_leatherOf hk8 true) gX4_mend_X4_leatherOf rfl (by decide +kernel) rfl (by decide) (by decide) (by omega) rfl rfl dX4_mend_48 rfl rfl (Nat.le_of_ble_eq_true rfl) ?_
              refine r_goto (tgt := 85) dX4_mend_51 (by decide) ?_
              exact e_i dX4_mend_85 rfl (by rw [mndM, if_pos hw0, if_pos c_23]; simp [mnT, wearBM, *]) rfl
          · refine r_il2 (n := 34) dX4_mend_33 rfl ?_
            refine cS_i (n := 37) (np := 1) (m_X4_hoursOf true) gX4_mend_X4_hoursOf rfl (by decide +kernel) rfl (by decide) (by decide) dX4_mend_34 rfl rfl (Nat.le_of_ble_eq_true rfl) ?_
            refine r_goto (tgt := 85) dX4_mend_37 (by decide) ?_
            exact e_i dX4_mend_85 rfl (by rw [mndM, if_pos hw0, if_pos c_23]; simp [mnT, wearBM, *]) rfl
      · replace c_23 := bI_0 c_23
        refine r_ldc (n := 28) dX4_mend_26 k_X4_mend_57 rfl ?_
        exact e_i dX4_mend_28 rfl (by simp [mndM, *]) rfl

set_option maxHeartbeats 4000000 in
set_option maxRecDepth 100000 in
theorem m_X4_coldIn_n {j : Int32} (hj : ¬ isSm (M.1 10) j) : C_X4_coldIn cA ad D [.ref (ad 4), .int j] M (Ri IA M) := by
  refine PM_of (lv := [some (.ref (ad 4)), some (.int j)]) (by decide +kernel) rfl (Nat.le_of_ble_eq_true rfl) rfl ?_
  refine r_al0 (n := 1) dX4_coldIn_0 rfl ?_
  refine r_il1 (n := 2) dX4_coldIn_1 rfl ?_
  refine cV_i (n := 5) (np := 1) (m_X4_isSmithy_n hj) gX4_coldIn_X4_isSmithy rfl (by decide +kernel) rfl (by decide) (by decide) (by omega) rfl rfl dX4_coldIn_2 rfl rfl (Nat.le_of_ble_eq_true rfl) ?_
  refine r_if_eq (tgt := 16) (n := 8) dX4_coldIn_5 (by decide) rfl (fun c_5 => ?_) (fun c_5 => ?_)
  · try replace c_5 := i10 c_5
    refine r_ldc (n := 18) dX4_coldIn_16 k_X4_coldIn_57 rfl ?_
    exact e_i dX4_coldIn_18 rfl rfl rfl
  · exact absurd c_5 (fun q => q rfl)

set_option maxHeartbeats 4000000 in
set_option maxRecDepth 100000 in
theorem m_X4_coldIn_s {N : Nat} (hN : M.1 10 0 = nI N) (h8 : N ≤ 8) {k : Nat} (hk : k < N) : C_X4_coldIn cA ad D [.ref (ad 4), .int (nI k)] M (Ri (cdM (M.1 10) k) (setp M 13 (cpN (M.1 13) (M.1 10) 78))) := by
  refine PM_of (lv := [some (.ref (ad 4)), some (.int (nI k))]) (by decide +kernel) rfl (Nat.le_of_ble_eq_true rfl) rfl ?_
  have hk8 : k < 8 := by omega
  refine r_al0 (n := 1) dX4_coldIn_0 rfl ?_
  refine r_il1 (n := 2) dX4_coldIn_1 rfl ?_
  refine cV_i (n := 5) (np := 1) (m_X4_isSmithy_y hN h8 hk) gX4_coldIn_X4_isSmithy rfl (by decide +kernel) rfl (by decide) (by decide) (by omega) rfl rfl dX4_coldIn_2 rfl rfl (Nat.le_of_ble_eq_true rfl) ?_
  refine r_if_eq (tgt := 16) (n := 8) dX4_coldIn_5 (by decide) rfl (fun c_5 => ?_) (fun c_5 => ?_)
  · exact absurd c_5 (by decide)
  · try replace c_5 := i11 c_5
    refine r_al0 (n := 9) dX4_coldIn_8 rfl ?_
    refine r_il1 (n := 10) dX4_coldIn_9 rfl ?_
    refine cV_i (n := 13) (np := 1) (m_X4_coldDays hk8) gX4_coldIn_X4_coldDays rfl (by decide +kernel) rfl (by decide) (by decide) (by omega) rfl rfl dX4_coldIn_10 rfl rfl (Nat.le_of_ble_eq_true rfl) ?_
    refine r_goto (tgt := 18) dX4_coldIn_13 (by decide) ?_
    exact e_i dX4_coldIn_18 rfl rfl rfl

set_option maxHeartbeats 4000000 in
set_option maxRecDepth 100000 in
theorem m_X4_count {N : Nat} (hN : M.1 10 0 = nI N) (h8 : N ≤ 8) {w : Int32} : C_X4_count cA ad D [.ref (ad 4), .int w] M (Ri (cntM (M.1 10) N (M.1 9 0) (M.1 9 2) w) M) := by
  refine PM_of (lv := [some (.ref (ad 4)), some (.int w)]) (by decide +kernel) rfl (Nat.le_of_ble_eq_true rfl) rfl ?_
  refine r_il1 (n := 1) dX4_count_0 rfl ?_
  by_cases h_0 : w = 0
  · subst h_0
    refine r_tableIn (tgt := 72) dX4_count_1 (by decide) (by decide) rfl (by decide) ?_
    refine r_al0 (n := 73) dX4_count_72 rfl ?_
    refine g_mo_s (n := 76)  in_X4_count_wsX40 k_X4_count_7 dX4_count_73 rfl ?_
    refine r_il1 (n := 77) dX4_count_76 rfl ?_
    refine a_s (n := 78) (k := 0) rfl (by decide) dX4_count_77 rfl ?_
    exact e_i dX4_count_78 rfl (by simp [cntM]) rfl
  by_cases h_1 : w = 1
  · subst h_1
    refine r_tableIn (tgt := 72) dX4_count_1 (by decide) (by decide) rfl (by decide) ?_
    refine r_al0 (n := 73) dX4_count_72 rfl ?_
    refine g_mo_s (n := 76)  in_X4_count_wsX40 k_X4_count_7 dX4_count_73 rfl ?_
    refine r_il1 (n := 77) dX4_count_76 rfl ?_
    refine a_s (n := 78) (k := 1) rfl (by decide) dX4_count_77 rfl ?_
    exact e_i dX4_count_78 rfl (by simp [cntM]) rfl
  by_cases h_2 : w = 2
  · subst h_2
    refine r_tableIn (tgt := 72) dX4_count_1 (by decide) (by decide) rfl (by decide) ?_
    refine r_al0 (n := 73) dX4_count_72 rfl ?_
    refine g_mo_s (n := 76)  in_X4_count_wsX40 k_X4_count_7 dX4_count_73 rfl ?_
    refine r_il1 (n := 77) dX4_count_76 rfl ?_
    refine a_s (n := 78) (k := 2) rfl (by decide) dX4_count_77 rfl ?_
    exact e_i dX4_count_78 rfl (by simp [cntM]) rfl
  by_cases h_3 : w = 3
  · subst h_3
    refine r_tableIn (tgt := 72) dX4_count_1 (by decide) (by decide) rfl (by decide) ?_
    refine r_al0 (n := 73) dX4_count_72 rfl ?_
    refine g_mo_s (n := 76)  in_X4_count_wsX40 k_X4_count_7 dX4_count_73 rfl ?_
    refine r_il1 (n := 77) dX4_count_76 rfl ?_
    refine a_s (n := 78) (k := 3) rfl (by decide) dX4_count_77 rfl ?_
    exact e_i dX4_count_78 rfl (by simp [cntM]) rfl
  by_cases h_4 : w = 4
  · subst h_4
    refine r_tableIn (tgt := 72) dX4_count_1 (by decide) (by decide) rfl (by decide) ?_
    refine r_al0 (n := 73) dX4_count_72 rfl ?_
    refine g_mo_s (n := 76)  in_X4_count_wsX40 k_X4_count_7 dX4_count_73 rfl ?_
    refine r_il1 (n := 77) dX4_count_76 rfl ?_
    refine a_s (n := 78) (k := 4) rfl (by decide) dX4_count_77 rfl ?_
    exact e_i dX4_count_78 rfl (by simp [cntM]) rfl
  by_cases h_5 : w = 5
  · subst h_5
    refine r_tableIn (tgt := 72) dX4_count_1 (by decide) (by decide) rfl (by decide) ?_
    refine r_al0 (n := 73) dX4_count_72 rfl ?_
    refine g_mo_s (n := 76)  in_X4_count_wsX40 k_X4_count_7 dX4_count_73 rfl ?_
    refine r_il1 (n := 77) dX4_count_76 rfl ?_
    refine a_s (n := 78) (k := 5) rfl (by decide) dX4_count_77 rfl ?_
    exact e_i dX4_count_78 rfl (by simp [cntM]) rfl
  by_cases h_6 : w = 6
  · subst h_6
    refine r_tableIn (tgt := 79) dX4_count_1 (by decide) (by decide) rfl (by decide) ?_
    refine r_al0 (n := 80) dX4_count_79 rfl ?_
    refine r_iconst (v := 5) (n := 81) dX4_count_80 (by decide) rfl ?_
    refine cV_i (n := 84) (np := 1) (m_X4_sum hN h8 (j := 5) (by decide)) gX4_count_X4_sum rfl (by decide +kernel) rfl (by decide) (by decide) (by omega) rfl rfl dX4_count_81 rfl rfl (Nat.le_of_ble_eq_true rfl) ?_
    exact e_i dX4_count_84 rfl (by simp [cntM]) rfl
  by_cases h_7 : w = 7
  · subst h_7
    refine r_tableIn (tgt := 85) dX4_count_1 (by decide) (by decide) rfl (by decide) ?_
    refine r_al0 (n := 86) dX4_count_85 rfl ?_
    refine g_mo_s (n := 89)  in_X4_count_wsX40 k_X4_count_7 dX4_count_86 rfl ?_
    refine r_il1 (n := 90) dX4_count_89 rfl ?_
    refine r_iconst (v := 1) (n := 91) dX4_count_90 (by decide) rfl ?_
    refine r_isub (n := 92) dX4_count_91 rfl ?_
    rw [show (7 : Int32) - 1 = nI 6 from by decide]
    refine a_s (n := 93) (k := 6) rfl (by decide) dX4_count_92 rfl ?_
    exact e_i dX4_count_93 rfl (by simp [cntM]) rfl
  by_cases h_8 : w = 8
  · subst h_8
    refine r_tableIn (tgt := 85) dX4_count_1 (by decide) (by decide) rfl (by decide) ?_
    refine r_al0 (n := 86) dX4_count_85 rfl ?_
    refine g_mo_s (n := 89)  in_X4_count_wsX40 k_X4_count_7 dX4_count_86 rfl ?_
    refine r_il1 (n := 90) dX4_count_89 rfl ?_
    refine r_iconst (v := 1) (n := 91) dX4_count_90 (by decide) rfl ?_
    refine r_isub (n := 92) dX4_count_91 rfl ?_
    rw [show (8 : Int32) - 1 = nI 7 from by decide]
    refine a_s (n := 93) (k := 7) rfl (by decide) dX4_count_92 rfl ?_
    exact e_i dX4_count_93 rfl (by simp [cntM]) rfl
  by_cases h_9 : w = 9
  · subst h_9
    refine r_tableIn (tgt := 94) dX4_count_1 (by decide) (by decide) rfl (by decide) ?_
    refine r_al0 (n := 95) dX4_count_94 rfl ?_
    refine cV_i (n := 98) (np := 0) (m_X4_coldOnes hN h8) gX4_count_X4_coldOnes rfl (by decide +kernel) rfl (by decide) (by decide) (by omega) rfl rfl dX4_count_95 rfl rfl (Nat.le_of_ble_eq_true rfl) ?_
    exact e_i dX4_count_98 rfl (by simp [cntM]) rfl
  by_cases h_10 : w = 10
  · subst h_10
    refine r_tableIn (tgt := 99) dX4_count_1 (by decide) (by decide) rfl (by decide) ?_
    refine r_al0 (n := 100) dX4_count_99 rfl ?_
    refine g_mo_s (n := 103)  in_X4_count_wsX40 k_X4_count_7 dX4_count_100 rfl ?_
    refine r_bipush (v := 8) (n := 105) dX4_count_103 (by decide) rfl ?_
    refine a_s (n := 106) (k := 8) (by decide) (by decide) dX4_count_105 rfl ?_
    exact e_i dX4_count_106 rfl (by simp [cntM]) rfl
  by_cases h_11 : w = 11
  · subst h_11
    refine r_tableIn (tgt := 107) dX4_count_1 (by decide) (by decide) rfl (by decide) ?_
    refine r_al0 (n := 108) dX4_count_107 rfl ?_
    refine g_mo_s (n := 111)  in_X4_count_wsX40 k_X4_count_7 dX4_count_108 rfl ?_
    refine r_bipush (v := 9) (n := 113) dX4_count_111 (by decide) rfl ?_
    refine a_s (n := 114) (k := 9) (by decide) (by decide) dX4_count_113 rfl ?_
    exact e_i dX4_count_114 rfl (by simp [cntM]) rfl
  by_cases h_12 : w = 12
  · subst h_12
    refine r_tableIn (tgt := 115) dX4_count_1 (by decide) (by decide) rfl (by decide) ?_
    refine r_al0 (n := 116) dX4_count_115 rfl ?_
    refine g_mo_pasts (n := 119)  in_X4_count_wsX40 k_X4_count_29 dX4_count_116 rfl ?_
    exact e_i dX4_count_119 rfl (by simp [cntM]) rfl
  by_cases h_13 : w = 13
  · subst h_13
    refine r_tableIn (tgt := 120) dX4_count_1 (by decide) (by decide) rfl (by decide) ?_
    refine r_al0 (n := 121) dX4_count_120 rfl ?_
    refine g_mo_typed (n := 124)  in_X4_count_wsX40 k_X4_count_129 dX4_count_121 rfl ?_
    exact e_i dX4_count_124 rfl (by simp [cntM]) rfl
  refine r_tableOut (tgt := 125) dX4_count_1 (sw_out (lo := 0) (hi := 13) (by decide) (by decide) (fun k h1 h2 => by
    have hk : k = 0 ∨ k = 1 ∨ k = 2 ∨ k = 3 ∨ k = 4 ∨ k = 5 ∨ k = 6 ∨ k = 7 ∨ k = 8 ∨ k = 9 ∨ k = 10 ∨ k = 11 ∨ k = 12 ∨ k = 13 := by omega
    rcases hk with rfl | rfl | rfl | rfl | rfl | rfl | rfl | rfl | rfl | rfl | rfl | rfl | rfl | rfl
    · exact h_0
    · exact h_1
    · exact h_2
    · exact h_3
    · exact h_4
    · exact h_5
    · exact h_6
    · exact h_7
    · exact h_8
    · exact h_9
    · exact h_10
    · exact h_11
    · exact h_12
    · exact h_13
    )) (by decide) ?_
  refine r_il1 (n := 126) dX4_count_125 rfl ?_
  refine r_bipush (v := 20) (n := 128) dX4_count_126 (by decide) rfl ?_
  refine r_bipush (v := 23) (n := 130) dX4_count_128 (by decide) rfl ?_
  refine cS_i (n := 133) (np := 3) (m_X4_in) gX4_count_X4_in rfl (by decide +kernel) rfl (by decide) (by decide) dX4_count_130 rfl rfl (Nat.le_of_ble_eq_true rfl) ?_
  refine r_if_eq (tgt := 151) (n := 136) dX4_count_133 (by decide) rfl (fun c_133 => ?_) (fun c_133 => ?_)
  · replace c_133 := bI_0 c_133
    refine r_ldc (n := 153) dX4_count_151 k_X4_count_57 rfl ?_
    exact e_i dX4_count_153 rfl (by simp only [cntM, h_0, h_1, h_2, h_3, h_4, h_5, h_6, h_7, h_8, h_9, h_10, h_11, h_12, h_13, if_false]; rw [if_neg (by rw [c_133]; decide)]) rfl
  · replace c_133 := bI_1 c_133
    obtain ⟨j, hj1, hj2, hw, hcl⟩ := rng_nI (a := 20) (b := 23) (by decide) c_133 (by decide)
    have eS : cntM (M.1 10) N (M.1 9 0) (M.1 9 2) w = M.1 10 (10 + j - 20) := by
      simp only [cntM, h_0, h_1, h_2, h_3, h_4, h_5, h_6, h_7, h_8, h_9, h_10, h_11, h_12, h_13, if_false]
      rw [if_pos c_133, hcl]
    rw [eS, hw]
    refine r_al0 (n := 137) dX4_count_136 rfl ?_
    refine g_mo_s (n := 140)  in_X4_count_wsX40 k_X4_count_7 dX4_count_137 rfl ?_
    refine r_bipush (v := 10) (n := 142) dX4_count_140 (by decide) rfl ?_
    refine r_il1 (n := 143) dX4_count_142 rfl ?_
    refine r_iadd (n := 144) dX4_count_143 rfl ?_
    refine r_bipush (v := 20) (n := 146) dX4_count_144 (by decide) rfl ?_
    refine r_isub (n := 147) dX4_count_146 rfl ?_
    rw [show (10 : Int32) = nI 10 from rfl, nI_add, show (20 : Int32) = nI 20 from rfl, pk_sub (by omega)]
    refine a_s (n := 148) (k := 10 + j - 20) rfl (by omega) dX4_count_147 rfl ?_
    refine r_goto (tgt := 153) dX4_count_148 (by decide) ?_
    exact e_i dX4_count_153 rfl rfl rfl

set_option maxHeartbeats 4000000 in
set_option maxRecDepth 100000 in
theorem m_X4_round {N : Nat} (hN : M.1 10 0 = nI N) (h8 : N ≤ 8) {s w : Int32} {P : Nat → Int32 → Prop} (hG : GdM (M.1 10) N P) (hP : rng s 1 ((1 : Int32) <<< (M.1 10 0 &&& 31) - 1) = true → P 8 s) : C_X4_round cA ad D [.ref (ad 4), .int s, .int w] M (Ri (rndM (M.1 10) N s w) M) := by
  refine PM_of (lv := [some (.ref (ad 4)), some (.int s), some (.int w), none, none, none, none, none, none, none]) (by decide +kernel) rfl (Nat.le_of_ble_eq_true rfl) rfl ?_
  refine r_il1 (n := 1) dX4_round_0 rfl ?_
  refine r_iconst (v := 1) (n := 2) dX4_round_1 (by decide) rfl ?_
  refine r_iconst (v := 1) (n := 3) dX4_round_2 (by decide) rfl ?_
  refine r_al0 (n := 4) dX4_round_3 rfl ?_
  refine g_mo_s (n := 7)  in_X4_round_wsX40 k_X4_round_7 dX4_round_4 rfl ?_
  refine r_iconst (v := 0) (n := 8) dX4_round_7 (by decide) rfl ?_
  refine a_s (n := 9) (k := 0) (by decide) (by decide) dX4_round_8 rfl ?_
  refine r_ishl (n := 10) dX4_round_9 rfl ?_
  refine r_iconst (v := 1) (n := 11) dX4_round_10 (by decide) rfl ?_
  refine r_isub (n := 12) dX4_round_11 rfl ?_
  refine cS_i (n := 15) (np := 3) (m_X4_in) gX4_round_X4_in rfl (by decide +kernel) rfl (by decide) (by decide) dX4_round_12 rfl rfl (Nat.le_of_ble_eq_true rfl) ?_
  refine r_if_eq (tgt := 27) (n := 18) dX4_round_15 (by decide) rfl (fun c_15 => ?_) (fun c_15 => ?_)
  · replace c_15 := bI_0 c_15
    refine r_ldc (n := 29) dX4_round_27 k_X4_round_57 rfl ?_
    exact e_i dX4_round_29 rfl (by first | (rw [rndM, if_neg (by rw [c_15]; decide)]) | (rw [rndM, if_pos c_15, if_neg (by rw [c_24]; decide)])) rfl
  · replace c_15 := bI_1 c_15
    refine r_il2 (n := 19) dX4_round_18 rfl ?_
    refine r_iconst (v := 0) (n := 20) dX4_round_19 (by decide) rfl ?_
    refine r_iconst (v := 2) (n := 21) dX4_round_20 (by decide) rfl ?_
    refine cS_i (n := 24) (np := 3) (m_X4_in) gX4_round_X4_in rfl (by decide +kernel) rfl (by decide) (by decide) dX4_round_21 rfl rfl (Nat.le_of_ble_eq_true rfl) ?_
    refine r_if_ne (tgt := 30) (n := 27) dX4_round_24 (by decide) rfl (fun c_24 => ?_) (fun c_24 => ?_)
    · replace c_24 := bI_1 c_24
      refine r_iconst (v := 0) (n := 31) dX4_round_30 (by decide) rfl ?_
      refine r_is3 (n := 32) (by decide) rfl dX4_round_31 rfl ?_
      refine r_iconst (v := 0) (n := 33) dX4_round_32 (by decide) rfl ?_
      refine r_is4 (n := 35) (by decide) rfl dX4_round_33 rfl ?_
      refine r_iconst (v := 0) (n := 36) dX4_round_35 (by decide) rfl ?_
      refine r_is5 (n := 38) (by decide) rfl dX4_round_36 rfl ?_
      refine r_al0 (n := 39) dX4_round_38 rfl ?_
      refine g_mo_s (n := 42)  in_X4_round_wsX40 k_X4_round_7 dX4_round_39 rfl ?_
      refine r_iconst (v := 2) (n := 43) dX4_round_42 (by decide) rfl ?_
      refine a_s (n := 44) (k := 2) (by decide) (by decide) dX4_round_43 rfl ?_
      refine r_is6 (n := 46) (by decide) rfl dX4_round_44 rfl ?_
      refine r_il1 (n := 47) dX4_round_46 rfl ?_
      refine r_is7 (n := 49) (by decide) rfl dX4_round_47 rfl ?_
      have eS : rndM (M.1 10) N s w = rdW (rdM (M.1 10) N 8 s (M.1 10 2) (0, 0, 0)) w := by rw [rndM, if_pos c_15, if_pos c_24]
      rw [eS]
      exact l_X4_round hN h8 hG 8 s (M.1 10 2) (0, 0, 0) (hP c_15)
    · replace c_24 := bI_0 c_24
      refine r_ldc (n := 29) dX4_round_27 k_X4_round_57 rfl ?_
      exact e_i dX4_round_29 rfl (by first | (rw [rndM, if_neg (by rw [c_15]; decide)]) | (rw [rndM, if_pos c_15, if_neg (by rw [c_24]; decide)])) rfl

set_option maxHeartbeats 4000000 in
set_option maxRecDepth 100000 in
theorem l_X4_undo (v : Vec) {h : Nat} (hh : M.1 9 0 = nI h) (h4 : h < 4) : ∀ (m i : Nat), i + m = 78 → P_X4_undo cA ad D 22 [some (.ref (ad 4)), some (.int (nI i))] [] (setp M 10 (unN v (M.1 11) (78 * h) i)) (Ri (nI h) (setp M 10 (unN v (M.1 11) (78 * h) 78))) := by
  intro m
  induction m with
  | zero =>
    intro i hi
    have hi2 : i = 78 := by omega
    subst hi2
    refine r_il1 (n := 23) dX4_undo_22 rfl ?_
    refine r_bipush (v := 78) (n := 25) dX4_undo_23 (by decide) rfl ?_
    refine r_icmp_ge (tgt := 54) (n := 28) dX4_undo_25 (by decide) rfl (fun c_25 => ?_) (fun c_25 => ?_)
    · refine r_al0 (n := 55) dX4_undo_54 rfl ?_
      refine g_mo_pasts (n := 58)  in_X4_undo_wsX40 k_X4_undo_29 dX4_undo_55 rfl ?_
      exact e_i dX4_undo_58 rfl (by rw [setp_ne _ _ (by decide), hh]) rfl
    · exact absurd c_25 (fun q => q (by decide))
  | succ m ih =>
    intro i hi
    refine r_il1 (n := 23) dX4_undo_22 rfl ?_
    refine r_bipush (v := 78) (n := 25) dX4_undo_23 (by decide) rfl ?_
    refine r_icmp_ge (tgt := 54) (n := 28) dX4_undo_25 (by decide) rfl (fun c_25 => ?_) (fun c_25 => ?_)
    · exact absurd c_25 (nI_ge (a := i) (b := 78) (by omega) (by omega))
    · refine r_al0 (n := 29) dX4_undo_28 rfl ?_
      refine g_mo_s (n := 32)  in_X4_undo_wsX40 k_X4_undo_7 dX4_undo_29 rfl ?_
      refine r_il1 (n := 33) dX4_undo_32 rfl ?_
      refine r_al0 (n := 34) dX4_undo_33 rfl ?_
      refine g_mo_past (n := 37)  in_X4_undo_wsX40 k_X4_undo_13 dX4_undo_34 rfl ?_
      refine r_bipush (v := 78) (n := 39) dX4_undo_37 (by decide) rfl ?_
      refine r_al0 (n := 40) dX4_undo_39 rfl ?_
      refine g_mo_pasts (n := 43)  in_X4_undo_wsX40 k_X4_undo_29 dX4_undo_40 rfl ?_
      refine r_imul (n := 44) dX4_undo_43 rfl ?_
      refine r_il1 (n := 45) dX4_undo_44 rfl ?_
      refine r_iadd (n := 46) dX4_undo_45 rfl ?_
      refine a_past (n := 47) (k := 78 * h + i) (by rw [setp_ne _ _ (by decide), hh, show (78 : Int32) = nI 78 from rfl, pk_mul, nI_add]) (by omega) dX4_undo_46 rfl ?_
      refine a_put_s (n := 48) (k := i) rfl (by omega) dX4_undo_47 rfl ?_
      refine r_ii1 (n := 51) (by decide) rfl dX4_undo_48 (nI_inc _) rfl ?_
      refine r_goto (tgt := 22) dX4_undo_51 (by decide) ?_
      rw [setp_ne _ _ (by decide), mput_s, setp_at, setp_2, unN_s]
      exact ih (i + 1) (by omega)

set_option maxHeartbeats 4000000 in
set_option maxRecDepth 100000 in
theorem m_X4_undo_0 (hh : M.1 9 0 = nI 0) : C_X4_undo cA ad D [.ref (ad 4)] M (Ri NP M) := by
  refine PM_of (lv := [some (.ref (ad 4)), none]) (by decide +kernel) rfl (Nat.le_of_ble_eq_true rfl) rfl ?_
  refine r_al0 (n := 1) dX4_undo_0 rfl ?_
  refine g_mo_pasts (n := 4)  in_X4_undo_wsX40 k_X4_undo_29 dX4_undo_1 rfl ?_
  refine r_if_ne (tgt := 10) (n := 7) dX4_undo_4 (by decide) rfl (fun c_4 => ?_) (fun c_4 => ?_)
  · exact absurd c_4 (fun q => q hh)
  · refine r_ldc (n := 9) dX4_undo_7 k_X4_undo_71 rfl ?_
    exact e_i dX4_undo_9 rfl rfl rfl

set_option maxHeartbeats 4000000 in
set_option maxRecDepth 100000 in
theorem m_X4_undo_s {h : Nat} (hh : M.1 9 0 = nI (h + 1)) (h4 : h < 4) : C_X4_undo cA ad D [.ref (ad 4)] M (Ri (nI h) (setp (mput M 9 0 (nI h)) 10 (unN (M.1 10) (M.1 11) (78 * h) 78))) := by
  refine PM_of (lv := [some (.ref (ad 4)), none]) (by decide +kernel) rfl (Nat.le_of_ble_eq_true rfl) rfl ?_
  refine r_al0 (n := 1) dX4_undo_0 rfl ?_
  refine g_mo_pasts (n := 4)  in_X4_undo_wsX40 k_X4_undo_29 dX4_undo_1 rfl ?_
  refine r_if_ne (tgt := 10) (n := 7) dX4_undo_4 (by decide) rfl (fun c_4 => ?_) (fun c_4 => ?_)
  · refine r_al0 (n := 11) dX4_undo_10 rfl ?_
    refine r_dup (n := 12) dX4_undo_11 rfl rfl ?_
    refine g_mo_pasts (n := 15)  in_X4_undo_wsX40 k_X4_undo_29 dX4_undo_12 rfl ?_
    refine r_iconst (v := 1) (n := 16) dX4_undo_15 (by decide) rfl ?_
    refine r_isub (n := 17) dX4_undo_16 rfl ?_
    rw [hh, nI_pred]
    refine p_mo_pasts (n := 20)  in_X4_undo_wsX40 k_X4_undo_29 dX4_undo_17 rfl ?_
    refine r_iconst (v := 0) (n := 21) dX4_undo_20 (by decide) rfl ?_
    refine r_is1 (n := 22) (by decide) rfl dX4_undo_21 rfl ?_
    have k := l_X4_undo (cA := cA) (ad := ad) (D := D) (M := mput M 9 0 (nI h)) (M.1 10) mput_at h4 78 0 (by omega)
    rw [unN_0, mput_ne (show 11 ≠ 9 by decide)] at k
    have e1 : setp (mput M 9 0 (nI h)) 10 (M.1 10) = mput M 9 0 (nI h) := by
      have q := setp_self (mput M 9 0 (nI h)) 10
      rw [mput_ne (show 10 ≠ 9 by decide)] at q
      exact q
    rw [e1] at k
    exact k
  · exact absurd c_4 (by rw [hh]; exact nI_ne0 (by omega) (by omega))

set_option maxHeartbeats 4000000 in
set_option maxRecDepth 100000 in
theorem m_X4_type_r {v : Int32} (hb : rng v 32 126 = false) : C_X4_type cA ad D [.ref (ad 4), .int v] M (Ri IA M) := by
  refine PM_of (lv := [some (.ref (ad 4)), some (.int v)]) (by decide +kernel) rfl (Nat.le_of_ble_eq_true rfl) rfl ?_
  refine r_il1 (n := 1) dX4_type_0 rfl ?_
  refine r_bipush (v := 32) (n := 3) dX4_type_1 (by decide) rfl ?_
  refine r_bipush (v := 126) (n := 5) dX4_type_3 (by decide) rfl ?_
  refine cS_i (n := 8) (np := 3) (m_X4_in) gX4_type_X4_in rfl (by decide +kernel) rfl (by decide) (by decide) dX4_type_5 rfl rfl (Nat.le_of_ble_eq_true rfl) ?_
  refine r_if_ne (tgt := 14) (n := 11) dX4_type_8 (by decide) rfl (fun c_8 => ?_) (fun c_8 => ?_)
  · replace c_8 := bI_1 c_8
    rw [hb] at c_8
    cases c_8
  · replace c_8 := bI_0 c_8
    refine r_ldc (n := 13) dX4_type_11 k_X4_type_57 rfl ?_
    exact e_i dX4_type_13 rfl rfl rfl

set_option maxHeartbeats 4000000 in
set_option maxRecDepth 100000 in
theorem m_X4_type_f (ht : M.1 9 2 = nI 60) {v : Int32} (hb : rng v 32 126 = true) : C_X4_type cA ad D [.ref (ad 4), .int v] M (Ri LR M) := by
  refine PM_of (lv := [some (.ref (ad 4)), some (.int v)]) (by decide +kernel) rfl (Nat.le_of_ble_eq_true rfl) rfl ?_
  refine r_il1 (n := 1) dX4_type_0 rfl ?_
  refine r_bipush (v := 32) (n := 3) dX4_type_1 (by decide) rfl ?_
  refine r_bipush (v := 126) (n := 5) dX4_type_3 (by decide) rfl ?_
  refine cS_i (n := 8) (np := 3) (m_X4_in) gX4_type_X4_in rfl (by decide +kernel) rfl (by decide) (by decide) dX4_type_5 rfl rfl (Nat.le_of_ble_eq_true rfl) ?_
  refine r_if_ne (tgt := 14) (n := 11) dX4_type_8 (by decide) rfl (fun c_8 => ?_) (fun c_8 => ?_)
  · replace c_8 := bI_1 c_8
    refine r_al0 (n := 15) dX4_type_14 rfl ?_
    refine g_mo_typed (n := 18)  in_X4_type_wsX40 k_X4_type_129 dX4_type_15 rfl ?_
    refine r_bipush (v := 60) (n := 20) dX4_type_18 (by decide) rfl ?_
    refine r_icmp_ne (tgt := 26) (n := 23) dX4_type_20 (by decide) rfl (fun c_20 => ?_) (fun c_20 => ?_)
    · exact absurd c_20 (fun q => q ht)
    · refine r_ldc (n := 25) dX4_type_23 k_X4_type_58 rfl ?_
      exact e_i dX4_type_25 rfl rfl rfl
  · replace c_8 := bI_0 c_8
    rw [hb] at c_8
    cases c_8

set_option maxHeartbeats 4000000 in
set_option maxRecDepth 100000 in
theorem m_X4_type_s {t : Nat} (ht : M.1 9 2 = nI t) (h60 : t < 60) {v : Int32} (hb : rng v 32 126 = true) : C_X4_type cA ad D [.ref (ad 4), .int v] M (Ri (nI (t + 1)) (mput (mput M 14 t v) 9 2 (nI (t + 1)))) := by
  refine PM_of (lv := [some (.ref (ad 4)), some (.int v)]) (by decide +kernel) rfl (Nat.le_of_ble_eq_true rfl) rfl ?_
  refine r_il1 (n := 1) dX4_type_0 rfl ?_
  refine r_bipush (v := 32) (n := 3) dX4_type_1 (by decide) rfl ?_
  refine r_bipush (v := 126) (n := 5) dX4_type_3 (by decide) rfl ?_
  refine cS_i (n := 8) (np := 3) (m_X4_in) gX4_type_X4_in rfl (by decide +kernel) rfl (by decide) (by decide) dX4_type_5 rfl rfl (Nat.le_of_ble_eq_true rfl) ?_
  refine r_if_ne (tgt := 14) (n := 11) dX4_type_8 (by decide) rfl (fun c_8 => ?_) (fun c_8 => ?_)
  · replace c_8 := bI_1 c_8
    refine r_al0 (n := 15) dX4_type_14 rfl ?_
    refine g_mo_typed (n := 18)  in_X4_type_wsX40 k_X4_type_129 dX4_type_15 rfl ?_
    refine r_bipush (v := 60) (n := 20) dX4_type_18 (by decide) rfl ?_
    refine r_icmp_ne (tgt := 26) (n := 23) dX4_type_20 (by decide) rfl (fun c_20 => ?_) (fun c_20 => ?_)
    · refine r_al0 (n := 27) dX4_type_26 rfl ?_
      refine g_mo_text (n := 30)  in_X4_type_wsX40 k_X4_type_22 dX4_type_27 rfl ?_
      refine r_al0 (n := 31) dX4_type_30 rfl ?_
      refine g_mo_typed (n := 34)  in_X4_type_wsX40 k_X4_type_129 dX4_type_31 rfl ?_
      refine r_il1 (n := 35) dX4_type_34 rfl ?_
      refine a_put_text (n := 36) ht (by omega) dX4_type_35 rfl ?_
      refine r_al0 (n := 37) dX4_type_36 rfl ?_
      refine r_dup (n := 38) dX4_type_37 rfl rfl ?_
      refine g_mo_typed (n := 41)  in_X4_type_wsX40 k_X4_type_129 dX4_type_38 rfl ?_
      refine r_iconst (v := 1) (n := 42) dX4_type_41 (by decide) rfl ?_
      refine r_iadd (n := 43) dX4_type_42 rfl ?_
      rw [mput_ne (by decide), ht, nI_1]
      refine p_mo_typed (n := 46)  in_X4_type_wsX40 k_X4_type_129 dX4_type_43 rfl ?_
      refine r_al0 (n := 47) dX4_type_46 rfl ?_
      refine g_mo_typed (n := 50)  in_X4_type_wsX40 k_X4_type_129 dX4_type_47 rfl ?_
      exact e_i dX4_type_50 rfl mput_at rfl
    · exact absurd c_20 (fun q : M.1 9 2 = 60 => absurd ((nI_eq (a := t) (b := 60) (by omega) (by omega)).mp (ht ▸ q)) (by omega))
  · replace c_8 := bI_0 c_8
    rw [hb] at c_8
    cases c_8

set_option maxHeartbeats 4000000 in
set_option maxRecDepth 100000 in
theorem m_X4_clearText : C_X4_clearText cA ad D [.ref (ad 4)] M (Ri (M.1 9 2) (mput M 9 2 0)) := by
  refine PM_of (lv := [some (.ref (ad 4)), none]) (by decide +kernel) rfl (Nat.le_of_ble_eq_true rfl) rfl ?_
  refine r_al0 (n := 1) dX4_clearText_0 rfl ?_
  refine g_mo_typed (n := 4)  in_X4_clearText_wsX40 k_X4_clearText_129 dX4_clearText_1 rfl ?_
  refine r_is1 (n := 5) (by decide) rfl dX4_clearText_4 rfl ?_
  refine r_al0 (n := 6) dX4_clearText_5 rfl ?_
  refine r_iconst (v := 0) (n := 7) dX4_clearText_6 (by decide) rfl ?_
  refine p_mo_typed (n := 10)  in_X4_clearText_wsX40 k_X4_clearText_129 dX4_clearText_7 rfl ?_
  refine r_il1 (n := 11) dX4_clearText_10 rfl ?_
  exact e_i dX4_clearText_11 rfl rfl rfl

end MQ_
