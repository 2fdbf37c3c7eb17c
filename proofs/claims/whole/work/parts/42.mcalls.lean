/-! ===== the reference: the orders' calls ===== -/
section MCALLS
variable {cA : Nat → ClassId} {ad : Nat → Nat} {D : va_G} {M : Mem}
theorem isSm_k {u : Vec} {N : Nat} (hN : u 0 = nI N) (h8 : N ≤ 8) {j : Int32} (h : isSm u j) : ∃ k, k < N ∧ j = nI k ∧ j.toNatClampNeg = k := by
  obtain ⟨h1, h2⟩ := h
  rw [hN] at h2
  have h3 : rng j (nI 0) (nI N) = true := by
    unfold rng
    rw [if_neg (show ¬ j < nI 0 from h1), if_neg (Int32.lt_asymm h2)]
  obtain ⟨k, -, hk, e1, e2⟩ := rng_nI (by omega) h3 (by decide)
  refine ⟨k, ?_, e1, e2⟩
  rcases Nat.lt_or_ge k N with q | q
  · exact q
  · exfalso
    have : k = N := by omega
    subst this
    rw [e1] at h2
    exact Int32.lt_irrefl h2
theorem m_X4_patch (hch : C_X4_changes cA ad D [.ref (ad 4)] M (Rv M)) {N : Nat} (hN : M.1 10 0 = nI N) (h8 : N ≤ 8) {j : Int32} : C_X4_patch cA ad D [.ref (ad 4), .int j] M (Ri (mendMJ (M.1 10) j false).1 (mo M M (mendMJ (M.1 10) j false).2)) := by
  by_cases hj : isSm (M.1 10) j
  · obtain ⟨k, hk, e1, e2⟩ := isSm_k hN h8 hj
    rw [mendMJ, if_pos (show ¬ j < 0 ∧ j < M.1 10 0 from hj), e2]
    rw [e1]
    exact m_X4_patch_s hch rfl hN h8 hk
  · rw [mendMJ, if_neg (show ¬ (¬ j < 0 ∧ j < M.1 10 0) from hj)]
    exact m_X4_patch_n hj
theorem m_X4_hide (hch : C_X4_changes cA ad D [.ref (ad 4)] M (Rv M)) {N : Nat} (hN : M.1 10 0 = nI N) (h8 : N ≤ 8) {j : Int32} : C_X4_hide cA ad D [.ref (ad 4), .int j] M (Ri (mendMJ (M.1 10) j true).1 (mo M M (mendMJ (M.1 10) j true).2)) := by
  by_cases hj : isSm (M.1 10) j
  · obtain ⟨k, hk, e1, e2⟩ := isSm_k hN h8 hj
    rw [mendMJ, if_pos (show ¬ j < 0 ∧ j < M.1 10 0 from hj), e2]
    rw [e1]
    exact m_X4_hide_s hch rfl hN h8 hk
  · rw [mendMJ, if_neg (show ¬ (¬ j < 0 ∧ j < M.1 10 0) from hj)]
    exact m_X4_hide_n hj
theorem m_X4_collect (hch : C_X4_changes cA ad D [.ref (ad 4)] M (Rv M)) {N : Nat} (hN : M.1 10 0 = nI N) (h8 : N ≤ 8) {j : Int32} : C_X4_collect cA ad D [.ref (ad 4), .int j] M (Ri (collMJ (M.1 10) j).1 (mo M M (collMJ (M.1 10) j).2)) := by
  by_cases hj : isSm (M.1 10) j
  · obtain ⟨k, hk, e1, e2⟩ := isSm_k hN h8 hj
    rw [collMJ, if_pos (show ¬ j < 0 ∧ j < M.1 10 0 from hj), e2]
    rw [e1]
    exact m_X4_collect_s hch rfl hN h8 hk
  · rw [collMJ, if_neg (show ¬ (¬ j < 0 ∧ j < M.1 10 0) from hj)]
    exact m_X4_collect_n hj
set_option maxHeartbeats 4000000 in
set_option maxRecDepth 100000 in
theorem m_X4_calls {N : Nat} (hN : M.1 10 0 = nI N) (h8 : N ≤ 8) (hz : ∀ w, onZ 8 (csN w N)) (hr : M.1 9 1 = 1) : C_X4_calls cA ad D [.ref (ad 4)] M (Ri (ordM (M.1 10) N (M.1 9 8) (M.1 9 9)).1 (mo M M (ordM (M.1 10) N (M.1 9 8) (M.1 9 9)).2)) := by
  refine PM_of (lv := [some (.ref (ad 4))]) (by decide +kernel) rfl (Nat.le_of_ble_eq_true rfl) rfl ?_
  refine r_al0 (n := 1) dX4_calls_0 rfl ?_
  refine g_mo_order (n := 4)  in_X4_calls_wsX40 k_X4_calls_138 dX4_calls_1 rfl ?_
  by_cases h_98 : M.1 9 8 = 98
  · have c_e := h_98
    rw [h_98]
    refine r_lookup (off := 61) (tgt := 65) dX4_calls_4 (by decide) (by decide) (by decide) ?_
    refine r_al0 (n := 66) dX4_calls_65 rfl ?_
    refine r_al0 (n := 67) dX4_calls_66 rfl ?_
    refine g_mo_number (n := 70)  in_X4_calls_wsX40 k_X4_calls_141 dX4_calls_67 rfl ?_
    refine cV_i (n := 73) (np := 1) (m_X4_buy (m_X4_changes_r hr) rfl) gX4_calls_X4_buy rfl (by decide +kernel) rfl (by decide) (by decide) (by omega) rfl rfl dX4_calls_70 rfl rfl (Nat.le_of_ble_eq_true rfl) ?_
    exact e_i dX4_calls_73 rfl (by rw [ordM, if_neg (by decide), if_pos rfl]) (by rw [ordM, if_neg (by decide), if_pos rfl])
  by_cases h_99 : M.1 9 8 = 99
  · have c_e := h_99
    rw [h_99]
    refine r_lookup (off := 88) (tgt := 92) dX4_calls_4 (by decide) (by decide) (by decide) ?_
    refine r_al0 (n := 93) dX4_calls_92 rfl ?_
    refine r_al0 (n := 94) dX4_calls_93 rfl ?_
    refine g_mo_number (n := 97)  in_X4_calls_wsX40 k_X4_calls_141 dX4_calls_94 rfl ?_
    refine cV_i (n := 100) (np := 1) (m_X4_collect (m_X4_changes_r hr) hN h8) gX4_calls_X4_collect rfl (by decide +kernel) rfl (by decide) (by decide) (by omega) rfl rfl dX4_calls_97 rfl rfl (Nat.le_of_ble_eq_true rfl) ?_
    exact e_i dX4_calls_100 rfl (by rw [ordM, if_neg (by decide), if_neg (by decide), if_neg (by decide), if_neg (by decide), if_pos rfl]) (by rw [ordM, if_neg (by decide), if_neg (by decide), if_neg (by decide), if_neg (by decide), if_pos rfl])
  by_cases h_104 : M.1 9 8 = 104
  · have c_e := h_104
    rw [h_104]
    refine r_lookup (off := 79) (tgt := 83) dX4_calls_4 (by decide) (by decide) (by decide) ?_
    refine r_al0 (n := 84) dX4_calls_83 rfl ?_
    refine r_al0 (n := 85) dX4_calls_84 rfl ?_
    refine g_mo_number (n := 88)  in_X4_calls_wsX40 k_X4_calls_141 dX4_calls_85 rfl ?_
    refine cV_i (n := 91) (np := 1) (m_X4_hide (m_X4_changes_r hr) hN h8) gX4_calls_X4_hide rfl (by decide +kernel) rfl (by decide) (by decide) (by omega) rfl rfl dX4_calls_88 rfl rfl (Nat.le_of_ble_eq_true rfl) ?_
    exact e_i dX4_calls_91 rfl (by rw [ordM, if_neg (by decide), if_neg (by decide), if_neg (by decide), if_pos rfl]) (by rw [ordM, if_neg (by decide), if_neg (by decide), if_neg (by decide), if_pos rfl])
  by_cases h_112 : M.1 9 8 = 112
  · have c_e := h_112
    rw [h_112]
    refine r_lookup (off := 70) (tgt := 74) dX4_calls_4 (by decide) (by decide) (by decide) ?_
    refine r_al0 (n := 75) dX4_calls_74 rfl ?_
    refine r_al0 (n := 76) dX4_calls_75 rfl ?_
    refine g_mo_number (n := 79)  in_X4_calls_wsX40 k_X4_calls_141 dX4_calls_76 rfl ?_
    refine cV_i (n := 82) (np := 1) (m_X4_patch (m_X4_changes_r hr) hN h8) gX4_calls_X4_patch rfl (by decide +kernel) rfl (by decide) (by decide) (by omega) rfl rfl dX4_calls_79 rfl rfl (Nat.le_of_ble_eq_true rfl) ?_
    exact e_i dX4_calls_82 rfl (by rw [ordM, if_neg (by decide), if_neg (by decide), if_pos rfl]) (by rw [ordM, if_neg (by decide), if_neg (by decide), if_pos rfl])
  by_cases h_119 : M.1 9 8 = 119
  · have c_e := h_119
    rw [h_119]
    refine r_lookup (off := 52) (tgt := 56) dX4_calls_4 (by decide) (by decide) (by decide) ?_
    refine r_al0 (n := 57) dX4_calls_56 rfl ?_
    refine r_al0 (n := 58) dX4_calls_57 rfl ?_
    refine g_mo_number (n := 61)  in_X4_calls_wsX40 k_X4_calls_141 dX4_calls_58 rfl ?_
    refine cV_i (n := 64) (np := 1) (m_X4_walk (m_X4_changes_r hr) rfl) gX4_calls_X4_walk rfl (by decide +kernel) rfl (by decide) (by decide) (by omega) rfl rfl dX4_calls_61 rfl rfl (Nat.le_of_ble_eq_true rfl) ?_
    exact e_i dX4_calls_64 rfl (by rw [ordM, if_pos rfl]) (by rw [ordM, if_pos rfl])
  have e98 : ¬ (98 : Int) = (M.1 9 8).toInt := fun q => h_98 (toInt_of_lit (M.1 9 8) 98 (by decide) q.symm)
  have e99 : ¬ (99 : Int) = (M.1 9 8).toInt := fun q => h_99 (toInt_of_lit (M.1 9 8) 99 (by decide) q.symm)
  have e104 : ¬ (104 : Int) = (M.1 9 8).toInt := fun q => h_104 (toInt_of_lit (M.1 9 8) 104 (by decide) q.symm)
  have e112 : ¬ (112 : Int) = (M.1 9 8).toInt := fun q => h_112 (toInt_of_lit (M.1 9 8) 112 (by decide) q.symm)
  have e119 : ¬ (119 : Int) = (M.1 9 8).toInt := fun q => h_119 (toInt_of_lit (M.1 9 8) 119 (by decide) q.symm)
  refine r_lookup (off := 97) (tgt := 101) dX4_calls_4 (by decide) (by show lookupswitch.offset [(98, 61), (99, 88), (104, 79), (112, 70), (119, 52)] 97 (M.1 9 8).toInt = 97; simp only [lookupswitch.offset]; rw [if_neg e98, if_neg e99, if_neg e104, if_neg e112, if_neg e119]) (by decide) ?_
  refine r_al0 (n := 102) dX4_calls_101 rfl ?_
  refine r_al0 (n := 103) dX4_calls_102 rfl ?_
  refine g_mo_number (n := 106)  in_X4_calls_wsX40 k_X4_calls_141 dX4_calls_103 rfl ?_
  refine cV_i (n := 109) (np := 1) (m_X4_end (m_X4_changes_r hr) rfl hN h8 hz) gX4_calls_X4_end rfl (by decide +kernel) rfl (by decide) (by decide) (by omega) rfl rfl dX4_calls_106 rfl rfl (Nat.le_of_ble_eq_true rfl) ?_
  exact e_i dX4_calls_109 rfl (by rw [ordM, if_neg h_119, if_neg h_98, if_neg h_112, if_neg h_104, if_neg h_99]) (by rw [ordM, if_neg h_119, if_neg h_98, if_neg h_112, if_neg h_104, if_neg h_99])

end MCALLS
