/-! ===== orders, the next one, rounds ===== -/
section STATES4
variable {cA : Nat → ClassId} {ad : Nat → Nat} {D : va_G} {M : Mem}
theorem m_X2_mendBellows {p : Nat} (hp : p < 6) {N : Nat} (hN : M.1 p 0 = nI N) (h8 : N ≤ 8) {j : Int32} (b : Bool) : C_X2_mendBellows cA ad D [.ref (ad (10 + 10 * p)), .int j, .int (bI b)] M (Ri (mendJ (M.1 p) j b).1 (setp M p (mendJ (M.1 p) j b).2)) := by
  by_cases h : ¬ j < 0 ∧ j < M.1 p 0
  · obtain ⟨k, hk, hj, hc⟩ := sm_nI hN h8 h
    simp only [mendJ, if_pos h, hc]
    rw [hj]
    exact m_X2_mendBellows_s hp hN h8 hk b
  · simp only [mendJ, if_neg h, setp_self]
    exact m_X2_mendBellows_n hp h b
theorem m_X2_collectDebt {p : Nat} (hp : p < 6) {N : Nat} (hN : M.1 p 0 = nI N) (h8 : N ≤ 8) {j : Int32} : C_X2_collectDebt cA ad D [.ref (ad (10 + 10 * p)), .int j] M (Ri (collJ (M.1 p) j).1 (setp M p (collJ (M.1 p) j).2)) := by
  by_cases h : ¬ j < 0 ∧ j < M.1 p 0
  · obtain ⟨k, hk, hj, hc⟩ := sm_nI hN h8 h
    simp only [collJ, if_pos h, hc]
    rw [hj]
    exact m_X2_collectDebt_s hp hN h8 hk
  · simp only [collJ, if_neg h, setp_self]
    exact m_X2_collectDebt_n hp h

set_option maxHeartbeats 4000000 in
set_option maxRecDepth 100000 in
theorem m_X2_doOrder {p : Nat} (hp : p < 6) {N : Nat} (hN : M.1 p 0 = nI N) (h8 : N ≤ 8) {c v : Int32} (hc : c = 119 ∨ c = 98 ∨ c = 112 ∨ c = 104 ∨ c = 99 ∨ c = 100) : C_X2_doOrder cA ad D [.ref (ad (10 + 10 * p)), .int c, .int v] M (Ri (ordS (M.1 p) N c v).1 (setp M p (ordS (M.1 p) N c v).2)) := by
  refine PM_of (lv := [some (.ref (ad (10 + 10 * p))), some (.int c), some (.int v)]) (by decide +kernel) rfl (Nat.le_of_ble_eq_true rfl) rfl ?_
  rcases hc with rfl | rfl | rfl | rfl | rfl | rfl
  · refine r_il1 (n := 1) dX2_doOrder_0 rfl ?_
    refine r_lookup (off := 59) (tgt := 60) dX2_doOrder_1 (by decide) (by decide) (by decide) ?_
    refine r_al0 (n := 61) dX2_doOrder_60 rfl ?_
    refine r_il2 (n := 62) dX2_doOrder_61 rfl ?_
    refine cV_i (n := 65) (np := 1) (m_X2_walkTo (by assumption)) gX2_doOrder_X2_walkTo rfl (by decide +kernel) rfl (by decide) (by decide) (by omega) (cell_st cA ad _ (by first | assumption | omega)) rfl dX2_doOrder_62 rfl rfl (Nat.le_of_ble_eq_true rfl) ?_
    exact e_i dX2_doOrder_65 rfl (by simp [ordS]) (by simp [ordS])
  · refine r_il1 (n := 1) dX2_doOrder_0 rfl ?_
    refine r_lookup (off := 65) (tgt := 66) dX2_doOrder_1 (by decide) (by decide) (by decide) ?_
    refine r_al0 (n := 67) dX2_doOrder_66 rfl ?_
    refine r_il2 (n := 68) dX2_doOrder_67 rfl ?_
    refine cV_i (n := 71) (np := 1) (m_X2_buyLeather (by assumption)) gX2_doOrder_X2_buyLeather rfl (by decide +kernel) rfl (by decide) (by decide) (by omega) (cell_st cA ad _ (by first | assumption | omega)) rfl dX2_doOrder_68 rfl rfl (Nat.le_of_ble_eq_true rfl) ?_
    exact e_i dX2_doOrder_71 rfl (by simp [ordS]) (by simp [ordS])
  · refine r_il1 (n := 1) dX2_doOrder_0 rfl ?_
    refine r_lookup (off := 71) (tgt := 72) dX2_doOrder_1 (by decide) (by decide) (by decide) ?_
    refine r_al0 (n := 73) dX2_doOrder_72 rfl ?_
    refine r_il2 (n := 74) dX2_doOrder_73 rfl ?_
    refine r_iconst (v := 0) (n := 75) dX2_doOrder_74 (by decide) rfl ?_
    refine cV_i (n := 78) (np := 2) (m_X2_mendBellows (by assumption) hN h8 false) gX2_doOrder_X2_mendBellows rfl (by decide +kernel) rfl (by decide) (by decide) (by omega) (cell_st cA ad _ (by first | assumption | omega)) rfl dX2_doOrder_75 rfl rfl (Nat.le_of_ble_eq_true rfl) ?_
    exact e_i dX2_doOrder_78 rfl (by simp [ordS]) (by simp [ordS])
  · refine r_il1 (n := 1) dX2_doOrder_0 rfl ?_
    refine r_lookup (off := 78) (tgt := 79) dX2_doOrder_1 (by decide) (by decide) (by decide) ?_
    refine r_al0 (n := 80) dX2_doOrder_79 rfl ?_
    refine r_il2 (n := 81) dX2_doOrder_80 rfl ?_
    refine r_iconst (v := 1) (n := 82) dX2_doOrder_81 (by decide) rfl ?_
    refine cV_i (n := 85) (np := 2) (m_X2_mendBellows (by assumption) hN h8 true) gX2_doOrder_X2_mendBellows rfl (by decide +kernel) rfl (by decide) (by decide) (by omega) (cell_st cA ad _ (by first | assumption | omega)) rfl dX2_doOrder_82 rfl rfl (Nat.le_of_ble_eq_true rfl) ?_
    exact e_i dX2_doOrder_85 rfl (by simp [ordS]) (by simp [ordS])
  · refine r_il1 (n := 1) dX2_doOrder_0 rfl ?_
    refine r_lookup (off := 85) (tgt := 86) dX2_doOrder_1 (by decide) (by decide) (by decide) ?_
    refine r_al0 (n := 87) dX2_doOrder_86 rfl ?_
    refine r_il2 (n := 88) dX2_doOrder_87 rfl ?_
    refine cV_i (n := 91) (np := 1) (m_X2_collectDebt (by assumption) hN h8) gX2_doOrder_X2_collectDebt rfl (by decide +kernel) rfl (by decide) (by decide) (by omega) (cell_st cA ad _ (by first | assumption | omega)) rfl dX2_doOrder_88 rfl rfl (Nat.le_of_ble_eq_true rfl) ?_
    exact e_i dX2_doOrder_91 rfl (by simp [ordS]) (by simp [ordS])
  · refine r_il1 (n := 1) dX2_doOrder_0 rfl ?_
    refine r_lookup (off := 91) (tgt := 92) dX2_doOrder_1 (by decide) (by decide) (by decide) ?_
    refine r_al0 (n := 93) dX2_doOrder_92 rfl ?_
    refine r_il2 (n := 94) dX2_doOrder_93 rfl ?_
    refine cV_i (n := 97) (np := 1) (m_X2_endDays (by assumption) hN h8) gX2_doOrder_X2_endDays rfl (by decide +kernel) rfl (by decide) (by decide) (by omega) (cell_st cA ad _ (by first | assumption | omega)) rfl dX2_doOrder_94 rfl rfl (Nat.le_of_ble_eq_true rfl) ?_
    exact e_i dX2_doOrder_97 rfl (by simp [ordS]) (by simp [ordS])

set_option maxHeartbeats 4000000 in
set_option maxRecDepth 100000 in
theorem l_X2_smithyToBeNext {p : Nat} (hp : p < 6) {N : Nat} (hN : M.1 p 0 = nI N) (h8 : N ≤ 8) : ∀ (m i : Nat), i + m = N →
    P_X2_smithyToBeNext cA ad D 7 [some (.ref (ad (10 + 10 * p))), some (.int (nxI (nxo (M.1 p) i))), some (nxR ad p (nxo (M.1 p) i)), some (.int (nI i)), none] [] M (Ri (nxI (nxo (M.1 p) N)) M) := by
  intro m
  induction m with
  | zero =>
    intro i hi
    have hi2 : i = N := by omega
    subst hi2
    refine r_il3 (n := 8) dX2_smithyToBeNext_7 rfl ?_
    refine r_al0 (n := 9) dX2_smithyToBeNext_8 rfl ?_
    refine g_st_smithyCount (n := 12) (by first | assumption | omega) in_X2_smithyToBeNext_wsX20 k_X2_smithyToBeNext_37 dX2_smithyToBeNext_9 rfl ?_
    refine r_icmp_ge (tgt := 60) (n := 15) dX2_smithyToBeNext_12 (by decide) rfl (fun c_12 => ?_) (fun c_12 => ?_)
    · refine r_il1 (n := 61) dX2_smithyToBeNext_60 rfl ?_
      exact e_i dX2_smithyToBeNext_61 rfl rfl rfl
    · exact absurd c_12 (fun h => h (by rw [hN]; exact nI_le (Nat.le_refl _) (by omega)))
  | succ m ih =>
    intro i hi
    cases hq : nxo (M.1 p) i with
    | none =>
      simp only [nxI, nxR]
      refine r_il3 (n := 8) dX2_smithyToBeNext_7 rfl ?_
      refine r_al0 (n := 9) dX2_smithyToBeNext_8 rfl ?_
      refine g_st_smithyCount (n := 12) (by first | assumption | omega) in_X2_smithyToBeNext_wsX20 k_X2_smithyToBeNext_37 dX2_smithyToBeNext_9 rfl ?_
      refine r_icmp_ge (tgt := 60) (n := 15) dX2_smithyToBeNext_12 (by decide) rfl (fun c_12 => ?_) (fun c_12 => ?_)
      · exact absurd c_12 (by rw [hN]; exact nI_ge (by omega) (by omega))
      · refine r_al0 (n := 16) dX2_smithyToBeNext_15 rfl ?_
        refine r_il3 (n := 17) dX2_smithyToBeNext_16 rfl ?_
        refine cV_a (n := 20) (np := 1) (m_X2_find_s (N := N) (k := i) (by first | assumption | omega) hN h8 (by first | assumption | omega)) gX2_smithyToBeNext_X2_find rfl (by decide +kernel) rfl (by decide) (by decide) (by omega) (cell_st cA ad _ (by first | assumption | omega)) rfl dX2_smithyToBeNext_17 rfl rfl (Nat.le_of_ble_eq_true rfl) ?_
        refine r_as4 (n := 22) (by decide) rfl dX2_smithyToBeNext_20 rfl ?_
        refine r_al4 (n := 24) dX2_smithyToBeNext_22 rfl ?_
        refine r_ifnull (n := 27) dX2_smithyToBeNext_24 rfl ?_
        refine r_al4 (n := 29) dX2_smithyToBeNext_27 rfl ?_
        refine g_sm_wear (n := 32) (by first | assumption | omega) (by first | assumption | omega) in_X2_smithyToBeNext_wsX10 k_X2_smithyToBeNext_106 dX2_smithyToBeNext_29 rfl ?_
        refine r_if_le (tgt := 54) (n := 35) dX2_smithyToBeNext_32 (by decide) rfl (fun c_32 => ?_) (fun c_32 => ?_)
        · refine r_ii3 (n := 57) (by decide) rfl dX2_smithyToBeNext_54 (nI_inc _) rfl ?_
          refine r_goto (tgt := 7) dX2_smithyToBeNext_57 (by decide) ?_
          refine r_dr4 ?_
          have h := ih (i + 1) (by omega)
          simp only [nxo, hq, c_32, if_true, if_false] at h
          exact h
        · refine r_al2N (n := 36) dX2_smithyToBeNext_35 rfl ?_
          refine r_ifnullN (tgt := 49) dX2_smithyToBeNext_36 (by decide) ?_
          refine r_il3 (n := 50) dX2_smithyToBeNext_49 rfl ?_
          refine r_is1 (n := 51) (by decide) rfl dX2_smithyToBeNext_50 rfl ?_
          refine r_al4 (n := 53) dX2_smithyToBeNext_51 rfl ?_
          refine r_as2 (n := 54) (by decide) rfl dX2_smithyToBeNext_53 rfl ?_
          refine r_ii3 (n := 57) (by decide) rfl dX2_smithyToBeNext_54 (nI_inc _) rfl ?_
          refine r_goto (tgt := 7) dX2_smithyToBeNext_57 (by decide) ?_
          refine r_dr4 ?_
          have h := ih (i + 1) (by omega)
          simp only [nxo, hq, c_32, if_true, if_false] at h
          exact h
    | some b =>
      simp only [nxI, nxR]
      refine r_il3 (n := 8) dX2_smithyToBeNext_7 rfl ?_
      refine r_al0 (n := 9) dX2_smithyToBeNext_8 rfl ?_
      refine g_st_smithyCount (n := 12) (by first | assumption | omega) in_X2_smithyToBeNext_wsX20 k_X2_smithyToBeNext_37 dX2_smithyToBeNext_9 rfl ?_
      refine r_icmp_ge (tgt := 60) (n := 15) dX2_smithyToBeNext_12 (by decide) rfl (fun c_12 => ?_) (fun c_12 => ?_)
      · exact absurd c_12 (by rw [hN]; exact nI_ge (by omega) (by omega))
      · refine r_al0 (n := 16) dX2_smithyToBeNext_15 rfl ?_
        refine r_il3 (n := 17) dX2_smithyToBeNext_16 rfl ?_
        refine cV_a (n := 20) (np := 1) (m_X2_find_s (N := N) (k := i) (by first | assumption | omega) hN h8 (by first | assumption | omega)) gX2_smithyToBeNext_X2_find rfl (by decide +kernel) rfl (by decide) (by decide) (by omega) (cell_st cA ad _ (by first | assumption | omega)) rfl dX2_smithyToBeNext_17 rfl rfl (Nat.le_of_ble_eq_true rfl) ?_
        refine r_as4 (n := 22) (by decide) rfl dX2_smithyToBeNext_20 rfl ?_
        refine r_al4 (n := 24) dX2_smithyToBeNext_22 rfl ?_
        refine r_ifnull (n := 27) dX2_smithyToBeNext_24 rfl ?_
        refine r_al4 (n := 29) dX2_smithyToBeNext_27 rfl ?_
        refine g_sm_wear (n := 32) (by first | assumption | omega) (by first | assumption | omega) in_X2_smithyToBeNext_wsX10 k_X2_smithyToBeNext_106 dX2_smithyToBeNext_29 rfl ?_
        refine r_if_le (tgt := 54) (n := 35) dX2_smithyToBeNext_32 (by decide) rfl (fun c_32 => ?_) (fun c_32 => ?_)
        · refine r_ii3 (n := 57) (by decide) rfl dX2_smithyToBeNext_54 (nI_inc _) rfl ?_
          refine r_goto (tgt := 7) dX2_smithyToBeNext_57 (by decide) ?_
          refine r_dr4 ?_
          have h := ih (i + 1) (by omega)
          simp only [nxo, hq, c_32, if_true, if_false] at h
          exact h
        · refine r_al2 (n := 36) dX2_smithyToBeNext_35 rfl ?_
          refine r_ifnull (n := 39) dX2_smithyToBeNext_36 rfl ?_
          refine r_al0 (n := 40) dX2_smithyToBeNext_39 rfl ?_
          refine r_al4 (n := 42) dX2_smithyToBeNext_40 rfl ?_
          refine r_al2 (n := 43) dX2_smithyToBeNext_42 rfl ?_
          refine cV_i (n := 46) (np := 2) (m_X2_comesBefore (by assumption) (by omega) (by have := nxo_lt _ _ _ hq; omega)) gX2_smithyToBeNext_X2_comesBefore rfl (by decide +kernel) rfl (by decide) (by decide) (by omega) (cell_st cA ad _ (by first | assumption | omega)) rfl dX2_smithyToBeNext_43 rfl rfl (Nat.le_of_ble_eq_true rfl) ?_
          refine r_if_eq (tgt := 54) (n := 49) dX2_smithyToBeNext_46 (by decide) rfl (fun c_46 => ?_) (fun c_46 => ?_)
          · try replace c_46 := i10 c_46
            refine r_ii3 (n := 57) (by decide) rfl dX2_smithyToBeNext_54 (nI_inc _) rfl ?_
            refine r_goto (tgt := 7) dX2_smithyToBeNext_57 (by decide) ?_
            refine r_dr4 ?_
            have h := ih (i + 1) (by omega)
            simp only [nxo, hq, c_32, c_46, if_true, if_false] at h
            exact h
          · try replace c_46 := i11 c_46
            refine r_il3 (n := 50) dX2_smithyToBeNext_49 rfl ?_
            refine r_is1 (n := 51) (by decide) rfl dX2_smithyToBeNext_50 rfl ?_
            refine r_al4 (n := 53) dX2_smithyToBeNext_51 rfl ?_
            refine r_as2 (n := 54) (by decide) rfl dX2_smithyToBeNext_53 rfl ?_
            refine r_ii3 (n := 57) (by decide) rfl dX2_smithyToBeNext_54 (nI_inc _) rfl ?_
            refine r_goto (tgt := 7) dX2_smithyToBeNext_57 (by decide) ?_
            refine r_dr4 ?_
            have h := ih (i + 1) (by omega)
            simp only [nxo, hq, c_32, c_46, if_true, if_false] at h
            exact h

set_option maxHeartbeats 4000000 in
set_option maxRecDepth 100000 in
theorem m_X2_smithyToBeNext {p : Nat} (hp : p < 6) {N : Nat} (hN : M.1 p 0 = nI N) (h8 : N ≤ 8) : C_X2_smithyToBeNext cA ad D [.ref (ad (10 + 10 * p))] M (Ri (nxI (nxo (M.1 p) N)) M) := by
  refine PM_of (lv := [some (.ref (ad (10 + 10 * p))), none, none, none, none]) (by decide +kernel) rfl (Nat.le_of_ble_eq_true rfl) rfl ?_
  refine r_ldc (n := 2) dX2_smithyToBeNext_0 k_X2_smithyToBeNext_174 rfl ?_
  refine r_is1 (n := 3) (by decide) rfl dX2_smithyToBeNext_2 rfl ?_
  refine r_null (n := 4) dX2_smithyToBeNext_3 rfl ?_
  refine r_as2N (n := 5) (by decide) rfl dX2_smithyToBeNext_4 rfl ?_
  refine r_iconst (v := 0) (n := 6) dX2_smithyToBeNext_5 (by decide) rfl ?_
  refine r_is3 (n := 7) (by decide) rfl dX2_smithyToBeNext_6 rfl ?_
  exact l_X2_smithyToBeNext hp hN h8 N 0 (by omega)

set_option maxHeartbeats 4000000 in
set_option maxRecDepth 100000 in
theorem l_X2_firstOnRoad {p : Nat} (hp : p < 6) {N : Nat} (hN : M.1 p 0 = nI N) (h8 : N ≤ 8) {s : Int32} : ∀ (m i : Nat), i + m = N →
    P_X2_firstOnRoad cA ad D 8 [some (.ref (ad (10 + 10 * p))), some (.int s), some (.int (frs (M.1 p) s i).1), some (.int (frs (M.1 p) s i).2), some (.int (nI i)), none] [] M (Ri (frs (M.1 p) s N).1 M) := by
  intro m
  induction m with
  | zero =>
    intro i hi
    have hi2 : i = N := by omega
    subst hi2
    refine r_il4 (n := 10) dX2_firstOnRoad_8 rfl ?_
    refine r_al0 (n := 11) dX2_firstOnRoad_10 rfl ?_
    refine g_st_smithyCount (n := 14) (by first | assumption | omega) in_X2_firstOnRoad_wsX20 k_X2_firstOnRoad_37 dX2_firstOnRoad_11 rfl ?_
    refine r_icmp_ge (tgt := 63) (n := 17) dX2_firstOnRoad_14 (by decide) rfl (fun c_14 => ?_) (fun c_14 => ?_)
    · refine r_il2 (n := 64) dX2_firstOnRoad_63 rfl ?_
      exact e_i dX2_firstOnRoad_64 rfl rfl rfl
    · exact absurd c_14 (fun h => h (by rw [hN]; exact nI_le (Nat.le_refl _) (by omega)))
  | succ m ih =>
    intro i hi
    refine r_il4 (n := 10) dX2_firstOnRoad_8 rfl ?_
    refine r_al0 (n := 11) dX2_firstOnRoad_10 rfl ?_
    refine g_st_smithyCount (n := 14) (by first | assumption | omega) in_X2_firstOnRoad_wsX20 k_X2_firstOnRoad_37 dX2_firstOnRoad_11 rfl ?_
    refine r_icmp_ge (tgt := 63) (n := 17) dX2_firstOnRoad_14 (by decide) rfl (fun c_14 => ?_) (fun c_14 => ?_)
    · exact absurd c_14 (by rw [hN]; exact nI_ge (by omega) (by omega))
    · refine r_al0 (n := 18) dX2_firstOnRoad_17 rfl ?_
      refine r_il4 (n := 20) dX2_firstOnRoad_18 rfl ?_
      refine cV_a (n := 23) (np := 1) (m_X2_find_s (N := N) (k := i) (by first | assumption | omega) hN h8 (by first | assumption | omega)) gX2_firstOnRoad_X2_find rfl (by decide +kernel) rfl (by decide) (by decide) (by omega) (cell_st cA ad _ (by first | assumption | omega)) rfl dX2_firstOnRoad_20 rfl rfl (Nat.le_of_ble_eq_true rfl) ?_
      refine r_as5 (n := 25) (by decide) rfl dX2_firstOnRoad_23 rfl ?_
      refine r_al5 (n := 27) dX2_firstOnRoad_25 rfl ?_
      refine r_ifnull (n := 30) dX2_firstOnRoad_27 rfl ?_
      refine r_il1 (n := 31) dX2_firstOnRoad_30 rfl ?_
      refine r_iconst (v := 1) (n := 32) dX2_firstOnRoad_31 (by decide) rfl ?_
      refine r_il4 (n := 34) dX2_firstOnRoad_32 rfl ?_
      refine r_ishl (n := 35) dX2_firstOnRoad_34 rfl ?_
      refine r_iand (n := 36) dX2_firstOnRoad_35 rfl ?_
      refine r_if_eq (tgt := 57) (n := 39) dX2_firstOnRoad_36 (by decide) rfl (fun c_36 => ?_) (fun c_36 => ?_)
      · refine r_ii4 (n := 60) (by decide) rfl dX2_firstOnRoad_57 (nI_inc _) rfl ?_
        refine r_goto (tgt := 8) dX2_firstOnRoad_60 (by decide) ?_
        refine r_dr5 ?_
        have h := ih (i + 1) (by omega)
        simp only [frs, c_36, if_true, if_false] at h
        exact h
      · refine r_al5 (n := 41) dX2_firstOnRoad_39 rfl ?_
        refine g_sm_mile (n := 44) (by first | assumption | omega) (by first | assumption | omega) in_X2_firstOnRoad_wsX10 k_X2_firstOnRoad_112 dX2_firstOnRoad_41 rfl ?_
        refine r_il3 (n := 45) dX2_firstOnRoad_44 rfl ?_
        refine r_icmp_ge (tgt := 57) (n := 48) dX2_firstOnRoad_45 (by decide) rfl (fun c_45 => ?_) (fun c_45 => ?_)
        · refine r_ii4 (n := 60) (by decide) rfl dX2_firstOnRoad_57 (nI_inc _) rfl ?_
          refine r_goto (tgt := 8) dX2_firstOnRoad_60 (by decide) ?_
          refine r_dr5 ?_
          have h := ih (i + 1) (by omega)
          simp only [frs, c_36, c_45, if_true, if_false] at h
          exact h
        · refine r_il4 (n := 50) dX2_firstOnRoad_48 rfl ?_
          refine r_is2 (n := 51) (by decide) rfl dX2_firstOnRoad_50 rfl ?_
          refine r_al5 (n := 53) dX2_firstOnRoad_51 rfl ?_
          refine g_sm_mile (n := 56) (by first | assumption | omega) (by first | assumption | omega) in_X2_firstOnRoad_wsX10 k_X2_firstOnRoad_112 dX2_firstOnRoad_53 rfl ?_
          refine r_is3 (n := 57) (by decide) rfl dX2_firstOnRoad_56 rfl ?_
          refine r_ii4 (n := 60) (by decide) rfl dX2_firstOnRoad_57 (nI_inc _) rfl ?_
          refine r_goto (tgt := 8) dX2_firstOnRoad_60 (by decide) ?_
          refine r_dr5 ?_
          have h := ih (i + 1) (by omega)
          simp only [frs, c_36, c_45, if_true, if_false] at h
          exact h

set_option maxHeartbeats 4000000 in
set_option maxRecDepth 100000 in
theorem m_X2_firstOnRoad {p : Nat} (hp : p < 6) {N : Nat} (hN : M.1 p 0 = nI N) (h8 : N ≤ 8) {s : Int32} : C_X2_firstOnRoad cA ad D [.ref (ad (10 + 10 * p)), .int s] M (Ri (frs (M.1 p) s N).1 M) := by
  refine PM_of (lv := [some (.ref (ad (10 + 10 * p))), some (.int s), none, none, none, none]) (by decide +kernel) rfl (Nat.le_of_ble_eq_true rfl) rfl ?_
  refine r_iconst (v := -1) (n := 1) dX2_firstOnRoad_0 (by decide) rfl ?_
  refine r_is2 (n := 2) (by decide) rfl dX2_firstOnRoad_1 rfl ?_
  refine r_bipush (v := 100) (n := 4) dX2_firstOnRoad_2 (by decide) rfl ?_
  refine r_is3 (n := 5) (by decide) rfl dX2_firstOnRoad_4 rfl ?_
  refine r_iconst (v := 0) (n := 6) dX2_firstOnRoad_5 (by decide) rfl ?_
  refine r_is4 (n := 8) (by decide) rfl dX2_firstOnRoad_6 rfl ?_
  exact l_X2_firstOnRoad hp hN h8 N 0 (by omega)

set_option maxHeartbeats 4000000 in
set_option maxRecDepth 100000 in
theorem l_X2_tellRound {p : Nat} (hp : p < 6) {N : Nat} (hN : M.1 p 0 = nI N) (h8 : N ≤ 8) {s0 w : Int32} {P : Int32 → Prop} (hG : Gd (M.1 p) N P) : ∀ (m i : Nat), i + m = 8 → ∀ (s pl : Int32) (q : Int32 × Int32 × Int32), P s →
    P_X2_tellRound cA ad D 20 [some (.ref (ad (10 + 10 * p))), some (.int s0), some (.int w), some (.int q.1), some (.int q.2.1), some (.int q.2.2), some (.int pl), some (.int s), some (.int (nI i)), none, none] [] M (Ri (rdW (rdC (M.1 p) N m s pl q) w) M) := by
  intro m
  induction m with
  | zero =>
    intro i hi s pl q hP
    refine r_il8 (n := 22) dX2_tellRound_20 rfl ?_
    refine r_bipush (v := 8) (n := 24) dX2_tellRound_22 (by decide) rfl ?_
    refine r_icmp_ge (tgt := 132) (n := 27) dX2_tellRound_24 (by decide) rfl (fun c_24 => ?_) (fun c_24 => ?_)
    · refine r_il2 (n := 133) dX2_tellRound_132 rfl ?_
      refine r_if_ne (tgt := 140) (n := 136) dX2_tellRound_133 (by decide) rfl (fun c_133 => ?_) (fun c_133 => ?_)
      · refine r_il2 (n := 141) dX2_tellRound_140 rfl ?_
        refine r_iconst (v := 1) (n := 142) dX2_tellRound_141 (by decide) rfl ?_
        refine r_icmp_ne (tgt := 150) (n := 145) dX2_tellRound_142 (by decide) rfl (fun c_142 => ?_) (fun c_142 => ?_)
        · refine r_il5 (n := 152) dX2_tellRound_150 rfl ?_
          exact e_i dX2_tellRound_152 rfl (by simp only [rdC, rdW, *, if_true, if_false] <;> simp) rfl
        · refine r_il4 (n := 147) dX2_tellRound_145 rfl ?_
          refine r_goto (tgt := 152) dX2_tellRound_147 (by decide) ?_
          exact e_i dX2_tellRound_152 rfl (by simp only [rdC, rdW, *, if_true, if_false] <;> simp) rfl
      · refine r_il3 (n := 137) dX2_tellRound_136 rfl ?_
        refine r_goto (tgt := 152) dX2_tellRound_137 (by decide) ?_
        exact e_i dX2_tellRound_152 rfl (by simp only [rdC, rdW, *, if_true, if_false] <;> simp) rfl
    · exact absurd c_24 (fun h => h (nI_le (a := 8) (b := i) (by omega) (by omega)))
  | succ m ih =>
    intro i hi s pl q hP
    refine r_il8 (n := 22) dX2_tellRound_20 rfl ?_
    refine r_bipush (v := 8) (n := 24) dX2_tellRound_22 (by decide) rfl ?_
    refine r_icmp_ge (tgt := 132) (n := 27) dX2_tellRound_24 (by decide) rfl (fun c_24 => ?_) (fun c_24 => ?_)
    · exact absurd c_24 (nI_ge (a := i) (b := 8) (by omega) (by omega))
    · refine r_il7 (n := 29) dX2_tellRound_27 rfl ?_
      refine r_if_eq (tgt := 132) (n := 32) dX2_tellRound_29 (by decide) rfl (fun c_29 => ?_) (fun c_29 => ?_)
      · simp only [rdC, c_29, if_true]
        refine r_il2 (n := 133) dX2_tellRound_132 rfl ?_
        refine r_if_ne (tgt := 140) (n := 136) dX2_tellRound_133 (by decide) rfl (fun c_133 => ?_) (fun c_133 => ?_)
        · refine r_il2 (n := 141) dX2_tellRound_140 rfl ?_
          refine r_iconst (v := 1) (n := 142) dX2_tellRound_141 (by decide) rfl ?_
          refine r_icmp_ne (tgt := 150) (n := 145) dX2_tellRound_142 (by decide) rfl (fun c_142 => ?_) (fun c_142 => ?_)
          · refine r_il5 (n := 152) dX2_tellRound_150 rfl ?_
            exact e_i dX2_tellRound_152 rfl (by simp only [rdW, *, if_true, if_false] <;> simp) rfl
          · refine r_il4 (n := 147) dX2_tellRound_145 rfl ?_
            refine r_goto (tgt := 152) dX2_tellRound_147 (by decide) ?_
            exact e_i dX2_tellRound_152 rfl (by simp only [rdW, *, if_true, if_false] <;> simp) rfl
        · refine r_il3 (n := 137) dX2_tellRound_136 rfl ?_
          refine r_goto (tgt := 152) dX2_tellRound_137 (by decide) ?_
          exact e_i dX2_tellRound_152 rfl (by simp only [rdW, *, if_true, if_false] <;> simp) rfl
      · obtain ⟨⟨k, hk, hfr⟩, hP2⟩ := hG s hP c_29
        have hcl : (frs (M.1 p) s N).1.toNatClampNeg = k := by rw [hfr]; exact nI_clamp (by omega)
        rw [hfr] at hP2
        have hR : rdC (M.1 p) N (m + 1) s pl q = rdC (M.1 p) N m (s &&& (((1 : Int32) <<< (nI k &&& 31)) ^^^ (-1))) (M.1 p (14 + 8 * k)) (if rsn (M.1 p) k = 0 then (q.1 + hB pl (M.1 p (14 + 8 * k)) + hM false, q.2.1 + leatherOf (M.1 p) k false, q.2.2 + owes (M.1 p) k false) else (q.1 + hB pl (M.1 p (14 + 8 * k)), q.2.1, q.2.2)) := by
          rw [rdC, if_neg c_29, hcl, hfr]
        refine r_al0 (n := 33) dX2_tellRound_32 rfl ?_
        refine r_il7 (n := 35) dX2_tellRound_33 rfl ?_
        refine cV_i (n := 38) (np := 1) (m_X2_firstOnRoad (by assumption) hN h8) gX2_tellRound_X2_firstOnRoad rfl (by decide +kernel) rfl (by decide) (by decide) (by omega) (cell_st cA ad _ (by first | assumption | omega)) rfl dX2_tellRound_35 rfl rfl (Nat.le_of_ble_eq_true rfl) ?_
        rw [hfr]
        refine r_is9 (n := 40) (by decide) rfl dX2_tellRound_38 rfl ?_
        refine r_al0 (n := 41) dX2_tellRound_40 rfl ?_
        refine r_il9 (n := 43) dX2_tellRound_41 rfl ?_
        refine cV_a (n := 46) (np := 1) (m_X2_find_s (N := N) (k := k) (by assumption) hN h8 hk) gX2_tellRound_X2_find rfl (by decide +kernel) rfl (by decide) (by decide) (by omega) (cell_st cA ad _ (by first | assumption | omega)) rfl dX2_tellRound_43 rfl rfl (Nat.le_of_ble_eq_true rfl) ?_
        refine r_as10 (n := 48) (by decide) rfl dX2_tellRound_46 rfl ?_
        refine r_al10 (n := 50) dX2_tellRound_48 rfl ?_
        refine r_ifnonnull (tgt := 56) dX2_tellRound_50 (by decide) ?_
        refine r_il7 (n := 58) dX2_tellRound_56 rfl ?_
        refine r_iconst (v := 1) (n := 59) dX2_tellRound_58 (by decide) rfl ?_
        refine r_il9 (n := 61) dX2_tellRound_59 rfl ?_
        refine r_ishl (n := 62) dX2_tellRound_61 rfl ?_
        refine r_iconst (v := -1) (n := 63) dX2_tellRound_62 (by decide) rfl ?_
        refine r_ixor (n := 64) dX2_tellRound_63 rfl ?_
        refine r_iand (n := 65) dX2_tellRound_64 rfl ?_
        refine r_is7 (n := 67) (by decide) rfl dX2_tellRound_65 rfl ?_
        refine r_il3 (n := 68) dX2_tellRound_67 rfl ?_
        refine r_il6 (n := 70) dX2_tellRound_68 rfl ?_
        refine r_al10 (n := 72) dX2_tellRound_70 rfl ?_
        refine g_sm_mile (n := 75) (by first | assumption | omega) (by first | assumption | omega) in_X2_tellRound_wsX10 k_X2_tellRound_112 dX2_tellRound_72 rfl ?_
        refine cN_i (n := 78) (np := 2) (m_X3_hoursOfWay) gX2_tellRound_X3_hoursOfWay_n75 rfl (fun _ h => h.1) ki_X2_tellRound_X3_hoursOfWay ks_X2_tellRound_X3_hoursOfWay (by decide +kernel) rfl (by decide) (by decide) dX2_tellRound_75 rfl rfl (Nat.le_of_ble_eq_true rfl) ?_
        refine r_iadd (n := 79) dX2_tellRound_78 rfl ?_
        refine r_is3 (n := 80) (by decide) rfl dX2_tellRound_79 rfl ?_
        refine r_al10 (n := 82) dX2_tellRound_80 rfl ?_
        refine g_sm_mile (n := 85) (by first | assumption | omega) (by first | assumption | omega) in_X2_tellRound_wsX10 k_X2_tellRound_112 dX2_tellRound_82 rfl ?_
        refine r_is6 (n := 87) (by decide) rfl dX2_tellRound_85 rfl ?_
        refine r_al0 (n := 88) dX2_tellRound_87 rfl ?_
        refine r_al10 (n := 90) dX2_tellRound_88 rfl ?_
        refine cV_i (n := 93) (np := 1) (m_X2_reasonOfSmithy (by assumption) (by omega)) gX2_tellRound_X2_reasonOfSmithy rfl (by decide +kernel) rfl (by decide) (by decide) (by omega) (cell_st cA ad _ (by first | assumption | omega)) rfl dX2_tellRound_90 rfl rfl (Nat.le_of_ble_eq_true rfl) ?_
        refine r_if_ne (tgt := 126) (n := 96) dX2_tellRound_93 (by decide) rfl (fun c_93 => ?_) (fun c_93 => ?_)
        · rw [if_neg c_93] at hR
          refine r_ii8 (n := 129) (by decide) rfl dX2_tellRound_126 (nI_inc _) rfl ?_
          refine r_goto (tgt := 20) dX2_tellRound_129 (by decide) ?_
          refine r_dr9 ?_
          refine r_dr10 ?_
          rw [hR]
          exact ih (i + 1) (by omega) _ (M.1 p (14 + 8 * k)) (_, _, _) hP2
        · rw [if_pos c_93] at hR
          refine r_il3 (n := 97) dX2_tellRound_96 rfl ?_
          refine r_iconst (v := 0) (n := 98) dX2_tellRound_97 (by decide) rfl ?_
          refine cN_i (n := 101) (np := 1) (m_X3_hoursOfMend false) gX2_tellRound_X3_hoursOfMend_n93 rfl (fun _ h => h.2.1) ki_X2_tellRound_X3_hoursOfMend ks_X2_tellRound_X3_hoursOfMend (by decide +kernel) rfl (by decide) (by decide) dX2_tellRound_98 rfl rfl (Nat.le_of_ble_eq_true rfl) ?_
          refine r_iadd (n := 102) dX2_tellRound_101 rfl ?_
          refine r_is3 (n := 103) (by decide) rfl dX2_tellRound_102 rfl ?_
          refine r_il4 (n := 105) dX2_tellRound_103 rfl ?_
          refine r_al10 (n := 107) dX2_tellRound_105 rfl ?_
          refine r_iconst (v := 0) (n := 108) dX2_tellRound_107 (by decide) rfl ?_
          refine cV_i (n := 111) (np := 1) (m_X1_leatherOfMend (by assumption) (by omega) false) gX2_tellRound_X1_leatherOfMend rfl (by decide +kernel) rfl (by decide) (by decide) (by omega) (cell_sm cA ad _ (by first | assumption | omega) (by first | assumption | omega)) rfl dX2_tellRound_108 rfl rfl (Nat.le_of_ble_eq_true rfl) ?_
          refine r_iadd (n := 112) dX2_tellRound_111 rfl ?_
          refine r_is4 (n := 114) (by decide) rfl dX2_tellRound_112 rfl ?_
          refine r_il5 (n := 116) dX2_tellRound_114 rfl ?_
          refine r_al0 (n := 117) dX2_tellRound_116 rfl ?_
          refine r_al10 (n := 119) dX2_tellRound_117 rfl ?_
          refine r_iconst (v := 0) (n := 120) dX2_tellRound_119 (by decide) rfl ?_
          refine cV_i (n := 123) (np := 2) (m_X2_priceOfMend (by assumption) (by omega) false) gX2_tellRound_X2_priceOfMend rfl (by decide +kernel) rfl (by decide) (by decide) (by omega) (cell_st cA ad _ (by first | assumption | omega)) rfl dX2_tellRound_120 rfl rfl (Nat.le_of_ble_eq_true rfl) ?_
          refine r_iadd (n := 124) dX2_tellRound_123 rfl ?_
          refine r_is5 (n := 126) (by decide) rfl dX2_tellRound_124 rfl ?_
          refine r_ii8 (n := 129) (by decide) rfl dX2_tellRound_126 (nI_inc _) rfl ?_
          refine r_goto (tgt := 20) dX2_tellRound_129 (by decide) ?_
          refine r_dr9 ?_
          refine r_dr10 ?_
          rw [hR]
          exact ih (i + 1) (by omega) _ (M.1 p (14 + 8 * k)) (_, _, _) hP2

set_option maxHeartbeats 4000000 in
set_option maxRecDepth 100000 in
theorem m_X2_tellRound {p : Nat} (hp : p < 6) {N : Nat} (hN : M.1 p 0 = nI N) (h8 : N ≤ 8) {s w : Int32} {P : Int32 → Prop} (hG : Gd (M.1 p) N P) (hP : P s) : C_X2_tellRound cA ad D [.ref (ad (10 + 10 * p)), .int s, .int w] M (Ri (rdW (rdC (M.1 p) N 8 s (M.1 p 2) (0, 0, 0)) w) M) := by
  refine PM_of (lv := [some (.ref (ad (10 + 10 * p))), some (.int s), some (.int w), none, none, none, none, none, none, none, none]) (by decide +kernel) rfl (Nat.le_of_ble_eq_true rfl) rfl ?_
  refine r_iconst (v := 0) (n := 1) dX2_tellRound_0 (by decide) rfl ?_
  refine r_is3 (n := 2) (by decide) rfl dX2_tellRound_1 rfl ?_
  refine r_iconst (v := 0) (n := 3) dX2_tellRound_2 (by decide) rfl ?_
  refine r_is4 (n := 5) (by decide) rfl dX2_tellRound_3 rfl ?_
  refine r_iconst (v := 0) (n := 6) dX2_tellRound_5 (by decide) rfl ?_
  refine r_is5 (n := 8) (by decide) rfl dX2_tellRound_6 rfl ?_
  refine r_al0 (n := 9) dX2_tellRound_8 rfl ?_
  refine g_st_mile (n := 12) (by first | assumption | omega) in_X2_tellRound_wsX20 k_X2_tellRound_43 dX2_tellRound_9 rfl ?_
  refine r_is6 (n := 14) (by decide) rfl dX2_tellRound_12 rfl ?_
  refine r_il1 (n := 15) dX2_tellRound_14 rfl ?_
  refine r_is7 (n := 17) (by decide) rfl dX2_tellRound_15 rfl ?_
  refine r_iconst (v := 0) (n := 18) dX2_tellRound_17 (by decide) rfl ?_
  refine r_is8 (n := 20) (by decide) rfl dX2_tellRound_18 rfl ?_
  exact l_X2_tellRound hp hN h8 hG 8 0 (by omega) s (M.1 p 2) (0, 0, 0) hP

end STATES4
