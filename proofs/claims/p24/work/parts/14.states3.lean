/-! ===== the class's states, loops ===== -/
section STATES3
variable {cA : Nat → ClassId} {ad : Nat → Nat} {D : va_G} {M : Mem}
set_option maxHeartbeats 4000000 in
set_option maxRecDepth 100000 in
theorem m_X2_addSmithy {p : Nat} (hp : p < 6) {N : Nat} (hN : M.1 p 0 = nI N) (h8 : N ≤ 8) {v w : Int32} : C_X2_addSmithy cA ad D [.ref (ad (6 + 10 * p)), .int v, .int w] M (Ri (addS (M.1 p) N v w).1 (setp M p (addS (M.1 p) N v w).2)) := by
  refine PM_of (lv := [some (.ref (ad (6 + 10 * p))), some (.int v), some (.int w), none, none]) (by decide +kernel) rfl (Nat.le_of_ble_eq_true rfl) rfl ?_
  refine r_il1 (n := 1) dX2_addSmithy_0 rfl ?_
  refine r_if_lt (tgt := 21) (n := 4) dX2_addSmithy_1 (by decide) rfl (fun c_1 => ?_) (fun c_1 => ?_)
  · refine r_ldc (n := 23) dX2_addSmithy_21 k_X2_addSmithy_69 rfl ?_
    exact e_i dX2_addSmithy_23 rfl (by simp only [addS, *, if_true, if_false]) (by simp only [addS, *, if_true, if_false]; rw [setp_self])
  · refine r_il1 (n := 5) dX2_addSmithy_4 rfl ?_
    refine r_bipush (v := 99) (n := 7) dX2_addSmithy_5 (by decide) rfl ?_
    refine r_icmp_gt (tgt := 21) (n := 10) dX2_addSmithy_7 (by decide) rfl (fun c_7 => ?_) (fun c_7 => ?_)
    · refine r_ldc (n := 23) dX2_addSmithy_21 k_X2_addSmithy_69 rfl ?_
      exact e_i dX2_addSmithy_23 rfl (by simp only [addS, *, if_true, if_false]) (by simp only [addS, *, if_true, if_false]; rw [setp_self])
    · refine r_il2 (n := 11) dX2_addSmithy_10 rfl ?_
      refine r_iconst (v := 1) (n := 12) dX2_addSmithy_11 (by decide) rfl ?_
      refine r_icmp_lt (tgt := 21) (n := 15) dX2_addSmithy_12 (by decide) rfl (fun c_12 => ?_) (fun c_12 => ?_)
      · refine r_ldc (n := 23) dX2_addSmithy_21 k_X2_addSmithy_69 rfl ?_
        exact e_i dX2_addSmithy_23 rfl (by simp only [addS, *, if_true, if_false]) (by simp only [addS, *, if_true, if_false]; rw [setp_self])
      · refine r_il2 (n := 16) dX2_addSmithy_15 rfl ?_
        refine r_bipush (v := 9) (n := 18) dX2_addSmithy_16 (by decide) rfl ?_
        refine r_icmp_le (tgt := 24) (n := 21) dX2_addSmithy_18 (by decide) rfl (fun c_18 => ?_) (fun c_18 => ?_)
        · refine r_al0 (n := 25) dX2_addSmithy_24 rfl ?_
          refine g_st_smithyCount (n := 28) (by first | assumption | omega) in_X2_addSmithy_wsX20 k_X2_addSmithy_37 dX2_addSmithy_25 rfl ?_
          refine r_bipush (v := 8) (n := 30) dX2_addSmithy_28 (by decide) rfl ?_
          refine r_icmp_lt (tgt := 36) (n := 33) dX2_addSmithy_30 (by decide) rfl (fun c_30 => ?_) (fun c_30 => ?_)
          · rw [hN] at c_30
            have hlt : N < 8 := (nI_ltI (by omega) (by decide)).mp (show nI N < nI 8 from c_30)
            refine r_al0 (n := 37) dX2_addSmithy_36 rfl ?_
            refine g_st_smithyCount (n := 40) (by first | assumption | omega) in_X2_addSmithy_wsX20 k_X2_addSmithy_37 dX2_addSmithy_37 rfl ?_
            rw [hN]
            refine r_is3 (n := 41) (by decide) rfl dX2_addSmithy_40 rfl ?_
            refine r_al0 (n := 42) dX2_addSmithy_41 rfl ?_
            refine r_dup (n := 43) dX2_addSmithy_42 rfl rfl ?_
            refine g_st_smithyCount (n := 46) (by first | assumption | omega) in_X2_addSmithy_wsX20 k_X2_addSmithy_37 dX2_addSmithy_43 rfl ?_
            refine r_iconst (v := 1) (n := 47) dX2_addSmithy_46 (by decide) rfl ?_
            refine r_iadd (n := 48) dX2_addSmithy_47 rfl ?_
            refine p_st_smithyCount (n := 51) (by first | assumption | omega) in_X2_addSmithy_wsX20 k_X2_addSmithy_37 dX2_addSmithy_48 rfl ?_
            refine r_al0 (n := 52) dX2_addSmithy_51 rfl ?_
            refine r_il3 (n := 53) dX2_addSmithy_52 rfl ?_
            refine cV_a (n := 56) (np := 1) (m_X2_find_s (N := N + 1) (k := N) (by assumption) (by rw [mput_eq, upd_at, hN]; exact nI_1 N) (by omega) (by omega)) gX2_addSmithy_X2_find rfl (by decide +kernel) rfl (by decide) (by decide) (by omega) (cell_st cA ad _ (by first | assumption | omega)) rfl dX2_addSmithy_53 rfl rfl (Nat.le_of_ble_eq_true rfl) ?_
            refine r_as4 (n := 58) (by decide) rfl dX2_addSmithy_56 rfl ?_
            refine r_al4 (n := 60) dX2_addSmithy_58 rfl ?_
            refine r_ifnull (n := 63) dX2_addSmithy_60 rfl ?_
            refine r_al4 (n := 65) dX2_addSmithy_63 rfl ?_
            refine r_il1 (n := 66) dX2_addSmithy_65 rfl ?_
            refine r_il2 (n := 67) dX2_addSmithy_66 rfl ?_
            refine cV_v (n := 70) (np := 2) (m_X1_beginAt (by assumption) (by omega)) gX2_addSmithy_X1_beginAt rfl (by decide +kernel) rfl (by decide) (by decide) (by omega) (cell_sm cA ad _ (by first | assumption | omega) (by first | assumption | omega)) rfl dX2_addSmithy_67 rfl rfl (Nat.le_of_ble_eq_true rfl) ?_
            refine r_il3 (n := 71) dX2_addSmithy_70 rfl ?_
            exact e_i dX2_addSmithy_71 rfl (by simp only [addS, *, if_true, if_false]) (by simp only [addS, *, if_true, if_false]; simp only [mput_s, setp_at, setp_2, addU, hN])
          · rw [hN] at c_30
            refine r_ldc (n := 35) dX2_addSmithy_33 k_X2_addSmithy_70 rfl ?_
            exact e_i dX2_addSmithy_35 rfl (by simp only [addS, *, if_true, if_false]) (by simp only [addS, *, if_true, if_false]; rw [setp_self])
        · refine r_ldc (n := 23) dX2_addSmithy_21 k_X2_addSmithy_69 rfl ?_
          exact e_i dX2_addSmithy_23 rfl (by simp only [addS, *, if_true, if_false]) (by simp only [addS, *, if_true, if_false]; rw [setp_self])

set_option maxHeartbeats 4000000 in
set_option maxRecDepth 100000 in
theorem li_X2_endDays {p k d : Nat} (hp : p < 6) (hk : k < 8) (hd : d ≤ 99) {Q : QT} {M : Mem} (w : Vec) (K : P_X2_endDays cA ad D 69 [some (.ref (ad (6 + 10 * p))), some (.int (nI d)), some (.int (nI k)), some (.ref (ad (8 + 10 * p + k))), some (.int (nI d))] [] (setp M p (daysU w k d)) Q) : ∀ (m e : Nat), e + m = d →
    P_X2_endDays cA ad D 48 [some (.ref (ad (6 + 10 * p))), some (.int (nI d)), some (.int (nI k)), some (.ref (ad (8 + 10 * p + k))), some (.int (nI e))] [] (setp M p (daysU w k e)) Q := by
  intro m
  induction m with
  | zero =>
    intro e he
    have he2 : e = d := by omega
    subst he2
    refine r_il4 (n := 50) dX2_endDays_48 rfl ?_
    refine r_il1 (n := 51) dX2_endDays_50 rfl ?_
    refine r_icmp_ge (tgt := 69) (n := 54) dX2_endDays_51 (by decide) rfl (fun c_51 => ?_) (fun c_51 => ?_)
    · exact K
    · exact absurd c_51 (fun h => h (nI_le (Nat.le_refl _) (by omega)))
  | succ m ih =>
    intro e he
    refine r_il4 (n := 50) dX2_endDays_48 rfl ?_
    refine r_il1 (n := 51) dX2_endDays_50 rfl ?_
    refine r_icmp_ge (tgt := 69) (n := 54) dX2_endDays_51 (by decide) rfl (fun c_51 => ?_) (fun c_51 => ?_)
    · exact absurd c_51 (nI_ge (by omega) (by omega))
    · refine r_al3 (n := 55) dX2_endDays_54 rfl ?_
      refine r_ifnull (n := 58) dX2_endDays_55 rfl ?_
      refine r_al0 (n := 59) dX2_endDays_58 rfl ?_
      refine r_al3 (n := 60) dX2_endDays_59 rfl ?_
      refine cV_v (n := 63) (np := 1) (m_X2_endDayOf (by assumption) hk) gX2_endDays_X2_endDayOf rfl (by decide +kernel) rfl (by decide) (by decide) (by omega) (cell_st cA ad _ (by assumption)) rfl dX2_endDays_60 rfl rfl (Nat.le_of_ble_eq_true rfl) ?_
      simp only [setp_at, setp_2]
      refine r_ii4 (n := 66) (by decide) rfl dX2_endDays_63 (nI_inc _) rfl ?_
      refine r_goto (tgt := 48) dX2_endDays_66 (by decide) ?_
      rw [show dayU (daysU w k e) k = daysU w k (e + 1) from rfl]
      exact ih (e + 1) (by omega)

set_option maxHeartbeats 4000000 in
set_option maxRecDepth 100000 in
theorem lo_X2_endDays {p d N : Nat} (hp : p < 6) (hd : d ≤ 99) (u : Vec) (hN : u 0 = nI N) (h8 : N ≤ 8) {Q : QT} {M : Mem} (K : P_X2_endDays cA ad D 75 [some (.ref (ad (6 + 10 * p))), some (.int (nI d)), some (.int (nI N)), none, none] [] (setp M p (allU u d N)) Q) : ∀ (m i : Nat), i + m = N →
    P_X2_endDays cA ad D 31 [some (.ref (ad (6 + 10 * p))), some (.int (nI d)), some (.int (nI i)), none, none] [] (setp M p (allU u d i)) Q := by
  have hc : ∀ i, allU u d i 0 = nI N := fun i => by rw [allU_j _ _ _ (by decide) (by decide)]; exact hN
  intro m
  induction m with
  | zero =>
    intro i hi
    have hi2 : i = N := by omega
    subst hi2
    refine r_il2 (n := 32) dX2_endDays_31 rfl ?_
    refine r_al0 (n := 33) dX2_endDays_32 rfl ?_
    refine g_st_smithyCount (n := 36) (by first | assumption | omega) in_X2_endDays_wsX20 k_X2_endDays_37 dX2_endDays_33 rfl ?_
    refine r_icmp_ge (tgt := 75) (n := 39) dX2_endDays_36 (by decide) rfl (fun c_36 => ?_) (fun c_36 => ?_)
    · exact K
    · exact absurd c_36 (fun h => h (by rw [setp_at, hc]; exact nI_le (Nat.le_refl _) (by omega)))
  | succ m ih =>
    intro i hi
    refine r_il2 (n := 32) dX2_endDays_31 rfl ?_
    refine r_al0 (n := 33) dX2_endDays_32 rfl ?_
    refine g_st_smithyCount (n := 36) (by first | assumption | omega) in_X2_endDays_wsX20 k_X2_endDays_37 dX2_endDays_33 rfl ?_
    refine r_icmp_ge (tgt := 75) (n := 39) dX2_endDays_36 (by decide) rfl (fun c_36 => ?_) (fun c_36 => ?_)
    · exact absurd c_36 (by rw [setp_at, hc]; exact nI_ge (by omega) (by omega))
    · refine r_al0 (n := 40) dX2_endDays_39 rfl ?_
      refine r_il2 (n := 41) dX2_endDays_40 rfl ?_
      refine cV_a (n := 44) (np := 1) (m_X2_find_s (N := N) (k := i) (by assumption) (by rw [setp_at, hc]) h8 (by omega)) gX2_endDays_X2_find rfl (by decide +kernel) rfl (by decide) (by decide) (by omega) (cell_st cA ad _ (by first | assumption | omega)) rfl dX2_endDays_41 rfl rfl (Nat.le_of_ble_eq_true rfl) ?_
      refine r_as3 (n := 45) (by decide) rfl dX2_endDays_44 rfl ?_
      refine r_iconst (v := 0) (n := 46) dX2_endDays_45 (by decide) rfl ?_
      refine r_is4 (n := 48) (by decide) rfl dX2_endDays_46 rfl ?_
      exact li_X2_endDays hp (by omega) hd (allU u d i) (by
        refine r_ii2 (n := 72) (by decide) rfl dX2_endDays_69 (nI_inc _) rfl ?_
        refine r_goto (tgt := 31) dX2_endDays_72 (by decide) ?_
        refine r_dr3 ?_
        refine r_dr4 ?_
        exact ih (i + 1) (by omega)) d 0 (by omega)

set_option maxHeartbeats 4000000 in
set_option maxRecDepth 100000 in
theorem m_X2_endDays {p : Nat} (hp : p < 6) {N : Nat} (hN : M.1 p 0 = nI N) (h8 : N ≤ 8) {v : Int32} : C_X2_endDays cA ad D [.ref (ad (6 + 10 * p)), .int v] M (Ri (endS (M.1 p) N v).1 (setp M p (endS (M.1 p) N v).2)) := by
  refine PM_of (lv := [some (.ref (ad (6 + 10 * p))), some (.int v), none, none, none]) (by decide +kernel) rfl (Nat.le_of_ble_eq_true rfl) rfl ?_
  refine r_il1 (n := 1) dX2_endDays_0 rfl ?_
  refine r_iconst (v := 1) (n := 2) dX2_endDays_1 (by decide) rfl ?_
  refine r_icmp_lt (tgt := 11) (n := 5) dX2_endDays_2 (by decide) rfl (fun c_2 => ?_) (fun c_2 => ?_)
  · refine r_ldc (n := 13) dX2_endDays_11 k_X2_endDays_69 rfl ?_
    exact e_i dX2_endDays_13 rfl (by simp only [endS, *, if_true, if_false]) (by simp only [endS, *, if_true, if_false]; rw [setp_self])
  · refine r_il1 (n := 6) dX2_endDays_5 rfl ?_
    refine r_bipush (v := 99) (n := 8) dX2_endDays_6 (by decide) rfl ?_
    refine r_icmp_le (tgt := 14) (n := 11) dX2_endDays_8 (by decide) rfl (fun c_8 => ?_) (fun c_8 => ?_)
    · refine r_al0 (n := 15) dX2_endDays_14 rfl ?_
      refine g_st_day (n := 18) (by first | assumption | omega) in_X2_endDays_wsX20 k_X2_endDays_40 dX2_endDays_15 rfl ?_
      refine r_il1 (n := 19) dX2_endDays_18 rfl ?_
      refine r_iadd (n := 20) dX2_endDays_19 rfl ?_
      refine r_sipush (v := 9999) (n := 23) dX2_endDays_20 (by decide) rfl ?_
      refine r_icmp_le (tgt := 29) (n := 26) dX2_endDays_23 (by decide) rfl (fun c_23 => ?_) (fun c_23 => ?_)
      · refine r_iconst (v := 0) (n := 30) dX2_endDays_29 (by decide) rfl ?_
        refine r_is2 (n := 31) (by decide) rfl dX2_endDays_30 rfl ?_
        obtain ⟨d, hd, hv, hcl⟩ := small_nI c_2 c_8
        subst hv
        refine pw_mem (setp_self M p).symm ?_
        refine lo_X2_endDays hp hd (M.1 p) hN h8 ?_ N 0 (by omega)
        have eN : ∀ j, j ≠ 8 → j < 14 → (setp M p (allU (M.1 p) d N)).1 p j = M.1 p j := fun j h1 h2 => by rw [setp_at, allU_j _ _ _ h1 h2]
        refine r_al0 (n := 76) dX2_endDays_75 rfl ?_
        refine r_dup (n := 77) dX2_endDays_76 rfl rfl ?_
        refine g_st_day (n := 80) (by first | assumption | omega) in_X2_endDays_wsX20 k_X2_endDays_40 dX2_endDays_77 rfl ?_
        refine r_il1 (n := 81) dX2_endDays_80 rfl ?_
        refine r_iadd (n := 82) dX2_endDays_81 rfl ?_
        refine p_st_day (n := 85) (by first | assumption | omega) in_X2_endDays_wsX20 k_X2_endDays_40 dX2_endDays_82 rfl ?_
        refine r_al0 (n := 86) dX2_endDays_85 rfl ?_
        refine r_al0 (n := 87) dX2_endDays_86 rfl ?_
        refine g_st_hours (n := 90) (by first | assumption | omega) in_X2_endDays_wsX20 k_X2_endDays_21 dX2_endDays_87 rfl ?_
        refine p_st_hoursLeft (n := 93) (by first | assumption | omega) in_X2_endDays_wsX20 k_X2_endDays_30 dX2_endDays_90 rfl ?_
        refine r_al0 (n := 94) dX2_endDays_93 rfl ?_
        rw [eN 1 (by decide) (by decide)]
        simp (disch := omega) only [mput_s, setp_at, setp_2, upd_at, upd_ne]
        rw [allU_j _ _ 11 (by decide) (by decide)]
        refine cV_i (n := 97) (np := 0) (m_X2_coldSet (by assumption) (N := N) (by rw [setp_at, upd_ne _ _ (by decide), upd_ne _ _ (by decide), allU_j _ _ _ (by decide) (by decide)]; exact hN) h8) gX2_endDays_X2_coldSet rfl (by decide +kernel) rfl (by decide) (by decide) (by omega) (cell_st cA ad _ (by assumption)) rfl dX2_endDays_94 rfl rfl (Nat.le_of_ble_eq_true rfl) ?_
        refine cS_i (n := 100) (np := 1) (m_J6_bitCount_0f7a4) gX2_endDays_J6_bitCount_0f7a4 rfl (by decide +kernel) rfl (by decide) (by decide) dX2_endDays_97 rfl rfl (Nat.le_of_ble_eq_true rfl) ?_
        exact e_i dX2_endDays_100 rfl (by simp only [endS, hcl, *, if_true, if_false, setp_at]; rfl) (by simp only [endS, hcl, *, if_true, if_false]; rfl)
      · refine r_ldc (n := 28) dX2_endDays_26 k_X2_endDays_70 rfl ?_
        exact e_i dX2_endDays_28 rfl (by simp only [endS, *, if_true, if_false]) (by simp only [endS, *, if_true, if_false]; rw [setp_self])
    · refine r_ldc (n := 13) dX2_endDays_11 k_X2_endDays_69 rfl ?_
      exact e_i dX2_endDays_13 rfl (by simp only [endS, *, if_true, if_false]) (by simp only [endS, *, if_true, if_false]; rw [setp_self])

set_option maxHeartbeats 4000000 in
set_option maxRecDepth 100000 in
theorem m_X2_isInRange {w v : Int32} : C_X2_isInRange cA ad D [.int w, .int v] M (Ri (bI (inRng w v)) M) := by
  refine PM_of (lv := [some (.int w), some (.int v)]) (by decide +kernel) rfl (Nat.le_of_ble_eq_true rfl) rfl ?_
  refine r_il0 (n := 1) dX2_isInRange_0 rfl ?_
  by_cases h_0 : w = 0
  · subst h_0
    refine r_tableIn (tgt := 32) dX2_isInRange_1 (by decide) (by decide) rfl (by decide) ?_
    refine r_il1 (n := 33) dX2_isInRange_32 rfl ?_
    refine r_iconst (v := 1) (n := 34) dX2_isInRange_33 (by decide) rfl ?_
    refine r_icmp_lt (tgt := 47) (n := 37) dX2_isInRange_34 (by decide) rfl (fun c_34 => ?_) (fun c_34 => ?_)
    · refine r_iconst (v := 0) (n := 48) dX2_isInRange_47 (by decide) rfl ?_
      exact e_z dX2_isInRange_48 rfl (by decide) (by simp_all [inRng, bI, rng]) rfl
    · refine r_il1 (n := 38) dX2_isInRange_37 rfl ?_
      refine r_bipush (v := 99) (n := 40) dX2_isInRange_38 (by decide) rfl ?_
      refine r_icmp_gt (tgt := 47) (n := 43) dX2_isInRange_40 (by decide) rfl (fun c_40 => ?_) (fun c_40 => ?_)
      · refine r_iconst (v := 0) (n := 48) dX2_isInRange_47 (by decide) rfl ?_
        exact e_z dX2_isInRange_48 rfl (by decide) (by simp_all [inRng, bI, rng]) rfl
      · refine r_iconst (v := 1) (n := 44) dX2_isInRange_43 (by decide) rfl ?_
        refine r_goto (tgt := 48) dX2_isInRange_44 (by decide) ?_
        exact e_z dX2_isInRange_48 rfl (by decide) (by simp_all [inRng, bI, rng]) rfl
  by_cases h_1 : w = 1
  · subst h_1
    refine r_tableIn (tgt := 49) dX2_isInRange_1 (by decide) (by decide) rfl (by decide) ?_
    refine r_il1 (n := 50) dX2_isInRange_49 rfl ?_
    refine r_iconst (v := 1) (n := 51) dX2_isInRange_50 (by decide) rfl ?_
    refine r_icmp_lt (tgt := 64) (n := 54) dX2_isInRange_51 (by decide) rfl (fun c_51 => ?_) (fun c_51 => ?_)
    · refine r_iconst (v := 0) (n := 65) dX2_isInRange_64 (by decide) rfl ?_
      exact e_z dX2_isInRange_65 rfl (by decide) (by simp_all [inRng, bI, rng]) rfl
    · refine r_il1 (n := 55) dX2_isInRange_54 rfl ?_
      refine r_bipush (v := 24) (n := 57) dX2_isInRange_55 (by decide) rfl ?_
      refine r_icmp_gt (tgt := 64) (n := 60) dX2_isInRange_57 (by decide) rfl (fun c_57 => ?_) (fun c_57 => ?_)
      · refine r_iconst (v := 0) (n := 65) dX2_isInRange_64 (by decide) rfl ?_
        exact e_z dX2_isInRange_65 rfl (by decide) (by simp_all [inRng, bI, rng]) rfl
      · refine r_iconst (v := 1) (n := 61) dX2_isInRange_60 (by decide) rfl ?_
        refine r_goto (tgt := 65) dX2_isInRange_61 (by decide) ?_
        exact e_z dX2_isInRange_65 rfl (by decide) (by simp_all [inRng, bI, rng]) rfl
  by_cases h_2 : w = 2
  · subst h_2
    refine r_tableIn (tgt := 66) dX2_isInRange_1 (by decide) (by decide) rfl (by decide) ?_
    refine r_il1 (n := 67) dX2_isInRange_66 rfl ?_
    refine r_if_lt (tgt := 80) (n := 70) dX2_isInRange_67 (by decide) rfl (fun c_67 => ?_) (fun c_67 => ?_)
    · refine r_iconst (v := 0) (n := 81) dX2_isInRange_80 (by decide) rfl ?_
      exact e_z dX2_isInRange_81 rfl (by decide) (by simp_all [inRng, bI, rng]) rfl
    · refine r_il1 (n := 71) dX2_isInRange_70 rfl ?_
      refine r_bipush (v := 20) (n := 73) dX2_isInRange_71 (by decide) rfl ?_
      refine r_icmp_gt (tgt := 80) (n := 76) dX2_isInRange_73 (by decide) rfl (fun c_73 => ?_) (fun c_73 => ?_)
      · refine r_iconst (v := 0) (n := 81) dX2_isInRange_80 (by decide) rfl ?_
        exact e_z dX2_isInRange_81 rfl (by decide) (by simp_all [inRng, bI, rng]) rfl
      · refine r_iconst (v := 1) (n := 77) dX2_isInRange_76 (by decide) rfl ?_
        refine r_goto (tgt := 81) dX2_isInRange_77 (by decide) ?_
        exact e_z dX2_isInRange_81 rfl (by decide) (by simp_all [inRng, bI, rng]) rfl
  by_cases h_3 : w = 3
  · subst h_3
    refine r_tableIn (tgt := 82) dX2_isInRange_1 (by decide) (by decide) rfl (by decide) ?_
    refine r_il1 (n := 83) dX2_isInRange_82 rfl ?_
    refine r_if_lt (tgt := 97) (n := 86) dX2_isInRange_83 (by decide) rfl (fun c_83 => ?_) (fun c_83 => ?_)
    · refine r_iconst (v := 0) (n := 98) dX2_isInRange_97 (by decide) rfl ?_
      exact e_z dX2_isInRange_98 rfl (by decide) (by simp_all [inRng, bI, rng]) rfl
    · refine r_il1 (n := 87) dX2_isInRange_86 rfl ?_
      refine r_sipush (v := 500) (n := 90) dX2_isInRange_87 (by decide) rfl ?_
      refine r_icmp_gt (tgt := 97) (n := 93) dX2_isInRange_90 (by decide) rfl (fun c_90 => ?_) (fun c_90 => ?_)
      · refine r_iconst (v := 0) (n := 98) dX2_isInRange_97 (by decide) rfl ?_
        exact e_z dX2_isInRange_98 rfl (by decide) (by simp_all [inRng, bI, rng]) rfl
      · refine r_iconst (v := 1) (n := 94) dX2_isInRange_93 (by decide) rfl ?_
        refine r_goto (tgt := 98) dX2_isInRange_94 (by decide) ?_
        exact e_z dX2_isInRange_98 rfl (by decide) (by simp_all [inRng, bI, rng]) rfl
  refine r_tableOut (tgt := 99) dX2_isInRange_1 (sw_out (lo := 0) (hi := 3) (by decide) (by decide) (fun k h1 h2 => by
    have hk : k = 0 ∨ k = 1 ∨ k = 2 ∨ k = 3 := by omega
    rcases hk with rfl | rfl | rfl | rfl
    · exact h_0
    · exact h_1
    · exact h_2
    · exact h_3
    )) (by decide) ?_
  refine r_iconst (v := 0) (n := 100) dX2_isInRange_99 (by decide) rfl ?_
  exact e_z dX2_isInRange_100 rfl (by decide) (by simp_all [inRng, bI, rng]) rfl

set_option maxHeartbeats 4000000 in
set_option maxRecDepth 100000 in
theorem m_X2_changeSetting {p : Nat} (hp : p < 6) {w v : Int32} : C_X2_changeSetting cA ad D [.ref (ad (6 + 10 * p)), .int w, .int v] M (Ri (setS (M.1 p) w v).1 (setp M p (setS (M.1 p) w v).2)) := by
  refine PM_of (lv := [some (.ref (ad (6 + 10 * p))), some (.int w), some (.int v), none]) (by decide +kernel) rfl (Nat.le_of_ble_eq_true rfl) rfl ?_
  refine r_il1 (n := 1) dX2_changeSetting_0 rfl ?_
  refine r_il2 (n := 2) dX2_changeSetting_1 rfl ?_
  refine cS_i (n := 5) (np := 2) (m_X2_isInRange) gX2_changeSetting_X2_isInRange rfl (by decide +kernel) rfl (by decide) (by decide) dX2_changeSetting_2 rfl rfl (Nat.le_of_ble_eq_true rfl) ?_
  refine r_if_ne (tgt := 11) (n := 8) dX2_changeSetting_5 (by decide) rfl (fun c_5 => ?_) (fun c_5 => ?_)
  · have hb := bI_1 c_5
    refine r_il1 (n := 12) dX2_changeSetting_11 rfl ?_
    by_cases h_0 : w = 0
    · subst h_0
      refine r_tableIn (tgt := 40) dX2_changeSetting_12 (by decide) (by decide) rfl (by decide) ?_
      refine r_al0 (n := 41) dX2_changeSetting_40 rfl ?_
      refine g_st_cold (n := 44) (by first | assumption | omega) in_X2_changeSetting_wsX20 k_X2_changeSetting_17 dX2_changeSetting_41 rfl ?_
      refine r_is3 (n := 45) (by decide) rfl dX2_changeSetting_44 rfl ?_
      refine r_al0 (n := 46) dX2_changeSetting_45 rfl ?_
      refine r_il2 (n := 47) dX2_changeSetting_46 rfl ?_
      refine p_st_cold (n := 50) (by first | assumption | omega) in_X2_changeSetting_wsX20 k_X2_changeSetting_17 dX2_changeSetting_47 rfl ?_
      refine r_il3 (n := 51) dX2_changeSetting_50 rfl ?_
      exact e_i dX2_changeSetting_51 rfl (by simp_all [setS]) (by simp_all [setS, mput_s])
    by_cases h_1 : w = 1
    · subst h_1
      refine r_tableIn (tgt := 52) dX2_changeSetting_12 (by decide) (by decide) rfl (by decide) ?_
      refine r_al0 (n := 53) dX2_changeSetting_52 rfl ?_
      refine g_st_hours (n := 56) (by first | assumption | omega) in_X2_changeSetting_wsX20 k_X2_changeSetting_21 dX2_changeSetting_53 rfl ?_
      refine r_is3 (n := 57) (by decide) rfl dX2_changeSetting_56 rfl ?_
      refine r_al0 (n := 58) dX2_changeSetting_57 rfl ?_
      refine r_il2 (n := 59) dX2_changeSetting_58 rfl ?_
      refine p_st_hours (n := 62) (by first | assumption | omega) in_X2_changeSetting_wsX20 k_X2_changeSetting_21 dX2_changeSetting_59 rfl ?_
      refine r_il3 (n := 63) dX2_changeSetting_62 rfl ?_
      exact e_i dX2_changeSetting_63 rfl (by simp_all [setS]) (by simp_all [setS, mput_s])
    by_cases h_2 : w = 2
    · subst h_2
      refine r_tableIn (tgt := 64) dX2_changeSetting_12 (by decide) (by decide) rfl (by decide) ?_
      refine r_al0 (n := 65) dX2_changeSetting_64 rfl ?_
      refine g_st_rate (n := 68) (by first | assumption | omega) in_X2_changeSetting_wsX20 k_X2_changeSetting_24 dX2_changeSetting_65 rfl ?_
      refine r_is3 (n := 69) (by decide) rfl dX2_changeSetting_68 rfl ?_
      refine r_al0 (n := 70) dX2_changeSetting_69 rfl ?_
      refine r_il2 (n := 71) dX2_changeSetting_70 rfl ?_
      refine p_st_rate (n := 74) (by first | assumption | omega) in_X2_changeSetting_wsX20 k_X2_changeSetting_24 dX2_changeSetting_71 rfl ?_
      refine r_il3 (n := 75) dX2_changeSetting_74 rfl ?_
      exact e_i dX2_changeSetting_75 rfl (by simp_all [setS]) (by simp_all [setS, mput_s])
    refine r_tableOut (tgt := 76) dX2_changeSetting_12 (sw_out (lo := 0) (hi := 2) (by decide) (by decide) (fun k h1 h2 => by
      have hk : k = 0 ∨ k = 1 ∨ k = 2 := by omega
      rcases hk with rfl | rfl | rfl
      · exact h_0
      · exact h_1
      · exact h_2
      )) (by decide) ?_
    refine r_al0 (n := 77) dX2_changeSetting_76 rfl ?_
    refine g_st_patience (n := 80) (by first | assumption | omega) in_X2_changeSetting_wsX20 k_X2_changeSetting_27 dX2_changeSetting_77 rfl ?_
    refine r_is3 (n := 81) (by decide) rfl dX2_changeSetting_80 rfl ?_
    refine r_al0 (n := 82) dX2_changeSetting_81 rfl ?_
    refine r_il2 (n := 83) dX2_changeSetting_82 rfl ?_
    refine p_st_patience (n := 86) (by first | assumption | omega) in_X2_changeSetting_wsX20 k_X2_changeSetting_27 dX2_changeSetting_83 rfl ?_
    refine r_il3 (n := 87) dX2_changeSetting_86 rfl ?_
    exact e_i dX2_changeSetting_87 rfl (by simp_all [setS]) (by simp_all [setS, mput_s])
  · have hb := bI_0 c_5
    refine r_ldc (n := 10) dX2_changeSetting_8 k_X2_changeSetting_69 rfl ?_
    exact e_i dX2_changeSetting_10 rfl (by simp only [setS, *]; simp) (by simp only [setS, *]; simp [setp_self])

end STATES3

