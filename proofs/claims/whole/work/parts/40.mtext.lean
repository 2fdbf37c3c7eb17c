/-! ===== the reference: texts ===== -/
section MTEXT
variable {cA : Nat → ClassId} {ad : Nat → Nat} {D : va_G} {M : Mem}
set_option maxHeartbeats 4000000 in
set_option maxRecDepth 100000 in
theorem m_X4_isAt {t s : Nat} (ht : M.1 9 2 = nI t) (h60 : t ≤ 60) (hs : M.1 9 3 = nI s) (hs2 : s < 1000) {a b : Int32} : C_X4_isAt cA ad D [.ref (ad 4), .int a, .int b] M (Ri (bI (mat (M.1 14) t s a b)) M) := by
  refine PM_of (lv := [some (.ref (ad 4)), some (.int a), some (.int b)]) (by decide +kernel) rfl (Nat.le_of_ble_eq_true rfl) rfl ?_
  refine r_al0 (n := 1) dX4_isAt_0 rfl ?_
  refine g_mo_spot (n := 4)  in_X4_isAt_wsX40 k_X4_isAt_132 dX4_isAt_1 rfl ?_
  refine r_al0 (n := 5) dX4_isAt_4 rfl ?_
  refine g_mo_typed (n := 8)  in_X4_isAt_wsX40 k_X4_isAt_129 dX4_isAt_5 rfl ?_
  refine r_icmp_ge (tgt := 32) (n := 11) dX4_isAt_8 (by decide) rfl (fun c_8 => ?_) (fun c_8 => ?_)
  · rw [hs, ht] at c_8
    have hq : ¬ s < t := fun q => nI_ge q (by omega) c_8
    refine r_iconst (v := 0) (n := 33) dX4_isAt_32 (by decide) rfl ?_
    exact e_z dX4_isAt_33 rfl (by decide) (by simp [mat, bI, *]) rfl
  · rw [hs, ht] at c_8
    have hq : s < t := Nat.lt_of_not_le fun q => c_8 (nI_le q (by omega))
    refine r_al0 (n := 12) dX4_isAt_11 rfl ?_
    refine g_mo_text (n := 15)  in_X4_isAt_wsX40 k_X4_isAt_22 dX4_isAt_12 rfl ?_
    refine r_al0 (n := 16) dX4_isAt_15 rfl ?_
    refine g_mo_spot (n := 19)  in_X4_isAt_wsX40 k_X4_isAt_132 dX4_isAt_16 rfl ?_
    refine a_text (n := 20) hs (by omega) dX4_isAt_19 rfl ?_
    refine r_il1 (n := 21) dX4_isAt_20 rfl ?_
    refine r_il2 (n := 22) dX4_isAt_21 rfl ?_
    refine cS_i (n := 25) (np := 3) (m_X4_in) gX4_isAt_X4_in rfl (by decide +kernel) rfl (by decide) (by decide) dX4_isAt_22 rfl rfl (Nat.le_of_ble_eq_true rfl) ?_
    refine r_if_eq (tgt := 32) (n := 28) dX4_isAt_25 (by decide) rfl (fun c_25 => ?_) (fun c_25 => ?_)
    · replace c_25 := bI_0 c_25
      refine r_iconst (v := 0) (n := 33) dX4_isAt_32 (by decide) rfl ?_
      exact e_z dX4_isAt_33 rfl (by decide) (by simp [mat, bI, *]) rfl
    · replace c_25 := bI_1 c_25
      refine r_iconst (v := 1) (n := 29) dX4_isAt_28 (by decide) rfl ?_
      refine r_goto (tgt := 33) dX4_isAt_29 (by decide) ?_
      exact e_z dX4_isAt_33 rfl (by decide) (by simp [mat, bI, *]) rfl

set_option maxHeartbeats 4000000 in
set_option maxRecDepth 100000 in
theorem l_X4_reads {t s : Nat} (ht : M.1 9 2 = nI t) (h60 : t ≤ 60) (hs : s < 60) {Q : QT} : ∀ (m e : Nat), e + m = 3 → ∀ (n : Int32), P_X4_reads cA ad D 162 [some (.ref (ad 4)), some (.int (nI (s + 1))), none] [] (setp M 9 (upd (upd (upd (M.1 9) 8 (mor (M.1 14) t s)) 3 (nI (s + 1 + (dgs (chr (M.1 14) t) s m e n).1))) 9 (dgs (chr (M.1 14) t) s m e n).2)) Q → P_X4_reads cA ad D 104 [some (.ref (ad 4)), some (.int (nI (s + 1))), none] [] (setp M 9 (upd (upd (upd (M.1 9) 8 (mor (M.1 14) t s)) 3 (nI (s + 1 + e))) 9 n)) Q := by
  intro m
  induction m with
  | zero =>
    intro e he n K
    have he2 : e = 3 := by omega
    subst he2
    refine r_al0 (n := 105) dX4_reads_104 rfl ?_
    refine r_bipush (v := 48) (n := 107) dX4_reads_105 (by decide) rfl ?_
    refine r_bipush (v := 57) (n := 109) dX4_reads_107 (by decide) rfl ?_
    refine cV_i (n := 112) (np := 2) (m_X4_isAt (t := t) (s := s + 1 + 3) (by rw [setp_at, upd_ne _ _ (by decide), upd_ne _ _ (by decide), upd_ne _ _ (by decide)]; exact ht) h60 (by rw [setp_at, upd_ne _ _ (by decide), upd_at]) (by omega)) gX4_reads_X4_isAt rfl (by decide +kernel) rfl (by decide) (by decide) (by omega) rfl rfl dX4_reads_109 rfl rfl (Nat.le_of_ble_eq_true rfl) ?_
    rw [setp_ne _ _ (show 14 ≠ 9 by decide)]
    refine r_if_eq (tgt := 162) (n := 115) dX4_reads_112 (by decide) rfl (fun c_112 => ?_) (fun c_112 => ?_)
    · replace c_112 := bI_0 c_112
      rw [dgs] at K
      exact K
    · replace c_112 := bI_1 c_112
      obtain ⟨hlt, hdg⟩ := mat_lt c_112
      have hch : chr (M.1 14) t (s + 1 + 3) = M.1 14 (s + 1 + 3) := by unfold chr; rw [if_pos hlt]
      refine r_al0 (n := 116) dX4_reads_115 rfl ?_
      refine g_mo_spot (n := 119)  in_X4_reads_wsX40 k_X4_reads_132 dX4_reads_116 rfl ?_
      refine r_il1 (n := 120) dX4_reads_119 rfl ?_
      refine r_isub (n := 121) dX4_reads_120 rfl ?_
      rw [setp_at, upd_ne _ _ (by decide), upd_at, pk_sub (by omega), show s + 1 + 3 - (s + 1) = 3 by omega]
      refine r_iconst (v := 3) (n := 122) dX4_reads_121 (by decide) rfl ?_
      refine r_icmp_ge (tgt := 162) (n := 125) dX4_reads_122 (by decide) rfl (fun c_122 => ?_) (fun c_122 => ?_)
      · rw [dgs] at K
        exact K
      · exact absurd c_122 (fun q => q (Int32.le_refl _))
  | succ m ih =>
    intro e he n K
    refine r_al0 (n := 105) dX4_reads_104 rfl ?_
    refine r_bipush (v := 48) (n := 107) dX4_reads_105 (by decide) rfl ?_
    refine r_bipush (v := 57) (n := 109) dX4_reads_107 (by decide) rfl ?_
    refine cV_i (n := 112) (np := 2) (m_X4_isAt (t := t) (s := s + 1 + e) (by rw [setp_at, upd_ne _ _ (by decide), upd_ne _ _ (by decide), upd_ne _ _ (by decide)]; exact ht) h60 (by rw [setp_at, upd_ne _ _ (by decide), upd_at]) (by omega)) gX4_reads_X4_isAt rfl (by decide +kernel) rfl (by decide) (by decide) (by omega) rfl rfl dX4_reads_109 rfl rfl (Nat.le_of_ble_eq_true rfl) ?_
    rw [setp_ne _ _ (show 14 ≠ 9 by decide)]
    refine r_if_eq (tgt := 162) (n := 115) dX4_reads_112 (by decide) rfl (fun c_112 => ?_) (fun c_112 => ?_)
    · replace c_112 := bI_0 c_112
      rw [mat_chr _ _ _ (by decide)] at c_112
      rw [dgs, if_neg (by rw [c_112]; decide)] at K
      exact K
    · replace c_112 := bI_1 c_112
      obtain ⟨hlt, hdg⟩ := mat_lt c_112
      have hch : chr (M.1 14) t (s + 1 + e) = M.1 14 (s + 1 + e) := by unfold chr; rw [if_pos hlt]
      refine r_al0 (n := 116) dX4_reads_115 rfl ?_
      refine g_mo_spot (n := 119)  in_X4_reads_wsX40 k_X4_reads_132 dX4_reads_116 rfl ?_
      refine r_il1 (n := 120) dX4_reads_119 rfl ?_
      refine r_isub (n := 121) dX4_reads_120 rfl ?_
      rw [setp_at, upd_ne _ _ (by decide), upd_at, pk_sub (by omega), show s + 1 + e - (s + 1) = e by omega]
      refine r_iconst (v := 3) (n := 122) dX4_reads_121 (by decide) rfl ?_
      refine r_icmp_ge (tgt := 162) (n := 125) dX4_reads_122 (by decide) rfl (fun c_122 => ?_) (fun c_122 => ?_)
      · exact absurd c_122 (nI_ge (a := e) (b := 3) (by omega) (by omega))
      · refine r_al0 (n := 126) dX4_reads_125 rfl ?_
        refine r_bipush (v := 10) (n := 128) dX4_reads_126 (by decide) rfl ?_
        refine r_al0 (n := 129) dX4_reads_128 rfl ?_
        refine g_mo_number (n := 132)  in_X4_reads_wsX40 k_X4_reads_141 dX4_reads_129 rfl ?_
        refine r_imul (n := 133) dX4_reads_132 rfl ?_
        refine r_al0 (n := 134) dX4_reads_133 rfl ?_
        refine g_mo_text (n := 137)  in_X4_reads_wsX40 k_X4_reads_22 dX4_reads_134 rfl ?_
        refine r_al0 (n := 138) dX4_reads_137 rfl ?_
        refine g_mo_spot (n := 141)  in_X4_reads_wsX40 k_X4_reads_132 dX4_reads_138 rfl ?_
        refine a_text (n := 142) (k := s + 1 + e) (by rw [setp_at, upd_ne _ _ (by decide), upd_at]) (by omega) dX4_reads_141 rfl ?_
        refine r_iadd (n := 143) dX4_reads_142 rfl ?_
        refine r_bipush (v := 48) (n := 145) dX4_reads_143 (by decide) rfl ?_
        refine r_isub (n := 146) dX4_reads_145 rfl ?_
        refine p_mo_number (n := 149)  in_X4_reads_wsX40 k_X4_reads_141 dX4_reads_146 rfl ?_
        refine r_al0 (n := 150) dX4_reads_149 rfl ?_
        refine r_dup (n := 151) dX4_reads_150 rfl rfl ?_
        refine g_mo_spot (n := 154)  in_X4_reads_wsX40 k_X4_reads_132 dX4_reads_151 rfl ?_
        refine r_iconst (v := 1) (n := 155) dX4_reads_154 (by decide) rfl ?_
        refine r_iadd (n := 156) dX4_reads_155 rfl ?_
        refine p_mo_spot (n := 159)  in_X4_reads_wsX40 k_X4_reads_132 dX4_reads_156 rfl ?_
        refine r_goto (tgt := 104) dX4_reads_159 (by decide) ?_
        simp (disch := omega) only [mput_s, setp_at, setp_2, setp_ne, upd_at, upd_ne]
        rw [upd_2, upd_sw _ _ _ (show 9 ≠ 3 by decide), upd_2, nI_1, Int32.mul_comm 10 n, ← hch, show s + 1 + e + 1 = s + 1 + (e + 1) by omega]
        rw [dgs, if_pos (by rw [hch]; exact hdg)] at K
        exact ih (e + 1) (by omega) _ K

end MTEXT
