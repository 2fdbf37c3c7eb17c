/-! ===== the reference: all orders ===== -/
section MPLAYS
variable {cA : Nat → ClassId} {ad : Nat → Nat} {D : va_G} {M : Mem}
theorem ordM_0 (w : Vec) (n : Nat) (c v : Int32) : mw w (ordM w n c v).2 0 = w 0 := by
  have e : ∀ (k : Nat) (b : Bool), mw w (mendM w k b).2 0 = w 0 := fun k b => by
    unfold mendM
    split
    · simp (disch := omega) only [mw, mendU, upd_ne]
    · rfl
  have e2 : ∀ (k : Nat), mw w (collM w k).2 0 = w 0 := fun k => by
    unfold collM
    split
    · split
      · rfl
      · simp (disch := omega) only [mw, collU, upd_ne]
    · rfl
  unfold ordM
  split
  · unfold walkM
    split
    · split
      · simp (disch := omega) only [mw, upd_ne]
      · rfl
    · rfl
  · split
    · unfold buyM
      split
      · split
        · split
          · simp (disch := omega) only [mw, upd_ne]
          · rfl
        · rfl
      · rfl
    · split
      · unfold mendMJ
        split
        · exact e _ _
        · rfl
      · split
        · unfold mendMJ
          split
          · exact e _ _
          · rfl
        · split
          · unfold collMJ
            split
            · exact e2 _
            · rfl
          · unfold endM
            split
            · split
              · exact edsU_0 _ _ _
              · rfl
            · rfl
theorem mo_M9 (M : Mem) (w b : Vec) (x : Option Vec) : mo (M9 M w b) (M9 M w b) x = M9 M (mw w x) b := by
  cases x with
  | none => rfl
  | some w' => exact M9_s10 _ _ _ _
set_option maxHeartbeats 4000000 in
set_option maxRecDepth 100000 in
theorem x_X4_plays {o2 o3 : Option Value} (w b : Vec) : P_X4_plays cA ad D 22 [some (.ref (ad 4)), some (.int 0), o2, o3] [] (M9 M w b) (Ri 0 (M9 M w (upd b 1 0))) := by
  refine r_al0 (n := 23) dX4_plays_22 rfl ?_
  refine g_mo_spot (n := 26)  in_X4_plays_wsX40 k_X4_plays_132 dX4_plays_23 rfl ?_
  refine r_al0 (n := 27) dX4_plays_26 rfl ?_
  refine g_mo_typed (n := 30)  in_X4_plays_wsX40 k_X4_plays_129 dX4_plays_27 rfl ?_
  refine r_icmp_ge (tgt := 124) (n := 33) dX4_plays_30 (by decide) rfl (fun c_30 => ?_) (fun c_30 => ?_)
  · refine r_al0 (n := 125) dX4_plays_124 rfl ?_
    refine r_iconst (v := 0) (n := 126) dX4_plays_125 (by decide) rfl ?_
    refine p_mo_runs (n := 129) (by decide) in_X4_plays_wsX40 k_X4_plays_25 dX4_plays_126 rfl ?_
    refine r_il1 (n := 130) dX4_plays_129 rfl ?_
    exact e_z dX4_plays_130 rfl (by decide) (by rfl) (by simp only [mput_s, M9_9, M9_s9])
  · refine r_il1 (n := 34) dX4_plays_33 rfl ?_
    refine r_if_eq (tgt := 124) (n := 37) dX4_plays_34 (by decide) rfl (fun c_34 => ?_) (fun c_34 => ?_)
    · refine r_al0 (n := 125) dX4_plays_124 rfl ?_
      refine r_iconst (v := 0) (n := 126) dX4_plays_125 (by decide) rfl ?_
      refine p_mo_runs (n := 129) (by decide) in_X4_plays_wsX40 k_X4_plays_25 dX4_plays_126 rfl ?_
      refine r_il1 (n := 130) dX4_plays_129 rfl ?_
      exact e_z dX4_plays_130 rfl (by decide) (by rfl) (by simp only [mput_s, M9_9, M9_s9])
    · exact absurd c_34 (fun q => q rfl)

set_option maxHeartbeats 4000000 in
set_option maxRecDepth 100000 in
theorem l_X4_plays {t N : Nat} (h60 : t ≤ 60) (h8 : N ≤ 8) (hz : ∀ w, onZ 8 (csN w N)) : ∀ (m s : Nat), t ≤ s + m → s < 1000 → ∀ (w b : Vec), w 0 = nI N → b 1 = 1 → b 2 = nI t → b 3 = nI s → ∀ {o2 o3 : Option Value}, catok [o2, o3] = true → catok [o3] = true → P_X4_plays cA ad D 22 [some (.ref (ad 4)), some (.int 1), o2, o3] [] (M9 M w b) (Ri (plF (M.1 14) t N m s w b).1 (M9 M (plF (M.1 14) t N m s w b).2.1 (upd (plF (M.1 14) t N m s w b).2.2 1 0))) := by
  intro m
  induction m with
  | zero =>
    intro s hm hs w b hw hb1 hb2 hb3 o2 o3 hc2 hc3
    refine r_al0 (n := 23) dX4_plays_22 rfl ?_
    refine g_mo_spot (n := 26)  in_X4_plays_wsX40 k_X4_plays_132 dX4_plays_23 rfl ?_
    refine r_al0 (n := 27) dX4_plays_26 rfl ?_
    refine g_mo_typed (n := 30)  in_X4_plays_wsX40 k_X4_plays_129 dX4_plays_27 rfl ?_
    refine r_icmp_ge (tgt := 124) (n := 33) dX4_plays_30 (by decide) rfl (fun c_30 => ?_) (fun c_30 => ?_)
    · rw [M9_9, hb3, hb2] at c_30
      have hst : ¬ s < t := fun q => nI_ge q (by omega) c_30
      refine r_al0 (n := 125) dX4_plays_124 rfl ?_
      refine r_iconst (v := 0) (n := 126) dX4_plays_125 (by decide) rfl ?_
      refine p_mo_runs (n := 129) (by decide) in_X4_plays_wsX40 k_X4_plays_25 dX4_plays_126 rfl ?_
      refine r_il1 (n := 130) dX4_plays_129 rfl ?_
      exact e_z dX4_plays_130 rfl (by decide) (by first | rfl | rw [plF, if_neg hst]) (by first | (simp only [mput_s, M9_9, M9_s9]; rfl) | (rw [plF, if_neg hst]; simp only [mput_s, M9_9, M9_s9]))
    · exact absurd c_30 (fun q => q (by rw [M9_9, hb3, hb2]; exact nI_le (a := t) (b := s) (by omega) (by omega)))
  | succ m ih =>
    intro s hm hs w b hw hb1 hb2 hb3 o2 o3 hc2 hc3
    refine r_al0 (n := 23) dX4_plays_22 rfl ?_
    refine g_mo_spot (n := 26)  in_X4_plays_wsX40 k_X4_plays_132 dX4_plays_23 rfl ?_
    refine r_al0 (n := 27) dX4_plays_26 rfl ?_
    refine g_mo_typed (n := 30)  in_X4_plays_wsX40 k_X4_plays_129 dX4_plays_27 rfl ?_
    refine r_icmp_ge (tgt := 124) (n := 33) dX4_plays_30 (by decide) rfl (fun c_30 => ?_) (fun c_30 => ?_)
    · rw [M9_9, hb3, hb2] at c_30
      have hst : ¬ s < t := fun q => nI_ge q (by omega) c_30
      refine r_al0 (n := 125) dX4_plays_124 rfl ?_
      refine r_iconst (v := 0) (n := 126) dX4_plays_125 (by decide) rfl ?_
      refine p_mo_runs (n := 129) (by decide) in_X4_plays_wsX40 k_X4_plays_25 dX4_plays_126 rfl ?_
      refine r_il1 (n := 130) dX4_plays_129 rfl ?_
      exact e_z dX4_plays_130 rfl (by decide) (by first | rfl | rw [plF, if_neg hst]) (by first | (simp only [mput_s, M9_9, M9_s9]; rfl) | (rw [plF, if_neg hst]; simp only [mput_s, M9_9, M9_s9]))
    · rw [M9_9, hb3, hb2] at c_30
      have hst : s < t := Nat.lt_of_not_le fun q => c_30 (nI_le q (by omega))
      refine r_il1 (n := 34) dX4_plays_33 rfl ?_
      refine r_if_eq (tgt := 124) (n := 37) dX4_plays_34 (by decide) rfl (fun c_34 => ?_) (fun c_34 => ?_)
      · exact absurd c_34 (by decide)
      · refine r_al0 (n := 38) dX4_plays_37 rfl ?_
        refine r_al0 (n := 39) dX4_plays_38 rfl ?_
        refine g_mo_spot (n := 42)  in_X4_plays_wsX40 k_X4_plays_132 dX4_plays_39 rfl ?_
        rw [M9_9, hb3]
        refine p_mo_from (n := 45)  in_X4_plays_wsX40 k_X4_plays_162 dX4_plays_42 rfl ?_
        rw [mput_s, M9_9, M9_s9]
        refine r_al0 (n := 46) dX4_plays_45 rfl ?_
        refine cV_i (n := 49) (np := 0) (m_X4_reads (t := t) (s := s) (by rw [M9_9, upd_ne _ _ (by decide)]; exact hb2) h60 (by rw [M9_9, upd_ne _ _ (by decide)]; exact hb3) (by omega)) gX4_plays_X4_reads rfl (by decide +kernel) rfl (by decide) (by decide) (by omega) rfl rfl dX4_plays_46 rfl rfl (Nat.le_of_ble_eq_true rfl) ?_
        rw [M9_9, M9_q _ _ _ (by decide) (by decide), M9_s9]
        refine r_is2 (n := 50) (by decide) (show catok [some (.ref (ad 4)), some (.int 1), o2, o3] = true from hc2) dX4_plays_49 rfl ?_
        refine r_il2 (n := 51) dX4_plays_50 rfl ?_
        refine r_if_eq (tgt := 61) (n := 54) dX4_plays_51 (by decide) rfl (fun c_51 => ?_) (fun c_51 => ?_)
        · replace c_51 := bI_0 c_51
          rw [c_51]
          refine r_iconst (v := 0) (n := 62) dX4_plays_61 (by decide) rfl ?_
          refine r_is3 (n := 63) (by decide) (show catok [some (.ref (ad 4)), some (.int 1), some (.int (bI false)), o3] = true from hc3) dX4_plays_62 rfl ?_
          refine r_il2 (n := 64) dX4_plays_63 rfl ?_
          refine r_if_eq (tgt := 75) (n := 67) dX4_plays_64 (by decide) rfl (fun c_64 => ?_) (fun c_64 => ?_)
          · refine r_iconst (v := 0) (n := 76) dX4_plays_75 (by decide) rfl ?_
            refine r_is1 (n := 77) (by decide) rfl dX4_plays_76 rfl ?_
            refine r_al0 (n := 78) dX4_plays_77 rfl ?_
            refine r_il2 (n := 79) dX4_plays_78 rfl ?_
            refine r_if_eq (tgt := 86) (n := 82) dX4_plays_79 (by decide) rfl (fun c_79 => ?_) (fun c_79 => ?_)
            · refine r_iconst (v := 1) (n := 87) dX4_plays_86 (by decide) rfl ?_
              refine p_mo_reason (n := 90)  in_X4_plays_wsX40 k_X4_plays_175 dX4_plays_87 rfl ?_
              refine r_al0 (n := 91) dX4_plays_90 rfl ?_
              refine r_il2 (n := 92) dX4_plays_91 rfl ?_
              refine r_if_eq (tgt := 99) (n := 95) dX4_plays_92 (by decide) rfl (fun c_92 => ?_) (fun c_92 => ?_)
              · refine r_al0 (n := 100) dX4_plays_99 rfl ?_
                refine g_mo_spot (n := 103)  in_X4_plays_wsX40 k_X4_plays_132 dX4_plays_100 rfl ?_
                refine r_al0 (n := 104) dX4_plays_103 rfl ?_
                refine g_mo_from (n := 107)  in_X4_plays_wsX40 k_X4_plays_162 dX4_plays_104 rfl ?_
                refine r_isub (n := 108) dX4_plays_107 rfl ?_
                refine p_mo_cause (n := 111)  in_X4_plays_wsX40 k_X4_plays_178 dX4_plays_108 rfl ?_
                simp (disch := omega) only [mput_s, M9_9, M9_s9, upd_ne]
                refine r_al0 (n := 112) dX4_plays_111 rfl ?_
                refine r_dup (n := 113) dX4_plays_112 rfl rfl ?_
                refine g_mo_orders (n := 116)  in_X4_plays_wsX40 k_X4_plays_165 dX4_plays_113 rfl ?_
                refine r_iconst (v := 1) (n := 117) dX4_plays_116 (by decide) rfl ?_
                refine r_iadd (n := 118) dX4_plays_117 rfl ?_
                refine p_mo_orders (n := 121)  in_X4_plays_wsX40 k_X4_plays_165 dX4_plays_118 rfl ?_
                refine r_goto (tgt := 22) dX4_plays_121 (by decide) ?_
                simp (disch := omega) only [mput_s, M9_9, M9_s9, upd_ne]
                rw [plF, if_pos hst, if_neg (by rw [c_51]; decide), show (rdV (upd b 4 (nI s)) (M.1 14) t s) 4 = nI s from by rw [rdV_k _ _ _ _ (by decide) (by decide) (by decide), upd_at], show (rdV (upd b 4 (nI s)) (M.1 14) t s) 7 = b 7 from by rw [rdV_k _ _ _ _ (by decide) (by decide) (by decide), upd_ne _ _ (by decide)]]
                exact x_X4_plays _ _
              · exact absurd c_92 (fun q => q rfl)
            · exact absurd c_79 (fun q => q rfl)
          · exact absurd c_64 (fun q => q rfl)
        · replace c_51 := bI_1 c_51
          rw [c_51]
          have e7 : (rdV (upd b 4 (nI s)) (M.1 14) t s) 7 = b 7 := by rw [rdV_k _ _ _ _ (by decide) (by decide) (by decide), upd_ne _ _ (by decide)]
          refine r_al0 (n := 55) dX4_plays_54 rfl ?_
          refine cV_i (n := 58) (np := 0) (m_X4_calls (N := N) (by rw [M9_10]; exact hw) h8 hz (by rw [M9_9, rdV_k _ _ _ _ (by decide) (by decide) (by decide), upd_ne _ _ (by decide)]; exact hb1)) gX4_plays_X4_calls rfl (by decide +kernel) rfl (by decide) (by decide) (by omega) rfl rfl dX4_plays_55 rfl rfl (Nat.le_of_ble_eq_true rfl) ?_
          rw [M9_9, M9_10, mo_M9]
          refine r_goto (tgt := 62) dX4_plays_58 (by decide) ?_
          refine r_is3 (n := 63) (by decide) (show catok [some (.ref (ad 4)), some (.int 1), some (.int (bI true)), o3] = true from hc3) dX4_plays_62 rfl ?_
          refine r_il2 (n := 64) dX4_plays_63 rfl ?_
          refine r_if_eq (tgt := 75) (n := 67) dX4_plays_64 (by decide) rfl (fun c_64 => ?_) (fun c_64 => ?_)
          · exact absurd c_64 (by decide)
          · refine r_il3 (n := 68) dX4_plays_67 rfl ?_
            refine r_if_lt (tgt := 75) (n := 71) dX4_plays_68 (by decide) rfl (fun c_68 => ?_) (fun c_68 => ?_)
            · refine r_iconst (v := 0) (n := 76) dX4_plays_75 (by decide) rfl ?_
              refine r_is1 (n := 77) (by decide) rfl dX4_plays_76 rfl ?_
              refine r_al0 (n := 78) dX4_plays_77 rfl ?_
              refine r_il2 (n := 79) dX4_plays_78 rfl ?_
              refine r_if_eq (tgt := 86) (n := 82) dX4_plays_79 (by decide) rfl (fun c_79 => ?_) (fun c_79 => ?_)
              · exact absurd c_79 (by decide)
              · refine r_iconst (v := 2) (n := 83) dX4_plays_82 (by decide) rfl ?_
                refine r_goto (tgt := 87) dX4_plays_83 (by decide) ?_
                refine p_mo_reason (n := 90)  in_X4_plays_wsX40 k_X4_plays_175 dX4_plays_87 rfl ?_
                refine r_al0 (n := 91) dX4_plays_90 rfl ?_
                refine r_il2 (n := 92) dX4_plays_91 rfl ?_
                refine r_if_eq (tgt := 99) (n := 95) dX4_plays_92 (by decide) rfl (fun c_92 => ?_) (fun c_92 => ?_)
                · exact absurd c_92 (by decide)
                · refine r_il3 (n := 96) dX4_plays_95 rfl ?_
                  refine r_goto (tgt := 108) dX4_plays_96 (by decide) ?_
                  refine p_mo_cause (n := 111)  in_X4_plays_wsX40 k_X4_plays_178 dX4_plays_108 rfl ?_
                  simp (disch := omega) only [mput_s, M9_9, M9_s9, upd_ne]
                  refine r_al0 (n := 112) dX4_plays_111 rfl ?_
                  refine r_dup (n := 113) dX4_plays_112 rfl rfl ?_
                  refine g_mo_orders (n := 116)  in_X4_plays_wsX40 k_X4_plays_165 dX4_plays_113 rfl ?_
                  refine r_iconst (v := 1) (n := 117) dX4_plays_116 (by decide) rfl ?_
                  refine r_iadd (n := 118) dX4_plays_117 rfl ?_
                  refine p_mo_orders (n := 121)  in_X4_plays_wsX40 k_X4_plays_165 dX4_plays_118 rfl ?_
                  refine r_goto (tgt := 22) dX4_plays_121 (by decide) ?_
                  simp (disch := omega) only [mput_s, M9_9, M9_s9, upd_ne]
                  rw [e7]
                  rw [plF, if_pos hst, if_pos c_51, if_pos c_68]
                  exact x_X4_plays _ _
            · refine r_iconst (v := 1) (n := 72) dX4_plays_71 (by decide) rfl ?_
              refine r_goto (tgt := 76) dX4_plays_72 (by decide) ?_
              refine r_is1 (n := 77) (by decide) rfl dX4_plays_76 rfl ?_
              refine r_al0 (n := 78) dX4_plays_77 rfl ?_
              refine r_il2 (n := 79) dX4_plays_78 rfl ?_
              refine r_if_eq (tgt := 86) (n := 82) dX4_plays_79 (by decide) rfl (fun c_79 => ?_) (fun c_79 => ?_)
              · exact absurd c_79 (by decide)
              · refine r_iconst (v := 2) (n := 83) dX4_plays_82 (by decide) rfl ?_
                refine r_goto (tgt := 87) dX4_plays_83 (by decide) ?_
                refine p_mo_reason (n := 90)  in_X4_plays_wsX40 k_X4_plays_175 dX4_plays_87 rfl ?_
                refine r_al0 (n := 91) dX4_plays_90 rfl ?_
                refine r_il2 (n := 92) dX4_plays_91 rfl ?_
                refine r_if_eq (tgt := 99) (n := 95) dX4_plays_92 (by decide) rfl (fun c_92 => ?_) (fun c_92 => ?_)
                · exact absurd c_92 (by decide)
                · refine r_il3 (n := 96) dX4_plays_95 rfl ?_
                  refine r_goto (tgt := 108) dX4_plays_96 (by decide) ?_
                  refine p_mo_cause (n := 111)  in_X4_plays_wsX40 k_X4_plays_178 dX4_plays_108 rfl ?_
                  simp (disch := omega) only [mput_s, M9_9, M9_s9, upd_ne]
                  refine r_al0 (n := 112) dX4_plays_111 rfl ?_
                  refine r_dup (n := 113) dX4_plays_112 rfl rfl ?_
                  refine g_mo_orders (n := 116)  in_X4_plays_wsX40 k_X4_plays_165 dX4_plays_113 rfl ?_
                  refine r_iconst (v := 1) (n := 117) dX4_plays_116 (by decide) rfl ?_
                  refine r_iadd (n := 118) dX4_plays_117 rfl ?_
                  refine p_mo_orders (n := 121)  in_X4_plays_wsX40 k_X4_plays_165 dX4_plays_118 rfl ?_
                  refine r_goto (tgt := 22) dX4_plays_121 (by decide) ?_
                  simp (disch := omega) only [mput_s, M9_9, M9_s9, upd_ne]
                  rw [e7]
                  rw [plF, if_pos hst, if_pos c_51, if_neg c_68]
                  have hd0 := (okB_L c_51).2.1
                  have hle := dgs_le (chr (M.1 14) t) s 3 0 0
                  exact ih (s + 2 + (dgs (chr (M.1 14) t) s 3 0 0).1) (by omega) (by omega) _ _ ((ordM_0 _ _ _ _).trans hw) (by simp (disch := omega) only [upd_ne, rdV_k, hb1]) (by simp (disch := omega) only [upd_ne, rdV_k, hb2]) (by simp (disch := omega) only [upd_ne]; exact rdV_3 c_51) rfl rfl

end MPLAYS
