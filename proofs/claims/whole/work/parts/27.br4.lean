/-! ===== the object: the text's orders ===== -/
section BR4
variable {cA : Nat → ClassId} {ad : Nat → Nat} {D : va_G} {M : Mem}
theorem M3_of {p : Nat} (hp : p < 6) (w b : Vec) : setp (setp M p w) 8 b = M3 M p w (M.1 6) b := by
  unfold M3
  have e : setp (setp M p w) 6 (M.1 6) = setp M p w := by
    rw [show M.1 6 = (setp M p w).1 6 from (setp_ne _ _ (by omega)).symm, setp_self]
  rw [e]
def TryQ (M : Mem) (u : Vec) (h : Nat) (hs : Nat → Vec) (t : Nat) (tx : Vec) (R : Int32 × Vec × Int32 × Int32 × Int32 × Int32) : Mem → Prop := fun M' =>
  FC M M' ∧ CA M' u h hs t tx ∧ Agr (M'.1 (M'.2 1)) R.2.1 ∧ M'.1 8 1 = R.2.2.1 ∧ (R.1 = 0 → M'.1 8 2 = R.2.2.2.1 ∧ M'.1 8 3 = R.2.2.2.2.1 ∧ M'.1 8 4 = R.2.2.2.2.2)

set_option maxHeartbeats 4000000 in
set_option maxRecDepth 100000 in
theorem c_X3_tryOrders {u : Vec} {h : Nat} {hs : Nat → Vec} {t : Nat} {tx : Vec} (c : CA M u h hs t tx) {N : Nat} (huN : u 0 = nI N) (h8 : N ≤ 8) : C_X3_tryOrders cA ad D [.ref (ad 0)] M (QR (runA (chr tx t) t N 60 0 u 0).1 (TryQ M u h hs t tx (runA (chr tx t) t N 60 0 u 0))) := by
  refine PM_of (lv := [some (.ref (ad 0)), none, none, none]) (by decide +kernel) rfl (Nat.le_of_ble_eq_true rfl) rfl ?_
  obtain ⟨N', h8', huN', hvN', hk'⟩ := c.agr.n
  have hNN := cntN huN huN' h8 h8'
  subst hNN
  have hvN := hvN'
  have hk := hk'
  have hr := c.1.1
  have hp1 := hr 1 (by decide)
  have hp0 := hr 0 (by decide)
  have hpq : M.2 0 ≠ M.2 1 := fun q => absurd (c.1.2 0 1 (by decide) (by decide) q) (by decide)
  have hW : AN N (copyU (M.1 (M.2 1)) (M.1 (M.2 0)) N) u := fun k q => by rw [← hk k q]; simp [copyU, q]
  have hWN : copyU (M.1 (M.2 1)) (M.1 (M.2 0)) N 0 = nI N := (hW 0 (by omega)).trans huN
  refine r_al0 (n := 1) dX3_tryOrders_0 rfl ?_
  refine g_br_trial (n := 4)  in_X3_tryOrders_wsX30 k_X3_tryOrders_16 dX3_tryOrders_1 rfl ?_
  refine r_al0 (n := 5) dX3_tryOrders_4 rfl ?_
  refine g_br_now (n := 8)  in_X3_tryOrders_wsX30 k_X3_tryOrders_12 dX3_tryOrders_5 rfl ?_
  refine cV_v (n := 11) (np := 1) (m_X2_copyFrom hp1 hp0 hpq hvN h8) gX3_tryOrders_X2_copyFrom rfl (by decide +kernel) rfl (by decide) (by decide) (by omega) (cell_st cA ad _ hp1) rfl dX3_tryOrders_8 rfl rfl (Nat.le_of_ble_eq_true rfl) ?_
  refine r_al0 (n := 12) dX3_tryOrders_11 rfl ?_
  refine r_iconst (v := 0) (n := 13) dX3_tryOrders_12 (by decide) rfl ?_
  refine p_br_ordersTried (n := 16)  in_X3_tryOrders_wsX30 k_X3_tryOrders_212 dX3_tryOrders_13 rfl ?_
  rw [mput_s, setp_ne _ _ (by omega), M3_of hp1]
  refine r_iconst (v := 0) (n := 17) dX3_tryOrders_16 (by decide) rfl ?_
  refine r_is1 (n := 18) (by decide) rfl dX3_tryOrders_17 rfl ?_
  refine r_iconst (v := 0) (n := 19) dX3_tryOrders_18 (by decide) rfl ?_
  refine r_is2 (n := 20) (by decide) rfl dX3_tryOrders_19 rfl ?_
  have ht := c.2.2.2.2.2.1
  have h60 := c.2.2.2.2.2.2.1
  have hf : chr tx t = chr (M.1 7) t := (chr_eq c.2.2.2.2.2.2.2).symm
  have k := l_X3_tryOrders (cA := cA) (ad := ad) (D := D) (M := M) hr h60 h8 (chr tx t) hf 60 0 (by omega) 0 (by omega) (copyU (M.1 (M.2 1)) (M.1 (M.2 0)) N) (M.1 6) (upd (M.1 8) 1 0) hWN ht
  refine pw_post k (fun r M' q => ?_)
  obtain ⟨q1, q2⟩ := q
  obtain ⟨a1, a2, a3, a4, a5, a6⟩ := tryF_run (chr tx t) t N 60 0 (copyU (M.1 (M.2 1)) (M.1 (M.2 0)) N) (M.1 6) (upd (M.1 8) 1 0)
  rw [upd_at] at a1 a2 a3 a4
  obtain ⟨b1, b2, b3, b4⟩ := runA_c (chr tx t) t h8 60 0 _ u 0 hW huN
  refine ⟨by rw [q1, a1, b1], ?_⟩
  rw [b1] at a1 a4
  rw [b3] at a3 a4
  subst q2
  refine ⟨fun q hq => M3_q _ _ _ _ (by omega) (by omega) (by omega), ?_, ?_, ?_, ?_⟩
  · have c1 := (c.trial (tryF (chr tx t) t N 60 0 (copyU (M.1 (M.2 1)) (M.1 (M.2 0)) N) (M.1 6) (upd (M.1 8) 1 0)).2.1)
    have c2 := c1.row6 (tryF (chr tx t) t N 60 0 (copyU (M.1 (M.2 1)) (M.1 (M.2 0)) N) (M.1 6) (upd (M.1 8) 1 0)).2.2.1 (by rw [a5, setp_ne _ _ (by omega)])
    exact c2.row8 _ (by rw [a6, setp_ne _ _ (by decide), setp_ne _ _ (by omega), upd_ne _ _ (by decide)])
  · show Agr ((M3 M (M.2 1) _ _ _).1 (M.2 1)) _
    rw [M3_p _ hp1, a2]
    exact b2.agr h8 b4
  · rw [M3_8, a3]
  · intro hz
    rw [M3_8]
    exact a4 hz

set_option maxHeartbeats 4000000 in
set_option maxRecDepth 100000 in
theorem c_X3_fault {u : Vec} {h : Nat} {hs : Nat → Vec} {t : Nat} {tx : Vec} (c : CA M u h hs t tx) {N : Nat} (huN : u 0 = nI N) (h8 : N ≤ 8) {w : Int32} : C_X3_fault cA ad D [.ref (ad 0), .int w] M (QR (fltS (chr tx t) t N u w) (TypQ M u h hs t tx)) := by
  refine PM_of (lv := [some (.ref (ad 0)), some (.int w)]) (by decide +kernel) rfl (Nat.le_of_ble_eq_true rfl) rfl ?_
  refine r_il1 (n := 1) dX3_fault_0 rfl ?_
  refine r_if_lt (tgt := 9) (n := 4) dX3_fault_1 (by decide) rfl (fun c_1 => ?_) (fun c_1 => ?_)
  · refine r_ldc (n := 11) dX3_fault_9 k_X3_fault_65 rfl ?_
    exact e_q dX3_fault_11 rfl (by simp only [fltS, *, if_true, if_false]) ⟨FC.rf _, c⟩
  · refine r_il1 (n := 5) dX3_fault_4 rfl ?_
    refine r_iconst (v := 2) (n := 6) dX3_fault_5 (by decide) rfl ?_
    refine r_icmp_le (tgt := 12) (n := 9) dX3_fault_6 (by decide) rfl (fun c_6 => ?_) (fun c_6 => ?_)
    · refine r_al0 (n := 13) dX3_fault_12 rfl ?_
      refine cV_q (n := 16) (np := 0) (c_X3_tryOrders c huN h8) gX3_fault_X3_tryOrders rfl (by decide +kernel) rfl (by decide) (by decide) (by omega) rfl rfl dX3_fault_13 rfl rfl (Nat.le_of_ble_eq_true rfl) (fun M1 hM1 => ?_)
      refine r_if_eq (tgt := 22) (n := 19) dX3_fault_16 (by decide) rfl (fun c_16 => ?_) (fun c_16 => ?_)
      · have h4 := hM1.2.2.2.2 c_16
        refine r_il1 (n := 23) dX3_fault_22 rfl ?_
        by_cases h_0 : w = 0
        · subst h_0
          refine r_lookup (off := 25) (tgt := 48) dX3_fault_23 (by decide) (by decide) (by decide) ?_
          refine r_al0 (n := 49) dX3_fault_48 rfl ?_
          refine g_br_faultPosition (n := 52)  in_X3_fault_wsX30 k_X3_fault_203 dX3_fault_49 rfl ?_
          exact e_q dX3_fault_52 rfl (by rw [h4.1]; simp [fltS, c_16]) ⟨hM1.1, hM1.2.1⟩
        by_cases h_1 : w = 1
        · subst h_1
          refine r_lookup (off := 30) (tgt := 53) dX3_fault_23 (by decide) (by decide) (by decide) ?_
          refine r_al0 (n := 54) dX3_fault_53 rfl ?_
          refine g_br_faultReason (n := 57)  in_X3_fault_wsX30 k_X3_fault_206 dX3_fault_54 rfl ?_
          exact e_q dX3_fault_57 rfl (by rw [h4.2.1]; simp [fltS, c_16]) ⟨hM1.1, hM1.2.1⟩
        have e0 : ¬ (0 : Int) = w.toInt := fun q => h_0 (toInt_of_lit w 0 (by decide) q.symm)
        have e1 : ¬ (1 : Int) = w.toInt := fun q => h_1 (toInt_of_lit w 1 (by decide) q.symm)
        refine r_lookup (off := 35) (tgt := 58) dX3_fault_23 (by decide) (by show lookupswitch.offset [(0, 25), (1, 30)] 35 w.toInt = 35; simp only [lookupswitch.offset]; rw [if_neg e0, if_neg e1]) (by decide) ?_
        refine r_al0 (n := 59) dX3_fault_58 rfl ?_
        refine g_br_faultCause (n := 62)  in_X3_fault_wsX30 k_X3_fault_209 dX3_fault_59 rfl ?_
        exact e_q dX3_fault_62 rfl (by rw [h4.2.2]; simp only [fltS, c_16, h_0, h_1, c_1, c_6, if_true, if_false]) ⟨hM1.1, hM1.2.1⟩
      · refine r_ldc (n := 21) dX3_fault_19 k_X3_fault_128 rfl ?_
        exact e_q dX3_fault_21 rfl (by simp only [fltS, c_16, c_1, c_6, if_true, if_false]) ⟨hM1.1, hM1.2.1⟩
    · refine r_ldc (n := 11) dX3_fault_9 k_X3_fault_65 rfl ?_
      exact e_q dX3_fault_11 rfl (by simp only [fltS, *, if_true, if_false]) ⟨FC.rf _, c⟩

set_option maxHeartbeats 4000000 in
set_option maxRecDepth 100000 in
theorem c_X3_play {u : Vec} {h : Nat} {hs : Nat → Vec} {t : Nat} {tx : Vec} (c : CA M u h hs t tx) {N : Nat} (huN : u 0 = nI N) (h8 : N ≤ 8) : C_X3_play cA ad D [.ref (ad 0)] M (QR (playS (chr tx t) t N u).1 (OpQ M u h hs t tx (playS (chr tx t) t N u))) := by
  refine PM_of (lv := [some (.ref (ad 0))]) (by decide +kernel) rfl (Nat.le_of_ble_eq_true rfl) rfl ?_
  refine r_al0 (n := 1) dX3_play_0 rfl ?_
  refine cV_q (n := 4) (np := 0) (c_X3_tryOrders c huN h8) gX3_play_X3_tryOrders rfl (by decide +kernel) rfl (by decide) (by decide) (by omega) rfl rfl dX3_play_1 rfl rfl (Nat.le_of_ble_eq_true rfl) (fun M1 hM1 => ?_)
  refine r_if_ne (tgt := 10) (n := 7) dX3_play_4 (by decide) rfl (fun c_4 => ?_) (fun c_4 => ?_)
  · refine r_al0 (n := 11) dX3_play_10 rfl ?_
    refine r_al0 (n := 12) dX3_play_11 rfl ?_
    refine g_br_ordersTried (n := 15)  in_X3_play_wsX30 k_X3_play_212 dX3_play_12 rfl ?_
    rw [hM1.2.2.2.1]
    refine cV_q (n := 18) (np := 1) (commit_rel (u' := (runA (chr tx t) t N 60 0 u 0).2.1) hM1.2.1 hM1.2.2.1) gX3_play_X3_commit rfl (by decide +kernel) rfl (by decide) (by decide) (by omega) rfl rfl dX3_play_15 rfl rfl (Nat.le_of_ble_eq_true rfl) (fun M' hM' => ?_)
    have eP : playS (chr tx t) t N u = ((runA (chr tx t) t N 60 0 u 0).2.2.1, (runA (chr tx t) t N 60 0 u 0).2.1) := by rw [playS, if_neg c_4]
    exact e_q dX3_play_18 rfl (by rw [eP]) (by rw [eP]; exact ⟨hM1.1.tr hM'.1, hM'.2⟩)
  · refine r_ldc (n := 9) dX3_play_7 k_X3_play_194 rfl ?_
    exact e_q dX3_play_9 rfl (by rw [playS, if_pos c_4]) ⟨hM1.1, by rw [playS, if_pos c_4, if_pos (show (NP : Int32) < 0 by decide)]; exact hM1.2.1⟩

end BR4
