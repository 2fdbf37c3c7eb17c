/-! ===== the object's questions against the abstract state ===== -/
section CREL
variable {cA : Nat → ClassId} {ad : Nat → Nat} {D : va_G} {M : Mem} {u : Vec} {h : Nat} {hs : Nat → Vec} {t : Nat} {tx : Vec}
def SmC (M : Mem) (u : Vec) (h : Nat) (hs : Nat → Vec) (t : Nat) (tx : Vec) : Mem → Prop := fun M' => FC M M' ∧ CA M' u h hs t tx
theorem c_same {y : MethodName} {ws : List Cond} {d : Nat} {av : List Value} {x x' : Int32} (c : CA M u h hs t tx) (e : x = x') (k : PM cA ad D y ws d av M (Ri x M)) : PM cA ad D y ws d av M (QR x' (SmC M u h hs t tx)) := by
  subst e
  exact PM_weaken k (Ri_QR ⟨FC.rf M, c⟩)
theorem CA.an (c : CA M u h hs t tx) {N : Nat} (hv : VOK N u) : AN N (M.1 (M.2 0)) u ∧ M.1 (M.2 0) 0 = nI N := by
  obtain ⟨N', h8', hu', hv', hk'⟩ := c.agr.n
  have e : N = N' := nI_un hv.1 h8' (hv.2.1.symm.trans hu')
  subst e
  exact ⟨hk', hv'⟩
theorem isSm_v (c : CA M u h hs t tx) {N : Nat} (hv : VOK N u) {j : Int32} : isSm (M.1 (M.2 0)) j ↔ isSm u j := by
  unfold isSm
  rw [(c.an hv).2, hv.2.1]
theorem c_X3_smithyOf (c : CA M u h hs t tx) {N : Nat} (hv : VOK N u) {j w : Int32} : C_X3_smithyOf cA ad D [.ref (ad 0), .int j, .int w] M (QR (jS u j (fun k => smoS u k w)) (SmC M u h hs t tx)) := by
  obtain ⟨ha, hN⟩ := c.an hv
  by_cases hj : isSm u j
  · obtain ⟨k, hk, e1, e2⟩ := isSm_k hv.2.1 hv.1 hj
    rw [jS, if_pos (show ¬ j < 0 ∧ j < u 0 from hj), e2, e1]
    exact c_same c (smoS_c ha hk w) (m_X3_smithyOf_s c.1.1 hN hv.1 hk)
  · rw [jS, if_neg (show ¬ (¬ j < 0 ∧ j < u 0) from hj)]
    exact c_same c rfl (m_X3_smithyOf_n c.1.1 (fun q => hj ((isSm_v c hv).mp q)))
theorem c_X3_why (c : CA M u h hs t tx) {N : Nat} (hv : VOK N u) {j w : Int32} : C_X3_why cA ad D [.ref (ad 0), .int j, .int w] M (QR (jS u j (fun k => whyS u k w)) (SmC M u h hs t tx)) := by
  obtain ⟨ha, hN⟩ := c.an hv
  by_cases hj : isSm u j
  · obtain ⟨k, hk, e1, e2⟩ := isSm_k hv.2.1 hv.1 hj
    rw [jS, if_pos (show ¬ j < 0 ∧ j < u 0 from hj), e2, e1]
    exact c_same c (whyS_c ha hk w) (m_X3_why_s c.1.1 hN hv.1 hk)
  · rw [jS, if_neg (show ¬ (¬ j < 0 ∧ j < u 0) from hj)]
    exact c_same c rfl (m_X3_why_n c.1.1 (fun q => hj ((isSm_v c hv).mp q)))
theorem c_X3_mend (c : CA M u h hs t tx) {N : Nat} (hv : VOK N u) {j w x : Int32} : C_X3_mend cA ad D [.ref (ad 0), .int j, .int w, .int x] M (QR (jS u j (fun k => mndS u k w x)) (SmC M u h hs t tx)) := by
  obtain ⟨ha, hN⟩ := c.an hv
  by_cases hj : isSm u j
  · obtain ⟨k, hk, e1, e2⟩ := isSm_k hv.2.1 hv.1 hj
    rw [jS, if_pos (show ¬ j < 0 ∧ j < u 0 from hj), e2, e1]
    exact c_same c (mndS_c ha hk w x) (m_X3_mend_s c.1.1 hN hv.1 hk)
  · rw [jS, if_neg (show ¬ (¬ j < 0 ∧ j < u 0) from hj)]
    exact c_same c rfl (m_X3_mend_n c.1.1 (fun q => hj ((isSm_v c hv).mp q)))
theorem c_X3_count (c : CA M u h hs t tx) {N : Nat} (hv : VOK N u) {w : Int32} : C_X3_count cA ad D [.ref (ad 0), .int w] M (QR (cntS u N (nI h) (nI t) w) (SmC M u h hs t tx)) := by
  obtain ⟨ha, hN⟩ := c.an hv
  have k := m_X3_count (cA := cA) (ad := ad) (D := D) c.1.1 hN hv.1 (w := w)
  rw [c.2.1, c.2.2.2.2.2.1] at k
  exact c_same c (cntS_c ha _ _ w) k
end CREL
/-! ===== the bounds stay: all changes ===== -/
theorem VOK_set {N : Nat} {u : Vec} (h : VOK N u) (w v : Int32) : VOK N (setS u w v).2 := by
  unfold setS
  by_cases q : inRng w v = true
  · rw [if_pos q]
    unfold inRng at q
    have S : ∀ j, j = 10 ∨ j = 11 ∨ j = 12 ∨ j = 13 → ∀ k, k < N → SOK (upd u j v) k := fun j hj k hk => SOK_k (h.2.2.2.2.2.2.2.2 k hk) (fun i hi => upd_ne _ _ (by omega))
    by_cases h0 : w = 0
    · rw [if_pos h0] at q
      rw [if_pos h0]
      have r := rng_bd q
      rw [show (1 : Int32).toInt = 1 from rfl, show (99 : Int32).toInt = 99 from rfl] at r
      refine h.of ?_ ?_ ?_ ?_ ?_ ?_ ?_ (S 10 (by omega)) <;> simp (disch := omega) only [upd_ne, upd_at]
      · exact h.2.2.1
      · exact h.2.2.2.1
      · exact ⟨by omega, r.2⟩
      · exact h.2.2.2.2.2.1
      · exact h.2.2.2.2.2.2.1
      · exact h.2.2.2.2.2.2.2.1
    · rw [if_neg h0] at q
      rw [if_neg h0]
      by_cases h1 : w = 1
      · rw [if_pos h1] at q
        rw [if_pos h1]
        have r := rng_bd q
        rw [show (1 : Int32).toInt = 1 from rfl, show (24 : Int32).toInt = 24 from rfl] at r
        refine h.of ?_ ?_ ?_ ?_ ?_ ?_ ?_ (S 11 (by omega)) <;> simp (disch := omega) only [upd_ne, upd_at]
        · exact h.2.2.1
        · exact h.2.2.2.1
        · exact h.2.2.2.2.1
        · exact ⟨by omega, r.2⟩
        · exact h.2.2.2.2.2.2.1
        · exact h.2.2.2.2.2.2.2.1
      · rw [if_neg h1] at q
        rw [if_neg h1]
        by_cases h2 : w = 2
        · rw [if_pos h2] at q
          rw [if_pos h2]
          have r := rng_bd q
          rw [show (0 : Int32).toInt = 0 from rfl, show (20 : Int32).toInt = 20 from rfl] at r
          refine h.of ?_ ?_ ?_ ?_ ?_ ?_ ?_ (S 12 (by omega)) <;> simp (disch := omega) only [upd_ne, upd_at]
          · exact h.2.2.1
          · exact h.2.2.2.1
          · exact h.2.2.2.2.1
          · exact h.2.2.2.2.2.1
          · exact r
          · exact h.2.2.2.2.2.2.2.1
        · rw [if_neg h2] at q
          rw [if_neg h2]
          by_cases h3 : w = 3
          · rw [if_pos h3] at q
            have r := rng_bd q
            rw [show (0 : Int32).toInt = 0 from rfl, show (500 : Int32).toInt = 500 from rfl] at r
            refine h.of ?_ ?_ ?_ ?_ ?_ ?_ ?_ (S 13 (by omega)) <;> simp (disch := omega) only [upd_ne, upd_at]
            · exact h.2.2.1
            · exact h.2.2.2.1
            · exact h.2.2.2.2.1
            · exact h.2.2.2.2.2.1
            · exact h.2.2.2.2.2.2.1
            · exact r
          · rw [if_neg h3] at q
            cases q
  · rw [if_neg q]; exact h
theorem VOK_add {N : Nat} {u : Vec} (h : VOK N u) (x y : Int32) : ∃ N', VOK N' (addS u N x y).2 := by
  unfold addS
  split
  · exact ⟨N, h⟩
  · next h1 =>
    split
    · exact ⟨N, h⟩
    · next h2 =>
      split
      · exact ⟨N, h⟩
      · next h3 =>
        split
        · next h4 =>
          split
          · next h5 =>
            have hN : N < 8 := by
              rw [h.2.1, i_lt, nI_i (Nat.lt_of_le_of_lt h.1 (by decide)), show (8 : Int32).toInt = 8 from rfl] at h5
              omega
            refine ⟨N + 1, by omega, ?_, ?_, ?_, ?_, ?_, ?_, ?_, fun k hk => ?_⟩
            · unfold addU; simp (disch := omega) only [upd_ne, upd_at]; rw [h.2.1, nI_1]
            · unfold addU; simp (disch := omega) only [upd_ne]; exact h.2.2.1
            · unfold addU; simp (disch := omega) only [upd_ne]; exact h.2.2.2.1
            · unfold addU; simp (disch := omega) only [upd_ne]; exact h.2.2.2.2.1
            · unfold addU; simp (disch := omega) only [upd_ne]; exact h.2.2.2.2.2.1
            · unfold addU; simp (disch := omega) only [upd_ne]; exact h.2.2.2.2.2.2.1
            · unfold addU; simp (disch := omega) only [upd_ne]; exact h.2.2.2.2.2.2.2.1
            · by_cases e : k = N
              · subst e
                unfold SOK addU
                simp (disch := omega) only [upd_ne, upd_at]
                rw [i_lt, z_i] at h1
                rw [i_lt, show (99 : Int32).toInt = 99 from rfl] at h2
                rw [i_lt, show (1 : Int32).toInt = 1 from rfl] at h3
                rw [i_le, show (9 : Int32).toInt = 9 from rfl] at h4
                exact ⟨⟨by omega, by omega⟩, ⟨by omega, h4⟩, bd_mono bd_0 (by decide), ⟨by decide, by decide⟩, bd_mono bd_0 (by decide)⟩
              · refine SOK_k (h.2.2.2.2.2.2.2.2 k (by omega)) (fun j hj => ?_)
                unfold addU
                simp (disch := omega) only [upd_ne]
          · exact ⟨N, h⟩
        · exact ⟨N, h⟩
