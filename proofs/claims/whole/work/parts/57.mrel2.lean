/-! ===== the reference against the abstract state: texts, orders, questions ===== -/
theorem plF_b (tx : Vec) (t n : Nat) {k : Nat} (hk : k < 3) : ∀ (m s : Nat) (w b : Vec), (plF tx t n m s w b).2.2 k = b k
  | 0, s, w, b => rfl
  | m + 1, s, w, b => by
    rw [plF]
    split
    · split
      · split
        · simp (disch := omega) only [upd_ne, rdV_k]
        · rw [plF_b tx t n hk m]
          simp (disch := omega) only [upd_ne, rdV_k]
      · simp (disch := omega) only [upd_ne, rdV_k]
    · rfl
section MREL2
variable {cA : Nat → ClassId} {ad : Nat → Nat} {D : va_G} {M : Mem} {u : Vec} {h : Nat} {hs : Nat → Vec} {t : Nat} {tx : Vec}
def SmM (M : Mem) (u : Vec) (h : Nat) (hs : Nat → Vec) (t : Nat) (tx : Vec) : Mem → Prop := fun M' => FM M M' ∧ MA M' u h hs t tx
theorem q_X4_undo (c : MA M u h hs t tx) : C_X4_undo cA ad D [.ref (ad 4)] M (QR (if h = 0 then NP else nI (h - 1)) (fun M' => FM M M' ∧ if h = 0 then MA M' u h hs t tx else MA M' (hs (h - 1)) (h - 1) hs t tx)) := by
  obtain ⟨c1, c2, c3, c4, c5, c6, c7, c8, c9⟩ := c
  cases h with
  | zero => exact PM_weaken (m_X4_undo_0 c2) (Ri_QR ⟨FM.rf M, by rw [if_pos rfl]; exact ⟨c1, c2, c3, c4, c5, c6, c7, c8, c9⟩⟩)
  | succ h =>
    have h9 := c9 h (by omega)
    refine PM_weaken (m_X4_undo_s c2 (by omega)) ?_
    rw [if_neg (by omega), show h + 1 - 1 = h from rfl]
    refine Ri_QR ⟨(FM.set (by decide) _).tr (FM.set (by decide) _), ?_⟩
    rw [if_neg (by omega)]
    have e : unN (M.1 10) (M.1 11) (78 * h) 78 = hs h := by
      funext k
      unfold unN
      by_cases hk : k < 78
      · rw [if_pos hk]; exact h9.2 k hk
      · rw [if_neg hk, c1, c8 k (by omega), h9.1 k (by omega)]
    rw [e]
    unfold MA
    simp (disch := omega) only [mput_s, setp_ne, setp_at, upd_ne, upd_at]
    exact ⟨trivial, trivial, by omega, c4, c5, c6, c7, h9.1, fun i hi => c9 i (by omega)⟩
theorem q_X4_type (c : MA M u h hs t tx) {v : Int32} : C_X4_type cA ad D [.ref (ad 4), .int v] M (QR (typS t tx v).1 (fun M' => FM M M' ∧ MA M' u h hs (typS t tx v).2.1 (typS t tx v).2.2)) := by
  unfold typS
  by_cases h1 : v < 32
  · rw [if_pos h1]
    exact PM_weaken (m_X4_type_r (rng_lo h1)) (Ri_QR ⟨FM.rf M, c⟩)
  · rw [if_neg h1]
    by_cases h2 : v ≤ 126
    · rw [if_pos h2]
      by_cases h3 : t = 60
      · rw [if_pos h3]
        exact PM_weaken (m_X4_type_f (by rw [c.2.2.2.2.1, h3]) (rng_t h1 h2)) (Ri_QR ⟨FM.rf M, c⟩)
      · rw [if_neg h3]
        obtain ⟨c1, c2, c3, c4, c5, c6, c7, c8, c9⟩ := c
        refine PM_weaken (m_X4_type_s c5 (by omega) (rng_t h1 h2)) (Ri_QR ⟨(FM.set (by decide) _).tr (FM.set (by decide) _), ?_⟩)
        unfold MA
        simp (disch := omega) only [mput_s, setp_ne, setp_at, upd_ne, upd_at]
        refine ⟨c1, c2, c3, c4, trivial, by omega, fun i hi => ?_, c8, c9⟩
        by_cases e : i = t
        · subst e; rw [upd_at, upd_at]
        · rw [upd_ne _ _ e, upd_ne _ _ e]; exact c7 i (by omega)
    · rw [if_neg h2]
      exact PM_weaken (m_X4_type_r (rng_hi h2)) (Ri_QR ⟨FM.rf M, c⟩)
theorem q_X4_clearText (c : MA M u h hs t tx) : C_X4_clearText cA ad D [.ref (ad 4)] M (QR (nI t) (fun M' => FM M M' ∧ MA M' u h hs 0 tx)) := by
  obtain ⟨c1, c2, c3, c4, c5, c6, c7, c8, c9⟩ := c
  have k := m_X4_clearText (cA := cA) (ad := ad) (D := D) (M := M)
  rw [c5] at k
  refine PM_weaken k (Ri_QR ⟨FM.set (by decide) _, ?_⟩)
  unfold MA
  simp (disch := omega) only [mput_s, setp_ne, setp_at, upd_ne, upd_at]
  exact ⟨c1, c2, c3, c4, rfl, by omega, fun i hi => by omega, c8, c9⟩
theorem pl_run (c : MA M u h hs t tx) {N : Nat} (hv : VOK N u) :
    (plP M t N).1 = (runA (chr tx t) t N 60 0 u 0).1 ∧
    (¬ (runA (chr tx t) t N 60 0 u 0).1 = 0 → (plP M t N).2.1 = (runA (chr tx t) t N 60 0 u 0).2.1 ∧ (plP M t N).2.2 7 = (runA (chr tx t) t N 60 0 u 0).2.2.1 ∧ VOK N (runA (chr tx t) t N 60 0 u 0).2.1) ∧
    ((runA (chr tx t) t N 60 0 u 0).1 = 0 → (plP M t N).2.2 4 = (runA (chr tx t) t N 60 0 u 0).2.2.2.1 ∧ (plP M t N).2.2 5 = (runA (chr tx t) t N 60 0 u 0).2.2.2.2.1 ∧ (plP M t N).2.2 6 = (runA (chr tx t) t N 60 0 u 0).2.2.2.2.2) := by
  obtain ⟨c1, c2, c3, c4, c5, c6, c7, c8, c9⟩ := c
  have e : chr (M.1 14) t = chr tx t := chr_eq c7
  have k := plF_run (M.1 14) t (N := N) 60 0 u (pl0 (M.1 9)) 0 hv (by simp (disch := omega) only [pl0, upd_ne, upd_at]; rfl) (by simp (disch := omega) only [pl0, upd_at])
  rw [e] at k
  unfold plP
  rw [c1]
  exact k
theorem pl_b (M : Mem) (t n : Nat) {k : Nat} (hk : k < 3) (h1 : k ≠ 1) : (plP M t n).2.2 k = M.1 9 k := by
  unfold plP
  rw [plF_b _ _ _ hk]
  simp (disch := omega) only [pl0, upd_ne]
theorem pl_z (c : MA M u h hs t tx) {N : Nat} (hv : VOK N u) : Z78 (plP M t N).2.1 := fun j hj => by
  unfold plP
  rw [plF_78 _ _ hv.1 hj _ _ _ _ (by rw [c.1]; exact hv.2.1), c.1]
  exact c.2.2.2.2.2.2.2.1 j hj
theorem pl_back (c : MA M u h hs t tx) (N : Nat) : MA (M9 (setp M 12 (cpN (M.1 12) (M.1 10) 78)) (M.1 10) (upd (plP M t N).2.2 1 0)) u h hs t tx := by
  have c2 := c.row (p := 12) (Or.inl rfl) (cpN (M.1 12) (M.1 10) 78)
  have c3 := c2.row9 (b := upd (plP M t N).2.2 1 0) (by rw [upd_ne _ _ (by decide), pl_b _ _ _ (by decide) (by decide), setp_ne _ _ (by decide)]) (upd_at _ _ _) (by rw [upd_ne _ _ (by decide), pl_b _ _ _ (by decide) (by decide), setp_ne _ _ (by decide)])
  have e : M9 (setp M 12 (cpN (M.1 12) (M.1 10) 78)) (M.1 10) (upd (plP M t N).2.2 1 0) = setp (setp M 12 (cpN (M.1 12) (M.1 10) 78)) 9 (upd (plP M t N).2.2 1 0) := by
    rw [M9_of, setp_ne _ _ (by decide)]
  rw [e]
  exact c3
theorem pl_fm (M : Mem) (w w2 b : Vec) : FM M (M9 (setp M 12 w) w2 b) := ((FM.set (by decide) _).tr (FM.set (by decide) _)).tr (FM.set (by decide) _)
theorem q_X4_fault (c : MA M u h hs t tx) {N : Nat} (hv : VOK N u) {w : Int32} : C_X4_fault cA ad D [.ref (ad 4), .int w] M (QR (fltS (chr tx t) t N u w) (SmM M u h hs t tx)) := by
  have e10 : M.1 10 = u := c.1
  have k := m_X4_fault (cA := cA) (ad := ad) (D := D) (M := M) (N := N) (by rw [e10]; exact hv.2.1) hv.1 (csN_on8 hv.1) c.2.2.2.2.1 c.2.2.2.2.2.1 (w := w)
  obtain ⟨r1, r2, r3⟩ := pl_run c hv
  have ea : (if rng w 0 2 = true then fltM (plP M t N) w else IA) = fltS (chr tx t) t N u w := by
    unfold fltS
    by_cases h1 : w < 0
    · rw [rng_lo h1, if_neg (by decide), if_pos h1]
    · rw [if_neg h1]
      by_cases h2 : w ≤ 2
      · rw [rng_t h1 h2, if_pos rfl, if_pos h2, fltM, r1]
        by_cases q : (runA (chr tx t) t N 60 0 u 0).1 = 0
        · obtain ⟨a1, a2, a3⟩ := r3 q
          rw [if_pos q, if_pos q, a1, a2, a3]
        · rw [if_neg q, if_neg q]
      · rw [rng_hi h2, if_neg (by decide), if_neg h2]
  rw [ea] at k
  refine PM_weaken k (Ri_QR ?_)
  split
  · exact ⟨pl_fm _ _ _ _, pl_back c N⟩
  · exact ⟨FM.rf M, c⟩
theorem q_X4_play (c : MA M u h hs t tx) {N : Nat} (hv : VOK N u) : C_X4_play cA ad D [.ref (ad 4)] M (QR (playS (chr tx t) t N u).1 (OpM M u h hs t tx (playS (chr tx t) t N u))) := by
  have e10 : M.1 10 = u := c.1
  obtain ⟨M3, k1, k2, k3, k4, k5, k6⟩ := ch_ok (cA := cA) (ad := ad) (D := D) (pl_back c N)
  have f10 : M3.1 10 = M.1 10 := by rw [k2, M9_10]
  have f14 : M3.1 14 = M.1 14 := by rw [k3, M9_q _ _ _ (by decide) (by decide), setp_ne _ _ (by decide)]
  have f92 : M3.1 9 2 = M.1 9 2 := by rw [k4, M9_9, upd_ne _ _ (by decide), pl_b _ _ _ (by decide) (by decide)]
  have k := m_X4_play (cA := cA) (ad := ad) (D := D) (M := M) (N := N) (by rw [e10]; exact hv.2.1) hv.1 (csN_on8 hv.1) c.2.2.2.2.1 c.2.2.2.2.2.1 k1 f10 f14 f92
  obtain ⟨r1, r2, r3⟩ := pl_run c hv
  obtain ⟨s1, s2, s3⟩ := pl_run k6 hv
  have hz3 := pl_z k6 hv
  by_cases q : (runA (chr tx t) t N 60 0 u 0).1 = 0
  · have q1 : (plP M t N).1 = 0 := by rw [r1]; exact q
    rw [if_pos q1, if_pos q1] at k
    have eP : playS (chr tx t) t N u = (NP, u) := by rw [playS, if_pos q]
    rw [eP]
    exact PM_weaken k (Ri_QR ⟨pl_fm _ _ _ _, by rw [if_pos (show (NP : Int32) < 0 by decide)]; exact pl_back c N⟩)
  · have q1 : ¬ (plP M t N).1 = 0 := by rw [r1]; exact q
    have q3 : ¬ (plP M3 t N).1 = 0 := by rw [s1]; exact q
    rw [if_neg q1, if_neg q1, if_neg q3] at k
    obtain ⟨a1, a2, a3⟩ := s2 q
    have eP : playS (chr tx t) t N u = ((runA (chr tx t) t N 60 0 u 0).2.2.1, (runA (chr tx t) t N 60 0 u 0).2.1) := by rw [playS, if_neg q]
    rw [eP]
    rw [a2] at k
    obtain ⟨j, hj, ej⟩ := runA_n (chr tx t) t N 60 0 u 0
    have ej' : (runA (chr tx t) t N 60 0 u 0).2.2.1 = nI j := ej
    have hn : ¬ (runA (chr tx t) t N 60 0 u 0).2.2.1 < 0 := by
      rw [ej', i_lt, z_i, nI_i (by omega)]; omega
    refine PM_weaken k (Ri_QR ⟨((pl_fm M _ _ _).tr k5).tr ((FM.set (by decide) _).tr (FM.set (by decide) _)), ?_⟩)
    rw [if_neg hn, ← a1]
    have m1 := k6.row10 hz3
    have m2 := m1.row9 (b := upd (plP M3 t N).2.2 1 0) (by rw [upd_ne _ _ (by decide), pl_b _ _ _ (by decide) (by decide), setp_ne _ _ (by decide)]) (upd_at _ _ _) (by rw [upd_ne _ _ (by decide), pl_b _ _ _ (by decide) (by decide), setp_ne _ _ (by decide)])
    exact m2
theorem q_X4_next (c : MA M u h hs t tx) {N : Nat} (hv : VOK N u) : C_X4_next cA ad D [.ref (ad 4)] M (QR (nxI (nxo u N)) (SmM M u h hs t tx)) := by
  have e10 : M.1 10 = u := c.1
  have k := m_X4_next (cA := cA) (ad := ad) (D := D) (M := M) (N := N) (by rw [e10]; exact hv.2.1) hv.1
  rw [e10, (nx_eq hv N (Nat.le_refl N)).1] at k
  refine PM_weaken k (fun r M' q => ⟨q.1, ?_⟩)
  obtain ⟨T', rfl⟩ := q.2
  exact ⟨FM.set (by decide) _, c.row (Or.inr rfl) T'⟩
theorem q_same {y : MethodName} {ws : List Cond} {d : Nat} {av : List Value} {x x' : Int32} (c : MA M u h hs t tx) (e : x = x') (k : PM cA ad D y ws d av M (Ri x M)) : PM cA ad D y ws d av M (QR x' (SmM M u h hs t tx)) := by
  subst e
  exact PM_weaken k (Ri_QR ⟨FM.rf M, c⟩)
/-- a question about a smithy -/
def jS (u : Vec) (j : Int32) (F : Nat → Int32) : Int32 := if ¬ j < 0 ∧ j < u 0 then F j.toNatClampNeg else IA
theorem q_X4_coldIn (c : MA M u h hs t tx) {N : Nat} (hv : VOK N u) {j : Int32} : C_X4_coldIn cA ad D [.ref (ad 4), .int j] M (QR (jS u j (fun k => cdiS u k)) (SmM M u h hs t tx)) := by
  have e10 : M.1 10 = u := c.1
  by_cases hj : isSm u j
  · obtain ⟨k, hk, e1, e2⟩ := isSm_k hv.2.1 hv.1 hj
    rw [jS, if_pos (show ¬ j < 0 ∧ j < u 0 from hj), e2, e1]
    have k2 := m_X4_coldIn_s (cA := cA) (ad := ad) (D := D) (M := M) (N := N) (by rw [e10]; exact hv.2.1) hv.1 hk
    rw [e10, cdi_eq (hv.2.2.2.2.2.2.2.2 k hk)] at k2
    exact PM_weaken k2 (Ri_QR ⟨FM.set (by decide) _, c.row (Or.inr rfl) _⟩)
  · rw [jS, if_neg (show ¬ (¬ j < 0 ∧ j < u 0) from hj)]
    exact q_same c rfl (m_X4_coldIn_n (by rw [e10]; exact hj))
theorem q_X4_smithyOf (c : MA M u h hs t tx) {N : Nat} (hv : VOK N u) {j w : Int32} : C_X4_smithyOf cA ad D [.ref (ad 4), .int j, .int w] M (QR (jS u j (fun k => smoS u k w)) (SmM M u h hs t tx)) := by
  have e10 : M.1 10 = u := c.1
  by_cases hj : isSm u j
  · obtain ⟨k, hk, e1, e2⟩ := isSm_k hv.2.1 hv.1 hj
    rw [jS, if_pos (show ¬ j < 0 ∧ j < u 0 from hj), e2, e1]
    by_cases hb : rng w 0 10 = true
    · have k2 := m_X4_smithyOf_y (cA := cA) (ad := ad) (D := D) (M := M) (N := N) (by rw [e10]; exact hv.2.1) hv.1 hk hb
      rw [e10] at k2
      exact q_same c rfl k2
    · have hb2 : rng w 0 10 = false := by simpa using hb
      exact q_same c (smo_r hb2).symm (m_X4_smithyOf_r (N := N) (by rw [e10]; exact hv.2.1) hv.1 hk hb2)
  · rw [jS, if_neg (show ¬ (¬ j < 0 ∧ j < u 0) from hj)]
    exact q_same c rfl (m_X4_smithyOf_n (by rw [e10]; exact hj))
theorem q_X4_why (c : MA M u h hs t tx) {N : Nat} (hv : VOK N u) {j w : Int32} : C_X4_why cA ad D [.ref (ad 4), .int j, .int w] M (QR (jS u j (fun k => whyS u k w)) (SmM M u h hs t tx)) := by
  have e10 : M.1 10 = u := c.1
  by_cases hj : isSm u j
  · obtain ⟨k, hk, e1, e2⟩ := isSm_k hv.2.1 hv.1 hj
    rw [jS, if_pos (show ¬ j < 0 ∧ j < u 0 from hj), e2, e1]
    have k2 := m_X4_why_s (cA := cA) (ad := ad) (D := D) (M := M) (N := N) (by rw [e10]; exact hv.2.1) hv.1 hk (w := w)
    rw [e10] at k2
    exact q_same c rfl k2
  · rw [jS, if_neg (show ¬ (¬ j < 0 ∧ j < u 0) from hj)]
    exact q_same c rfl (m_X4_why_n (by rw [e10]; exact hj))
theorem q_X4_mend (c : MA M u h hs t tx) {N : Nat} (hv : VOK N u) {j w x : Int32} : C_X4_mend cA ad D [.ref (ad 4), .int j, .int w, .int x] M (QR (jS u j (fun k => mndS u k w x)) (SmM M u h hs t tx)) := by
  have e10 : M.1 10 = u := c.1
  by_cases hj : isSm u j
  · obtain ⟨k, hk, e1, e2⟩ := isSm_k hv.2.1 hv.1 hj
    rw [jS, if_pos (show ¬ j < 0 ∧ j < u 0 from hj), e2, e1]
    have k2 := m_X4_mend_s (cA := cA) (ad := ad) (D := D) (M := M) (N := N) (by rw [e10]; exact hv.2.1) hv.1 hk (w := w) (x := x)
    rw [e10] at k2
    exact q_same c (mnd_eq u k w x) k2
  · rw [jS, if_neg (show ¬ (¬ j < 0 ∧ j < u 0) from hj)]
    exact q_same c rfl (m_X4_mend_n (by rw [e10]; exact hj))
theorem q_X4_round (c : MA M u h hs t tx) {N : Nat} (hv : VOK N u) {s w : Int32} : C_X4_round cA ad D [.ref (ad 4), .int s, .int w] M (QR (rndS u N s w) (SmM M u h hs t tx)) := by
  have e10 : M.1 10 = u := c.1
  have k := m_X4_round (cA := cA) (ad := ad) (D := D) (M := M) (N := N) (s := s) (w := w) (P := setM_P N) (by rw [e10]; exact hv.2.1) hv.1 (by rw [e10]; exact GdM_ok hv) (by rw [e10]; exact rnd_P hv)
  rw [e10] at k
  exact q_same c (rnd_eq hv s w) k
theorem q_X4_mean (c : MA M u h hs t tx) {N : Nat} (hv : VOK N u) : C_X4_mean cA ad D [.ref (ad 4)] M (QR (meanS u N) (SmM M u h hs t tx)) := by
  have e10 : M.1 10 = u := c.1
  have k := m_X4_mean (cA := cA) (ad := ad) (D := D) (M := M) (N := N) (by rw [e10]; exact hv.2.1) hv.1 (by rw [e10]; exact (mean_B hv).1) (by rw [e10]; exact (mean_B hv).2)
  rw [e10] at k
  exact q_same c (mean_eq hv) k
theorem q_X4_count (c : MA M u h hs t tx) {N : Nat} (hv : VOK N u) {w : Int32} : C_X4_count cA ad D [.ref (ad 4), .int w] M (QR (cntS u N (nI h) (nI t) w) (SmM M u h hs t tx)) := by
  have e10 : M.1 10 = u := c.1
  have k := m_X4_count (cA := cA) (ad := ad) (D := D) (M := M) (N := N) (by rw [e10]; exact hv.2.1) hv.1 (w := w)
  rw [e10, c.2.1, c.2.2.2.2.1] at k
  exact q_same c (cnt_eq u N _ _ w) k
end MREL2
