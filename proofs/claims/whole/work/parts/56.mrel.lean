/-! ===== the reference against the abstract state ===== -/
def Z78 (u : Vec) : Prop := ∀ j, 78 ≤ j → u j = 0
def MA (M : Mem) (u : Vec) (h : Nat) (hs : Nat → Vec) (t : Nat) (tx : Vec) : Prop :=
  M.1 10 = u ∧ M.1 9 0 = nI h ∧ h ≤ 4 ∧ M.1 9 1 = 0 ∧ M.1 9 2 = nI t ∧ t ≤ 60 ∧ (∀ i, i < t → M.1 14 i = tx i) ∧ Z78 u ∧ ∀ i, i < h → Z78 (hs i) ∧ ∀ k, k < 78 → M.1 11 (78 * i + k) = hs i k
def FM (M M' : Mem) : Prop := M'.2 = M.2 ∧ ∀ q, q < 9 → M'.1 q = M.1 q
theorem FM.rf (M : Mem) : FM M M := ⟨rfl, fun _ _ => rfl⟩
theorem FM.tr {M M' M'' : Mem} (h : FM M M') (h' : FM M' M'') : FM M M'' := ⟨h'.1.trans h.1, fun q hq => (h'.2 q hq).trans (h.2 q hq)⟩
theorem FM.set {M : Mem} {p : Nat} (hp : 9 ≤ p) (w : Vec) : FM M (setp M p w) := ⟨rfl, fun q hq => setp_ne M w (by omega)⟩
theorem CA.fm {M M' : Mem} {u : Vec} {h : Nat} {hs : Nat → Vec} {t : Nat} {tx : Vec} (c : CA M u h hs t tx) (f : FM M M') : CA M' u h hs t tx := by
  obtain ⟨hP, hh, h4, hu, hi, ht, h60, hx⟩ := c
  refine ⟨by rw [f.1]; exact hP, by rw [f.2 8 (by decide)]; exact hh, h4, ?_, fun i q => ?_, by rw [f.2 6 (by decide)]; exact ht, h60, fun i q => by rw [f.2 7 (by decide)]; exact hx i q⟩
  · rw [f.1, f.2 _ (by have := hP.1 0 (by decide); omega)]; exact hu
  · rw [f.1, f.2 _ (by have := hP.1 (2 + i) (by omega); omega)]; exact hi i q
theorem MA.fc {M M' : Mem} {u : Vec} {h : Nat} {hs : Nat → Vec} {t : Nat} {tx : Vec} (c : MA M u h hs t tx) (f : FC M M') : MA M' u h hs t tx := by
  unfold MA
  rw [f 9 (by decide), f 10 (by decide), f 11 (by decide), f 14 (by decide)]
  exact c
/-- rows that no answer looks at -/
theorem MA.row {M : Mem} {u : Vec} {h : Nat} {hs : Nat → Vec} {t : Nat} {tx : Vec} (c : MA M u h hs t tx) {p : Nat} (hp : p = 12 ∨ p = 13) (w : Vec) : MA (setp M p w) u h hs t tx := by
  unfold MA
  rw [setp_ne _ _ (by omega), setp_ne _ _ (by omega), setp_ne _ _ (by omega), setp_ne _ _ (by omega)]
  exact c
theorem MA.row9 {M : Mem} {u : Vec} {h : Nat} {hs : Nat → Vec} {t : Nat} {tx : Vec} (c : MA M u h hs t tx) {b : Vec} (h0 : b 0 = M.1 9 0) (h1 : b 1 = 0) (h2 : b 2 = M.1 9 2) : MA (setp M 9 b) u h hs t tx := by
  obtain ⟨c1, c2, c3, c4, c5, c6⟩ := c
  unfold MA
  rw [setp_ne _ _ (by decide), setp_at, setp_ne _ _ (by decide), setp_ne _ _ (by decide), h0, h2]
  exact ⟨c1, c2, c3, h1, c5, c6⟩
theorem MA.row10 {M : Mem} {u w : Vec} {h : Nat} {hs : Nat → Vec} {t : Nat} {tx : Vec} (c : MA M u h hs t tx) (hz : Z78 w) : MA (setp M 10 w) w h hs t tx := by
  obtain ⟨c1, c2, c3, c4, c5, c6, c7, c8, c9⟩ := c
  unfold MA
  rw [setp_at, setp_ne _ _ (by decide), setp_ne _ _ (by decide), setp_ne _ _ (by decide)]
  exact ⟨rfl, c2, c3, c4, c5, c6, c7, hz, c9⟩
section MREL
variable {cA : Nat → ClassId} {ad : Nat → Nat} {D : va_G} {M : Mem} {u : Vec} {h : Nat} {hs : Nat → Vec} {t : Nat} {tx : Vec}
theorem ch_ok (c : MA M u h hs t tx) : ∃ M', C_X4_changes cA ad D [.ref (ad 4)] M (Rv M') ∧ M'.1 10 = M.1 10 ∧ M'.1 14 = M.1 14 ∧ M'.1 9 2 = M.1 9 2 ∧ FM M M' ∧ MA M' u (psh h) (push h hs u) t tx := by
  obtain ⟨c1, c2, c3, c4, c5, c6, c7, c8, c9⟩ := c
  by_cases q : h = 4
  · subst q
    refine ⟨_, m_X4_changes_4 c4 c2, ?_, ?_, ?_, ?_, ?_⟩
    · simp (disch := omega) only [mput_s, setp_ne, setp_at]
    · simp (disch := omega) only [mput_s, setp_ne, setp_at]
    · simp (disch := omega) only [mput_s, setp_ne, setp_at, upd_ne]
    · exact ((((FM.set (by decide) _).tr (FM.set (by decide) _)).tr (FM.set (by decide) _)).tr (FM.set (by decide) _))
    · unfold MA
      simp (disch := omega) only [mput_s, setp_ne, setp_at, upd_ne, upd_at]
      refine ⟨c1, rfl, by decide, c4, c5, c6, c7, c8, fun i hi => ?_⟩
      have hi4 : i < 4 := hi
      unfold push
      rw [if_pos rfl]
      by_cases e : i = 3
      · subst e
        rw [if_pos rfl]
        refine ⟨c8, fun k hk => ?_⟩
        rw [wrN, if_pos ⟨by omega, by omega⟩, show 78 * 3 + k - 78 * 3 = k by omega, c1]
      · rw [if_neg e]
        refine ⟨(c9 (i + 1) (by omega)).1, fun k hk => ?_⟩
        rw [wrN, if_neg (by omega), shN, if_pos (by omega), show 78 * i + k + 78 = 78 * (i + 1) + k by omega]
        exact (c9 (i + 1) (by omega)).2 k hk
  · have hp : psh h = h + 1 := by rw [psh, if_neg q]
    refine ⟨_, m_X4_changes_lt c4 c2 (by omega), ?_, ?_, ?_, ?_, ?_⟩
    · simp (disch := omega) only [mput_s, setp_ne, setp_at]
    · simp (disch := omega) only [mput_s, setp_ne, setp_at]
    · simp (disch := omega) only [mput_s, setp_ne, setp_at, upd_ne]
    · exact (FM.set (by decide) _).tr (FM.set (by decide) _)
    · rw [hp]
      unfold MA
      simp (disch := omega) only [mput_s, setp_ne, setp_at, upd_ne, upd_at]
      refine ⟨c1, trivial, by omega, c4, c5, c6, c7, c8, fun i hi => ?_⟩
      unfold push
      rw [if_neg q]
      by_cases e : i = h
      · subst e
        rw [if_pos rfl]
        refine ⟨c8, fun k hk => ?_⟩
        rw [wrN, if_pos ⟨by omega, by omega⟩, show 78 * i + k - 78 * i = k by omega, c1]
      · rw [if_neg e]
        refine ⟨(c9 i (by omega)).1, fun k hk => ?_⟩
        rw [wrN, if_neg (by omega)]
        exact (c9 i (by omega)).2 k hk
def OpM (M : Mem) (u : Vec) (h : Nat) (hs : Nat → Vec) (t : Nat) (tx : Vec) (S : Int32 × Vec) : Mem → Prop := fun M' => FM M M' ∧ if S.1 < 0 then MA M' u h hs t tx else MA M' S.2 (psh h) (push h hs u) t tx
theorem op_fin {y : MethodName} {ws : List Cond} {d : Nat} {av : List Value} {M' : Mem} {x : Int32 × Option Vec} {S : Int32 × Vec} (c : MA M u h hs t tx) (hf : FM M M') (hM' : MA M' u (psh h) (push h hs u) t tx) (hx : x = oS S) (hz : ¬ S.1 < 0 → Z78 S.2)
    (C : PM cA ad D y ws d av M (Ri x.1 (mo M M' x.2))) : PM cA ad D y ws d av M (QR S.1 (OpM M u h hs t tx S)) := by
  subst hx
  by_cases q : S.1 < 0
  · rw [oS, if_pos q] at C
    exact PM_weaken C (Ri_QR ⟨FM.rf M, by rw [if_pos q]; exact c⟩)
  · rw [oS, if_neg q] at C
    exact PM_weaken C (Ri_QR ⟨hf.tr (FM.set (by decide) _), by rw [if_neg q]; exact hM'.row10 (hz q)⟩)
theorem ord_z {N : Nat} (hv : VOK N u) (hz : Z78 u) (x y : Int32) (q : ¬ (ordS u N x y).1 < 0) : Z78 (ordS u N x y).2 := fun j hj => by
  have e := ordM_78 u hv.2.1 hv.1 x y hj
  rw [ord_eq hv, oS, if_neg q] at e
  exact e.trans (hz j hj)
theorem q_X4_walk (c : MA M u h hs t tx) {N : Nat} (hv : VOK N u) {v : Int32} : C_X4_walk cA ad D [.ref (ad 4), .int v] M (QR (walkS u v).1 (OpM M u h hs t tx (walkS u v))) := by
  obtain ⟨M', k1, k2, k3, k4, k5, k6⟩ := ch_ok (cA := cA) (ad := ad) (D := D) c
  have e10 : M.1 10 = u := c.1
  refine op_fin c k5 k6 (walk_eq hv v) (fun q => ord_z (N := N) hv c.2.2.2.2.2.2.2.1 119 v q) ?_
  have k := m_X4_walk (v := v) k1 k2
  rw [e10] at k
  exact k
theorem q_X4_buy (c : MA M u h hs t tx) {N : Nat} (hv : VOK N u) {v : Int32} : C_X4_buy cA ad D [.ref (ad 4), .int v] M (QR (buyS u v).1 (OpM M u h hs t tx (buyS u v))) := by
  obtain ⟨M', k1, k2, k3, k4, k5, k6⟩ := ch_ok (cA := cA) (ad := ad) (D := D) c
  have e10 : M.1 10 = u := c.1
  refine op_fin c k5 k6 (buy_eq hv v) (fun q => ord_z (N := N) hv c.2.2.2.2.2.2.2.1 98 v q) ?_
  have k := m_X4_buy (v := v) k1 k2
  rw [e10] at k
  exact k
theorem q_X4_patch (c : MA M u h hs t tx) {N : Nat} (hv : VOK N u) {v : Int32} : C_X4_patch cA ad D [.ref (ad 4), .int v] M (QR (mendJ u v false).1 (OpM M u h hs t tx (mendJ u v false))) := by
  obtain ⟨M', k1, k2, k3, k4, k5, k6⟩ := ch_ok (cA := cA) (ad := ad) (D := D) c
  have e10 : M.1 10 = u := c.1
  refine op_fin c k5 k6 (mendJ_eq hv v false) (fun q => ord_z (N := N) hv c.2.2.2.2.2.2.2.1 112 v q) ?_
  by_cases hj : isSm u v
  · obtain ⟨k, hk, e1, e2⟩ := isSm_k hv.2.1 hv.1 hj
    rw [mendMJ, if_pos (show ¬ v < 0 ∧ v < u 0 from hj), e2, e1]
    have k := m_X4_patch_s k1 k2 (by rw [e10]; exact hv.2.1) hv.1 hk
    rw [e10] at k
    exact k
  · rw [mendMJ, if_neg (show ¬ (¬ v < 0 ∧ v < u 0) from hj)]
    exact m_X4_patch_n (by rw [e10]; exact hj)
theorem q_X4_hide (c : MA M u h hs t tx) {N : Nat} (hv : VOK N u) {v : Int32} : C_X4_hide cA ad D [.ref (ad 4), .int v] M (QR (mendJ u v true).1 (OpM M u h hs t tx (mendJ u v true))) := by
  obtain ⟨M', k1, k2, k3, k4, k5, k6⟩ := ch_ok (cA := cA) (ad := ad) (D := D) c
  have e10 : M.1 10 = u := c.1
  refine op_fin c k5 k6 (mendJ_eq hv v true) (fun q => ord_z (N := N) hv c.2.2.2.2.2.2.2.1 104 v q) ?_
  by_cases hj : isSm u v
  · obtain ⟨k, hk, e1, e2⟩ := isSm_k hv.2.1 hv.1 hj
    rw [mendMJ, if_pos (show ¬ v < 0 ∧ v < u 0 from hj), e2, e1]
    have k := m_X4_hide_s k1 k2 (by rw [e10]; exact hv.2.1) hv.1 hk
    rw [e10] at k
    exact k
  · rw [mendMJ, if_neg (show ¬ (¬ v < 0 ∧ v < u 0) from hj)]
    exact m_X4_hide_n (by rw [e10]; exact hj)
theorem q_X4_collect (c : MA M u h hs t tx) {N : Nat} (hv : VOK N u) {v : Int32} : C_X4_collect cA ad D [.ref (ad 4), .int v] M (QR (collJ u v).1 (OpM M u h hs t tx (collJ u v))) := by
  obtain ⟨M', k1, k2, k3, k4, k5, k6⟩ := ch_ok (cA := cA) (ad := ad) (D := D) c
  have e10 : M.1 10 = u := c.1
  refine op_fin c k5 k6 (collJ_eq hv v) (fun q => ord_z (N := N) hv c.2.2.2.2.2.2.2.1 99 v q) ?_
  by_cases hj : isSm u v
  · obtain ⟨k, hk, e1, e2⟩ := isSm_k hv.2.1 hv.1 hj
    rw [collMJ, if_pos (show ¬ v < 0 ∧ v < u 0 from hj), e2, e1]
    have k := m_X4_collect_s k1 k2 (by rw [e10]; exact hv.2.1) hv.1 hk
    rw [e10] at k
    exact k
  · rw [collMJ, if_neg (show ¬ (¬ v < 0 ∧ v < u 0) from hj)]
    exact m_X4_collect_n (by rw [e10]; exact hj)
theorem q_X4_end (c : MA M u h hs t tx) {N : Nat} (hv : VOK N u) {v : Int32} : C_X4_end cA ad D [.ref (ad 4), .int v] M (QR (endS u N v).1 (OpM M u h hs t tx (endS u N v))) := by
  obtain ⟨M', k1, k2, k3, k4, k5, k6⟩ := ch_ok (cA := cA) (ad := ad) (D := D) c
  have e10 : M.1 10 = u := c.1
  refine op_fin c k5 k6 (end_eq hv v) (fun q => ord_z (N := N) hv c.2.2.2.2.2.2.2.1 100 v q) ?_
  have k := m_X4_end (v := v) k1 k2 (by rw [e10]; exact hv.2.1) hv.1 (csN_on8 hv.1)
  rw [e10] at k
  exact k
theorem q_X4_set (c : MA M u h hs t tx) {N : Nat} (hv : VOK N u) {w v : Int32} : C_X4_set cA ad D [.ref (ad 4), .int w, .int v] M (QR (setS u w v).1 (OpM M u h hs t tx (setS u w v))) := by
  obtain ⟨M', k1, k2, k3, k4, k5, k6⟩ := ch_ok (cA := cA) (ad := ad) (D := D) c
  have e10 : M.1 10 = u := c.1
  by_cases hw : rng w 0 3 = true
  · obtain ⟨j, h1, h2, e1, e2⟩ := rng_nI (a := 0) (b := 3) (by decide) hw (by decide)
    subst e1
    refine op_fin c k5 k6 (set_eq hv h2 v) (fun q j' hj' => ?_) ?_
    · have e := set_eq hv h2 v
      rw [oS, if_neg q] at e
      unfold setM at e
      split at e
      · have e3 := (Prod.mk.inj e).2
        rw [← Option.some.inj e3, upd_ne _ _ (by omega)]
        exact c.2.2.2.2.2.2.2.1 j' hj'
      · have e3 := (Prod.mk.inj e).2
        cases e3
    · have k := m_X4_set_y (v := v) k1 k2 h2 hw
      rw [e10] at k
      exact k
  · have hw2 : rng w 0 3 = false := by simpa using hw
    have e := set_eq_n (u := u) (v := v) hw2
    refine op_fin (x := (IA, none)) c k5 k6 (by rw [e, oS_e (by decide)]) (fun q => absurd (show (setS u w v).1 < 0 by rw [e]; show (IA : Int32) < 0; decide) q) ?_
    exact m_X4_set_n hw2
theorem q_X4_smithy (c : MA M u h hs t tx) {N : Nat} (hv : VOK N u) {w v : Int32} : C_X4_smithy cA ad D [.ref (ad 4), .int w, .int v] M (QR (addS u N w v).1 (OpM M u h hs t tx (addS u N w v))) := by
  obtain ⟨M', k1, k2, k3, k4, k5, k6⟩ := ch_ok (cA := cA) (ad := ad) (D := D) c
  have e10 : M.1 10 = u := c.1
  refine op_fin c k5 k6 (add_eq hv w v) (fun q j hj => ?_) ?_
  · have e := add_eq hv w v
    rw [oS, if_neg q] at e
    unfold addM at e
    split at e
    · split at e
      · split at e
        · cases (Prod.mk.inj e).2
        · next h8 =>
          rw [← Option.some.inj (Prod.mk.inj e).2]
          have hN : N < 8 := by
            rcases Nat.lt_or_ge N 8 with p | p
            · exact p
            · exfalso
              have : N = 8 := by have := hv.1; omega
              exact h8 (by rw [hv.2.1, this]; rfl)
          unfold addV
          simp (disch := omega) only [upd_ne, zeN_8]
          rw [if_neg (by omega)]
          exact c.2.2.2.2.2.2.2.1 j hj
      · cases (Prod.mk.inj e).2
    · cases (Prod.mk.inj e).2
  · have k := m_X4_smithy (v := w) (w := v) k1 k2 (by rw [e10]; exact hv.2.1) hv.1
    rw [e10] at k
    exact k
end MREL
