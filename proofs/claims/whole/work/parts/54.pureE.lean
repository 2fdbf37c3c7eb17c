/-! ===== the text's orders: the reference's run is the class's ===== -/
theorem roS_z (o : Vec) (f : Nat → Int32) (s : Nat) : (roS o f s).1 = 0 ↔ ¬ okB f s = true := by
  unfold roS okB
  split
  · split
    · simp
    · next h2 =>
      by_cases q : f (s + 1 + (dgs f s 3 0 0).1) = 59
      · simp [q]
      · simp [q]
  · simp
theorem roS_ok2 {o : Vec} {f : Nat → Int32} {s : Nat} (h : okB f s = true) : (roS o f s).2 2 = (dgs f s 3 0 0).2 := by
  obtain ⟨h1, h2, h3⟩ := okB_L h
  unfold roS
  rw [if_pos h1, if_neg h2, if_pos h3]
  simp (disch := omega) only [upd_ne, upd_at]
theorem roS_n4 {o : Vec} {f : Nat → Int32} {s : Nat} (h : ¬ okB f s = true) : (roS o f s).2 4 = if isL (f s) = true then 1 + nI (dgs f s 3 0 0).1 else 0 := by
  unfold roS
  unfold okB at h
  by_cases h1 : isL (f s) = true
  · rw [if_pos h1] at h
    rw [if_pos h1, if_pos h1]
    by_cases h2 : (dgs f s 3 0 0).1 = 0
    · rw [if_pos h2]; simp (disch := omega) only [upd_ne, upd_at]
    · rw [if_neg h2] at h
      rw [if_neg h2]
      have h3 : ¬ f (s + 1 + (dgs f s 3 0 0).1) = 59 := by simpa using h
      rw [if_neg h3]; simp (disch := omega) only [upd_ne, upd_at]
  · rw [if_neg h1, if_neg h1]; simp (disch := omega) only [upd_ne, upd_at]
theorem rdV_n3 {b tx : Vec} {t s : Nat} (hb : b 3 = nI s) (h : ¬ okB (chr tx t) s = true) : rdV b tx t s 3 - nI s = if isL (chr tx t s) = true then 1 + nI (dgs (chr tx t) s 3 0 0).1 else 0 := by
  have h2 : okB (chr tx t) s = false := by simpa using h
  unfold rdV
  rw [mor_L, h2]
  by_cases h1 : isL (chr tx t s) = true
  · rw [if_pos h1, if_pos h1]
    simp (disch := omega) only [upd_ne, upd_at]
    rw [if_neg (by decide), pk_sub (by omega)]
    show _ = nI 1 + _
    rw [nI_add]
    congr 1; omega
  · rw [if_neg h1, if_neg h1]
    simp (disch := omega) only [upd_ne]
    rw [hb]; exact Int32.sub_self _
theorem plF_run (tx : Vec) (t : Nat) {N : Nat} : ∀ (m s : Nat) (w b : Vec) (c : Int32), VOK N w → b 3 = nI s → b 7 = c →
    (plF tx t N m s w b).1 = (runA (chr tx t) t N m s w c).1 ∧
    (¬ (runA (chr tx t) t N m s w c).1 = 0 → (plF tx t N m s w b).2.1 = (runA (chr tx t) t N m s w c).2.1 ∧ (plF tx t N m s w b).2.2 7 = (runA (chr tx t) t N m s w c).2.2.1 ∧ VOK N (runA (chr tx t) t N m s w c).2.1) ∧
    ((runA (chr tx t) t N m s w c).1 = 0 → (plF tx t N m s w b).2.2 4 = (runA (chr tx t) t N m s w c).2.2.2.1 ∧ (plF tx t N m s w b).2.2 5 = (runA (chr tx t) t N m s w c).2.2.2.2.1 ∧ (plF tx t N m s w b).2.2 6 = (runA (chr tx t) t N m s w c).2.2.2.2.2)
  | 0, s, w, b, c, hw, hb, hc => ⟨rfl, fun _ => ⟨rfl, hc, hw⟩, fun q => absurd q (by show ¬ (1 : Int32) = 0; decide)⟩
  | m + 1, s, w, b, c, hw, hb, hc => by
    rw [plF, runA]
    by_cases hst : s < t
    · rw [if_pos hst, if_pos hst]
      by_cases hok : okB (chr tx t) s = true
      · have hr : ¬ (roS zv (chr tx t) s).1 = 0 := fun q => (roS_z zv _ s).mp q hok
        have e8 : rdV (upd b 4 (nI s)) tx t s 8 = chr tx t s := (rdV_8 _ _ _ _).trans (mor_eq (okB_L hok).1)
        rw [if_pos hok, if_neg hr, e8, rdV_9 hok, roS_ok2 hok, ord_eq hw]
        by_cases hn : (ordS w N (chr tx t s) (dgs (chr tx t) s 3 0 0).2).1 < 0
        · rw [oS, if_pos hn, if_pos hn, if_pos hn]
          refine ⟨rfl, fun q => absurd rfl q, fun _ => ?_⟩
          refine ⟨?_, ?_, ?_⟩
          · simp (disch := omega) only [upd_ne, rdV_k, upd_at]
          · simp (disch := omega) only [upd_ne, upd_at]
          · simp (disch := omega) only [upd_ne, upd_at]
        · rw [oS, if_neg hn, if_neg hn, if_neg hn]
          refine plF_run tx t m _ _ _ _ ?_ ?_ ?_
          · exact VOK_ord hw _ _
          · simp (disch := omega) only [upd_ne]; exact rdV_3 hok
          · rw [upd_at, hc]
      · have hr : (roS zv (chr tx t) s).1 = 0 := (roS_z zv _ s).mpr hok
        rw [if_neg hok, if_pos hr]
        refine ⟨rfl, fun q => absurd rfl q, fun _ => ?_⟩
        refine ⟨?_, ?_, ?_⟩
        · simp (disch := omega) only [upd_ne, rdV_k, upd_at]
        · simp (disch := omega) only [upd_ne, upd_at]
        · simp (disch := omega) only [upd_ne, upd_at]
          rw [rdV_n3 (by rw [upd_ne _ _ (by decide)]; exact hb) hok, roS_n4 hok]
    · rw [if_neg hst, if_neg hst]
      exact ⟨rfl, fun _ => ⟨rfl, hc, hw⟩, fun q => absurd q (by show ¬ (1 : Int32) = 0; decide)⟩
/-! ===== the days till a hearth is cold ===== -/
theorem cdL_r (c z : Int32) : ∀ (m e : Nat) (w h : Int32), e + m ≤ 201 → cdL c z m e w h = 201 ∨ ∃ i, i ≤ 200 ∧ cdL c z m e w h = nI i
  | 0, e, w, h, he => Or.inl rfl
  | m + 1, e, w, h, he => by
    rw [cdL]
    split
    · exact Or.inr ⟨e, by omega, rfl⟩
    · exact cdL_r c z m (e + 1) _ _ (by omega)
theorem cda_r (u : Vec) (k : Nat) : cda u k = 201 ∨ ∃ i, i ≤ 200 ∧ cda u k = nI i := by
  unfold cda
  split
  · exact Or.inr ⟨0, by decide, rfl⟩
  · exact cdL_r _ _ 200 1 _ _ (by decide)
def cdX (k : Nat) (r : Nat × Vec) : Int32 := if r.2 (14 + 8 * k + 3) < r.2 10 then nI r.1 else NF
def nfX (x : Int32) : Int32 := if x = 201 then NF else x
theorem nfX_nI {e : Nat} (h : e ≤ 200) : nfX (nI e) = nI e := by
  unfold nfX
  rw [if_neg]
  intro q
  have : nI e = nI 201 := q
  have := (nI_eq (by omega) (by omega)).mp this
  omega
theorem cd_run {k : Nat} : ∀ (m n : Nat) (w : Vec), SOK w k → n + m ≤ 200 → ¬ w (14 + 8 * k + 3) < w 10 →
    cdX k (cdR k m n w) = nfX (cdL (w 10) (w (14 + 8 * k + 1)) m (n + 1) (w (14 + 8 * k + 2)) (w (14 + 8 * k + 3)))
  | 0, n, w, hs, hm, hc => by
    rw [cdR, cdL, cdX, if_neg hc]; rfl
  | m + 1, n, w, hs, hm, hc => by
    rw [cdR, if_neg hc, cdL, agU_eq hs]
    obtain ⟨e0, e1, e2, e3, e5⟩ := dayU_s (u := w) (k := k)
    have e10 : dayU w k 10 = w 10 := dayU_j w k 10 (by decide) (by decide)
    have eH : heatD (w (14 + 8 * k + 3)) (wearD (w (14 + 8 * k + 2)) (w (14 + 8 * k + 1))) = dayH w k := rfl
    rw [eH]
    by_cases q : dayH w k < w 10
    · rw [if_pos q]
      have q2 : dayU w k (14 + 8 * k + 3) < dayU w k 10 := by rw [e3, e10]; exact q
      have e : cdR k m (n + 1) (dayU w k) = (n + 1, dayU w k) := by
        cases m with
        | zero => rfl
        | succ m => rw [cdR, if_pos q2]
      rw [e, cdX, if_pos q2, nfX_nI (by omega)]
    · rw [if_neg q]
      have h2 := cd_run m (n + 1) (dayU w k) (SOK_s hs) (by omega) (by rw [e3, e10]; exact q)
      rw [e10, e1, e2, e3] at h2
      exact h2
theorem cd_eq {u : Vec} {k : Nat} (hs : SOK u k) : cdM u k = nfX (cda u k) := by
  show cdX k (cdR k 200 0 u) = _
  unfold cda
  by_cases q : u (14 + 8 * k + 3) < u 10
  · rw [if_pos q]
    have e : cdR k 200 0 u = (0, u) := by rw [cdR, if_pos q]
    rw [e, cdX, if_pos q]; rfl
  · rw [if_neg q]
    exact cd_run 200 0 u hs (by decide) q
theorem cdi_eq {u : Vec} {k : Nat} (hs : SOK u k) : cdM u k = cdiS u k := cd_eq hs
theorem dy_cd {u : Vec} {k : Nat} (hs : SOK u k) : dyS (cdM u k) = cda u k := by
  rw [cd_eq hs]
  rcases cda_r u k with e | ⟨i, hi, e⟩
  · rw [e]; decide
  · rw [e, nfX_nI hi, dyS, if_pos (show (0 : Int32) ≤ nI i from nI_le (a := 0) (b := i) (by omega) (by omega))]
theorem ia_eq {u : Vec} {k i : Nat} (hk : SOK u k) (hi : SOK u i) : iaS u k (cdM u k) i (cdM u i) = cbf u k i := by
  unfold iaS cbf
  rw [dy_cd hk, dy_cd hi]; rfl
theorem nx_eq {N : Nat} {u : Vec} (h : VOK N u) : ∀ n, n ≤ N → (nxM u n).1 = nxo u n ∧ (∀ b, nxo u n = some b → (nxM u n).2 = cdM u b)
  | 0, _ => ⟨rfl, fun b q => by cases q⟩
  | i + 1, hn => by
    obtain ⟨e1, e2⟩ := nx_eq h i (by omega)
    rw [nxM, nxo]
    by_cases q : u (14 + 8 * i + 2) ≤ 0
    · rw [if_pos q, if_pos q]; exact ⟨e1, e2⟩
    · rw [if_neg q, if_neg q]
      rcases hx : nxM u i with ⟨o, y⟩
      rw [hx] at e1 e2
      cases o with
      | none =>
        have e1' : nxo u i = none := e1.symm
        rw [e1']
        exact ⟨rfl, fun b q2 => by cases q2; rfl⟩
      | some b =>
        have e1' : nxo u i = some b := e1.symm
        have ey : y = cdM u b := e2 b e1'
        have hb := nxo_lt u i b e1'
        rw [e1', ey]
        show (if iaS u i (cdM u i) b (cdM u b) = 0 then (some b, cdM u b) else (some i, cdM u i)).1 = (if cbf u i b = 0 then some b else some i) ∧ _
        rw [ia_eq (h.2.2.2.2.2.2.2.2 i (by omega)) (h.2.2.2.2.2.2.2.2 b (by omega))]
        by_cases q3 : cbf u i b = 0
        · rw [if_pos q3, if_pos q3]
          refine ⟨rfl, fun b' q4 => ?_⟩
          have q5 : (if cbf u i b = 0 then some b else some i) = some b' := q4
          rw [if_pos q3] at q5
          cases q5
          show (if iaS u i (cdM u i) b (cdM u b) = 0 then (some b, cdM u b) else (some i, cdM u i)).2 = _
          rw [ia_eq (h.2.2.2.2.2.2.2.2 i (by omega)) (h.2.2.2.2.2.2.2.2 b (by omega)), if_pos q3]
        · rw [if_neg q3, if_neg q3]
          refine ⟨rfl, fun b' q4 => ?_⟩
          have q5 : (if cbf u i b = 0 then some b else some i) = some b' := q4
          rw [if_neg q3] at q5
          cases q5
          show (if iaS u i (cdM u i) b (cdM u b) = 0 then (some b, cdM u b) else (some i, cdM u i)).2 = _
          rw [ia_eq (h.2.2.2.2.2.2.2.2 i (by omega)) (h.2.2.2.2.2.2.2.2 b (by omega)), if_neg q3]
