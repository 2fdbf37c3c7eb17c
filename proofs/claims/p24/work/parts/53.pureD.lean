/-! ===== changes: the reference's answers are the class's ===== -/
theorem nI_i {n : Nat} (h : n < 2 ^ 31) : (nI n).toInt = (n : Int) := nI_toInt h
theorem mendJ_eq {N : Nat} {u : Vec} (h : VOK N u) (j : Int32) (b : Bool) : mendMJ u j b = oS (mendJ u j b) := by
  unfold mendMJ mendJ
  by_cases q : ¬ j < 0 ∧ j < u 0
  · obtain ⟨k, hk, e1, e2⟩ := isSm_k h.2.1 h.1 (show isSm u j from q)
    rw [if_pos q, if_pos q, e2]
    exact mend_eq h hk b
  · rw [if_neg q, if_neg q, oS_e (by decide)]
theorem collJ_eq {N : Nat} {u : Vec} (h : VOK N u) (j : Int32) : collMJ u j = oS (collJ u j) := by
  unfold collMJ collJ
  by_cases q : ¬ j < 0 ∧ j < u 0
  · obtain ⟨k, hk, e1, e2⟩ := isSm_k h.2.1 h.1 (show isSm u j from q)
    rw [if_pos q, if_pos q, e2]
    exact coll_eq h hk
  · rw [if_neg q, if_neg q, oS_e (by decide)]
theorem end_eq {N : Nat} {u : Vec} (h : VOK N u) (v : Int32) : endM u N v = oS (endS u N v) := by
  unfold endM endS
  by_cases h1 : v < 1
  · rw [rng_lo h1, if_neg (by decide), if_pos h1, oS_e (by decide)]
  · by_cases h2 : v ≤ 99
    · rw [rng_t h1 h2, if_pos rfl, if_neg h1, if_pos h2]
      obtain ⟨d, hd, e1, e2⟩ := small_nI h1 h2
      rw [e2]
      by_cases h3 : u 1 + v ≤ 9999
      · rw [if_pos h3, if_pos h3]
        have hd0 : d ≠ 0 := fun q => h1 (by rw [e1, q]; decide)
        obtain ⟨d', rfl⟩ := Nat.exists_eq_succ_of_ne_zero hd0
        rw [eds_eq h d', (bitc_on h.1 _).1, oS_s]
        have := (bitc_on h.1 (endU u N (d' + 1))).2
        rw [i_le, z_i] at this
        exact this
      · rw [if_neg h3, if_neg h3, oS_e (by decide)]
    · rw [rng_hi h2, if_neg (by decide), if_neg h1, if_neg h2, oS_e (by decide)]
theorem ord_eq {N : Nat} {u : Vec} (h : VOK N u) (c v : Int32) : ordM u N c v = oS (ordS u N c v) := by
  unfold ordM ordS
  split
  · exact walk_eq h v
  · split
    · exact buy_eq h v
    · split
      · exact mendJ_eq h v false
      · split
        · exact mendJ_eq h v true
        · split
          · exact collJ_eq h v
          · exact end_eq h v
theorem set_eq_n {u : Vec} {w v : Int32} (h : rng w 0 3 = false) : setS u w v = (IA, u) := by
  unfold setS inRng
  have k : ∀ x : Int32, rng x 0 3 = true → ¬ w = x := fun x hx q => by rw [q, hx] at h; cases h
  rw [if_neg (k 0 (by decide)), if_neg (k 1 (by decide)), if_neg (k 2 (by decide)), if_neg (k 3 (by decide)), if_neg (by decide)]
theorem set_eq {N : Nat} {u : Vec} (h : VOK N u) {j : Nat} (hj : j ≤ 3) (v : Int32) : setM u j v = oS (setS u (nI j) v) := by
  have hc : j = 0 ∨ j = 1 ∨ j = 2 ∨ j = 3 := by omega
  rcases hc with rfl | rfl | rfl | rfl
  · show (if rng v 1 99 = true then (u 10, some (upd u 10 v)) else (IA, none)) = oS (if rng v 1 99 = true then (u 10, upd u 10 v) else (IA, u))
    split
    · rw [oS_s h.2.2.2.2.1.1]
    · rw [oS_e (by decide)]
  · show (if rng v 1 24 = true then (u 11, some (upd u 11 v)) else (IA, none)) = oS (if rng v 1 24 = true then (u 11, upd u 11 v) else (IA, u))
    split
    · rw [oS_s h.2.2.2.2.2.1.1]
    · rw [oS_e (by decide)]
  · show (if rng v 0 20 = true then (u 12, some (upd u 12 v)) else (IA, none)) = oS (if rng v 0 20 = true then (u 12, upd u 12 v) else (IA, u))
    split
    · rw [oS_s h.2.2.2.2.2.2.1.1]
    · rw [oS_e (by decide)]
  · show (if rng v 0 500 = true then (u 13, some (upd u 13 v)) else (IA, none)) = oS (if rng v 0 500 = true then (u 13, upd u 13 v) else (IA, u))
    split
    · rw [oS_s h.2.2.2.2.2.2.2.1.1]
    · rw [oS_e (by decide)]
theorem zeN_8 (u : Vec) (k j : Nat) : zeN u k 8 j = if 14 + 8 * k ≤ j ∧ j < 14 + 8 * k + 8 then 0 else u j := by
  by_cases q : 14 + 8 * k ≤ j ∧ j < 14 + 8 * k + 8
  · rw [if_pos q]
    have hc : j = 14 + 8 * k + 0 ∨ j = 14 + 8 * k + 1 ∨ j = 14 + 8 * k + 2 ∨ j = 14 + 8 * k + 3 ∨ j = 14 + 8 * k + 4 ∨ j = 14 + 8 * k + 5 ∨ j = 14 + 8 * k + 6 ∨ j = 14 + 8 * k + 7 := by omega
    rcases hc with e | e | e | e | e | e | e | e <;> (subst e; simp (disch := omega) only [zeN, upd_at, upd_ne])
  · rw [if_neg q]
    simp (disch := omega) only [zeN, upd_ne]
theorem addV_eq (u : Vec) (k : Nat) (v w : Int32) : addV u k v w = addU u k v w := by
  funext j
  unfold addV addU
  by_cases q : 14 + 8 * k ≤ j ∧ j < 14 + 8 * k + 8
  · have hc : j = 14 + 8 * k ∨ j = 14 + 8 * k + 1 ∨ j = 14 + 8 * k + 2 ∨ j = 14 + 8 * k + 3 ∨ j = 14 + 8 * k + 4 ∨ j = 14 + 8 * k + 5 ∨ j = 14 + 8 * k + 6 ∨ j = 14 + 8 * k + 7 := by omega
    rcases hc with e | e | e | e | e | e | e | e <;> (subst e; simp (disch := omega) only [upd_at, upd_ne, zeN_8] <;> (try rw [if_pos (by omega)]))
  · by_cases q0 : j = 0
    · subst q0; simp (disch := omega) only [upd_at, upd_ne]
    · simp (disch := omega) only [upd_ne, zeN_8]
      rw [if_neg q]
theorem add_eq {N : Nat} {u : Vec} (h : VOK N u) (v w : Int32) : addM u N v w = oS (addS u N v w) := by
  unfold addM addS
  by_cases h1 : v < 0
  · rw [rng_lo h1, if_neg (by decide), if_pos h1, oS_e (by decide)]
  · rw [if_neg h1]
    by_cases h2 : 99 < v
    · rw [rng_hi (Int32.not_le.mpr h2), if_neg (by decide), if_pos h2, oS_e (by decide)]
    · rw [rng_t h1 (Int32.not_lt.mp h2), if_pos rfl, if_neg h2]
      by_cases h3 : w < 1
      · rw [rng_lo h3, if_neg (by decide), if_pos h3, oS_e (by decide)]
      · rw [if_neg h3]
        by_cases h4 : w ≤ 9
        · rw [rng_t h3 h4, if_pos rfl, if_pos h4]
          by_cases h5 : u 0 < 8
          · have n8 : ¬ u 0 = 8 := fun q => by rw [q] at h5; exact absurd h5 (by decide)
            rw [if_neg n8, if_pos h5, oS_s, addV_eq]
            rw [h.2.1, nI_i (Nat.lt_of_le_of_lt h.1 (by decide))]
            omega
          · have n8 : u 0 = 8 := by
              have hN := h.1
              have e := h.2.1
              rw [e, i_lt, nI_i (Nat.lt_of_le_of_lt h.1 (by decide)), show (8 : Int32).toInt = 8 from rfl] at h5
              have : N = 8 := by omega
              rw [e, this]; rfl
            rw [if_pos n8, if_neg h5, oS_e (by decide)]
        · rw [rng_hi h4, if_neg (by decide), if_neg h4, oS_e (by decide)]
/-! ===== the bounds stay ===== -/
theorem SOK_k {u w : Vec} {k : Nat} (h : SOK u k) (e : ∀ j, j < 8 → w (14 + 8 * k + j) = u (14 + 8 * k + j)) : SOK w k := by
  have e0 := e 0 (by decide)
  rw [Nat.add_zero] at e0
  unfold SOK
  rw [e0, e 1 (by decide), e 2 (by decide), e 3 (by decide), e 5 (by decide)]
  exact h
theorem VOK_walk {N : Nat} {u : Vec} (h : VOK N u) (v : Int32) : VOK N (walkS u v).2 := by
  unfold walkS
  split
  · exact h
  · next h1 =>
    split
    · next h2 =>
      split
      · refine h.of ?_ ?_ ?_ ?_ ?_ ?_ ?_ (fun k hk => SOK_k (h.2.2.2.2.2.2.2.2 k hk) (fun j hj => ?_)) <;> simp (disch := omega) only [walkU, upd_ne, upd_at]
        · refine ⟨?_, i_le.mp h2⟩
          have a1 : ¬ v.toInt < 0 := fun q => h1 (i_lt.mpr q)
          omega
        · exact h.2.2.2.1
        · exact h.2.2.2.2.1
        · exact h.2.2.2.2.2.1
        · exact h.2.2.2.2.2.2.1
        · exact h.2.2.2.2.2.2.2.1
      · exact h
    · exact h
theorem VOK_buy {N : Nat} {u : Vec} (h : VOK N u) (v : Int32) : VOK N (buyS u v).2 := by
  unfold buyS
  split
  · exact h
  · next h1 =>
    split
    · next h2 =>
      split
      · split
        · next h4 =>
          refine h.of ?_ ?_ ?_ ?_ ?_ ?_ ?_ (fun k hk => SOK_k (h.2.2.2.2.2.2.2.2 k hk) (fun j hj => ?_)) <;> simp (disch := omega) only [buyU, upd_ne, upd_at]
          · exact h.2.2.1
          · have a1 : ¬ v.toInt < 1 := fun q => h1 (i_lt.mpr q)
            have a2 : v.toInt ≤ 999 := i_le.mp h2
            have a3 := h.2.2.2.1.1
            have a4 := h.2.2.2.1.2
            have a5 := i_le.mp h4
            rw [i_add (by omega) (by omega), show (999 : Int32).toInt = 999 from rfl] at a5
            unfold bd
            rw [i_add (by omega) (by omega)]
            omega
          · exact h.2.2.2.2.1
          · exact h.2.2.2.2.2.1
          · exact h.2.2.2.2.2.2.1
          · exact h.2.2.2.2.2.2.2.1
        · exact h
      · exact h
    · exact h
theorem VOK_mend {N : Nat} {u : Vec} (h : VOK N u) {k : Nat} (hk : k < N) (b : Bool) : VOK N (mendS u k b).2 := by
  unfold mendS
  split
  · next hw =>
    have w0 := whyNot_0 hw
    have hl := leather_i h hk b
    have hd := debt_i h hk hw
    have hb := wearBM_i h hk b
    refine h.of ?_ ?_ ?_ ?_ ?_ ?_ ?_ (fun i hi => ?_)
    · simp (disch := omega) only [mendU, upd_ne]
    · simp (disch := omega) only [mendU, upd_ne]; exact h.2.2.1
    · simp (disch := omega) only [mendU, upd_ne, upd_at]
      have a1 := i_le.mp w0.2.2.1
      have := hl.1; have := h.2.2.2.1.1; have := h.2.2.2.1.2
      unfold bd
      rw [i_sub (by omega) (by omega)]
      omega
    · simp (disch := omega) only [mendU, upd_ne]; exact h.2.2.2.2.1
    · simp (disch := omega) only [mendU, upd_ne]; exact h.2.2.2.2.2.1
    · simp (disch := omega) only [mendU, upd_ne]; exact h.2.2.2.2.2.2.1
    · simp (disch := omega) only [mendU, upd_ne]; exact h.2.2.2.2.2.2.2.1
    · by_cases e : i = k
      · subst e
        obtain ⟨s1, s2, s3, s4, s5⟩ := h.2.2.2.2.2.2.2.2 i hi
        unfold SOK
        simp (disch := omega) only [mendU, upd_ne, upd_at]
        exact ⟨s1, s2, hb, s4, hd⟩
      · refine SOK_k (h.2.2.2.2.2.2.2.2 i hi) (fun j hj => ?_)
        simp (disch := omega) only [mendU, upd_ne]
  · exact h
theorem VOK_coll {N : Nat} {u : Vec} (h : VOK N u) {k : Nat} (hk : k < N) : VOK N (collS u k).2 := by
  unfold collS
  split
  · split
    · have hp := pays_i h hk
      refine h.of ?_ ?_ ?_ ?_ ?_ ?_ ?_ (fun i hi => ?_)
      · simp (disch := omega) only [collU, upd_ne]
      · simp (disch := omega) only [collU, upd_ne]; exact h.2.2.1
      · simp (disch := omega) only [collU, upd_ne]; exact h.2.2.2.1
      · simp (disch := omega) only [collU, upd_ne]; exact h.2.2.2.2.1
      · simp (disch := omega) only [collU, upd_ne]; exact h.2.2.2.2.2.1
      · simp (disch := omega) only [collU, upd_ne]; exact h.2.2.2.2.2.2.1
      · simp (disch := omega) only [collU, upd_ne]; exact h.2.2.2.2.2.2.2.1
      · by_cases e : i = k
        · subst e
          obtain ⟨s1, s2, s3, s4, s5⟩ := h.2.2.2.2.2.2.2.2 i hi
          unfold SOK
          simp (disch := omega) only [collU, upd_ne, upd_at]
          refine ⟨s1, s2, s3, s4, ?_⟩
          have := s5.1; have := s5.2
          unfold bd
          rw [i_sub (by omega) (by omega)]
          omega
        · refine SOK_k (h.2.2.2.2.2.2.2.2 i hi) (fun j hj => ?_)
          simp (disch := omega) only [collU, upd_ne]
    · exact h
  · exact h
theorem VOK_ord {N : Nat} {u : Vec} (h : VOK N u) (c v : Int32) : VOK N (ordS u N c v).2 := by
  have mJ : ∀ (j : Int32) (b : Bool), VOK N (mendJ u j b).2 := fun j b => by
    unfold mendJ
    split
    · next q =>
      obtain ⟨k, hk, e1, e2⟩ := isSm_k h.2.1 h.1 (show isSm u j from q)
      rw [e2]; exact VOK_mend h hk b
    · exact h
  unfold ordS
  split
  · exact VOK_walk h v
  · split
    · exact VOK_buy h v
    · split
      · exact mJ v false
      · split
        · exact mJ v true
        · split
          · unfold collJ
            split
            · next q =>
              obtain ⟨k, hk, e1, e2⟩ := isSm_k h.2.1 h.1 (show isSm u v from q)
              rw [e2]; exact VOK_coll h hk
            · exact h
          · unfold endS
            split
            · exact h
            · split
              · split
                · exact VOK_end h _
                · exact h
              · exact h

