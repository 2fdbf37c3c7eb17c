/-! ===== days: the class's order and the reference's ===== -/
theorem z_i : (0 : Int32).toInt = 0 := rfl
theorem agW_eq (u : Vec) (k : Nat) : agW u k = dayW u k := by
  unfold agW dayW wearD
  generalize u (14 + 8 * k + 2) + u (14 + 8 * k + 1) / 2 + 1 = x
  by_cases h : x < 100
  · rw [if_pos h, if_pos (Int32.le_of_lt h)]
  · rw [if_neg h]
    split
    · next h2 =>
      rw [i_le] at h2; rw [i_lt] at h; rw [i_eq]; omega
    · rfl
theorem wearD_i {w z : Int32} (hw : bd w 100) (hz : bd z 9) : bd (wearD w z) 100 := by
  have := hw.1; have := hw.2; have := hz.1; have := hz.2
  have e2 : (2 : Int32).toInt = 2 := rfl
  have e1 : (1 : Int32).toInt = 1 := rfl
  have e100 : (100 : Int32).toInt = 100 := rfl
  have d : (z / 2).toInt = z.toInt / 2 := by rw [i_div (by omega) (by rw [e2]; omega), e2]
  have a1 : (w + z / 2).toInt = w.toInt + z.toInt / 2 := by rw [i_add (by rw [d]; omega) (by rw [d]; omega), d]
  have a2 : (w + z / 2 + 1).toInt = w.toInt + z.toInt / 2 + 1 := by rw [i_add (by rw [a1, e1]; omega) (by rw [a1, e1]; omega), a1, e1]
  unfold wearD bd
  split
  · next h => rw [i_lt, a2, e100] at h; rw [a2]; omega
  · rw [e100]; omega
theorem dayH_i {u : Vec} {k : Nat} (h : SOK u k) : bd (dayH u k) 100 ∧ agH u k = dayH u k := by
  obtain ⟨s1, s2, s3, s4, s5⟩ := h
  have hw : bd (dayW u k) 100 := wearD_i s3 s2
  have e10 : (10 : Int32).toInt = 10 := rfl
  have e100 : (100 : Int32).toInt = 100 := rfl
  have e2 : (2 : Int32).toInt = 2 := rfl
  have em2 : (-2 : Int32).toInt = -2 := rfl
  unfold agH agT dayH
  rw [agW_eq]
  generalize dayW u k = w at hw
  generalize u (14 + 8 * k + 3) = x at s4
  have := hw.1; have := hw.2; have := s4.1; have := s4.2
  have d : (w / 10).toInt = w.toInt / 10 := by rw [i_div (by omega) (by rw [e10]; omega), e10]
  have m1 : (w / 10 * 2).toInt = w.toInt / 10 * 2 := by rw [i_mul (by rw [d, e2]; omega) (by rw [d, e2]; omega), d, e2]
  have m2 : (-2 * (w / 10)).toInt = -2 * (w.toInt / 10) := by rw [i_mul (by rw [d, em2]; omega) (by rw [d, em2]; omega), d, em2]
  have p1 : (x + 10).toInt = x.toInt + 10 := by rw [i_add (by rw [e10]; omega) (by rw [e10]; omega), e10]
  have p2 : (x - w / 10 * 2).toInt = x.toInt - w.toInt / 10 * 2 := by rw [i_sub (by rw [m1]; omega) (by rw [m1]; omega), m1]
  have p3 : (x + -2 * (w / 10)).toInt = x.toInt + -2 * (w.toInt / 10) := by rw [i_add (by rw [m2]; omega) (by rw [m2]; omega), m2]
  unfold heatD
  by_cases h : w / 10 = 0
  · rw [if_pos h, if_pos h]
    by_cases q : x + 10 < 100
    · have q2 := i_lt.mp q
      rw [p1, e100] at q2
      rw [if_pos q, if_pos (Int32.le_of_lt q), if_pos (i_le.mpr (by rw [z_i, p1]; omega))]
      exact ⟨⟨by rw [p1]; omega, by rw [p1]; omega⟩, rfl⟩
    · rw [if_neg q]
      refine ⟨⟨by rw [e100]; omega, by rw [e100]; omega⟩, ?_⟩
      have q2 : ¬ x.toInt + 10 < 100 := fun c => q (i_lt.mpr (by rw [p1, e100]; exact c))
      by_cases q3 : x + 10 ≤ 100
      · have q4 := i_le.mp q3
        rw [p1, e100] at q4
        rw [if_pos q3, if_pos (i_le.mpr (by rw [z_i, p1]; omega)), i_eq, p1, e100]; omega
      · rw [if_neg q3]
  · rw [if_neg h, if_neg h]
    have hle : x + -2 * (w / 10) ≤ 100 := i_le.mpr (by rw [p3, e100]; omega)
    rw [if_pos hle]
    by_cases q : 0 < x - w / 10 * 2
    · have q2 := i_lt.mp q
      rw [p2, z_i] at q2
      rw [if_pos q, if_pos (i_le.mpr (by rw [z_i, p3]; omega))]
      refine ⟨⟨by rw [p2]; omega, by rw [p2]; omega⟩, ?_⟩
      rw [i_eq, p2, p3]; omega
    · rw [if_neg q]
      have q2 : ¬ 0 < x.toInt - w.toInt / 10 * 2 := fun c => q (i_lt.mpr (by rw [p2, z_i]; exact c))
      refine ⟨⟨by rw [z_i]; omega, by rw [z_i]; omega⟩, ?_⟩
      by_cases q3 : 0 ≤ x + -2 * (w / 10)
      · have q4 := i_le.mp q3
        rw [p3, z_i] at q4
        rw [if_pos q3, i_eq, p3, z_i]; omega
      · rw [if_neg q3]
theorem agU_eq {u : Vec} {k : Nat} (h : SOK u k) : agU u k = dayU u k := by
  have hc : agC u k = dayC u k := by unfold agC dayC; rw [(dayH_i h).2]
  unfold agU dayU
  rw [agW_eq, (dayH_i h).2, hc]
  congr 1
  by_cases q : u 8 < dayC u k
  · rw [if_pos q, if_neg (Int32.not_le.mpr q)]
  · rw [if_neg q, if_pos (Int32.not_lt.mp q)]
-- other smithies' days
theorem dayU_o {u : Vec} {k i j : Nat} (h : i ≠ k) (hj : j < 8) : dayU u k (14 + 8 * i + j) = u (14 + 8 * i + j) := by
  unfold dayU
  simp (disch := omega) only [upd_ne]
theorem dayU_s {u : Vec} {k : Nat} : dayU u k (14 + 8 * k) = u (14 + 8 * k) ∧ dayU u k (14 + 8 * k + 1) = u (14 + 8 * k + 1) ∧ dayU u k (14 + 8 * k + 2) = dayW u k ∧ dayU u k (14 + 8 * k + 3) = dayH u k ∧ dayU u k (14 + 8 * k + 5) = u (14 + 8 * k + 5) := by
  unfold dayU
  refine ⟨?_, ?_, ?_, ?_, ?_⟩ <;> simp (disch := omega) only [upd_ne, upd_at]
theorem SOK_o {u : Vec} {k i : Nat} (h : i ≠ k) (hs : SOK u i) : SOK (dayU u k) i := by
  have e0 := dayU_o (u := u) (j := 0) h (by decide)
  rw [Nat.add_zero] at e0
  unfold SOK
  rw [e0, dayU_o h (by decide), dayU_o h (by decide), dayU_o h (by decide), dayU_o h (by decide)]
  exact hs
theorem SOK_s {u : Vec} {k : Nat} (hs : SOK u k) : SOK (dayU u k) k := by
  obtain ⟨e0, e1, e2, e3, e5⟩ := dayU_s (u := u) (k := k)
  unfold SOK
  rw [e0, e1, e2, e3, e5]
  exact ⟨hs.1, hs.2.1, wearD_i hs.2.2.1 hs.2.1, (dayH_i hs).1, hs.2.2.2.2⟩
theorem VOK_day {N : Nat} {u : Vec} (h : VOK N u) {k : Nat} (hk : k < N) : VOK N (dayU u k) := by
  refine h.of (dayU_j u k 0 (by decide) (by decide)) ?_ ?_ ?_ ?_ ?_ ?_ (fun i hi => ?_)
  · rw [dayU_j u k 2 (by decide) (by decide)]; exact h.2.2.1
  · rw [dayU_j u k 4 (by decide) (by decide)]; exact h.2.2.2.1
  · rw [dayU_j u k 10 (by decide) (by decide)]; exact h.2.2.2.2.1
  · rw [dayU_j u k 11 (by decide) (by decide)]; exact h.2.2.2.2.2.1
  · rw [dayU_j u k 12 (by decide) (by decide)]; exact h.2.2.2.2.2.2.1
  · rw [dayU_j u k 13 (by decide) (by decide)]; exact h.2.2.2.2.2.2.2.1
  · by_cases e : i = k
    · subst e; exact SOK_s (h.2.2.2.2.2.2.2.2 i hi)
    · exact SOK_o e (h.2.2.2.2.2.2.2.2 i hi)
theorem VOK_days {N : Nat} {u : Vec} (h : VOK N u) {k : Nat} (hk : k < N) : ∀ d, VOK N (daysU u k d)
  | 0 => h
  | d + 1 => VOK_day (VOK_days h hk d) hk
theorem VOK_all {N : Nat} {u : Vec} (h : VOK N u) (d : Nat) : ∀ n, n ≤ N → VOK N (allU u d n)
  | 0, _ => h
  | n + 1, hn => VOK_days (VOK_all h d n (by omega)) (by omega) d
/-- a place that no smithy's day reads or writes -/
theorem VOK_upd13 {N : Nat} {u : Vec} (h : VOK N u) {j : Nat} (hj : j = 1 ∨ j = 3) (x : Int32) : VOK N (upd u j x) := by
  refine h.of (upd_ne _ _ (by omega)) ?_ ?_ ?_ ?_ ?_ ?_ (fun i hi => ?_)
  · rw [upd_ne _ _ (by omega)]; exact h.2.2.1
  · rw [upd_ne _ _ (by omega)]; exact h.2.2.2.1
  · rw [upd_ne _ _ (by omega)]; exact h.2.2.2.2.1
  · rw [upd_ne _ _ (by omega)]; exact h.2.2.2.2.2.1
  · rw [upd_ne _ _ (by omega)]; exact h.2.2.2.2.2.2.1
  · rw [upd_ne _ _ (by omega)]; exact h.2.2.2.2.2.2.2.1
  · unfold SOK
    simp (disch := omega) only [upd_ne]
    exact h.2.2.2.2.2.2.2.2 i hi
theorem dayU_upd {u : Vec} {k j : Nat} (hj : j = 1 ∨ j = 3) (x : Int32) : dayU (upd u j x) k = upd (dayU u k) j x := by
  have hW : dayW (upd u j x) k = dayW u k := by unfold dayW; simp (disch := omega) only [upd_ne]
  have hH : dayH (upd u j x) k = dayH u k := by unfold dayH; rw [hW]; simp (disch := omega) only [upd_ne]
  have hC : dayC (upd u j x) k = dayC u k := by unfold dayC; rw [hH]; simp (disch := omega) only [upd_ne]
  unfold dayU
  rw [hW, hH, hC, upd_ne (k := j) (j := 8) _ _ (by omega)]
  rw [upd_sw u _ _ (show j ≠ 14 + 8 * k + 2 by omega), upd_sw _ _ _ (show j ≠ 14 + 8 * k + 3 by omega), upd_sw _ _ _ (show j ≠ 14 + 8 * k + 4 by omega), upd_sw _ _ _ (show j ≠ 8 by omega)]
theorem daysU_upd {j : Nat} (hj : j = 1 ∨ j = 3) (x : Int32) (k : Nat) (u : Vec) : ∀ d, daysU (upd u j x) k d = upd (daysU u k d) j x
  | 0 => rfl
  | d + 1 => by rw [daysU, daysU_upd hj x k u d, dayU_upd hj]; rfl
theorem allU_upd {j : Nat} (hj : j = 1 ∨ j = 3) (x : Int32) (d : Nat) (u : Vec) : ∀ n, allU (upd u j x) d n = upd (allU u d n) j x
  | 0 => rfl
  | n + 1 => by rw [allU, allU_upd hj x d u n, daysU_upd hj]; rfl
-- two smithies' days change places
theorem mx_sw (x a b : Int32) : (if (if x < a then a else x) < b then b else (if x < a then a else x)) = (if (if x < b then b else x) < a then a else (if x < b then b else x)) := by
  by_cases h1 : x < a
  · by_cases h2 : x < b
    · simp only [h1, h2, if_true]
      by_cases h3 : a < b
      · rw [if_pos h3, if_neg (Int32.lt_asymm h3)]
      · rw [if_neg h3]
        by_cases h4 : b < a
        · rw [if_pos h4]
        · rw [if_neg h4]; rw [i_lt] at h3 h4; rw [i_eq]; omega
    · simp only [h1, h2, if_true, if_false]
      have h3 : ¬ a < b := by rw [i_lt] at *; omega
      rw [if_neg h3]
  · by_cases h2 : x < b
    · simp only [h1, h2, if_true, if_false]
      have h3 : ¬ b < a := by rw [i_lt] at *; omega
      rw [if_neg h3]
    · simp only [h1, h2, if_false]
theorem dayU_comm {u : Vec} {k i : Nat} (h : i ≠ k) : dayU (dayU u k) i = dayU (dayU u i) k := by
  have W : ∀ a b : Nat, a ≠ b → dayW (dayU u b) a = dayW u a := fun a b q => by unfold dayW; rw [dayU_o q (by decide), dayU_o q (by decide)]
  have H : ∀ a b : Nat, a ≠ b → dayH (dayU u b) a = dayH u a := fun a b q => by unfold dayH; rw [W a b q, dayU_o q (by decide)]
  have C : ∀ a b : Nat, a ≠ b → dayC (dayU u b) a = dayC u a := fun a b q => by unfold dayC; rw [H a b q, dayU_o q (by decide), dayU_j _ _ 10 (by decide) (by decide)]
  have E : ∀ a : Nat, dayU u a 8 = if u 8 < dayC u a then dayC u a else u 8 := fun a => by rw [dayU, upd_at]
  funext j
  by_cases h8 : j = 8
  · subst h8
    rw [show dayU (dayU u k) i 8 = if dayU u k 8 < dayC (dayU u k) i then dayC (dayU u k) i else dayU u k 8 from upd_at _ _ _, show dayU (dayU u i) k 8 = if dayU u i 8 < dayC (dayU u i) k then dayC (dayU u i) k else dayU u i 8 from upd_at _ _ _]
    rw [C i k h, C k i (fun q => h q.symm), E, E]
    exact mx_sw _ _ _
  · have X : ∀ a (w : Vec), dayU w a j = if j = 14 + 8 * a + 2 then dayW w a else if j = 14 + 8 * a + 3 then dayH w a else if j = 14 + 8 * a + 4 then dayC w a else w j := fun a w => by
      by_cases q2 : j = 14 + 8 * a + 2
      · rw [if_pos q2, q2]; unfold dayU; simp (disch := omega) only [upd_ne, upd_at]
      · rw [if_neg q2]
        by_cases q3 : j = 14 + 8 * a + 3
        · rw [if_pos q3, q3]; unfold dayU; simp (disch := omega) only [upd_ne, upd_at]
        · rw [if_neg q3]
          by_cases q4 : j = 14 + 8 * a + 4
          · rw [if_pos q4, q4]; unfold dayU; simp (disch := omega) only [upd_ne, upd_at]
          · rw [if_neg q4]; unfold dayU; simp (disch := omega) only [upd_ne]
    rw [X i, X k, X k, X i, W i k h, H i k h, C i k h, W k i (fun q => h q.symm), H k i (fun q => h q.symm), C k i (fun q => h q.symm)]
    by_cases p2 : j = 14 + 8 * i + 2
    · rw [if_pos p2, if_pos p2, if_neg (by omega), if_neg (by omega), if_neg (by omega)]
    · rw [if_neg p2, if_neg p2]
      by_cases p3 : j = 14 + 8 * i + 3
      · rw [if_pos p3, if_pos p3, if_neg (by omega), if_neg (by omega), if_neg (by omega)]
      · rw [if_neg p3, if_neg p3]
        by_cases p4 : j = 14 + 8 * i + 4
        · rw [if_pos p4, if_pos p4, if_neg (by omega), if_neg (by omega), if_neg (by omega)]
        · rw [if_neg p4, if_neg p4]
theorem dayU_daysU {k i : Nat} (h : i ≠ k) (u : Vec) : ∀ d, dayU (daysU u k d) i = daysU (dayU u i) k d
  | 0 => rfl
  | d + 1 => by rw [daysU, dayU_comm h, dayU_daysU h u d]; rfl
theorem allU_daysU (u : Vec) (k d : Nat) : ∀ n, n ≤ k → allU (daysU u k d) 1 n = daysU (allU u 1 n) k d
  | 0, _ => rfl
  | n + 1, hn => by
    rw [allU, allU_daysU u k d n (by omega)]
    show dayU (daysU (allU u 1 n) k d) n = _
    rw [dayU_daysU (by omega)]; rfl
theorem allU_s (u : Vec) (d : Nat) : ∀ n, allU u (d + 1) n = allU (allU u d n) 1 n
  | 0 => rfl
  | n + 1 => by
    have e1 : allU u (d + 1) (n + 1) = dayU (daysU (allU u (d + 1) n) n d) n := rfl
    have e2 : allU (allU u d (n + 1)) 1 (n + 1) = dayU (allU (daysU (allU u d n) n d) 1 n) n := rfl
    rw [e1, e2, allU_s u d n, allU_daysU _ _ _ _ (Nat.le_refl n)]
theorem agsU_eq {N : Nat} {u : Vec} (h : VOK N u) : ∀ n, n ≤ N → agsU u n = allU u 1 n
  | 0, _ => rfl
  | n + 1, hn => by
    rw [agsU, agsU_eq h n (by omega), agU_eq ((VOK_all h 1 n (by omega)).2.2.2.2.2.2.2.2 n (by omega))]; rfl
theorem VOK_end {N : Nat} {u : Vec} (h : VOK N u) (d : Nat) : VOK N (endU u N d) := VOK_upd13 (VOK_upd13 (VOK_all h d N (Nat.le_refl N)) (Or.inl rfl) _) (Or.inr rfl) _
theorem eds_eq {N : Nat} {u : Vec} (h : VOK N u) : ∀ d, edsU u N (d + 1) = endU u N (d + 1)
  | 0 => by
    show edU u N = _
    rw [edU, agsU_eq h N (Nat.le_refl N)]; rfl
  | d + 1 => by
    rw [edsU, eds_eq h d, edU, agsU_eq (VOK_end h (d + 1)) N (Nat.le_refl N)]
    have e1 : endU u N (d + 1) 1 = u 1 + nI (d + 1) := by rw [endU, upd_ne _ _ (by decide), upd_at]
    have e11 : endU u N (d + 1) 11 = u 11 := by rw [endU, upd_ne _ _ (by decide), upd_ne _ _ (by decide), allU_j _ _ 11 (by decide) (by decide)]
    rw [e1, e11]
    unfold endU
    rw [allU_upd (Or.inr rfl), allU_upd (Or.inl rfl), ← allU_s, upd_sw _ _ _ (show 3 ≠ 1 by decide), upd_2, upd_2, Int32.add_assoc, nI_1]

