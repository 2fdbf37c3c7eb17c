/-! ===== the law's round and the class's state: what holds of both ===== -/
def IDN (N : Nat) (u : Vec) : Prop := u 7 = sumN u 5 N + sumN u 6 N ∧ u 5 = 100 + sumN u 6 N - u 6
def RELA (M : Mem) : Prop := ∃ (N h : Nat) (hs : Nat → Vec) (tx : Vec), CA M (M.1 10) h hs 0 tx ∧ VOK N (M.1 10) ∧ IDN N (M.1 10)
theorem CA.row10 {M : Mem} {u : Vec} {h : Nat} {hs : Nat → Vec} {t : Nat} {tx : Vec} (c : CA M u h hs t tx) (w : Vec) : CA (setp M 10 w) u h hs t tx := by
  obtain ⟨hP, hh, h4, hu, hi, ht, h60, hx⟩ := c
  refine ⟨hP, ?_, h4, ?_, fun i q => ?_, ?_, h60, fun i q => ?_⟩
  · rw [setp_ne _ _ (by decide)]; exact hh
  · show Agr ((setp M 10 w).1 (M.2 0)) u
    have := hP.1 0 (by decide)
    rw [setp_ne _ _ (by omega)]; exact hu
  · show Agr ((setp M 10 w).1 (M.2 (2 + i))) (hs i)
    have := hP.1 (2 + i) (by omega)
    rw [setp_ne _ _ (by omega)]; exact hi i q
  · rw [setp_ne _ _ (by decide)]; exact ht
  · rw [setp_ne _ _ (by decide)]; exact hx i q
theorem op_rel {M1 M2 : Mem} {u : Vec} {h : Nat} {hs : Nat → Vec} {tx : Vec} {S : Int32 × Vec} {N : Nat} (hz : S.1 < 0 → S.2 = u) (hv : VOK N S.2) (hi : IDN N S.2) (h10 : M1.1 10 = S.2) (q : OpQ M1 u h hs 0 tx S M2) : RELA M2 := by
  obtain ⟨q1, q2⟩ := q
  have e : M2.1 10 = S.2 := (q1 10 (by decide)).trans h10
  by_cases hn : S.1 < 0
  · rw [if_pos hn] at q2
    exact ⟨N, h, hs, tx, by rw [e, hz hn]; exact q2, by rw [e]; exact hv, by rw [e]; exact hi⟩
  · rw [if_neg hn] at q2
    exact ⟨N, psh h, push h hs u, tx, by rw [e]; exact q2, by rw [e]; exact hv, by rw [e]; exact hi⟩
theorem op_10 {M1 M2 : Mem} {u : Vec} {h : Nat} {hs : Nat → Vec} {t : Nat} {tx : Vec} {S : Int32 × Vec} (q : OpQ M1 u h hs t tx S M2) : M2.1 10 = M1.1 10 := q.1 10 (by decide)
theorem er_walk {N : Nat} {u : Vec} (h : VOK N u) {x : Int32} (hx : bd x 99) : (walkS u x).1 < 0 → (walkS u x).2 = u := by
  unfold walkS
  split
  · exact fun _ => rfl
  · split
    · split
      · next q =>
        intro q2
        exfalso
        have hb := hB_i h.2.2.1 hx
        rw [i_le] at q
        have := hb.1; have := hb.2
        have hlt := Int32.toInt_lt (u 3)
        rw [i_lt, z_i] at q2
        simp only at q2
        rw [i_sub (by omega) (by omega)] at q2
        omega
      · exact fun _ => rfl
    · exact fun _ => rfl
theorem er_buy {N : Nat} {u : Vec} (h : VOK N u) {x : Int32} (h1 : ¬ x < 1) (h9 : x ≤ 999) : (buyS u x).1 < 0 → (buyS u x).2 = u := by
  unfold buyS
  rw [if_neg h1, if_pos h9]
  split
  · split
    · intro q2
      exfalso
      have hb := h.2.2.2.1
      rw [i_lt, show (1 : Int32).toInt = 1 from rfl] at h1
      rw [i_le, show (999 : Int32).toInt = 999 from rfl] at h9
      have := hb.1; have := hb.2
      rw [i_lt, z_i] at q2
      simp only at q2
      rw [i_add (by omega) (by omega)] at q2
      omega
    · exact fun _ => rfl
  · exact fun _ => rfl
theorem er_mend {N : Nat} {u : Vec} (h : VOK N u) {k : Nat} (hk : k < N) (b : Bool) : (mendS u k b).1 < 0 → (mendS u k b).2 = u := by
  unfold mendS
  split
  · next q =>
    intro q2
    exfalso
    rw [i_lt, z_i] at q2
    simp only at q2
    unfold mendR at q2
    cases b
    · have := (wearBM_i h hk false).1
      rw [if_neg (show ¬ false = true by decide)] at q2
      omega
    · have := (debt_i h hk q).1
      rw [if_pos (show true = true from rfl)] at q2
      omega
  · exact fun _ => rfl
theorem er_coll {N : Nat} {u : Vec} (h : VOK N u) {k : Nat} (hk : k < N) : (collS u k).1 < 0 → (collS u k).2 = u := by
  unfold collS
  split
  · split
    · intro q2
      exfalso
      rw [i_lt, z_i] at q2
      have := (pays_i h hk).1
      simp only at q2
      omega
    · exact fun _ => rfl
  · exact fun _ => rfl
theorem er_end {N : Nat} {u : Vec} (h : VOK N u) (x : Int32) : (endS u N x).1 < 0 → (endS u N x).2 = u := by
  unfold endS
  split
  · exact fun _ => rfl
  · split
    · split
      · intro q2
        obtain ⟨L, -, -, -, q3⟩ := bits_eq (u := endU u N x.toNatClampNeg) h.1
        exact absurd q2 q3
      · exact fun _ => rfl
    · exact fun _ => rfl
theorem er_add {N : Nat} {u : Vec} (h : VOK N u) (x y : Int32) : (addS u N x y).1 < 0 → (addS u N x y).2 = u := by
  unfold addS
  split
  · exact fun _ => rfl
  · split
    · exact fun _ => rfl
    · split
      · exact fun _ => rfl
      · split
        · split
          · intro q2
            exfalso
            rw [h.2.1] at q2
            have := h.1
            exact nI_pos (n := N) (by omega) q2
          · exact fun _ => rfl
        · exact fun _ => rfl
theorem bd_nn {x : Int32} {m : Int} (h : bd x m) : ¬ x < 0 := fun q => by
  rw [i_lt, z_i] at q
  have := h.1
  omega
theorem er_set {N : Nat} {u : Vec} (h : VOK N u) (w x : Int32) : (setS u w x).1 < 0 → (setS u w x).2 = u := by
  unfold setS
  split
  · split
    · exact fun q => absurd q (bd_nn h.2.2.2.2.1)
    · split
      · exact fun q => absurd q (bd_nn h.2.2.2.2.2.1)
      · split
        · exact fun q => absurd q (bd_nn h.2.2.2.2.2.2.1)
        · exact fun q => absurd q (bd_nn h.2.2.2.2.2.2.2.1)
  · exact fun _ => rfl
-- the sums
theorem sum_same {u w : Vec} {j : Nat} : ∀ n, (∀ k, k < n → w (14 + 8 * k + j) = u (14 + 8 * k + j)) → sumN w j n = sumN u j n
  | 0, _ => rfl
  | n + 1, h => by rw [sumN, sumN, sum_same n (fun k hk => h k (by omega)), h n (by omega)]
theorem sum_one {u w : Vec} {j k0 : Nat} {x : Int32} (h1 : w (14 + 8 * k0 + j) = u (14 + 8 * k0 + j) + x) : ∀ n, k0 < n → (∀ k, k < n → k ≠ k0 → w (14 + 8 * k + j) = u (14 + 8 * k + j)) → sumN w j n = sumN u j n + x
  | 0, h, _ => absurd h (Nat.not_lt_zero k0)
  | n + 1, hk, h => by
    rw [sumN, sumN]
    by_cases e : n = k0
    · subst e
      rw [sum_same n (fun k hk => h k (by omega) (by omega)), h1, Int32.add_assoc]
    · rw [sum_one h1 n (by omega) (fun k hk hn => h k (by omega) hn), h n (by omega) e, Int32.add_assoc, Int32.add_assoc, Int32.add_comm x]
theorem IDN.of {N : Nat} {u w : Vec} (h : IDN N u) (h5 : w 5 = u 5) (h6 : w 6 = u 6) (h7 : w 7 = u 7) (hd : ∀ k, k < N → w (14 + 8 * k + 5) = u (14 + 8 * k + 5)) (hp : ∀ k, k < N → w (14 + 8 * k + 6) = u (14 + 8 * k + 6)) : IDN N w := by
  unfold IDN
  rw [h5, h6, h7, sum_same N hd, sum_same N hp]
  exact h
theorem IDN_walk {N : Nat} {u : Vec} (h : IDN N u) (x : Int32) : IDN N (walkS u x).2 := by
  have h2 : IDN N (walkU u x) := by
    refine h.of ?_ ?_ ?_ (fun k hk => ?_) (fun k hk => ?_) <;> simp (disch := omega) only [walkU, upd_ne]
  unfold walkS
  split
  · exact h
  · split
    · split
      · exact h2
      · exact h
    · exact h
theorem IDN_buy {N : Nat} {u : Vec} (h : IDN N u) (x : Int32) : IDN N (buyS u x).2 := by
  have h2 : IDN N (buyU u x) := by
    unfold IDN buyU
    rw [sum_same (u := u) (w := upd (upd (upd u 4 (u 4 + x)) 5 (u 5 - 2 * x)) 6 (u 6 + 2 * x)) (j := 5) N (fun k hk => by simp (disch := omega) only [upd_ne]), sum_same (u := u) (w := upd (upd (upd u 4 (u 4 + x)) 5 (u 5 - 2 * x)) 6 (u 6 + 2 * x)) (j := 6) N (fun k hk => by simp (disch := omega) only [upd_ne])]
    simp (disch := omega) only [upd_ne, upd_at]
    refine ⟨h.1, ?_⟩
    rw [h.2]
    generalize sumN u 6 N = P
    generalize u 6 = a
    generalize 2 * x = b
    rw [Int32.sub_eq_add_neg, Int32.sub_eq_add_neg, Int32.sub_eq_add_neg, Int32.neg_add, Int32.sub_eq_add_neg, Int32.add_assoc]
  unfold buyS
  split
  · exact h
  · split
    · split
      · split
        · exact h2
        · exact h
      · exact h
    · exact h
theorem IDN_mend {N : Nat} {u : Vec} (h : IDN N u) {k : Nat} (hk : k < N) (b : Bool) : IDN N (mendS u k b).2 := by
  have h2 : IDN N (mendU u k b) := by
    unfold IDN
    rw [sum_one (u := u) (w := mendU u k b) (j := 5) (k0 := k) (x := owes u k b) (by unfold mendU; simp (disch := omega) only [upd_ne, upd_at]) N hk (fun i hi hn => by unfold mendU; simp (disch := omega) only [upd_ne]),
      sum_same (u := u) (w := mendU u k b) (j := 6) N (fun i hi => by unfold mendU; simp (disch := omega) only [upd_ne])]
    unfold mendU
    simp (disch := omega) only [upd_ne, upd_at]
    refine ⟨?_, h.2⟩
    rw [h.1, Int32.add_assoc, Int32.add_assoc, Int32.add_comm (owes u k b)]
  unfold mendS
  split
  · exact h2
  · exact h
theorem IDN_coll {N : Nat} {u : Vec} (h : IDN N u) {k : Nat} (hk : k < N) : IDN N (collS u k).2 := by
  have h2 : IDN N (collU u k) := by
    unfold IDN
    rw [sum_one (u := u) (w := collU u k) (j := 5) (k0 := k) (x := - pays u k) (by unfold collU; simp (disch := omega) only [upd_ne, upd_at]; rw [Int32.sub_eq_add_neg]) N hk (fun i hi hn => by unfold collU; simp (disch := omega) only [upd_ne]),
      sum_one (u := u) (w := collU u k) (j := 6) (k0 := k) (x := pays u k) (by unfold collU; simp (disch := omega) only [upd_ne, upd_at]) N hk (fun i hi hn => by unfold collU; simp (disch := omega) only [upd_ne])]
    unfold collU
    simp (disch := omega) only [upd_ne, upd_at]
    rw [h.1, h.2]
    generalize sumN u 5 N = P
    generalize sumN u 6 N = R
    generalize u 6 = a
    generalize pays u k = b
    refine ⟨?_, ?_⟩
    · rw [Int32.add_assoc, ← Int32.add_assoc (-b), Int32.add_comm (-b), Int32.add_assoc R, Int32.add_left_neg, Int32.add_zero]
    · rw [Int32.sub_eq_add_neg, Int32.sub_eq_add_neg, Int32.add_assoc, Int32.add_comm (-a), ← Int32.add_assoc, Int32.add_assoc 100]
  unfold collS
  split
  · split
    · exact h2
    · exact h
  · exact h
theorem dayU_q {u : Vec} {k q : Nat} (h8 : q ≠ 8) (h2 : q ≠ 14 + 8 * k + 2) (h3 : q ≠ 14 + 8 * k + 3) (h4 : q ≠ 14 + 8 * k + 4) : dayU u k q = u q := by
  unfold dayU
  rw [upd_ne _ _ h8, upd_ne _ _ h4, upd_ne _ _ h3, upd_ne _ _ h2]
theorem daysU_q {u : Vec} {k i j : Nat} (hj : j = 5 ∨ j = 6) : ∀ d, daysU u k d (14 + 8 * i + j) = u (14 + 8 * i + j)
  | 0 => rfl
  | d + 1 => by rw [daysU, dayU_q (by omega) (by omega) (by omega) (by omega), daysU_q hj d]
theorem allU_q {u : Vec} {d i j : Nat} (hj : j = 5 ∨ j = 6) : ∀ n, allU u d n (14 + 8 * i + j) = u (14 + 8 * i + j)
  | 0 => rfl
  | n + 1 => by rw [allU, daysU_q hj, allU_q hj n]
theorem IDN_end {N : Nat} {u : Vec} (h : IDN N u) (x : Int32) : IDN N (endS u N x).2 := by
  have h2 : ∀ d, IDN N (endU u N d) := fun d => by
    refine h.of ?_ ?_ ?_ (fun k hk => ?_) (fun k hk => ?_)
    · unfold endU; rw [upd_ne _ _ (by decide), upd_ne _ _ (by decide), allU_j _ _ _ (by decide) (by decide)]
    · unfold endU; rw [upd_ne _ _ (by decide), upd_ne _ _ (by decide), allU_j _ _ _ (by decide) (by decide)]
    · unfold endU; rw [upd_ne _ _ (by decide), upd_ne _ _ (by decide), allU_j _ _ _ (by decide) (by decide)]
    · unfold endU; rw [upd_ne _ _ (by omega), upd_ne _ _ (by omega), allU_q (Or.inl rfl)]
    · unfold endU; rw [upd_ne _ _ (by omega), upd_ne _ _ (by omega), allU_q (Or.inr rfl)]
  unfold endS
  split
  · exact h
  · split
    · split
      · exact h2 _
      · exact h
    · exact h
theorem IDN_set {N : Nat} {u : Vec} (h : IDN N u) (w x : Int32) : IDN N (setS u w x).2 := by
  have h2 : ∀ j, 10 ≤ j → j < 14 → IDN N (upd u j x) := fun j h1 h9 => by
    refine h.of ?_ ?_ ?_ (fun k hk => ?_) (fun k hk => ?_) <;> rw [upd_ne _ _ (by omega)]
  unfold setS
  split
  · split
    · exact h2 10 (by decide) (by decide)
    · split
      · exact h2 11 (by decide) (by decide)
      · split
        · exact h2 12 (by decide) (by decide)
        · exact h2 13 (by decide) (by decide)
  · exact h
theorem IDN_addU {N : Nat} {u : Vec} (h : IDN N u) (x y : Int32) : IDN (N + 1) (addU u N x y) := by
  have e5 : sumN (addU u N x y) 5 (N + 1) = sumN u 5 N := by
    rw [sumN, sum_same (u := u) (w := addU u N x y) N (fun k hk => by unfold addU; simp (disch := omega) only [upd_ne])]
    have e : addU u N x y (14 + 8 * N + 5) = 0 := by unfold addU; simp (disch := omega) only [upd_ne, upd_at]
    rw [e, Int32.add_zero]
  have e6 : sumN (addU u N x y) 6 (N + 1) = sumN u 6 N := by
    rw [sumN, sum_same (u := u) (w := addU u N x y) N (fun k hk => by unfold addU; simp (disch := omega) only [upd_ne])]
    have e : addU u N x y (14 + 8 * N + 6) = 0 := by unfold addU; simp (disch := omega) only [upd_ne, upd_at]
    rw [e, Int32.add_zero]
  unfold IDN
  rw [e5, e6]
  unfold addU
  simp (disch := omega) only [upd_ne]
  exact h
theorem IDN_fresh : IDN 0 st0 := ⟨by decide, by decide⟩
theorem VOK_addU {N : Nat} {u : Vec} (h : VOK N u) (hN : N < 8) {a b : Nat} (ha : a ≤ 99) (h1 : 1 ≤ b) (hb : b ≤ 9) : addS u N (nI a) (nI b) = (u 0, addU u N (nI a) (nI b)) ∧ VOK (N + 1) (addU u N (nI a) (nI b)) := by
  have e : addS u N (nI a) (nI b) = (u 0, addU u N (nI a) (nI b)) := by
    unfold addS
    rw [if_neg (nI_pos (n := a) (by omega)), if_neg (nx_g99 (d := a) ha), if_neg (nx_1 (d := b) h1 (by omega)), if_pos (nx_9 (d := b) hb), if_pos (by rw [h.2.1]; exact nI_lt (a := N) (b := 8) hN (by decide))]
  refine ⟨e, ?_⟩
  obtain ⟨N', h'⟩ := VOK_add h (nI a) (nI b)
  rw [e] at h'
  have h0 : addU u N (nI a) (nI b) 0 = nI (N + 1) := by
    unfold addU
    simp (disch := omega) only [upd_ne, upd_at]
    rw [h.2.1, nI_1]
  have : N' = N + 1 := nI_un h'.1 (by omega) (h'.2.1.symm.trans h0)
  subst this
  exact h'
-- the class's answers, the memory as it was
section ANS
variable {cA : Nat → ClassId} {ad : Nat → Nat} {D : va_G} {M : Mem} {u : Vec} {h : Nat} {hs : Nat → Vec} {t : Nat} {tx : Vec}
theorem n_X3_smithyOf (c : CA M u h hs t tx) {N : Nat} (hv : VOK N u) {j w : Int32} : C_X3_smithyOf cA ad D [.ref (ad 0), .int j, .int w] M (Ri (jS u j (fun k => smoS u k w)) M) := by
  obtain ⟨ha, hN⟩ := c.an hv
  by_cases hj : isSm u j
  · obtain ⟨k, hk, e1, e2⟩ := isSm_k hv.2.1 hv.1 hj
    rw [jS, if_pos (show ¬ j < 0 ∧ j < u 0 from hj), e2, e1, ← smoS_c ha hk w]
    exact m_X3_smithyOf_s c.1.1 hN hv.1 hk
  · rw [jS, if_neg (show ¬ (¬ j < 0 ∧ j < u 0) from hj)]
    exact m_X3_smithyOf_n c.1.1 (fun q => hj ((isSm_v c hv).mp q))
theorem n_X3_why (c : CA M u h hs t tx) {N : Nat} (hv : VOK N u) {j w : Int32} : C_X3_why cA ad D [.ref (ad 0), .int j, .int w] M (Ri (jS u j (fun k => whyS u k w)) M) := by
  obtain ⟨ha, hN⟩ := c.an hv
  by_cases hj : isSm u j
  · obtain ⟨k, hk, e1, e2⟩ := isSm_k hv.2.1 hv.1 hj
    rw [jS, if_pos (show ¬ j < 0 ∧ j < u 0 from hj), e2, e1, ← whyS_c ha hk w]
    exact m_X3_why_s c.1.1 hN hv.1 hk
  · rw [jS, if_neg (show ¬ (¬ j < 0 ∧ j < u 0) from hj)]
    exact m_X3_why_n c.1.1 (fun q => hj ((isSm_v c hv).mp q))
theorem n_X3_mend (c : CA M u h hs t tx) {N : Nat} (hv : VOK N u) {j w x : Int32} : C_X3_mend cA ad D [.ref (ad 0), .int j, .int w, .int x] M (Ri (jS u j (fun k => mndS u k w x)) M) := by
  obtain ⟨ha, hN⟩ := c.an hv
  by_cases hj : isSm u j
  · obtain ⟨k, hk, e1, e2⟩ := isSm_k hv.2.1 hv.1 hj
    rw [jS, if_pos (show ¬ j < 0 ∧ j < u 0 from hj), e2, e1, ← mndS_c ha hk w x]
    exact m_X3_mend_s c.1.1 hN hv.1 hk
  · rw [jS, if_neg (show ¬ (¬ j < 0 ∧ j < u 0) from hj)]
    exact m_X3_mend_n c.1.1 (fun q => hj ((isSm_v c hv).mp q))
theorem n_X3_count (c : CA M u h hs t tx) {N : Nat} (hv : VOK N u) {w : Int32} : C_X3_count cA ad D [.ref (ad 0), .int w] M (Ri (cntS u N (nI h) (nI t) w) M) := by
  obtain ⟨ha, hN⟩ := c.an hv
  have k := m_X3_count (cA := cA) (ad := ad) (D := D) c.1.1 hN hv.1 (w := w)
  rw [c.2.1, c.2.2.2.2.2.1] at k
  rw [← cntS_c ha]
  exact k
end ANS
theorem jS_k {u : Vec} {N k : Nat} (hv : VOK N u) (hk : k < N) (F : Nat → Int32) : jS u (nI k) F = F k := by
  have := hv.1
  unfold jS
  rw [if_pos ⟨nI_pos (by omega), by rw [hv.2.1]; exact nI_lt hk (by omega)⟩, nI_clamp (by omega)]
theorem jS_n {u : Vec} {N : Nat} (hv : VOK N u) (F : Nat → Int32) : jS u (u 0) F = IA := by
  unfold jS
  rw [if_neg (fun q => absurd q.2 (Int32.lt_irrefl))]
theorem jS_m {u : Vec} (F : Nat → Int32) : jS u (-1) F = IA := by
  unfold jS
  rw [if_neg (fun q => absurd (show (-1 : Int32) < 0 by decide) q.1)]
-- the law's own methods over any memory, in the class's words
section OWN
variable {cA : Nat → ClassId} {ad : Nat → Nat} {D : va_G} {M : Mem} {N : Nat}
theorem n_L_takes (hv : VOK N (M.1 10)) {k : Nat} (hk : k < N) (b : Bool) : C_L_takes cA ad D [.ref (ad 5), .int (nI (8 * k)), .int (bI b)] M (Ri (leatherOf (M.1 10) k b) M) := by
  have := hv.1
  have h := m_L_takes (cA := cA) (ad := ad) (D := D) (M := M) (v := M.1 10) (k := k) (by omega) b
  rw [setp_self, tkL_eq (hv.2.2.2.2.2.2.2.2 k hk)] at h
  exact h
theorem n_L_owes (hv : VOK N (M.1 10)) {k : Nat} (hk : k < N) (b : Bool) : C_L_owes cA ad D [.ref (ad 4), .ref (ad 5), .int (nI (8 * k)), .int (bI b)] M (Ri (owes (M.1 10) k b) M) := by
  have := hv.1
  have h := m_L_owes (cA := cA) (ad := ad) (D := D) (M := M) (v := M.1 10) (k := k) (by omega) b
  rw [setp_self, owL_eq (hv.2.2.2.2.2.2.2.2 k hk)] at h
  exact h
theorem n_L_why (hv : VOK N (M.1 10)) {k : Nat} (hk : k < N) (b : Bool) : C_L_why cA ad D [.ref (ad 4), .ref (ad 5), .int (nI (8 * k)), .int (bI b)] M (Ri (whyNot (M.1 10) k b) M) := by
  have := hv.1
  have h := m_L_why (cA := cA) (ad := ad) (D := D) (M := M) (v := M.1 10) (k := k) (by omega) b
  rw [setp_self, whL_eq (hv.2.2.2.2.2.2.2.2 k hk)] at h
  exact h
theorem n_L_walks (hv : VOK N (M.1 10)) {x : Int32} (hx : bd x 99) : C_L_walks cA ad D [.ref (ad 4), .int x] M (Ri (walkS (M.1 10) x).1 (setp M 10 (walkS (M.1 10) x).2)) := by
  have h := m_L_walks (cA := cA) (ad := ad) (D := D) (M := M) (v := M.1 10) (x := x)
  rw [setp_self, wlkL_eq hv.2.2.1 hx] at h
  exact h
theorem n_L_buys (hv : VOK N (M.1 10)) {x : Int32} (h1 : ¬ x < 1) (h9 : x ≤ 999) : C_L_buys cA ad D [.ref (ad 4), .int x] M (Ri (buyS (M.1 10) x).1 (setp M 10 (buyS (M.1 10) x).2)) := by
  have h := m_L_buys (cA := cA) (ad := ad) (D := D) (M := M) (v := M.1 10) (x := x)
  rw [setp_self, byL_eq hv.2.2.1 h1 h9] at h
  exact h
theorem n_L_mends (hv : VOK N (M.1 10)) {k : Nat} (hk : k < N) (b : Bool) : C_L_mends cA ad D [.ref (ad 4), .ref (ad 5), .int (nI (8 * k)), .int (bI b)] M (Ri (mendS (M.1 10) k b).1 (setp M 10 (mendS (M.1 10) k b).2)) := by
  have := hv.1
  have h := m_L_mends (cA := cA) (ad := ad) (D := D) (M := M) (v := M.1 10) (k := k) (by omega) b
  rw [setp_self, mdL_eq (hv.2.2.2.2.2.2.2.2 k hk)] at h
  exact h
theorem n_L_collects (hv : VOK N (M.1 10)) {k : Nat} (hk : k < N) : C_L_collects cA ad D [.ref (ad 4), .ref (ad 5), .int (nI (8 * k))] M (Ri (collS (M.1 10) k).1 (setp M 10 (collS (M.1 10) k).2)) := by
  have := hv.1
  have h := m_L_collects (cA := cA) (ad := ad) (D := D) (M := M) (v := M.1 10) (k := k) (by omega)
  rw [setp_self, clL_eq (hv.2.2.2.2.2.2.2.2 k hk)] at h
  exact h
theorem n_L_colds (hv : VOK N (M.1 10)) : C_L_colds cA ad D [.ref (ad 4), .ref (ad 5)] M (Ri (csN (M.1 10) N) M) := by
  have h := m_L_colds (cA := cA) (ad := ad) (D := D) (M := M) (v := M.1 10) hv.2.1 hv.1
  rw [setp_self] at h
  exact h
theorem n_L_ends (hv : VOK N (M.1 10)) {d : Nat} (h1 : 1 ≤ d) (hd : d ≤ 99) (h99 : M.1 10 1 + nI d ≤ 9999) : C_L_ends cA ad D [.ref (ad 4), .ref (ad 5), .int (nI d)] M (Ri (endS (M.1 10) N (nI d)).1 (setp M 10 (endS (M.1 10) N (nI d)).2)) := by
  have h := m_L_ends (cA := cA) (ad := ad) (D := D) (M := M) (v := M.1 10) hv h1 hd h99
  rw [setp_self] at h
  exact h
end OWN
theorem wlt {w a b : Int32} (h : w ≤ a) (h2 : b ≤ w) (hab : a.toInt < b.toInt) : False := by
  rw [i_le] at h h2
  omega
section QZ
variable {cA : Nat → ClassId} {ad : Nat → Nat} {D : va_G} {own : String} {ws : List Cond} {cc : ByteArray} {nL : Nat} {ret : Option FieldType} {d pc n : Nat} {lv : List (Option Value)} {st rest : List Value} {M : Mem} {Q : QT} {v : Vec}
theorem e_qz {x y : Int32} {P : Mem → Prop} (h : decode cc pc = .ok (.ireturn, 1)) (hr : ret = some .boolean) (hv : x = 0 ∨ x = 1) (h1 : x = y) (h2 : P M) : PW cA ad D own ws cc nL ret d pc lv [.int x] M (QR y P) := r_zret h hr hv ⟨by rw [h1], h2⟩
theorem s_put_fq {j x : Int32} {k q : Nat} (hj : j = nI k) (hk : k < 64) (hq : 14 + k = q) (h : decode cc pc = .ok (.iastore, 1)) (hn : pc + 1 = n) (kk : PW cA ad D own ws cc nL ret d n lv st (setp M 10 (upd v q x)) Q) : PW cA ad D own ws cc nL ret d pc lv (.int x :: .int j :: .ref (ad 5) :: st) (setp M 10 v) Q := a_put_fq hj hk hq h hn (by rw [mput_s, setp_at, setp_2]; exact kk)
end QZ
