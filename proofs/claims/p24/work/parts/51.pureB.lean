/-! ===== ints in bounds ===== -/
theorem i_add {a b : Int32} (h1 : -2147483648 ≤ a.toInt + b.toInt) (h2 : a.toInt + b.toInt < 2147483648) : (a + b).toInt = a.toInt + b.toInt := by
  rw [Int32.toInt_add]
  exact Int.bmod_eq_of_le (by omega) (by omega)
theorem i_sub {a b : Int32} (h1 : -2147483648 ≤ a.toInt - b.toInt) (h2 : a.toInt - b.toInt < 2147483648) : (a - b).toInt = a.toInt - b.toInt := by
  rw [Int32.toInt_sub]
  exact Int.bmod_eq_of_le (by omega) (by omega)
theorem i_mul {a b : Int32} (h1 : -2147483648 ≤ a.toInt * b.toInt) (h2 : a.toInt * b.toInt < 2147483648) : (a * b).toInt = a.toInt * b.toInt := by
  rw [Int32.toInt_mul]
  exact Int.bmod_eq_of_le (by omega) (by omega)
theorem i_div {a b : Int32} (h0 : 0 ≤ a.toInt) (hb : 0 < b.toInt) : (a / b).toInt = a.toInt / b.toInt := by
  rw [Int32.toInt_div, Int.tdiv_eq_ediv_of_nonneg h0]
  have h1 : 0 ≤ a.toInt / b.toInt := Int.ediv_nonneg h0 (by omega)
  have h2 : a.toInt / b.toInt ≤ a.toInt := Int.ediv_le_self _ h0
  have h3 : a.toInt < 2147483648 := Int32.toInt_lt a
  exact Int.bmod_eq_of_le (by omega) (by omega)
theorem i_lt {a b : Int32} : a < b ↔ a.toInt < b.toInt := Int32.lt_iff_toInt_lt
theorem i_le {a b : Int32} : a ≤ b ↔ a.toInt ≤ b.toInt := Int32.le_iff_toInt_le
theorem i_eq {a b : Int32} : a = b ↔ a.toInt = b.toInt := Int32.toInt_inj.symm
def bd (x : Int32) (m : Int) : Prop := 0 ≤ x.toInt ∧ x.toInt ≤ m
theorem bd_mono {x : Int32} {m n : Int} (h : bd x m) (hm : m ≤ n) : bd x n := ⟨h.1, Int.le_trans h.2 hm⟩
theorem bd_0 : bd 0 0 := ⟨by decide, by decide⟩
theorem rng_bd {v a b : Int32} (h : rng v a b = true) : a.toInt ≤ v.toInt ∧ v.toInt ≤ b.toInt := by
  unfold rng at h
  split at h
  · cases h
  · next h1 =>
    split at h
    · cases h
    · next h2 => rw [i_lt] at h1 h2; omega
theorem abs_i {x : Int32} (h : -1000 ≤ x.toInt) (h2 : x.toInt ≤ 1000) : (absI x).toInt = if 0 ≤ x.toInt then x.toInt else - x.toInt := by
  unfold absI
  have z : (0 : Int32).toInt = 0 := rfl
  by_cases q : 0 ≤ x.toInt
  · rw [if_pos (i_le.mpr (by rw [z]; exact q)), if_pos q]
  · rw [if_neg (fun c => q (by have := i_le.mp c; rw [z] at this; exact this)), if_neg q, i_sub (by rw [z]; omega) (by rw [z]; omega), z]; omega
theorem tens_i {x : Int32} (h : 0 ≤ x.toInt) (h2 : x.toInt ≤ 1000) : (tens x).toInt = (x.toInt + 9) / 10 := by
  unfold tens
  have n9 : (9 : Int32).toInt = 9 := rfl
  have n10 : (10 : Int32).toInt = 10 := rfl
  have e : (x + 9).toInt = x.toInt + 9 := by rw [i_add (by omega) (by omega), n9]
  rw [i_div (by rw [e]; omega) (by rw [n10]; omega), e, n10]
theorem hB_i {a b : Int32} (ha : bd a 99) (hb : bd b 99) : bd (hB a b) 10 := by
  have e : (a - b).toInt = a.toInt - b.toInt := i_sub (by have := ha.1; have := hb.2; omega) (by have := ha.2; have := hb.1; omega)
  have h1 := ha.1; have h2 := ha.2; have h3 := hb.1; have h4 := hb.2
  have ea := abs_i (x := a - b) (by omega) (by omega)
  have hA : 0 ≤ (absI (a - b)).toInt ∧ (absI (a - b)).toInt ≤ 99 := by
    rw [ea]; split <;> omega
  unfold hB bd
  rw [tens_i hA.1 (by omega)]
  omega
theorem abs_sw {a b : Int32} (ha : bd a 99) (hb : bd b 99) : absI (a - b) = absI (b - a) := by
  have h1 := ha.1; have h2 := ha.2; have h3 := hb.1; have h4 := hb.2
  have e : (a - b).toInt = a.toInt - b.toInt := i_sub (by omega) (by omega)
  have e2 : (b - a).toInt = b.toInt - a.toInt := i_sub (by omega) (by omega)
  rw [i_eq, abs_i (by omega) (by omega), abs_i (by omega) (by omega), e, e2]
  split <;> split <;> omega
/-! ===== states in bounds ===== -/
def SOK (u : Vec) (k : Nat) : Prop := bd (u (14 + 8 * k)) 99 ∧ bd (u (14 + 8 * k + 1)) 9 ∧ bd (u (14 + 8 * k + 2)) 100 ∧ bd (u (14 + 8 * k + 3)) 100 ∧ bd (u (14 + 8 * k + 5)) 668
def VOK (N : Nat) (u : Vec) : Prop := N ≤ 8 ∧ u 0 = nI N ∧ bd (u 2) 99 ∧ bd (u 4) 999 ∧ bd (u 10) 99 ∧ bd (u 11) 24 ∧ bd (u 12) 20 ∧ bd (u 13) 500 ∧ ∀ k, k < N → SOK u k
theorem VOK.of {N : Nat} {u w : Vec} (h : VOK N u) (h0 : w 0 = u 0) (h2 : bd (w 2) 99) (h4 : bd (w 4) 999) (h10 : bd (w 10) 99) (h11 : bd (w 11) 24) (h12 : bd (w 12) 20) (h13 : bd (w 13) 500) (hs : ∀ k, k < N → SOK w k) : VOK N w :=
  ⟨h.1, h0.trans h.2.1, h2, h4, h10, h11, h12, h13, hs⟩
/-- the reference's way of an answer: no new state on an error -/
def oS (S : Int32 × Vec) : Int32 × Option Vec := if S.1 < 0 then (S.1, none) else (S.1, some S.2)
theorem oS_e {e : Int32} (h : e < 0) (u : Vec) : oS (e, u) = (e, none) := by rw [oS, if_pos h]
theorem oS_s {e : Int32} (h : 0 ≤ e.toInt) (u : Vec) : oS (e, u) = (e, some u) := by
  rw [oS, if_neg (fun q => by
    have := i_lt.mp (show e < 0 from q)
    rw [show (0 : Int32).toInt = 0 from rfl] at this
    omega)]
theorem rng_t {v a b : Int32} (h1 : ¬ v < a) (h2 : v ≤ b) : rng v a b = true := by
  unfold rng
  rw [if_neg h1, if_neg (Int32.not_lt.mpr h2)]
theorem rng_lo {v a b : Int32} (h1 : v < a) : rng v a b = false := by
  unfold rng
  rw [if_pos h1]
theorem rng_hi {v a b : Int32} (h2 : ¬ v ≤ b) : rng v a b = false := by
  unfold rng
  split
  · rfl
  · rw [if_pos (Int32.not_le.mp h2)]
theorem walk_eq {N : Nat} {u : Vec} (h : VOK N u) (v : Int32) : walkM u v = oS (walkS u v) := by
  unfold walkM walkS
  by_cases h1 : v < 0
  · rw [rng_lo h1, if_neg (by decide), if_pos h1, oS_e (by decide)]
  · by_cases h2 : v ≤ 99
    · rw [rng_t h1 h2, if_pos rfl, if_neg h1, if_pos h2]
      have hv : bd v 99 := by
        have a1 : ¬ v.toInt < 0 := fun q => h1 (i_lt.mpr q)
        have a2 : v.toInt ≤ 99 := i_le.mp h2
        exact ⟨by omega, a2⟩
      have hb := hB_i h.2.2.1 hv
      by_cases h3 : hB (u 2) v ≤ u 3
      · rw [if_pos h3, if_pos h3, oS_s]
        · rw [walkU, abs_sw h.2.2.1 hv]
        · have a3 := i_le.mp h3
          have a4 := Int32.toInt_lt (u 3)
          have a5 := hb.1
          rw [i_sub (by omega) (by omega)]
          omega
      · rw [if_neg h3, if_neg h3, oS_e (by decide)]
    · rw [rng_hi h2, if_neg (by decide), if_neg h1, if_neg h2, oS_e (by decide)]
theorem buy_eq {N : Nat} {u : Vec} (h : VOK N u) (v : Int32) : buyM u v = oS (buyS u v) := by
  unfold buyM buyS
  by_cases h1 : v < 1
  · rw [rng_lo h1, if_neg (by decide), if_pos h1, oS_e (by decide)]
  · by_cases h2 : v ≤ 999
    · rw [rng_t h1 h2, if_pos rfl, if_neg h1, if_pos h2]
      by_cases h3 : u 2 = 0
      · rw [if_pos h3, if_pos h3]
        by_cases h4 : u 4 + v ≤ 999
        · rw [if_pos h4, if_pos h4, oS_s]
          · rfl
          · have a1 : ¬ v.toInt < 1 := fun q => h1 (i_lt.mpr q)
            have a2 : v.toInt ≤ 999 := i_le.mp h2
            have a3 := h.2.2.2.1.1
            have a4 := h.2.2.2.1.2
            rw [i_add (by omega) (by omega)]
            omega
        · rw [if_neg h4, if_neg h4, oS_e (by decide)]
      · rw [if_neg h3, if_neg h3, oS_e (by decide)]
    · rw [rng_hi h2, if_neg (by decide), if_neg h1, if_neg h2, oS_e (by decide)]
theorem leather_i {N : Nat} {u : Vec} (h : VOK N u) {k : Nat} (hk : k < N) (b : Bool) : bd (leatherOf u k b) 36 := by
  obtain ⟨s1, s2, s3, s4, s5⟩ := h.2.2.2.2.2.2.2.2 k hk
  unfold leatherOf
  cases b
  · rw [if_neg (by decide)]
    have := s3.1; have := s3.2
    unfold bd
    rw [tens_i (by omega) (by omega)]
    omega
  · rw [if_pos rfl]
    have := s2.1; have := s2.2
    have e4 : (4 : Int32).toInt = 4 := rfl
    unfold bd
    rw [i_mul (by rw [e4]; omega) (by rw [e4]; omega), e4]
    omega
theorem hM_i (b : Bool) : bd (hM b) 3 := by cases b <;> exact ⟨by decide, by decide⟩
theorem owes_i {N : Nat} {u : Vec} (h : VOK N u) {k : Nat} (hk : k < N) (b : Bool) : bd (owes u k b) 168 := by
  have hl := leather_i h hk b
  have hr := h.2.2.2.2.2.2.1
  have e3 : (3 : Int32).toInt = 3 := rfl
  have l1 := hl.1; have l2 := hl.2; have r1 := hr.1; have r2 := hr.2
  have m1 : (3 * leatherOf u k b).toInt = 3 * (leatherOf u k b).toInt := by rw [i_mul (by rw [e3]; omega) (by rw [e3]; omega), e3]
  have m2 : bd (u 12 * hM b) 60 := by
    have e1 : (1 : Int32).toInt = 1 := rfl
    cases b
    · show bd (u 12 * 1) 60
      unfold bd
      rw [i_mul (by rw [e1]; omega) (by rw [e1]; omega), e1]
      omega
    · show bd (u 12 * 3) 60
      unfold bd
      rw [i_mul (by rw [e3]; omega) (by rw [e3]; omega), e3]
      omega
  have n1 := m2.1; have n2 := m2.2
  unfold owes bd
  rw [i_add (by rw [m1]; omega) (by rw [m1]; omega), m1]
  omega
theorem wearBM_i {N : Nat} {u : Vec} (h : VOK N u) {k : Nat} (hk : k < N) (b : Bool) : bd (wearBM u k b) 100 := by
  obtain ⟨s1, s2, s3, s4, s5⟩ := h.2.2.2.2.2.2.2.2 k hk
  unfold wearBM
  cases b
  · rw [if_neg (by decide)]
    have := s3.1; have := s3.2
    have e3 : (3 : Int32).toInt = 3 := rfl
    unfold bd
    rw [i_div (by omega) (by rw [e3]; omega), e3]
    omega
  · rw [if_pos rfl]; exact bd_mono bd_0 (by omega)
/-- a mend that may be done: its debt stays in bounds -/
theorem whyNot_0 {u : Vec} {k : Nat} {b : Bool} (h : whyNot u k b = 0) : u (14 + 8 * k) = u 2 ∧ hM b ≤ u 3 ∧ leatherOf u k b ≤ u 4 ∧ u (14 + 8 * k + 5) ≤ u 13 ∧ ¬ u (14 + 8 * k + 2) = 0 := by
  unfold whyNot rsn at h
  split at h
  · next h1 =>
    split at h
    · next h2 =>
      split at h
      · next h3 =>
        split at h
        · next h4 =>
          split at h
          · exact absurd h (by decide)
          · next h5 => exact ⟨h1, h2, h3, h4, h5⟩
        · exact absurd h (by decide)
      · exact absurd h (by decide)
    · exact absurd h (by decide)
  · exact absurd h (by decide)
theorem debt_i {N : Nat} {u : Vec} (h : VOK N u) {k : Nat} (hk : k < N) {b : Bool} (hw : whyNot u k b = 0) : bd (u (14 + 8 * k + 5) + owes u k b) 668 := by
  obtain ⟨s1, s2, s3, s4, s5⟩ := h.2.2.2.2.2.2.2.2 k hk
  have ho := owes_i h hk b
  have hp := h.2.2.2.2.2.2.2.1
  have hd := i_le.mp (whyNot_0 hw).2.2.2.1
  have := ho.1; have := ho.2; have := hp.2; have := s5.1
  unfold bd
  rw [i_add (by omega) (by omega)]
  omega
theorem mend_eq {N : Nat} {u : Vec} (h : VOK N u) {k : Nat} (hk : k < N) (b : Bool) : mendM u k b = oS (mendS u k b) := by
  unfold mendM mendS
  by_cases hw : whyNot u k b = 0
  · rw [if_pos hw, if_pos hw, oS_s]
    unfold mendR
    cases b
    · rw [if_neg (by decide)]; exact (wearBM_i h hk false).1
    · rw [if_pos rfl]; exact (debt_i h hk hw).1
  · rw [if_neg hw, if_neg hw, oS_e (by decide)]
theorem pays_i {N : Nat} {u : Vec} (h : VOK N u) {k : Nat} (hk : k < N) : 0 ≤ (pays u k).toInt ∧ (pays u k).toInt ≤ (u (14 + 8 * k + 5)).toInt := by
  obtain ⟨s1, s2, s3, s4, s5⟩ := h.2.2.2.2.2.2.2.2 k hk
  have := s5.1; have := s5.2
  unfold pays
  split
  · have e2 : (2 : Int32).toInt = 2 := rfl
    rw [i_div (by omega) (by rw [e2]; omega), e2]
    omega
  · omega
theorem coll_eq {N : Nat} {u : Vec} (h : VOK N u) {k : Nat} (hk : k < N) : collM u k = oS (collS u k) := by
  obtain ⟨s1, s2, s3, s4, s5⟩ := h.2.2.2.2.2.2.2.2 k hk
  have z : (0 : Int32).toInt = 0 := rfl
  unfold collM collS
  by_cases h1 : u 2 = u (14 + 8 * k)
  · rw [if_pos h1, if_pos h1.symm]
    by_cases h2 : u (14 + 8 * k + 5) = 0
    · rw [if_pos h2, if_neg (by rw [h2]; decide), oS_e (by decide)]
    · have h3 : 0 < u (14 + 8 * k + 5) := by
        rw [i_lt, z]
        rw [i_eq, z] at h2
        have := s5.1
        omega
      rw [if_neg h2, if_pos h3, oS_s (pays_i h hk).1]
  · rw [if_neg h1, if_neg (fun q => h1 q.symm), oS_e (by decide)]

