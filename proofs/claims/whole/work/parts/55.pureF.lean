/-! ===== rounds over a set of smithies ===== -/
theorem bit_lt {N L i : Nat} (h8 : N ≤ 8) (hL : L < 2 ^ N) (hi : i < 8) (hb : hasB L i = true) : i < N := by
  have h256 : L < 256 := Nat.lt_of_lt_of_le hL (pow8 h8)
  have h2 := (set_2 h256 hi hb).2.2.1
  rcases Nat.lt_or_ge i N with q | q
  · exact q
  · have : 2 ^ N ≤ 2 ^ i := Nat.pow_le_pow_right (by decide) q
    omega
theorem ne_none {u : Vec} {L : Nat} (hL : L < 256) : ∀ n, n ≤ 8 → neM u (nI L) n = none → ∀ i, i < n → hasB L i = false
  | 0, _, _, i, hi => absurd hi (Nat.not_lt_zero i)
  | n + 1, hn, h, i, hi => by
    rw [neM] at h
    by_cases q : nI L >>> (nI n &&& 31) &&& 1 = 1
    · rw [if_pos q] at h
      cases hx : neM u (nI L) n with
      | none => rw [hx] at h; cases h
      | some b =>
        rw [hx] at h
        have h2 : (if u (14 + 8 * b) ≤ u (14 + 8 * n) then some b else some n) = none := h
        split at h2 <;> cases h2
    · rw [if_neg q] at h
      rcases Nat.lt_or_ge i n with q2 | q2
      · exact ne_none hL n (by omega) h i q2
      · have e : i = n := by omega
        subst e
        have : ¬ hasB L i = true := fun c => q ((set_1 hL (by omega : i < 8)).mpr c)
        simpa using this
theorem ne_bit {u : Vec} {L : Nat} (hL : L < 256) : ∀ n b, n ≤ 8 → neM u (nI L) n = some b → b < n ∧ hasB L b = true
  | 0, b, _, h => by cases h
  | n + 1, b, hn, h => by
    rw [neM] at h
    by_cases q : nI L >>> (nI n &&& 31) &&& 1 = 1
    · have qb := (set_1 hL (by omega : n < 8)).mp q
      rw [if_pos q] at h
      cases hx : neM u (nI L) n with
      | none => rw [hx] at h; cases h; exact ⟨by omega, qb⟩
      | some b' =>
        rw [hx] at h
        have h2 : (if u (14 + 8 * b') ≤ u (14 + 8 * n) then some b' else some n) = some b := h
        have := ne_bit hL n b' (by omega) hx
        split at h2
        · cases h2; exact ⟨by omega, this.2⟩
        · cases h2; exact ⟨by omega, qb⟩
    · rw [if_neg q] at h
      have := ne_bit hL n b (by omega) h
      exact ⟨by omega, this.2⟩
def frX (u : Vec) : Option Nat → Int32 × Int32
  | none => (-1, 100)
  | some b => (nI b, u (14 + 8 * b))
theorem fr_eq {N : Nat} {u : Vec} (h : VOK N u) {L : Nat} (hL : L < 256) : ∀ n, n ≤ N → frs u (nI L) n = frX u (neM u (nI L) n)
  | 0, _ => rfl
  | n + 1, hn => by
    have h8 := h.1
    have ih := fr_eq h hL n (by omega)
    rw [frs, neM, ih]
    by_cases q : nI L >>> (nI n &&& 31) &&& 1 = 1
    · have qb := (set_1 hL (by omega : n < 8)).mp q
      have q0 : ¬ nI L &&& (1 : Int32) <<< (nI n &&& 31) = 0 := fun c => by
        have := (set_0 hL (by omega : n < 8)).mp c
        rw [qb] at this; cases this
      rw [if_neg q0, if_pos q]
      cases hx : neM u (nI L) n with
      | none =>
        have hm := (h.2.2.2.2.2.2.2.2 n (by omega)).1
        have : ¬ (100 : Int32) ≤ u (14 + 8 * n) := fun c => by
          have c2 := i_le.mp c
          rw [show (100 : Int32).toInt = 100 from rfl] at c2
          have := hm.2
          omega
        show (if (100 : Int32) ≤ u (14 + 8 * n) then _ else _) = _
        rw [if_neg this]; rfl
      | some b =>
        show (if u (14 + 8 * b) ≤ u (14 + 8 * n) then (nI b, u (14 + 8 * b)) else (nI n, u (14 + 8 * n))) = frX u (if u (14 + 8 * b) ≤ u (14 + 8 * n) then some b else some n)
        by_cases q3 : u (14 + 8 * b) ≤ u (14 + 8 * n)
        · rw [if_pos q3, if_pos q3]; rfl
        · rw [if_neg q3, if_neg q3]; rfl
    · have qb : hasB L n = false := by
        have : ¬ hasB L n = true := fun c => q ((set_1 hL (by omega : n < 8)).mpr c)
        simpa using this
      rw [if_pos (show nI L &&& (1 : Int32) <<< (nI n &&& 31) = 0 from (set_0 hL (by omega : n < 8)).mpr qb), if_neg q]
theorem rd_eq {N : Nat} {u : Vec} (h : VOK N u) : ∀ (m L : Nat) (pl : Int32) (q : Int32 × Int32 × Int32), L < 2 ^ N → rdM u N m (nI L) pl q = rdC u N m (nI L) pl q
  | 0, L, pl, q, hL => rfl
  | m + 1, L, pl, q, hL => by
    have h256 : L < 256 := Nat.lt_of_lt_of_le hL (pow8 h.1)
    rw [rdM, rdC]
    by_cases h0 : L = 0
    · subst h0
      rw [if_pos (show nI 0 = (0 : Int32) from rfl), if_pos (show nI 0 = (0 : Int32) from rfl)]
    · have hn0 : ¬ nI L = 0 := fun c => h0 ((nI_eq (by omega) (by decide)).mp (show nI L = nI 0 from c))
      rw [if_neg hn0, if_neg hn0, fr_eq h h256 N (Nat.le_refl N)]
      cases hx : neM u (nI L) N with
      | none =>
        obtain ⟨i, hi, hb⟩ := set_5 h.1 hL h0
        rw [ne_none h256 N h.1 hx i hi] at hb; cases hb
      | some k =>
        obtain ⟨hk, hb⟩ := ne_bit h256 N k h.1 hx
        have hk8 : k < 8 := Nat.lt_of_lt_of_le hk h.1
        obtain ⟨b1, b2, b3, b4⟩ := set_2 h256 hk8 hb
        have ek : (nI k).toNatClampNeg = k := nI_clamp (by omega)
        have eX : frX u (some k) = (nI k, u (14 + 8 * k)) := rfl
        rw [eX, ek]
        show rdM u N m (nI L ^^^ bitI k) _ _ = rdC u N m (nI L &&& (bitI k ^^^ (-1))) _ _
        rw [b1, b2, rd_eq h m (L - 2 ^ k) _ _ (Nat.lt_of_le_of_lt (Nat.sub_le _ _) hL)]
        congr 1
        obtain ⟨s1, s2, s3, s4, s5⟩ := h.2.2.2.2.2.2.2.2 k hk
        unfold rsn
        by_cases q1 : u 13 < u (14 + 8 * k + 5)
        · rw [if_pos q1, if_neg (Int32.not_le.mpr q1), if_neg (by decide), Int32.add_zero, Int32.add_zero, Int32.add_zero]
        · rw [if_neg q1, if_pos (Int32.not_lt.mp q1)]
          by_cases q2 : u (14 + 8 * k + 2) ≤ 0
          · have q3 : u (14 + 8 * k + 2) = 0 := by
              have a := i_le.mp q2
              rw [z_i] at a
              have := s3.1
              rw [i_eq, z_i]; omega
            rw [if_pos q2, if_pos q3, if_neg (by decide), Int32.add_zero, Int32.add_zero, Int32.add_zero]
          · have q3 : ¬ u (14 + 8 * k + 2) = 0 := fun c => q2 (by rw [c]; exact Int32.le_refl _)
            rw [if_neg q2, if_neg q3, if_pos rfl, Int32.add_assoc]
def setP (N : Nat) (s : Int32) : Prop := ∃ L, L < 2 ^ N ∧ s = nI L
theorem Gd_ok {N : Nat} {u : Vec} (h : VOK N u) : Gd u N (setP N) := by
  rintro s ⟨L, hL, rfl⟩ h0
  have h256 : L < 256 := Nat.lt_of_lt_of_le hL (pow8 h.1)
  have hL0 : L ≠ 0 := fun c => h0 (by rw [c]; rfl)
  rw [fr_eq h h256 N (Nat.le_refl N)]
  cases hx : neM u (nI L) N with
  | none =>
    obtain ⟨i, hi, hb⟩ := set_5 h.1 hL hL0
    rw [ne_none h256 N h.1 hx i hi] at hb; cases hb
  | some k =>
    obtain ⟨hk, hb⟩ := ne_bit h256 N k h.1 hx
    obtain ⟨b1, b2, b3, b4⟩ := set_2 h256 (Nat.lt_of_lt_of_le hk h.1) hb
    exact ⟨⟨k, hk, rfl⟩, L - 2 ^ k, Nat.lt_of_le_of_lt (Nat.sub_le _ _) hL, b1⟩
def setM_P (N : Nat) (m : Nat) (s : Int32) : Prop := ∃ L, L < 2 ^ N ∧ s = nI L ∧ popc L ≤ m
theorem GdM_ok {N : Nat} {u : Vec} (h : VOK N u) : GdM u N (setM_P N) := by
  refine ⟨?_, ?_⟩
  · rintro s ⟨L, hL, rfl, hp⟩
    have h256 : L < 256 := Nat.lt_of_lt_of_le hL (pow8 h.1)
    rw [(set_4 h256).2.2.1 (by omega)]; rfl
  · rintro m s ⟨L, hL, rfl, hp⟩ h0
    have h256 : L < 256 := Nat.lt_of_lt_of_le hL (pow8 h.1)
    have hL0 : L ≠ 0 := fun c => h0 (by rw [c]; rfl)
    cases hx : neM u (nI L) N with
    | none =>
      obtain ⟨i, hi, hb⟩ := set_5 h.1 hL hL0
      rw [ne_none h256 N h.1 hx i hi] at hb; cases hb
    | some k =>
      obtain ⟨hk, hb⟩ := ne_bit h256 N k h.1 hx
      obtain ⟨b1, b2, b3, b4⟩ := set_2 h256 (Nat.lt_of_lt_of_le hk h.1) hb
      exact ⟨k, hk, rfl, L - 2 ^ k, Nat.lt_of_le_of_lt (Nat.sub_le _ _) hL, b2, by omega⟩
theorem shl_N : ∀ N, N ≤ 8 → (1 : Int32) <<< (nI N &&& 31) = nI (2 ^ N) ∧ (1 : Int32) <<< (nI N &&& 31) - 1 = nI (2 ^ N - 1) := by
  intro N h
  have hN : N = 0 ∨ N = 1 ∨ N = 2 ∨ N = 3 ∨ N = 4 ∨ N = 5 ∨ N = 6 ∨ N = 7 ∨ N = 8 := by omega
  rcases hN with rfl | rfl | rfl | rfl | rfl | rfl | rfl | rfl | rfl <;> decide
theorem rng_set {N : Nat} (h8 : N ≤ 8) {s : Int32} : rng s 1 ((1 : Int32) <<< (nI N &&& 31) - 1) = true ↔ ¬ s < 1 ∧ ¬ (1 : Int32) <<< (nI N &&& 31) ≤ s := by
  have hp := pow8 h8
  have hp0 : 0 < 2 ^ N := Nat.pow_pos (by decide)
  rw [(shl_N N h8).2, (shl_N N h8).1]
  have e1 : (nI (2 ^ N)).toInt = ((2 ^ N : Nat) : Int) := nI_i (by omega)
  have e2 : (nI (2 ^ N - 1)).toInt = ((2 ^ N - 1 : Nat) : Int) := nI_i (by omega)
  unfold rng
  by_cases h1 : s < 1
  · simp [h1]
  · rw [if_neg h1]
    by_cases h2 : nI (2 ^ N - 1) < s
    · rw [if_pos h2]
      have h3 : nI (2 ^ N) ≤ s := by
        rw [i_lt, e2] at h2
        rw [i_le, e1]; omega
      simp [h3]
    · rw [if_neg h2]
      have h3 : ¬ nI (2 ^ N) ≤ s := by
        rw [i_lt, e2] at h2
        rw [i_le, e1]; omega
      simp [h1, h3]
theorem set_of {N : Nat} (h8 : N ≤ 8) {s : Int32} (h1 : ¬ s < 1) (h2 : ¬ (1 : Int32) <<< (nI N &&& 31) ≤ s) : setP N s := by
  have hp := pow8 h8
  rw [(shl_N N h8).1] at h2
  have e1 : (nI (2 ^ N)).toInt = ((2 ^ N : Nat) : Int) := nI_i (by omega)
  rw [i_le, e1] at h2
  rw [i_lt, show (1 : Int32).toInt = 1 from rfl] at h1
  refine ⟨s.toInt.toNat, by omega, ?_⟩
  rw [i_eq, nI_i (by omega)]; omega
theorem rnd_eq {N : Nat} {u : Vec} (h : VOK N u) (s w : Int32) : rndM u N s w = rndS u N s w := by
  unfold rndM rndS
  rw [h.2.1]
  by_cases h1 : s < 1
  · rw [if_pos h1, if_neg (fun c => (rng_set h.1).mp c |>.1 h1)]
  · rw [if_neg h1]
    by_cases h2 : (1 : Int32) <<< (nI N &&& 31) ≤ s
    · rw [if_pos h2, if_neg (fun c => (rng_set h.1).mp c |>.2 h2)]
    · rw [if_neg h2, if_pos ((rng_set h.1).mpr ⟨h1, h2⟩)]
      by_cases h3 : w < 0
      · rw [if_pos h3, rng_lo h3, if_neg (by decide)]
      · rw [if_neg h3]
        by_cases h4 : w ≤ 2
        · rw [if_pos h4, rng_t h3 h4, if_pos rfl]
          obtain ⟨L, hL, rfl⟩ := set_of h.1 h1 h2
          rw [rd_eq h 8 L _ _ hL]
        · rw [if_neg h4, rng_hi h4, if_neg (by decide)]
theorem rnd_P {N : Nat} {u : Vec} (h : VOK N u) {s : Int32} (hs : rng s 1 ((1 : Int32) <<< (u 0 &&& 31) - 1) = true) : setM_P N 8 s := by
  rw [h.2.1] at hs
  obtain ⟨h1, h2⟩ := (rng_set h.1).mp hs
  obtain ⟨L, hL, e⟩ := set_of h.1 h1 h2
  exact ⟨L, hL, e, (set_4 (Nat.lt_of_lt_of_le hL (pow8 h.1))).2.2.2.1⟩
theorem rnd_S {N : Nat} {u : Vec} (h : VOK N u) {s : Int32} (h1 : ¬ s < 1) (h2 : ¬ (1 : Int32) <<< (u 0 &&& 31) ≤ s) : setP N s := by
  rw [h.2.1] at h2
  exact set_of h.1 h1 h2
/-! ===== other questions ===== -/
theorem sum_i {N : Nat} {u : Vec} (h : VOK N u) : ∀ n, n ≤ N → ∃ a, a ≤ 100 * n ∧ sumN u 2 n = nI a
  | 0, _ => ⟨0, by decide, rfl⟩
  | n + 1, hn => by
    obtain ⟨a, ha, e⟩ := sum_i h n (by omega)
    obtain ⟨s1, s2, s3, s4, s5⟩ := h.2.2.2.2.2.2.2.2 n (by omega)
    have h1 := s3.1; have h2 := s3.2
    refine ⟨a + (u (14 + 8 * n + 2)).toInt.toNat, by omega, ?_⟩
    rw [sumN, e]
    have e2 : u (14 + 8 * n + 2) = nI (u (14 + 8 * n + 2)).toInt.toNat := by rw [i_eq, nI_i (by omega)]; omega
    rw [← nI_add, ← e2]
theorem pos_N {N : Nat} {u : Vec} (h : VOK N u) : 0 < u 0 ↔ 1 ≤ N := by
  rw [h.2.1, i_lt, z_i, nI_i (Nat.lt_of_le_of_lt h.1 (by decide))]; omega
theorem zero_N {N : Nat} {u : Vec} (h : VOK N u) : u 0 = 0 ↔ N = 0 := by
  rw [h.2.1, i_eq, z_i, nI_i (Nat.lt_of_le_of_lt h.1 (by decide))]; omega
theorem mean_ok {N : Nat} {u : Vec} (h : VOK N u) (h1 : 1 ≤ N) : vfb (avB u N) = true ∧ Op.cmpValue (FP.fcmp (avB u N) (avB u N)) .l = 0 ∧ btK (avB u N) = true ∧ btF (avB u N) = (avB u N).toInt32 := by
  obtain ⟨a, ha, e⟩ := sum_i h N (Nat.le_refl N)
  have k := avg_ok h1 h.1 ha
  have e2 : avB u N = avg a N := by unfold avB avg; rw [e, h.2.1]
  rw [e2]
  simp only [avgOk, Bool.and_eq_true, beq_iff_eq] at k
  exact ⟨k.1, k.2.1, k.2.2.1, k.2.2.2⟩
theorem mean_A {N : Nat} {u : Vec} (h : VOK N u) : 0 < u 0 → vfb (avB u N) = true ∧ btK (avB u N) = true := fun q =>
  have k := mean_ok h ((pos_N h).mp q)
  ⟨k.1, k.2.2.1⟩
theorem avM_0 {N : Nat} {u : Vec} (h : VOK N u) (h0 : N = 0) : avM u N = avg 0 1 := by
  subst h0
  unfold avM avg
  rw [h.2.1]; rfl
theorem avM_s {N : Nat} {u : Vec} (h : VOK N u) (h0 : N ≠ 0) : avM u N = avB u N := by
  unfold avM avB
  rw [if_neg (fun q => h0 ((zero_N h).mp q))]
theorem mean_B {N : Nat} {u : Vec} (h : VOK N u) : vfb (avM u N) = true ∧ Op.cmpValue (FP.fcmp (avM u N) (avM u N)) .l = 0 := by
  by_cases h0 : N = 0
  · rw [avM_0 h h0]
    have k := avg_ok (a := 0) (b := 1) (by decide) (by decide) (by decide)
    simp only [avgOk, Bool.and_eq_true, beq_iff_eq] at k
    exact ⟨k.1, k.2.1⟩
  · rw [avM_s h h0]
    have k := mean_ok h (by omega)
    exact ⟨k.1, k.2.1⟩
theorem mean_eq {N : Nat} {u : Vec} (h : VOK N u) : meanM u N = meanS u N := by
  unfold meanM meanS
  by_cases h0 : N = 0
  · rw [if_pos ((zero_N h).mpr h0), if_neg (fun q => by have := (pos_N h).mp q; omega)]
  · rw [if_neg (fun q => h0 ((zero_N h).mp q)), if_pos ((pos_N h).mpr (by omega)), avM_s h h0, (mean_ok h (by omega)).2.2.2]
theorem cnt_eq (u : Vec) (n : Nat) (hc tc w : Int32) : cntM u n hc tc w = cntS u n hc tc w := by
  unfold cntM cntS
  repeat (first | rfl | (refine ite_congr rfl (fun _ => rfl) (fun _ => ?_)))
  by_cases h : rng w 20 23 = true
  · rw [if_pos h]
    obtain ⟨j, h1, h2, e, e2⟩ := rng_nI (a := 20) (b := 23) (by decide) h (by decide)
    have hj : j = 20 ∨ j = 21 ∨ j = 22 ∨ j = 23 := by omega
    rw [e2]
    rcases hj with rfl | rfl | rfl | rfl <;> subst e
    · rw [if_pos (show nI 20 = (20 : Int32) from rfl)]
    · rw [if_neg (by decide), if_pos (show nI 21 = (21 : Int32) from rfl)]
    · rw [if_neg (by decide), if_neg (by decide), if_pos (show nI 22 = (22 : Int32) from rfl)]
    · rw [if_neg (by decide), if_neg (by decide), if_neg (by decide), if_pos (show nI 23 = (23 : Int32) from rfl)]
  · have k : ∀ x : Int32, rng x 20 23 = true → ¬ w = x := fun x hx q => h (by rw [q]; exact hx)
    rw [if_neg h, if_neg (k 20 (by decide)), if_neg (k 21 (by decide)), if_neg (k 22 (by decide)), if_neg (k 23 (by decide))]
theorem mnd_eq (u : Vec) (k : Nat) (w x : Int32) : mndM u k w x = mndS u k w x := by
  have T : ∀ b : Bool, (if rng x 0 3 = true then mnT u k b x else IA) = mndB u k b x := fun b => by
    unfold mnT mndB
    by_cases h : rng x 0 3 = true
    · rw [if_pos h]
      obtain ⟨j, h1, h2, e, e2⟩ := rng_nI (a := 0) (b := 3) (by decide) h (by decide)
      refine ite_congr rfl (fun _ => rfl) (fun q0 => ite_congr rfl (fun _ => rfl) (fun q1 => ite_congr rfl (fun _ => rfl) (fun q2 => ?_)))
      have hj : j = 0 ∨ j = 1 ∨ j = 2 ∨ j = 3 := by omega
      rcases hj with rfl | rfl | rfl | rfl
      · exact absurd e q0
      · exact absurd e q1
      · exact absurd e q2
      · rw [if_pos (show x = 3 from e)]
    · have k : ∀ y : Int32, rng y 0 3 = true → ¬ x = y := fun y hy q => h (by rw [q]; exact hy)
      rw [if_neg h, if_neg (k 0 (by decide)), if_neg (k 1 (by decide)), if_neg (k 2 (by decide)), if_neg (k 3 (by decide))]
  unfold mndM mndS
  by_cases h : rng w 0 1 = true
  · rw [if_pos h, T]
    obtain ⟨j, h1, h2, e, e2⟩ := rng_nI (a := 0) (b := 1) (by decide) h (by decide)
    have hj : j = 0 ∨ j = 1 := by omega
    rcases hj with rfl | rfl
    · subst e; rw [if_pos (show nI 0 = (0 : Int32) from rfl)]; rfl
    · subst e; rw [if_neg (by decide), if_pos (show nI 1 = (1 : Int32) from rfl)]; rfl
  · have k : ∀ y : Int32, rng y 0 1 = true → ¬ w = y := fun y hy q => h (by rw [q]; exact hy)
    rw [if_neg h, if_neg (k 0 (by decide)), if_neg (k 1 (by decide))]
theorem smo_r {u : Vec} {k : Nat} {w : Int32} (h : rng w 0 10 = false) : smoS u k w = IA := by
  have K : ∀ y : Int32, rng y 0 10 = true → ¬ w = y := fun y hy q => by rw [q, hy] at h; cases h
  unfold smoS
  rw [if_neg (K 0 (by decide)), if_neg (K 1 (by decide)), if_neg (K 2 (by decide)), if_neg (K 3 (by decide)), if_neg (K 4 (by decide)), if_neg (K 5 (by decide)), if_neg (K 6 (by decide)), if_neg (K 7 (by decide)), if_neg (K 8 (by decide)), if_neg (K 9 (by decide)), if_neg (K 10 (by decide))]
