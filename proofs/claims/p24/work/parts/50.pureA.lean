/-! ===== sets as numbers: finite facts ===== -/
def bitI (i : Nat) : Int32 := (1 : Int32) <<< (nI i &&& 31)
def hasB (L i : Nat) : Bool := L / 2 ^ i % 2 == 1
def popc (L : Nat) : Nat := L % 2 + L / 2 % 2 + L / 4 % 2 + L / 8 % 2 + L / 16 % 2 + L / 32 % 2 + L / 64 % 2 + L / 128 % 2
def all8 (P : Nat → Nat → Bool) : Nat → Bool
  | 0 => true
  | L + 1 => P L 0 && (P L 1 && (P L 2 && (P L 3 && (P L 4 && (P L 5 && (P L 6 && (P L 7 && all8 P L)))))))
theorem all8_of {P : Nat → Nat → Bool} : ∀ {n : Nat}, all8 P n = true → ∀ L i, L < n → i < 8 → P L i = true
  | 0, _, L, _, hL, _ => absurd hL (Nat.not_lt_zero L)
  | n + 1, h, L, i, hL, hi => by
    simp only [all8, Bool.and_eq_true] at h
    rcases Nat.lt_or_ge L n with q | q
    · exact all8_of h.2.2.2.2.2.2.2.2 L i q hi
    · have e : L = n := by omega
      subst e
      have hi2 : i = 0 ∨ i = 1 ∨ i = 2 ∨ i = 3 ∨ i = 4 ∨ i = 5 ∨ i = 6 ∨ i = 7 := by omega
      rcases hi2 with rfl | rfl | rfl | rfl | rfl | rfl | rfl | rfl
      · exact h.1
      · exact h.2.1
      · exact h.2.2.1
      · exact h.2.2.2.1
      · exact h.2.2.2.2.1
      · exact h.2.2.2.2.2.1
      · exact h.2.2.2.2.2.2.1
      · exact h.2.2.2.2.2.2.2.1
def set1 (L i : Nat) : Bool := ((nI L &&& bitI i == 0) == !hasB L i) && ((nI L >>> (nI i &&& 31) &&& 1 == 1) == hasB L i)
theorem set1_all : all8 set1 256 = true := by decide +kernel
def set2 (L i : Nat) : Bool := !hasB L i || ((nI L &&& (bitI i ^^^ (-1)) == nI (L - 2 ^ i)) && ((nI L ^^^ bitI i == nI (L - 2 ^ i)) && (Nat.ble (2 ^ i) L && (popc (L - 2 ^ i) + 1 == popc L))))
theorem set2_all : all8 set2 256 = true := by decide +kernel
def set3 (L i : Nat) : Bool := !Nat.blt L (2 ^ i) || (nI L ||| bitI i == nI (L + 2 ^ i))
theorem set3_all : all8 set3 256 = true := by decide +kernel
def onZb : Nat → Int32 → Bool
  | 0, x => x == 0
  | m + 1, x => x == 0 || onZb m (x &&& (x - 1))
theorem onZb_of : ∀ {m : Nat} {x : Int32}, onZb m x = true → onZ m x
  | 0, x, h => by simpa [onZb, onZ] using h
  | m + 1, x, h => by
    simp only [onZb, Bool.or_eq_true, beq_iff_eq] at h
    rcases h with h | h
    · exact Or.inl h
    · exact Or.inr (onZb_of h)
def set4 (L _i : Nat) : Bool := (bitc (nI L) == onF 8 (nI L) 0) && (onZb 8 (nI L) && ((popc L == 0) == (L == 0)) && Nat.ble (popc L) 8 && (0 ≤ onF 8 (nI L) 0 : Bool))
theorem set4_all : all8 set4 256 = true := by decide +kernel
def set5 (L _i : Nat) : Bool := L == 0 || (hasB L 0 || (hasB L 1 || (hasB L 2 || (hasB L 3 || (hasB L 4 || (hasB L 5 || (hasB L 6 || hasB L 7)))))))
theorem set5_all : all8 set5 256 = true := by decide +kernel
theorem pow8 {N : Nat} (h8 : N ≤ 8) : 2 ^ N ≤ 256 := Nat.pow_le_pow_right (n := 2) (by decide) h8
theorem set_0 {L i : Nat} (hL : L < 256) (hi : i < 8) : nI L &&& bitI i = 0 ↔ hasB L i = false := by
  have h := all8_of set1_all L i hL hi
  simp only [set1, Bool.and_eq_true, beq_iff_eq] at h
  have h1 := h.1
  cases q : hasB L i
  · rw [q] at h1
    simp only [Bool.not_false, beq_iff_eq] at h1
    simp [h1]
  · rw [q] at h1
    simp only [Bool.not_true, beq_eq_false_iff_ne, ne_eq] at h1
    simp [h1]
theorem set_1 {L i : Nat} (hL : L < 256) (hi : i < 8) : nI L >>> (nI i &&& 31) &&& 1 = 1 ↔ hasB L i = true := by
  have h := all8_of set1_all L i hL hi
  simp only [set1, Bool.and_eq_true, beq_iff_eq] at h
  have h1 := h.2
  cases q : hasB L i
  · rw [q] at h1
    simp only [beq_eq_false_iff_ne, ne_eq] at h1
    simp [h1]
  · rw [q] at h1
    simp only [beq_iff_eq] at h1
    simp [h1]
theorem set_2 {L i : Nat} (hL : L < 256) (hi : i < 8) (hb : hasB L i = true) : nI L &&& (bitI i ^^^ (-1)) = nI (L - 2 ^ i) ∧ nI L ^^^ bitI i = nI (L - 2 ^ i) ∧ 2 ^ i ≤ L ∧ popc (L - 2 ^ i) + 1 = popc L := by
  have h := all8_of set2_all L i hL hi
  simp only [set2, hb, Bool.not_true, Bool.false_or, Bool.and_eq_true, beq_iff_eq] at h
  exact ⟨h.1, h.2.1, Nat.le_of_ble_eq_true h.2.2.1, h.2.2.2⟩
theorem set_3 {L i : Nat} (hi : i < 8) (hL : L < 2 ^ i) : nI L ||| bitI i = nI (L + 2 ^ i) := by
  have h256 : L < 256 := Nat.lt_of_lt_of_le hL (pow8 (by omega))
  have h := all8_of set3_all L i h256 hi
  have q : Nat.blt L (2 ^ i) = true := Nat.ble_eq_true_of_le hL
  simpa [set3, q] using h
theorem set_4 {L : Nat} (hL : L < 256) : bitc (nI L) = onF 8 (nI L) 0 ∧ onZ 8 (nI L) ∧ (popc L = 0 → L = 0) ∧ popc L ≤ 8 ∧ 0 ≤ onF 8 (nI L) 0 := by
  have h := all8_of set4_all L 0 hL (by decide)
  simp only [set4, Bool.and_eq_true, beq_iff_eq, decide_eq_true_eq] at h
  obtain ⟨h1, ⟨⟨h2, h3⟩, h4⟩, h5⟩ := h
  refine ⟨h1, onZb_of h2, fun q => ?_, Nat.le_of_ble_eq_true h4, h5⟩
  rw [q] at h3
  have h6 : (L == 0) = true := by rw [← h3]; rfl
  simpa using h6
theorem set_5 {L N : Nat} (h8 : N ≤ 8) (hL : L < 2 ^ N) (h0 : L ≠ 0) : ∃ i, i < N ∧ hasB L i = true := by
  have h256 : L < 256 := Nat.lt_of_lt_of_le hL (pow8 h8)
  have h := all8_of set5_all L 0 h256 (by decide)
  have hlt : ∀ i, i < 8 → hasB L i = true → i < N := fun i hi hb => by
    have h2 := (set_2 h256 hi hb).2.2.1
    rcases Nat.lt_or_ge i N with q | q
    · exact q
    · have : 2 ^ N ≤ 2 ^ i := Nat.pow_le_pow_right (by decide) q
      omega
  have h0' : (L == 0) = false := by simpa using h0
  simp only [set5, h0', Bool.false_or, Bool.or_eq_true] at h
  rcases h with h | h | h | h | h | h | h | h
  · exact ⟨0, hlt 0 (by decide) h, h⟩
  · exact ⟨1, hlt 1 (by decide) h, h⟩
  · exact ⟨2, hlt 2 (by decide) h, h⟩
  · exact ⟨3, hlt 3 (by decide) h, h⟩
  · exact ⟨4, hlt 4 (by decide) h, h⟩
  · exact ⟨5, hlt 5 (by decide) h, h⟩
  · exact ⟨6, hlt 6 (by decide) h, h⟩
  · exact ⟨7, hlt 7 (by decide) h, h⟩
theorem csN_nI (u : Vec) : ∀ n, n ≤ 8 → ∃ L, L < 2 ^ n ∧ csN u n = nI L
  | 0, _ => ⟨0, by decide, rfl⟩
  | n + 1, h => by
    obtain ⟨L, h1, h2⟩ := csN_nI u n (by omega)
    have hp : 2 ^ (n + 1) = 2 ^ n + 2 ^ n := by rw [Nat.pow_succ]; omega
    rw [csN]
    split
    · refine ⟨L + 2 ^ n, by omega, ?_⟩
      rw [h2]
      exact set_3 (by omega) h1
    · exact ⟨L, by omega, h2⟩
theorem csN_on8 {n : Nat} (h8 : n ≤ 8) (w : Vec) : onZ 8 (csN w n) := by
  obtain ⟨L, h1, h2⟩ := csN_nI w n h8
  rw [h2]
  exact (set_4 (Nat.lt_of_lt_of_le h1 (pow8 h8))).2.1
theorem bitc_on {n : Nat} (h8 : n ≤ 8) (w : Vec) : bitc (csN w n) = onF 8 (csN w n) 0 ∧ 0 ≤ onF 8 (csN w n) 0 := by
  obtain ⟨L, h1, h2⟩ := csN_nI w n h8
  rw [h2]
  have := set_4 (Nat.lt_of_lt_of_le h1 (pow8 h8))
  exact ⟨this.1, this.2.2.2.2⟩

