/-! ===== the law's own sums, and the class's ===== -/
def apt (v w : Int32) : Int32 := if w ≤ v then v - w else w - v
def tnL (v : Int32) : Int32 := v / 10 + (if rmI v 10 ≤ 0 then 0 else 1)
def tkL (v : Vec) (k : Nat) (b : Bool) : Int32 := if b = true then 4 * v (14 + 8 * k + 1) else tnL (v (14 + 8 * k + 2))
def owL (v : Vec) (k : Nat) (b : Bool) : Int32 := hM b * v 12 + 3 * tkL v k b
def whL (v : Vec) (k : Nat) (b : Bool) : Int32 := if v 2 = v (14 + 8 * k) then (if hM b ≤ v 3 then (if tkL v k b ≤ v 4 then (if v (14 + 8 * k + 5) ≤ v 13 then (if v (14 + 8 * k + 2) = 0 then 5 else 0) else 4) else 3) else 2) else 1
def wlkL (v : Vec) (x : Int32) : Int32 × Vec := if tnL (apt (v 2) x) ≤ v 3 then (v 3 - tnL (apt (v 2) x), upd (upd (upd v 3 (v 3 - tnL (apt (v 2) x))) 9 (v 9 + apt (v 2) x)) 2 x) else (NP, v)
def byL (v : Vec) (x : Int32) : Int32 × Vec := if v 2 ≤ 0 then (if v 4 + x ≤ 999 then (v 4 + x, buyU v x) else (LR, v)) else (NP, v)
def mdV (v : Vec) (k : Nat) (b : Bool) : Vec := upd (upd (upd (upd (upd (upd v 3 (v 3 - hM b)) 4 (v 4 - tkL v k b)) 7 (v 7 + owL v k b)) (14 + 8 * k + 5) (v (14 + 8 * k + 5) + owL v k b)) (14 + 8 * k + 7) (v (14 + 8 * k + 7) + 1)) (14 + 8 * k + 2) (wearBM v k b)
def mdL (v : Vec) (k : Nat) (b : Bool) : Int32 × Vec := if whL v k b ≤ 0 then (if b = true then v (14 + 8 * k + 5) + owL v k b else wearBM v k b, mdV v k b) else (NP, v)
def clL (v : Vec) (k : Nat) : Int32 × Vec := if v 2 = v (14 + 8 * k) then (if v (14 + 8 * k + 5) = 0 then (NP, v) else (pays v k, collU v k)) else (NP, v)
def dW1 (u : Vec) (k : Nat) : Int32 := u (14 + 8 * k + 2) + (1 + u (14 + 8 * k + 1) / 2)
def dW2 (u : Vec) (k : Nat) : Int32 := if dW1 u k ≤ 100 then dW1 u k else 100
def dL1 (l : Int32) : Int32 := if l = 0 then -10 else l + l
def dH1 (u : Vec) (k : Nat) : Int32 := u (14 + 8 * k + 3) - dL1 (dW2 u k / 10)
def dH2 (u : Vec) (k : Nat) : Int32 := if dH1 u k ≤ 100 then (if 0 ≤ dH1 u k then dH1 u k else 0) else 100
def dC2 (u : Vec) (k : Nat) : Int32 := if u 10 ≤ dH2 u k then 0 else u (14 + 8 * k + 4) + 1
def dM2 (u : Vec) (k : Nat) : Int32 := if dC2 u k ≤ u 8 then u 8 else dC2 u k
def dyL (u : Vec) (k : Nat) : Vec := upd (upd (upd (upd u (14 + 8 * k + 2) (dW2 u k)) (14 + 8 * k + 3) (dH2 u k)) (14 + 8 * k + 4) (dC2 u k)) 8 (dM2 u k)
def bLn : Nat → Int32 → Int32 → Int32
  | 0, _, n => n
  | m + 1, x, n => if x ≤ 0 then n else bLn m (x / 2) (n + rmI x 2)
theorem pk_mod {a d : Nat} (ha : a < 2 ^ 31) (h0 : 0 < d) (hd : d < 2 ^ 31) : rmI (nI a) (nI d) = nI (a % d) := pk_rem ha h0 hd
theorem bd_nI {x : Int32} {m : Int} (h : bd x m) : ∃ n : Nat, (n : Int) ≤ m ∧ n < 2 ^ 31 ∧ x = nI n := by
  obtain ⟨h1, h2⟩ := h
  have h3 := Int32.toInt_lt x
  refine ⟨x.toInt.toNat, by omega, by omega, ?_⟩
  rw [i_eq, nI_toInt (by omega)]
  omega
theorem nI_bd {n : Nat} {m : Int} (h : (n : Int) ≤ m) (hn : n < 2 ^ 31) : bd (nI n) m := ⟨by rw [nI_toInt hn]; omega, by rw [nI_toInt hn]; exact h⟩
def tn1 (n : Nat) : Bool := tnL (nI n) == tens (nI n)
def tnA : Nat → Bool
  | 0 => true
  | n + 1 => tn1 n && tnA n
theorem tnA_of : ∀ {m : Nat}, tnA m = true → ∀ n, n < m → tnL (nI n) = tens (nI n)
  | 0, _, n, hn => absurd hn (Nat.not_lt_zero n)
  | m + 1, h, n, hn => by
    rw [tnA, Bool.and_eq_true] at h
    rcases Nat.lt_or_ge n m with q | q
    · exact tnA_of h.2 n q
    · have e : n = m := by omega
      subst e
      have h1 := h.1
      unfold tn1 at h1
      exact eq_of_beq h1
theorem tnA_all : tnA 201 = true := by decide +kernel
theorem tnL_eq {x : Int32} (h : bd x 200) : tnL x = tens x := by
  obtain ⟨n, h1, h2, rfl⟩ := bd_nI h
  exact tnA_of tnA_all n (by omega)
theorem apt_eq (v w : Int32) (hv : bd v 99) (hw : bd w 99) : apt v w = absI (v - w) ∧ bd (apt v w) 99 := by
  have := hv.1; have := hv.2; have := hw.1; have := hw.2
  have e1 : (v - w).toInt = v.toInt - w.toInt := i_sub (by omega) (by omega)
  have e2 : (w - v).toInt = w.toInt - v.toInt := i_sub (by omega) (by omega)
  have e0 : (0 : Int32).toInt = 0 := rfl
  unfold apt absI
  by_cases h : w ≤ v
  · have h' := i_le.mp h
    rw [if_pos h, if_pos (i_le.mpr (by rw [e0, e1]; omega))]
    exact ⟨rfl, by unfold bd; rw [e1]; omega⟩
  · have h' : ¬ w.toInt ≤ v.toInt := fun q => h (i_le.mpr q)
    rw [if_neg h, if_neg (fun q => by have := i_le.mp q; rw [e0, e1] at this; omega)]
    refine ⟨?_, by unfold bd; rw [e2]; omega⟩
    rw [i_eq, e2, i_sub (by rw [e0, e1]; omega) (by rw [e0, e1]; omega), e0, e1]
    omega
theorem way_eq {v w : Int32} (hv : bd v 99) (hw : bd w 99) : tnL (apt v w) = hB v w := by
  obtain ⟨h1, h2⟩ := apt_eq v w hv hw
  rw [tnL_eq (bd_mono h2 (by decide)), h1]
  rfl
theorem tkL_eq {v : Vec} {k : Nat} (h : SOK v k) (b : Bool) : tkL v k b = leatherOf v k b := by
  unfold tkL leatherOf
  rw [tnL_eq (bd_mono h.2.2.1 (by decide))]
theorem owL_eq {v : Vec} {k : Nat} (h : SOK v k) (b : Bool) : owL v k b = owes v k b := by
  unfold owL owes
  rw [tkL_eq h, Int32.mul_comm]
theorem whL_eq {v : Vec} {k : Nat} (h : SOK v k) (b : Bool) : whL v k b = whyNot v k b := by
  unfold whL whyNot rsn
  rw [tkL_eq h]
  by_cases q : v 2 = v (14 + 8 * k)
  · rw [if_pos q, if_pos q.symm]
  · rw [if_neg q, if_neg (fun e => q e.symm)]
theorem why_0 (v : Vec) (k : Nat) (b : Bool) : whyNot v k b ≤ 0 ↔ whyNot v k b = 0 := by
  unfold whyNot rsn
  split
  · split
    · split
      · split
        · split <;> decide
        · decide
      · decide
    · decide
  · decide
theorem wlkL_eq {v : Vec} {x : Int32} (h2 : bd (v 2) 99) (hx : bd x 99) : wlkL v x = walkS v x := by
  have n0 : ¬ x < 0 := fun q => by have := i_lt.mp q; rw [z_i] at this; have := hx.1; omega
  have n9 : x ≤ 99 := i_le.mpr hx.2
  unfold wlkL walkS walkU
  rw [way_eq h2 hx, if_neg n0, if_pos n9, (apt_eq _ _ h2 hx).1, abs_sw h2 hx]
theorem byL_eq {v : Vec} {x : Int32} (h2 : bd (v 2) 99) (h1 : ¬ x < 1) (h9 : x ≤ 999) : byL v x = buyS v x := by
  unfold byL buyS
  rw [if_neg h1, if_pos h9]
  have e : v 2 ≤ 0 ↔ v 2 = 0 := by
    rw [i_le, i_eq, z_i]
    have := h2.1
    omega
  simp only [e]
theorem mdL_eq {v : Vec} {k : Nat} (h : SOK v k) (b : Bool) : mdL v k b = mendS v k b := by
  unfold mdL mendS mdV mendU mendR
  rw [whL_eq h, owL_eq h, tkL_eq h, upd_sw _ _ _ (show 14 + 8 * k + 7 ≠ 14 + 8 * k + 2 by omega)]
  simp only [why_0]
theorem clL_eq {v : Vec} {k : Nat} (h : SOK v k) : clL v k = collS v k := by
  unfold clL collS
  have e : (0 < v (14 + 8 * k + 5)) ↔ ¬ v (14 + 8 * k + 5) = 0 := by
    rw [i_lt, i_eq, z_i]
    have := h.2.2.2.2.1
    omega
  by_cases q : v 2 = v (14 + 8 * k)
  · rw [if_pos q, if_pos q.symm]
    by_cases q2 : v (14 + 8 * k + 5) = 0
    · rw [if_pos q2, if_neg (fun z => (e.mp z) q2)]
    · rw [if_neg q2, if_pos (e.mpr q2)]
  · rw [if_neg q, if_neg (fun z => q z.symm)]
theorem dyL_eq {u : Vec} {k : Nat} (h : SOK u k) : dyL u k = dayU u k := by
  have eW : dW2 u k = agW u k := by
    unfold dW2 dW1 agW
    rw [Int32.add_comm 1, ← Int32.add_assoc]
  have bW : bd (agW u k) 100 := by rw [agW_eq]; exact wearD_i h.2.2.1 h.2.1
  have eT : dH1 u k = agT u k := by
    unfold dH1 dL1 agT
    rw [eW]
    generalize agW u k = w at bW ⊢
    have hx := h.2.2.2.1
    generalize u (14 + 8 * k + 3) = x at hx ⊢
    by_cases q : w / 10 = 0
    · rw [if_pos q, if_pos q]
      have := hx.1; have := hx.2
      have e1 : (-10 : Int32).toInt = -10 := rfl
      have e2 : (10 : Int32).toInt = 10 := rfl
      rw [i_eq, i_sub (by rw [e1]; omega) (by rw [e1]; omega), i_add (by rw [e2]; omega) (by rw [e2]; omega), e1, e2]
      omega
    · rw [if_neg q, if_neg q]
      have := bW.1; have := bW.2; have := hx.1; have := hx.2
      have e10 : (10 : Int32).toInt = 10 := rfl
      have em2 : (-2 : Int32).toInt = -2 := rfl
      have d : (w / 10).toInt = w.toInt / 10 := by rw [i_div (by omega) (by rw [e10]; omega), e10]
      have m1 : (w / 10 + w / 10).toInt = w.toInt / 10 + w.toInt / 10 := by rw [i_add (by rw [d]; omega) (by rw [d]; omega), d]
      have m2 : (-2 * (w / 10)).toInt = -2 * (w.toInt / 10) := by rw [i_mul (by rw [d, em2]; omega) (by rw [d, em2]; omega), d, em2]
      rw [i_eq, i_sub (by rw [m1]; omega) (by rw [m1]; omega), i_add (a := x) (b := -2 * (w / 10)) (by rw [m2]; omega) (by rw [m2]; omega), m1, m2]
      omega
  have eH : dH2 u k = dayH u k := by
    rw [← (dayH_i h).2]
    unfold dH2 agH
    rw [eT]
  have eC : dC2 u k = dayC u k := by
    unfold dC2 dayC
    rw [eH]
    by_cases q : u 10 ≤ dayH u k
    · rw [if_pos q, if_neg (Int32.not_lt.mpr q)]
    · rw [if_neg q, if_pos (Int32.not_le.mp q)]
  have eM : dM2 u k = if u 8 < dayC u k then dayC u k else u 8 := by
    unfold dM2
    rw [eC]
    by_cases q : dayC u k ≤ u 8
    · rw [if_pos q, if_neg (Int32.not_lt.mpr q)]
    · rw [if_neg q, if_pos (Int32.not_le.mp q)]
  unfold dyL dayU
  rw [eW, agW_eq, eH, eC, eM]
theorem low_nI (v : Int32) {n : Nat} (h0 : 0 < n) (hn : n < 2 ^ 31) : ∃ k, k < n ∧ rmI (v &&& 2147483647) (nI n) = nI k := by
  obtain ⟨j, hj, e⟩ := pk_andE v (m := 2147483647) 31 (by decide +kernel)
  exact ⟨j % n, Nat.mod_lt _ h0, by rw [e, pk_mod hj h0 hn]⟩
def bl8 (L : Nat) : Bool := bLn 8 (nI L) 0 == bitc (nI L) && !(decide (bitc (nI L) < 0))
def blA : Nat → Bool
  | 0 => true
  | n + 1 => bl8 n && blA n
theorem blA_of : ∀ {m : Nat}, blA m = true → ∀ n, n < m → bLn 8 (nI n) 0 = bitc (nI n) ∧ ¬ bitc (nI n) < 0
  | 0, _, n, hn => absurd hn (Nat.not_lt_zero n)
  | m + 1, h, n, hn => by
    rw [blA, Bool.and_eq_true] at h
    rcases Nat.lt_or_ge n m with q | q
    · exact blA_of h.2 n q
    · have e : n = m := by omega
      subst e
      have h1 := h.1
      unfold bl8 at h1
      rw [Bool.and_eq_true] at h1
      refine ⟨eq_of_beq h1.1, ?_⟩
      have h2 := h1.2
      simpa using h2
theorem blA_all : blA 256 = true := by decide +kernel
theorem bits_eq {u : Vec} {N : Nat} (h8 : N ≤ 8) : ∃ L, L < 256 ∧ csN u N = nI L ∧ bLn 8 (nI L) 0 = bitc (csN u N) ∧ ¬ bitc (csN u N) < 0 := by
  obtain ⟨L, h1, h2⟩ := csN_nI u N h8
  have h3 : L < 256 := Nat.lt_of_lt_of_le h1 (pow8 h8)
  exact ⟨L, h3, h2, by rw [h2]; exact (blA_of blA_all L h3).1, by rw [h2]; exact (blA_of blA_all L h3).2⟩
theorem nx_1 {d : Nat} (h : 1 ≤ d) (hd : d < 2 ^ 31) : ¬ nI d < 1 := nI_nlt (a := d) (b := 1) h hd
theorem nx_99 {d : Nat} (h : d ≤ 99) : nI d ≤ 99 := nI_le (a := d) (b := 99) h (by decide)
theorem nx_g99 {d : Nat} (h : d ≤ 99) : ¬ 99 < nI d := nI_nlt (a := 99) (b := d) h (by decide)
theorem nx_9 {d : Nat} (h : d ≤ 9) : nI d ≤ 9 := nI_le (a := d) (b := 9) h (by decide)
theorem nx_999 {d : Nat} (h : d ≤ 999) : nI d ≤ 999 := nI_le (a := d) (b := 999) h (by decide)
