/-! ===== the orders of a text, as a plain run ===== -/
def zv : Vec := fun _ => 0
def runA (f : Nat → Int32) (t N : Nat) : Nat → Nat → Vec → Int32 → Int32 × Vec × Int32 × Int32 × Int32 × Int32
  | 0, _, w, c => (1, w, c, 0, 0, 0)
  | m + 1, s, w, c => if s < t then
      (if (roS zv f s).1 = 0 then (0, w, c, nI s, 1, (roS zv f s).2 4)
       else if (ordS w N (f s) ((roS zv f s).2 2)).1 < 0 then (0, (ordS w N (f s) ((roS zv f s).2 2)).2, c, nI s, 2, (ordS w N (f s) ((roS zv f s).2 2)).1)
       else runA f t N m (s + 2 + (dgs f s 3 0 0).1) (ordS w N (f s) ((roS zv f s).2 2)).2 (c + 1))
    else (1, w, c, 0, 0, 0)
theorem roS_any (o o' : Vec) (f : Nat → Int32) (s : Nat) : (roS o f s).1 = (roS o' f s).1 ∧ ((roS o f s).1 = 0 → (roS o f s).2 4 = (roS o' f s).2 4) ∧ (¬ (roS o f s).1 = 0 → (roS o f s).2 2 = (roS o' f s).2 2) := by
  unfold roS
  split
  · split
    · simp (disch := omega) only [upd_ne, upd_at]
      simp
    · split
      · simp (disch := omega) only [upd_ne, upd_at]
        simp
      · simp (disch := omega) only [upd_ne, upd_at]
        simp
  · simp (disch := omega) only [upd_ne, upd_at]
    simp
theorem tryF_run (f : Nat → Int32) (t N : Nat) : ∀ (m s : Nat) (w o b : Vec),
    (tryF f t N m s w o b).1 = (runA f t N m s w (b 1)).1 ∧ (tryF f t N m s w o b).2.1 = (runA f t N m s w (b 1)).2.1 ∧ (tryF f t N m s w o b).2.2.2 1 = (runA f t N m s w (b 1)).2.2.1 ∧
    ((runA f t N m s w (b 1)).1 = 0 → (tryF f t N m s w o b).2.2.2 2 = (runA f t N m s w (b 1)).2.2.2.1 ∧ (tryF f t N m s w o b).2.2.2 3 = (runA f t N m s w (b 1)).2.2.2.2.1 ∧ (tryF f t N m s w o b).2.2.2 4 = (runA f t N m s w (b 1)).2.2.2.2.2) ∧
    (tryF f t N m s w o b).2.2.1 0 = o 0 ∧ (tryF f t N m s w o b).2.2.2 0 = b 0 := by
  intro m
  induction m with
  | zero =>
    intro s w o b
    refine ⟨rfl, rfl, rfl, fun h => absurd h (show ¬ (1 : Int32) = 0 by decide), rfl, rfl⟩
  | succ m ih =>
    intro s w o b
    rw [tryF, runA]
    by_cases hs : s < t
    · rw [if_pos hs, if_pos hs]
      obtain ⟨a1, a2, a3⟩ := roS_any o zv f s
      rw [roS_1]
      by_cases h0 : (roS o f s).1 = 0
      · have hz : (roS zv f s).1 = 0 := a1.symm.trans h0
        rw [if_pos h0, if_pos hz]
        refine ⟨rfl, rfl, ?_, fun _ => ⟨?_, ?_, ?_⟩, roS_0 _ _ _, ?_⟩
        · simp (disch := omega) only [upd_ne]
        · simp (disch := omega) only [upd_ne, upd_at]
        · simp (disch := omega) only [upd_ne, upd_at]
        · simp (disch := omega) only [upd_at]
          exact a2 h0
        · simp (disch := omega) only [upd_ne]
      · have hz : ¬ (roS zv f s).1 = 0 := fun q => h0 (a1.trans q)
        rw [if_neg h0, if_neg hz, a3 h0]
        by_cases h1 : (ordS w N (f s) ((roS zv f s).2 2)).1 < 0
        · rw [if_pos h1, if_pos h1]
          refine ⟨rfl, rfl, ?_, fun _ => ⟨?_, ?_, ?_⟩, roS_0 _ _ _, ?_⟩
          · simp (disch := omega) only [upd_ne]
          · simp (disch := omega) only [upd_ne, upd_at]
          · simp (disch := omega) only [upd_ne, upd_at]
          · simp (disch := omega) only [upd_at]
          · simp (disch := omega) only [upd_ne]
        · rw [if_neg h1, if_neg h1]
          have k := ih (s + 2 + (dgs f s 3 0 0).1) (ordS w N (f s) ((roS zv f s).2 2)).2 (roS o f s).2 (upd b 1 (b 1 + 1))
          rw [upd_at, roS_0, upd_ne b _ (show (0 : Nat) ≠ 1 by decide)] at k
          exact k
    · rw [if_neg hs, if_neg hs]
      exact ⟨rfl, rfl, rfl, fun h => absurd h (show ¬ (1 : Int32) = 0 by decide), rfl, rfl⟩
theorem runA_c (f : Nat → Int32) (t : Nat) {N : Nat} (h8 : N ≤ 8) : ∀ (m s : Nat) (w u : Vec) (c : Int32), AN N w u → u 0 = nI N →
    (runA f t N m s w c).1 = (runA f t N m s u c).1 ∧ AN N (runA f t N m s w c).2.1 (runA f t N m s u c).2.1 ∧ (runA f t N m s w c).2.2 = (runA f t N m s u c).2.2 ∧ (runA f t N m s u c).2.1 0 = nI N := by
  intro m
  induction m with
  | zero => intro s w u c h hu; exact ⟨rfl, h, rfl, hu⟩
  | succ m ih =>
    intro s w u c h hu
    rw [runA, runA]
    by_cases hs : s < t
    · rw [if_pos hs, if_pos hs]
      by_cases h0 : (roS zv f s).1 = 0
      · rw [if_pos h0, if_pos h0]
        exact ⟨rfl, h, rfl, hu⟩
      · rw [if_neg h0, if_neg h0]
        obtain ⟨o1, o2⟩ := ordS_c h h8 hu (f s) ((roS zv f s).2 2)
        have hu2 : (ordS u N (f s) ((roS zv f s).2 2)).2 0 = nI N := by rw [ordS_0]; exact hu
        rw [o1]
        by_cases h1 : (ordS u N (f s) ((roS zv f s).2 2)).1 < 0
        · rw [if_pos h1, if_pos h1]
          exact ⟨rfl, o2, rfl, hu2⟩
        · rw [if_neg h1, if_neg h1]
          exact ih _ _ _ _ o2 hu2
    · rw [if_neg hs, if_neg hs]
      exact ⟨rfl, h, rfl, hu⟩
theorem runA_n (f : Nat → Int32) (t N : Nat) : ∀ (m s : Nat) (w : Vec) (k : Nat), ∃ j, j ≤ k + m ∧ (runA f t N m s w (nI k)).2.2.1 = nI j := by
  intro m
  induction m with
  | zero => intro s w k; exact ⟨k, by omega, rfl⟩
  | succ m ih =>
    intro s w k
    rw [runA]
    split
    · split
      · exact ⟨k, by omega, rfl⟩
      · split
        · exact ⟨k, by omega, rfl⟩
        · rw [nI_1]
          obtain ⟨j, hj, e⟩ := ih (s + 2 + (dgs f s 3 0 0).1) (ordS w N (f s) ((roS zv f s).2 2)).2 (k + 1)
          exact ⟨j, by omega, e⟩
    · exact ⟨k, by omega, rfl⟩
def playS (f : Nat → Int32) (t N : Nat) (u : Vec) : Int32 × Vec := if (runA f t N 60 0 u 0).1 = 0 then (NP, u) else ((runA f t N 60 0 u 0).2.2.1, (runA f t N 60 0 u 0).2.1)
def fltS (f : Nat → Int32) (t N : Nat) (u : Vec) (w : Int32) : Int32 := if w < 0 then IA else if w ≤ 2 then (if (runA f t N 60 0 u 0).1 = 0 then (if w = 0 then (runA f t N 60 0 u 0).2.2.2.1 else if w = 1 then (runA f t N 60 0 u 0).2.2.2.2.1 else (runA f t N 60 0 u 0).2.2.2.2.2) else NF) else IA
def typS (t : Nat) (tx : Vec) (v : Int32) : Int32 × Nat × Vec := if v < 32 then (IA, t, tx) else if v ≤ 126 then (if t = 60 then (LR, t, tx) else (nI (t + 1), t + 1, upd tx t v)) else (IA, t, tx)
theorem chr_eq {a b : Vec} {t : Nat} (h : ∀ i, i < t → a i = b i) : chr a t = chr b t := by
  funext j
  unfold chr
  by_cases q : j < t
  · rw [if_pos q, if_pos q]; exact h j q
  · rw [if_neg q, if_neg q]
theorem walkS_0 (u : Vec) (x : Int32) : (walkS u x).2 0 = u 0 := by have := ordS_0 u 0 119 x; simpa [ordS] using this
theorem buyS_0 (u : Vec) (x : Int32) : (buyS u x).2 0 = u 0 := by have := ordS_0 u 0 98 x; simpa [ordS] using this
theorem mendJ_0 (u : Vec) (x : Int32) (b : Bool) : (mendJ u x b).2 0 = u 0 := by
  cases b
  · have := ordS_0 u 0 112 x; simpa [ordS] using this
  · have := ordS_0 u 0 104 x; simpa [ordS] using this
theorem collJ_0 (u : Vec) (x : Int32) : (collJ u x).2 0 = u 0 := by have := ordS_0 u 0 99 x; simpa [ordS] using this
theorem endS_0 (u : Vec) (n : Nat) (x : Int32) : (endS u n x).2 0 = u 0 := by have := ordS_0 u n 100 x; simpa [ordS] using this
theorem setS_0 (u : Vec) (w x : Int32) : (setS u w x).2 0 = u 0 := by
  unfold setS
  split
  · split
    · simp (disch := omega) only [upd_ne]
    · split
      · simp (disch := omega) only [upd_ne]
      · split <;> simp (disch := omega) only [upd_ne]
  · rfl
theorem chr_of {v : Int32} (h1 : ¬ v < 32) (h2 : v ≤ 126) : (v.toUInt32 % 65536).toInt32 = v ∧ vp_nar .char v = v := by
  have h0 : ¬ v < 0 := fun h => h1 (Int32.lt_trans h (by decide))
  obtain ⟨j, hj, rfl⟩ := nI_of2 (n := 126) (M := 126) rfl h0 h2
  refine ⟨?_, ?_⟩
  · rw [pk_char, pk_tn (by omega), Nat.mod_eq_of_lt (by omega)]
  · unfold vp_nar
    rw [(pk_charN (q := j) (by omega)).1]

