/-! ===== the reference: what is asked, plain ===== -/
def unN (v p : Vec) (b n : Nat) : Vec := fun k => if k < n then p (b + k) else v k
theorem unN_0 (v p : Vec) (b : Nat) : unN v p b 0 = v := by funext k; simp [unN]
theorem unN_s (v p : Vec) (b i : Nat) : upd (unN v p b i) i (p (b + i)) = unN v p b (i + 1) := by
  funext k
  by_cases h : k = i
  · subst h; rw [upd_at]; simp [unN]
  · rw [upd_ne _ _ h]
    by_cases h2 : k < i
    · have h3 : k < i + 1 := by omega
      simp only [unN, h2, h3, if_true]
    · have h3 : ¬ k < i + 1 := by omega
      simp only [unN, h2, h3, if_false]
theorem rng01 {w : Int32} (h : rng w 0 1 = true) : w = 0 ∨ w = 1 := by
  obtain ⟨j, h1, h2, rfl, -⟩ := rng_nI (a := 0) (b := 1) (by decide) h (by decide)
  have : j = 0 ∨ j = 1 := by omega
  rcases this with rfl | rfl
  · exact Or.inl rfl
  · exact Or.inr rfl
theorem rng01n {w : Int32} (h : rng w 0 1 = false) : ¬ w = 0 ∧ ¬ w = 1 := by
  refine ⟨fun q => ?_, fun q => ?_⟩
  · subst q; exact absurd h (by decide)
  · subst q; exact absurd h (by decide)
def mnT (u : Vec) (k : Nat) (b : Bool) (x : Int32) : Int32 := if x = 0 then hM b else if x = 1 then leatherOf u k b else if x = 2 then owes u k b else wearBM u k b
def mndM (u : Vec) (k : Nat) (w x : Int32) : Int32 := if rng w 0 1 = true then (if rng x 0 3 = true then mnT u k (decide (w = 1)) x else IA) else IA
def cntM (u : Vec) (n : Nat) (hc tc w : Int32) : Int32 :=
  if w = 0 then u 0 else if w = 1 then u 1 else if w = 2 then u 2 else if w = 3 then u 3 else if w = 4 then u 4 else if w = 5 then u 5 else if w = 6 then sumN u 5 n else if w = 7 then u 6 else if w = 8 then u 7
  else if w = 9 then csN u n else if w = 10 then u 8 else if w = 11 then u 9 else if w = 12 then hc else if w = 13 then tc else if rng w 20 23 = true then u (10 + w.toNatClampNeg - 20) else IA
def rndM (u : Vec) (n : Nat) (s w : Int32) : Int32 := if rng s 1 ((1 : Int32) <<< (u 0 &&& 31) - 1) = true then (if rng w 0 2 = true then rdW (rdM u n 8 s (u 2) (0, 0, 0)) w else IA) else IA

