/-! ===== the reference's changes: the answer, and the state then (none: nothing changed) ===== -/
def mo (M M' : Mem) : Option Vec → Mem
  | none => M
  | some w => setp M' 10 w
theorem bI01 (b : Bool) : bI b = 0 ∨ bI b = 1 := by cases b; exact Or.inl rfl; exact Or.inr rfl
def walkM (u : Vec) (v : Int32) : Int32 × Option Vec := if rng v 0 99 = true then (if hB (u 2) v ≤ u 3 then (u 3 - hB (u 2) v, some (upd (upd (upd u 3 (u 3 - hB (u 2) v)) 9 (u 9 + absI (u 2 - v))) 2 v)) else (NP, none)) else (IA, none)
def buyM (u : Vec) (v : Int32) : Int32 × Option Vec := if rng v 1 999 = true then (if u 2 = 0 then (if u 4 + v ≤ 999 then (u 4 + v, some (upd (upd (upd u 4 (u 4 + v)) 5 (u 5 - 2 * v)) 6 (u 6 + 2 * v))) else (LR, none)) else (NP, none)) else (IA, none)
def mendM (u : Vec) (k : Nat) (b : Bool) : Int32 × Option Vec := if whyNot u k b = 0 then (mendR u k b, some (mendU u k b)) else (NP, none)
def collM (u : Vec) (k : Nat) : Int32 × Option Vec := if u 2 = u (14 + 8 * k) then (if u (14 + 8 * k + 5) = 0 then (NP, none) else (pays u k, some (collU u k))) else (NP, none)
def may (w v : Int32) : Bool := if w = 0 then rng v 1 99 else if w = 1 then rng v 1 24 else if w = 2 then rng v 0 20 else rng v 0 500
def setM (u : Vec) (j : Nat) (v : Int32) : Int32 × Option Vec := if may (nI j) v = true then (u (10 + j), some (upd u (10 + j) v)) else (IA, none)
def zeN (u : Vec) (k : Nat) : Nat → Vec
  | 0 => u
  | i + 1 => upd (zeN u k i) (14 + 8 * k + i) 0
def addV (u : Vec) (k : Nat) (v w : Int32) : Vec := upd (upd (upd (upd (zeN u k 8) (14 + 8 * k) v) (14 + 8 * k + 1) w) (14 + 8 * k + 3) 100) 0 (u 0 + 1)
def addM (u : Vec) (n : Nat) (v w : Int32) : Int32 × Option Vec := if rng v 0 99 = true then (if rng w 1 9 = true then (if u 0 = 8 then (LR, none) else (u 0, some (addV u n v w))) else (IA, none)) else (IA, none)
def endM (u : Vec) (n : Nat) (v : Int32) : Int32 × Option Vec := if rng v 1 99 = true then (if u 1 + v ≤ 9999 then (onF 8 (csN (edsU u n v.toNatClampNeg) n) 0, some (edsU u n v.toNatClampNeg)) else (LR, none)) else (IA, none)
theorem zeN_0 (u : Vec) (k j : Nat) (h : j < 14) : ∀ i, zeN u k i j = u j
  | 0 => rfl
  | i + 1 => by rw [zeN, upd_ne _ _ (by omega), zeN_0 u k j h i]
theorem rng_nI {v : Int32} {a b : Nat} (hb : b < 2 ^ 31) (h : rng v (nI a) (nI b) = true) (ha : a < 2 ^ 31) : ∃ j : Nat, a ≤ j ∧ j ≤ b ∧ v = nI j ∧ v.toNatClampNeg = j := by
  unfold rng at h
  split at h
  · cases h
  · next h1 =>
    split at h
    · cases h
    · next h2 =>
      have h0 : ¬ v < 0 := fun q => h1 (Int32.lt_of_lt_of_le q (by have := nI_leI (a := 0) (b := a) (by decide) ha; exact this.mpr (by omega)))
      obtain ⟨j, hj, rfl⟩ := nI_of h0
      refine ⟨j, ?_, ?_, rfl, nI_clamp hj⟩
      · exact Nat.le_of_not_lt fun q => h1 ((nI_ltI hj ha).mpr q)
      · exact Nat.le_of_not_lt fun q => h2 ((nI_ltI hb hj).mpr q)

