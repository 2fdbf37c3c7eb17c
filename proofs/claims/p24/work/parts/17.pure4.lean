/-! ===== the text ===== -/
def chr (tx : Vec) (t j : Nat) : Int32 := if j < t then tx j else -1
def isL (c : Int32) : Bool := if c = 98 then true else if c = 99 then true else if c = 100 then true else if c = 104 then true else if c = 112 then true else if c = 119 then true else false
/-- the digits behind the letter at s: m at most are still read, e were -/
def dgs (f : Nat → Int32) (s : Nat) : Nat → Nat → Int32 → Nat × Int32
  | 0, e, n => (e, n)
  | m + 1, e, n => if rng (f (s + 1 + e)) 48 57 = true then dgs f s m (e + 1) (n * 10 + f (s + 1 + e) - 48) else (e, n)
theorem dgs_le (f : Nat → Int32) (s : Nat) : ∀ (m e : Nat) (n : Int32), (dgs f s m e n).1 ≤ e + m
  | 0, e, n => by simp [dgs]
  | m + 1, e, n => by
    rw [dgs]
    split
    · have := dgs_le f s m (e + 1) (n * 10 + f (s + 1 + e) - 48); omega
    · show e ≤ _; omega
def roS (o : Vec) (f : Nat → Int32) (s : Nat) : Int32 × Vec :=
  if isL (f s) = true then
    (if (dgs f s 3 0 0).1 = 0 then (0, upd (upd (upd o 1 (f s)) 2 (dgs f s 3 0 0).2) 4 (1 + nI (dgs f s 3 0 0).1))
     else if f (s + 1 + (dgs f s 3 0 0).1) = 59 then (1, upd (upd (upd o 1 (f s)) 2 (dgs f s 3 0 0).2) 3 (nI (s + 2 + (dgs f s 3 0 0).1)))
     else (0, upd (upd (upd o 1 (f s)) 2 (dgs f s 3 0 0).2) 4 (1 + nI (dgs f s 3 0 0).1)))
  else (0, upd (upd o 1 (f s)) 4 0)
theorem six_out {c : Int32} (h0 : ¬ c = 98) (h1 : ¬ c = 99) (h2 : ¬ c = 100) (h3 : ¬ c = 104) (h4 : ¬ c = 112) (h5 : ¬ c = 119) {a b d e f g z : Int} : lookupswitch.offset [(98, a), (99, b), (100, d), (104, e), (112, f), (119, g)] z c.toInt = z := by
  have k : ∀ (n : Nat), n < 2 ^ 31 → ¬ c = nI n → ¬ (n : Int) = c.toInt := fun n hn h q => h (toInt_of_lit c n hn q.symm)
  have e0 : ¬ (98 : Int) = c.toInt := k 98 (by decide) h0
  have e1 : ¬ (99 : Int) = c.toInt := k 99 (by decide) h1
  have e2 : ¬ (100 : Int) = c.toInt := k 100 (by decide) h2
  have e3 : ¬ (104 : Int) = c.toInt := k 104 (by decide) h3
  have e4 : ¬ (112 : Int) = c.toInt := k 112 (by decide) h4
  have e5 : ¬ (119 : Int) = c.toInt := k 119 (by decide) h5
  simp only [lookupswitch.offset]
  rw [if_neg e0, if_neg e1, if_neg e2, if_neg e3, if_neg e4, if_neg e5]
theorem pos3 (s a e : Nat) : nI s + nI a + nI e = nI (s + a + e) := by rw [nI_add, nI_add]

