/-! ===== orders, rounds ===== -/
def mendJ (u : Vec) (j : Int32) (b : Bool) : Int32 × Vec := if ¬ j < 0 ∧ j < u 0 then mendS u j.toNatClampNeg b else (IA, u)
def collJ (u : Vec) (j : Int32) : Int32 × Vec := if ¬ j < 0 ∧ j < u 0 then collS u j.toNatClampNeg else (IA, u)
theorem sm_nI {u : Vec} {j : Int32} {N : Nat} (hN : u 0 = nI N) (h8 : N ≤ 8) (h : ¬ j < 0 ∧ j < u 0) : ∃ k, k < N ∧ j = nI k ∧ j.toNatClampNeg = k := by
  obtain ⟨k, hk, rfl⟩ := nI_of h.1
  have h2 := h.2
  rw [hN] at h2
  exact ⟨k, (nI_ltI hk (by omega)).mp h2, rfl, nI_clamp hk⟩
def ordS (u : Vec) (n : Nat) (c v : Int32) : Int32 × Vec := if c = 119 then walkS u v else if c = 98 then buyS u v else if c = 112 then mendJ u v false else if c = 104 then mendJ u v true else if c = 99 then collJ u v else endS u n v
/-- the way of a round: m steps at most; the set that is left, the place, what was used -/
def rdC (u : Vec) (n : Nat) : Nat → Int32 → Int32 → Int32 × Int32 × Int32 → Int32 × Int32 × Int32
  | 0, _, _, q => q
  | m + 1, s, pl, q => if s = 0 then q else
    rdC u n m (s &&& (((1 : Int32) <<< ((frs u s n).1 &&& 31)) ^^^ (-1))) (u (14 + 8 * (frs u s n).1.toNatClampNeg))
      (if rsn u (frs u s n).1.toNatClampNeg = 0 then (q.1 + hB pl (u (14 + 8 * (frs u s n).1.toNatClampNeg)) + hM false, q.2.1 + leatherOf u (frs u s n).1.toNatClampNeg false, q.2.2 + owes u (frs u s n).1.toNatClampNeg false)
       else (q.1 + hB pl (u (14 + 8 * (frs u s n).1.toNatClampNeg)), q.2.1, q.2.2))
def rdW (q : Int32 × Int32 × Int32) (w : Int32) : Int32 := if w = 0 then q.1 else if w = 1 then q.2.1 else q.2.2
/-- every set that can be left has a smithy to go to -/
def Gd (u : Vec) (n : Nat) (P : Int32 → Prop) : Prop := ∀ s, P s → s ≠ 0 → (∃ k, k < n ∧ (frs u s n).1 = nI k) ∧ P (s &&& (((1 : Int32) <<< ((frs u s n).1 &&& 31)) ^^^ (-1)))

