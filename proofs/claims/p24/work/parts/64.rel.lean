/-! ===== the object and the reference side by side ===== -/
def HOK (h : Nat) (hs : Nat → Vec) : Prop := ∀ i, i < h → ∃ N, VOK N (hs i)
theorem HOK_push {N h : Nat} {hs : Nat → Vec} {u : Vec} (h4 : h ≤ 4) (hh : HOK h hs) (hv : VOK N u) : HOK (psh h) (push h hs u) := by
  intro i hi
  unfold psh at hi
  unfold push
  by_cases q : h = 4
  · rw [if_pos q] at hi
    rw [if_pos q]
    by_cases e : i = 3
    · rw [if_pos e]; exact ⟨N, hv⟩
    · rw [if_neg e]; exact hh (i + 1) (by omega)
  · rw [if_neg q] at hi
    rw [if_neg q]
    by_cases e : i = h
    · rw [if_pos e]; exact ⟨N, hv⟩
    · rw [if_neg e]; exact hh i (by omega)
theorem VOK_fresh : VOK 0 st0 := by
  refine ⟨by decide, rfl, ?_, ?_, ?_, ?_, ?_, ?_, fun k hk => absurd hk (Nat.not_lt_zero k)⟩ <;> (unfold bd; decide)

