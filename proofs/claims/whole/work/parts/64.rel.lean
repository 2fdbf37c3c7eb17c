/-! ===== the object and the reference side by side ===== -/
def HOK (h : Nat) (hs : Nat → Vec) : Prop := ∀ i, i < h → ∃ N, VOK N (hs i)
def REL (M : Mem) : Prop := ∃ (N : Nat) (u : Vec) (h : Nat) (hs : Nat → Vec) (t : Nat) (tx : Vec), CA M u h hs t tx ∧ MA M u h hs t tx ∧ VOK N u ∧ HOK h hs
theorem HOK_push {N h : Nat} {hs : Nat → Vec} {u : Vec} (h4 : h ≤ 4) (hh : HOK h hs) (hv : VOK N u) : HOK (psh h) (push h hs u) := by
  intro i hi
  unfold psh at hi
  unfold push
  by_cases q : h = 4
  · rw [if_pos q] at hi
    rw [if_pos q]
    by_cases e : i = 3
    · rw [if_pos e]; exact ⟨N, hv⟩
    · rw [if_neg e]; exact hh (i + 1) (by omega)
  · rw [if_neg q] at hi
    rw [if_neg q]
    by_cases e : i = h
    · rw [if_pos e]; exact ⟨N, hv⟩
    · rw [if_neg e]; exact hh i (by omega)
theorem rel_op {M M1 M2 : Mem} {u : Vec} {h : Nat} {hs : Nat → Vec} {t : Nat} {tx : Vec} {S : Int32 × Vec} {N N' : Nat} (hm : MA M u h hs t tx) (hv : VOK N u) (hh : HOK h hs) (hv' : VOK N' S.2) (q1 : OpQ M u h hs t tx S M1) (q2 : OpM M1 u h hs t tx S M2) : REL M2 := by
  obtain ⟨f1, c1⟩ := q1
  obtain ⟨f2, c2⟩ := q2
  by_cases q : S.1 < 0
  · rw [if_pos q] at c1 c2
    exact ⟨N, u, h, hs, t, tx, c1.fm f2, c2, hv, hh⟩
  · rw [if_neg q] at c1 c2
    exact ⟨N', S.2, psh h, push h hs u, t, tx, c1.fm f2, c2, hv', HOK_push hm.2.2.1 hh hv⟩
theorem rel_same {M M1 M2 : Mem} {u : Vec} {h : Nat} {hs : Nat → Vec} {t : Nat} {tx : Vec} {N : Nat} (hv : VOK N u) (hh : HOK h hs) (q1 : SmC M u h hs t tx M1) (q2 : SmM M1 u h hs t tx M2) : REL M2 :=
  ⟨N, u, h, hs, t, tx, q1.2.fm q2.1, q2.2, hv, hh⟩
theorem VOK_fresh : VOK 0 st0 := by
  refine ⟨by decide, rfl, ?_, ?_, ?_, ?_, ?_, ?_, fun k hk => absurd hk (Nat.not_lt_zero k)⟩ <;> (unfold bd; decide)
