/-! ===== undo, type, clearText side by side; the bounds of each change ===== -/
theorem rel_undo {M M1 M2 : Mem} {u : Vec} {h : Nat} {hs : Nat → Vec} {t : Nat} {tx : Vec} {N : Nat} (hv : VOK N u) (hh : HOK h hs) (q1 : UndoQ M u h hs t tx M1) (q2 : FM M1 M2 ∧ if h = 0 then MA M2 u h hs t tx else MA M2 (hs (h - 1)) (h - 1) hs t tx) : REL M2 := by
  obtain ⟨f1, c1⟩ := q1
  obtain ⟨f2, c2⟩ := q2
  by_cases q : h = 0
  · rw [if_pos q] at c1 c2
    exact ⟨N, u, h, hs, t, tx, c1.fm f2, c2, hv, hh⟩
  · rw [if_neg q] at c1 c2
    obtain ⟨N', hv'⟩ := hh (h - 1) (by omega)
    exact ⟨N', _, h - 1, hs, t, tx, c1.fm f2, c2, hv', fun i hi => hh i (by omega)⟩
theorem rel_typ {M M1 M2 : Mem} {u : Vec} {h : Nat} {hs : Nat → Vec} {t t' : Nat} {tx tx' : Vec} {N : Nat} (hv : VOK N u) (hh : HOK h hs) (q1 : TypQ M u h hs t' tx' M1) (q2 : FM M1 M2 ∧ MA M2 u h hs t' tx') : REL M2 :=
  ⟨N, u, h, hs, t', tx', q1.2.fm q2.1, q2.2, hv, hh⟩
theorem VOK_mendJ {N : Nat} {u : Vec} (h : VOK N u) (j : Int32) (b : Bool) : VOK N (mendJ u j b).2 := by
  unfold mendJ
  split
  · next q =>
    obtain ⟨k, hk, e1, e2⟩ := isSm_k h.2.1 h.1 (show isSm u j from q)
    rw [e2]; exact VOK_mend h hk b
  · exact h
theorem VOK_collJ {N : Nat} {u : Vec} (h : VOK N u) (j : Int32) : VOK N (collJ u j).2 := VOK_ord h 99 j
theorem VOK_endS {N : Nat} {u : Vec} (h : VOK N u) (v : Int32) : VOK N (endS u N v).2 := VOK_ord h 100 v
