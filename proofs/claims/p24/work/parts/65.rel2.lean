/-! ===== undo, type, clearText side by side; the bounds of each change ===== -/
theorem VOK_mendJ {N : Nat} {u : Vec} (h : VOK N u) (j : Int32) (b : Bool) : VOK N (mendJ u j b).2 := by
  unfold mendJ
  split
  · next q =>
    obtain ⟨k, hk, e1, e2⟩ := isSm_k h.2.1 h.1 (show isSm u j from q)
    rw [e2]; exact VOK_mend h hk b
  · exact h
theorem VOK_collJ {N : Nat} {u : Vec} (h : VOK N u) (j : Int32) : VOK N (collJ u j).2 := VOK_ord h 99 j
theorem VOK_endS {N : Nat} {u : Vec} (h : VOK N u) (v : Int32) : VOK N (endS u N v).2 := VOK_ord h 100 v

