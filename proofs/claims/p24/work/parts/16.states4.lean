/-! ===== orders, the next one, rounds ===== -/
section STATES4
variable {cA : Nat → ClassId} {ad : Nat → Nat} {D : va_G} {M : Mem}
theorem m_X2_mendBellows {p : Nat} (hp : p < 6) {N : Nat} (hN : M.1 p 0 = nI N) (h8 : N ≤ 8) {j : Int32} (b : Bool) : C_X2_mendBellows cA ad D [.ref (ad (6 + 10 * p)), .int j, .int (bI b)] M (Ri (mendJ (M.1 p) j b).1 (setp M p (mendJ (M.1 p) j b).2)) := by
  by_cases h : ¬ j < 0 ∧ j < M.1 p 0
  · obtain ⟨k, hk, hj, hc⟩ := sm_nI hN h8 h
    simp only [mendJ, if_pos h, hc]
    rw [hj]
    exact m_X2_mendBellows_s hp hN h8 hk b
  · simp only [mendJ, if_neg h, setp_self]
    exact m_X2_mendBellows_n hp h b
theorem m_X2_collectDebt {p : Nat} (hp : p < 6) {N : Nat} (hN : M.1 p 0 = nI N) (h8 : N ≤ 8) {j : Int32} : C_X2_collectDebt cA ad D [.ref (ad (6 + 10 * p)), .int j] M (Ri (collJ (M.1 p) j).1 (setp M p (collJ (M.1 p) j).2)) := by
  by_cases h : ¬ j < 0 ∧ j < M.1 p 0
  · obtain ⟨k, hk, hj, hc⟩ := sm_nI hN h8 h
    simp only [collJ, if_pos h, hc]
    rw [hj]
    exact m_X2_collectDebt_s hp hN h8 hk
  · simp only [collJ, if_neg h, setp_self]
    exact m_X2_collectDebt_n hp h

end STATES4

