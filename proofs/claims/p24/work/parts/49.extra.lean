theorem isSm_k {u : Vec} {N : Nat} (hN : u 0 = nI N) (h8 : N ≤ 8) {j : Int32} (h : isSm u j) : ∃ k, k < N ∧ j = nI k ∧ j.toNatClampNeg = k := by
  obtain ⟨h1, h2⟩ := h
  rw [hN] at h2
  have h3 : rng j (nI 0) (nI N) = true := by
    unfold rng
    rw [if_neg (show ¬ j < nI 0 from h1), if_neg (Int32.lt_asymm h2)]
  obtain ⟨k, -, hk, e1, e2⟩ := rng_nI (by omega) h3 (by decide)
  refine ⟨k, ?_, e1, e2⟩
  rcases Nat.lt_or_ge k N with q | q
  · exact q
  · exfalso
    have : k = N := by omega
    subst this
    rw [e1] at h2
    exact Int32.lt_irrefl h2
/-- a question about a smithy -/
def jS (u : Vec) (j : Int32) (F : Nat → Int32) : Int32 := if ¬ j < 0 ∧ j < u 0 then F j.toNatClampNeg else IA
def st0 : Vec := upd (upd (upd (upd (upd (upd (fun _ => 0) 5 100) 3 10) 10 30) 11 10) 12 4) 13 60
