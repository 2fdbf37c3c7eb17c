/-! ===== the reference's own ways of saying it ===== -/
theorem neg0 (v : Int32) : -v = 0 - v := by rw [Int32.zero_sub]
def agW (u : Vec) (k : Nat) : Int32 := if u (14 + 8 * k + 2) + u (14 + 8 * k + 1) / 2 + 1 ≤ 100 then u (14 + 8 * k + 2) + u (14 + 8 * k + 1) / 2 + 1 else 100
def agT (u : Vec) (k : Nat) : Int32 := u (14 + 8 * k + 3) + (if agW u k / 10 = 0 then 10 else -2 * (agW u k / 10))
def agH (u : Vec) (k : Nat) : Int32 := if agT u k ≤ 100 then (if 0 ≤ agT u k then agT u k else 0) else 100
def agC (u : Vec) (k : Nat) : Int32 := if agH u k < u 10 then u (14 + 8 * k + 4) + 1 else 0
def agU (u : Vec) (k : Nat) : Vec := upd (upd (upd (upd u (14 + 8 * k + 2) (agW u k)) (14 + 8 * k + 3) (agH u k)) (14 + 8 * k + 4) (agC u k)) 8 (if agC u k ≤ u 8 then u 8 else agC u k)
theorem idx3 (k j : Nat) : (14 : Int32) + 8 * nI k + nI j = nI (14 + 8 * k + j) := by
  rw [show (8 : Int32) = nI 8 from rfl, show (14 : Int32) = nI 14 from rfl, pk_mul, nI_add, nI_add]
/-- all smithies age by a day: the first n of them -/
def agsU (u : Vec) : Nat → Vec
  | 0 => u
  | n + 1 => agU (agsU u n) n
def edU (u : Vec) (n : Nat) : Vec := upd (upd (agsU u n) 1 (u 1 + 1)) 3 (u 11)
def edsU (u : Vec) (n : Nat) : Nat → Vec
  | 0 => u
  | d + 1 => edU (edsU u n d) n
theorem agU_j (u : Vec) (k j : Nat) (h8 : j ≠ 8) (h : j < 14) : agU u k j = u j := by simp (disch := omega) only [agU, upd_ne]
theorem agsU_j (u : Vec) (j : Nat) (h8 : j ≠ 8) (h : j < 14) : ∀ n, agsU u n j = u j
  | 0 => rfl
  | n + 1 => by rw [agsU, agU_j _ _ _ h8 h, agsU_j u j h8 h n]
theorem edU_0 (u : Vec) (n : Nat) : edU u n 0 = u 0 := by
  unfold edU
  rw [upd_ne _ _ (by decide), upd_ne _ _ (by decide), agsU_j _ _ (by decide) (by decide)]
theorem edsU_0 (u : Vec) (n : Nat) : ∀ d, edsU u n d 0 = u 0
  | 0 => rfl
  | d + 1 => by rw [edsU, edU_0, edsU_0 u n d]

