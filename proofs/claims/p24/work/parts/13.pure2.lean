/-! ===== more plain functions ===== -/
theorem dayU_j (u : Vec) (k j : Nat) (h8 : j ≠ 8) (h : j < 14) : dayU u k j = u j := by
  simp (disch := omega) only [dayU, upd_ne]
theorem daysU_j (u : Vec) (k j : Nat) (h8 : j ≠ 8) (h : j < 14) : ∀ d, daysU u k d j = u j
  | 0 => rfl
  | d + 1 => by rw [daysU, dayU_j _ _ _ h8 h, daysU_j u k j h8 h d]
theorem allU_j (u : Vec) (d j : Nat) (h8 : j ≠ 8) (h : j < 14) : ∀ n, allU u d n j = u j
  | 0 => rfl
  | n + 1 => by rw [allU, daysU_j _ _ _ h8 h, allU_j u d j h8 h n]
def endS (u : Vec) (n : Nat) (v : Int32) : Int32 × Vec := if v < 1 then (IA, u) else if v ≤ 99 then (if u 1 + v ≤ 9999 then (bitc (csN (endU u n v.toNatClampNeg) n), endU u n v.toNatClampNeg) else (LR, u)) else (IA, u)
theorem small_nI {v : Int32} (h1 : ¬ v < 1) (h2 : v ≤ 99) : ∃ d : Nat, d ≤ 99 ∧ v = nI d ∧ v.toNatClampNeg = d := by
  have h0 : ¬ v < 0 := fun h => h1 (Int32.lt_trans h (by decide))
  obtain ⟨j, hj, rfl⟩ := nI_of2 (n := 99) (M := 99) rfl h0 h2
  exact ⟨j, hj, rfl, nI_clamp (by omega)⟩
/-- the days ahead until it is cold: m days are still looked at, the next is the day e -/
def cdL (c z : Int32) : Nat → Nat → Int32 → Int32 → Int32
  | 0, _, _, _ => 201
  | m + 1, e, w, h => if heatD h (wearD w z) < c then nI e else cdL c z m (e + 1) (wearD w z) (heatD h (wearD w z))
def cda (u : Vec) (k : Nat) : Int32 := if u (14 + 8 * k + 3) < u 10 then 0 else cdL (u 10) (u (14 + 8 * k + 1)) 200 1 (u (14 + 8 * k + 2)) (u (14 + 8 * k + 3))
/-- whether the smithy k comes before the smithy i -/
def cbf (u : Vec) (k i : Nat) : Int32 := if cda u k = cda u i then (if u (14 + 8 * k + 2) = u (14 + 8 * i + 2) then (if absI (u (14 + 8 * i) - u 2) ≤ absI (u (14 + 8 * k) - u 2) then 0 else 1) else (if u (14 + 8 * k + 2) ≤ u (14 + 8 * i + 2) then 0 else 1)) else (if cda u i ≤ cda u k then 0 else 1)
/-- the smithy that should be next among the first n -/
def nxo (u : Vec) : Nat → Option Nat
  | 0 => none
  | i + 1 => if u (14 + 8 * i + 2) ≤ 0 then nxo u i else match nxo u i with
    | none => some i
    | some b => if cbf u i b = 0 then some b else some i
def nxI (o : Option Nat) : Int32 := match o with
  | none => NF
  | some b => nI b
def nxR (ad : Nat → Nat) (p : Nat) (o : Option Nat) : Value := match o with
  | none => .null
  | some b => .ref (ad (8 + 10 * p + b))
theorem nxo_lt (u : Vec) : ∀ (n b : Nat), nxo u n = some b → b < n
  | 0, b, h => by cases h
  | i + 1, b, h => by
    rw [nxo] at h
    split at h
    · have := nxo_lt u i b h; omega
    · cases hq : nxo u i with
      | none =>
        rw [hq] at h
        dsimp only at h
        cases h; omega
      | some c =>
        rw [hq] at h
        dsimp only at h
        have hc := nxo_lt u i c hq
        split at h
        · cases h; omega
        · cases h; omega
def frs (u : Vec) (s : Int32) : Nat → Int32 × Int32
  | 0 => (-1, 100)
  | i + 1 => if s &&& ((1 : Int32) <<< (nI i &&& 31)) = 0 then frs u s i else if (frs u s i).2 ≤ u (14 + 8 * i) then frs u s i else (nI i, u (14 + 8 * i))
theorem fb_asIx (x : Int32) : Int32.ofInt x.toInt = x := Int32.ofInt_toInt x
theorem toInt_of_lit (x : Int32) (n : Nat) (hn : n < 2 ^ 31) (h : x.toInt = (n : Int)) : x = nI n := by
  rw [← fb_asIx x, h]
  rfl
/-- a switch over lo..hi falls to its default -/
theorem sw_out {x : Int32} {lo hi : Int} (h0 : 0 ≤ lo) (h9 : hi < 2147483648) (h : ∀ k : Nat, lo ≤ (k : Int) → (k : Int) ≤ hi → ¬ x = nI k) : x.toInt < lo ∨ hi < x.toInt := by
  by_cases h1 : x.toInt < lo
  · exact Or.inl h1
  · by_cases h2 : hi < x.toInt
    · exact Or.inr h2
    · exfalso
      have e : ((x.toInt.toNat : Nat) : Int) = x.toInt := by omega
      exact h x.toInt.toNat (by omega) (by omega) (toInt_of_lit x _ (by omega) e.symm)

