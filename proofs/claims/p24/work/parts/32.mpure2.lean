/-! ===== the reference's loops, plain ===== -/
def cpN (v u : Vec) (i : Nat) : Vec := fun k => if k < i then u k else v k
theorem cpN_0 (v u : Vec) : cpN v u 0 = v := by funext k; simp [cpN]
theorem cpN_s (v u : Vec) (i : Nat) : upd (cpN v u i) i (u i) = cpN v u (i + 1) := by
  funext k
  by_cases h : k = i
  · subst h; rw [upd_at]; simp [cpN]
  · rw [upd_ne _ _ h]
    by_cases h2 : k < i
    · have h3 : k < i + 1 := by omega
      simp only [cpN, h2, h3, if_true]
    · have h3 : ¬ k < i + 1 := by omega
      simp only [cpN, h2, h3, if_false]
def wrN (v u : Vec) (b n : Nat) : Vec := fun k => if b ≤ k ∧ k < b + n then u (k - b) else v k
theorem wrN_0 (v u : Vec) (b : Nat) : wrN v u b 0 = v := by funext k; simp [wrN]; intro h1 h2; omega
theorem wrN_s (v u : Vec) (b i : Nat) : upd (wrN v u b i) (b + i) (u i) = wrN v u b (i + 1) := by
  funext k
  by_cases h : k = b + i
  · subst h
    rw [upd_at]
    have : b ≤ b + i ∧ b + i < b + (i + 1) := by omega
    simp only [wrN, this, and_self, if_true]
    congr 1; omega
  · rw [upd_ne _ _ h]
    by_cases h2 : b ≤ k ∧ k < b + i
    · have h3 : b ≤ k ∧ k < b + (i + 1) := by omega
      simp only [wrN, h2, h3, and_self, if_true]
    · have h3 : ¬ (b ≤ k ∧ k < b + (i + 1)) := by omega
      simp only [wrN, if_neg h2, if_neg h3]
def shN (v : Vec) (n : Nat) : Vec := fun k => if k < n then v (k + 78) else v k
theorem shN_0 (v : Vec) : shN v 0 = v := by funext k; simp [shN]
theorem shN_s (v : Vec) (i : Nat) : upd (shN v i) i (v (i + 78)) = shN v (i + 1) := by
  funext k
  by_cases h : k = i
  · subst h; rw [upd_at]; simp [shN]
  · rw [upd_ne _ _ h]
    by_cases h2 : k < i
    · have h3 : k < i + 1 := by omega
      simp only [shN, h2, h3, if_true]
    · have h3 : ¬ k < i + 1 := by omega
      simp only [shN, h2, h3, if_false]
theorem shN_at (v : Vec) (i : Nat) : shN v i (i + 78) = v (i + 78) := by
  have : ¬ i + 78 < i := by omega
  simp only [shN, this, if_false]
def onF : Nat → Int32 → Int32 → Int32
  | 0, _, n => n
  | m + 1, x, n => if x = 0 then n else onF m (x &&& (x - 1)) (n + 1)
def onZ : Nat → Int32 → Prop
  | 0, x => x = 0
  | m + 1, x => x = 0 ∨ onZ m (x &&& (x - 1))
/-- days of the smithy k till it is cold, the state going on: m more at most -/
def cdR (k : Nat) : Nat → Nat → Vec → Nat × Vec
  | 0, n, w => (n, w)
  | m + 1, n, w => if w (14 + 8 * k + 3) < w 10 then (n, w) else cdR k m (n + 1) (agU w k)
def cdM (u : Vec) (k : Nat) : Int32 := if (cdR k 200 0 u).2 (14 + 8 * k + 3) < (cdR k 200 0 u).2 10 then nI (cdR k 200 0 u).1 else NF
theorem agU_t (u : Vec) {k : Nat} (hk : k < 8) (j : Nat) (hj : 78 ≤ j) : agU u k j = u j := by simp (disch := omega) only [agU, upd_ne]
theorem cdR_t {k : Nat} (hk : k < 8) : ∀ (m n : Nat) (w : Vec) (j : Nat), 78 ≤ j → (cdR k m n w).2 j = w j
  | 0, _, _, _, _ => rfl
  | m + 1, n, w, j, hj => by
    rw [cdR]
    split
    · rfl
    · rw [cdR_t hk m _ _ j hj, agU_t _ hk j hj]
theorem cp_back {u w T : Vec} (h1 : ∀ j, 78 ≤ j → w j = u j) : cpN w (cpN T u 78) 78 = u := by
  funext k
  by_cases h : k < 78
  · simp only [cpN, h, if_true]
  · simp only [cpN, h, if_false]; exact h1 k (by omega)
def aeS (u : Vec) (k i : Nat) : Int32 := if u (14 + 8 * k + 2) = u (14 + 8 * i + 2) then (if absI (u (14 + 8 * i) - u 2) ≤ absI (u (14 + 8 * k) - u 2) then 0 else 1) else (if u (14 + 8 * k + 2) ≤ u (14 + 8 * i + 2) then 0 else 1)
def dyS (x : Int32) : Int32 := if 0 ≤ x then x else 201
def iaS (u : Vec) (k : Nat) (x : Int32) (i : Nat) (y : Int32) : Int32 := if dyS x = dyS y then aeS u k i else (if dyS y ≤ dyS x then 0 else 1)
def nxM (u : Vec) : Nat → Option Nat × Int32
  | 0 => (none, 0)
  | i + 1 => if u (14 + 8 * i + 2) ≤ 0 then nxM u i else match nxM u i with
    | (none, _) => (some i, cdM u i)
    | (some b, y) => if iaS u i (cdM u i) b y = 0 then (some b, y) else (some i, cdM u i)
theorem nxM_lt (u : Vec) : ∀ (n b : Nat) (y : Int32), nxM u n = (some b, y) → b < n
  | 0, b, y, h => by cases h
  | i + 1, b, y, h => by
    rw [nxM] at h
    split at h
    · have := nxM_lt u i b y h; omega
    · cases hq : nxM u i with
      | mk o z =>
        rw [hq] at h
        cases o with
        | none => dsimp only at h; cases h; omega
        | some c =>
          dsimp only at h
          have hc := nxM_lt u i c z hq
          split at h
          · cases h; omega
          · cases h; omega
def neM (u : Vec) (s : Int32) : Nat → Option Nat
  | 0 => none
  | i + 1 => if (s >>> (nI i &&& 31)) &&& 1 = 1 then (match neM u s i with
    | none => some i
    | some b => if u (14 + 8 * b) ≤ u (14 + 8 * i) then some b else some i) else neM u s i
theorem neM_lt (u : Vec) (s : Int32) : ∀ (n b : Nat), neM u s n = some b → b < n
  | 0, b, h => by cases h
  | i + 1, b, h => by
    rw [neM] at h
    split at h
    · cases hq : neM u s i with
      | none => rw [hq] at h; dsimp only at h; cases h; omega
      | some c =>
        rw [hq] at h
        dsimp only at h
        have hc := neM_lt u s i c hq
        split at h
        · cases h; omega
        · cases h; omega
    · have := neM_lt u s i b h; omega
def rdM (u : Vec) (n : Nat) : Nat → Int32 → Int32 → Int32 × Int32 × Int32 → Int32 × Int32 × Int32
  | 0, _, _, q => q
  | m + 1, s, pl, q => if s = 0 then q else match neM u s n with
    | none => q
    | some k => rdM u n m (s ^^^ ((1 : Int32) <<< (nI k &&& 31))) (u (14 + 8 * k))
        (if u 13 < u (14 + 8 * k + 5) then (q.1 + (hB pl (u (14 + 8 * k)) + 0), q.2.1 + 0, q.2.2 + 0)
         else if u (14 + 8 * k + 2) ≤ 0 then (q.1 + (hB pl (u (14 + 8 * k)) + 0), q.2.1 + 0, q.2.2 + 0)
         else (q.1 + (hB pl (u (14 + 8 * k)) + hM false), q.2.1 + leatherOf u k false, q.2.2 + owes u k false))
def GdM (u : Vec) (n : Nat) (P : Nat → Int32 → Prop) : Prop := (∀ s, P 0 s → s = 0) ∧ ∀ m s, P (m + 1) s → s ≠ 0 → ∃ k, k < n ∧ neM u s n = some k ∧ P m (s ^^^ ((1 : Int32) <<< (nI k &&& 31)))

