/-! ===== the object's own rows ===== -/
def rot1 (r : Nat → Nat) (i : Nat) : Nat → Nat := va_up (va_up r (2 + i) (r (2 + (i + 1)))) (2 + (i + 1)) (r (2 + i))
def rot (r : Nat → Nat) : Nat → Nat := rot1 (rot1 (rot1 r 0) 1) 2
def swp (M : Mem) : Mem := (M.1, va_up (va_up M.2 0 (M.2 1)) 1 (M.2 0))
theorem rot1_lt {r : Nat → Nat} (h : ∀ i, i < 6 → r i < 6) {i : Nat} (hi : i < 3) : ∀ j, j < 6 → rot1 r i j < 6 := by
  intro j hj
  unfold rot1 va_up
  split
  · exact h _ (by omega)
  · split
    · exact h _ (by omega)
    · exact h _ hj
theorem rot_v (r : Nat → Nat) : rot r 0 = r 0 ∧ rot r 1 = r 1 ∧ rot r 2 = r 3 ∧ rot r 3 = r 4 ∧ rot r 4 = r 5 ∧ rot r 5 = r 2 := by
  simp [rot, rot1, va_up]
theorem rot_lt {r : Nat → Nat} (h : ∀ i, i < 6 → r i < 6) : ∀ j, j < 6 → rot r j < 6 := rot1_lt (rot1_lt (rot1_lt h (by decide)) (by decide)) (by decide)
def M3 (M : Mem) (p : Nat) (w o b : Vec) : Mem := setp (setp (setp M p w) 6 o) 8 b
theorem M3_r (M : Mem) (p : Nat) (w o b : Vec) : (M3 M p w o b).2 = M.2 := rfl
theorem M3_8 (M : Mem) (p : Nat) (w o b : Vec) : (M3 M p w o b).1 8 = b := setp_at _ _ _
theorem M3_6 (M : Mem) (p : Nat) (w o b : Vec) : (M3 M p w o b).1 6 = o := by rw [M3, setp_ne _ _ (by decide), setp_at]
theorem M3_p (M : Mem) {p : Nat} (hp : p < 6) (w o b : Vec) : (M3 M p w o b).1 p = w := by rw [M3, setp_ne _ _ (by omega), setp_ne _ _ (by omega), setp_at]
theorem M3_q (M : Mem) {p q : Nat} (w o b : Vec) (h1 : q ≠ p) (h2 : q ≠ 6) (h3 : q ≠ 8) : (M3 M p w o b).1 q = M.1 q := by rw [M3, setp_ne _ _ h3, setp_ne _ _ h2, setp_ne _ _ h1]
theorem M3_s8 (M : Mem) (p : Nat) (w o b b' : Vec) : setp (M3 M p w o b) 8 b' = M3 M p w o b' := setp_2 _ _ _ _
theorem M3_s6 (M : Mem) (p : Nat) (w o b o' : Vec) : setp (M3 M p w o b) 6 o' = M3 M p w o' b := by
  rw [M3, setp_swap _ _ _ (by decide), setp_2]; rfl
theorem M3_sp (M : Mem) {p : Nat} (hp : p < 6) (w o b w' : Vec) : setp (M3 M p w o b) p w' = M3 M p w' o b := by
  unfold M3
  rw [setp_swap (setp (setp M p w) 6 o) b w' (show 8 ≠ p by omega), setp_swap (setp M p w) o w' (show 6 ≠ p by omega), setp_2]
theorem M3_self (M : Mem) {p : Nat} (hp : p < 6) : M3 M p (M.1 p) (M.1 6) (M.1 8) = M := by
  rw [M3, setp_self, setp_self, setp_self]
def tryF (f : Nat → Int32) (t N : Nat) : Nat → Nat → Vec → Vec → Vec → Int32 × Vec × Vec × Vec
  | 0, _, w, o, b => (1, w, o, b)
  | m + 1, s, w, o, b => if s < t then
      (if (roS o f s).1 = 0 then (0, w, (roS o f s).2, upd (upd (upd b 2 (nI s)) 3 1) 4 ((roS o f s).2 4))
       else if (ordS w N ((roS o f s).2 1) ((roS o f s).2 2)).1 < 0 then (0, (ordS w N ((roS o f s).2 1) ((roS o f s).2 2)).2, (roS o f s).2, upd (upd (upd b 2 (nI s)) 3 2) 4 (ordS w N ((roS o f s).2 1) ((roS o f s).2 2)).1)
       else tryF f t N m (s + 2 + (dgs f s 3 0 0).1) (ordS w N ((roS o f s).2 1) ((roS o f s).2 2)).2 (roS o f s).2 (upd b 1 (b 1 + 1)))
    else (1, w, o, b)
theorem roS_0 (o : Vec) (f : Nat → Int32) (s : Nat) : (roS o f s).2 0 = o 0 := by
  unfold roS
  split
  · split
    · simp (disch := omega) only [upd_ne]
    · split <;> simp (disch := omega) only [upd_ne]
  · simp (disch := omega) only [upd_ne]
theorem roS_1 (o : Vec) (f : Nat → Int32) (s : Nat) : (roS o f s).2 1 = f s := by
  unfold roS
  split
  · split
    · simp (disch := omega) only [upd_ne, upd_at]
    · split <;> simp (disch := omega) only [upd_ne, upd_at]
  · simp (disch := omega) only [upd_ne, upd_at]
theorem roS_ok {o : Vec} {f : Nat → Int32} {s : Nat} (h : ¬ (roS o f s).1 = 0) : isL (f s) = true ∧ (roS o f s).2 3 = nI (s + 2 + (dgs f s 3 0 0).1) := by
  unfold roS at h ⊢
  split at h
  · next h1 =>
    refine ⟨h1, ?_⟩
    rw [if_pos h1]
    split at h
    · exact absurd rfl h
    · next h2 =>
      rw [if_neg h2]
      split at h
      · next h3 =>
        rw [if_pos h3]
        simp (disch := omega) only [upd_ne, upd_at]
      · exact absurd rfl h
  · exact absurd rfl h
theorem isL_of {c : Int32} (h : isL c = true) : c = 119 ∨ c = 98 ∨ c = 112 ∨ c = 104 ∨ c = 99 ∨ c = 100 := by
  unfold isL at h
  split at h
  · next q => exact Or.inr (Or.inl q)
  · split at h
    · next q => exact Or.inr (Or.inr (Or.inr (Or.inr (Or.inl q))))
    · split at h
      · next q => exact Or.inr (Or.inr (Or.inr (Or.inr (Or.inr q))))
      · split at h
        · next q => exact Or.inr (Or.inr (Or.inr (Or.inl q)))
        · split at h
          · next q => exact Or.inr (Or.inr (Or.inl q))
          · split at h
            · next q => exact Or.inl q
            · cases h
theorem mendU_0 (u : Vec) (k : Nat) (b : Bool) : mendU u k b 0 = u 0 := by simp (disch := omega) only [mendU, upd_ne]
theorem ordS_0 (u : Vec) (n : Nat) (c v : Int32) : (ordS u n c v).2 0 = u 0 := by
  have hm : ∀ b, (mendJ u v b).2 0 = u 0 := fun b => by
    unfold mendJ mendS
    split
    · split
      · exact mendU_0 u v.toNatClampNeg b
      · rfl
    · rfl
  have hc : (collJ u v).2 0 = u 0 := by
    unfold collJ collS
    split
    · split
      · split
        · simp (disch := omega) only [collU, upd_ne]
        · rfl
      · rfl
    · rfl
  have hw : (walkS u v).2 0 = u 0 := by
    unfold walkS
    split
    · rfl
    · split
      · split
        · simp (disch := omega) only [walkU, upd_ne]
        · rfl
      · rfl
  have hb : (buyS u v).2 0 = u 0 := by
    unfold buyS
    split
    · rfl
    · split
      · split
        · split
          · simp (disch := omega) only [buyU, upd_ne]
          · rfl
        · rfl
      · rfl
  have he : (endS u n v).2 0 = u 0 := by
    unfold endS
    split
    · rfl
    · split
      · split
        · simp (disch := omega) only [endU, upd_ne]
          exact allU_j _ _ _ (by decide) (by decide) _
        · rfl
      · rfl
  unfold ordS
  split
  · exact hw
  · split
    · exact hb
    · split
      · exact hm _
      · split
        · exact hm _
        · split
          · exact hc
          · exact he

