/-! ===== the reference's text, plain ===== -/
def mat (tx : Vec) (t s : Nat) (a b : Int32) : Bool := if s < t then rng (tx s) a b else false
theorem mat_chr (tx : Vec) (t s : Nat) {a b : Int32} (h : (-1 : Int32) < a) : mat tx t s a b = rng (chr tx t s) a b := by
  unfold mat chr
  by_cases q : s < t
  · rw [if_pos q, if_pos q]
  · rw [if_neg q, if_neg q]; unfold rng; rw [if_pos h]
theorem mat_lt {tx : Vec} {t s : Nat} {a b : Int32} (h : mat tx t s a b = true) : s < t ∧ rng (tx s) a b = true := by
  unfold mat at h
  split at h
  · next q => exact ⟨q, h⟩
  · cases h
theorem rng_eq {v a : Int32} : rng v a a = true ↔ v = a := by
  unfold rng
  constructor
  · intro h
    split at h
    · cases h
    · next h1 =>
      split at h
      · cases h
      · next h2 => exact Int32.le_antisymm (Int32.not_lt.mp h2) (Int32.not_lt.mp h1)
  · intro h
    subst h
    rw [if_neg (Int32.lt_irrefl), if_neg (Int32.lt_irrefl)]
def mor (tx : Vec) (t s : Nat) : Int32 := if mat tx t s 33 126 = true then tx s else 0
/-- whether an order stands at s -/
def okB (f : Nat → Int32) (s : Nat) : Bool := if isL (f s) = true then (if (dgs f s 3 0 0).1 = 0 then false else decide (f (s + 1 + (dgs f s 3 0 0).1) = 59)) else false
def rdV (b : Vec) (tx : Vec) (t s : Nat) : Vec :=
  if isL (mor tx t s) = true then upd (upd (upd b 8 (mor tx t s)) 3 (nI (s + 1 + (dgs (chr tx t) s 3 0 0).1 + (if okB (chr tx t) s = true then 1 else 0)))) 9 (dgs (chr tx t) s 3 0 0).2
  else upd b 8 (mor tx t s)
theorem isL_rng {c : Int32} (h : isL c = true) : rng c 33 126 = true := by
  rcases isL_of h with rfl | rfl | rfl | rfl | rfl | rfl <;> decide
theorem mor_L (tx : Vec) (t s : Nat) : isL (mor tx t s) = isL (chr tx t s) := by
  unfold mor
  rw [mat_chr tx t s (by decide)]
  by_cases h : isL (chr tx t s) = true
  · rw [if_pos (isL_rng h)]
    have hs : s < t := by
      rcases Nat.lt_or_ge s t with q | q
      · exact q
      · exfalso
        have e : chr tx t s = -1 := by unfold chr; rw [if_neg (by omega)]
        rw [e] at h
        exact absurd h (by decide)
    have e : chr tx t s = tx s := by unfold chr; rw [if_pos hs]
    rw [← e]
  · have h2 : isL (chr tx t s) = false := by simpa using h
    rw [h2]
    by_cases q : rng (chr tx t s) 33 126 = true
    · rw [if_pos q]
      have hs : s < t := by
        rcases Nat.lt_or_ge s t with q2 | q2
        · exact q2
        · exfalso
          have e : chr tx t s = -1 := by unfold chr; rw [if_neg (by omega)]
          rw [e] at q
          exact absurd q (by decide)
      have e : chr tx t s = tx s := by unfold chr; rw [if_pos hs]
      rw [← e]; exact h2
    · rw [if_neg q]; decide
theorem mor_eq {tx : Vec} {t s : Nat} (h : isL (chr tx t s) = true) : mor tx t s = chr tx t s := by
  unfold mor
  rw [mat_chr tx t s (by decide), if_pos (isL_rng h)]
  have hs : s < t := by
    rcases Nat.lt_or_ge s t with q | q
    · exact q
    · exfalso
      have e : chr tx t s = -1 := by unfold chr; rw [if_neg (by omega)]
      rw [e] at h
      exact absurd h (by decide)
  unfold chr; rw [if_pos hs]
def mendMJ (u : Vec) (j : Int32) (b : Bool) : Int32 × Option Vec := if ¬ j < 0 ∧ j < u 0 then mendM u j.toNatClampNeg b else (IA, none)
def collMJ (u : Vec) (j : Int32) : Int32 × Option Vec := if ¬ j < 0 ∧ j < u 0 then collM u j.toNatClampNeg else (IA, none)
def ordM (u : Vec) (n : Nat) (c v : Int32) : Int32 × Option Vec := if c = 119 then walkM u v else if c = 98 then buyM u v else if c = 112 then mendMJ u v false else if c = 104 then mendMJ u v true else if c = 99 then collMJ u v else endM u n v
def M9 (M : Mem) (w b : Vec) : Mem := setp (setp M 10 w) 9 b
theorem M9_9 (M : Mem) (w b : Vec) : (M9 M w b).1 9 = b := setp_at _ _ _
theorem M9_10 (M : Mem) (w b : Vec) : (M9 M w b).1 10 = w := by rw [M9, setp_ne _ _ (by decide), setp_at]
theorem M9_q (M : Mem) {q : Nat} (w b : Vec) (h1 : q ≠ 10) (h2 : q ≠ 9) : (M9 M w b).1 q = M.1 q := by rw [M9, setp_ne _ _ h2, setp_ne _ _ h1]
theorem M9_s9 (M : Mem) (w b b' : Vec) : setp (M9 M w b) 9 b' = M9 M w b' := setp_2 _ _ _ _
theorem M9_s10 (M : Mem) (w b w' : Vec) : setp (M9 M w b) 10 w' = M9 M w' b := by
  unfold M9
  rw [setp_swap (setp M 10 w) b w' (by decide), setp_2]
theorem M9_self (M : Mem) : M9 M (M.1 10) (M.1 9) = M := by
  unfold M9
  rw [setp_self, setp_self]
theorem M9_of (M : Mem) (b : Vec) : setp M 9 b = M9 M (M.1 10) b := by
  unfold M9
  rw [setp_self]
def mw (w : Vec) : Option Vec → Vec
  | none => w
  | some w' => w'
def plF (tx : Vec) (t N : Nat) : Nat → Nat → Vec → Vec → Int32 × Vec × Vec
  | 0, _, w, b => (1, w, b)
  | m + 1, s, w, b => if s < t then
      (if okB (chr tx t) s = true then
        (if (ordM w N ((rdV (upd b 4 (nI s)) tx t s) 8) ((rdV (upd b 4 (nI s)) tx t s) 9)).1 < 0 then
          (0, mw w (ordM w N ((rdV (upd b 4 (nI s)) tx t s) 8) ((rdV (upd b 4 (nI s)) tx t s) 9)).2, upd (upd (upd (rdV (upd b 4 (nI s)) tx t s) 5 2) 6 (ordM w N ((rdV (upd b 4 (nI s)) tx t s) 8) ((rdV (upd b 4 (nI s)) tx t s) 9)).1) 7 (b 7 + 1))
        else plF tx t N m (s + 2 + (dgs (chr tx t) s 3 0 0).1) (mw w (ordM w N ((rdV (upd b 4 (nI s)) tx t s) 8) ((rdV (upd b 4 (nI s)) tx t s) 9)).2) (upd (upd (upd (rdV (upd b 4 (nI s)) tx t s) 5 2) 6 (ordM w N ((rdV (upd b 4 (nI s)) tx t s) 8) ((rdV (upd b 4 (nI s)) tx t s) 9)).1) 7 (b 7 + 1)))
      else (0, w, upd (upd (upd (rdV (upd b 4 (nI s)) tx t s) 5 1) 6 ((rdV (upd b 4 (nI s)) tx t s) 3 - nI s)) 7 (b 7 + 1)))
    else (1, w, b)
theorem rdV_k (b tx : Vec) (t s : Nat) {k : Nat} (h3 : k ≠ 3) (h8 : k ≠ 8) (h9 : k ≠ 9) : rdV b tx t s k = b k := by
  unfold rdV
  split <;> simp (disch := omega) only [upd_ne]
theorem okB_L {f : Nat → Int32} {s : Nat} (h : okB f s = true) : isL (f s) = true ∧ ¬ (dgs f s 3 0 0).1 = 0 ∧ f (s + 1 + (dgs f s 3 0 0).1) = 59 := by
  unfold okB at h
  split at h
  · next q =>
    split at h
    · cases h
    · next q2 => exact ⟨q, q2, by simpa using h⟩
  · cases h
theorem rdV_8 (b tx : Vec) (t s : Nat) : rdV b tx t s 8 = mor tx t s := by
  unfold rdV
  split
  · simp (disch := omega) only [upd_ne, upd_at]
  · simp (disch := omega) only [upd_at]
theorem rdV_9 {b tx : Vec} {t s : Nat} (h : okB (chr tx t) s = true) : rdV b tx t s 9 = (dgs (chr tx t) s 3 0 0).2 := by
  unfold rdV
  rw [if_pos (by rw [mor_L]; exact (okB_L h).1), upd_at]
theorem rdV_3 {b tx : Vec} {t s : Nat} (h : okB (chr tx t) s = true) : rdV b tx t s 3 = nI (s + 2 + (dgs (chr tx t) s 3 0 0).1) := by
  unfold rdV
  rw [if_pos (by rw [mor_L]; exact (okB_L h).1), if_pos h]
  simp (disch := omega) only [upd_ne, upd_at]
  congr 1; omega

