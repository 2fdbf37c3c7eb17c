/-! ===== what the methods answer, as plain functions of a state's 78 ints: 0 smithies, 1 day, 2 mile, 3 hours left, 4 leather, 5 money, 6 paid for leather, 7 owed so far, 8 longest cold, 9 walked, 10.. settings, 14+8k+j smithy k (mile size wear heat cold debt paid mends) ===== -/
abbrev Vec : Type := Nat → Int32
abbrev IA : Int32 := -1000000001
abbrev NP : Int32 := -1000000002
abbrev LR : Int32 := -1000000003
abbrev NF : Int32 := -1000000004
def tens (v : Int32) : Int32 := (v + 9) / 10
def absI (v : Int32) : Int32 := if 0 ≤ v then v else 0 - v
def hB (a b : Int32) : Int32 := tens (absI (a - b))
def bI (b : Bool) : Int32 := if b = true then 1 else 0
def hM (b : Bool) : Int32 := if b = true then 3 else 1
def leatherOf (u : Vec) (k : Nat) (b : Bool) : Int32 := if b = true then 4 * u (14 + 8 * k + 1) else tens (u (14 + 8 * k + 2))
def owes (u : Vec) (k : Nat) (b : Bool) : Int32 := u 12 * hM b + 3 * leatherOf u k b
def rsn (u : Vec) (k : Nat) : Int32 := if u (14 + 8 * k + 5) ≤ u 13 then (if u (14 + 8 * k + 2) = 0 then 5 else 0) else 4
def whyNot (u : Vec) (k : Nat) (b : Bool) : Int32 := if u (14 + 8 * k) = u 2 then (if hM b ≤ u 3 then (if leatherOf u k b ≤ u 4 then rsn u k else 3) else 2) else 1
def wearBM (u : Vec) (k : Nat) (b : Bool) : Int32 := if b = true then 0 else u (14 + 8 * k + 2) / 3
/-- the State p holds u -/
def setp (M : Mem) (p : Nat) (u : Vec) : Mem := (va_up M.1 p u, M.2)
theorem mput_s (M : Mem) (p k : Nat) (x : Int32) : mput M p k x = setp M p (upd (M.1 p) k x) := rfl
theorem setp_at (M : Mem) (p : Nat) (u : Vec) : (setp M p u).1 p = u := by simp [setp, va_up]
theorem setp_ne (M : Mem) {p q : Nat} (u : Vec) (h : q ≠ p) : (setp M p u).1 q = M.1 q := by simp [setp, va_up, h]
theorem setp_r (M : Mem) (p : Nat) (u : Vec) : (setp M p u).2 = M.2 := rfl
theorem setp_2 (M : Mem) (p : Nat) (u v : Vec) : setp (setp M p u) p v = setp M p v := by
  unfold setp
  congr 1
  funext q
  by_cases h : q = p
  · simp [va_up, h]
  · simp [va_up, h]
theorem setp_self (M : Mem) (p : Nat) : setp M p (M.1 p) = M := by
  unfold setp
  have : va_up M.1 p (M.1 p) = M.1 := by
    funext q
    by_cases h : q = p
    · simp [va_up, h]
    · simp [va_up, h]
  rw [this]
theorem setp_swap (M : Mem) {p q : Nat} (u v : Vec) (h : p ≠ q) : setp (setp M p u) q v = setp (setp M q v) p u := by
  unfold setp
  congr 1
  funext r
  by_cases h1 : r = p
  · subst h1
    simp [va_up, h]
  · by_cases h2 : r = q
    · subst h2
      simp [va_up, h1]
    · simp [va_up, h1, h2]
theorem upd_at (f : Vec) (k : Nat) (x : Int32) : upd f k x k = x := by simp [upd]
theorem upd_ne (f : Vec) {k j : Nat} (x : Int32) (h : j ≠ k) : upd f k x j = f j := by simp [upd, h]
theorem upd_2 (f : Vec) (k : Nat) (x y : Int32) : upd (upd f k x) k y = upd f k y := by
  funext j
  by_cases h : j = k
  · simp [upd, h]
  · simp [upd, h]
theorem upd_sw (f : Vec) {k j : Nat} (x y : Int32) (h : k ≠ j) : upd (upd f k x) j y = upd (upd f j y) k x := by
  funext i
  by_cases h1 : i = k
  · subst h1
    simp [upd, h]
  · by_cases h2 : i = j
    · subst h2
      simp [upd, h1]
    · simp [upd, h1, h2]
theorem upd_id (f : Vec) (k : Nat) : upd f k (f k) = f := by
  funext i
  by_cases h : i = k
  · subst h; simp [upd]
  · simp [upd, h]
-- the changes of a state: the answer, and the state then (on an error: as it was)
def walkU (u : Vec) (to : Int32) : Vec := upd (upd (upd u 3 (u 3 - hB (u 2) to)) 9 (u 9 + absI (to - u 2))) 2 to
def walkS (u : Vec) (to : Int32) : Int32 × Vec := if to < 0 then (IA, u) else if to ≤ 99 then (if hB (u 2) to ≤ u 3 then (u 3 - hB (u 2) to, walkU u to) else (NP, u)) else (IA, u)
def buyU (u : Vec) (x : Int32) : Vec := upd (upd (upd u 4 (u 4 + x)) 5 (u 5 - 2 * x)) 6 (u 6 + 2 * x)
def buyS (u : Vec) (x : Int32) : Int32 × Vec := if x < 1 then (IA, u) else if x ≤ 999 then (if u 2 = 0 then (if u 4 + x ≤ 999 then (u 4 + x, buyU u x) else (LR, u)) else (NP, u)) else (IA, u)
def isSm (u : Vec) (j : Int32) : Prop := ¬ j < 0 ∧ j < u 0
def mendU (u : Vec) (k : Nat) (b : Bool) : Vec := upd (upd (upd (upd (upd (upd u 3 (u 3 - hM b)) 4 (u 4 - leatherOf u k b)) 7 (u 7 + owes u k b)) (14 + 8 * k + 5) (u (14 + 8 * k + 5) + owes u k b)) (14 + 8 * k + 2) (wearBM u k b)) (14 + 8 * k + 7) (u (14 + 8 * k + 7) + 1)
def mendR (u : Vec) (k : Nat) (b : Bool) : Int32 := if b = true then u (14 + 8 * k + 5) + owes u k b else wearBM u k b
def mendS (u : Vec) (k : Nat) (b : Bool) : Int32 × Vec := if whyNot u k b = 0 then (mendR u k b, mendU u k b) else (NP, u)
def pays (u : Vec) (k : Nat) : Int32 := if u (14 + 8 * k + 3) < u 10 then u (14 + 8 * k + 5) / 2 else u (14 + 8 * k + 5)
def collU (u : Vec) (k : Nat) : Vec := upd (upd (upd u (14 + 8 * k + 5) (u (14 + 8 * k + 5) - pays u k)) (14 + 8 * k + 6) (u (14 + 8 * k + 6) + pays u k)) 5 (u 5 + pays u k)
def collS (u : Vec) (k : Nat) : Int32 × Vec := if u (14 + 8 * k) = u 2 then (if 0 < u (14 + 8 * k + 5) then (pays u k, collU u k) else (NP, u)) else (NP, u)
def addU (u : Vec) (k : Nat) (mile size : Int32) : Vec := upd (upd (upd (upd (upd (upd (upd (upd (upd u 0 (u 0 + 1)) (14 + 8 * k) mile) (14 + 8 * k + 1) size) (14 + 8 * k + 2) 0) (14 + 8 * k + 3) 100) (14 + 8 * k + 4) 0) (14 + 8 * k + 5) 0) (14 + 8 * k + 6) 0) (14 + 8 * k + 7) 0
def addS (u : Vec) (k : Nat) (mile size : Int32) : Int32 × Vec := if mile < 0 then (IA, u) else if 99 < mile then (IA, u) else if size < 1 then (IA, u) else if size ≤ 9 then (if u 0 < 8 then (u 0, addU u k mile size) else (LR, u)) else (IA, u)
def rng (v a b : Int32) : Bool := if v < a then false else if b < v then false else true
def inRng (w v : Int32) : Bool := if w = 0 then rng v 1 99 else if w = 1 then rng v 1 24 else if w = 2 then rng v 0 20 else if w = 3 then rng v 0 500 else false
def setS (u : Vec) (w v : Int32) : Int32 × Vec := if inRng w v = true then (if w = 0 then (u 10, upd u 10 v) else if w = 1 then (u 11, upd u 11 v) else if w = 2 then (u 12, upd u 12 v) else (u 13, upd u 13 v)) else (IA, u)
def wearD (w z : Int32) : Int32 := if w + z / 2 + 1 < 100 then w + z / 2 + 1 else 100
def heatD (h w : Int32) : Int32 := if w / 10 = 0 then (if h + 10 < 100 then h + 10 else 100) else (if 0 < h - w / 10 * 2 then h - w / 10 * 2 else 0)
/-- a day of the smithy k, the class's way -/
def dayW (u : Vec) (k : Nat) : Int32 := wearD (u (14 + 8 * k + 2)) (u (14 + 8 * k + 1))
def dayH (u : Vec) (k : Nat) : Int32 := heatD (u (14 + 8 * k + 3)) (dayW u k)
def dayC (u : Vec) (k : Nat) : Int32 := if dayH u k < u 10 then u (14 + 8 * k + 4) + 1 else 0
def dayU (u : Vec) (k : Nat) : Vec := upd (upd (upd (upd u (14 + 8 * k + 2) (dayW u k)) (14 + 8 * k + 3) (dayH u k)) (14 + 8 * k + 4) (dayC u k)) 8 (if u 8 < dayC u k then dayC u k else u 8)
def daysU (u : Vec) (k : Nat) : Nat → Vec
  | 0 => u
  | i + 1 => dayU (daysU u k i) k
def allU (u : Vec) (d : Nat) : Nat → Vec
  | 0 => u
  | k + 1 => daysU (allU u d k) k d
def endU (u : Vec) (n d : Nat) : Vec := upd (upd (allU u d n) 1 (u 1 + nI d)) 3 (u 11)
def csN (u : Vec) : Nat → Int32
  | 0 => 0
  | i + 1 => if u (14 + 8 * i + 3) < u 10 then csN u i ||| ((1 : Int32) <<< (nI i &&& 31)) else csN u i
def sumN (u : Vec) (j : Nat) : Nat → Int32
  | 0 => 0
  | i + 1 => sumN u j i + u (14 + 8 * i + j)
def copyU (v u : Vec) (n : Nat) : Vec := fun k => if k < 14 + 8 * n then u k else v k
def bitc (x : Int32) : Int32 :=
  let a := x - ((x.toUInt32 >>> ((1 : Int32).toUInt32 &&& Int32.toUInt32 31)).toInt32 &&& 1431655765)
  let b := (a &&& 858993459) + ((a.toUInt32 >>> ((2 : Int32).toUInt32 &&& Int32.toUInt32 31)).toInt32 &&& 858993459)
  let c := (b + (b.toUInt32 >>> ((4 : Int32).toUInt32 &&& Int32.toUInt32 31)).toInt32) &&& 252645135
  let d := c + (c.toUInt32 >>> ((8 : Int32).toUInt32 &&& Int32.toUInt32 31)).toInt32
  let e := d + (d.toUInt32 >>> ((16 : Int32).toUInt32 &&& Int32.toUInt32 31)).toInt32
  e &&& 63
theorem bI_0 {b : Bool} (h : bI b = 0) : b = false := by cases b; rfl; exact absurd h (by decide)
theorem bI_1 {b : Bool} (h : ¬ bI b = 0) : b = true := by cases b; exact absurd rfl h; rfl
theorem nI_inc (i : Nat) : nI i + Int32.ofInt 1 = nI (i + 1) := nI_1 i
theorem copyU_0 (v u : Vec) : upd (upd (upd (upd (upd (upd (upd (upd (upd (upd (upd (upd (upd (upd v 0 (u 0)) 10 (u 10)) 11 (u 11)) 12 (u 12)) 13 (u 13)) 1 (u 1)) 2 (u 2)) 3 (u 3)) 4 (u 4)) 5 (u 5)) 6 (u 6)) 7 (u 7)) 8 (u 8)) 9 (u 9) = copyU v u 0 := by
  funext k
  by_cases hk : k < 14
  · have h : k = 0 ∨ k = 1 ∨ k = 2 ∨ k = 3 ∨ k = 4 ∨ k = 5 ∨ k = 6 ∨ k = 7 ∨ k = 8 ∨ k = 9 ∨ k = 10 ∨ k = 11 ∨ k = 12 ∨ k = 13 := by omega
    rcases h with rfl | rfl | rfl | rfl | rfl | rfl | rfl | rfl | rfl | rfl | rfl | rfl | rfl | rfl <;> simp [upd, copyU]
  · have e : copyU v u 0 k = v k := by simp [copyU]; omega
    rw [e]
    repeat rw [upd_ne _ _ (by omega)]
theorem copyU_s (v u : Vec) (i : Nat) : upd (upd (upd (upd (upd (upd (upd (upd (copyU v u i) (14 + 8 * i) (u (14 + 8 * i))) (14 + 8 * i + 1) (u (14 + 8 * i + 1))) (14 + 8 * i + 2) (u (14 + 8 * i + 2))) (14 + 8 * i + 3) (u (14 + 8 * i + 3))) (14 + 8 * i + 4) (u (14 + 8 * i + 4))) (14 + 8 * i + 5) (u (14 + 8 * i + 5))) (14 + 8 * i + 6) (u (14 + 8 * i + 6))) (14 + 8 * i + 7) (u (14 + 8 * i + 7)) = copyU v u (i + 1) := by
  funext k
  by_cases hk : 14 + 8 * i ≤ k ∧ k < 14 + 8 * i + 8
  · have e : copyU v u (i + 1) k = u k := by simp [copyU]; omega
    rw [e]
    have h : k = 14 + 8 * i ∨ k = 14 + 8 * i + 1 ∨ k = 14 + 8 * i + 2 ∨ k = 14 + 8 * i + 3 ∨ k = 14 + 8 * i + 4 ∨ k = 14 + 8 * i + 5 ∨ k = 14 + 8 * i + 6 ∨ k = 14 + 8 * i + 7 := by omega
    rcases h with rfl | rfl | rfl | rfl | rfl | rfl | rfl | rfl <;> simp [upd]
  · have e : copyU v u (i + 1) k = copyU v u i k := by
      by_cases h2 : k < 14 + 8 * i
      · have h3 : k < 14 + 8 * (i + 1) := by omega
        simp only [copyU, h2, h3, if_true]
      · have h3 : ¬ k < 14 + 8 * (i + 1) := by omega
        simp only [copyU, h2, h3, if_false]
    rw [e]
    repeat rw [upd_ne _ _ (by omega)]

