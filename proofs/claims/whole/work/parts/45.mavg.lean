/-! ===== the mean: floats ===== -/
def vfb (r : UInt32) : Bool := decide (r &&& 0x7fffffff ≤ 0x7f800000)
theorem vfb_n {r : UInt32} (h : vfb r = true) : vf_n32 r := of_decide_eq_true (p := r &&& 0x7fffffff ≤ 0x7f800000) h
def dnF : Nat → UInt32 → Int32 → UInt32 × Int32
  | 0, x, e => (x, e)
  | m + 1, x, e => if Op.cmpValue (FP.fcmp x FP.fconst2) .l < 0 then (x, e) else dnF m (FP.fdiv x FP.fconst2) (e + 1)
def dnK : Nat → UInt32 → Bool
  | 0, _ => true
  | m + 1, x => if Op.cmpValue (FP.fcmp x FP.fconst2) .l < 0 then true else (vfb (FP.fdiv x FP.fconst2) && dnK m (FP.fdiv x FP.fconst2))
def upF : Nat → UInt32 → Int32 → UInt32 × Int32
  | 0, x, e => (x, e)
  | m + 1, x, e => if 0 ≤ Op.cmpValue (FP.fcmp x FP.fconst1) .g then (x, e) else upF m (FP.fmul x FP.fconst2) (e + Int32.ofInt (-1))
def upK : Nat → UInt32 → Bool
  | 0, _ => true
  | m + 1, x => if 0 ≤ Op.cmpValue (FP.fcmp x FP.fconst1) .g then true else (vfb (FP.fmul x FP.fconst2) && upK m (FP.fmul x FP.fconst2))
def upR (x : UInt32) : UInt32 × Int32 := upF 126 (dnF 127 x 0).1 (dnF 127 x 0).2
def btF (x : UInt32) : Int32 := if 0 < Op.cmpValue (FP.fcmp x FP.fconst0) .g then ((upR x).2 + 127) <<< ((23 : Int32) &&& 31) ||| FP.f2i (FP.fmul (FP.fsub (upR x).1 FP.fconst1) 1258291200) else 0
def btK (x : UInt32) : Bool := if 0 < Op.cmpValue (FP.fcmp x FP.fconst0) .g then dnK 127 x && (upK 126 (dnF 127 x 0).1 && (vfb (FP.fsub (upR x).1 FP.fconst1) && vfb (FP.fmul (FP.fsub (upR x).1 FP.fconst1) 1258291200))) else true
def avg (a b : Nat) : UInt32 := FP.fdiv (FP.i2f (nI a)) (FP.i2f (nI b))
def avgOk (a b : Nat) : Bool := vfb (avg a b) && (Op.cmpValue (FP.fcmp (avg a b) (avg a b)) .l == 0 && (btK (avg a b) && (btF (avg a b) == (avg a b).toInt32)))
def avgAll (b : Nat) : Nat → Bool
  | 0 => true
  | a + 1 => avgOk a b && avgAll b a
theorem avgAll_of {b : Nat} : ∀ {m : Nat}, avgAll b m = true → ∀ a, a < m → avgOk a b = true
  | 0, _, a, ha => absurd ha (Nat.not_lt_zero a)
  | m + 1, h, a, ha => by
    simp only [avgAll, Bool.and_eq_true] at h
    rcases Nat.lt_or_ge a m with q | q
    · exact avgAll_of h.2 a q
    · have : a = m := by omega
      subst this; exact h.1
theorem avg_1 : avgAll 1 101 = true := by decide +kernel
theorem avg_2 : avgAll 2 201 = true := by decide +kernel
theorem avg_3 : avgAll 3 301 = true := by decide +kernel
theorem avg_4 : avgAll 4 401 = true := by decide +kernel
theorem avg_5 : avgAll 5 501 = true := by decide +kernel
theorem avg_6 : avgAll 6 601 = true := by decide +kernel
theorem avg_7 : avgAll 7 701 = true := by decide +kernel
theorem avg_8 : avgAll 8 801 = true := by decide +kernel
theorem avg_ok {a b : Nat} (h1 : 1 ≤ b) (h8 : b ≤ 8) (ha : a ≤ 100 * b) : avgOk a b = true := by
  have hb : b = 1 ∨ b = 2 ∨ b = 3 ∨ b = 4 ∨ b = 5 ∨ b = 6 ∨ b = 7 ∨ b = 8 := by omega
  rcases hb with rfl | rfl | rfl | rfl | rfl | rfl | rfl | rfl
  · exact avgAll_of avg_1 a (by omega)
  · exact avgAll_of avg_2 a (by omega)
  · exact avgAll_of avg_3 a (by omega)
  · exact avgAll_of avg_4 a (by omega)
  · exact avgAll_of avg_5 a (by omega)
  · exact avgAll_of avg_6 a (by omega)
  · exact avgAll_of avg_7 a (by omega)
  · exact avgAll_of avg_8 a (by omega)

