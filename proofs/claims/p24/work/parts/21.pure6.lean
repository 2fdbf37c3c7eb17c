/-! ===== what is asked ===== -/
def smoS (v : Vec) (k : Nat) (w : Int32) : Int32 :=
  if w = 0 then v (14 + 8 * k) else if w = 1 then v (14 + 8 * k + 1) else if w = 2 then v (14 + 8 * k + 2) else if w = 3 then v (14 + 8 * k + 2) / 10 else if w = 4 then v (14 + 8 * k + 3)
  else if w = 5 then (if v (14 + 8 * k + 3) < v 10 then 1 else 0) else if w = 6 then v (14 + 8 * k + 4) else if w = 7 then v (14 + 8 * k + 5) else if w = 8 then v (14 + 8 * k + 6) else if w = 9 then v (14 + 8 * k + 7) else if w = 10 then hB (v 2) (v (14 + 8 * k)) else IA
def flg (w : Int32) : Prop := w = 0 ∨ w = 1
def whyS (v : Vec) (k : Nat) (w : Int32) : Int32 := if w = 0 then whyNot v k false else if w = 1 then whyNot v k true else IA
def mndB (v : Vec) (k : Nat) (b : Bool) (x : Int32) : Int32 := if x = 0 then hM b else if x = 1 then leatherOf v k b else if x = 2 then owes v k b else if x = 3 then wearBM v k b else IA
def mndS (v : Vec) (k : Nat) (w x : Int32) : Int32 := if w = 0 then mndB v k false x else if w = 1 then mndB v k true x else IA
def cdiS (v : Vec) (k : Nat) : Int32 := if cda v k = 201 then NF else cda v k
def rndS (v : Vec) (n : Nat) (s w : Int32) : Int32 := if s < 1 then IA else if (1 : Int32) <<< (v 0 &&& 31) ≤ s then IA else if w < 0 then IA else if w ≤ 2 then rdW (rdC v n 8 s (v 2) (0, 0, 0)) w else IA
def cntS (v : Vec) (n : Nat) (hc tc : Int32) (w : Int32) : Int32 :=
  if w = 0 then v 0 else if w = 1 then v 1 else if w = 2 then v 2 else if w = 3 then v 3 else if w = 4 then v 4 else if w = 5 then v 5 else if w = 6 then sumN v 5 n else if w = 7 then v 6 else if w = 8 then v 7
  else if w = 9 then csN v n else if w = 10 then v 8 else if w = 11 then v 9 else if w = 12 then hc else if w = 13 then tc else if w = 20 then v 10 else if w = 21 then v 11 else if w = 22 then v 12 else if w = 23 then v 13 else IA
theorem PM_weaken {cA : Nat → ClassId} {ad : Nat → Nat} {D : va_G} {y : MethodName} {ws : List Cond} {d : Nat} {av : List Value} {M : Mem} {Q Q' : QT} (h : PM cA ad D y ws d av M Q) (hq : ∀ r M', Q r M' → Q' r M') : PM cA ad D y ws d av M Q' := by
  intro hI l
  refine MetFree.mono (h hI l) (fun _ _ q => q) (fun _ _ _ _ _ q => q) (fun a s oc t _ q => ?_)
  obtain ⟨⟨⟨r, M', h1, h2, h3⟩, h4⟩, h5⟩ := q
  exact ⟨⟨⟨r, M', h1, hq _ _ h2, h3⟩, h4⟩, h5⟩
/-- an int is answered, and of the memory then P is so -/
def QR (x : Int32) (P : Mem → Prop) : QT := fun r M => r = some (.int x) ∧ P M
theorem Ri_QR {x : Int32} {N : Mem} {P : Mem → Prop} (h : P N) : ∀ r M, Ri x N r M → QR x P r M := fun r M q => ⟨q.1, by rw [q.2]; exact h⟩
section QROWS
variable {cA : Nat → ClassId} {ad : Nat → Nat} {D : va_G} {own : String} {ws : List Cond} {cc : ByteArray} {nL : Nat} {ret : Option FieldType} {d pc n : Nat} {lv : List (Option Value)} {st rest : List Value} {M : Mem} {Q : QT}
theorem e_q {v x : Int32} {P : Mem → Prop} (h : decode cc pc = .ok (.ireturn, 1)) (hr : ret = some .int) (h1 : v = x) (h2 : P M) : PW cA ad D own ws cc nL ret d pc lv [.int v] M (QR x P) := r_iret h hr ⟨by rw [h1], h2⟩
theorem cV_q {index np d' ci N maxL i : Nat} {y : MethodName} {ws' wst : List Cond} {bytes : ByteArray} {rty : Option FieldType} {C : String} {T : u_T} {fs : List Value} {As : List Value} {x : Int32} {P' : Mem → Prop} (hM : PM cA ad D y ws' d' (.ref (ad i) :: As) M (QR x P')) (hg : GoodIn ws (wsV own index C y ws')) (hw : ws' = Cond.code y bytes maxL rty :: wst) (hd : y.cls = C ∧ y.cls ≠ "java/lang/invoke/MethodHandle" ∧ y.cls ≠ "java/lang/invoke/VarHandle" ∧ (parseMethodDescriptor y.desc).map (fun d => d.parameters.length) = some np) (hnp : As.length = np) (hdep : d' + 1 ≤ d) (hmax : maxL ≤ 13) (hi : i < 66) (hc : cellOf cA ad M i = .inr (ci, fs)) (hcl : vwCl[ci]? = some (C, T, N)) (h : decode cc pc = .ok (.invokevirtual index, 3)) (hn : pc + 3 = n) (hst : st = As.reverse ++ .ref (ad i) :: rest) (hcat : (rest.map fun v => v.category).sum ≤ 8) (kk : ∀ M', P' M' → PW cA ad D own ws cc nL ret d n lv (.int x :: rest) M' Q) : PW cA ad D own ws cc nL ret d pc lv st M Q :=
  r_callV hM hg hw hd hnp hdep hmax hi hc hcl h hn hst hcat (fun r M2 hq => by obtain ⟨rfl, h2⟩ := hq; exact kk M2 h2)
theorem r_aloadN4 {a0 a1 a2 a3 : Option Value} {t : List (Option Value)} (h : decode cc pc = .ok (.aload 4, 2)) (hn : pc + 2 = n) (kk : PW cA ad D own ws cc nL ret d n (a0 :: a1 :: a2 :: a3 :: some .null :: t) (.null :: st) M Q) : PW cA ad D own ws cc nL ret d pc (a0 :: a1 :: a2 :: a3 :: some .null :: t) st M Q := by
  intro p l e s m args below meth c H locs ls E hW hS hl
  subst hn
  exact lv_aloadN E.1 E.2.1 h (prs_get hl (i := 4) rfl) (kk p l e s m args below meth c H locs ls E hW hS hl)
theorem r_astoreN4 {a0 a1 a2 a3 o : Option Value} {t : List (Option Value)} (hL : 4 < nL) (hc : catok (a0 :: a1 :: a2 :: a3 :: o :: t) = true) (h : decode cc pc = .ok (.astore 4, 2)) (hn : pc + 2 = n) (kk : PW cA ad D own ws cc nL ret d n (a0 :: a1 :: a2 :: a3 :: some .null :: t) st M Q) : PW cA ad D own ws cc nL ret d pc (a0 :: a1 :: a2 :: a3 :: o :: t) (.null :: st) M Q := by
  intro p l e s m args below meth c H locs ls E hW hS hl
  subst hn
  exact lv_astoreN E.1 E.2.1 h hl hL rfl (fun ls hl => kk p l e s m args below meth c H locs ls E hW hS (prs_set (i := 4) (catok_of hc) hl))
end QROWS

