/-- what is left of a division -/
def rmI (x y : Int32) : Int32 := x - x / y * y
/-! ===== contracts from walks; ends; calls ===== -/
theorem PM_of {cA : Nat → ClassId} {ad : Nat → Nat} {D : va_G} {y : MethodName} {ws ws' : List Cond} {cc : ByteArray} {nL : Nat} {ret : Option FieldType} {d : Nat} {av : List Value} {lv : List (Option Value)} {M : Mem} {Q : QT}
    (hy : plainName y.cls = true) (hw : ws = Cond.code y cc nL ret :: ws') (hlen : (lg_sl av).length ≤ nL) (hlv : lv_args 0 av = prs 0 lv)
    (k : PW cA ad D y.cls ws cc nL ret d 0 lv [] M Q) : PM cA ad D y ws d av M Q := by
  intro hI l
  refine Met.ofW (cc := cc) (maxL := nL) (ret := ret) hy hw ?_
  intro p e s m args below meth c s₁ B hml hv
  obtain ⟨rfl, hW, hE⟩ := hv
  have hl := lv_entry av (n := nL) hlen
  rw [lg_entry_eq]
  rw [hlv] at hl
  exact k p l e s m _ below meth c s.heap [] _ ⟨B.exec, B.bytes, hml, findClass_of_methodNamed B.named, atoms_spec (ws := ws) B.pre, B.returns, B.notSynchronized, hE, hI⟩ hW va_S.rf hl
def catok : List (Option Value) → Bool
  | [] => true
  | some v :: t => (v.category == 1) && catok t
  | none :: t => catok t
theorem catok_of : ∀ {lv : List (Option Value)}, catok lv = true → ∀ w, (some w) ∈ lv → w.category = 1
  | [], _, w, h => by cases h
  | some v :: t, hc, w, h => by
    simp only [catok, Bool.and_eq_true, beq_iff_eq] at hc
    rcases List.mem_cons.mp h with q | q
    · cases q; exact hc.1
    · exact catok_of hc.2 w q
  | none :: t, hc, w, h => by
    simp only [catok] at hc
    rcases List.mem_cons.mp h with q | q
    · cases q
    · exact catok_of hc w q
section ROWS
variable {cA : Nat → ClassId} {ad : Nat → Nat} {D : va_G} {own : String} {ws : List Cond} {cc : ByteArray} {nL : Nat} {ret : Option FieldType} {d pc n : Nat} {lv : List (Option Value)} {st rest : List Value} {M : Mem} {Q : QT}
theorem r_iret {v : Int32} (h : decode cc pc = .ok (.ireturn, 1)) (hr : ret = some .int) (hq : Q (some (.int v)) M) : PW cA ad D own ws cc nL ret d pc lv [.int v] M Q := by
  intro p l e s m args below meth c H locs ls E hW hS hl
  subst hr
  exact W.iret E.1 E.2.1 E.2.2.2.2.2.1 (fun t ht _ => ⟨⟨_, M, rfl, hq, by rw [ht]; exact hW⟩, hS.F ht⟩) hS.2.2 h E.2.2.2.2.2.2.1
theorem r_zret {v : Int32} (h : decode cc pc = .ok (.ireturn, 1)) (hr : ret = some .boolean) (hv : v = 0 ∨ v = 1) (hq : Q (some (.int v)) M) : PW cA ad D own ws cc nL ret d pc lv [.int v] M Q := by
  intro p l e s m args below meth c H locs ls E hW hS hl
  subst hr
  exact W.zret E.1 E.2.1 E.2.2.2.2.2.1 (by rcases hv with rfl | rfl <;> decide +kernel) (fun t ht _ => ⟨⟨_, M, rfl, hq, by rw [ht]; exact hW⟩, hS.F ht⟩) hS.2.2 h E.2.2.2.2.2.2.1
theorem r_vret (h : decode cc pc = .ok (.return_, 1)) (hr : ret = none) (hq : Q none M) : PW cA ad D own ws cc nL ret d pc lv [] M Q := by
  intro p l e s m args below meth c H locs ls E hW hS hl
  subst hr
  exact W.vret E.1 E.2.1 E.2.2.2.2.2.1 (fun t ht _ => ⟨⟨_, M, rfl, hq, by rw [ht]; exact hW⟩, hS.F ht⟩) hS.2.2 h E.2.2.2.2.2.2.1
theorem r_aret {v : Value} {C : String} (h : decode cc pc = .ok (.areturn, 1)) (hr : ret = some (.object C)) (hv : v = .null ∨ ∃ a, v = .ref a) (hq : Q (some v) M) : PW cA ad D own ws cc nL ret d pc lv [v] M Q := by
  intro p l e s m args below meth c H locs ls E hW hS hl
  subst hr
  exact W.aret E.1 E.2.1 E.2.2.2.2.2.1 (Or.inl ⟨C, rfl⟩) hv (fun t ht _ => ⟨⟨_, M, rfl, hq, by rw [ht]; exact hW⟩, hS.F ht⟩) hS.2.2 h E.2.2.2.2.2.2.1
theorem r_iload_n {k : Fin 4} {i : Nat} {x : Int32} (h : decode cc pc = .ok (.iload_n k, 1)) (hi : (k : Nat) = i) (hg : lv[i]? = some (some (.int x))) (hn : pc + 1 = n) (kk : PW cA ad D own ws cc nL ret d n lv (.int x :: st) M Q) : PW cA ad D own ws cc nL ret d pc lv st M Q := by
  intro p l e s m args below meth c H locs ls E hW hS hl
  subst hn
  exact lv_iload_n E.1 E.2.1 h hi (prs_get hl hg) (kk p l e s m args below meth c H locs ls E hW hS hl)
theorem r_iload {i : Nat} {x : Int32} (h : decode cc pc = .ok (.iload i, 2)) (hg : lv[i]? = some (some (.int x))) (hn : pc + 2 = n) (kk : PW cA ad D own ws cc nL ret d n lv (.int x :: st) M Q) : PW cA ad D own ws cc nL ret d pc lv st M Q := by
  intro p l e s m args below meth c H locs ls E hW hS hl
  subst hn
  exact lv_iload E.1 E.2.1 h (prs_get hl hg) (kk p l e s m args below meth c H locs ls E hW hS hl)
theorem r_fload_n {k : Fin 4} {i : Nat} {x : UInt32} (h : decode cc pc = .ok (.fload_n k, 1)) (hi : (k : Nat) = i) (hg : lv[i]? = some (some (.float x))) (hn : pc + 1 = n) (kk : PW cA ad D own ws cc nL ret d n lv (.float x :: st) M Q) : PW cA ad D own ws cc nL ret d pc lv st M Q := by
  intro p l e s m args below meth c H locs ls E hW hS hl
  subst hn
  exact lv_fload_n E.1 E.2.1 h hi (prs_get hl hg) (kk p l e s m args below meth c H locs ls E hW hS hl)
theorem r_aload_n {k : Fin 4} {i : Nat} {x : Nat} (h : decode cc pc = .ok (.aload_n k, 1)) (hi : (k : Nat) = i) (hg : lv[i]? = some (some (.ref x))) (hn : pc + 1 = n) (kk : PW cA ad D own ws cc nL ret d n lv (.ref x :: st) M Q) : PW cA ad D own ws cc nL ret d pc lv st M Q := by
  intro p l e s m args below meth c H locs ls E hW hS hl
  subst hn
  exact lv_aload_n E.1 E.2.1 h hi (prs_get hl hg) (kk p l e s m args below meth c H locs ls E hW hS hl)
theorem r_aload {i : Nat} {x : Nat} (h : decode cc pc = .ok (.aload i, 2)) (hg : lv[i]? = some (some (.ref x))) (hn : pc + 2 = n) (kk : PW cA ad D own ws cc nL ret d n lv (.ref x :: st) M Q) : PW cA ad D own ws cc nL ret d pc lv st M Q := by
  intro p l e s m args below meth c H locs ls E hW hS hl
  subst hn
  exact lv_aload E.1 E.2.1 h (prs_get hl hg) (kk p l e s m args below meth c H locs ls E hW hS hl)
theorem r_aload_nN {k : Fin 4} {i : Nat} (h : decode cc pc = .ok (.aload_n k, 1)) (hi : (k : Nat) = i) (hg : lv[i]? = some (some .null)) (hn : pc + 1 = n) (kk : PW cA ad D own ws cc nL ret d n lv (.null :: st) M Q) : PW cA ad D own ws cc nL ret d pc lv st M Q := by
  intro p l e s m args below meth c H locs ls E hW hS hl
  subst hn
  exact lv_aload_nN E.1 E.2.1 h hi (prs_get hl hg) (kk p l e s m args below meth c H locs ls E hW hS hl)
theorem r_istore_n {k : Fin 4} {i : Nat} {x : Int32} (hL : i < nL) (hc : catok lv = true) (h : decode cc pc = .ok (.istore_n k, 1)) (hi : (k : Nat) = i) (hn : pc + 1 = n) (kk : PW cA ad D own ws cc nL ret d n (lv.set i (some (.int x))) st M Q) : PW cA ad D own ws cc nL ret d pc lv (.int x :: st) M Q := by
  intro p l e s m args below meth c H locs ls E hW hS hl
  subst hn
  exact lv_istore_n E.1 E.2.1 h hi hl hL rfl (fun ls hl => kk p l e s m args below meth c H locs ls E hW hS (prs_set (catok_of hc) hl))
theorem r_istore {i : Nat} {x : Int32} (hL : i < nL) (hc : catok lv = true) (h : decode cc pc = .ok (.istore i, 2)) (hn : pc + 2 = n) (kk : PW cA ad D own ws cc nL ret d n (lv.set i (some (.int x))) st M Q) : PW cA ad D own ws cc nL ret d pc lv (.int x :: st) M Q := by
  intro p l e s m args below meth c H locs ls E hW hS hl
  subst hn
  exact lv_istore E.1 E.2.1 h hl hL rfl (fun ls hl => kk p l e s m args below meth c H locs ls E hW hS (prs_set (catok_of hc) hl))
theorem r_fstore_n {k : Fin 4} {i : Nat} {x : UInt32} (hL : i < nL) (hc : catok lv = true) (h : decode cc pc = .ok (.fstore_n k, 1)) (hi : (k : Nat) = i) (hn : pc + 1 = n) (kk : PW cA ad D own ws cc nL ret d n (lv.set i (some (.float x))) st M Q) : PW cA ad D own ws cc nL ret d pc lv (.float x :: st) M Q := by
  intro p l e s m args below meth c H locs ls E hW hS hl
  subst hn
  exact lv_fstore_n E.1 E.2.1 h hi hl hL rfl (fun ls hl => kk p l e s m args below meth c H locs ls E hW hS (prs_set (catok_of hc) hl))
theorem r_astore_n {k : Fin 4} {i : Nat} {x : Nat} (hL : i < nL) (hc : catok lv = true) (h : decode cc pc = .ok (.astore_n k, 1)) (hi : (k : Nat) = i) (hn : pc + 1 = n) (kk : PW cA ad D own ws cc nL ret d n (lv.set i (some (.ref x))) st M Q) : PW cA ad D own ws cc nL ret d pc lv (.ref x :: st) M Q := by
  intro p l e s m args below meth c H locs ls E hW hS hl
  subst hn
  exact lv_astore_n E.1 E.2.1 h hi hl hL rfl (fun ls hl => kk p l e s m args below meth c H locs ls E hW hS (prs_set (catok_of hc) hl))
theorem r_astore {i : Nat} {x : Nat} (hL : i < nL) (hc : catok lv = true) (h : decode cc pc = .ok (.astore i, 2)) (hn : pc + 2 = n) (kk : PW cA ad D own ws cc nL ret d n (lv.set i (some (.ref x))) st M Q) : PW cA ad D own ws cc nL ret d pc lv (.ref x :: st) M Q := by
  intro p l e s m args below meth c H locs ls E hW hS hl
  subst hn
  exact lv_astore E.1 E.2.1 h hl hL rfl (fun ls hl => kk p l e s m args below meth c H locs ls E hW hS (prs_set (catok_of hc) hl))
theorem r_astore_nN {k : Fin 4} {i : Nat} (hL : i < nL) (hc : catok lv = true) (h : decode cc pc = .ok (.astore_n k, 1)) (hi : (k : Nat) = i) (hn : pc + 1 = n) (kk : PW cA ad D own ws cc nL ret d n (lv.set i (some .null)) st M Q) : PW cA ad D own ws cc nL ret d pc lv (.null :: st) M Q := by
  intro p l e s m args below meth c H locs ls E hW hS hl
  subst hn
  exact lv_astore_nN E.1 E.2.1 h hi hl hL rfl (fun ls hl => kk p l e s m args below meth c H locs ls E hW hS (prs_set (catok_of hc) hl))
theorem r_iinc {i : Nat} {z : Int} {x v : Int32} (hL : i < nL) (hc : catok lv = true) (h : decode cc pc = .ok (.iinc i z, 3)) (hg : lv[i]? = some (some (.int x))) (hv : x + Int32.ofInt z = v) (hn : pc + 3 = n) (kk : PW cA ad D own ws cc nL ret d n (lv.set i (some (.int v))) st M Q) : PW cA ad D own ws cc nL ret d pc lv st M Q := by
  intro p l e s m args below meth c H locs ls E hW hS hl
  subst hn
  have hm : (i, Value.int x) ∈ prs 0 lv := (prs_mem lv 0 i _).mpr ⟨i, by omega, hg⟩
  obtain ⟨k, hk⟩ := List.getElem?_of_mem hm
  exact lv_iinc E.1 E.2.1 h hl hk hv hL rfl (fun ls hl => kk p l e s m args below meth c H locs ls E hW hS (prs_set (catok_of hc) hl))
-- STRAIGHT
theorem r_iconst {k : Int} {v : Int32} (h : decode cc pc = .ok (.iconst k, 1)) (hv : Int32.ofInt k = v) (hn : pc + 1 = n) (kk : PW cA ad D own ws cc nL ret d n lv (.int v :: st) M Q) : PW cA ad D own ws cc nL ret d pc lv (st) M Q := by
  intro p l e s m args below meth c H locs ls E hW hS hl
  subst hn
  exact lv_iconst E.1 E.2.1 h hv (kk p l e s m args below meth c H locs ls E hW hS hl)
theorem r_bipush {k : Int} {v : Int32} (h : decode cc pc = .ok (.bipush k, 2)) (hv : (Int8.ofInt k).toInt32 = v) (hn : pc + 2 = n) (kk : PW cA ad D own ws cc nL ret d n lv (.int v :: st) M Q) : PW cA ad D own ws cc nL ret d pc lv (st) M Q := by
  intro p l e s m args below meth c H locs ls E hW hS hl
  subst hn
  exact lv_bipush E.1 E.2.1 h hv (kk p l e s m args below meth c H locs ls E hW hS hl)
theorem r_sipush {k : Int} {v : Int32} (h : decode cc pc = .ok (.sipush k, 3)) (hv : (Int16.ofInt k).toInt32 = v) (hn : pc + 3 = n) (kk : PW cA ad D own ws cc nL ret d n lv (.int v :: st) M Q) : PW cA ad D own ws cc nL ret d pc lv (st) M Q := by
  intro p l e s m args below meth c H locs ls E hW hS hl
  subst hn
  exact lv_sipush E.1 E.2.1 h hv (kk p l e s m args below meth c H locs ls E hW hS hl)
theorem r_ldc {i : Nat} {v : Int32} (h : decode cc pc = .ok (.ldc i, 2)) (hw : Cond.constant own i v ∈ ws) (hn : pc + 2 = n) (kk : PW cA ad D own ws cc nL ret d n lv (.int v :: st) M Q) : PW cA ad D own ws cc nL ret d pc lv (st) M Q := by
  intro p l e s m args below meth c H locs ls E hW hS hl
  subst hn
  exact lv_ldc E.1 E.2.1 E.2.2.2.1 (E.2.2.2.2.1 _ hw) h (kk p l e s m args below meth c H locs ls E hW hS hl)
theorem r_ldcw {i : Nat} {v : Int32} (h : decode cc pc = .ok (.ldc_w i, 3)) (hw : Cond.constant own i v ∈ ws) (hn : pc + 3 = n) (kk : PW cA ad D own ws cc nL ret d n lv (.int v :: st) M Q) : PW cA ad D own ws cc nL ret d pc lv (st) M Q := by
  intro p l e s m args below meth c H locs ls E hW hS hl
  subst hn
  exact lv_ldcw E.1 E.2.1 E.2.2.2.1 (E.2.2.2.2.1 _ hw) h (kk p l e s m args below meth c H locs ls E hW hS hl)
theorem r_ldcf {i : Nat} {v : UInt32} (h : decode cc pc = .ok (.ldc i, 2)) (hw : Cond.constantFloat own i v ∈ ws) (hn : pc + 2 = n) (kk : PW cA ad D own ws cc nL ret d n lv (.float v :: st) M Q) : PW cA ad D own ws cc nL ret d pc lv (st) M Q := by
  intro p l e s m args below meth c H locs ls E hW hS hl
  subst hn
  exact lv_ldcf E.1 E.2.1 E.2.2.2.1 (E.2.2.2.2.1 _ hw) h (kk p l e s m args below meth c H locs ls E hW hS hl)
theorem r_iadd {x y : Int32} (h : decode cc pc = .ok (.iadd, 1)) (hn : pc + 1 = n) (kk : PW cA ad D own ws cc nL ret d n lv (.int (x + y) :: st) M Q) : PW cA ad D own ws cc nL ret d pc lv (.int y :: .int x :: st) M Q := by
  intro p l e s m args below meth c H locs ls E hW hS hl
  subst hn
  exact lv_iadd E.1 E.2.1 h (kk p l e s m args below meth c H locs ls E hW hS hl)
theorem r_isub {x y : Int32} (h : decode cc pc = .ok (.isub, 1)) (hn : pc + 1 = n) (kk : PW cA ad D own ws cc nL ret d n lv (.int (x - y) :: st) M Q) : PW cA ad D own ws cc nL ret d pc lv (.int y :: .int x :: st) M Q := by
  intro p l e s m args below meth c H locs ls E hW hS hl
  subst hn
  exact lv_isub E.1 E.2.1 h (kk p l e s m args below meth c H locs ls E hW hS hl)
theorem r_imul {x y : Int32} (h : decode cc pc = .ok (.imul, 1)) (hn : pc + 1 = n) (kk : PW cA ad D own ws cc nL ret d n lv (.int (x * y) :: st) M Q) : PW cA ad D own ws cc nL ret d pc lv (.int y :: .int x :: st) M Q := by
  intro p l e s m args below meth c H locs ls E hW hS hl
  subst hn
  exact lv_imul E.1 E.2.1 h (kk p l e s m args below meth c H locs ls E hW hS hl)
theorem r_iand {x y : Int32} (h : decode cc pc = .ok (.iand, 1)) (hn : pc + 1 = n) (kk : PW cA ad D own ws cc nL ret d n lv (.int (x &&& y) :: st) M Q) : PW cA ad D own ws cc nL ret d pc lv (.int y :: .int x :: st) M Q := by
  intro p l e s m args below meth c H locs ls E hW hS hl
  subst hn
  exact lv_iand E.1 E.2.1 h (kk p l e s m args below meth c H locs ls E hW hS hl)
theorem r_ior {x y : Int32} (h : decode cc pc = .ok (.ior, 1)) (hn : pc + 1 = n) (kk : PW cA ad D own ws cc nL ret d n lv (.int (x ||| y) :: st) M Q) : PW cA ad D own ws cc nL ret d pc lv (.int y :: .int x :: st) M Q := by
  intro p l e s m args below meth c H locs ls E hW hS hl
  subst hn
  exact lv_ior E.1 E.2.1 h (kk p l e s m args below meth c H locs ls E hW hS hl)
theorem r_ixor {x y : Int32} (h : decode cc pc = .ok (.ixor, 1)) (hn : pc + 1 = n) (kk : PW cA ad D own ws cc nL ret d n lv (.int (x ^^^ y) :: st) M Q) : PW cA ad D own ws cc nL ret d pc lv (.int y :: .int x :: st) M Q := by
  intro p l e s m args below meth c H locs ls E hW hS hl
  subst hn
  exact lv_ixor E.1 E.2.1 h (kk p l e s m args below meth c H locs ls E hW hS hl)
theorem r_idiv {x y : Int32} (h : decode cc pc = .ok (.idiv, 1)) (hne : ¬ y = 0) (hn : pc + 1 = n) (kk : PW cA ad D own ws cc nL ret d n lv (.int (x / y) :: st) M Q) : PW cA ad D own ws cc nL ret d pc lv (.int y :: .int x :: st) M Q := by
  intro p l e s m args below meth c H locs ls E hW hS hl
  subst hn
  exact lv_idiv E.1 E.2.1 h hne (kk p l e s m args below meth c H locs ls E hW hS hl)
theorem r_ineg {x : Int32} (h : decode cc pc = .ok (.ineg, 1)) (hn : pc + 1 = n) (kk : PW cA ad D own ws cc nL ret d n lv (.int (-x) :: st) M Q) : PW cA ad D own ws cc nL ret d pc lv (.int x :: st) M Q := by
  intro p l e s m args below meth c H locs ls E hW hS hl
  subst hn
  exact lv_ineg E.1 E.2.1 h (kk p l e s m args below meth c H locs ls E hW hS hl)
theorem r_ishl {x y : Int32} (h : decode cc pc = .ok (.ishl, 1)) (hn : pc + 1 = n) (kk : PW cA ad D own ws cc nL ret d n lv (.int (x <<< (y &&& 31)) :: st) M Q) : PW cA ad D own ws cc nL ret d pc lv (.int y :: .int x :: st) M Q := by
  intro p l e s m args below meth c H locs ls E hW hS hl
  subst hn
  exact lv_ishl E.1 E.2.1 h (kk p l e s m args below meth c H locs ls E hW hS hl)
theorem r_ishr {x y : Int32} (h : decode cc pc = .ok (.ishr, 1)) (hn : pc + 1 = n) (kk : PW cA ad D own ws cc nL ret d n lv (.int (x >>> (y &&& 31)) :: st) M Q) : PW cA ad D own ws cc nL ret d pc lv (.int y :: .int x :: st) M Q := by
  intro p l e s m args below meth c H locs ls E hW hS hl
  subst hn
  exact lv_ishr E.1 E.2.1 h (kk p l e s m args below meth c H locs ls E hW hS hl)
theorem r_iushr {x y : Int32} (h : decode cc pc = .ok (.iushr, 1)) (hn : pc + 1 = n) (kk : PW cA ad D own ws cc nL ret d n lv (.int (x.toUInt32 >>> (y.toUInt32 &&& Int32.toUInt32 31)).toInt32 :: st) M Q) : PW cA ad D own ws cc nL ret d pc lv (.int y :: .int x :: st) M Q := by
  intro p l e s m args below meth c H locs ls E hW hS hl
  subst hn
  exact lv_iushr E.1 E.2.1 h rfl (kk p l e s m args below meth c H locs ls E hW hS hl)
theorem r_i2c {x : Int32} (h : decode cc pc = .ok (.i2c, 1)) (hn : pc + 1 = n) (kk : PW cA ad D own ws cc nL ret d n lv (.int (x.toUInt32 % 65536).toInt32 :: st) M Q) : PW cA ad D own ws cc nL ret d pc lv (.int x :: st) M Q := by
  intro p l e s m args below meth c H locs ls E hW hS hl
  subst hn
  exact lv_i2c E.1 E.2.1 h rfl (kk p l e s m args below meth c H locs ls E hW hS hl)
theorem r_dup {v : Value} (h : decode cc pc = .ok (.dup, 1)) (hv : v.category = 1) (hn : pc + 1 = n) (kk : PW cA ad D own ws cc nL ret d n lv (v :: v :: st) M Q) : PW cA ad D own ws cc nL ret d pc lv (v :: st) M Q := by
  intro p l e s m args below meth c H locs ls E hW hS hl
  subst hn
  exact lv_dup E.1 E.2.1 h hv (kk p l e s m args below meth c H locs ls E hW hS hl)
theorem r_dup2 {v w : Value} (h : decode cc pc = .ok (.dup2, 1)) (hv : w.category = 1) (hw : v.category = 1) (hn : pc + 1 = n) (kk : PW cA ad D own ws cc nL ret d n lv (w :: v :: w :: v :: st) M Q) : PW cA ad D own ws cc nL ret d pc lv (w :: v :: st) M Q := by
  intro p l e s m args below meth c H locs ls E hW hS hl
  subst hn
  exact lv_dup2_11 E.1 E.2.1 h hv hw (kk p l e s m args below meth c H locs ls E hW hS hl)
theorem r_null (h : decode cc pc = .ok (.aconst_null, 1)) (hn : pc + 1 = n) (kk : PW cA ad D own ws cc nL ret d n lv (.null :: st) M Q) : PW cA ad D own ws cc nL ret d pc lv (st) M Q := by
  intro p l e s m args below meth c H locs ls E hW hS hl
  subst hn
  exact lv_null E.1 E.2.1 h (kk p l e s m args below meth c H locs ls E hW hS hl)
theorem r_i2f {x : Int32} (h : decode cc pc = .ok (.i2f, 1)) (hn : pc + 1 = n) (kk : PW cA ad D own ws cc nL ret d n lv (.float (FP.i2f x) :: st) M Q) : PW cA ad D own ws cc nL ret d pc lv (.int x :: st) M Q := by
  intro p l e s m args below meth c H locs ls E hW hS hl
  subst hn
  exact lv_i2f E.1 E.2.1 h (kk p l e s m args below meth c H locs ls E hW hS hl)
theorem r_f2i {x : UInt32} (h : decode cc pc = .ok (.f2i, 1)) (hn : pc + 1 = n) (kk : PW cA ad D own ws cc nL ret d n lv (.int (FP.f2i x) :: st) M Q) : PW cA ad D own ws cc nL ret d pc lv (.float x :: st) M Q := by
  intro p l e s m args below meth c H locs ls E hW hS hl
  subst hn
  exact lv_f2i E.1 E.2.1 h (kk p l e s m args below meth c H locs ls E hW hS hl)
theorem r_fdiv {x y : UInt32} (h : decode cc pc = .ok (.fdiv, 1)) (hne : vf_n32 (FP.fdiv x y)) (hn : pc + 1 = n) (kk : PW cA ad D own ws cc nL ret d n lv (.float (FP.fdiv x y) :: st) M Q) : PW cA ad D own ws cc nL ret d pc lv (.float y :: .float x :: st) M Q := by
  intro p l e s m args below meth c H locs ls E hW hS hl
  subst hn
  exact lv_fdiv E.1 E.2.1 h hne (kk p l e s m args below meth c H locs ls E hW hS hl)
theorem r_fmul {x y : UInt32} (h : decode cc pc = .ok (.fmul, 1)) (hne : vf_n32 (FP.fmul x y)) (hn : pc + 1 = n) (kk : PW cA ad D own ws cc nL ret d n lv (.float (FP.fmul x y) :: st) M Q) : PW cA ad D own ws cc nL ret d pc lv (.float y :: .float x :: st) M Q := by
  intro p l e s m args below meth c H locs ls E hW hS hl
  subst hn
  exact lv_fmul E.1 E.2.1 h hne (kk p l e s m args below meth c H locs ls E hW hS hl)
theorem r_fsub {x y : UInt32} (h : decode cc pc = .ok (.fsub, 1)) (hne : vf_n32 (FP.fsub x y)) (hn : pc + 1 = n) (kk : PW cA ad D own ws cc nL ret d n lv (.float (FP.fsub x y) :: st) M Q) : PW cA ad D own ws cc nL ret d pc lv (.float y :: .float x :: st) M Q := by
  intro p l e s m args below meth c H locs ls E hW hS hl
  subst hn
  exact lv_fsub E.1 E.2.1 h hne (kk p l e s m args below meth c H locs ls E hW hS hl)
theorem r_fcmp {x y : UInt32} {op : CmpOp} (h : decode cc pc = .ok (.fcmp op, 1)) (hn : pc + 1 = n) (kk : PW cA ad D own ws cc nL ret d n lv (.int (Op.cmpValue (FP.fcmp x y) op) :: st) M Q) : PW cA ad D own ws cc nL ret d pc lv (.float y :: .float x :: st) M Q := by
  intro p l e s m args below meth c H locs ls E hW hS hl
  subst hn
  exact lv_fcmp E.1 E.2.1 h (kk p l e s m args below meth c H locs ls E hW hS hl)
theorem r_fconst0 (h : decode cc pc = .ok (.fconst 0, 1)) (hn : pc + 1 = n) (kk : PW cA ad D own ws cc nL ret d n lv (.float FP.fconst0 :: st) M Q) : PW cA ad D own ws cc nL ret d pc lv (st) M Q := by
  intro p l e s m args below meth c H locs ls E hW hS hl
  subst hn
  exact lv_fconst0 E.1 E.2.1 h (kk p l e s m args below meth c H locs ls E hW hS hl)
theorem r_fconst1 (h : decode cc pc = .ok (.fconst 1, 1)) (hn : pc + 1 = n) (kk : PW cA ad D own ws cc nL ret d n lv (.float FP.fconst1 :: st) M Q) : PW cA ad D own ws cc nL ret d pc lv (st) M Q := by
  intro p l e s m args below meth c H locs ls E hW hS hl
  subst hn
  exact lv_fconst1 E.1 E.2.1 h (kk p l e s m args below meth c H locs ls E hW hS hl)
theorem r_fconst2 (h : decode cc pc = .ok (.fconst 2, 1)) (hn : pc + 1 = n) (kk : PW cA ad D own ws cc nL ret d n lv (.float FP.fconst2 :: st) M Q) : PW cA ad D own ws cc nL ret d pc lv (st) M Q := by
  intro p l e s m args below meth c H locs ls E hW hS hl
  subst hn
  exact lv_fconst2 E.1 E.2.1 h (kk p l e s m args below meth c H locs ls E hW hS hl)
theorem r_if_eq {x : Int32} {off : Int} {tgt : Nat} (h : decode cc pc = .ok (.ifCond .eq off, 3)) (ht : (pc : Int) + off = (tgt : Int)) (hn : pc + 3 = n) (kt : x = 0 → PW cA ad D own ws cc nL ret d tgt lv st M Q) (kf : ¬ x = 0 → PW cA ad D own ws cc nL ret d n lv st M Q) : PW cA ad D own ws cc nL ret d pc lv (.int x :: st) M Q := by
  intro p l e s m args below meth c H locs ls E hW hS hl
  subst hn
  exact lv_if_eq E.1 E.2.1 h ht (fun q => kt q p l e s m args below meth c H locs ls E hW hS hl) (fun q => kf q p l e s m args below meth c H locs ls E hW hS hl)
theorem r_icmp_eq {x y : Int32} {off : Int} {tgt : Nat} (h : decode cc pc = .ok (.if_icmp .eq off, 3)) (ht : (pc : Int) + off = (tgt : Int)) (hn : pc + 3 = n) (kt : x = y → PW cA ad D own ws cc nL ret d tgt lv st M Q) (kf : ¬ x = y → PW cA ad D own ws cc nL ret d n lv st M Q) : PW cA ad D own ws cc nL ret d pc lv (.int y :: .int x :: st) M Q := by
  intro p l e s m args below meth c H locs ls E hW hS hl
  subst hn
  exact lv_icmp_eq E.1 E.2.1 h ht (fun q => kt q p l e s m args below meth c H locs ls E hW hS hl) (fun q => kf q p l e s m args below meth c H locs ls E hW hS hl)
theorem r_if_ne {x : Int32} {off : Int} {tgt : Nat} (h : decode cc pc = .ok (.ifCond .ne off, 3)) (ht : (pc : Int) + off = (tgt : Int)) (hn : pc + 3 = n) (kt : ¬ x = 0 → PW cA ad D own ws cc nL ret d tgt lv st M Q) (kf : x = 0 → PW cA ad D own ws cc nL ret d n lv st M Q) : PW cA ad D own ws cc nL ret d pc lv (.int x :: st) M Q := by
  intro p l e s m args below meth c H locs ls E hW hS hl
  subst hn
  exact lv_if_ne E.1 E.2.1 h ht (fun q => kt q p l e s m args below meth c H locs ls E hW hS hl) (fun q => kf q p l e s m args below meth c H locs ls E hW hS hl)
theorem r_icmp_ne {x y : Int32} {off : Int} {tgt : Nat} (h : decode cc pc = .ok (.if_icmp .ne off, 3)) (ht : (pc : Int) + off = (tgt : Int)) (hn : pc + 3 = n) (kt : ¬ x = y → PW cA ad D own ws cc nL ret d tgt lv st M Q) (kf : x = y → PW cA ad D own ws cc nL ret d n lv st M Q) : PW cA ad D own ws cc nL ret d pc lv (.int y :: .int x :: st) M Q := by
  intro p l e s m args below meth c H locs ls E hW hS hl
  subst hn
  exact lv_icmp_ne E.1 E.2.1 h ht (fun q => kt q p l e s m args below meth c H locs ls E hW hS hl) (fun q => kf q p l e s m args below meth c H locs ls E hW hS hl)
theorem r_if_lt {x : Int32} {off : Int} {tgt : Nat} (h : decode cc pc = .ok (.ifCond .lt off, 3)) (ht : (pc : Int) + off = (tgt : Int)) (hn : pc + 3 = n) (kt : x < 0 → PW cA ad D own ws cc nL ret d tgt lv st M Q) (kf : ¬ x < 0 → PW cA ad D own ws cc nL ret d n lv st M Q) : PW cA ad D own ws cc nL ret d pc lv (.int x :: st) M Q := by
  intro p l e s m args below meth c H locs ls E hW hS hl
  subst hn
  exact lv_if_lt E.1 E.2.1 h ht (fun q => kt q p l e s m args below meth c H locs ls E hW hS hl) (fun q => kf q p l e s m args below meth c H locs ls E hW hS hl)
theorem r_icmp_lt {x y : Int32} {off : Int} {tgt : Nat} (h : decode cc pc = .ok (.if_icmp .lt off, 3)) (ht : (pc : Int) + off = (tgt : Int)) (hn : pc + 3 = n) (kt : x < y → PW cA ad D own ws cc nL ret d tgt lv st M Q) (kf : ¬ x < y → PW cA ad D own ws cc nL ret d n lv st M Q) : PW cA ad D own ws cc nL ret d pc lv (.int y :: .int x :: st) M Q := by
  intro p l e s m args below meth c H locs ls E hW hS hl
  subst hn
  exact lv_icmp_lt E.1 E.2.1 h ht (fun q => kt q p l e s m args below meth c H locs ls E hW hS hl) (fun q => kf q p l e s m args below meth c H locs ls E hW hS hl)
theorem r_if_ge {x : Int32} {off : Int} {tgt : Nat} (h : decode cc pc = .ok (.ifCond .ge off, 3)) (ht : (pc : Int) + off = (tgt : Int)) (hn : pc + 3 = n) (kt : 0 ≤ x → PW cA ad D own ws cc nL ret d tgt lv st M Q) (kf : ¬ 0 ≤ x → PW cA ad D own ws cc nL ret d n lv st M Q) : PW cA ad D own ws cc nL ret d pc lv (.int x :: st) M Q := by
  intro p l e s m args below meth c H locs ls E hW hS hl
  subst hn
  exact lv_if_ge E.1 E.2.1 h ht (fun q => kt q p l e s m args below meth c H locs ls E hW hS hl) (fun q => kf q p l e s m args below meth c H locs ls E hW hS hl)
theorem r_icmp_ge {x y : Int32} {off : Int} {tgt : Nat} (h : decode cc pc = .ok (.if_icmp .ge off, 3)) (ht : (pc : Int) + off = (tgt : Int)) (hn : pc + 3 = n) (kt : y ≤ x → PW cA ad D own ws cc nL ret d tgt lv st M Q) (kf : ¬ y ≤ x → PW cA ad D own ws cc nL ret d n lv st M Q) : PW cA ad D own ws cc nL ret d pc lv (.int y :: .int x :: st) M Q := by
  intro p l e s m args below meth c H locs ls E hW hS hl
  subst hn
  exact lv_icmp_ge E.1 E.2.1 h ht (fun q => kt q p l e s m args below meth c H locs ls E hW hS hl) (fun q => kf q p l e s m args below meth c H locs ls E hW hS hl)
theorem r_if_gt {x : Int32} {off : Int} {tgt : Nat} (h : decode cc pc = .ok (.ifCond .gt off, 3)) (ht : (pc : Int) + off = (tgt : Int)) (hn : pc + 3 = n) (kt : 0 < x → PW cA ad D own ws cc nL ret d tgt lv st M Q) (kf : ¬ 0 < x → PW cA ad D own ws cc nL ret d n lv st M Q) : PW cA ad D own ws cc nL ret d pc lv (.int x :: st) M Q := by
  intro p l e s m args below meth c H locs ls E hW hS hl
  subst hn
  exact lv_if_gt E.1 E.2.1 h ht (fun q => kt q p l e s m args below meth c H locs ls E hW hS hl) (fun q => kf q p l e s m args below meth c H locs ls E hW hS hl)
theorem r_icmp_gt {x y : Int32} {off : Int} {tgt : Nat} (h : decode cc pc = .ok (.if_icmp .gt off, 3)) (ht : (pc : Int) + off = (tgt : Int)) (hn : pc + 3 = n) (kt : y < x → PW cA ad D own ws cc nL ret d tgt lv st M Q) (kf : ¬ y < x → PW cA ad D own ws cc nL ret d n lv st M Q) : PW cA ad D own ws cc nL ret d pc lv (.int y :: .int x :: st) M Q := by
  intro p l e s m args below meth c H locs ls E hW hS hl
  subst hn
  exact lv_icmp_gt E.1 E.2.1 h ht (fun q => kt q p l e s m args below meth c H locs ls E hW hS hl) (fun q => kf q p l e s m args below meth c H locs ls E hW hS hl)
theorem r_if_le {x : Int32} {off : Int} {tgt : Nat} (h : decode cc pc = .ok (.ifCond .le off, 3)) (ht : (pc : Int) + off = (tgt : Int)) (hn : pc + 3 = n) (kt : x ≤ 0 → PW cA ad D own ws cc nL ret d tgt lv st M Q) (kf : ¬ x ≤ 0 → PW cA ad D own ws cc nL ret d n lv st M Q) : PW cA ad D own ws cc nL ret d pc lv (.int x :: st) M Q := by
  intro p l e s m args below meth c H locs ls E hW hS hl
  subst hn
  exact lv_if_le E.1 E.2.1 h ht (fun q => kt q p l e s m args below meth c H locs ls E hW hS hl) (fun q => kf q p l e s m args below meth c H locs ls E hW hS hl)
theorem r_icmp_le {x y : Int32} {off : Int} {tgt : Nat} (h : decode cc pc = .ok (.if_icmp .le off, 3)) (ht : (pc : Int) + off = (tgt : Int)) (hn : pc + 3 = n) (kt : x ≤ y → PW cA ad D own ws cc nL ret d tgt lv st M Q) (kf : ¬ x ≤ y → PW cA ad D own ws cc nL ret d n lv st M Q) : PW cA ad D own ws cc nL ret d pc lv (.int y :: .int x :: st) M Q := by
  intro p l e s m args below meth c H locs ls E hW hS hl
  subst hn
  exact lv_icmp_le E.1 E.2.1 h ht (fun q => kt q p l e s m args below meth c H locs ls E hW hS hl) (fun q => kf q p l e s m args below meth c H locs ls E hW hS hl)
theorem r_goto {off : Int} {tgt : Nat} (h : decode cc pc = .ok (.goto off, 3)) (ht : (pc : Int) + off = (tgt : Int)) (kk : PW cA ad D own ws cc nL ret d tgt lv st M Q) : PW cA ad D own ws cc nL ret d pc lv st M Q := by
  intro p l e s m args below meth c H locs ls E hW hS hl
  exact lv_goto E.1 E.2.1 h ht (kk p l e s m args below meth c H locs ls E hW hS hl)
theorem r_ifnull {x : Nat} {off : Int} (h : decode cc pc = .ok (.ifnull off, 3)) (hn : pc + 3 = n) (kk : PW cA ad D own ws cc nL ret d n lv st M Q) : PW cA ad D own ws cc nL ret d pc lv (.ref x :: st) M Q := by
  intro p l e s m args below meth c H locs ls E hW hS hl
  subst hn
  exact lv_ifnull E.1 E.2.1 h (kk p l e s m args below meth c H locs ls E hW hS hl)
theorem r_ifnullN {off : Int} {tgt : Nat} (h : decode cc pc = .ok (.ifnull off, 3)) (ht : (pc : Int) + off = (tgt : Int)) (kk : PW cA ad D own ws cc nL ret d tgt lv st M Q) : PW cA ad D own ws cc nL ret d pc lv (.null :: st) M Q := by
  intro p l e s m args below meth c H locs ls E hW hS hl
  exact lv_ifnullN E.1 E.2.1 h ht (kk p l e s m args below meth c H locs ls E hW hS hl)
theorem r_ifnonnull {x : Nat} {off : Int} {tgt : Nat} (h : decode cc pc = .ok (.ifnonnull off, 3)) (ht : (pc : Int) + off = (tgt : Int)) (kk : PW cA ad D own ws cc nL ret d tgt lv st M Q) : PW cA ad D own ws cc nL ret d pc lv (.ref x :: st) M Q := by
  intro p l e s m args below meth c H locs ls E hW hS hl
  exact lv_ifnonnull E.1 E.2.1 h ht (kk p l e s m args below meth c H locs ls E hW hS hl)
theorem r_ifnonnullN {off : Int} (h : decode cc pc = .ok (.ifnonnull off, 3)) (hn : pc + 3 = n) (kk : PW cA ad D own ws cc nL ret d n lv st M Q) : PW cA ad D own ws cc nL ret d pc lv (.null :: st) M Q := by
  intro p l e s m args below meth c H locs ls E hW hS hl
  subst hn
  exact lv_ifnonnullN E.1 E.2.1 h (kk p l e s m args below meth c H locs ls E hW hS hl)
theorem r_tableIn {dflt lo hi : Int} {offs : Array Int} {len : Nat} {x : Int32} {off : Int} {tgt : Nat} (h : decode cc pc = .ok (.tableswitch dflt lo hi offs, len)) (h1 : ¬ x.toInt < lo) (h2 : ¬ hi < x.toInt) (ho : offs[(x.toInt - lo).toNat]? = some off) (ht : (pc : Int) + off = (tgt : Int)) (kk : PW cA ad D own ws cc nL ret d tgt lv st M Q) : PW cA ad D own ws cc nL ret d pc lv (.int x :: st) M Q := by
  intro p l e s m args below meth c H locs ls E hW hS hl
  exact lv_tableIn E.1 E.2.1 h h1 h2 ho ht (kk p l e s m args below meth c H locs ls E hW hS hl)
theorem r_tableOut {dflt lo hi : Int} {offs : Array Int} {len : Nat} {x : Int32} {tgt : Nat} (h : decode cc pc = .ok (.tableswitch dflt lo hi offs, len)) (h1 : x.toInt < lo ∨ hi < x.toInt) (ht : (pc : Int) + dflt = (tgt : Int)) (kk : PW cA ad D own ws cc nL ret d tgt lv st M Q) : PW cA ad D own ws cc nL ret d pc lv (.int x :: st) M Q := by
  intro p l e s m args below meth c H locs ls E hW hS hl
  exact lv_tableOut E.1 E.2.1 h h1 ht (kk p l e s m args below meth c H locs ls E hW hS hl)
theorem r_lookup {dflt : Int} {ps : Array (Int × Int)} {len : Nat} {x : Int32} {off : Int} {tgt : Nat} (h : decode cc pc = .ok (.lookupswitch dflt ps, len)) (hp : (ps.toList.zip (ps.toList.drop 1)).all (fun (a, next) => a.1 < next.1) = true) (ho : Op.lookupswitch.offset ps.toList dflt x.toInt = off) (ht : (pc : Int) + off = (tgt : Int)) (kk : PW cA ad D own ws cc nL ret d tgt lv st M Q) : PW cA ad D own ws cc nL ret d pc lv (.int x :: st) M Q := by
  intro p l e s m args below meth c H locs ls E hW hS hl
  exact lv_lookup E.1 E.2.1 h hp ho ht (kk p l e s m args below meth c H locs ls E hW hS hl)
theorem r_mmax {i : Nat} {x y : Int32} (hd : 1 ≤ d) (h1 : Cond.methodLink own i Lib.Math.max.name ∈ ws) (h2 : Cond.static Lib.Math.max.name ∈ ws) (h3 : Cond.initialized "java/lang/Math" ∈ ws) (h4 : Cond.code Lib.Math.max.name Lib.Math.max.code 2 (some .int) ∈ ws) (hst : (st.map fun v => v.category).sum ≤ 8) (h : decode cc pc = .ok (.invokestatic i, 3)) (hn : pc + 3 = n) (kk : PW cA ad D own ws cc nL ret d n lv (.int (if x < y then y else x) :: st) M Q) : PW cA ad D own ws cc nL ret d pc lv (.int y :: .int x :: st) M Q := by
  intro p l e s m args below meth c H locs ls E hW hS hl
  subst hn
  exact va_mmax E.1 E.2.1 (E.2.2.1.trans hl.1.symm) E.2.2.2.1 (E.2.2.2.2.1 _ h1) (E.2.2.2.2.1 _ h2) (E.2.2.2.2.1 _ h3) (E.2.2.2.2.1 _ h4) hd (by show _ ≤ 32 * d; omega) (Nat.zero_le _) (Nat.zero_le _) h (kk p l e s m args below meth c H locs ls E hW hS hl)
theorem r_mmin {i : Nat} {x y : Int32} (hd : 1 ≤ d) (h1 : Cond.methodLink own i Lib.Math.min.name ∈ ws) (h2 : Cond.static Lib.Math.min.name ∈ ws) (h3 : Cond.initialized "java/lang/Math" ∈ ws) (h4 : Cond.code Lib.Math.min.name Lib.Math.min.code 2 (some .int) ∈ ws) (hst : (st.map fun v => v.category).sum ≤ 8) (h : decode cc pc = .ok (.invokestatic i, 3)) (hn : pc + 3 = n) (kk : PW cA ad D own ws cc nL ret d n lv (.int (if y < x then y else x) :: st) M Q) : PW cA ad D own ws cc nL ret d pc lv (.int y :: .int x :: st) M Q := by
  intro p l e s m args below meth c H locs ls E hW hS hl
  subst hn
  exact va_mmin E.1 E.2.1 (E.2.2.1.trans hl.1.symm) E.2.2.2.1 (E.2.2.2.2.1 _ h1) (E.2.2.2.2.1 _ h2) (E.2.2.2.2.1 _ h3) (E.2.2.2.2.1 _ h4) hd (by show _ ≤ 32 * d; omega) (Nat.zero_le _) (Nat.zero_le _) h (kk p l e s m args below meth c H locs ls E hW hS hl)
theorem r_mabs {i : Nat} {x : Int32} (hd : 1 ≤ d) (h1 : Cond.methodLink own i Lib.Math.abs.name ∈ ws) (h2 : Cond.static Lib.Math.abs.name ∈ ws) (h3 : Cond.initialized "java/lang/Math" ∈ ws) (h4 : Cond.code Lib.Math.abs.name Lib.Math.abs.code 1 (some .int) ∈ ws) (hst : (st.map fun v => v.category).sum ≤ 8) (h : decode cc pc = .ok (.invokestatic i, 3)) (hn : pc + 3 = n) (kk : PW cA ad D own ws cc nL ret d n lv (.int (if 0 ≤ x then x else 0 - x) :: st) M Q) : PW cA ad D own ws cc nL ret d pc lv (.int x :: st) M Q := by
  intro p l e s m args below meth c H locs ls E hW hS hl
  subst hn
  exact va_mabs E.1 E.2.1 (E.2.2.1.trans hl.1.symm) E.2.2.2.1 (E.2.2.2.2.1 _ h1) (E.2.2.2.2.1 _ h2) (E.2.2.2.2.1 _ h3) (E.2.2.2.2.1 _ h4) hd (by show _ ≤ 32 * d; omega) (Nat.zero_le _) (Nat.zero_le _) h (kk p l e s m args below meth c H locs ls E hW hS hl)
/-- a field is read -/
theorem r_get {index i ci k N : Nat} {C : String} {T : u_T} {fs : List Value} {v : Value} (hi : i < 66) (hc : cellOf cA ad M i = .inr (ci, fs)) (hcl : vwCl[ci]? = some (C, T, N)) (hin : ∀ w ∈ u_ws C T N, w ∈ ws) (hk : k < N) (hlink : Cond.fieldLink own index (T k).1 (T k).2.1 (T k).2.2.1 ∈ ws) (hv : fs[k]? = some v) (h : decode cc pc = .ok (.getfield index, 3)) (hn : pc + 3 = n) (kk : PW cA ad D own ws cc nL ret d n lv (v :: st) M Q) : PW cA ad D own ws cc nL ret d pc lv (.ref (ad i) :: st) M Q := by
  intro p l e s m args below meth c H locs ls E hW hS hl
  subst hn
  exact va_get E.1 E.2.1 E.2.2.2.2.1 hin E.2.2.2.1 E.2.2.2.2.2.2.2.1.1 hW i ((wld_get cA ad M hi).trans (by rw [hc])) hcl k hk (E.2.2.2.2.1 _ hlink) (fun _ h9 => h9) hv h (kk p l e s m args below meth c H locs ls E hW hS hl)
/-- a field is written -/
theorem r_put {index i ci k N : Nat} {C : String} {T : u_T} {fs : List Value} {v : Value} {ty : FieldType} {M' : Mem} (hi : i < 66) (hc : cellOf cA ad M i = .inr (ci, fs)) (hcl : vwCl[ci]? = some (C, T, N)) (ty0 : Nat → FieldType) (hty : ∀ k, k < N → parseFieldDescriptor (T k).2.2.1 = some (ty0 k)) (hnm : ∀ a, a < N → ∀ b, b < N → a ≠ b → (T a).2.1 ≠ (T b).2.1) (hin : ∀ w ∈ u_ws C T N, w ∈ ws) (hk : k < N) (hlink : Cond.fieldLink own index (T k).1 (T k).2.1 (T k).2.2.1 ∈ ws) (hfin : (T k).2.2.2 = false) (hd : parseFieldDescriptor (T k).2.2.1 = some ty) (hna : narrow ty v = v) (hfit : fits ty v = true) (hlk : k < fs.length) (hM : cellOf cA ad M' i = .inr (ci, fs.set k v)) (hM2 : ∀ j, j < 66 → j ≠ i → cellOf cA ad M' j = cellOf cA ad M j) (h : decode cc pc = .ok (.putfield index, 3)) (hn : pc + 3 = n) (kk : PW cA ad D own ws cc nL ret d n lv st M' Q) : PW cA ad D own ws cc nL ret d pc lv (v :: .ref (ad i) :: st) M Q := by
  intro p l e s m args below meth c H locs ls E hW hS hl
  subst hn
  refine va_put E.1 E.2.1 E.2.2.2.2.1 hin ty0 hty hnm E.2.2.2.1 E.2.2.2.2.2.2.2.1.1 hW (wld_D E.2.2.2.2.2.2.2.2 M) hS i ((wld_get cA ad M hi).trans (by rw [hc])) hcl k hk (E.2.2.2.2.1 _ hlink) (fun _ h9 => h9) hfin hd hna hfit hlk h (fun H1 locs1 hP1 hD1 hS1 => ?_)
  rw [wld_set hi hM hM2] at hP1
  exact kk p l e s m args below meth c H1 locs1 ls E hP1 hS1 hl
/-- an int of a row is read -/
theorem r_iald {i len : Nat} {f : Nat → Int32} {j : Int32} (hi : i < 66) (hc : cellOf cA ad M i = .inl (cA 1, len, .inl f)) (hin : vp_in j len) (h : decode cc pc = .ok (.iaload, 1)) (hn : pc + 1 = n) (kk : PW cA ad D own ws cc nL ret d n lv (.int (f j.toNatClampNeg) :: st) M Q) : PW cA ad D own ws cc nL ret d pc lv (.int j :: .ref (ad i) :: st) M Q := by
  intro p l e s m args below meth c H locs ls E hW hS hl
  subst hn
  exact va_iald E.1 E.2.1 E.2.2.2.2.2.2.2.1.1 hW i 1 ((wld_get cA ad M hi).trans (by rw [hc])) rfl hin h (kk p l e s m args below meth c H locs ls E hW hS hl)
theorem r_cald {j : Int32} (hin : vp_in j 60) (h : decode cc pc = .ok (.caload, 1)) (hn : pc + 1 = n) (kk : PW cA ad D own ws cc nL ret d n lv (.int (M.1 7 j.toNatClampNeg) :: st) M Q) : PW cA ad D own ws cc nL ret d pc lv (.int j :: .ref (ad 2) :: st) M Q := by
  intro p l e s m args below meth c H locs ls E hW hS hl
  subst hn
  exact va_cald E.1 E.2.1 E.2.2.2.2.2.2.2.1.1 hW 2 0 (wld_get cA ad M (by decide)) rfl hin h (kk p l e s m args below meth c H locs ls E hW hS hl)
theorem r_alen {i len : Nat} {x : ((Nat → Int32) ⊕ (Nat → Int64) ⊕ (Nat → UInt32) ⊕ (Nat → UInt64) ⊕ (Nat → Option Nat))} {t : Nat} {ty : FieldType} {v : Int32} (hi : i < 66) (hc : cellOf cA ad M i = .inl (cA t, len, x)) (ht : (TYS cA)[t]? = some (cA t, ty)) (hv : Int32.ofNat len = v) (h : decode cc pc = .ok (.arraylength, 1)) (hn : pc + 1 = n) (kk : PW cA ad D own ws cc nL ret d n lv (.int v :: st) M Q) : PW cA ad D own ws cc nL ret d pc lv (.ref (ad i) :: st) M Q := by
  intro p l e s m args below meth c H locs ls E hW hS hl
  subst hn
  exact va_alen E.1 E.2.1 E.2.2.2.2.2.2.2.1.1 hW i t ((wld_get cA ad M hi).trans (by rw [hc])) ht hv h (kk p l e s m args below meth c H locs ls E hW hS hl)
theorem r_aald {i len t : Nat} {C : String} {f : Nat → Option Nat} {j : Int32} {a : Nat} (hi : i < 66) (hc : cellOf cA ad M i = .inl (cA t, len, .inr (.inr (.inr (.inr f))))) (ht : (TYS cA)[t]? = some (cA t, .object C)) (hin : vp_in j len) (hf : f j.toNatClampNeg = some a) (h : decode cc pc = .ok (.aaload, 1)) (hn : pc + 1 = n) (kk : PW cA ad D own ws cc nL ret d n lv (.ref a :: st) M Q) : PW cA ad D own ws cc nL ret d pc lv (.int j :: .ref (ad i) :: st) M Q := by
  intro p l e s m args below meth c H locs ls E hW hS hl
  subst hn
  refine va_aldq E.1 E.2.1 E.2.2.2.2.2.2.2.1.1 hW i t ((wld_get cA ad M hi).trans (by rw [hc])) ht hin h ?_
  rw [hf]
  exact kk p l e s m args below meth c H locs ls E hW hS hl
theorem r_iast {i len p' k' : Nat} {f : Nat → Int32} {j x : Int32} (hi : i < 66) (hc : cellOf cA ad M i = .inl (cA 1, len, .inl f)) (hin : vp_in j len) (hM : cellOf cA ad (mput M p' k' x) i = .inl (cA 1, len, .inl (upd f j.toNatClampNeg x))) (hp : p' < 11) (ho : ownI p' k' = i) (h : decode cc pc = .ok (.iastore, 1)) (hn : pc + 1 = n) (kk : PW cA ad D own ws cc nL ret d n lv st (mput M p' k' x) Q) : PW cA ad D own ws cc nL ret d pc lv (.int x :: .int j :: .ref (ad i) :: st) M Q := by
  intro p l e s m args below meth c H locs ls E hW hS hl
  subst hn
  refine va_iast E.1 E.2.1 E.2.2.2.2.2.2.2.1.1 hW (wld_D E.2.2.2.2.2.2.2.2 M) hS i 1 ((wld_get cA ad M hi).trans (by rw [hc])) rfl hin h (fun H1 locs1 hP1 hD1 hS1 => ?_)
  rw [wld_set hi hM (fun j2 h1 h2 => cell_other cA ad M hp h1 (by rw [ho]; exact h2))] at hP1
  exact kk p l e s m args below meth c H1 locs1 ls E hP1 hS1 hl
theorem r_irem {x y : Int32} (h : decode cc pc = .ok (.irem, 1)) (hne : ¬ y = 0) (hn : pc + 1 = n) (kk : PW cA ad D own ws cc nL ret d n lv (.int (rmI x y) :: st) M Q) : PW cA ad D own ws cc nL ret d pc lv (.int y :: .int x :: st) M Q := by
  intro p l e s m args below meth c H locs ls E hW hS hl
  subst hn
  exact lv_irem E.1 E.2.1 h hne (kk p l e s m args below meth c H locs ls E hW hS hl)
theorem r_cast {j x : Int32} (hin : vp_in j 60) (h : decode cc pc = .ok (.castore, 1)) (hn : pc + 1 = n) (kk : PW cA ad D own ws cc nL ret d n lv st (mput M 7 j.toNatClampNeg (vp_nar .char x)) Q) : PW cA ad D own ws cc nL ret d pc lv (.int x :: .int j :: .ref (ad 2) :: st) M Q := by
  intro p l e s m args below meth c H locs ls E hW hS hl
  subst hn
  refine va_cast E.1 E.2.1 E.2.2.2.2.2.2.2.1.1 hW (wld_D E.2.2.2.2.2.2.2.2 M) hS 2 0 (wld_get cA ad M (by decide)) rfl hin h (fun H1 locs1 hP1 hD1 hS1 => ?_)
  have hw := wld_set (cA := cA) (ad := ad) (M := M) (M' := mput M 7 j.toNatClampNeg (vp_nar .char x)) (i := 2) (e := .inl (cA 0, 60, .inl (upd (M.1 7) j.toNatClampNeg (vp_nar .char x)))) (by decide) (by simp [cellOf, mput_eq]) (fun j2 h1 h2 => cell_other cA ad M (by decide) h1 (by simp [ownI]; exact h2))
  rw [hw] at hP1
  exact kk p l e s m args below meth c H1 locs1 ls E hP1 hS1 hl
/-- behind a call -/
theorem call_k {p : Program} {l : Launch} {e : Env} {R : Room} {s : State} {m : MethodId} {args : Array Value} {below : List Frame} {meth : Method} {c : Code} {H : Heap} {locs : List Loc} {Z : State → Prop} {ls : Array Slot} {st0 : List Value} {a : Array Value} {Q' : QT}
    (hr : va_Run p l e R s m args below meth c H locs 0 0 0 0 (F0 m pc ls st0) rest (QQ cA ad D Q' a) (AA ad)) (hS : va_S (AA ad) s.heap H locs)
    (kk : ∀ (r : Option Value) (M' : Mem) (H1 : Heap) (locs1 : List Loc), Q' r M' → WOK cA ad D M' H1 → va_S (AA ad) s.heap H1 locs1 → W p l e R s m args below meth c H1 locs1 0 0 Z (F0 m (pc + 3) ls (r.toList ++ rest))) : W p l e R s m args below meth c H locs 0 0 Z (F0 m pc ls st0) := by
  intro T hT X
  obtain ⟨v, st₀, t, T', L, h0, X', hL, e1, e2, ⟨⟨r, M', hv, hq, hw⟩, hz, hk⟩, st⟩ := hr T hT X
  cases hv
  rw [h0] at hz hk
  obtain ⟨t2, a1, b1⟩ := kk v M' T'.heap (locs ++ L) hq (by rw [e1]; exact hw)
    ⟨Nat.le_trans hS.1 (by rw [e1]; exact hz), fun q h1 h2 => by rw [e1, hk q (Nat.lt_of_lt_of_le h1 hS.1) h2]; exact hS.2.1 q h1 h2, fun q hq => by
      rcases List.mem_append.mp hq with h | h
      · exact hS.2.2 q h
      · exact hL q h⟩ T' rfl X'
  exact ⟨t2, st t2 a1, b1⟩
theorem NST.moved {u U : State} (h : u.vm = U.vm) (hz : NST u) : NST U := ⟨va_Nw.same rfl h hz.1, va_Nw.same rfl h hz.2.1, va_Nw.same rfl h hz.2.2.1, va_Nw.same rfl h hz.2.2.2.1, va_Nw.same rfl h hz.2.2.2.2⟩
theorem NST.warm {s U : State} (hW : s.WarmedH U.vm) (hz : NST s) : NST U := ⟨va_Nw.warmM hW hz.1, va_Nw.warmM hW hz.2.1, va_Nw.warmM hW hz.2.2.1, va_Nw.warmM hW hz.2.2.2.1, va_Nw.warmM hW hz.2.2.2.2⟩
theorem pc_blind (cA : Nat → ClassId) (ad : Nat → Nat) (D : va_G) (av : List Value) (M : Mem) : FrameBlind (va_Pc av (fun U => WOK cA ad D M U.heap ∧ EOK cA D U)) :=
  fun a U g mk h => ⟨h.1, h.2.1, va_K.moved (u := U) (U := U.calling g mk a) (Vm.Alike.refl U.vm) h.2.2.1, NST.moved (u := U) (U := U.calling g mk a) rfl h.2.2.2⟩
theorem pc_ok {cA : Nat → ClassId} {ad : Nat → Nat} {D : va_G} {av : List Value} {M : Mem} {s U : State} {H : Heap} (hE : EOK cA D s) (hW : WOK cA ad D M H) (hU : U.heap = H) (hw : s.WarmedH U.vm) : va_Pc av (fun U => WOK cA ad D M U.heap ∧ EOK cA D U) av.toArray U :=
  ⟨rfl, by rw [hU]; exact hW, va_K.moved hw.alike hE.1, NST.warm hw hE.2⟩
/-- a call of an instance method -/
theorem r_callV {index i np d' ci N maxL : Nat} {y : MethodName} {ws' wst : List Cond} {bytes : ByteArray} {rty : Option FieldType} {C : String} {T : u_T} {fs : List Value} {As : List Value} {Q' : QT}
    (hM : PM cA ad D y ws' d' (.ref (ad i) :: As) M Q') (hg : GoodIn ws (wsV own index C y ws')) (hw : ws' = Cond.code y bytes maxL rty :: wst) (hd : y.cls = C ∧ y.cls ≠ "java/lang/invoke/MethodHandle" ∧ y.cls ≠ "java/lang/invoke/VarHandle" ∧ (parseMethodDescriptor y.desc).map (fun d => d.parameters.length) = some np) (hnp : As.length = np) (hdep : d' + 1 ≤ d) (hmax : maxL ≤ 13)
    (hi : i < 66) (hc : cellOf cA ad M i = .inr (ci, fs)) (hcl : vwCl[ci]? = some (C, T, N)) (h : decode cc pc = .ok (.invokevirtual index, 3)) (hn : pc + 3 = n) (hst : st = As.reverse ++ .ref (ad i) :: rest) (hcat : (rest.map fun v => v.category).sum ≤ 8)
    (kk : ∀ r M', Q' r M' → PW cA ad D own ws cc nL ret d n lv (r.toList ++ rest) M' Q) : PW cA ad D own ws cc nL ret d pc lv st M Q := by
  intro p l e s m args below meth c H locs ls E hW hS hl
  subst hn
  have hE := E
  obtain ⟨hx, hb, hml, hown, hts, hr, hlocks, hek, hI⟩ := E
  refine call_k (va_runV (As := As) (rest := rest) ⟨hx, hb, hml, hown, hts⟩ (hM hI l) (cwV np hts hg hw rfl rfl hd ⟨hdep, by show _ ≤ 32 * d; show 8 + (maxL + 11) + 32 * d' ≤ 32 * d; omega⟩) ⟨pc_blind cA ad D _ M, va_recv hek.1 hW hcl ((wld_get cA ad M hi).trans (by rw [hc])), fun U hU hw => pc_ok hek hW hU hw⟩ rfl hnp hl.1 hst (lv_room hcat) h ⟨Nat.zero_le _, Nat.zero_le _⟩) hS (fun r M' H1 locs1 hq hW1 hS1 => ?_)
  exact kk r M' hq p l e s m args below meth c H1 locs1 ls hE hW1 hS1 hl
theorem r_callS {index np d' maxL : Nat} {y : MethodName} {ws' wst : List Cond} {bytes : ByteArray} {rty : Option FieldType} {As : List Value} {Q' : QT}
    (hM : PM cA ad D y ws' d' As M Q') (hg : GoodIn ws (va_wsS own index y ws')) (hw : ws' = Cond.code y bytes maxL rty :: wst) (hd : y.cls ≠ "java/lang/invoke/MethodHandle" ∧ y.cls ≠ "java/lang/invoke/VarHandle" ∧ (parseMethodDescriptor y.desc).map (fun d => d.parameters.length) = some np) (hnp : As.length = np) (hdep : d' + 1 ≤ d) (hmax : maxL ≤ 13)
    (h : decode cc pc = .ok (.invokestatic index, 3)) (hn : pc + 3 = n) (hst : st = As.reverse ++ rest) (hcat : (rest.map fun v => v.category).sum ≤ 8)
    (kk : ∀ r M', Q' r M' → PW cA ad D own ws cc nL ret d n lv (r.toList ++ rest) M' Q) : PW cA ad D own ws cc nL ret d pc lv st M Q := by
  intro p l e s m args below meth c H locs ls E hW hS hl
  subst hn
  have hE := E
  obtain ⟨hx, hb, hml, hown, hts, hr, hlocks, hek, hI⟩ := E
  refine call_k (va_runS (As := As) (rest := rest) ⟨hx, hb, hml, hown, hts⟩ (hM hI l) (va_cwS np hts hg hw rfl rfl hd ⟨hdep, by show 8 + (maxL + 11) + 32 * d' ≤ 32 * d; omega⟩) ⟨pc_blind cA ad D _ M, fun U hU hw => pc_ok hek hW hU hw⟩ rfl hnp hl.1 hst (lv_room hcat) h ⟨Nat.zero_le _, Nat.zero_le _⟩) hS (fun r M' H1 locs1 hq hW1 hS1 => ?_)
  exact kk r M' hq p l e s m args below meth c H1 locs1 ls hE hW1 hS1 hl
theorem r_callSN {index np d' maxL : Nat} {y : MethodName} {ws' wst : List Cond} {bytes : ByteArray} {rty : Option FieldType} {As : List Value} {Q' : QT} {host : String}
    (hM : PM cA ad D y ws' d' As M Q') (hg : GoodIn ws ws') (hw : ws' = Cond.code y bytes maxL rty :: wst) (hnn : ∀ U, NST U → va_Nw (.methodLinkNest own index y host) U) (h1 : Cond.initialized y.cls ∈ ws) (h2 : Cond.static y ∈ ws) (hd : y.cls ≠ "java/lang/invoke/MethodHandle" ∧ y.cls ≠ "java/lang/invoke/VarHandle" ∧ (parseMethodDescriptor y.desc).map (fun d => d.parameters.length) = some np) (hnp : As.length = np) (hdep : d' + 1 ≤ d) (hmax : maxL ≤ 13)
    (h : decode cc pc = .ok (.invokestatic index, 3)) (hn : pc + 3 = n) (hst : st = As.reverse ++ rest) (hcat : (rest.map fun v => v.category).sum ≤ 8)
    (kk : ∀ r M', Q' r M' → PW cA ad D own ws cc nL ret d n lv (r.toList ++ rest) M' Q) : PW cA ad D own ws cc nL ret d pc lv st M Q := by
  intro p l e s m args below meth c H locs ls E hW hS hl
  subst hn
  have hE := E
  obtain ⟨hx, hb, hml, hown, hts, hr, hlocks, hek, hI⟩ := E
  refine call_k (va_runSN (As := As) (rest := rest) ⟨hx, hb, hml, hown, hts⟩ (hM hI l) ⟨va_cnB np hts hg hw rfl rfl (hnn s hek.2) (hts _ h1) hd ⟨hdep, by show 8 + (maxL + 11) + 32 * d' ≤ 32 * d; omega⟩, hts _ h2, trivial⟩ ⟨pc_blind cA ad D _ M, fun U hU hw => pc_ok hek hW hU hw⟩ rfl hnp hl.1 hst (lv_room hcat) h ⟨Nat.zero_le _, Nat.zero_le _⟩) hS (fun r M' H1 locs1 hq hW1 hS1 => ?_)
  exact kk r M' hq p l e s m args below meth c H1 locs1 ls hE hW1 hS1 hl
theorem pw_drop {lv' : List (Option Value)} {i : Nat} (hl' : lv' = lv.set i none) (kk : PW cA ad D own ws cc nL ret d pc lv' st M Q) : PW cA ad D own ws cc nL ret d pc lv st M Q := by
  intro p l e s m args below meth c H locs ls E hW hS hl
  refine kk p l e s m args below meth c H locs ls E hW hS ⟨hl.1, hl.2.1, ?_⟩
  rintro ⟨j, w⟩ hm
  obtain ⟨k, h1, h2⟩ := (prs_mem _ 0 j w).mp hm
  have hk : j = k := by omega
  subst hk
  refine prs_get hl ?_
  rw [hl'] at h2
  by_cases hj : j = i
  · subst hj
    by_cases hlt : j < lv.length
    · rw [List.getElem?_set_self hlt] at h2
      cases h2
    · rw [List.getElem?_eq_none (by simpa using hlt)] at h2
      cases h2
  · rw [List.getElem?_set_ne (fun q => hj q.symm)] at h2
    exact h2
theorem pw_mg {pcM : Nat} {x : Int32} (k1 : PW cA ad D own ws cc nL ret d pcM lv (.int x :: st) M Q) (k2 : PW cA ad D own ws cc nL ret d pcM lv (.int x :: st) M Q → PW cA ad D own ws cc nL ret d pc lv st M Q) : PW cA ad D own ws cc nL ret d pc lv st M Q := k2 k1
theorem r_top {x : Int32} (kk : ∀ y, y = x → PW cA ad D own ws cc nL ret d pc lv (.int y :: st) M Q) : PW cA ad D own ws cc nL ret d pc lv (.int x :: st) M Q := kk x rfl
theorem pw_sx {x y : Int32} (h : x = y) (kk : PW cA ad D own ws cc nL ret d pc lv (.int y :: st) M Q) : PW cA ad D own ws cc nL ret d pc lv (.int x :: st) M Q := h ▸ kk
theorem pw_mem {M2 : Mem} (h : M = M2) (kk : PW cA ad D own ws cc nL ret d pc lv st M2 Q) : PW cA ad D own ws cc nL ret d pc lv st M Q := h ▸ kk
theorem i10 {P : Prop} {dP : Decidable P} (h : (if P then (1 : Int32) else 0) = 0) : ¬ P := by
  intro q
  rw [if_pos q] at h
  exact absurd h (by decide)
theorem i11 {P : Prop} {dP : Decidable P} (h : ¬ (if P then (1 : Int32) else 0) = 0) : P := by
  by_cases q : P
  · exact q
  · rw [if_neg q] at h
    exact absurd rfl h
theorem pw_cut {P : Prop} (h : P) (k : P → PW cA ad D own ws cc nL ret d pc lv st M Q) : PW cA ad D own ws cc nL ret d pc lv st M Q := k h
theorem pw_post {Q' : QT} (h : PW cA ad D own ws cc nL ret d pc lv st M Q') (hq : ∀ r M', Q' r M' → Q r M') : PW cA ad D own ws cc nL ret d pc lv st M Q := by
  intro p l e s m args below meth c H locs ls E hW hS hl T hT X
  obtain ⟨t, a, o, b1, b2, ⟨⟨r, M', h1, h2, h3⟩, h4⟩, b4⟩ := h p l e s m args below meth c H locs ls E hW hS hl T hT X
  exact ⟨t, a, o, b1, b2, ⟨⟨r, M', h1, hq _ _ h2, h3⟩, h4⟩, b4⟩
end ROWS
