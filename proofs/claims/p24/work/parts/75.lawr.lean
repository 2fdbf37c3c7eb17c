/-! ===== the law's body: its rows over the memory, and its loops ===== -/
def NWP (s : State) : Nat → Prop := fun q => s.heap.size ≤ q
def LW (p : Program) (l : Launch) (e : Env) (s : State) (m : MethodId) (below : List Frame) (meth : Method) (c : Code) (b : Nat) (cA : Nat → ClassId) (ad : Nat → Nat) (D : va_G) (pc : Nat) (lv : List (Option Value)) (st : List Value) (M : Mem) : Prop :=
  ∀ (H : Heap) (locs : List Loc) (ls : Array Slot), WOK cA ad D M H → va_S (NWP s) s.heap H locs → lv_has ls 7 (prs 0 lv) → W p l e room_1 s m #[Value.ref b] below meth c H locs 600000 7302250 (lw_Z below #[Value.ref b] s) (F0 m pc ls st)
theorem wld_DN {cA : Nat → ClassId} {ad : Nat → Nat} {s : State} (hI : INJ ad) (had : ∀ i, i < 66 → s.heap.size ≤ ad i) (M : Mem) : va_D (NWP s) (Wld cA ad M) := by
  refine ⟨fun i j p q hi hj hpq => ?_, fun k q hk => ?_⟩
  · obtain ⟨h1, rfl⟩ := wld_lt hi
    obtain ⟨h2, rfl⟩ := wld_lt hj
    exact hI i j h1 h2 hpq
  · obtain ⟨h1, rfl⟩ := wld_lt hk
    exact had k h1
theorem call_kL {p : Program} {l : Launch} {e : Env} {R : Room} {s : State} {m : MethodId} {args : Array Value} {below : List Frame} {meth : Method} {c : Code} {H : Heap} {locs : List Loc} {Z : State → Prop} {ls : Array Slot} {pc c0 n0 : Nat} {st0 rest : List Value} {a : Array Value} {Q' : QT} {cA : Nat → ClassId} {ad : Nat → Nat} {D : va_G} {A0 : Nat → Prop}
    (hr : va_Run p l e R s m args below meth c H locs c0 n0 0 0 (F0 m pc ls st0) rest (QQ cA ad D Q' a) (AA ad)) (hS : va_S A0 s.heap H locs) (hA : ∀ q, AA ad q → A0 q)
    (kk : ∀ (r : Option Value) (M' : Mem) (H1 : Heap) (locs1 : List Loc), Q' r M' → WOK cA ad D M' H1 → va_S A0 s.heap H1 locs1 → W p l e R s m args below meth c H1 locs1 c0 n0 Z (F0 m (pc + 3) ls (r.toList ++ rest))) : W p l e R s m args below meth c H locs c0 n0 Z (F0 m pc ls st0) := by
  intro T hT X
  obtain ⟨v, st₀, t, T', L, h0, X', hL, e1, e2, ⟨⟨r, M', hv, hq, hw⟩, hz, hk⟩, st⟩ := hr T hT X
  cases hv
  rw [h0] at hz hk
  obtain ⟨t2, a1, b1⟩ := kk v M' T'.heap (locs ++ L) hq (by rw [e1]; exact hw)
    ⟨Nat.le_trans hS.1 (by rw [e1]; exact hz), fun q h1 h2 => by rw [e1, hk q (Nat.lt_of_lt_of_le h1 hS.1) (fun z => h2 (hA q z))]; exact hS.2.1 q h1 h2, fun q hq => by
      rcases List.mem_append.mp hq with h | h
      · exact hS.2.2 q h
      · exact hA _ (hL q h)⟩ T' rfl X'
  exact ⟨t2, st t2 a1, b1⟩
/-- what the law's cell answers: some int -/
theorem c_cell (l : Launch) {b L : Nat} {xs : Nat → Int32} (hL : L ≤ 260) {v : Int32} {j : Nat} (hj : j < 1000) (hv0 : v = nI j) : Met l yL_cell wsL_cell ({ frames := 0, cells := 0, slots := 0, locals := 0 }) (va_Pc [.ref b, .int v] (fun U => va_X b L xs U U.heap ∧ b < U.heap.size)) (va_Qi (fun _ (_ : Unit) => True) (fun _ _ => True) (fun _ => False)) 0 0 (fun _ => False) := by
  refine Met.ofW (cc := cL_cell) (maxL := 2) (ret := some .int) (by decide +kernel) rfl ?_
  intro p e s m args below meth c s₁ B hml hv
  obtain ⟨rfl, hX, hbl⟩ := hv
  have hx := B.exec
  have hb := B.bytes
  have hr := B.returns
  have hts := atoms_spec (ws := wsL_cell) B.pre
  have hown : s.vm.findClass RL = some m.cls := findClass_of_methodNamed B.named
  have hbA : ¬ (fun _ : Nat => False) b := fun h => h
  have hS : va_S (fun _ => False) s.heap s.heap [] := va_S.rf
  have hl := lv_entry ([.ref b, .int v]) (n := 2) (Nat.le_of_ble_eq_true rfl)
  rw [lg_entry_eq]
  generalize (lg_sl ([.ref b, .int v]) ++ List.replicate (2 - (lg_sl ([.ref b, .int v])).length) Slot.unset).toArray = ls at hl ⊢
  have hl : lv_has ls 2 [(0, .ref b), (1, .int v)] := hl
  have fin : ∀ x : Int32, W p l e ({ frames := 0, cells := 0, slots := 0, locals := 0 }) s m #[.ref b, .int v] below meth c s.heap [] 0 0 (MQ below (va_Qi (fun _ (_ : Unit) => True) (fun _ _ => True) (fun _ => False)) #[.ref b, .int v] s 0 0 (fun _ => False)) (F0 m 18 ls [.int x]) := fun x => by
    exact W.iret hx hb hr (fun t ht hW => ⟨⟨x, (), rfl, trivial, trivial⟩, hS.F ht⟩) hS.2.2 dL_cell_18 B.notSynchronized
  refine lv_iload_n hx hb dL_cell_0 rfl (lv_at hl 1 rfl) ?_
  refine lv_aload_n hx hb dL_cell_1 rfl (lv_at hl 0 rfl) ?_
  refine va_slen hx hb hX hbl hbA hS dL_cell_2 ?_
  refine lv_icmp_ge (tgt := 12) hx hb dL_cell_3 (by decide) (fun c_1 => ?_) (fun c_1 => ?_)
  · refine lv_ldc hx hb hown (hts _ (show Cond.constant RL 7 (40503) ∈ wsL_cell by decide +kernel)) dL_cell_12 ?_
    refine lv_iload_n hx hb dL_cell_14 rfl (lv_at hl 1 rfl) ?_
    refine lv_iconst (v := 3) hx hb dL_cell_15 (by decide) ?_
    refine lv_iadd hx hb dL_cell_16 ?_
    refine lv_imul hx hb dL_cell_17 ?_
    exact fin _
  · have hjL : j < L := by
      rcases Nat.lt_or_ge j L with q | q
      · exact q
      · exact absurd (show Int32.ofNat L ≤ v by rw [hv0]; exact nI_le (a := L) (b := j) q (by omega)) c_1
    refine lv_aload_n hx hb dL_cell_6 rfl (lv_at hl 0 rfl) ?_
    refine lv_iload_n hx hb dL_cell_7 rfl (lv_at hl 1 rfl) ?_
    refine va_sld hx hb hX hbl hbA hS (by rw [hv0]; exact vp_in_nI hjL (by omega)) dL_cell_8 ?_
    refine lv_goto (tgt := 18) hx hb dL_cell_9 (by decide) ?_
    exact fin _

section LAWR
variable {p : Program} {l : Launch} {e : Env} {s : State} {m : MethodId} {below : List Frame} {meth : Method} {c : Code} {b L : Nat} {xs : Nat → Int32} {cA : Nat → ClassId} {ad : Nat → Nat} {D : va_G} {pc n : Nat} {lv : List (Option Value)} {st rest : List Value} {M : Mem}

theorem L_iload_n (E : ENV cA ad D RL wsL_law cL_law 7 ret p s m #[Value.ref b] meth c) {k : Fin 4} {i : Nat} {x : Int32} (h : decode cL_law pc = .ok (.iload_n k, 1)) (hi : (k : Nat) = i) (hg : lv[i]? = some (some (.int x))) (hn : pc + 1 = n) (kk : LW p l e s m below meth c b cA ad D n lv (.int x :: st) M) : LW p l e s m below meth c b cA ad D pc lv st M := by
  intro H locs ls hW hS hl
  subst hn
  exact lv_iload_n E.1 E.2.1 h hi (prs_get hl hg) (kk H locs ls hW hS hl)

theorem L_iload (E : ENV cA ad D RL wsL_law cL_law 7 ret p s m #[Value.ref b] meth c) {i : Nat} {x : Int32} (h : decode cL_law pc = .ok (.iload i, 2)) (hg : lv[i]? = some (some (.int x))) (hn : pc + 2 = n) (kk : LW p l e s m below meth c b cA ad D n lv (.int x :: st) M) : LW p l e s m below meth c b cA ad D pc lv st M := by
  intro H locs ls hW hS hl
  subst hn
  exact lv_iload E.1 E.2.1 h (prs_get hl hg) (kk H locs ls hW hS hl)

theorem L_aload_n (E : ENV cA ad D RL wsL_law cL_law 7 ret p s m #[Value.ref b] meth c) {k : Fin 4} {i : Nat} {x : Nat} (h : decode cL_law pc = .ok (.aload_n k, 1)) (hi : (k : Nat) = i) (hg : lv[i]? = some (some (.ref x))) (hn : pc + 1 = n) (kk : LW p l e s m below meth c b cA ad D n lv (.ref x :: st) M) : LW p l e s m below meth c b cA ad D pc lv st M := by
  intro H locs ls hW hS hl
  subst hn
  exact lv_aload_n E.1 E.2.1 h hi (prs_get hl hg) (kk H locs ls hW hS hl)

theorem L_aload (E : ENV cA ad D RL wsL_law cL_law 7 ret p s m #[Value.ref b] meth c) {i : Nat} {x : Nat} (h : decode cL_law pc = .ok (.aload i, 2)) (hg : lv[i]? = some (some (.ref x))) (hn : pc + 2 = n) (kk : LW p l e s m below meth c b cA ad D n lv (.ref x :: st) M) : LW p l e s m below meth c b cA ad D pc lv st M := by
  intro H locs ls hW hS hl
  subst hn
  exact lv_aload E.1 E.2.1 h (prs_get hl hg) (kk H locs ls hW hS hl)

theorem L_istore_n (E : ENV cA ad D RL wsL_law cL_law 7 ret p s m #[Value.ref b] meth c) {k : Fin 4} {i : Nat} {x : Int32} (hL : i < 7) (hc : catok lv = true) (h : decode cL_law pc = .ok (.istore_n k, 1)) (hi : (k : Nat) = i) (hn : pc + 1 = n) (kk : LW p l e s m below meth c b cA ad D n (lv.set i (some (.int x))) st M) : LW p l e s m below meth c b cA ad D pc lv (.int x :: st) M := by
  intro H locs ls hW hS hl
  subst hn
  exact lv_istore_n E.1 E.2.1 h hi hl hL rfl (fun ls hl => kk H locs ls hW hS (prs_set (catok_of hc) hl))

theorem L_istore (E : ENV cA ad D RL wsL_law cL_law 7 ret p s m #[Value.ref b] meth c) {i : Nat} {x : Int32} (hL : i < 7) (hc : catok lv = true) (h : decode cL_law pc = .ok (.istore i, 2)) (hn : pc + 2 = n) (kk : LW p l e s m below meth c b cA ad D n (lv.set i (some (.int x))) st M) : LW p l e s m below meth c b cA ad D pc lv (.int x :: st) M := by
  intro H locs ls hW hS hl
  subst hn
  exact lv_istore E.1 E.2.1 h hl hL rfl (fun ls hl => kk H locs ls hW hS (prs_set (catok_of hc) hl))

theorem L_iinc (E : ENV cA ad D RL wsL_law cL_law 7 ret p s m #[Value.ref b] meth c) {i : Nat} {z : Int} {x v : Int32} (hL : i < 7) (hc : catok lv = true) (h : decode cL_law pc = .ok (.iinc i z, 3)) (hg : lv[i]? = some (some (.int x))) (hv : x + Int32.ofInt z = v) (hn : pc + 3 = n) (kk : LW p l e s m below meth c b cA ad D n (lv.set i (some (.int v))) st M) : LW p l e s m below meth c b cA ad D pc lv st M := by
  intro H locs ls hW hS hl
  subst hn
  have hm : (i, Value.int x) ∈ prs 0 lv := (prs_mem lv 0 i _).mpr ⟨i, by omega, hg⟩
  obtain ⟨k, hk⟩ := List.getElem?_of_mem hm
  exact lv_iinc E.1 E.2.1 h hl hk hv hL rfl (fun ls hl => kk H locs ls hW hS (prs_set (catok_of hc) hl))

theorem L_iconst (E : ENV cA ad D RL wsL_law cL_law 7 ret p s m #[Value.ref b] meth c) {k : Int} {v : Int32} (h : decode cL_law pc = .ok (.iconst k, 1)) (hv : Int32.ofInt k = v) (hn : pc + 1 = n) (kk : LW p l e s m below meth c b cA ad D n lv (.int v :: st) M) : LW p l e s m below meth c b cA ad D pc lv (st) M := by
  intro H locs ls hW hS hl
  subst hn
  exact lv_iconst E.1 E.2.1 h hv (kk H locs ls hW hS hl)

theorem L_bipush (E : ENV cA ad D RL wsL_law cL_law 7 ret p s m #[Value.ref b] meth c) {k : Int} {v : Int32} (h : decode cL_law pc = .ok (.bipush k, 2)) (hv : (Int8.ofInt k).toInt32 = v) (hn : pc + 2 = n) (kk : LW p l e s m below meth c b cA ad D n lv (.int v :: st) M) : LW p l e s m below meth c b cA ad D pc lv (st) M := by
  intro H locs ls hW hS hl
  subst hn
  exact lv_bipush E.1 E.2.1 h hv (kk H locs ls hW hS hl)

theorem L_sipush (E : ENV cA ad D RL wsL_law cL_law 7 ret p s m #[Value.ref b] meth c) {k : Int} {v : Int32} (h : decode cL_law pc = .ok (.sipush k, 3)) (hv : (Int16.ofInt k).toInt32 = v) (hn : pc + 3 = n) (kk : LW p l e s m below meth c b cA ad D n lv (.int v :: st) M) : LW p l e s m below meth c b cA ad D pc lv (st) M := by
  intro H locs ls hW hS hl
  subst hn
  exact lv_sipush E.1 E.2.1 h hv (kk H locs ls hW hS hl)

theorem L_ldc (E : ENV cA ad D RL wsL_law cL_law 7 ret p s m #[Value.ref b] meth c) {i : Nat} {v : Int32} (h : decode cL_law pc = .ok (.ldc i, 2)) (hw : Cond.constant RL i v ∈ wsL_law) (hn : pc + 2 = n) (kk : LW p l e s m below meth c b cA ad D n lv (.int v :: st) M) : LW p l e s m below meth c b cA ad D pc lv (st) M := by
  intro H locs ls hW hS hl
  subst hn
  exact lv_ldc E.1 E.2.1 E.2.2.2.1 (E.2.2.2.2.1 _ hw) h (kk H locs ls hW hS hl)

theorem L_iadd (E : ENV cA ad D RL wsL_law cL_law 7 ret p s m #[Value.ref b] meth c) {x y : Int32} (h : decode cL_law pc = .ok (.iadd, 1)) (hn : pc + 1 = n) (kk : LW p l e s m below meth c b cA ad D n lv (.int (x + y) :: st) M) : LW p l e s m below meth c b cA ad D pc lv (.int y :: .int x :: st) M := by
  intro H locs ls hW hS hl
  subst hn
  exact lv_iadd E.1 E.2.1 h (kk H locs ls hW hS hl)

theorem L_iand (E : ENV cA ad D RL wsL_law cL_law 7 ret p s m #[Value.ref b] meth c) {x y : Int32} (h : decode cL_law pc = .ok (.iand, 1)) (hn : pc + 1 = n) (kk : LW p l e s m below meth c b cA ad D n lv (.int (x &&& y) :: st) M) : LW p l e s m below meth c b cA ad D pc lv (.int y :: .int x :: st) M := by
  intro H locs ls hW hS hl
  subst hn
  exact lv_iand E.1 E.2.1 h (kk H locs ls hW hS hl)

theorem L_ixor (E : ENV cA ad D RL wsL_law cL_law 7 ret p s m #[Value.ref b] meth c) {x y : Int32} (h : decode cL_law pc = .ok (.ixor, 1)) (hn : pc + 1 = n) (kk : LW p l e s m below meth c b cA ad D n lv (.int (x ^^^ y) :: st) M) : LW p l e s m below meth c b cA ad D pc lv (.int y :: .int x :: st) M := by
  intro H locs ls hW hS hl
  subst hn
  exact lv_ixor E.1 E.2.1 h (kk H locs ls hW hS hl)

theorem L_imul (E : ENV cA ad D RL wsL_law cL_law 7 ret p s m #[Value.ref b] meth c) {x y : Int32} (h : decode cL_law pc = .ok (.imul, 1)) (hn : pc + 1 = n) (kk : LW p l e s m below meth c b cA ad D n lv (.int (x * y) :: st) M) : LW p l e s m below meth c b cA ad D pc lv (.int y :: .int x :: st) M := by
  intro H locs ls hW hS hl
  subst hn
  exact lv_imul E.1 E.2.1 h (kk H locs ls hW hS hl)

theorem L_idiv (E : ENV cA ad D RL wsL_law cL_law 7 ret p s m #[Value.ref b] meth c) {x y : Int32} (h : decode cL_law pc = .ok (.idiv, 1)) (hne : ¬ y = 0) (hn : pc + 1 = n) (kk : LW p l e s m below meth c b cA ad D n lv (.int (x / y) :: st) M) : LW p l e s m below meth c b cA ad D pc lv (.int y :: .int x :: st) M := by
  intro H locs ls hW hS hl
  subst hn
  exact lv_idiv E.1 E.2.1 h hne (kk H locs ls hW hS hl)

theorem L_goto (E : ENV cA ad D RL wsL_law cL_law 7 ret p s m #[Value.ref b] meth c) {off : Int} {tgt : Nat} (h : decode cL_law pc = .ok (.goto off, 3)) (ht : (pc : Int) + off = (tgt : Int)) (kk : LW p l e s m below meth c b cA ad D tgt lv st M) : LW p l e s m below meth c b cA ad D pc lv st M := by
  intro H locs ls hW hS hl
  exact lv_goto E.1 E.2.1 h ht (kk H locs ls hW hS hl)

theorem L_icmp_ge (E : ENV cA ad D RL wsL_law cL_law 7 ret p s m #[Value.ref b] meth c) {x y : Int32} {off : Int} {tgt : Nat} (h : decode cL_law pc = .ok (.if_icmp .ge off, 3)) (ht : (pc : Int) + off = (tgt : Int)) (hn : pc + 3 = n) (kt : y ≤ x → LW p l e s m below meth c b cA ad D tgt lv st M) (kf : ¬ y ≤ x → LW p l e s m below meth c b cA ad D n lv st M) : LW p l e s m below meth c b cA ad D pc lv (.int y :: .int x :: st) M := by
  intro H locs ls hW hS hl
  subst hn
  exact lv_icmp_ge E.1 E.2.1 h ht (fun q => kt q H locs ls hW hS hl) (fun q => kf q H locs ls hW hS hl)

theorem L_icmp_ne (E : ENV cA ad D RL wsL_law cL_law 7 ret p s m #[Value.ref b] meth c) {x y : Int32} {off : Int} {tgt : Nat} (h : decode cL_law pc = .ok (.if_icmp .ne off, 3)) (ht : (pc : Int) + off = (tgt : Int)) (hn : pc + 3 = n) (kt : ¬ x = y → LW p l e s m below meth c b cA ad D tgt lv st M) (kf : x = y → LW p l e s m below meth c b cA ad D n lv st M) : LW p l e s m below meth c b cA ad D pc lv (.int y :: .int x :: st) M := by
  intro H locs ls hW hS hl
  subst hn
  exact lv_icmp_ne E.1 E.2.1 h ht (fun q => kt q H locs ls hW hS hl) (fun q => kf q H locs ls hW hS hl)

theorem L_if_eq (E : ENV cA ad D RL wsL_law cL_law 7 ret p s m #[Value.ref b] meth c) {x : Int32} {off : Int} {tgt : Nat} (h : decode cL_law pc = .ok (.ifCond .eq off, 3)) (ht : (pc : Int) + off = (tgt : Int)) (hn : pc + 3 = n) (kt : x = 0 → LW p l e s m below meth c b cA ad D tgt lv st M) (kf : ¬ x = 0 → LW p l e s m below meth c b cA ad D n lv st M) : LW p l e s m below meth c b cA ad D pc lv (.int x :: st) M := by
  intro H locs ls hW hS hl
  subst hn
  exact lv_if_eq E.1 E.2.1 h ht (fun q => kt q H locs ls hW hS hl) (fun q => kf q H locs ls hW hS hl)

theorem L_if_ne (E : ENV cA ad D RL wsL_law cL_law 7 ret p s m #[Value.ref b] meth c) {x : Int32} {off : Int} {tgt : Nat} (h : decode cL_law pc = .ok (.ifCond .ne off, 3)) (ht : (pc : Int) + off = (tgt : Int)) (hn : pc + 3 = n) (kt : ¬ x = 0 → LW p l e s m below meth c b cA ad D tgt lv st M) (kf : x = 0 → LW p l e s m below meth c b cA ad D n lv st M) : LW p l e s m below meth c b cA ad D pc lv (.int x :: st) M := by
  intro H locs ls hW hS hl
  subst hn
  exact lv_if_ne E.1 E.2.1 h ht (fun q => kt q H locs ls hW hS hl) (fun q => kf q H locs ls hW hS hl)

theorem L_iast (E : ENV cA ad D RL wsL_law cL_law 7 ret p s m #[Value.ref b] meth c) (had : ∀ i, i < 66 → s.heap.size ≤ ad i) {i len p' k' : Nat} {f : Nat → Int32} {j x : Int32} (hi : i < 66) (hc : cellOf cA ad M i = .inl (cA 1, len, .inl f)) (hin : vp_in j len) (hM : cellOf cA ad (mput M p' k' x) i = .inl (cA 1, len, .inl (upd f j.toNatClampNeg x))) (hp : p' < 11) (ho : ownI p' k' = i) (h : decode cL_law pc = .ok (.iastore, 1)) (hn : pc + 1 = n) (kk : LW p l e s m below meth c b cA ad D n lv st (mput M p' k' x)) : LW p l e s m below meth c b cA ad D pc lv (.int x :: .int j :: .ref (ad i) :: st) M := by
  intro H locs ls hW hS hl
  subst hn
  refine va_iast E.1 E.2.1 E.2.2.2.2.2.2.2.1.1 hW (wld_DN E.2.2.2.2.2.2.2.2 had M) hS i 1 ((wld_get cA ad M hi).trans (by rw [hc])) rfl hin h (fun H1 locs1 hP1 hD1 hS1 => ?_)
  rw [wld_set hi hM (fun j2 h1 h2 => cell_other cA ad M hp h1 (by rw [ho]; exact h2))] at hP1
  exact kk H1 locs1 ls hP1 hS1 hl

theorem L_put_g (E : ENV cA ad D RL wsL_law cL_law 7 ret p s m #[Value.ref b] meth c) (had : ∀ i, i < 66 → s.heap.size ≤ ad i) {j x : Int32} {k : Nat} (hj : j = nI k) (hk : k < 14) (h : decode cL_law pc = .ok (.iastore, 1)) (hn : pc + 1 = n) (kk : LW p l e s m below meth c b cA ad D n lv st (mput M 10 k x)) : LW p l e s m below meth c b cA ad D pc lv (.int x :: .int j :: .ref (ad 4) :: st) M := by
  subst hj
  refine L_iast E had (i := 4) (len := 14) (p' := 10) (k' := k) (f := fun j => if j < 14 then M.1 10 j else 0) (by decide) rfl (vp_in_nI hk (by decide)) ?_ (by decide) (by simp [ownI, hk]) h hn kk
  rw [nI_clamp (by omega)]
  have e : (fun j => if j < 14 then (mput M 10 k x).1 10 j else 0) = upd (fun j => if j < 14 then M.1 10 j else 0) k x := by
    funext i
    rw [mput_eq]
    unfold upd
    by_cases hi : i = k
    · subst hi
      rw [if_pos hk, if_pos rfl, if_pos rfl]
    · rw [if_neg hi, if_neg hi]
  have h9 : cellOf cA ad (mput M 10 k x) 4 = .inl (cA 1, 14, .inl (fun j => if j < 14 then (mput M 10 k x).1 10 j else 0)) := rfl
  rw [h9, e]

theorem L_callV (E : ENV cA ad D RL wsL_law cL_law 7 ret p s m #[Value.ref b] meth c) (had : ∀ i, i < 66 → s.heap.size ≤ ad i) {index i np d' ci N maxL : Nat} {y : MethodName} {ws' wst : List Cond} {bytes : ByteArray} {rty : Option FieldType} {C : String} {T : u_T} {fs : List Value} {As : List Value} {Q' : QT}
    (hM : PM cA ad D y ws' d' (.ref (ad i) :: As) M Q') (hg : GoodIn wsL_law (wsV RL index C y ws')) (hw : ws' = Cond.code y bytes maxL rty :: wst) (hd : y.cls = C ∧ y.cls ≠ "java/lang/invoke/MethodHandle" ∧ y.cls ≠ "java/lang/invoke/VarHandle" ∧ (parseMethodDescriptor y.desc).map (fun d => d.parameters.length) = some np) (hnp : As.length = np) (hdep : d' ≤ 5) (hmax : maxL ≤ 13)
    (hi : i < 66) (hc : cellOf cA ad M i = .inr (ci, fs)) (hcl : vwCl[ci]? = some (C, T, N)) (h : decode cL_law pc = .ok (.invokevirtual index, 3)) (hn : pc + 3 = n) (hst : st = As.reverse ++ .ref (ad i) :: rest) (hcat : (rest.map fun v => v.category).sum ≤ 8)
    (kk : ∀ r M', Q' r M' → LW p l e s m below meth c b cA ad D n lv (r.toList ++ rest) M') : LW p l e s m below meth c b cA ad D pc lv st M := by
  intro H locs ls hW hS hl
  subst hn
  obtain ⟨hx, hb, hml, hown, hts, hr, hlocks, hek, hI⟩ := E
  refine call_kL (va_runV (As := As) (rest := rest) ⟨hx, hb, hml, hown, hts⟩ (hM hI l) (cwV np hts hg hw rfl rfl hd ⟨by show d' + 1 ≤ 8; omega, by show 8 + (maxL + 11) + 32 * d' ≤ 280; omega⟩) ⟨pc_blind cA ad D _ M, va_recv hek.1 hW hcl ((wld_get cA ad M hi).trans (by rw [hc])), fun U hU hw => pc_ok hek hW hU hw⟩ rfl hnp hl.1 hst (lv_room hcat) h ⟨Nat.le_of_ble_eq_true rfl, Nat.le_of_ble_eq_true rfl⟩) hS (fun q hq => by obtain ⟨i, hi, rfl⟩ := hq; exact had i hi) (fun r M' H1 locs1 hq hW1 hS1 => ?_)
  exact kk r M' hq H1 locs1 ls hW1 hS1 hl
theorem L_callS (E : ENV cA ad D RL wsL_law cL_law 7 ret p s m #[Value.ref b] meth c) (had : ∀ i, i < 66 → s.heap.size ≤ ad i) {index np d' maxL : Nat} {y : MethodName} {ws' wst : List Cond} {bytes : ByteArray} {rty : Option FieldType} {As : List Value} {Q' : QT}
    (hM : PM cA ad D y ws' d' As M Q') (hg : GoodIn wsL_law (va_wsS RL index y ws')) (hw : ws' = Cond.code y bytes maxL rty :: wst) (hd : y.cls ≠ "java/lang/invoke/MethodHandle" ∧ y.cls ≠ "java/lang/invoke/VarHandle" ∧ (parseMethodDescriptor y.desc).map (fun d => d.parameters.length) = some np) (hnp : As.length = np) (hdep : d' ≤ 5) (hmax : maxL ≤ 13)
    (h : decode cL_law pc = .ok (.invokestatic index, 3)) (hn : pc + 3 = n) (hst : st = As.reverse ++ rest) (hcat : (rest.map fun v => v.category).sum ≤ 8)
    (kk : ∀ r M', Q' r M' → LW p l e s m below meth c b cA ad D n lv (r.toList ++ rest) M') : LW p l e s m below meth c b cA ad D pc lv st M := by
  intro H locs ls hW hS hl
  subst hn
  obtain ⟨hx, hb, hml, hown, hts, hr, hlocks, hek, hI⟩ := E
  refine call_kL (va_runS (As := As) (rest := rest) ⟨hx, hb, hml, hown, hts⟩ (hM hI l) (va_cwS np hts hg hw rfl rfl hd ⟨by show d' + 1 ≤ 8; omega, by show 8 + (maxL + 11) + 32 * d' ≤ 280; omega⟩) ⟨pc_blind cA ad D _ M, fun U hU hw => pc_ok hek hW hU hw⟩ rfl hnp hl.1 hst (lv_room hcat) h ⟨Nat.le_of_ble_eq_true rfl, Nat.le_of_ble_eq_true rfl⟩) hS (fun q hq => by obtain ⟨i, hi, rfl⟩ := hq; exact had i hi) (fun r M' H1 locs1 hq hW1 hS1 => ?_)
  exact kk r M' hq H1 locs1 ls hW1 hS1 hl
theorem L_cell (E : ENV cA ad D RL wsL_law cL_law 7 ret p s m #[Value.ref b] meth c) (hX : va_X b L xs s s.heap) (hbl : b < s.heap.size) (hL : L ≤ 260) {v : Int32} {j : Nat} (hj : j < 1000) (hv0 : v = nI j) (h : decode cL_law pc = .ok (.invokestatic 105, 3)) (hn : pc + 3 = n) (hst : st = .int v :: .ref b :: rest) (hcat : (rest.map fun v => v.category).sum ≤ 8)
    (kk : ∀ x : Int32, LW p l e s m below meth c b cA ad D n lv (.int x :: rest) M) : LW p l e s m below meth c b cA ad D pc lv st M := by
  intro H locs ls hW hS hl
  subst hn
  obtain ⟨hx, hb, hml, hown, hts, hr, hlocks, hek, hI⟩ := E
  have hbA : ¬ NWP s b := Nat.not_le.mpr hbl
  have hXH : va_X b L xs s H := hX.kept (hS.2.1 b hbl hbA)
  have hbH : b < H.size := Nat.lt_of_lt_of_le hbl hS.1
  refine va_calli (va_runS (As := [.ref b, .int v]) (rest := rest) ⟨hx, hb, hml, hown, hts⟩ (c_cell l (b := b) (xs := xs) hL (v := v) hj hv0) (va_cwS 2 hts gL_law_L_cell rfl rfl rfl (by decide +kernel) ⟨Nat.le_of_ble_eq_true rfl, Nat.le_of_ble_eq_true rfl⟩) ⟨fun a U g mk q => ⟨q.1, va_X.moved (u := U) (U := U.calling g mk a) (Vm.Alike.refl U.vm) q.2.1, q.2.2⟩, fun U hU hw => ⟨rfl, by rw [hU]; exact va_X.moved hw.alike hXH, by rw [hU]; exact hbH⟩⟩ rfl rfl hl.1 hst (lv_room hcat) h ⟨Nat.le_of_ble_eq_true rfl, Nat.le_of_ble_eq_true rfl⟩) hS (fun q _ h => absurd h (fun z => z)) (fun q h => absurd h (fun z => z)) (fun r u t H1 locs1 _ _ _ _ _ hk1 hS1 => ?_)
  refine kk r H1 locs1 ls ?_ hS1 hl
  exact va_P.kept hW (fun k q hk => hk1 q.1 (hW k q hk).lt (fun z => z))
theorem L_end (E : ENV cA ad D RL wsL_law cL_law 7 ret p s m #[Value.ref b] meth c) {lv : List (Option Value)} (h : decode cL_law pc = .ok (.ireturn, 1)) : LW p l e s m below meth c b cA ad D pc lv [.int 1] M := by
  intro H locs ls hW hS hl
  refine va_forget (fun q hq => hS.2.2 q hq) ?_
  exact lw_ret E.1 E.2.1 E.2.2.2.2.2.1 E.2.2.2.2.2.2.1 h
theorem L_cVi (E : ENV cA ad D RL wsL_law cL_law 7 ret p s m #[Value.ref b] meth c) (had : ∀ i, i < 66 → s.heap.size ≤ ad i) {index i np d' ci N maxL : Nat} {y : MethodName} {ws' wst : List Cond} {bytes : ByteArray} {rty : Option FieldType} {C : String} {T : u_T} {fs : List Value} {As : List Value} {x : Int32} {M' : Mem}
    (hM : PM cA ad D y ws' d' (.ref (ad i) :: As) M (Ri x M')) (hg : GoodIn wsL_law (wsV RL index C y ws')) (hw : ws' = Cond.code y bytes maxL rty :: wst) (hd : y.cls = C ∧ y.cls ≠ "java/lang/invoke/MethodHandle" ∧ y.cls ≠ "java/lang/invoke/VarHandle" ∧ (parseMethodDescriptor y.desc).map (fun d => d.parameters.length) = some np) (hnp : As.length = np) (hdep : d' ≤ 5) (hmax : maxL ≤ 13)
    (hi : i < 66) (hc : cellOf cA ad M i = .inr (ci, fs)) (hcl : vwCl[ci]? = some (C, T, N)) (h : decode cL_law pc = .ok (.invokevirtual index, 3)) (hn : pc + 3 = n) (hst : st = As.reverse ++ .ref (ad i) :: rest) (hcat : (rest.map fun v => v.category).sum ≤ 8)
    (kk : LW p l e s m below meth c b cA ad D n lv (.int x :: rest) M') : LW p l e s m below meth c b cA ad D pc lv st M :=
  L_callV E had hM hg hw hd hnp hdep hmax hi hc hcl h hn hst hcat (fun r M2 hq => by obtain ⟨rfl, rfl⟩ := hq; exact kk)
theorem L_cSi (E : ENV cA ad D RL wsL_law cL_law 7 ret p s m #[Value.ref b] meth c) (had : ∀ i, i < 66 → s.heap.size ≤ ad i) {index np d' maxL : Nat} {y : MethodName} {ws' wst : List Cond} {bytes : ByteArray} {rty : Option FieldType} {As : List Value} {x : Int32} {M' : Mem}
    (hM : PM cA ad D y ws' d' As M (Ri x M')) (hg : GoodIn wsL_law (va_wsS RL index y ws')) (hw : ws' = Cond.code y bytes maxL rty :: wst) (hd : y.cls ≠ "java/lang/invoke/MethodHandle" ∧ y.cls ≠ "java/lang/invoke/VarHandle" ∧ (parseMethodDescriptor y.desc).map (fun d => d.parameters.length) = some np) (hnp : As.length = np) (hdep : d' ≤ 5) (hmax : maxL ≤ 13)
    (h : decode cL_law pc = .ok (.invokestatic index, 3)) (hn : pc + 3 = n) (hst : st = As.reverse ++ rest) (hcat : (rest.map fun v => v.category).sum ≤ 8)
    (kk : LW p l e s m below meth c b cA ad D n lv (.int x :: rest) M') : LW p l e s m below meth c b cA ad D pc lv st M :=
  L_callS E had hM hg hw hd hnp hdep hmax h hn hst hcat (fun r M2 hq => by obtain ⟨rfl, rfl⟩ := hq; exact kk)
theorem L_cSq (E : ENV cA ad D RL wsL_law cL_law 7 ret p s m #[Value.ref b] meth c) (had : ∀ i, i < 66 → s.heap.size ≤ ad i) {index np d' maxL : Nat} {y : MethodName} {ws' wst : List Cond} {bytes : ByteArray} {rty : Option FieldType} {As : List Value} {x : Int32} {P' : Mem → Prop}
    (hM : PM cA ad D y ws' d' As M (QR x P')) (hg : GoodIn wsL_law (va_wsS RL index y ws')) (hw : ws' = Cond.code y bytes maxL rty :: wst) (hd : y.cls ≠ "java/lang/invoke/MethodHandle" ∧ y.cls ≠ "java/lang/invoke/VarHandle" ∧ (parseMethodDescriptor y.desc).map (fun d => d.parameters.length) = some np) (hnp : As.length = np) (hdep : d' ≤ 5) (hmax : maxL ≤ 13)
    (h : decode cL_law pc = .ok (.invokestatic index, 3)) (hn : pc + 3 = n) (hst : st = As.reverse ++ rest) (hcat : (rest.map fun v => v.category).sum ≤ 8)
    (kk : ∀ M2, P' M2 → LW p l e s m below meth c b cA ad D n lv (.int x :: rest) M2) : LW p l e s m below meth c b cA ad D pc lv st M :=
  L_callS E had hM hg hw hd hnp hdep hmax h hn hst hcat (fun r M2 hq => by obtain ⟨rfl, h2⟩ := hq; exact kk M2 h2)
end LAWR
