abbrev vwCl : List vw_C := [(RX0, TX0, 6), (RX1, TX1, 8), (RX2, TX2, 15), (RX3, TX3, 9)]
/-! ===== THE LOGIC: one memory for class and reference, contracts PM, walks PW: thin rows over the kit's ===== -/
abbrev Mem : Type := (Nat → Nat → Int32) × (Nat → Nat)
abbrev QT : Type := Option Value → Mem → Prop
/-- the cell of the object i: 0 BellowsRound, 1 OrderText, 2 its characters, 3 the history, 4 and 5 the law's rows (one place, 10: 14 ints, then 64), 6+10p.. the State p, its row, its smithies -/
def cellOf (cA : Nat → ClassId) (ad : Nat → Nat) (M : Mem) (i : Nat) : va_E :=
  if i = 0 then .inr (3, [.ref (ad (6 + 10 * M.2 0)), .ref (ad (6 + 10 * M.2 1)), .ref (ad 3), .int (M.1 8 0), .ref (ad 1), .int (M.1 8 1), .int (M.1 8 2), .int (M.1 8 3), .int (M.1 8 4)])
  else if i = 1 then .inr (0, [.ref (ad 2), .int (M.1 6 0), .int (M.1 6 1), .int (M.1 6 2), .int (M.1 6 3), .int (M.1 6 4)])
  else if i = 2 then .inl (cA 0, 60, .inl (M.1 7))
  else if i = 3 then .inl (cA 3, 4, .inr (.inr (.inr (.inr (fun j => some (ad (6 + 10 * M.2 (2 + j))))))))
  else if i = 4 then .inl (cA 1, 14, .inl (fun j => if j < 14 then M.1 10 j else 0))
  else if i = 5 then .inl (cA 1, 64, .inl (fun j => M.1 10 (14 + j)))
  else if (i - 6) % 10 = 0 then .inr (2, [.ref (ad (i + 1)), .int (M.1 ((i - 6) / 10) 0), .int (M.1 ((i - 6) / 10) 10), .int (M.1 ((i - 6) / 10) 11), .int (M.1 ((i - 6) / 10) 12), .int (M.1 ((i - 6) / 10) 13), .int (M.1 ((i - 6) / 10) 1), .int (M.1 ((i - 6) / 10) 2), .int (M.1 ((i - 6) / 10) 3), .int (M.1 ((i - 6) / 10) 4), .int (M.1 ((i - 6) / 10) 5), .int (M.1 ((i - 6) / 10) 6), .int (M.1 ((i - 6) / 10) 7), .int (M.1 ((i - 6) / 10) 8), .int (M.1 ((i - 6) / 10) 9)])
  else if (i - 6) % 10 = 1 then .inl (cA 2, 8, .inr (.inr (.inr (.inr (fun j => some (ad (i + 1 + j)))))))
  else .inr (1, [.int (M.1 ((i - 6) / 10) (14 + 8 * ((i - 6) % 10 - 2))), .int (M.1 ((i - 6) / 10) (14 + 8 * ((i - 6) % 10 - 2) + 1)), .int (M.1 ((i - 6) / 10) (14 + 8 * ((i - 6) % 10 - 2) + 2)), .int (M.1 ((i - 6) / 10) (14 + 8 * ((i - 6) % 10 - 2) + 3)), .int (M.1 ((i - 6) / 10) (14 + 8 * ((i - 6) % 10 - 2) + 4)), .int (M.1 ((i - 6) / 10) (14 + 8 * ((i - 6) % 10 - 2) + 5)), .int (M.1 ((i - 6) / 10) (14 + 8 * ((i - 6) % 10 - 2) + 6)), .int (M.1 ((i - 6) / 10) (14 + 8 * ((i - 6) % 10 - 2) + 7))])
def Wld (cA : Nat → ClassId) (ad : Nat → Nat) (M : Mem) : va_W := (List.range 66).map (fun i => (ad i, cellOf cA ad M i))
def AA (ad : Nat → Nat) : Nat → Prop := fun q => ∃ i, i < 66 ∧ q = ad i
def TYS (cA : Nat → ClassId) : List (ClassId × FieldType) := [(cA 0, .char), (cA 1, .int), (cA 2, .object "BellowsRound$Smithy"), (cA 3, .object "BellowsRound$State")]
def rmD (d : Nat) : Room := { frames := d, cells := 0, slots := 0, locals := 32 * d }
def INJ (ad : Nat → Nat) : Prop := ∀ i j, i < 66 → j < 66 → ad i = ad j → i = j
def NST (U : State) : Prop := va_Nw (.methodLinkNest RX2 75 yX3_hoursOfWay "BellowsRound") U ∧ va_Nw (.methodLinkNest RX2 93 yX3_hoursOfMend "BellowsRound") U ∧ va_Nw (.methodLinkNest RX1 36 yX3_tensBegun "BellowsRound") U ∧ va_Nw (.methodLinkNest RX2 138 yX3_wearBehindDay "BellowsRound") U ∧ va_Nw (.methodLinkNest RX2 141 yX3_heatBehindDay "BellowsRound") U
def WOK (cA : Nat → ClassId) (ad : Nat → Nat) (D : va_G) (M : Mem) (H : Heap) : Prop := va_P D vwCl (Wld cA ad M) H
def EOK (cA : Nat → ClassId) (D : va_G) (U : State) : Prop := va_K D vwCl (TYS cA) U ∧ NST U
def QQ (cA : Nat → ClassId) (ad : Nat → Nat) (D : va_G) (Q : QT) : Array Value → State → Outcome → State → Prop := fun _ st oc t => (∃ (r : Option Value) (M : Mem), oc = .returned r ∧ Q r M ∧ WOK cA ad D M t.heap) ∧ va_F (AA ad) st t
def PM (cA : Nat → ClassId) (ad : Nat → Nat) (D : va_G) (y : MethodName) (ws : List Cond) (d : Nat) (av : List Value) (M : Mem) (Q : QT) : Prop :=
  INJ ad → ∀ l : Launch, Met l y ws (rmD d) (va_Pc av (fun U => WOK cA ad D M U.heap ∧ EOK cA D U)) (QQ cA ad D Q) 0 0 (AA ad)
def prs : Nat → List (Option Value) → List (Nat × Value)
  | _, [] => []
  | k, some v :: t => (k, v) :: prs (k + 1) t
  | k, none :: t => prs (k + 1) t
def ENV (cA : Nat → ClassId) (ad : Nat → Nat) (D : va_G) (own : String) (ws : List Cond) (cc : ByteArray) (nL : Nat) (ret : Option FieldType) (p : Program) (s : State) (m : MethodId) (args : Array Value) (meth : Method) (c : Code) : Prop :=
  p.tables.exec = Jvm.exec ∧ c.code = cc ∧ c.maxLocals = nL ∧ s.vm.findClass own = some m.cls ∧ (∀ w ∈ ws, w.before args s = true) ∧ meth.sig.returnType = ret ∧ meth.locks = false ∧ EOK cA D s ∧ INJ ad
def PW (cA : Nat → ClassId) (ad : Nat → Nat) (D : va_G) (own : String) (ws : List Cond) (cc : ByteArray) (nL : Nat) (ret : Option FieldType) (d pc : Nat) (lv : List (Option Value)) (st : List Value) (M : Mem) (Q : QT) : Prop :=
  ∀ (p : Program) (l : Launch) (e : Env) (s : State) (m : MethodId) (args : Array Value) (below : List Frame) (meth : Method) (c : Code) (H : Heap) (locs : List Loc) (ls : Array Slot),
    ENV cA ad D own ws cc nL ret p s m args meth c → WOK cA ad D M H → va_S (AA ad) s.heap H locs → lv_has ls nL (prs 0 lv) →
    W p l e (rmD d) s m args below meth c H locs 0 0 (MQ below (QQ cA ad D Q) args s 0 0 (AA ad)) (F0 m pc ls st)
-- locals
theorem prs_mem : ∀ (lv : List (Option Value)) (k i : Nat) (v : Value), (i, v) ∈ prs k lv ↔ ∃ j, i = k + j ∧ lv[j]? = some (some v) := by
  intro lv
  induction lv with
  | nil => intro k i v; simp [prs]
  | cons a t ih =>
    intro k i v
    cases a with
    | none =>
      simp only [prs]
      rw [ih (k + 1) i v]
      constructor
      · rintro ⟨j, h1, h2⟩
        exact ⟨j + 1, by omega, by simpa using h2⟩
      · rintro ⟨j, h1, h2⟩
        cases j with
        | zero => simp at h2
        | succ j => exact ⟨j, by omega, by simpa using h2⟩
    | some w =>
      simp only [prs, List.mem_cons]
      rw [ih (k + 1) i v]
      constructor
      · rintro (h | ⟨j, h1, h2⟩)
        · exact ⟨0, by simp only [Prod.mk.injEq] at h; omega, by simp only [Prod.mk.injEq] at h; simp [h.2]⟩
        · exact ⟨j + 1, by omega, by simpa using h2⟩
      · rintro ⟨j, h1, h2⟩
        cases j with
        | zero =>
          left
          simp at h2
          simp [h1, h2]
        | succ j => right; exact ⟨j, by omega, by simpa using h2⟩
theorem prs_get {ls : Array Slot} {nL : Nat} {lv : List (Option Value)} (h : lv_has ls nL (prs 0 lv)) {i : Nat} {v : Value} (hi : lv[i]? = some (some v)) : ls[i]? = some (.val v) :=
  h.2.2 (i, v) ((prs_mem lv 0 i v).mpr ⟨i, by omega, hi⟩)
theorem prs_set {ls : Array Slot} {nL : Nat} {lv : List (Option Value)} {i : Nat} {v : Value} (hc : ∀ w, (some w) ∈ lv → w.category = 1) (h : lv_has ls nL ((i, v) :: (prs 0 lv).filter (fun q => !(q.1 == i) && !(q.1 + 1 == i && q.2.category == 2)))) : lv_has ls nL (prs 0 (lv.set i (some v))) := by
  refine ⟨h.1, h.2.1, ?_⟩
  rintro ⟨j, w⟩ hm
  obtain ⟨k, h1, h2⟩ := (prs_mem _ 0 j w).mp hm
  have hk : j = k := by omega
  subst hk
  by_cases hj : j = i
  · subst hj
    have hlt : j < lv.length := by
      rcases Nat.lt_or_ge j lv.length with q | q
      · exact q
      · rw [List.getElem?_eq_none (by simpa using q)] at h2; cases h2
    rw [List.getElem?_set_self hlt] at h2
    cases h2
    exact h.2.2 _ List.mem_cons_self
  · rw [List.getElem?_set_ne (fun q => hj q.symm)] at h2
    refine h.2.2 (j, w) (List.mem_cons_of_mem _ (List.mem_filter.mpr ⟨(prs_mem lv 0 j w).mpr ⟨j, by omega, h2⟩, ?_⟩))
    have hw := hc w (List.mem_of_getElem? h2)
    simp [hj, hw]
-- the world
theorem wld_get (cA : Nat → ClassId) (ad : Nat → Nat) (M : Mem) {i : Nat} (hi : i < 66) : (Wld cA ad M)[i]? = some (ad i, cellOf cA ad M i) := by
  unfold Wld
  rw [List.getElem?_map, List.getElem?_range hi]
  rfl
theorem wld_lt {cA : Nat → ClassId} {ad : Nat → Nat} {M : Mem} {i : Nat} {q : Nat × va_E} (h : (Wld cA ad M)[i]? = some q) : i < 66 ∧ q = (ad i, cellOf cA ad M i) := by
  have hl : i < 66 := by
    rcases Nat.lt_or_ge i 66 with w | w
    · exact w
    · unfold Wld at h
      rw [List.getElem?_eq_none (by simpa using w)] at h; cases h
  rw [wld_get cA ad M hl] at h
  exact ⟨hl, (Option.some.inj h).symm⟩
theorem wld_D {cA : Nat → ClassId} {ad : Nat → Nat} (hI : INJ ad) (M : Mem) : va_D (AA ad) (Wld cA ad M) := by
  refine ⟨fun i j p q hi hj hpq => ?_, fun k q hk => ?_⟩
  · obtain ⟨h1, rfl⟩ := wld_lt hi
    obtain ⟨h2, rfl⟩ := wld_lt hj
    exact hI i j h1 h2 hpq
  · obtain ⟨h1, rfl⟩ := wld_lt hk
    exact ⟨k, h1, rfl⟩
theorem wld_set {cA : Nat → ClassId} {ad : Nat → Nat} {M M' : Mem} {i : Nat} {e : va_E} (hi : i < 66) (h1 : cellOf cA ad M' i = e) (h2 : ∀ j, j < 66 → j ≠ i → cellOf cA ad M' j = cellOf cA ad M j) : (Wld cA ad M).set i (ad i, e) = Wld cA ad M' := by
  apply List.ext_getElem?
  intro j
  by_cases hj : j < 66
  · rw [wld_get cA ad M' hj]
    by_cases hji : j = i
    · subst hji
      rw [List.getElem?_set_self (by unfold Wld; simpa using hj), h1]
    · rw [List.getElem?_set_ne (fun q => hji q.symm), wld_get cA ad M hj, h2 j hj hji]
  · rw [List.getElem?_eq_none (by unfold Wld; simp; omega), List.getElem?_eq_none (by unfold Wld; simp; omega)]
def ownI (p k : Nat) : Nat := if p < 6 then (if k < 14 then 6 + 10 * p else 8 + 10 * p + (k - 14) / 8) else if p = 6 then 1 else if p = 7 then 2 else if p = 8 then 0 else if k < 14 then 4 else 5
/-- one int is written -/
def mput (M : Mem) (p k : Nat) (x : Int32) : Mem := (va_up M.1 p (upd (M.1 p) k x), M.2)
theorem mput_ne {M : Mem} {p k q : Nat} {x : Int32} (h : q ≠ p) : (mput M p k x).1 q = M.1 q := by simp [mput, va_up, h]
theorem mput_eq {M : Mem} {p k : Nat} {x : Int32} : (mput M p k x).1 p = upd (M.1 p) k x := by simp [mput, va_up]
theorem mput_no {M : Mem} {p k q j : Nat} {x : Int32} (h : q ≠ p ∨ j ≠ k) : (mput M p k x).1 q j = M.1 q j := by
  by_cases hq : q = p
  · subst hq
    rw [mput_eq]
    rcases h with h | h
    · exact absurd rfl h
    · simp [upd, h]
  · rw [mput_ne hq]
theorem mput_at {M : Mem} {p k : Nat} {x : Int32} : (mput M p k x).1 p k = x := by rw [mput_eq]; simp [upd]
theorem mput_r {M : Mem} {p k : Nat} {x : Int32} : (mput M p k x).2 = M.2 := rfl
theorem cell_other (cA : Nat → ClassId) (ad : Nat → Nat) (M : Mem) {p k j : Nat} {x : Int32} (hp : p < 11) (hj : j < 66) (hne : j ≠ ownI p k) : cellOf cA ad (mput M p k x) j = cellOf cA ad M j := by
  have hp6 : 6 ≤ p → ownI p k = if p = 6 then 1 else if p = 7 then 2 else if p = 8 then 0 else if k < 14 then 4 else 5 := fun h => by
    unfold ownI; rw [if_neg (by omega)]
  have hpl : p < 6 → k < 14 → ownI p k = 6 + 10 * p := fun h h2 => by unfold ownI; rw [if_pos h, if_pos h2]
  have hps : p < 6 → ¬ k < 14 → ownI p k = 8 + 10 * p + (k - 14) / 8 := fun h h2 => by unfold ownI; rw [if_pos h, if_neg h2]
  have hq : ∀ q, q ≠ p → (mput M p k x).1 q = M.1 q := fun q h => mput_ne h
  have e6 : j = 1 → (mput M p k x).1 6 = M.1 6 := fun h => hq 6 (fun z => by subst z; exact hne (by rw [hp6 (by omega)]; simp; omega))
  have e7 : j = 2 → (mput M p k x).1 7 = M.1 7 := fun h => hq 7 (fun z => by subst z; exact hne (by rw [hp6 (by omega)]; simp; omega))
  have e8 : j = 0 → (mput M p k x).1 8 = M.1 8 := fun h => hq 8 (fun z => by subst z; exact hne (by rw [hp6 (by omega)]; simp; omega))
  have h104 : 9 ≤ p → k < 14 → ownI p k = 4 := fun h h2 => by rw [hp6 (by omega), if_neg (by omega), if_neg (by omega), if_neg (by omega), if_pos h2]
  have h105 : 9 ≤ p → ¬ k < 14 → ownI p k = 5 := fun h h2 => by rw [hp6 (by omega), if_neg (by omega), if_neg (by omega), if_neg (by omega), if_neg h2]
  have e4 : j = 4 → (fun i => if i < 14 then (mput M p k x).1 10 i else 0) = (fun i => if i < 14 then M.1 10 i else 0) := fun h => by
    funext i
    by_cases hi : i < 14
    · rw [if_pos hi, if_pos hi]
      refine mput_no ?_
      by_cases hz : (10 : Nat) = p
      · right
        intro hk
        exact hne (by rw [h104 (by omega) (by omega)]; exact h)
      · exact Or.inl hz
    · rw [if_neg hi, if_neg hi]
  have e5 : j = 5 → (fun i => (mput M p k x).1 10 (14 + i)) = (fun i => M.1 10 (14 + i)) := fun h => by
    funext i
    refine mput_no ?_
    by_cases hz : (10 : Nat) = p
    · right
      intro hk
      exact hne (by rw [h105 (by omega) (by omega)]; exact h)
    · exact Or.inl hz
  have es : 6 ≤ j → (j - 6) % 10 = 0 → ∀ i, i < 14 → (mput M p k x).1 ((j - 6) / 10) i = M.1 ((j - 6) / 10) i := fun h h2 i hi => by
    refine mput_no ?_
    by_cases hz : (j - 6) / 10 = p
    · right
      intro hk
      exact hne (by rw [hpl (by omega) (by omega)]; omega)
    · exact Or.inl hz
  have em : 6 ≤ j → ¬ (j - 6) % 10 = 0 → ¬ (j - 6) % 10 = 1 → ∀ i, i < 8 → (mput M p k x).1 ((j - 6) / 10) (14 + 8 * ((j - 6) % 10 - 2) + i) = M.1 ((j - 6) / 10) (14 + 8 * ((j - 6) % 10 - 2) + i) := fun h h2 h3 i hi => by
    refine mput_no ?_
    by_cases hz : (j - 6) / 10 = p
    · right
      intro hk
      exact hne (by rw [hps (by omega) (by omega)]; omega)
    · exact Or.inl hz
  unfold cellOf
  simp only [mput_r]
  by_cases h0 : j = 0
  · simp only [if_pos h0, e8 h0]
  by_cases h1 : j = 1
  · simp only [if_neg h0, if_pos h1, e6 h1]
  by_cases h2 : j = 2
  · simp only [if_neg h0, if_neg h1, if_pos h2, e7 h2]
  by_cases h3 : j = 3
  · simp only [if_neg h0, if_neg h1, if_neg h2, if_pos h3]
  by_cases h4 : j = 4
  · simp only [if_neg h0, if_neg h1, if_neg h2, if_neg h3, if_pos h4, e4 h4]
  by_cases h5 : j = 5
  · simp only [if_neg h0, if_neg h1, if_neg h2, if_neg h3, if_neg h4, if_pos h5, e5 h5]
  have hj10 : 6 ≤ j := by omega
  simp only [if_neg h0, if_neg h1, if_neg h2, if_neg h3, if_neg h4, if_neg h5]
  by_cases hr : (j - 6) % 10 = 0
  · have q := es hj10 hr
    simp only [if_pos hr, q 0 (by omega), q 1 (by omega), q 2 (by omega), q 3 (by omega), q 4 (by omega), q 5 (by omega), q 6 (by omega), q 7 (by omega), q 8 (by omega), q 9 (by omega), q 10 (by omega), q 11 (by omega), q 12 (by omega), q 13 (by omega)]
  by_cases hr1 : (j - 6) % 10 = 1
  · simp only [if_neg hr, if_pos hr1]
  · have q := em hj10 hr hr1
    have q0 := q 0 (by omega)
    rw [Nat.add_zero] at q0
    simp only [if_neg hr, if_neg hr1, q0, q 1 (by omega), q 2 (by omega), q 3 (by omega), q 4 (by omega), q 5 (by omega), q 6 (by omega), q 7 (by omega)]
