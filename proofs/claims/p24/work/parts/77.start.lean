/-! ===== the law from its entry ===== -/
theorem lin_ia0 : Cond.instantiable RX0 6 ∈ wsL_law := by decide +kernel
theorem lin_ia1 : Cond.instantiable RX1 8 ∈ wsL_law := by decide +kernel
theorem lin_ia2 : Cond.instantiable RX2 15 ∈ wsL_law := by decide +kernel
theorem lin_ia3 : Cond.instantiable RX3 9 ∈ wsL_law := by decide +kernel
theorem lin_cl3 : Cond.classLink RL 45 RX3 ∈ wsL_law := by decide +kernel
theorem lin_ii3 : Cond.initialized RX3 ∈ wsL_law := by decide +kernel
theorem lin_ml3 : Cond.methodLink RL 104 yX3_init ∈ wsL_law := by decide +kernel
theorem lin_im3 : Cond.instanceMethod yX3_init ∈ wsL_law := by decide +kernel
theorem lin_aI : Cond.arrayClass .int ∈ wsL_law := by decide +kernel
theorem law_PN3 {s : State} {b : Addr} (hts : ∀ w ∈ lw_tbl, w.before #[Value.ref b] s = true) : PN3 s :=
  ⟨va_AO.of (hts (.arrayOver (.object RX2)) (List.mem_of_getElem? (i := 134) (by decide +kernel))), ⟨va_AO.of (hts (.arrayOver (.object RX1)) (List.mem_of_getElem? (i := 27) (by decide +kernel))), va_Nw.of rfl (hts (.methodLinkNest RX2 36 yX1_init "BellowsRound") (List.mem_of_getElem? (i := 29) (by decide +kernel)))⟩, va_Nw.of rfl (hts (.methodLinkNest RX3 25 yX0_init "BellowsRound") (List.mem_of_getElem? (i := 137) (by decide +kernel)))⟩
theorem law_NST {s : State} {b : Addr} (hts : ∀ w ∈ lw_tbl, w.before #[Value.ref b] s = true) : NST s :=
  ⟨va_Nw.of rfl (hts (.methodLinkNest RX2 75 yX3_hoursOfWay "BellowsRound") (List.mem_of_getElem? (i := 267) (by decide +kernel))), va_Nw.of rfl (hts (.methodLinkNest RX2 93 yX3_hoursOfMend "BellowsRound") (List.mem_of_getElem? (i := 301) (by decide +kernel))), va_Nw.of rfl (hts (.methodLinkNest RX1 36 yX3_tensBegun "BellowsRound") (List.mem_of_getElem? (i := 308) (by decide +kernel))), va_Nw.of rfl (hts (.methodLinkNest RX2 138 yX3_wearBehindDay "BellowsRound") (List.mem_of_getElem? (i := 361) (by decide +kernel))), va_Nw.of rfl (hts (.methodLinkNest RX2 141 yX3_heatBehindDay "BellowsRound") (List.mem_of_getElem? (i := 367) (by decide +kernel)))⟩
theorem RA_int {U : State} {c c' : ClassId} (h : va_RA U c .int) (h' : va_RA U c' .int) : c' = c := by
  have h1 : U.vm.findClass ("[" ++ FieldType.int.toString) = some c := h
  have h2 : U.vm.findClass ("[" ++ FieldType.int.toString) = some c' := h'
  exact Option.some.inj (h2.symm.trans h1)
theorem RA_obj {U : State} {c c' : ClassId} {C : String} (h : va_RA U c (.object C)) (h' : va_RA U c' (.object C)) : c' = c := by
  obtain ⟨_, _, _, _, _, h1⟩ := h
  obtain ⟨_, _, _, _, _, h2⟩ := h'
  exact Option.some.inj (h2.symm.trans h1)
theorem law_known {s : State} {b : Addr} (hts : ∀ w ∈ wsL_law, w.before #[Value.ref b] s = true) : ∃ D : va_G, ∀ (k : Nat) (q : vw_C), vwCl[k]? = some q → u_Kn s q.1 q.2.1 q.2.2 (D.1 k) (D.2 k) := by
  obtain ⟨c0, i0, k0⟩ := u_known (C := RX0) (T := TX0) (N := 6) (n := 6) hts inlX0 (hts _ lin_ia0)
  obtain ⟨c1, i1, k1⟩ := u_known (C := RX1) (T := TX1) (N := 8) (n := 8) hts inlX1 (hts _ lin_ia1)
  obtain ⟨c2, i2, k2⟩ := u_known (C := RX2) (T := TX2) (N := 15) (n := 15) hts inlX2 (hts _ lin_ia2)
  obtain ⟨c3, i3, k3⟩ := u_known (C := RX3) (T := TX3) (N := 9) (n := 9) hts inlX3 (hts _ lin_ia3)
  refine ⟨(fun k => if k = 0 then c0 else if k = 1 then c1 else if k = 2 then c2 else c3, fun k => if k = 0 then i0 else if k = 1 then i1 else if k = 2 then i2 else i3), ?_⟩
  intro k q hq
  match k, hq with
  | 0, hq => cases hq; exact k0
  | 1, hq => cases hq; exact k1
  | 2, hq => cases hq; exact k2
  | 3, hq => cases hq; exact k3
  | k + 4, hq => simp [vwCl] at hq
set_option maxHeartbeats 8000000 in
set_option maxRecDepth 100000 in
/-- YOUR PART: from the entry, for every script of at most 260 ints, the law comes to its end with true -/
theorem whole_start {p : Program} {e : Env} {s : State} {m : MethodId} {below : List Frame} {meth : Method} {c : Code} (l : Launch) (hflags : l.flags = flags0) {b L : Nat} {xs : Nat → Int32} (hL : L ≤ 260) (C0 : lw_At p s m meth c b L xs) : W p l e room_1 s m #[Value.ref b] below meth c s.heap [] 0 0 (lw_Z below #[Value.ref b] s) (entryFrame m ([Value.ref b] : List Value).toArray 7) := by
  obtain ⟨hx, hb, hr, hml, hown, hts0, hX, hbl, hlocks, hgv⟩ := C0
  have hts : ∀ w ∈ wsL_law, w.before #[Value.ref b] s = true := fun w hw => hts0 w (wsL_law_in w hw)
  have hown : s.vm.findClass RL = some m.cls := hown
  have hA : ∀ q : Nat, s.heap.size ≤ q → (NWP s) q := fun _ h => h
  obtain ⟨D, hKc⟩ := law_known hts
  have hPN := law_PN3 hts0
  have hS : va_S (NWP s) s.heap s.heap [] := va_S.rf
  have hK : va_K D vwCl [] s := ⟨hKc, fun k q h => by simp at h⟩
  have hP : va_P D vwCl [] s.heap := fun k q h => by simp at h
  have hD : va_D (NWP s) [] := ⟨fun i j p q h => by simp at h, fun k q h => by simp at h⟩
  have hl := lv_entry ([.ref b]) (n := 7) (Nat.le_of_ble_eq_true rfl)
  rw [lg_entry_eq]
  generalize (lg_sl ([.ref b]) ++ List.replicate (7 - (lg_sl ([.ref b])).length) Slot.unset).toArray = ls at hl ⊢
  have hl : lv_has ls 7 [(0, .ref b)] := hl
  refine va_new (ci := 3) (fs := z3 .null .null .null .null) (C := RX3) (T := TX3) (N := 9) hx hb hts inlX3 tyX3 tyX3_ok hown (hts _ lin_cl3) (hts _ lin_ia3) (hts _ lin_ii3) hK hP hD hS hA rfl (fun j hj => by rcases (show j = 0 ∨ j = 1 ∨ j = 2 ∨ j = 3 ∨ j = 4 ∨ j = 5 ∨ j = 6 ∨ j = 7 ∨ j = 8 by omega) with rfl | rfl | rfl | rfl | rfl | rfl | rfl | rfl | rfl <;> rfl) (Nat.le_of_ble_eq_true rfl) (Nat.le_of_ble_eq_true rfl) dL_law_0 (fun h0 H hP hD hS => ?_)
  have hP : va_P D vwCl [(h0, .inr (3, z3 .null .null .null .null))] H := hP
  have hD : va_D (NWP s) [(h0, .inr (3, z3 .null .null .null .null))] := hD
  refine lv_dup hx hb dL_law_3 rfl ?_
  have hFc := va_free (wc := [(h0, .inr (3, z3 .null .null .null .null))]) hD hS hA [0] rfl
  refine va_callv (va_runI (As := []) (rest := [.ref h0]) ⟨hx, hb, hml, hown, hts⟩ (c_X3_init l D h0 H.size) (cwI 0 hts ggL_law_X3_init rfl rfl rfl (hts _ lin_ii3) (hts _ lin_ml3) (hts _ lin_im3) rfl (by decide +kernel) ⟨Nat.le_of_ble_eq_true rfl, Nat.le_of_ble_eq_true rfl⟩) ⟨fun a U g mk q => by obtain ⟨e0, ⟨e1, eP, eK, eD⟩, e5, e6, e7⟩ := q; exact ⟨e0, ⟨e1, eP, va_K.moved (u := U) (U := U.calling g mk a) (Vm.Alike.refl U.vm) eK, eD⟩, va_AO.moved (Vm.Alike.refl U.vm) e5, PN2.moved rfl e6, va_Nw.same rfl rfl e7⟩, fun U hU hW => ⟨rfl, ⟨by rw [hU], by rw [hU]; exact hP, va_K.moved hW.alike hK, hD.weaken (fun _ _ _ _ => trivial)⟩, va_AO.moved hW.alike hPN.1, PN2.warm hW hPN.2.1, va_Nw.warmM hW hPN.2.2⟩⟩ rfl rfl hl.1 rfl (lv_room (Nat.le_of_ble_eq_true rfl)) dL_law_4 ⟨Nat.le_of_ble_eq_true rfl, Nat.le_of_ble_eq_true rfl⟩) hS (fun q _ h => hFc q h) hFc (fun u t H1 locs ht hvm h5 hB hz1 hk1 hS => ?_)
  obtain ⟨sa, us, hi, hc, ot, ch, cc⟩ := u
  obtain ⟨hP1, hK1, hD1⟩ := hB
  rw [ht] at hP1
  have hK1 := va_K.moved hvm.symm hK1
  obtain ⟨hP, hD⟩ := va_join (wr := []) (w1 := WS3 h0 sa us hi hc ot ch cc) hP hD [0] [] rfl rfl (by decide) (by decide) hk1 hFc hP1 hD1
  have hP : va_P D vwCl (WS3 h0 sa us hi hc ot ch cc) H1 := hP
  have hD : va_D (NWP s) (WS3 h0 sa us hi hc ot ch cc) := hD
  refine lv_astore_n (lv' := [(1, .ref h0), (0, .ref b)]) hx hb dL_law_7 rfl hl (by decide) rfl (fun ls hl => ?_)
  refine lv_bipush (v := 14) hx hb dL_law_8 (by decide) ?_
  refine va_newa (atype := .int) (ty := .int) (a0 := (14, .inl (fun _ => 0))) hx hb (hts _ lin_aI) rfl hK1 hP hD hS hA (fun cA => rfl) (by decide) (show (14 : Int32).toNatClampNeg = 14 by decide) (by decide) (Nat.le_of_ble_eq_true rfl) (Nat.le_of_ble_eq_true rfl) dL_law_10 (fun r1 c1 H hK1 hP hD hS => ?_)
  refine lv_astore_n (lv' := [(2, .ref r1), (1, .ref h0), (0, .ref b)]) hx hb dL_law_12 rfl hl (by decide) rfl (fun ls hl => ?_)
  refine lv_bipush (v := 64) hx hb dL_law_13 (by decide) ?_
  refine va_newa (atype := .int) (ty := .int) (a0 := (64, .inl (fun _ => 0))) hx hb (hts _ lin_aI) rfl hK1 hP hD hS hA (fun cA => rfl) (by decide) (show (64 : Int32).toNatClampNeg = 64 by decide) (by decide) (Nat.le_of_ble_eq_true rfl) (Nat.le_of_ble_eq_true rfl) dL_law_15 (fun r2 c2 H hK1 hP hD hS => ?_)
  refine lv_astore_n (lv' := [(3, .ref r2), (2, .ref r1), (1, .ref h0), (0, .ref b)]) hx hb dL_law_17 rfl hl (by decide) rfl (fun ls hl => ?_)
  have hP : va_P D vwCl (WS3 h0 sa us hi hc ot ch cc ++ WS4 r1 r2 c1 c2) H := by
    have e : WS3 h0 sa us hi hc ot ch cc ++ WS4 r1 r2 c1 c2 = WS3 h0 sa us hi hc ot ch cc ++ [(r1, .inl (c1, 14, .inl (fun _ => 0)))] ++ [(r2, .inl (c2, 64, .inl (fun _ => 0)))] := rfl
    rw [e]; exact hP
  have hD : va_D (NWP s) (WS3 h0 sa us hi hc ot ch cc ++ WS4 r1 r2 c1 c2) := by
    have e : WS3 h0 sa us hi hc ot ch cc ++ WS4 r1 r2 c1 c2 = WS3 h0 sa us hi hc ot ch cc ++ [(r1, .inl (c1, 14, .inl (fun _ => 0)))] ++ [(r2, .inl (c2, 64, .inl (fun _ => 0)))] := rfl
    rw [e]; exact hD
  have e2 : c2 = c1 := RA_int (hK1.2 8 _ rfl).2 (hK1.2 9 _ rfl).2
  subst e2
  have hcs : ∀ p, p < 6 → (us p).2.1 = (us 0).2.1 := by
    intro p hp
    rcases (show p = 0 ∨ p = 1 ∨ p = 2 ∨ p = 3 ∨ p = 4 ∨ p = 5 by omega) with rfl | rfl | rfl | rfl | rfl | rfl
    · rfl
    · exact RA_obj (hK1.2 0 _ rfl).2 (hK1.2 1 _ rfl).2
    · exact RA_obj (hK1.2 0 _ rfl).2 (hK1.2 4 _ rfl).2
    · exact RA_obj (hK1.2 0 _ rfl).2 (hK1.2 5 _ rfl).2
    · exact RA_obj (hK1.2 0 _ rfl).2 (hK1.2 6 _ rfl).2
    · exact RA_obj (hK1.2 0 _ rfl).2 (hK1.2 7 _ rfl).2
  obtain ⟨hW0, hI, hF⟩ := start_W hP hD hcs
  refine W.widen (k := 600000) (n := 7302250) (Nat.le_of_ble_eq_true rfl) (Nat.le_of_ble_eq_true rfl) ?_
  have hEK : EOK (cAS cc c2 (us 0).2.1 hc) D s := by
    refine ⟨⟨hKc, fun k q hk => ?_⟩, law_NST hts0⟩
    match k, hk with
    | 0, hk => cases hk; exact hK1.2 3 _ rfl
    | 1, hk => cases hk; exact hK1.2 8 _ rfl
    | 2, hk => cases hk; exact hK1.2 0 _ rfl
    | 3, hk => cases hk; exact hK1.2 2 _ rfl
    | k + 4, hk => simp [TYS] at hk
  exact law_0 (E := ⟨hx, hb, hml, hown, hts, hr, hlocks, hEK, hI⟩) hF hX hbl hL (M := M00) rfl rel_start _ _ ls hW0 hS (lv_sub hl [3, 2, 1, 0] rfl)
