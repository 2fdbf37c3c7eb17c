/-! ===== the constructor of the object ===== -/
abbrev z3 (a b d e : Value) : List Value := [a, b, d, .int 0, e, .int 0, .int 0, .int 0, .int 0]
abbrev TS : Type := Nat × ClassId × Nat × Nat × Nat × Nat × Nat × Nat × Nat × Nat
abbrev F8 (u : TS) : Nat → Option Nat := va_up (va_up (va_up (va_up (va_up (va_up (va_up (va_up (fun _ => none) 0 (some u.2.2.1)) 1 (some u.2.2.2.1)) 2 (some u.2.2.2.2.1)) 3 (some u.2.2.2.2.2.1)) 4 (some u.2.2.2.2.2.2.1)) 5 (some u.2.2.2.2.2.2.2.1)) 6 (some u.2.2.2.2.2.2.2.2.1)) 7 (some u.2.2.2.2.2.2.2.2.2)
/-- a State's ten cells -/
abbrev bS (h0 : Nat) (u : TS) : va_W := [(h0, .inr (2, z2 (.ref u.1) 30 10 4 60 10 100)), (u.1, .inl (u.2.1, 8, .inr (.inr (.inr (.inr (F8 u)))))), (u.2.2.1, .inr (1, z8)), (u.2.2.2.1, .inr (1, z8)), (u.2.2.2.2.1, .inr (1, z8)), (u.2.2.2.2.2.1, .inr (1, z8)), (u.2.2.2.2.2.2.1, .inr (1, z8)), (u.2.2.2.2.2.2.2.1, .inr (1, z8)), (u.2.2.2.2.2.2.2.2.1, .inr (1, z8)), (u.2.2.2.2.2.2.2.2.2, .inr (1, z8))]
theorem in_X3_init_20 : ∀ w ∈ wsX20, w ∈ wsX3_init := by decide +kernel
theorem in_X3_init_30 : ∀ w ∈ wsX30, w ∈ wsX3_init := by decide +kernel
theorem in_X3_init_00 : ∀ w ∈ wsX00, w ∈ wsX3_init := by decide +kernel
def PN3 (U : State) : Prop := va_AO RX2 U ∧ PN2 U ∧ va_Nw (.methodLinkNest RX3 25 yX0_init "BellowsRound") U
theorem PN2.moved {U V : State} (hv : U.vm = V.vm) (h : PN2 U) : PN2 V := ⟨va_AO.moved (by rw [← hv]; exact Vm.Alike.refl U.vm) h.1, va_Nw.same rfl hv h.2⟩
theorem PN2.warm {U V : State} (hW : U.WarmedH V.vm) (h : PN2 U) : PN2 V := ⟨va_AO.moved hW.alike h.1, va_Nw.warmM hW h.2⟩
theorem k_X3_init_12 : Cond.fieldLink RX3 12 "BellowsRound" "now" "LBellowsRound$State;" ∈ wsX3_init := by decide +kernel
theorem k_X3_init_16 : Cond.fieldLink RX3 16 "BellowsRound" "trial" "LBellowsRound$State;" ∈ wsX3_init := by decide +kernel
theorem k_X3_init_19 : Cond.fieldLink RX3 19 "BellowsRound" "history" "[LBellowsRound$State;" ∈ wsX3_init := by decide +kernel
theorem k_X3_init_26 : Cond.fieldLink RX3 26 "BellowsRound" "text" "LBellowsRound$OrderText;" ∈ wsX3_init := by decide +kernel
theorem cl9_X3_init : Cond.classLink RX3 9 RX2 ∈ wsX3_init := by decide +kernel
theorem cl23_X3_init : Cond.classLink RX3 23 RX0 ∈ wsX3_init := by decide +kernel
theorem ia2_X3_init : Cond.instantiable RX2 15 ∈ wsX3_init := by decide +kernel
theorem ii2_X3_init : Cond.initialized RX2 ∈ wsX3_init := by decide +kernel
theorem ia0_X3_init : Cond.instantiable RX0 6 ∈ wsX3_init := by decide +kernel
theorem ii0_X3_init : Cond.initialized RX0 ∈ wsX3_init := by decide +kernel
theorem ml2_X3_init : Cond.methodLink RX3 11 yX2_init ∈ wsX3_init := by decide +kernel
theorem im2_X3_init : Cond.instanceMethod yX2_init ∈ wsX3_init := by decide +kernel
theorem im0_X3_init : Cond.instanceMethod yX0_init ∈ wsX3_init := by decide +kernel
set_option maxHeartbeats 16000000 in
set_option maxRecDepth 100000 in
theorem c_X3_init (l : Launch) (D : va_G) (h0 : Nat) (sz : Nat) : Met l yX3_init wsX3_init ({ frames := 3, cells := 63, slots := 592, locals := 53 }) (va_Pc [.ref h0] (fun U => PI D [(h0, .inr (3, z3 .null .null .null .null))] sz U ∧ PN3 U)) (va_Qv (fun _ : (Nat → Nat) × (Nat → TS) × Nat × ClassId × Nat × Nat × ClassId => True) (PO D (va_A [(h0, .inr (3, z3 .null .null .null .null))] sz) (fun u => ((h0, .inr (3, z3 (.ref (u.1 0)) (.ref (u.1 1)) (.ref u.2.2.1) (.ref u.2.2.2.2.1))) :: (bS (u.1 0) (u.2.1 0) ++ (bS (u.1 1) (u.2.1 1) ++ ([(u.2.2.1, .inl (u.2.2.2.1, 4, .inr (.inr (.inr (.inr (va_up (va_up (va_up (va_up (fun _ => none) 0 (some (u.1 2))) 1 (some (u.1 3))) 2 (some (u.1 4))) 3 (some (u.1 5)))))))), (u.2.2.2.2.1, .inr (0, z0 (.ref u.2.2.2.2.2.1))), (u.2.2.2.2.2.1, .inl (u.2.2.2.2.2.2, 60, .inl (fun _ => 0)))] ++ (bS (u.1 2) (u.2.1 2) ++ (bS (u.1 3) (u.2.1 3) ++ (bS (u.1 4) (u.2.1 4) ++ bS (u.1 5) (u.2.1 5))))))))) (fun u => [((u.2.1 0).2.1, .object RX1), ((u.2.1 1).2.1, .object RX1), (u.2.2.2.1, .object RX2), (u.2.2.2.2.2.2, .char), ((u.2.1 2).2.1, .object RX1), ((u.2.1 3).2.1, .object RX1), ((u.2.1 4).2.1, .object RX1), ((u.2.1 5).2.1, .object RX1)])) (va_A [(h0, .inr (3, z3 .null .null .null .null))] sz)) 63 592 (va_A [(h0, .inr (3, z3 .null .null .null .null))] sz) := by
  refine Met.ofW (cc := cX3_init) (maxL := 2) (ret := none) (by decide +kernel) rfl ?_
  intro p e s m args below meth c s₁ B hml hv
  obtain ⟨rfl, ⟨hsz, hP, hK, hD0⟩, hao, hn2, hnest⟩ := hv
  have hx := B.exec
  have hb := B.bytes
  have hr := B.returns
  have hts := atoms_spec (ws := wsX3_init) B.pre
  have hown : s.vm.findClass RX3 = some m.cls := findClass_of_methodNamed B.named
  have hin : meth.name = "<init>" := (name_of_methodNamed B.named B.method).1
  subst hsz
  have hD := hD0.self (sz := s.heap.size)
  generalize hAe : va_A [(h0, .inr (3, z3 .null .null .null .null))] s.heap.size = A at hD ⊢
  have hA : ∀ q : Nat, s.heap.size ≤ q → A q := fun q h => by rw [← hAe]; exact Or.inr h
  have hS : va_S A s.heap s.heap [] := va_S.rf
  have hl := lv_entry ([.ref h0]) (n := 2) (Nat.le_of_ble_eq_true rfl)
  rw [lg_entry_eq]
  generalize (lg_sl ([.ref h0]) ++ List.replicate (2 - (lg_sl ([.ref h0])).length) Slot.unset).toArray = ls at hl ⊢
  have hl : lv_has ls 2 [(0, .ref h0)] := hl
  refine lv_aload_n hx hb dX3_init_0 rfl (lv_at hl 0 rfl) ?_
  refine W.objInit hx hb hown (hts (.methodLink RX3 3 objectInit) (by decide +kernel)) (hts (.instanceMethod objectInit) (by decide +kernel)) (hts (.code objectInit ⟨#[0xb1]⟩ 1 none) (List.mem_of_getElem? (i := 3) rfl)) rfl (by rw [hml]; exact hl.1) rfl dX3_init_1 (Nat.le_of_ble_eq_true rfl) (Nat.le_of_ble_eq_true rfl) ?_
  refine W.eq (g2 := F0 m 4 ls []) rfl ?_
  refine lv_aload_n hx hb dX3_init_4 rfl (lv_at hl 0 rfl) ?_
  refine va_new (ci := 2) (fs := z2 .null 0 0 0 0 0 0) (C := RX2) (T := TX2) (N := 15) hx hb hts in_X3_init_20 tyX2 tyX2_ok hown (hts _ cl9_X3_init) (hts _ ia2_X3_init) (hts _ ii2_X3_init) hK hP hD hS hA rfl (fun j hj => by rcases (show j = 0 ∨ j = 1 ∨ j = 2 ∨ j = 3 ∨ j = 4 ∨ j = 5 ∨ j = 6 ∨ j = 7 ∨ j = 8 ∨ j = 9 ∨ j = 10 ∨ j = 11 ∨ j = 12 ∨ j = 13 ∨ j = 14 by omega) with rfl | rfl | rfl | rfl | rfl | rfl | rfl | rfl | rfl | rfl | rfl | rfl | rfl | rfl | rfl <;> rfl) (Nat.le_of_ble_eq_true rfl) (Nat.le_of_ble_eq_true rfl) dX3_init_5 (fun s0 H hP hD hS => ?_)
  have hP : va_P D vwCl ((h0, .inr (3, z3 .null .null .null .null)) :: ([(s0, .inr (2, z2 .null 0 0 0 0 0 0))])) H := hP
  have hD : va_D A ((h0, .inr (3, z3 .null .null .null .null)) :: ([(s0, .inr (2, z2 .null 0 0 0 0 0 0))])) := hD
  refine lv_dup hx hb dX3_init_8 rfl ?_
  have hPc := hP.sub (ws' := [(s0, .inr (2, z2 .null 0 0 0 0 0 0))]) [1] rfl
  have hDc := hD.sub (ws' := [(s0, .inr (2, z2 .null 0 0 0 0 0 0))]) [1] (by decide) rfl
  have hKc := hK.sub (tys' := []) [] rfl
  have hFc := va_free (wc := [(s0, .inr (2, z2 .null 0 0 0 0 0 0))]) hD hS hA [1] rfl
  refine va_callv (va_runI (As := []) (rest := [.ref s0, .ref h0]) ⟨hx, hb, hml, hown, hts⟩ (c_X2_init l D s0 H.size) (cwI 0 hts gX3_init_X2_init rfl rfl rfl (hts _ ii2_X3_init) (hts _ ml2_X3_init) (hts _ im2_X3_init) rfl (by decide +kernel) ⟨Nat.le_of_ble_eq_true rfl, Nat.le_of_ble_eq_true rfl⟩) ⟨fun a U g mk q => by obtain ⟨e0, ⟨e1, eP, eK, eD⟩, e5⟩ := q; exact ⟨e0, ⟨e1, eP, va_K.moved (u := U) (U := U.calling g mk a) (Vm.Alike.refl U.vm) eK, eD⟩, PN2.moved rfl e5⟩, fun U hU hW => ⟨rfl, ⟨by rw [hU], by rw [hU]; exact hPc, va_K.moved hW.alike hKc, hDc.weaken (fun _ _ _ _ => trivial)⟩, PN2.warm hW hn2⟩⟩ rfl rfl hl.1 rfl (lv_room (Nat.le_of_ble_eq_true rfl)) dX3_init_9 ⟨Nat.le_of_ble_eq_true rfl, Nat.le_of_ble_eq_true rfl⟩) hS (fun q _ h => hFc q h) hFc (fun u0 t H1 locs ht hvm h5 hB hz1 hk1 hS => ?_)
  obtain ⟨hP1, hK1, hD1⟩ := hB
  rw [ht] at hP1
  have hK1 := va_K.moved hvm.symm hK1
  obtain ⟨hP, hD⟩ := va_join (wr := ((h0, .inr (3, z3 .null .null .null .null)) :: (([] : va_W)))) (w1 := bS s0 u0) hP hD [1] (List.range 1) rfl rfl (by decide) (by decide) hk1 hFc hP1 hD1
  have hK := hK.app hK1
  have hP : va_P D vwCl ((h0, .inr (3, z3 .null .null .null .null)) :: (bS s0 u0)) H1 := hP
  have hD : va_D A ((h0, .inr (3, z3 .null .null .null .null)) :: (bS s0 u0)) := hD
  refine va_put (ci := 3) (v := .ref s0) (ty := .object RX2) (C := RX3) (T := TX3) (N := 9) hx hb hts in_X3_init_30 tyX3 tyX3_ok nmX3 hown hK hP hD hS 0 rfl rfl 0 (by decide) (hts _ k_X3_init_12) (fun _ h9 => h9) rfl (by decide +kernel) rfl rfl (Nat.le_of_ble_eq_true rfl) dX3_init_12 (fun H locs hP hD hS => ?_)
  have hP : va_P D vwCl ((h0, .inr (3, z3 (.ref s0) .null .null .null)) :: (bS s0 u0)) H := hP
  have hD : va_D A ((h0, .inr (3, z3 (.ref s0) .null .null .null)) :: (bS s0 u0)) := hD
  refine lv_aload_n hx hb dX3_init_15 rfl (lv_at hl 0 rfl) ?_
  refine va_new (ci := 2) (fs := z2 .null 0 0 0 0 0 0) (C := RX2) (T := TX2) (N := 15) hx hb hts in_X3_init_20 tyX2 tyX2_ok hown (hts _ cl9_X3_init) (hts _ ia2_X3_init) (hts _ ii2_X3_init) hK hP hD hS hA rfl (fun j hj => by rcases (show j = 0 ∨ j = 1 ∨ j = 2 ∨ j = 3 ∨ j = 4 ∨ j = 5 ∨ j = 6 ∨ j = 7 ∨ j = 8 ∨ j = 9 ∨ j = 10 ∨ j = 11 ∨ j = 12 ∨ j = 13 ∨ j = 14 by omega) with rfl | rfl | rfl | rfl | rfl | rfl | rfl | rfl | rfl | rfl | rfl | rfl | rfl | rfl | rfl <;> rfl) (Nat.le_of_ble_eq_true rfl) (Nat.le_of_ble_eq_true rfl) dX3_init_16 (fun s1 H hP hD hS => ?_)
  have hP : va_P D vwCl ((h0, .inr (3, z3 (.ref s0) .null .null .null)) :: (bS s0 u0 ++ [(s1, .inr (2, z2 .null 0 0 0 0 0 0))])) H := hP
  have hD : va_D A ((h0, .inr (3, z3 (.ref s0) .null .null .null)) :: (bS s0 u0 ++ [(s1, .inr (2, z2 .null 0 0 0 0 0 0))])) := hD
  refine lv_dup hx hb dX3_init_19 rfl ?_
  have hPc := hP.sub (ws' := [(s1, .inr (2, z2 .null 0 0 0 0 0 0))]) [11] rfl
  have hDc := hD.sub (ws' := [(s1, .inr (2, z2 .null 0 0 0 0 0 0))]) [11] (by decide) rfl
  have hKc := hK.sub (tys' := []) [] rfl
  have hFc := va_free (wc := [(s1, .inr (2, z2 .null 0 0 0 0 0 0))]) hD hS hA [11] rfl
  refine va_callv (va_runI (As := []) (rest := [.ref s1, .ref h0]) ⟨hx, hb, hml, hown, hts⟩ (c_X2_init l D s1 H.size) (cwI 0 hts gX3_init_X2_init rfl rfl rfl (hts _ ii2_X3_init) (hts _ ml2_X3_init) (hts _ im2_X3_init) rfl (by decide +kernel) ⟨Nat.le_of_ble_eq_true rfl, Nat.le_of_ble_eq_true rfl⟩) ⟨fun a U g mk q => by obtain ⟨e0, ⟨e1, eP, eK, eD⟩, e5⟩ := q; exact ⟨e0, ⟨e1, eP, va_K.moved (u := U) (U := U.calling g mk a) (Vm.Alike.refl U.vm) eK, eD⟩, PN2.moved rfl e5⟩, fun U hU hW => ⟨rfl, ⟨by rw [hU], by rw [hU]; exact hPc, va_K.moved hW.alike hKc, hDc.weaken (fun _ _ _ _ => trivial)⟩, PN2.warm hW hn2⟩⟩ rfl rfl hl.1 rfl (lv_room (Nat.le_of_ble_eq_true rfl)) dX3_init_20 ⟨Nat.le_of_ble_eq_true rfl, Nat.le_of_ble_eq_true rfl⟩) hS (fun q _ h => hFc q h) hFc (fun u1 t H1 locs ht hvm h5 hB hz1 hk1 hS => ?_)
  obtain ⟨hP1, hK1, hD1⟩ := hB
  rw [ht] at hP1
  have hK1 := va_K.moved hvm.symm hK1
  obtain ⟨hP, hD⟩ := va_join (wr := ((h0, .inr (3, z3 (.ref s0) .null .null .null)) :: (bS s0 u0))) (w1 := bS s1 u1) hP hD [11] (List.range 11) rfl rfl (by decide) (by decide) hk1 hFc hP1 hD1
  have hK := hK.app hK1
  have hP : va_P D vwCl ((h0, .inr (3, z3 (.ref s0) .null .null .null)) :: (bS s0 u0 ++ bS s1 u1)) H1 := hP
  have hD : va_D A ((h0, .inr (3, z3 (.ref s0) .null .null .null)) :: (bS s0 u0 ++ bS s1 u1)) := hD
  refine va_put (ci := 3) (v := .ref s1) (ty := .object RX2) (C := RX3) (T := TX3) (N := 9) hx hb hts in_X3_init_30 tyX3 tyX3_ok nmX3 hown hK hP hD hS 0 rfl rfl 1 (by decide) (hts _ k_X3_init_16) (fun _ h9 => h9) rfl (by decide +kernel) rfl rfl (Nat.le_of_ble_eq_true rfl) dX3_init_23 (fun H locs hP hD hS => ?_)
  have hP : va_P D vwCl ((h0, .inr (3, z3 (.ref s0) (.ref s1) .null .null)) :: (bS s0 u0 ++ bS s1 u1)) H := hP
  have hD : va_D A ((h0, .inr (3, z3 (.ref s0) (.ref s1) .null .null)) :: (bS s0 u0 ++ bS s1 u1)) := hD
  refine lv_aload_n hx hb dX3_init_26 rfl (lv_at hl 0 rfl) ?_
  refine lv_iconst (v := 4) hx hb dX3_init_27 (by decide) ?_
  refine va_newq (C := RX2) hx hb hown (hts _ cl9_X3_init) hao hK hP hD hS hA (by decide) (show (4 : Int32).toNatClampNeg = 4 by decide) (by decide) (Nat.le_of_ble_eq_true rfl) (Nat.le_of_ble_eq_true rfl) dX3_init_28 (fun hr0 ha H hK hP hD hS => ?_)
  refine va_putF (ci := 3) (v := .ref hr0) (ty := .array (.object RX2)) (C := RX3) (T := TX3) (N := 9) hx hb hts in_X3_init_30 tyX3 tyX3_ok nmX3 hown hK hP hD hS 0 rfl rfl 2 (by decide) (hts _ k_X3_init_19) (fun _ h9 => h9) rfl hin rfl (by decide +kernel) rfl rfl (Nat.le_of_ble_eq_true rfl) dX3_init_31 (fun H locs hP hD hS => ?_)
  have hP : va_P D vwCl ((h0, .inr (3, z3 (.ref s0) (.ref s1) (.ref hr0) .null)) :: (bS s0 u0 ++ bS s1 u1 ++ [(hr0, .inl (ha, 4, .inr (.inr (.inr (.inr (fun _ => none))))))])) H := hP
  have hD : va_D A ((h0, .inr (3, z3 (.ref s0) (.ref s1) (.ref hr0) .null)) :: (bS s0 u0 ++ bS s1 u1 ++ [(hr0, .inl (ha, 4, .inr (.inr (.inr (.inr (fun _ => none))))))])) := hD
  refine lv_aload_n hx hb dX3_init_34 rfl (lv_at hl 0 rfl) ?_
  refine va_new (ci := 0) (fs := z0 .null) (C := RX0) (T := TX0) (N := 6) hx hb hts in_X3_init_00 tyX0 tyX0_ok hown (hts _ cl23_X3_init) (hts _ ia0_X3_init) (hts _ ii0_X3_init) hK hP hD hS hA rfl (fun j hj => by rcases (show j = 0 ∨ j = 1 ∨ j = 2 ∨ j = 3 ∨ j = 4 ∨ j = 5 by omega) with rfl | rfl | rfl | rfl | rfl | rfl <;> rfl) (Nat.le_of_ble_eq_true rfl) (Nat.le_of_ble_eq_true rfl) dX3_init_35 (fun tx0 H hP hD hS => ?_)
  have hP : va_P D vwCl ((h0, .inr (3, z3 (.ref s0) (.ref s1) (.ref hr0) .null)) :: (bS s0 u0 ++ bS s1 u1 ++ [(hr0, .inl (ha, 4, .inr (.inr (.inr (.inr (fun _ => none))))))] ++ [(tx0, .inr (0, z0 .null))])) H := hP
  have hD : va_D A ((h0, .inr (3, z3 (.ref s0) (.ref s1) (.ref hr0) .null)) :: (bS s0 u0 ++ bS s1 u1 ++ [(hr0, .inl (ha, 4, .inr (.inr (.inr (.inr (fun _ => none))))))] ++ [(tx0, .inr (0, z0 .null))])) := hD
  refine lv_dup hx hb dX3_init_38 rfl ?_
  have hPc := hP.sub (ws' := [(tx0, .inr (0, z0 .null))]) [22] rfl
  have hDc := hD.sub (ws' := [(tx0, .inr (0, z0 .null))]) [22] (by decide) rfl
  have hKc := hK.sub (tys' := []) [] rfl
  have hFc := va_free (wc := [(tx0, .inr (0, z0 .null))]) hD hS hA [22] rfl
  refine va_callv (va_runIN (As := []) (rest := [.ref tx0, .ref h0]) ⟨hx, hb, hml, hown, hts⟩ (c_X0_init l D tx0 H.size) ⟨va_cnB 0 hts gX3_init_X0_init_n25 rfl rfl rfl hnest (hts _ ii0_X3_init) ⟨by decide +kernel, by decide +kernel, by decide +kernel⟩ ⟨Nat.le_of_ble_eq_true rfl, Nat.le_of_ble_eq_true rfl⟩, rfl, hts _ im0_X3_init⟩ ⟨fun a U g mk q => by obtain ⟨e0, e1, eP, eK, eD⟩ := q; exact ⟨e0, e1, eP, va_K.moved (u := U) (U := U.calling g mk a) (Vm.Alike.refl U.vm) eK, eD⟩, fun U hU hW => ⟨rfl, by rw [hU], by rw [hU]; exact hPc, va_K.moved hW.alike hKc, hDc.weaken (fun _ _ _ _ => trivial)⟩⟩ rfl rfl hl.1 rfl (lv_room (Nat.le_of_ble_eq_true rfl)) dX3_init_39 ⟨Nat.le_of_ble_eq_true rfl, Nat.le_of_ble_eq_true rfl⟩) hS (fun q _ h => hFc q h) hFc (fun ut t H1 locs ht hvm h5 hB hz1 hk1 hS => ?_)
  obtain ⟨hP1, hK1, hD1⟩ := hB
  rw [ht] at hP1
  have hK1 := va_K.moved hvm.symm hK1
  obtain ⟨hP, hD⟩ := va_join (wr := ((h0, .inr (3, z3 (.ref s0) (.ref s1) (.ref hr0) .null)) :: (bS s0 u0 ++ bS s1 u1 ++ [(hr0, .inl (ha, 4, .inr (.inr (.inr (.inr (fun _ => none))))))]))) (w1 := [(tx0, .inr (0, z0 (.ref ut.1))), (ut.1, .inl (ut.2, 60, .inl (fun _ => 0)))]) hP hD [22] (List.range 22) rfl rfl (by decide) (by decide) hk1 hFc hP1 hD1
  have hK := hK.app hK1
  have hP : va_P D vwCl ((h0, .inr (3, z3 (.ref s0) (.ref s1) (.ref hr0) .null)) :: (bS s0 u0 ++ bS s1 u1 ++ [(hr0, .inl (ha, 4, .inr (.inr (.inr (.inr (fun _ => none))))))] ++ [(tx0, .inr (0, z0 (.ref ut.1))), (ut.1, .inl (ut.2, 60, .inl (fun _ => 0)))])) H1 := hP
  have hD : va_D A ((h0, .inr (3, z3 (.ref s0) (.ref s1) (.ref hr0) .null)) :: (bS s0 u0 ++ bS s1 u1 ++ [(hr0, .inl (ha, 4, .inr (.inr (.inr (.inr (fun _ => none))))))] ++ [(tx0, .inr (0, z0 (.ref ut.1))), (ut.1, .inl (ut.2, 60, .inl (fun _ => 0)))])) := hD
  refine va_putF (ci := 3) (v := .ref tx0) (ty := .object RX0) (C := RX3) (T := TX3) (N := 9) hx hb hts in_X3_init_30 tyX3 tyX3_ok nmX3 hown hK hP hD hS 0 rfl rfl 4 (by decide) (hts _ k_X3_init_26) (fun _ h9 => h9) rfl hin rfl (by decide +kernel) rfl rfl (Nat.le_of_ble_eq_true rfl) dX3_init_42 (fun H locs hP hD hS => ?_)
  have hP : va_P D vwCl ((h0, .inr (3, z3 (.ref s0) (.ref s1) (.ref hr0) (.ref tx0))) :: (bS s0 u0 ++ bS s1 u1 ++ [(hr0, .inl (ha, 4, .inr (.inr (.inr (.inr (fun _ => none))))))] ++ [(tx0, .inr (0, z0 (.ref ut.1))), (ut.1, .inl (ut.2, 60, .inl (fun _ => 0)))])) H := hP
  have hD : va_D A ((h0, .inr (3, z3 (.ref s0) (.ref s1) (.ref hr0) (.ref tx0))) :: (bS s0 u0 ++ bS s1 u1 ++ [(hr0, .inl (ha, 4, .inr (.inr (.inr (.inr (fun _ => none))))))] ++ [(tx0, .inr (0, z0 (.ref ut.1))), (ut.1, .inl (ut.2, 60, .inl (fun _ => 0)))])) := hD
  refine lv_iconst (v := 0) hx hb dX3_init_45 (by decide) ?_
  refine lv_istore_n (lv' := [(1, .int 0), (0, .ref h0)]) hx hb dX3_init_46 rfl hl (by decide) rfl (fun ls hl => ?_)
  refine lv_iload_n hx hb dX3_init_47 rfl (lv_at hl 0 rfl) ?_
  refine lv_aload_n hx hb dX3_init_48 rfl (lv_at hl 1 rfl) ?_
  refine va_get hx hb hts in_X3_init_30 hown hK hP 0 rfl rfl 2 (by decide) (hts _ k_X3_init_19) (fun _ h9 => h9) rfl dX3_init_49 ?_
  refine va_alen (v := 4) hx hb hK hP 21 2 rfl rfl rfl dX3_init_52 ?_
  refine lv_icmp_ge (tgt := 75) hx hb dX3_init_53 (by decide) (fun cc0 => ?_) (fun cc0 => ?_)
  · exact absurd cc0 (by decide)
  refine lv_aload_n hx hb dX3_init_56 rfl (lv_at hl 1 rfl) ?_
  refine va_get hx hb hts in_X3_init_30 hown hK hP 0 rfl rfl 2 (by decide) (hts _ k_X3_init_19) (fun _ h9 => h9) rfl dX3_init_57 ?_
  refine lv_iload_n hx hb dX3_init_60 rfl (lv_at hl 0 rfl) ?_
  refine va_new (ci := 2) (fs := z2 .null 0 0 0 0 0 0) (C := RX2) (T := TX2) (N := 15) hx hb hts in_X3_init_20 tyX2 tyX2_ok hown (hts _ cl9_X3_init) (hts _ ia2_X3_init) (hts _ ii2_X3_init) hK hP hD hS hA rfl (fun j hj => by rcases (show j = 0 ∨ j = 1 ∨ j = 2 ∨ j = 3 ∨ j = 4 ∨ j = 5 ∨ j = 6 ∨ j = 7 ∨ j = 8 ∨ j = 9 ∨ j = 10 ∨ j = 11 ∨ j = 12 ∨ j = 13 ∨ j = 14 by omega) with rfl | rfl | rfl | rfl | rfl | rfl | rfl | rfl | rfl | rfl | rfl | rfl | rfl | rfl | rfl <;> rfl) (Nat.le_of_ble_eq_true rfl) (Nat.le_of_ble_eq_true rfl) dX3_init_61 (fun s2 H hP hD hS => ?_)
  have hP : va_P D vwCl ((h0, .inr (3, z3 (.ref s0) (.ref s1) (.ref hr0) (.ref tx0))) :: (bS s0 u0 ++ bS s1 u1 ++ [(hr0, .inl (ha, 4, .inr (.inr (.inr (.inr (fun _ => none))))))] ++ [(tx0, .inr (0, z0 (.ref ut.1))), (ut.1, .inl (ut.2, 60, .inl (fun _ => 0)))] ++ [(s2, .inr (2, z2 .null 0 0 0 0 0 0))])) H := hP
  have hD : va_D A ((h0, .inr (3, z3 (.ref s0) (.ref s1) (.ref hr0) (.ref tx0))) :: (bS s0 u0 ++ bS s1 u1 ++ [(hr0, .inl (ha, 4, .inr (.inr (.inr (.inr (fun _ => none))))))] ++ [(tx0, .inr (0, z0 (.ref ut.1))), (ut.1, .inl (ut.2, 60, .inl (fun _ => 0)))] ++ [(s2, .inr (2, z2 .null 0 0 0 0 0 0))])) := hD
  refine lv_dup hx hb dX3_init_64 rfl ?_
  have hPc := hP.sub (ws' := [(s2, .inr (2, z2 .null 0 0 0 0 0 0))]) [24] rfl
  have hDc := hD.sub (ws' := [(s2, .inr (2, z2 .null 0 0 0 0 0 0))]) [24] (by decide) rfl
  have hKc := hK.sub (tys' := []) [] rfl
  have hFc := va_free (wc := [(s2, .inr (2, z2 .null 0 0 0 0 0 0))]) hD hS hA [24] rfl
  refine va_callv (va_runI (As := []) (rest := [.ref s2, .int 0, .ref hr0]) ⟨hx, hb, hml, hown, hts⟩ (c_X2_init l D s2 H.size) (cwI 0 hts gX3_init_X2_init rfl rfl rfl (hts _ ii2_X3_init) (hts _ ml2_X3_init) (hts _ im2_X3_init) rfl (by decide +kernel) ⟨Nat.le_of_ble_eq_true rfl, Nat.le_of_ble_eq_true rfl⟩) ⟨fun a U g mk q => by obtain ⟨e0, ⟨e1, eP, eK, eD⟩, e5⟩ := q; exact ⟨e0, ⟨e1, eP, va_K.moved (u := U) (U := U.calling g mk a) (Vm.Alike.refl U.vm) eK, eD⟩, PN2.moved rfl e5⟩, fun U hU hW => ⟨rfl, ⟨by rw [hU], by rw [hU]; exact hPc, va_K.moved hW.alike hKc, hDc.weaken (fun _ _ _ _ => trivial)⟩, PN2.warm hW hn2⟩⟩ rfl rfl hl.1 rfl (lv_room (Nat.le_of_ble_eq_true rfl)) dX3_init_65 ⟨Nat.le_of_ble_eq_true rfl, Nat.le_of_ble_eq_true rfl⟩) hS (fun q _ h => hFc q h) hFc (fun u2 t H1 locs ht hvm h5 hB hz1 hk1 hS => ?_)
  obtain ⟨hP1, hK1, hD1⟩ := hB
  rw [ht] at hP1
  have hK1 := va_K.moved hvm.symm hK1
  obtain ⟨hP, hD⟩ := va_join (wr := ((h0, .inr (3, z3 (.ref s0) (.ref s1) (.ref hr0) (.ref tx0))) :: (bS s0 u0 ++ bS s1 u1 ++ [(hr0, .inl (ha, 4, .inr (.inr (.inr (.inr (fun _ => none))))))] ++ [(tx0, .inr (0, z0 (.ref ut.1))), (ut.1, .inl (ut.2, 60, .inl (fun _ => 0)))]))) (w1 := bS s2 u2) hP hD [24] (List.range 24) rfl rfl (by decide) (by decide) hk1 hFc hP1 hD1
  have hK := hK.app hK1
  have hP : va_P D vwCl ((h0, .inr (3, z3 (.ref s0) (.ref s1) (.ref hr0) (.ref tx0))) :: (bS s0 u0 ++ bS s1 u1 ++ [(hr0, .inl (ha, 4, .inr (.inr (.inr (.inr (fun _ => none))))))] ++ [(tx0, .inr (0, z0 (.ref ut.1))), (ut.1, .inl (ut.2, 60, .inl (fun _ => 0)))] ++ bS s2 u2)) H1 := hP
  have hD : va_D A ((h0, .inr (3, z3 (.ref s0) (.ref s1) (.ref hr0) (.ref tx0))) :: (bS s0 u0 ++ bS s1 u1 ++ [(hr0, .inl (ha, 4, .inr (.inr (.inr (.inr (fun _ => none))))))] ++ [(tx0, .inr (0, z0 (.ref ut.1))), (ut.1, .inl (ut.2, 60, .inl (fun _ => 0)))] ++ bS s2 u2)) := hD
  refine va_astq hx hb hK hP hD hS 21 2 24 2 rfl rfl rfl rfl (vp_in_nI (n := 0) (N := 4) (by decide) (by decide)) dX3_init_68 (fun H locs hP hD hS => ?_)
  have hP : va_P D vwCl ((h0, .inr (3, z3 (.ref s0) (.ref s1) (.ref hr0) (.ref tx0))) :: (bS s0 u0 ++ bS s1 u1 ++ [(hr0, .inl (ha, 4, .inr (.inr (.inr (.inr (va_up (fun _ => none) 0 (some s2)))))))] ++ [(tx0, .inr (0, z0 (.ref ut.1))), (ut.1, .inl (ut.2, 60, .inl (fun _ => 0)))] ++ bS s2 u2)) H := hP
  have hD : va_D A ((h0, .inr (3, z3 (.ref s0) (.ref s1) (.ref hr0) (.ref tx0))) :: (bS s0 u0 ++ bS s1 u1 ++ [(hr0, .inl (ha, 4, .inr (.inr (.inr (.inr (va_up (fun _ => none) 0 (some s2)))))))] ++ [(tx0, .inr (0, z0 (.ref ut.1))), (ut.1, .inl (ut.2, 60, .inl (fun _ => 0)))] ++ bS s2 u2)) := hD
  refine lv_iinc (v := 1) (lv' := [(1, .int 1), (0, .ref h0)]) hx hb dX3_init_69 hl (k := 0) rfl (by decide) (by decide) rfl (fun ls hl => ?_)
  refine lv_goto (tgt := 47) hx hb dX3_init_72 (by decide) ?_
  refine lv_iload_n hx hb dX3_init_47 rfl (lv_at hl 0 rfl) ?_
  refine lv_aload_n hx hb dX3_init_48 rfl (lv_at hl 1 rfl) ?_
  refine va_get hx hb hts in_X3_init_30 hown hK hP 0 rfl rfl 2 (by decide) (hts _ k_X3_init_19) (fun _ h9 => h9) rfl dX3_init_49 ?_
  refine va_alen (v := 4) hx hb hK hP 21 2 rfl rfl rfl dX3_init_52 ?_
  refine lv_icmp_ge (tgt := 75) hx hb dX3_init_53 (by decide) (fun cc1 => ?_) (fun cc1 => ?_)
  · exact absurd cc1 (by decide)
  refine lv_aload_n hx hb dX3_init_56 rfl (lv_at hl 1 rfl) ?_
  refine va_get hx hb hts in_X3_init_30 hown hK hP 0 rfl rfl 2 (by decide) (hts _ k_X3_init_19) (fun _ h9 => h9) rfl dX3_init_57 ?_
  refine lv_iload_n hx hb dX3_init_60 rfl (lv_at hl 0 rfl) ?_
  refine va_new (ci := 2) (fs := z2 .null 0 0 0 0 0 0) (C := RX2) (T := TX2) (N := 15) hx hb hts in_X3_init_20 tyX2 tyX2_ok hown (hts _ cl9_X3_init) (hts _ ia2_X3_init) (hts _ ii2_X3_init) hK hP hD hS hA rfl (fun j hj => by rcases (show j = 0 ∨ j = 1 ∨ j = 2 ∨ j = 3 ∨ j = 4 ∨ j = 5 ∨ j = 6 ∨ j = 7 ∨ j = 8 ∨ j = 9 ∨ j = 10 ∨ j = 11 ∨ j = 12 ∨ j = 13 ∨ j = 14 by omega) with rfl | rfl | rfl | rfl | rfl | rfl | rfl | rfl | rfl | rfl | rfl | rfl | rfl | rfl | rfl <;> rfl) (Nat.le_of_ble_eq_true rfl) (Nat.le_of_ble_eq_true rfl) dX3_init_61 (fun s3 H hP hD hS => ?_)
  have hP : va_P D vwCl ((h0, .inr (3, z3 (.ref s0) (.ref s1) (.ref hr0) (.ref tx0))) :: (bS s0 u0 ++ bS s1 u1 ++ [(hr0, .inl (ha, 4, .inr (.inr (.inr (.inr (va_up (fun _ => none) 0 (some s2)))))))] ++ [(tx0, .inr (0, z0 (.ref ut.1))), (ut.1, .inl (ut.2, 60, .inl (fun _ => 0)))] ++ bS s2 u2 ++ [(s3, .inr (2, z2 .null 0 0 0 0 0 0))])) H := hP
  have hD : va_D A ((h0, .inr (3, z3 (.ref s0) (.ref s1) (.ref hr0) (.ref tx0))) :: (bS s0 u0 ++ bS s1 u1 ++ [(hr0, .inl (ha, 4, .inr (.inr (.inr (.inr (va_up (fun _ => none) 0 (some s2)))))))] ++ [(tx0, .inr (0, z0 (.ref ut.1))), (ut.1, .inl (ut.2, 60, .inl (fun _ => 0)))] ++ bS s2 u2 ++ [(s3, .inr (2, z2 .null 0 0 0 0 0 0))])) := hD
  refine lv_dup hx hb dX3_init_64 rfl ?_
  have hPc := hP.sub (ws' := [(s3, .inr (2, z2 .null 0 0 0 0 0 0))]) [34] rfl
  have hDc := hD.sub (ws' := [(s3, .inr (2, z2 .null 0 0 0 0 0 0))]) [34] (by decide) rfl
  have hKc := hK.sub (tys' := []) [] rfl
  have hFc := va_free (wc := [(s3, .inr (2, z2 .null 0 0 0 0 0 0))]) hD hS hA [34] rfl
  refine va_callv (va_runI (As := []) (rest := [.ref s3, .int 1, .ref hr0]) ⟨hx, hb, hml, hown, hts⟩ (c_X2_init l D s3 H.size) (cwI 0 hts gX3_init_X2_init rfl rfl rfl (hts _ ii2_X3_init) (hts _ ml2_X3_init) (hts _ im2_X3_init) rfl (by decide +kernel) ⟨Nat.le_of_ble_eq_true rfl, Nat.le_of_ble_eq_true rfl⟩) ⟨fun a U g mk q => by obtain ⟨e0, ⟨e1, eP, eK, eD⟩, e5⟩ := q; exact ⟨e0, ⟨e1, eP, va_K.moved (u := U) (U := U.calling g mk a) (Vm.Alike.refl U.vm) eK, eD⟩, PN2.moved rfl e5⟩, fun U hU hW => ⟨rfl, ⟨by rw [hU], by rw [hU]; exact hPc, va_K.moved hW.alike hKc, hDc.weaken (fun _ _ _ _ => trivial)⟩, PN2.warm hW hn2⟩⟩ rfl rfl hl.1 rfl (lv_room (Nat.le_of_ble_eq_true rfl)) dX3_init_65 ⟨Nat.le_of_ble_eq_true rfl, Nat.le_of_ble_eq_true rfl⟩) hS (fun q _ h => hFc q h) hFc (fun u3 t H1 locs ht hvm h5 hB hz1 hk1 hS => ?_)
  obtain ⟨hP1, hK1, hD1⟩ := hB
  rw [ht] at hP1
  have hK1 := va_K.moved hvm.symm hK1
  obtain ⟨hP, hD⟩ := va_join (wr := ((h0, .inr (3, z3 (.ref s0) (.ref s1) (.ref hr0) (.ref tx0))) :: (bS s0 u0 ++ bS s1 u1 ++ [(hr0, .inl (ha, 4, .inr (.inr (.inr (.inr (va_up (fun _ => none) 0 (some s2)))))))] ++ [(tx0, .inr (0, z0 (.ref ut.1))), (ut.1, .inl (ut.2, 60, .inl (fun _ => 0)))] ++ bS s2 u2))) (w1 := bS s3 u3) hP hD [34] (List.range 34) rfl rfl (by decide) (by decide) hk1 hFc hP1 hD1
  have hK := hK.app hK1
  have hP : va_P D vwCl ((h0, .inr (3, z3 (.ref s0) (.ref s1) (.ref hr0) (.ref tx0))) :: (bS s0 u0 ++ bS s1 u1 ++ [(hr0, .inl (ha, 4, .inr (.inr (.inr (.inr (va_up (fun _ => none) 0 (some s2)))))))] ++ [(tx0, .inr (0, z0 (.ref ut.1))), (ut.1, .inl (ut.2, 60, .inl (fun _ => 0)))] ++ bS s2 u2 ++ bS s3 u3)) H1 := hP
  have hD : va_D A ((h0, .inr (3, z3 (.ref s0) (.ref s1) (.ref hr0) (.ref tx0))) :: (bS s0 u0 ++ bS s1 u1 ++ [(hr0, .inl (ha, 4, .inr (.inr (.inr (.inr (va_up (fun _ => none) 0 (some s2)))))))] ++ [(tx0, .inr (0, z0 (.ref ut.1))), (ut.1, .inl (ut.2, 60, .inl (fun _ => 0)))] ++ bS s2 u2 ++ bS s3 u3)) := hD
  refine va_astq hx hb hK hP hD hS 21 2 34 2 rfl rfl rfl rfl (vp_in_nI (n := 1) (N := 4) (by decide) (by decide)) dX3_init_68 (fun H locs hP hD hS => ?_)
  have hP : va_P D vwCl ((h0, .inr (3, z3 (.ref s0) (.ref s1) (.ref hr0) (.ref tx0))) :: (bS s0 u0 ++ bS s1 u1 ++ [(hr0, .inl (ha, 4, .inr (.inr (.inr (.inr (va_up (va_up (fun _ => none) 0 (some s2)) 1 (some s3)))))))] ++ [(tx0, .inr (0, z0 (.ref ut.1))), (ut.1, .inl (ut.2, 60, .inl (fun _ => 0)))] ++ bS s2 u2 ++ bS s3 u3)) H := hP
  have hD : va_D A ((h0, .inr (3, z3 (.ref s0) (.ref s1) (.ref hr0) (.ref tx0))) :: (bS s0 u0 ++ bS s1 u1 ++ [(hr0, .inl (ha, 4, .inr (.inr (.inr (.inr (va_up (va_up (fun _ => none) 0 (some s2)) 1 (some s3)))))))] ++ [(tx0, .inr (0, z0 (.ref ut.1))), (ut.1, .inl (ut.2, 60, .inl (fun _ => 0)))] ++ bS s2 u2 ++ bS s3 u3)) := hD
  refine lv_iinc (v := 2) (lv' := [(1, .int 2), (0, .ref h0)]) hx hb dX3_init_69 hl (k := 0) rfl (by decide) (by decide) rfl (fun ls hl => ?_)
  refine lv_goto (tgt := 47) hx hb dX3_init_72 (by decide) ?_
  refine lv_iload_n hx hb dX3_init_47 rfl (lv_at hl 0 rfl) ?_
  refine lv_aload_n hx hb dX3_init_48 rfl (lv_at hl 1 rfl) ?_
  refine va_get hx hb hts in_X3_init_30 hown hK hP 0 rfl rfl 2 (by decide) (hts _ k_X3_init_19) (fun _ h9 => h9) rfl dX3_init_49 ?_
  refine va_alen (v := 4) hx hb hK hP 21 2 rfl rfl rfl dX3_init_52 ?_
  refine lv_icmp_ge (tgt := 75) hx hb dX3_init_53 (by decide) (fun cc2 => ?_) (fun cc2 => ?_)
  · exact absurd cc2 (by decide)
  refine lv_aload_n hx hb dX3_init_56 rfl (lv_at hl 1 rfl) ?_
  refine va_get hx hb hts in_X3_init_30 hown hK hP 0 rfl rfl 2 (by decide) (hts _ k_X3_init_19) (fun _ h9 => h9) rfl dX3_init_57 ?_
  refine lv_iload_n hx hb dX3_init_60 rfl (lv_at hl 0 rfl) ?_
  refine va_new (ci := 2) (fs := z2 .null 0 0 0 0 0 0) (C := RX2) (T := TX2) (N := 15) hx hb hts in_X3_init_20 tyX2 tyX2_ok hown (hts _ cl9_X3_init) (hts _ ia2_X3_init) (hts _ ii2_X3_init) hK hP hD hS hA rfl (fun j hj => by rcases (show j = 0 ∨ j = 1 ∨ j = 2 ∨ j = 3 ∨ j = 4 ∨ j = 5 ∨ j = 6 ∨ j = 7 ∨ j = 8 ∨ j = 9 ∨ j = 10 ∨ j = 11 ∨ j = 12 ∨ j = 13 ∨ j = 14 by omega) with rfl | rfl | rfl | rfl | rfl | rfl | rfl | rfl | rfl | rfl | rfl | rfl | rfl | rfl | rfl <;> rfl) (Nat.le_of_ble_eq_true rfl) (Nat.le_of_ble_eq_true rfl) dX3_init_61 (fun s4 H hP hD hS => ?_)
  have hP : va_P D vwCl ((h0, .inr (3, z3 (.ref s0) (.ref s1) (.ref hr0) (.ref tx0))) :: (bS s0 u0 ++ bS s1 u1 ++ [(hr0, .inl (ha, 4, .inr (.inr (.inr (.inr (va_up (va_up (fun _ => none) 0 (some s2)) 1 (some s3)))))))] ++ [(tx0, .inr (0, z0 (.ref ut.1))), (ut.1, .inl (ut.2, 60, .inl (fun _ => 0)))] ++ bS s2 u2 ++ bS s3 u3 ++ [(s4, .inr (2, z2 .null 0 0 0 0 0 0))])) H := hP
  have hD : va_D A ((h0, .inr (3, z3 (.ref s0) (.ref s1) (.ref hr0) (.ref tx0))) :: (bS s0 u0 ++ bS s1 u1 ++ [(hr0, .inl (ha, 4, .inr (.inr (.inr (.inr (va_up (va_up (fun _ => none) 0 (some s2)) 1 (some s3)))))))] ++ [(tx0, .inr (0, z0 (.ref ut.1))), (ut.1, .inl (ut.2, 60, .inl (fun _ => 0)))] ++ bS s2 u2 ++ bS s3 u3 ++ [(s4, .inr (2, z2 .null 0 0 0 0 0 0))])) := hD
  refine lv_dup hx hb dX3_init_64 rfl ?_
  have hPc := hP.sub (ws' := [(s4, .inr (2, z2 .null 0 0 0 0 0 0))]) [44] rfl
  have hDc := hD.sub (ws' := [(s4, .inr (2, z2 .null 0 0 0 0 0 0))]) [44] (by decide) rfl
  have hKc := hK.sub (tys' := []) [] rfl
  have hFc := va_free (wc := [(s4, .inr (2, z2 .null 0 0 0 0 0 0))]) hD hS hA [44] rfl
  refine va_callv (va_runI (As := []) (rest := [.ref s4, .int 2, .ref hr0]) ⟨hx, hb, hml, hown, hts⟩ (c_X2_init l D s4 H.size) (cwI 0 hts gX3_init_X2_init rfl rfl rfl (hts _ ii2_X3_init) (hts _ ml2_X3_init) (hts _ im2_X3_init) rfl (by decide +kernel) ⟨Nat.le_of_ble_eq_true rfl, Nat.le_of_ble_eq_true rfl⟩) ⟨fun a U g mk q => by obtain ⟨e0, ⟨e1, eP, eK, eD⟩, e5⟩ := q; exact ⟨e0, ⟨e1, eP, va_K.moved (u := U) (U := U.calling g mk a) (Vm.Alike.refl U.vm) eK, eD⟩, PN2.moved rfl e5⟩, fun U hU hW => ⟨rfl, ⟨by rw [hU], by rw [hU]; exact hPc, va_K.moved hW.alike hKc, hDc.weaken (fun _ _ _ _ => trivial)⟩, PN2.warm hW hn2⟩⟩ rfl rfl hl.1 rfl (lv_room (Nat.le_of_ble_eq_true rfl)) dX3_init_65 ⟨Nat.le_of_ble_eq_true rfl, Nat.le_of_ble_eq_true rfl⟩) hS (fun q _ h => hFc q h) hFc (fun u4 t H1 locs ht hvm h5 hB hz1 hk1 hS => ?_)
  obtain ⟨hP1, hK1, hD1⟩ := hB
  rw [ht] at hP1
  have hK1 := va_K.moved hvm.symm hK1
  obtain ⟨hP, hD⟩ := va_join (wr := ((h0, .inr (3, z3 (.ref s0) (.ref s1) (.ref hr0) (.ref tx0))) :: (bS s0 u0 ++ bS s1 u1 ++ [(hr0, .inl (ha, 4, .inr (.inr (.inr (.inr (va_up (va_up (fun _ => none) 0 (some s2)) 1 (some s3)))))))] ++ [(tx0, .inr (0, z0 (.ref ut.1))), (ut.1, .inl (ut.2, 60, .inl (fun _ => 0)))] ++ bS s2 u2 ++ bS s3 u3))) (w1 := bS s4 u4) hP hD [44] (List.range 44) rfl rfl (by decide) (by decide) hk1 hFc hP1 hD1
  have hK := hK.app hK1
  have hP : va_P D vwCl ((h0, .inr (3, z3 (.ref s0) (.ref s1) (.ref hr0) (.ref tx0))) :: (bS s0 u0 ++ bS s1 u1 ++ [(hr0, .inl (ha, 4, .inr (.inr (.inr (.inr (va_up (va_up (fun _ => none) 0 (some s2)) 1 (some s3)))))))] ++ [(tx0, .inr (0, z0 (.ref ut.1))), (ut.1, .inl (ut.2, 60, .inl (fun _ => 0)))] ++ bS s2 u2 ++ bS s3 u3 ++ bS s4 u4)) H1 := hP
  have hD : va_D A ((h0, .inr (3, z3 (.ref s0) (.ref s1) (.ref hr0) (.ref tx0))) :: (bS s0 u0 ++ bS s1 u1 ++ [(hr0, .inl (ha, 4, .inr (.inr (.inr (.inr (va_up (va_up (fun _ => none) 0 (some s2)) 1 (some s3)))))))] ++ [(tx0, .inr (0, z0 (.ref ut.1))), (ut.1, .inl (ut.2, 60, .inl (fun _ => 0)))] ++ bS s2 u2 ++ bS s3 u3 ++ bS s4 u4)) := hD
  refine va_astq hx hb hK hP hD hS 21 2 44 2 rfl rfl rfl rfl (vp_in_nI (n := 2) (N := 4) (by decide) (by decide)) dX3_init_68 (fun H locs hP hD hS => ?_)
  have hP : va_P D vwCl ((h0, .inr (3, z3 (.ref s0) (.ref s1) (.ref hr0) (.ref tx0))) :: (bS s0 u0 ++ bS s1 u1 ++ [(hr0, .inl (ha, 4, .inr (.inr (.inr (.inr (va_up (va_up (va_up (fun _ => none) 0 (some s2)) 1 (some s3)) 2 (some s4)))))))] ++ [(tx0, .inr (0, z0 (.ref ut.1))), (ut.1, .inl (ut.2, 60, .inl (fun _ => 0)))] ++ bS s2 u2 ++ bS s3 u3 ++ bS s4 u4)) H := hP
  have hD : va_D A ((h0, .inr (3, z3 (.ref s0) (.ref s1) (.ref hr0) (.ref tx0))) :: (bS s0 u0 ++ bS s1 u1 ++ [(hr0, .inl (ha, 4, .inr (.inr (.inr (.inr (va_up (va_up (va_up (fun _ => none) 0 (some s2)) 1 (some s3)) 2 (some s4)))))))] ++ [(tx0, .inr (0, z0 (.ref ut.1))), (ut.1, .inl (ut.2, 60, .inl (fun _ => 0)))] ++ bS s2 u2 ++ bS s3 u3 ++ bS s4 u4)) := hD
  refine lv_iinc (v := 3) (lv' := [(1, .int 3), (0, .ref h0)]) hx hb dX3_init_69 hl (k := 0) rfl (by decide) (by decide) rfl (fun ls hl => ?_)
  refine lv_goto (tgt := 47) hx hb dX3_init_72 (by decide) ?_
  refine lv_iload_n hx hb dX3_init_47 rfl (lv_at hl 0 rfl) ?_
  refine lv_aload_n hx hb dX3_init_48 rfl (lv_at hl 1 rfl) ?_
  refine va_get hx hb hts in_X3_init_30 hown hK hP 0 rfl rfl 2 (by decide) (hts _ k_X3_init_19) (fun _ h9 => h9) rfl dX3_init_49 ?_
  refine va_alen (v := 4) hx hb hK hP 21 2 rfl rfl rfl dX3_init_52 ?_
  refine lv_icmp_ge (tgt := 75) hx hb dX3_init_53 (by decide) (fun cc3 => ?_) (fun cc3 => ?_)
  · exact absurd cc3 (by decide)
  refine lv_aload_n hx hb dX3_init_56 rfl (lv_at hl 1 rfl) ?_
  refine va_get hx hb hts in_X3_init_30 hown hK hP 0 rfl rfl 2 (by decide) (hts _ k_X3_init_19) (fun _ h9 => h9) rfl dX3_init_57 ?_
  refine lv_iload_n hx hb dX3_init_60 rfl (lv_at hl 0 rfl) ?_
  refine va_new (ci := 2) (fs := z2 .null 0 0 0 0 0 0) (C := RX2) (T := TX2) (N := 15) hx hb hts in_X3_init_20 tyX2 tyX2_ok hown (hts _ cl9_X3_init) (hts _ ia2_X3_init) (hts _ ii2_X3_init) hK hP hD hS hA rfl (fun j hj => by rcases (show j = 0 ∨ j = 1 ∨ j = 2 ∨ j = 3 ∨ j = 4 ∨ j = 5 ∨ j = 6 ∨ j = 7 ∨ j = 8 ∨ j = 9 ∨ j = 10 ∨ j = 11 ∨ j = 12 ∨ j = 13 ∨ j = 14 by omega) with rfl | rfl | rfl | rfl | rfl | rfl | rfl | rfl | rfl | rfl | rfl | rfl | rfl | rfl | rfl <;> rfl) (Nat.le_of_ble_eq_true rfl) (Nat.le_of_ble_eq_true rfl) dX3_init_61 (fun s5 H hP hD hS => ?_)
  have hP : va_P D vwCl ((h0, .inr (3, z3 (.ref s0) (.ref s1) (.ref hr0) (.ref tx0))) :: (bS s0 u0 ++ bS s1 u1 ++ [(hr0, .inl (ha, 4, .inr (.inr (.inr (.inr (va_up (va_up (va_up (fun _ => none) 0 (some s2)) 1 (some s3)) 2 (some s4)))))))] ++ [(tx0, .inr (0, z0 (.ref ut.1))), (ut.1, .inl (ut.2, 60, .inl (fun _ => 0)))] ++ bS s2 u2 ++ bS s3 u3 ++ bS s4 u4 ++ [(s5, .inr (2, z2 .null 0 0 0 0 0 0))])) H := hP
  have hD : va_D A ((h0, .inr (3, z3 (.ref s0) (.ref s1) (.ref hr0) (.ref tx0))) :: (bS s0 u0 ++ bS s1 u1 ++ [(hr0, .inl (ha, 4, .inr (.inr (.inr (.inr (va_up (va_up (va_up (fun _ => none) 0 (some s2)) 1 (some s3)) 2 (some s4)))))))] ++ [(tx0, .inr (0, z0 (.ref ut.1))), (ut.1, .inl (ut.2, 60, .inl (fun _ => 0)))] ++ bS s2 u2 ++ bS s3 u3 ++ bS s4 u4 ++ [(s5, .inr (2, z2 .null 0 0 0 0 0 0))])) := hD
  refine lv_dup hx hb dX3_init_64 rfl ?_
  have hPc := hP.sub (ws' := [(s5, .inr (2, z2 .null 0 0 0 0 0 0))]) [54] rfl
  have hDc := hD.sub (ws' := [(s5, .inr (2, z2 .null 0 0 0 0 0 0))]) [54] (by decide) rfl
  have hKc := hK.sub (tys' := []) [] rfl
  have hFc := va_free (wc := [(s5, .inr (2, z2 .null 0 0 0 0 0 0))]) hD hS hA [54] rfl
  refine va_callv (va_runI (As := []) (rest := [.ref s5, .int 3, .ref hr0]) ⟨hx, hb, hml, hown, hts⟩ (c_X2_init l D s5 H.size) (cwI 0 hts gX3_init_X2_init rfl rfl rfl (hts _ ii2_X3_init) (hts _ ml2_X3_init) (hts _ im2_X3_init) rfl (by decide +kernel) ⟨Nat.le_of_ble_eq_true rfl, Nat.le_of_ble_eq_true rfl⟩) ⟨fun a U g mk q => by obtain ⟨e0, ⟨e1, eP, eK, eD⟩, e5⟩ := q; exact ⟨e0, ⟨e1, eP, va_K.moved (u := U) (U := U.calling g mk a) (Vm.Alike.refl U.vm) eK, eD⟩, PN2.moved rfl e5⟩, fun U hU hW => ⟨rfl, ⟨by rw [hU], by rw [hU]; exact hPc, va_K.moved hW.alike hKc, hDc.weaken (fun _ _ _ _ => trivial)⟩, PN2.warm hW hn2⟩⟩ rfl rfl hl.1 rfl (lv_room (Nat.le_of_ble_eq_true rfl)) dX3_init_65 ⟨Nat.le_of_ble_eq_true rfl, Nat.le_of_ble_eq_true rfl⟩) hS (fun q _ h => hFc q h) hFc (fun u5 t H1 locs ht hvm h5 hB hz1 hk1 hS => ?_)
  obtain ⟨hP1, hK1, hD1⟩ := hB
  rw [ht] at hP1
  have hK1 := va_K.moved hvm.symm hK1
  obtain ⟨hP, hD⟩ := va_join (wr := ((h0, .inr (3, z3 (.ref s0) (.ref s1) (.ref hr0) (.ref tx0))) :: (bS s0 u0 ++ bS s1 u1 ++ [(hr0, .inl (ha, 4, .inr (.inr (.inr (.inr (va_up (va_up (va_up (fun _ => none) 0 (some s2)) 1 (some s3)) 2 (some s4)))))))] ++ [(tx0, .inr (0, z0 (.ref ut.1))), (ut.1, .inl (ut.2, 60, .inl (fun _ => 0)))] ++ bS s2 u2 ++ bS s3 u3 ++ bS s4 u4))) (w1 := bS s5 u5) hP hD [54] (List.range 54) rfl rfl (by decide) (by decide) hk1 hFc hP1 hD1
  have hK := hK.app hK1
  have hP : va_P D vwCl ((h0, .inr (3, z3 (.ref s0) (.ref s1) (.ref hr0) (.ref tx0))) :: (bS s0 u0 ++ bS s1 u1 ++ [(hr0, .inl (ha, 4, .inr (.inr (.inr (.inr (va_up (va_up (va_up (fun _ => none) 0 (some s2)) 1 (some s3)) 2 (some s4)))))))] ++ [(tx0, .inr (0, z0 (.ref ut.1))), (ut.1, .inl (ut.2, 60, .inl (fun _ => 0)))] ++ bS s2 u2 ++ bS s3 u3 ++ bS s4 u4 ++ bS s5 u5)) H1 := hP
  have hD : va_D A ((h0, .inr (3, z3 (.ref s0) (.ref s1) (.ref hr0) (.ref tx0))) :: (bS s0 u0 ++ bS s1 u1 ++ [(hr0, .inl (ha, 4, .inr (.inr (.inr (.inr (va_up (va_up (va_up (fun _ => none) 0 (some s2)) 1 (some s3)) 2 (some s4)))))))] ++ [(tx0, .inr (0, z0 (.ref ut.1))), (ut.1, .inl (ut.2, 60, .inl (fun _ => 0)))] ++ bS s2 u2 ++ bS s3 u3 ++ bS s4 u4 ++ bS s5 u5)) := hD
  refine va_astq hx hb hK hP hD hS 21 2 54 2 rfl rfl rfl rfl (vp_in_nI (n := 3) (N := 4) (by decide) (by decide)) dX3_init_68 (fun H locs hP hD hS => ?_)
  have hP : va_P D vwCl ((h0, .inr (3, z3 (.ref s0) (.ref s1) (.ref hr0) (.ref tx0))) :: (bS s0 u0 ++ bS s1 u1 ++ [(hr0, .inl (ha, 4, .inr (.inr (.inr (.inr (va_up (va_up (va_up (va_up (fun _ => none) 0 (some s2)) 1 (some s3)) 2 (some s4)) 3 (some s5)))))))] ++ [(tx0, .inr (0, z0 (.ref ut.1))), (ut.1, .inl (ut.2, 60, .inl (fun _ => 0)))] ++ bS s2 u2 ++ bS s3 u3 ++ bS s4 u4 ++ bS s5 u5)) H := hP
  have hD : va_D A ((h0, .inr (3, z3 (.ref s0) (.ref s1) (.ref hr0) (.ref tx0))) :: (bS s0 u0 ++ bS s1 u1 ++ [(hr0, .inl (ha, 4, .inr (.inr (.inr (.inr (va_up (va_up (va_up (va_up (fun _ => none) 0 (some s2)) 1 (some s3)) 2 (some s4)) 3 (some s5)))))))] ++ [(tx0, .inr (0, z0 (.ref ut.1))), (ut.1, .inl (ut.2, 60, .inl (fun _ => 0)))] ++ bS s2 u2 ++ bS s3 u3 ++ bS s4 u4 ++ bS s5 u5)) := hD
  refine lv_iinc (v := 4) (lv' := [(1, .int 4), (0, .ref h0)]) hx hb dX3_init_69 hl (k := 0) rfl (by decide) (by decide) rfl (fun ls hl => ?_)
  refine lv_goto (tgt := 47) hx hb dX3_init_72 (by decide) ?_
  refine lv_iload_n hx hb dX3_init_47 rfl (lv_at hl 0 rfl) ?_
  refine lv_aload_n hx hb dX3_init_48 rfl (lv_at hl 1 rfl) ?_
  refine va_get hx hb hts in_X3_init_30 hown hK hP 0 rfl rfl 2 (by decide) (hts _ k_X3_init_19) (fun _ h9 => h9) rfl dX3_init_49 ?_
  refine va_alen (v := 4) hx hb hK hP 21 2 rfl rfl rfl dX3_init_52 ?_
  refine lv_icmp_ge (tgt := 75) hx hb dX3_init_53 (by decide) (fun cc4 => ?_) (fun cc4 => ?_)
  · refine W.vret hx hb hr (fun t ht hW => ⟨⟨((fun i => if i = 0 then s0 else if i = 1 then s1 else if i = 2 then s2 else if i = 3 then s3 else if i = 4 then s4 else s5), (fun i => if i = 0 then u0 else if i = 1 then u1 else if i = 2 then u2 else if i = 3 then u3 else if i = 4 then u4 else u5), hr0, ha, tx0, ut.1, ut.2), rfl, trivial, ⟨by rw [ht]; exact hP, va_K.moved hW.alike hK, hD⟩⟩, hS.F ht⟩) hS.2.2 dX3_init_75
  · exact absurd cc4 (by decide)

