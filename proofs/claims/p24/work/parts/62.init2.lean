/-! ===== the constructor of a State ===== -/
abbrev z2 (a : Value) (x2 x3 x4 x5 x8 x10 : Int32) : List Value := [a, .int 0, .int x2, .int x3, .int x4, .int x5, .int 0, .int 0, .int x8, .int 0, .int x10, .int 0, .int 0, .int 0, .int 0]
theorem in_X2_init_20 : ∀ w ∈ wsX20, w ∈ wsX2_init := by decide +kernel
theorem in_X2_init_10 : ∀ w ∈ wsX10, w ∈ wsX2_init := by decide +kernel
theorem k_X2_init_11 : Cond.fieldLink RX2 11 "BellowsRound$State" "smithies" "[LBellowsRound$Smithy;" ∈ wsX2_init := by decide +kernel
theorem k_X2_init_17 : Cond.fieldLink RX2 17 "BellowsRound$State" "cold" "I" ∈ wsX2_init := by decide +kernel
theorem k_X2_init_21 : Cond.fieldLink RX2 21 "BellowsRound$State" "hours" "I" ∈ wsX2_init := by decide +kernel
theorem k_X2_init_24 : Cond.fieldLink RX2 24 "BellowsRound$State" "rate" "I" ∈ wsX2_init := by decide +kernel
theorem k_X2_init_27 : Cond.fieldLink RX2 27 "BellowsRound$State" "patience" "I" ∈ wsX2_init := by decide +kernel
theorem k_X2_init_30 : Cond.fieldLink RX2 30 "BellowsRound$State" "hoursLeft" "I" ∈ wsX2_init := by decide +kernel
theorem k_X2_init_33 : Cond.fieldLink RX2 33 "BellowsRound$State" "money" "I" ∈ wsX2_init := by decide +kernel
theorem cl_X2_init : Cond.classLink RX2 9 RX1 ∈ wsX2_init := by decide +kernel
theorem ia_X2_init : Cond.instantiable RX1 8 ∈ wsX2_init := by decide +kernel
theorem ii_X2_init : Cond.initialized RX1 ∈ wsX2_init := by decide +kernel
theorem im_X2_init : Cond.instanceMethod yX1_init ∈ wsX2_init := by decide +kernel
def PN2 (U : State) : Prop := va_AO RX1 U ∧ va_Nw (.methodLinkNest RX2 36 yX1_init "BellowsRound") U
set_option maxHeartbeats 8000000 in
set_option maxRecDepth 100000 in
theorem c_X2_init (l : Launch) (D : va_G) (h0 : Nat) (sz : Nat) : Met l yX2_init wsX2_init ({ frames := 2, cells := 9, slots := 72, locals := 32 }) (va_Pc [.ref h0] (fun U => PI D [(h0, .inr (2, z2 .null 0 0 0 0 0 0))] sz U ∧ PN2 U)) (va_Qv (fun _ : Nat × ClassId × Nat × Nat × Nat × Nat × Nat × Nat × Nat × Nat => True) (PO D (va_A [(h0, .inr (2, z2 .null 0 0 0 0 0 0))] sz) (fun u => [(h0, .inr (2, z2 (.ref u.1) 30 10 4 60 10 100)), (u.1, .inl (u.2.1, 8, .inr (.inr (.inr (.inr (va_up (va_up (va_up (va_up (va_up (va_up (va_up (va_up (fun _ => none) 0 (some u.2.2.1)) 1 (some u.2.2.2.1)) 2 (some u.2.2.2.2.1)) 3 (some u.2.2.2.2.2.1)) 4 (some u.2.2.2.2.2.2.1)) 5 (some u.2.2.2.2.2.2.2.1)) 6 (some u.2.2.2.2.2.2.2.2.1)) 7 (some u.2.2.2.2.2.2.2.2.2))))))), (u.2.2.1, .inr (1, z8)), (u.2.2.2.1, .inr (1, z8)), (u.2.2.2.2.1, .inr (1, z8)), (u.2.2.2.2.2.1, .inr (1, z8)), (u.2.2.2.2.2.2.1, .inr (1, z8)), (u.2.2.2.2.2.2.2.1, .inr (1, z8)), (u.2.2.2.2.2.2.2.2.1, .inr (1, z8)), (u.2.2.2.2.2.2.2.2.2, .inr (1, z8))]) (fun u => [(u.2.1, .object RX1)])) (va_A [(h0, .inr (2, z2 .null 0 0 0 0 0 0))] sz)) 9 72 (va_A [(h0, .inr (2, z2 .null 0 0 0 0 0 0))] sz) := by
  refine Met.ofW (cc := cX2_init) (maxL := 2) (ret := none) (by decide +kernel) rfl ?_
  intro p e s m args below meth c s₁ B hml hv
  obtain ⟨rfl, ⟨hsz, hP, hK, hD0⟩, hao, hnest⟩ := hv
  have hx := B.exec
  have hb := B.bytes
  have hr := B.returns
  have hts := atoms_spec (ws := wsX2_init) B.pre
  have hown : s.vm.findClass RX2 = some m.cls := findClass_of_methodNamed B.named
  have hin : meth.name = "<init>" := (name_of_methodNamed B.named B.method).1
  subst hsz
  have hD := hD0.self (sz := s.heap.size)
  generalize hAe : va_A [(h0, .inr (2, z2 .null 0 0 0 0 0 0))] s.heap.size = A at hD ⊢
  have hA : ∀ q : Nat, s.heap.size ≤ q → A q := fun q h => by rw [← hAe]; exact Or.inr h
  have hS : va_S A s.heap s.heap [] := va_S.rf
  have hl := lv_entry ([.ref h0]) (n := 2) (Nat.le_of_ble_eq_true rfl)
  rw [lg_entry_eq]
  generalize (lg_sl ([.ref h0]) ++ List.replicate (2 - (lg_sl ([.ref h0])).length) Slot.unset).toArray = ls at hl ⊢
  have hl : lv_has ls 2 [(0, .ref h0)] := hl
  refine lv_aload_n hx hb dX2_init_0 rfl (lv_at hl 0 rfl) ?_
  refine W.objInit hx hb hown (hts (.methodLink RX2 3 objectInit) (by decide +kernel)) (hts (.instanceMethod objectInit) (by decide +kernel)) (hts _ (List.mem_cons_of_mem _ (List.mem_append_left _ (List.mem_append_left _ (List.mem_of_getElem? (i := 2) rfl))))) rfl (by rw [hml]; exact hl.1) rfl dX2_init_1 (Nat.le_of_ble_eq_true rfl) (Nat.le_of_ble_eq_true rfl) ?_
  refine W.eq (g2 := F0 m 4 ls []) rfl ?_
  refine lv_aload_n hx hb dX2_init_4 rfl (lv_at hl 0 rfl) ?_
  refine lv_bipush (v := 8) hx hb dX2_init_5 (by decide) ?_
  refine va_newq (C := RX1) hx hb hown (hts _ cl_X2_init) hao hK hP hD hS hA (by decide) (show (8 : Int32).toNatClampNeg = 8 by decide) (by decide) (Nat.le_of_ble_eq_true rfl) (Nat.le_of_ble_eq_true rfl) dX2_init_7 (fun r ca H hK hP hD hS => ?_)
  refine va_putF (ci := 2) (v := .ref r) (ty := .array (.object RX1)) (C := RX2) (T := TX2) (N := 15) hx hb hts in_X2_init_20 tyX2 tyX2_ok nmX2 hown hK hP hD hS 0 rfl rfl 0 (by decide) (hts _ k_X2_init_11) (fun _ h9 => h9) rfl hin rfl (by decide +kernel) rfl rfl (Nat.le_of_ble_eq_true rfl) dX2_init_10 (fun H locs hP hD hS => ?_)
  refine lv_aload_n hx hb dX2_init_13 rfl (lv_at hl 0 rfl) ?_
  refine lv_bipush (v := 30) hx hb dX2_init_14 (by decide) ?_
  refine va_put (ci := 2) (v := .int 30) (ty := .int) (C := RX2) (T := TX2) (N := 15) hx hb hts in_X2_init_20 tyX2 tyX2_ok nmX2 hown hK hP hD hS 0 rfl rfl 2 (by decide) (hts _ k_X2_init_17) (fun _ h9 => h9) rfl (by decide +kernel) rfl rfl (Nat.le_of_ble_eq_true rfl) dX2_init_16 (fun H locs hP hD hS => ?_)
  refine lv_aload_n hx hb dX2_init_19 rfl (lv_at hl 0 rfl) ?_
  refine lv_bipush (v := 10) hx hb dX2_init_20 (by decide) ?_
  refine va_put (ci := 2) (v := .int 10) (ty := .int) (C := RX2) (T := TX2) (N := 15) hx hb hts in_X2_init_20 tyX2 tyX2_ok nmX2 hown hK hP hD hS 0 rfl rfl 3 (by decide) (hts _ k_X2_init_21) (fun _ h9 => h9) rfl (by decide +kernel) rfl rfl (Nat.le_of_ble_eq_true rfl) dX2_init_22 (fun H locs hP hD hS => ?_)
  refine lv_aload_n hx hb dX2_init_25 rfl (lv_at hl 0 rfl) ?_
  refine lv_iconst (v := 4) hx hb dX2_init_26 (by decide) ?_
  refine va_put (ci := 2) (v := .int 4) (ty := .int) (C := RX2) (T := TX2) (N := 15) hx hb hts in_X2_init_20 tyX2 tyX2_ok nmX2 hown hK hP hD hS 0 rfl rfl 4 (by decide) (hts _ k_X2_init_24) (fun _ h9 => h9) rfl (by decide +kernel) rfl rfl (Nat.le_of_ble_eq_true rfl) dX2_init_27 (fun H locs hP hD hS => ?_)
  refine lv_aload_n hx hb dX2_init_30 rfl (lv_at hl 0 rfl) ?_
  refine lv_bipush (v := 60) hx hb dX2_init_31 (by decide) ?_
  refine va_put (ci := 2) (v := .int 60) (ty := .int) (C := RX2) (T := TX2) (N := 15) hx hb hts in_X2_init_20 tyX2 tyX2_ok nmX2 hown hK hP hD hS 0 rfl rfl 5 (by decide) (hts _ k_X2_init_27) (fun _ h9 => h9) rfl (by decide +kernel) rfl rfl (Nat.le_of_ble_eq_true rfl) dX2_init_33 (fun H locs hP hD hS => ?_)
  refine lv_aload_n hx hb dX2_init_36 rfl (lv_at hl 0 rfl) ?_
  refine lv_aload_n hx hb dX2_init_37 rfl (lv_at hl 0 rfl) ?_
  refine va_get hx hb hts in_X2_init_20 hown hK hP 0 rfl rfl 3 (by decide) (hts _ k_X2_init_21) (fun _ h9 => h9) rfl dX2_init_38 ?_
  refine va_put (ci := 2) (v := .int 10) (ty := .int) (C := RX2) (T := TX2) (N := 15) hx hb hts in_X2_init_20 tyX2 tyX2_ok nmX2 hown hK hP hD hS 0 rfl rfl 8 (by decide) (hts _ k_X2_init_30) (fun _ h9 => h9) rfl (by decide +kernel) rfl rfl (Nat.le_of_ble_eq_true rfl) dX2_init_41 (fun H locs hP hD hS => ?_)
  refine lv_aload_n hx hb dX2_init_44 rfl (lv_at hl 0 rfl) ?_
  refine lv_bipush (v := 100) hx hb dX2_init_45 (by decide) ?_
  refine va_put (ci := 2) (v := .int 100) (ty := .int) (C := RX2) (T := TX2) (N := 15) hx hb hts in_X2_init_20 tyX2 tyX2_ok nmX2 hown hK hP hD hS 0 rfl rfl 10 (by decide) (hts _ k_X2_init_33) (fun _ h9 => h9) rfl (by decide +kernel) rfl rfl (Nat.le_of_ble_eq_true rfl) dX2_init_47 (fun H locs hP hD hS => ?_)
  have hP : va_P D vwCl [(h0, .inr (2, z2 (.ref r) 30 10 4 60 10 100)), (r, .inl (ca, 8, .inr (.inr (.inr (.inr (fun _ => none))))))] H := hP
  have hD : va_D A [(h0, .inr (2, z2 (.ref r) 30 10 4 60 10 100)), (r, .inl (ca, 8, .inr (.inr (.inr (.inr (fun _ => none))))))] := hD
  refine lv_iconst (v := 0) hx hb dX2_init_50 (by decide) ?_
  refine lv_istore_n (lv' := [(1, .int 0), (0, .ref h0)]) hx hb dX2_init_51 rfl hl (by decide) rfl (fun ls hl => ?_)
  refine lv_iload_n hx hb dX2_init_52 rfl (lv_at hl 0 rfl) ?_
  refine lv_aload_n hx hb dX2_init_53 rfl (lv_at hl 1 rfl) ?_
  refine va_get hx hb hts in_X2_init_20 hown hK hP 0 rfl rfl 0 (by decide) (hts _ k_X2_init_11) (fun _ h9 => h9) rfl dX2_init_54 ?_
  refine va_alen (v := 8) hx hb hK hP 1 0 rfl rfl rfl dX2_init_57 ?_
  refine lv_icmp_ge (tgt := 80) hx hb dX2_init_58 (by decide) (fun cc0 => ?_) (fun cc0 => ?_)
  · exact absurd cc0 (by decide)
  refine lv_aload_n hx hb dX2_init_61 rfl (lv_at hl 1 rfl) ?_
  refine va_get hx hb hts in_X2_init_20 hown hK hP 0 rfl rfl 0 (by decide) (hts _ k_X2_init_11) (fun _ h9 => h9) rfl dX2_init_62 ?_
  refine lv_iload_n hx hb dX2_init_65 rfl (lv_at hl 0 rfl) ?_
  refine va_new (ci := 1) (fs := z8) (C := RX1) (T := TX1) (N := 8) hx hb hts in_X2_init_10 tyX1 tyX1_ok hown (hts _ cl_X2_init) (hts _ ia_X2_init) (hts _ ii_X2_init) hK hP hD hS hA rfl (fun j hj => by rcases (show j = 0 ∨ j = 1 ∨ j = 2 ∨ j = 3 ∨ j = 4 ∨ j = 5 ∨ j = 6 ∨ j = 7 by omega) with rfl | rfl | rfl | rfl | rfl | rfl | rfl | rfl <;> rfl) (Nat.le_of_ble_eq_true rfl) (Nat.le_of_ble_eq_true rfl) dX2_init_66 (fun q0 H hP hD hS => ?_)
  have hP : va_P D vwCl [(h0, .inr (2, z2 (.ref r) 30 10 4 60 10 100)), (r, .inl (ca, 8, .inr (.inr (.inr (.inr (fun _ => none)))))), (q0, .inr (1, z8))] H := hP
  have hD : va_D A [(h0, .inr (2, z2 (.ref r) 30 10 4 60 10 100)), (r, .inl (ca, 8, .inr (.inr (.inr (.inr (fun _ => none)))))), (q0, .inr (1, z8))] := hD
  refine lv_dup hx hb dX2_init_69 rfl ?_
  have hPc := hP.sub (ws' := [(q0, .inr (1, z8))]) [2] rfl
  have hDc := hD.sub (ws' := [(q0, .inr (1, z8))]) [2] (by decide) rfl
  have hKc := hK.sub (tys' := []) [] rfl
  have hFc := va_free (wc := [(q0, .inr (1, z8))]) hD hS hA [2] rfl
  refine va_callv (va_runIN (As := []) (rest := [.ref q0, .int 0, .ref r]) ⟨hx, hb, hml, hown, hts⟩ (c_X1_init l D q0 H.size) ⟨va_cnB 0 hts gX2_init_X1_init_n36 rfl rfl rfl hnest (hts _ ii_X2_init) ⟨by decide +kernel, by decide +kernel, by decide +kernel⟩ ⟨Nat.le_of_ble_eq_true rfl, Nat.le_of_ble_eq_true rfl⟩, rfl, hts _ im_X2_init⟩ ⟨fun a U g mk q => by obtain ⟨e0, e1, eP, eK, eD⟩ := q; exact ⟨e0, e1, eP, va_K.moved (u := U) (U := U.calling g mk a) (Vm.Alike.refl U.vm) eK, eD⟩, fun U hU hW => ⟨rfl, by rw [hU], by rw [hU]; exact hPc, va_K.moved hW.alike hKc, hDc.weaken (fun _ _ _ _ => trivial)⟩⟩ rfl rfl hl.1 rfl (lv_room (Nat.le_of_ble_eq_true rfl)) dX2_init_70 ⟨Nat.le_of_ble_eq_true rfl, Nat.le_of_ble_eq_true rfl⟩) hS (fun q _ h => hFc q h) hFc (fun u t H1 locs ht hvm h5 hB hz1 hk1 hS => ?_)
  obtain ⟨hP1, hK1, hD1⟩ := hB
  rw [ht] at hP1
  obtain ⟨hP, hD⟩ := va_join (wr := [(h0, .inr (2, z2 (.ref r) 30 10 4 60 10 100)), (r, .inl (ca, 8, .inr (.inr (.inr (.inr (fun _ => none))))))]) (w1 := [(q0, .inr (1, z8))]) hP hD [2] [0, 1] rfl rfl (by decide) (by decide) hk1 hFc hP1 hD1
  have hP : va_P D vwCl [(h0, .inr (2, z2 (.ref r) 30 10 4 60 10 100)), (r, .inl (ca, 8, .inr (.inr (.inr (.inr (fun _ => none)))))), (q0, .inr (1, z8))] H1 := hP
  have hD : va_D A [(h0, .inr (2, z2 (.ref r) 30 10 4 60 10 100)), (r, .inl (ca, 8, .inr (.inr (.inr (.inr (fun _ => none)))))), (q0, .inr (1, z8))] := hD
  refine va_astq hx hb hK hP hD hS 1 0 2 1 rfl rfl rfl rfl (vp_in_nI (n := 0) (N := 8) (by decide) (by decide)) dX2_init_73 (fun H locs hP hD hS => ?_)
  have hP : va_P D vwCl [(h0, .inr (2, z2 (.ref r) 30 10 4 60 10 100)), (r, .inl (ca, 8, .inr (.inr (.inr (.inr (va_up (fun _ => none) 0 (some q0))))))), (q0, .inr (1, z8))] H := hP
  have hD : va_D A [(h0, .inr (2, z2 (.ref r) 30 10 4 60 10 100)), (r, .inl (ca, 8, .inr (.inr (.inr (.inr (va_up (fun _ => none) 0 (some q0))))))), (q0, .inr (1, z8))] := hD
  refine lv_iinc (v := 1) (lv' := [(1, .int 1), (0, .ref h0)]) hx hb dX2_init_74 hl (k := 0) rfl (by decide) (by decide) rfl (fun ls hl => ?_)
  refine lv_goto (tgt := 52) hx hb dX2_init_77 (by decide) ?_
  refine lv_iload_n hx hb dX2_init_52 rfl (lv_at hl 0 rfl) ?_
  refine lv_aload_n hx hb dX2_init_53 rfl (lv_at hl 1 rfl) ?_
  refine va_get hx hb hts in_X2_init_20 hown hK hP 0 rfl rfl 0 (by decide) (hts _ k_X2_init_11) (fun _ h9 => h9) rfl dX2_init_54 ?_
  refine va_alen (v := 8) hx hb hK hP 1 0 rfl rfl rfl dX2_init_57 ?_
  refine lv_icmp_ge (tgt := 80) hx hb dX2_init_58 (by decide) (fun cc1 => ?_) (fun cc1 => ?_)
  · exact absurd cc1 (by decide)
  refine lv_aload_n hx hb dX2_init_61 rfl (lv_at hl 1 rfl) ?_
  refine va_get hx hb hts in_X2_init_20 hown hK hP 0 rfl rfl 0 (by decide) (hts _ k_X2_init_11) (fun _ h9 => h9) rfl dX2_init_62 ?_
  refine lv_iload_n hx hb dX2_init_65 rfl (lv_at hl 0 rfl) ?_
  refine va_new (ci := 1) (fs := z8) (C := RX1) (T := TX1) (N := 8) hx hb hts in_X2_init_10 tyX1 tyX1_ok hown (hts _ cl_X2_init) (hts _ ia_X2_init) (hts _ ii_X2_init) hK hP hD hS hA rfl (fun j hj => by rcases (show j = 0 ∨ j = 1 ∨ j = 2 ∨ j = 3 ∨ j = 4 ∨ j = 5 ∨ j = 6 ∨ j = 7 by omega) with rfl | rfl | rfl | rfl | rfl | rfl | rfl | rfl <;> rfl) (Nat.le_of_ble_eq_true rfl) (Nat.le_of_ble_eq_true rfl) dX2_init_66 (fun q1 H hP hD hS => ?_)
  have hP : va_P D vwCl [(h0, .inr (2, z2 (.ref r) 30 10 4 60 10 100)), (r, .inl (ca, 8, .inr (.inr (.inr (.inr (va_up (fun _ => none) 0 (some q0))))))), (q0, .inr (1, z8)), (q1, .inr (1, z8))] H := hP
  have hD : va_D A [(h0, .inr (2, z2 (.ref r) 30 10 4 60 10 100)), (r, .inl (ca, 8, .inr (.inr (.inr (.inr (va_up (fun _ => none) 0 (some q0))))))), (q0, .inr (1, z8)), (q1, .inr (1, z8))] := hD
  refine lv_dup hx hb dX2_init_69 rfl ?_
  have hPc := hP.sub (ws' := [(q1, .inr (1, z8))]) [3] rfl
  have hDc := hD.sub (ws' := [(q1, .inr (1, z8))]) [3] (by decide) rfl
  have hKc := hK.sub (tys' := []) [] rfl
  have hFc := va_free (wc := [(q1, .inr (1, z8))]) hD hS hA [3] rfl
  refine va_callv (va_runIN (As := []) (rest := [.ref q1, .int 1, .ref r]) ⟨hx, hb, hml, hown, hts⟩ (c_X1_init l D q1 H.size) ⟨va_cnB 0 hts gX2_init_X1_init_n36 rfl rfl rfl hnest (hts _ ii_X2_init) ⟨by decide +kernel, by decide +kernel, by decide +kernel⟩ ⟨Nat.le_of_ble_eq_true rfl, Nat.le_of_ble_eq_true rfl⟩, rfl, hts _ im_X2_init⟩ ⟨fun a U g mk q => by obtain ⟨e0, e1, eP, eK, eD⟩ := q; exact ⟨e0, e1, eP, va_K.moved (u := U) (U := U.calling g mk a) (Vm.Alike.refl U.vm) eK, eD⟩, fun U hU hW => ⟨rfl, by rw [hU], by rw [hU]; exact hPc, va_K.moved hW.alike hKc, hDc.weaken (fun _ _ _ _ => trivial)⟩⟩ rfl rfl hl.1 rfl (lv_room (Nat.le_of_ble_eq_true rfl)) dX2_init_70 ⟨Nat.le_of_ble_eq_true rfl, Nat.le_of_ble_eq_true rfl⟩) hS (fun q _ h => hFc q h) hFc (fun u t H1 locs ht hvm h5 hB hz1 hk1 hS => ?_)
  obtain ⟨hP1, hK1, hD1⟩ := hB
  rw [ht] at hP1
  obtain ⟨hP, hD⟩ := va_join (wr := [(h0, .inr (2, z2 (.ref r) 30 10 4 60 10 100)), (r, .inl (ca, 8, .inr (.inr (.inr (.inr (va_up (fun _ => none) 0 (some q0))))))), (q0, .inr (1, z8))]) (w1 := [(q1, .inr (1, z8))]) hP hD [3] [0, 1, 2] rfl rfl (by decide) (by decide) hk1 hFc hP1 hD1
  have hP : va_P D vwCl [(h0, .inr (2, z2 (.ref r) 30 10 4 60 10 100)), (r, .inl (ca, 8, .inr (.inr (.inr (.inr (va_up (fun _ => none) 0 (some q0))))))), (q0, .inr (1, z8)), (q1, .inr (1, z8))] H1 := hP
  have hD : va_D A [(h0, .inr (2, z2 (.ref r) 30 10 4 60 10 100)), (r, .inl (ca, 8, .inr (.inr (.inr (.inr (va_up (fun _ => none) 0 (some q0))))))), (q0, .inr (1, z8)), (q1, .inr (1, z8))] := hD
  refine va_astq hx hb hK hP hD hS 1 0 3 1 rfl rfl rfl rfl (vp_in_nI (n := 1) (N := 8) (by decide) (by decide)) dX2_init_73 (fun H locs hP hD hS => ?_)
  have hP : va_P D vwCl [(h0, .inr (2, z2 (.ref r) 30 10 4 60 10 100)), (r, .inl (ca, 8, .inr (.inr (.inr (.inr (va_up (va_up (fun _ => none) 0 (some q0)) 1 (some q1))))))), (q0, .inr (1, z8)), (q1, .inr (1, z8))] H := hP
  have hD : va_D A [(h0, .inr (2, z2 (.ref r) 30 10 4 60 10 100)), (r, .inl (ca, 8, .inr (.inr (.inr (.inr (va_up (va_up (fun _ => none) 0 (some q0)) 1 (some q1))))))), (q0, .inr (1, z8)), (q1, .inr (1, z8))] := hD
  refine lv_iinc (v := 2) (lv' := [(1, .int 2), (0, .ref h0)]) hx hb dX2_init_74 hl (k := 0) rfl (by decide) (by decide) rfl (fun ls hl => ?_)
  refine lv_goto (tgt := 52) hx hb dX2_init_77 (by decide) ?_
  refine lv_iload_n hx hb dX2_init_52 rfl (lv_at hl 0 rfl) ?_
  refine lv_aload_n hx hb dX2_init_53 rfl (lv_at hl 1 rfl) ?_
  refine va_get hx hb hts in_X2_init_20 hown hK hP 0 rfl rfl 0 (by decide) (hts _ k_X2_init_11) (fun _ h9 => h9) rfl dX2_init_54 ?_
  refine va_alen (v := 8) hx hb hK hP 1 0 rfl rfl rfl dX2_init_57 ?_
  refine lv_icmp_ge (tgt := 80) hx hb dX2_init_58 (by decide) (fun cc2 => ?_) (fun cc2 => ?_)
  · exact absurd cc2 (by decide)
  refine lv_aload_n hx hb dX2_init_61 rfl (lv_at hl 1 rfl) ?_
  refine va_get hx hb hts in_X2_init_20 hown hK hP 0 rfl rfl 0 (by decide) (hts _ k_X2_init_11) (fun _ h9 => h9) rfl dX2_init_62 ?_
  refine lv_iload_n hx hb dX2_init_65 rfl (lv_at hl 0 rfl) ?_
  refine va_new (ci := 1) (fs := z8) (C := RX1) (T := TX1) (N := 8) hx hb hts in_X2_init_10 tyX1 tyX1_ok hown (hts _ cl_X2_init) (hts _ ia_X2_init) (hts _ ii_X2_init) hK hP hD hS hA rfl (fun j hj => by rcases (show j = 0 ∨ j = 1 ∨ j = 2 ∨ j = 3 ∨ j = 4 ∨ j = 5 ∨ j = 6 ∨ j = 7 by omega) with rfl | rfl | rfl | rfl | rfl | rfl | rfl | rfl <;> rfl) (Nat.le_of_ble_eq_true rfl) (Nat.le_of_ble_eq_true rfl) dX2_init_66 (fun q2 H hP hD hS => ?_)
  have hP : va_P D vwCl [(h0, .inr (2, z2 (.ref r) 30 10 4 60 10 100)), (r, .inl (ca, 8, .inr (.inr (.inr (.inr (va_up (va_up (fun _ => none) 0 (some q0)) 1 (some q1))))))), (q0, .inr (1, z8)), (q1, .inr (1, z8)), (q2, .inr (1, z8))] H := hP
  have hD : va_D A [(h0, .inr (2, z2 (.ref r) 30 10 4 60 10 100)), (r, .inl (ca, 8, .inr (.inr (.inr (.inr (va_up (va_up (fun _ => none) 0 (some q0)) 1 (some q1))))))), (q0, .inr (1, z8)), (q1, .inr (1, z8)), (q2, .inr (1, z8))] := hD
  refine lv_dup hx hb dX2_init_69 rfl ?_
  have hPc := hP.sub (ws' := [(q2, .inr (1, z8))]) [4] rfl
  have hDc := hD.sub (ws' := [(q2, .inr (1, z8))]) [4] (by decide) rfl
  have hKc := hK.sub (tys' := []) [] rfl
  have hFc := va_free (wc := [(q2, .inr (1, z8))]) hD hS hA [4] rfl
  refine va_callv (va_runIN (As := []) (rest := [.ref q2, .int 2, .ref r]) ⟨hx, hb, hml, hown, hts⟩ (c_X1_init l D q2 H.size) ⟨va_cnB 0 hts gX2_init_X1_init_n36 rfl rfl rfl hnest (hts _ ii_X2_init) ⟨by decide +kernel, by decide +kernel, by decide +kernel⟩ ⟨Nat.le_of_ble_eq_true rfl, Nat.le_of_ble_eq_true rfl⟩, rfl, hts _ im_X2_init⟩ ⟨fun a U g mk q => by obtain ⟨e0, e1, eP, eK, eD⟩ := q; exact ⟨e0, e1, eP, va_K.moved (u := U) (U := U.calling g mk a) (Vm.Alike.refl U.vm) eK, eD⟩, fun U hU hW => ⟨rfl, by rw [hU], by rw [hU]; exact hPc, va_K.moved hW.alike hKc, hDc.weaken (fun _ _ _ _ => trivial)⟩⟩ rfl rfl hl.1 rfl (lv_room (Nat.le_of_ble_eq_true rfl)) dX2_init_70 ⟨Nat.le_of_ble_eq_true rfl, Nat.le_of_ble_eq_true rfl⟩) hS (fun q _ h => hFc q h) hFc (fun u t H1 locs ht hvm h5 hB hz1 hk1 hS => ?_)
  obtain ⟨hP1, hK1, hD1⟩ := hB
  rw [ht] at hP1
  obtain ⟨hP, hD⟩ := va_join (wr := [(h0, .inr (2, z2 (.ref r) 30 10 4 60 10 100)), (r, .inl (ca, 8, .inr (.inr (.inr (.inr (va_up (va_up (fun _ => none) 0 (some q0)) 1 (some q1))))))), (q0, .inr (1, z8)), (q1, .inr (1, z8))]) (w1 := [(q2, .inr (1, z8))]) hP hD [4] [0, 1, 2, 3] rfl rfl (by decide) (by decide) hk1 hFc hP1 hD1
  have hP : va_P D vwCl [(h0, .inr (2, z2 (.ref r) 30 10 4 60 10 100)), (r, .inl (ca, 8, .inr (.inr (.inr (.inr (va_up (va_up (fun _ => none) 0 (some q0)) 1 (some q1))))))), (q0, .inr (1, z8)), (q1, .inr (1, z8)), (q2, .inr (1, z8))] H1 := hP
  have hD : va_D A [(h0, .inr (2, z2 (.ref r) 30 10 4 60 10 100)), (r, .inl (ca, 8, .inr (.inr (.inr (.inr (va_up (va_up (fun _ => none) 0 (some q0)) 1 (some q1))))))), (q0, .inr (1, z8)), (q1, .inr (1, z8)), (q2, .inr (1, z8))] := hD
  refine va_astq hx hb hK hP hD hS 1 0 4 1 rfl rfl rfl rfl (vp_in_nI (n := 2) (N := 8) (by decide) (by decide)) dX2_init_73 (fun H locs hP hD hS => ?_)
  have hP : va_P D vwCl [(h0, .inr (2, z2 (.ref r) 30 10 4 60 10 100)), (r, .inl (ca, 8, .inr (.inr (.inr (.inr (va_up (va_up (va_up (fun _ => none) 0 (some q0)) 1 (some q1)) 2 (some q2))))))), (q0, .inr (1, z8)), (q1, .inr (1, z8)), (q2, .inr (1, z8))] H := hP
  have hD : va_D A [(h0, .inr (2, z2 (.ref r) 30 10 4 60 10 100)), (r, .inl (ca, 8, .inr (.inr (.inr (.inr (va_up (va_up (va_up (fun _ => none) 0 (some q0)) 1 (some q1)) 2 (some q2))))))), (q0, .inr (1, z8)), (q1, .inr (1, z8)), (q2, .inr (1, z8))] := hD
  refine lv_iinc (v := 3) (lv' := [(1, .int 3), (0, .ref h0)]) hx hb dX2_init_74 hl (k := 0) rfl (by decide) (by decide) rfl (fun ls hl => ?_)
  refine lv_goto (tgt := 52) hx hb dX2_init_77 (by decide) ?_
  refine lv_iload_n hx hb dX2_init_52 rfl (lv_at hl 0 rfl) ?_
  refine lv_aload_n hx hb dX2_init_53 rfl (lv_at hl 1 rfl) ?_
  refine va_get hx hb hts in_X2_init_20 hown hK hP 0 rfl rfl 0 (by decide) (hts _ k_X2_init_11) (fun _ h9 => h9) rfl dX2_init_54 ?_
  refine va_alen (v := 8) hx hb hK hP 1 0 rfl rfl rfl dX2_init_57 ?_
  refine lv_icmp_ge (tgt := 80) hx hb dX2_init_58 (by decide) (fun cc3 => ?_) (fun cc3 => ?_)
  · exact absurd cc3 (by decide)
  refine lv_aload_n hx hb dX2_init_61 rfl (lv_at hl 1 rfl) ?_
  refine va_get hx hb hts in_X2_init_20 hown hK hP 0 rfl rfl 0 (by decide) (hts _ k_X2_init_11) (fun _ h9 => h9) rfl dX2_init_62 ?_
  refine lv_iload_n hx hb dX2_init_65 rfl (lv_at hl 0 rfl) ?_
  refine va_new (ci := 1) (fs := z8) (C := RX1) (T := TX1) (N := 8) hx hb hts in_X2_init_10 tyX1 tyX1_ok hown (hts _ cl_X2_init) (hts _ ia_X2_init) (hts _ ii_X2_init) hK hP hD hS hA rfl (fun j hj => by rcases (show j = 0 ∨ j = 1 ∨ j = 2 ∨ j = 3 ∨ j = 4 ∨ j = 5 ∨ j = 6 ∨ j = 7 by omega) with rfl | rfl | rfl | rfl | rfl | rfl | rfl | rfl <;> rfl) (Nat.le_of_ble_eq_true rfl) (Nat.le_of_ble_eq_true rfl) dX2_init_66 (fun q3 H hP hD hS => ?_)
  have hP : va_P D vwCl [(h0, .inr (2, z2 (.ref r) 30 10 4 60 10 100)), (r, .inl (ca, 8, .inr (.inr (.inr (.inr (va_up (va_up (va_up (fun _ => none) 0 (some q0)) 1 (some q1)) 2 (some q2))))))), (q0, .inr (1, z8)), (q1, .inr (1, z8)), (q2, .inr (1, z8)), (q3, .inr (1, z8))] H := hP
  have hD : va_D A [(h0, .inr (2, z2 (.ref r) 30 10 4 60 10 100)), (r, .inl (ca, 8, .inr (.inr (.inr (.inr (va_up (va_up (va_up (fun _ => none) 0 (some q0)) 1 (some q1)) 2 (some q2))))))), (q0, .inr (1, z8)), (q1, .inr (1, z8)), (q2, .inr (1, z8)), (q3, .inr (1, z8))] := hD
  refine lv_dup hx hb dX2_init_69 rfl ?_
  have hPc := hP.sub (ws' := [(q3, .inr (1, z8))]) [5] rfl
  have hDc := hD.sub (ws' := [(q3, .inr (1, z8))]) [5] (by decide) rfl
  have hKc := hK.sub (tys' := []) [] rfl
  have hFc := va_free (wc := [(q3, .inr (1, z8))]) hD hS hA [5] rfl
  refine va_callv (va_runIN (As := []) (rest := [.ref q3, .int 3, .ref r]) ⟨hx, hb, hml, hown, hts⟩ (c_X1_init l D q3 H.size) ⟨va_cnB 0 hts gX2_init_X1_init_n36 rfl rfl rfl hnest (hts _ ii_X2_init) ⟨by decide +kernel, by decide +kernel, by decide +kernel⟩ ⟨Nat.le_of_ble_eq_true rfl, Nat.le_of_ble_eq_true rfl⟩, rfl, hts _ im_X2_init⟩ ⟨fun a U g mk q => by obtain ⟨e0, e1, eP, eK, eD⟩ := q; exact ⟨e0, e1, eP, va_K.moved (u := U) (U := U.calling g mk a) (Vm.Alike.refl U.vm) eK, eD⟩, fun U hU hW => ⟨rfl, by rw [hU], by rw [hU]; exact hPc, va_K.moved hW.alike hKc, hDc.weaken (fun _ _ _ _ => trivial)⟩⟩ rfl rfl hl.1 rfl (lv_room (Nat.le_of_ble_eq_true rfl)) dX2_init_70 ⟨Nat.le_of_ble_eq_true rfl, Nat.le_of_ble_eq_true rfl⟩) hS (fun q _ h => hFc q h) hFc (fun u t H1 locs ht hvm h5 hB hz1 hk1 hS => ?_)
  obtain ⟨hP1, hK1, hD1⟩ := hB
  rw [ht] at hP1
  obtain ⟨hP, hD⟩ := va_join (wr := [(h0, .inr (2, z2 (.ref r) 30 10 4 60 10 100)), (r, .inl (ca, 8, .inr (.inr (.inr (.inr (va_up (va_up (va_up (fun _ => none) 0 (some q0)) 1 (some q1)) 2 (some q2))))))), (q0, .inr (1, z8)), (q1, .inr (1, z8)), (q2, .inr (1, z8))]) (w1 := [(q3, .inr (1, z8))]) hP hD [5] [0, 1, 2, 3, 4] rfl rfl (by decide) (by decide) hk1 hFc hP1 hD1
  have hP : va_P D vwCl [(h0, .inr (2, z2 (.ref r) 30 10 4 60 10 100)), (r, .inl (ca, 8, .inr (.inr (.inr (.inr (va_up (va_up (va_up (fun _ => none) 0 (some q0)) 1 (some q1)) 2 (some q2))))))), (q0, .inr (1, z8)), (q1, .inr (1, z8)), (q2, .inr (1, z8)), (q3, .inr (1, z8))] H1 := hP
  have hD : va_D A [(h0, .inr (2, z2 (.ref r) 30 10 4 60 10 100)), (r, .inl (ca, 8, .inr (.inr (.inr (.inr (va_up (va_up (va_up (fun _ => none) 0 (some q0)) 1 (some q1)) 2 (some q2))))))), (q0, .inr (1, z8)), (q1, .inr (1, z8)), (q2, .inr (1, z8)), (q3, .inr (1, z8))] := hD
  refine va_astq hx hb hK hP hD hS 1 0 5 1 rfl rfl rfl rfl (vp_in_nI (n := 3) (N := 8) (by decide) (by decide)) dX2_init_73 (fun H locs hP hD hS => ?_)
  have hP : va_P D vwCl [(h0, .inr (2, z2 (.ref r) 30 10 4 60 10 100)), (r, .inl (ca, 8, .inr (.inr (.inr (.inr (va_up (va_up (va_up (va_up (fun _ => none) 0 (some q0)) 1 (some q1)) 2 (some q2)) 3 (some q3))))))), (q0, .inr (1, z8)), (q1, .inr (1, z8)), (q2, .inr (1, z8)), (q3, .inr (1, z8))] H := hP
  have hD : va_D A [(h0, .inr (2, z2 (.ref r) 30 10 4 60 10 100)), (r, .inl (ca, 8, .inr (.inr (.inr (.inr (va_up (va_up (va_up (va_up (fun _ => none) 0 (some q0)) 1 (some q1)) 2 (some q2)) 3 (some q3))))))), (q0, .inr (1, z8)), (q1, .inr (1, z8)), (q2, .inr (1, z8)), (q3, .inr (1, z8))] := hD
  refine lv_iinc (v := 4) (lv' := [(1, .int 4), (0, .ref h0)]) hx hb dX2_init_74 hl (k := 0) rfl (by decide) (by decide) rfl (fun ls hl => ?_)
  refine lv_goto (tgt := 52) hx hb dX2_init_77 (by decide) ?_
  refine lv_iload_n hx hb dX2_init_52 rfl (lv_at hl 0 rfl) ?_
  refine lv_aload_n hx hb dX2_init_53 rfl (lv_at hl 1 rfl) ?_
  refine va_get hx hb hts in_X2_init_20 hown hK hP 0 rfl rfl 0 (by decide) (hts _ k_X2_init_11) (fun _ h9 => h9) rfl dX2_init_54 ?_
  refine va_alen (v := 8) hx hb hK hP 1 0 rfl rfl rfl dX2_init_57 ?_
  refine lv_icmp_ge (tgt := 80) hx hb dX2_init_58 (by decide) (fun cc4 => ?_) (fun cc4 => ?_)
  · exact absurd cc4 (by decide)
  refine lv_aload_n hx hb dX2_init_61 rfl (lv_at hl 1 rfl) ?_
  refine va_get hx hb hts in_X2_init_20 hown hK hP 0 rfl rfl 0 (by decide) (hts _ k_X2_init_11) (fun _ h9 => h9) rfl dX2_init_62 ?_
  refine lv_iload_n hx hb dX2_init_65 rfl (lv_at hl 0 rfl) ?_
  refine va_new (ci := 1) (fs := z8) (C := RX1) (T := TX1) (N := 8) hx hb hts in_X2_init_10 tyX1 tyX1_ok hown (hts _ cl_X2_init) (hts _ ia_X2_init) (hts _ ii_X2_init) hK hP hD hS hA rfl (fun j hj => by rcases (show j = 0 ∨ j = 1 ∨ j = 2 ∨ j = 3 ∨ j = 4 ∨ j = 5 ∨ j = 6 ∨ j = 7 by omega) with rfl | rfl | rfl | rfl | rfl | rfl | rfl | rfl <;> rfl) (Nat.le_of_ble_eq_true rfl) (Nat.le_of_ble_eq_true rfl) dX2_init_66 (fun q4 H hP hD hS => ?_)
  have hP : va_P D vwCl [(h0, .inr (2, z2 (.ref r) 30 10 4 60 10 100)), (r, .inl (ca, 8, .inr (.inr (.inr (.inr (va_up (va_up (va_up (va_up (fun _ => none) 0 (some q0)) 1 (some q1)) 2 (some q2)) 3 (some q3))))))), (q0, .inr (1, z8)), (q1, .inr (1, z8)), (q2, .inr (1, z8)), (q3, .inr (1, z8)), (q4, .inr (1, z8))] H := hP
  have hD : va_D A [(h0, .inr (2, z2 (.ref r) 30 10 4 60 10 100)), (r, .inl (ca, 8, .inr (.inr (.inr (.inr (va_up (va_up (va_up (va_up (fun _ => none) 0 (some q0)) 1 (some q1)) 2 (some q2)) 3 (some q3))))))), (q0, .inr (1, z8)), (q1, .inr (1, z8)), (q2, .inr (1, z8)), (q3, .inr (1, z8)), (q4, .inr (1, z8))] := hD
  refine lv_dup hx hb dX2_init_69 rfl ?_
  have hPc := hP.sub (ws' := [(q4, .inr (1, z8))]) [6] rfl
  have hDc := hD.sub (ws' := [(q4, .inr (1, z8))]) [6] (by decide) rfl
  have hKc := hK.sub (tys' := []) [] rfl
  have hFc := va_free (wc := [(q4, .inr (1, z8))]) hD hS hA [6] rfl
  refine va_callv (va_runIN (As := []) (rest := [.ref q4, .int 4, .ref r]) ⟨hx, hb, hml, hown, hts⟩ (c_X1_init l D q4 H.size) ⟨va_cnB 0 hts gX2_init_X1_init_n36 rfl rfl rfl hnest (hts _ ii_X2_init) ⟨by decide +kernel, by decide +kernel, by decide +kernel⟩ ⟨Nat.le_of_ble_eq_true rfl, Nat.le_of_ble_eq_true rfl⟩, rfl, hts _ im_X2_init⟩ ⟨fun a U g mk q => by obtain ⟨e0, e1, eP, eK, eD⟩ := q; exact ⟨e0, e1, eP, va_K.moved (u := U) (U := U.calling g mk a) (Vm.Alike.refl U.vm) eK, eD⟩, fun U hU hW => ⟨rfl, by rw [hU], by rw [hU]; exact hPc, va_K.moved hW.alike hKc, hDc.weaken (fun _ _ _ _ => trivial)⟩⟩ rfl rfl hl.1 rfl (lv_room (Nat.le_of_ble_eq_true rfl)) dX2_init_70 ⟨Nat.le_of_ble_eq_true rfl, Nat.le_of_ble_eq_true rfl⟩) hS (fun q _ h => hFc q h) hFc (fun u t H1 locs ht hvm h5 hB hz1 hk1 hS => ?_)
  obtain ⟨hP1, hK1, hD1⟩ := hB
  rw [ht] at hP1
  obtain ⟨hP, hD⟩ := va_join (wr := [(h0, .inr (2, z2 (.ref r) 30 10 4 60 10 100)), (r, .inl (ca, 8, .inr (.inr (.inr (.inr (va_up (va_up (va_up (va_up (fun _ => none) 0 (some q0)) 1 (some q1)) 2 (some q2)) 3 (some q3))))))), (q0, .inr (1, z8)), (q1, .inr (1, z8)), (q2, .inr (1, z8)), (q3, .inr (1, z8))]) (w1 := [(q4, .inr (1, z8))]) hP hD [6] [0, 1, 2, 3, 4, 5] rfl rfl (by decide) (by decide) hk1 hFc hP1 hD1
  have hP : va_P D vwCl [(h0, .inr (2, z2 (.ref r) 30 10 4 60 10 100)), (r, .inl (ca, 8, .inr (.inr (.inr (.inr (va_up (va_up (va_up (va_up (fun _ => none) 0 (some q0)) 1 (some q1)) 2 (some q2)) 3 (some q3))))))), (q0, .inr (1, z8)), (q1, .inr (1, z8)), (q2, .inr (1, z8)), (q3, .inr (1, z8)), (q4, .inr (1, z8))] H1 := hP
  have hD : va_D A [(h0, .inr (2, z2 (.ref r) 30 10 4 60 10 100)), (r, .inl (ca, 8, .inr (.inr (.inr (.inr (va_up (va_up (va_up (va_up (fun _ => none) 0 (some q0)) 1 (some q1)) 2 (some q2)) 3 (some q3))))))), (q0, .inr (1, z8)), (q1, .inr (1, z8)), (q2, .inr (1, z8)), (q3, .inr (1, z8)), (q4, .inr (1, z8))] := hD
  refine va_astq hx hb hK hP hD hS 1 0 6 1 rfl rfl rfl rfl (vp_in_nI (n := 4) (N := 8) (by decide) (by decide)) dX2_init_73 (fun H locs hP hD hS => ?_)
  have hP : va_P D vwCl [(h0, .inr (2, z2 (.ref r) 30 10 4 60 10 100)), (r, .inl (ca, 8, .inr (.inr (.inr (.inr (va_up (va_up (va_up (va_up (va_up (fun _ => none) 0 (some q0)) 1 (some q1)) 2 (some q2)) 3 (some q3)) 4 (some q4))))))), (q0, .inr (1, z8)), (q1, .inr (1, z8)), (q2, .inr (1, z8)), (q3, .inr (1, z8)), (q4, .inr (1, z8))] H := hP
  have hD : va_D A [(h0, .inr (2, z2 (.ref r) 30 10 4 60 10 100)), (r, .inl (ca, 8, .inr (.inr (.inr (.inr (va_up (va_up (va_up (va_up (va_up (fun _ => none) 0 (some q0)) 1 (some q1)) 2 (some q2)) 3 (some q3)) 4 (some q4))))))), (q0, .inr (1, z8)), (q1, .inr (1, z8)), (q2, .inr (1, z8)), (q3, .inr (1, z8)), (q4, .inr (1, z8))] := hD
  refine lv_iinc (v := 5) (lv' := [(1, .int 5), (0, .ref h0)]) hx hb dX2_init_74 hl (k := 0) rfl (by decide) (by decide) rfl (fun ls hl => ?_)
  refine lv_goto (tgt := 52) hx hb dX2_init_77 (by decide) ?_
  refine lv_iload_n hx hb dX2_init_52 rfl (lv_at hl 0 rfl) ?_
  refine lv_aload_n hx hb dX2_init_53 rfl (lv_at hl 1 rfl) ?_
  refine va_get hx hb hts in_X2_init_20 hown hK hP 0 rfl rfl 0 (by decide) (hts _ k_X2_init_11) (fun _ h9 => h9) rfl dX2_init_54 ?_
  refine va_alen (v := 8) hx hb hK hP 1 0 rfl rfl rfl dX2_init_57 ?_
  refine lv_icmp_ge (tgt := 80) hx hb dX2_init_58 (by decide) (fun cc5 => ?_) (fun cc5 => ?_)
  · exact absurd cc5 (by decide)
  refine lv_aload_n hx hb dX2_init_61 rfl (lv_at hl 1 rfl) ?_
  refine va_get hx hb hts in_X2_init_20 hown hK hP 0 rfl rfl 0 (by decide) (hts _ k_X2_init_11) (fun _ h9 => h9) rfl dX2_init_62 ?_
  refine lv_iload_n hx hb dX2_init_65 rfl (lv_at hl 0 rfl) ?_
  refine va_new (ci := 1) (fs := z8) (C := RX1) (T := TX1) (N := 8) hx hb hts in_X2_init_10 tyX1 tyX1_ok hown (hts _ cl_X2_init) (hts _ ia_X2_init) (hts _ ii_X2_init) hK hP hD hS hA rfl (fun j hj => by rcases (show j = 0 ∨ j = 1 ∨ j = 2 ∨ j = 3 ∨ j = 4 ∨ j = 5 ∨ j = 6 ∨ j = 7 by omega) with rfl | rfl | rfl | rfl | rfl | rfl | rfl | rfl <;> rfl) (Nat.le_of_ble_eq_true rfl) (Nat.le_of_ble_eq_true rfl) dX2_init_66 (fun q5 H hP hD hS => ?_)
  have hP : va_P D vwCl [(h0, .inr (2, z2 (.ref r) 30 10 4 60 10 100)), (r, .inl (ca, 8, .inr (.inr (.inr (.inr (va_up (va_up (va_up (va_up (va_up (fun _ => none) 0 (some q0)) 1 (some q1)) 2 (some q2)) 3 (some q3)) 4 (some q4))))))), (q0, .inr (1, z8)), (q1, .inr (1, z8)), (q2, .inr (1, z8)), (q3, .inr (1, z8)), (q4, .inr (1, z8)), (q5, .inr (1, z8))] H := hP
  have hD : va_D A [(h0, .inr (2, z2 (.ref r) 30 10 4 60 10 100)), (r, .inl (ca, 8, .inr (.inr (.inr (.inr (va_up (va_up (va_up (va_up (va_up (fun _ => none) 0 (some q0)) 1 (some q1)) 2 (some q2)) 3 (some q3)) 4 (some q4))))))), (q0, .inr (1, z8)), (q1, .inr (1, z8)), (q2, .inr (1, z8)), (q3, .inr (1, z8)), (q4, .inr (1, z8)), (q5, .inr (1, z8))] := hD
  refine lv_dup hx hb dX2_init_69 rfl ?_
  have hPc := hP.sub (ws' := [(q5, .inr (1, z8))]) [7] rfl
  have hDc := hD.sub (ws' := [(q5, .inr (1, z8))]) [7] (by decide) rfl
  have hKc := hK.sub (tys' := []) [] rfl
  have hFc := va_free (wc := [(q5, .inr (1, z8))]) hD hS hA [7] rfl
  refine va_callv (va_runIN (As := []) (rest := [.ref q5, .int 5, .ref r]) ⟨hx, hb, hml, hown, hts⟩ (c_X1_init l D q5 H.size) ⟨va_cnB 0 hts gX2_init_X1_init_n36 rfl rfl rfl hnest (hts _ ii_X2_init) ⟨by decide +kernel, by decide +kernel, by decide +kernel⟩ ⟨Nat.le_of_ble_eq_true rfl, Nat.le_of_ble_eq_true rfl⟩, rfl, hts _ im_X2_init⟩ ⟨fun a U g mk q => by obtain ⟨e0, e1, eP, eK, eD⟩ := q; exact ⟨e0, e1, eP, va_K.moved (u := U) (U := U.calling g mk a) (Vm.Alike.refl U.vm) eK, eD⟩, fun U hU hW => ⟨rfl, by rw [hU], by rw [hU]; exact hPc, va_K.moved hW.alike hKc, hDc.weaken (fun _ _ _ _ => trivial)⟩⟩ rfl rfl hl.1 rfl (lv_room (Nat.le_of_ble_eq_true rfl)) dX2_init_70 ⟨Nat.le_of_ble_eq_true rfl, Nat.le_of_ble_eq_true rfl⟩) hS (fun q _ h => hFc q h) hFc (fun u t H1 locs ht hvm h5 hB hz1 hk1 hS => ?_)
  obtain ⟨hP1, hK1, hD1⟩ := hB
  rw [ht] at hP1
  obtain ⟨hP, hD⟩ := va_join (wr := [(h0, .inr (2, z2 (.ref r) 30 10 4 60 10 100)), (r, .inl (ca, 8, .inr (.inr (.inr (.inr (va_up (va_up (va_up (va_up (va_up (fun _ => none) 0 (some q0)) 1 (some q1)) 2 (some q2)) 3 (some q3)) 4 (some q4))))))), (q0, .inr (1, z8)), (q1, .inr (1, z8)), (q2, .inr (1, z8)), (q3, .inr (1, z8)), (q4, .inr (1, z8))]) (w1 := [(q5, .inr (1, z8))]) hP hD [7] [0, 1, 2, 3, 4, 5, 6] rfl rfl (by decide) (by decide) hk1 hFc hP1 hD1
  have hP : va_P D vwCl [(h0, .inr (2, z2 (.ref r) 30 10 4 60 10 100)), (r, .inl (ca, 8, .inr (.inr (.inr (.inr (va_up (va_up (va_up (va_up (va_up (fun _ => none) 0 (some q0)) 1 (some q1)) 2 (some q2)) 3 (some q3)) 4 (some q4))))))), (q0, .inr (1, z8)), (q1, .inr (1, z8)), (q2, .inr (1, z8)), (q3, .inr (1, z8)), (q4, .inr (1, z8)), (q5, .inr (1, z8))] H1 := hP
  have hD : va_D A [(h0, .inr (2, z2 (.ref r) 30 10 4 60 10 100)), (r, .inl (ca, 8, .inr (.inr (.inr (.inr (va_up (va_up (va_up (va_up (va_up (fun _ => none) 0 (some q0)) 1 (some q1)) 2 (some q2)) 3 (some q3)) 4 (some q4))))))), (q0, .inr (1, z8)), (q1, .inr (1, z8)), (q2, .inr (1, z8)), (q3, .inr (1, z8)), (q4, .inr (1, z8)), (q5, .inr (1, z8))] := hD
  refine va_astq hx hb hK hP hD hS 1 0 7 1 rfl rfl rfl rfl (vp_in_nI (n := 5) (N := 8) (by decide) (by decide)) dX2_init_73 (fun H locs hP hD hS => ?_)
  have hP : va_P D vwCl [(h0, .inr (2, z2 (.ref r) 30 10 4 60 10 100)), (r, .inl (ca, 8, .inr (.inr (.inr (.inr (va_up (va_up (va_up (va_up (va_up (va_up (fun _ => none) 0 (some q0)) 1 (some q1)) 2 (some q2)) 3 (some q3)) 4 (some q4)) 5 (some q5))))))), (q0, .inr (1, z8)), (q1, .inr (1, z8)), (q2, .inr (1, z8)), (q3, .inr (1, z8)), (q4, .inr (1, z8)), (q5, .inr (1, z8))] H := hP
  have hD : va_D A [(h0, .inr (2, z2 (.ref r) 30 10 4 60 10 100)), (r, .inl (ca, 8, .inr (.inr (.inr (.inr (va_up (va_up (va_up (va_up (va_up (va_up (fun _ => none) 0 (some q0)) 1 (some q1)) 2 (some q2)) 3 (some q3)) 4 (some q4)) 5 (some q5))))))), (q0, .inr (1, z8)), (q1, .inr (1, z8)), (q2, .inr (1, z8)), (q3, .inr (1, z8)), (q4, .inr (1, z8)), (q5, .inr (1, z8))] := hD
  refine lv_iinc (v := 6) (lv' := [(1, .int 6), (0, .ref h0)]) hx hb dX2_init_74 hl (k := 0) rfl (by decide) (by decide) rfl (fun ls hl => ?_)
  refine lv_goto (tgt := 52) hx hb dX2_init_77 (by decide) ?_
  refine lv_iload_n hx hb dX2_init_52 rfl (lv_at hl 0 rfl) ?_
  refine lv_aload_n hx hb dX2_init_53 rfl (lv_at hl 1 rfl) ?_
  refine va_get hx hb hts in_X2_init_20 hown hK hP 0 rfl rfl 0 (by decide) (hts _ k_X2_init_11) (fun _ h9 => h9) rfl dX2_init_54 ?_
  refine va_alen (v := 8) hx hb hK hP 1 0 rfl rfl rfl dX2_init_57 ?_
  refine lv_icmp_ge (tgt := 80) hx hb dX2_init_58 (by decide) (fun cc6 => ?_) (fun cc6 => ?_)
  · exact absurd cc6 (by decide)
  refine lv_aload_n hx hb dX2_init_61 rfl (lv_at hl 1 rfl) ?_
  refine va_get hx hb hts in_X2_init_20 hown hK hP 0 rfl rfl 0 (by decide) (hts _ k_X2_init_11) (fun _ h9 => h9) rfl dX2_init_62 ?_
  refine lv_iload_n hx hb dX2_init_65 rfl (lv_at hl 0 rfl) ?_
  refine va_new (ci := 1) (fs := z8) (C := RX1) (T := TX1) (N := 8) hx hb hts in_X2_init_10 tyX1 tyX1_ok hown (hts _ cl_X2_init) (hts _ ia_X2_init) (hts _ ii_X2_init) hK hP hD hS hA rfl (fun j hj => by rcases (show j = 0 ∨ j = 1 ∨ j = 2 ∨ j = 3 ∨ j = 4 ∨ j = 5 ∨ j = 6 ∨ j = 7 by omega) with rfl | rfl | rfl | rfl | rfl | rfl | rfl | rfl <;> rfl) (Nat.le_of_ble_eq_true rfl) (Nat.le_of_ble_eq_true rfl) dX2_init_66 (fun q6 H hP hD hS => ?_)
  have hP : va_P D vwCl [(h0, .inr (2, z2 (.ref r) 30 10 4 60 10 100)), (r, .inl (ca, 8, .inr (.inr (.inr (.inr (va_up (va_up (va_up (va_up (va_up (va_up (fun _ => none) 0 (some q0)) 1 (some q1)) 2 (some q2)) 3 (some q3)) 4 (some q4)) 5 (some q5))))))), (q0, .inr (1, z8)), (q1, .inr (1, z8)), (q2, .inr (1, z8)), (q3, .inr (1, z8)), (q4, .inr (1, z8)), (q5, .inr (1, z8)), (q6, .inr (1, z8))] H := hP
  have hD : va_D A [(h0, .inr (2, z2 (.ref r) 30 10 4 60 10 100)), (r, .inl (ca, 8, .inr (.inr (.inr (.inr (va_up (va_up (va_up (va_up (va_up (va_up (fun _ => none) 0 (some q0)) 1 (some q1)) 2 (some q2)) 3 (some q3)) 4 (some q4)) 5 (some q5))))))), (q0, .inr (1, z8)), (q1, .inr (1, z8)), (q2, .inr (1, z8)), (q3, .inr (1, z8)), (q4, .inr (1, z8)), (q5, .inr (1, z8)), (q6, .inr (1, z8))] := hD
  refine lv_dup hx hb dX2_init_69 rfl ?_
  have hPc := hP.sub (ws' := [(q6, .inr (1, z8))]) [8] rfl
  have hDc := hD.sub (ws' := [(q6, .inr (1, z8))]) [8] (by decide) rfl
  have hKc := hK.sub (tys' := []) [] rfl
  have hFc := va_free (wc := [(q6, .inr (1, z8))]) hD hS hA [8] rfl
  refine va_callv (va_runIN (As := []) (rest := [.ref q6, .int 6, .ref r]) ⟨hx, hb, hml, hown, hts⟩ (c_X1_init l D q6 H.size) ⟨va_cnB 0 hts gX2_init_X1_init_n36 rfl rfl rfl hnest (hts _ ii_X2_init) ⟨by decide +kernel, by decide +kernel, by decide +kernel⟩ ⟨Nat.le_of_ble_eq_true rfl, Nat.le_of_ble_eq_true rfl⟩, rfl, hts _ im_X2_init⟩ ⟨fun a U g mk q => by obtain ⟨e0, e1, eP, eK, eD⟩ := q; exact ⟨e0, e1, eP, va_K.moved (u := U) (U := U.calling g mk a) (Vm.Alike.refl U.vm) eK, eD⟩, fun U hU hW => ⟨rfl, by rw [hU], by rw [hU]; exact hPc, va_K.moved hW.alike hKc, hDc.weaken (fun _ _ _ _ => trivial)⟩⟩ rfl rfl hl.1 rfl (lv_room (Nat.le_of_ble_eq_true rfl)) dX2_init_70 ⟨Nat.le_of_ble_eq_true rfl, Nat.le_of_ble_eq_true rfl⟩) hS (fun q _ h => hFc q h) hFc (fun u t H1 locs ht hvm h5 hB hz1 hk1 hS => ?_)
  obtain ⟨hP1, hK1, hD1⟩ := hB
  rw [ht] at hP1
  obtain ⟨hP, hD⟩ := va_join (wr := [(h0, .inr (2, z2 (.ref r) 30 10 4 60 10 100)), (r, .inl (ca, 8, .inr (.inr (.inr (.inr (va_up (va_up (va_up (va_up (va_up (va_up (fun _ => none) 0 (some q0)) 1 (some q1)) 2 (some q2)) 3 (some q3)) 4 (some q4)) 5 (some q5))))))), (q0, .inr (1, z8)), (q1, .inr (1, z8)), (q2, .inr (1, z8)), (q3, .inr (1, z8)), (q4, .inr (1, z8)), (q5, .inr (1, z8))]) (w1 := [(q6, .inr (1, z8))]) hP hD [8] [0, 1, 2, 3, 4, 5, 6, 7] rfl rfl (by decide) (by decide) hk1 hFc hP1 hD1
  have hP : va_P D vwCl [(h0, .inr (2, z2 (.ref r) 30 10 4 60 10 100)), (r, .inl (ca, 8, .inr (.inr (.inr (.inr (va_up (va_up (va_up (va_up (va_up (va_up (fun _ => none) 0 (some q0)) 1 (some q1)) 2 (some q2)) 3 (some q3)) 4 (some q4)) 5 (some q5))))))), (q0, .inr (1, z8)), (q1, .inr (1, z8)), (q2, .inr (1, z8)), (q3, .inr (1, z8)), (q4, .inr (1, z8)), (q5, .inr (1, z8)), (q6, .inr (1, z8))] H1 := hP
  have hD : va_D A [(h0, .inr (2, z2 (.ref r) 30 10 4 60 10 100)), (r, .inl (ca, 8, .inr (.inr (.inr (.inr (va_up (va_up (va_up (va_up (va_up (va_up (fun _ => none) 0 (some q0)) 1 (some q1)) 2 (some q2)) 3 (some q3)) 4 (some q4)) 5 (some q5))))))), (q0, .inr (1, z8)), (q1, .inr (1, z8)), (q2, .inr (1, z8)), (q3, .inr (1, z8)), (q4, .inr (1, z8)), (q5, .inr (1, z8)), (q6, .inr (1, z8))] := hD
  refine va_astq hx hb hK hP hD hS 1 0 8 1 rfl rfl rfl rfl (vp_in_nI (n := 6) (N := 8) (by decide) (by decide)) dX2_init_73 (fun H locs hP hD hS => ?_)
  have hP : va_P D vwCl [(h0, .inr (2, z2 (.ref r) 30 10 4 60 10 100)), (r, .inl (ca, 8, .inr (.inr (.inr (.inr (va_up (va_up (va_up (va_up (va_up (va_up (va_up (fun _ => none) 0 (some q0)) 1 (some q1)) 2 (some q2)) 3 (some q3)) 4 (some q4)) 5 (some q5)) 6 (some q6))))))), (q0, .inr (1, z8)), (q1, .inr (1, z8)), (q2, .inr (1, z8)), (q3, .inr (1, z8)), (q4, .inr (1, z8)), (q5, .inr (1, z8)), (q6, .inr (1, z8))] H := hP
  have hD : va_D A [(h0, .inr (2, z2 (.ref r) 30 10 4 60 10 100)), (r, .inl (ca, 8, .inr (.inr (.inr (.inr (va_up (va_up (va_up (va_up (va_up (va_up (va_up (fun _ => none) 0 (some q0)) 1 (some q1)) 2 (some q2)) 3 (some q3)) 4 (some q4)) 5 (some q5)) 6 (some q6))))))), (q0, .inr (1, z8)), (q1, .inr (1, z8)), (q2, .inr (1, z8)), (q3, .inr (1, z8)), (q4, .inr (1, z8)), (q5, .inr (1, z8)), (q6, .inr (1, z8))] := hD
  refine lv_iinc (v := 7) (lv' := [(1, .int 7), (0, .ref h0)]) hx hb dX2_init_74 hl (k := 0) rfl (by decide) (by decide) rfl (fun ls hl => ?_)
  refine lv_goto (tgt := 52) hx hb dX2_init_77 (by decide) ?_
  refine lv_iload_n hx hb dX2_init_52 rfl (lv_at hl 0 rfl) ?_
  refine lv_aload_n hx hb dX2_init_53 rfl (lv_at hl 1 rfl) ?_
  refine va_get hx hb hts in_X2_init_20 hown hK hP 0 rfl rfl 0 (by decide) (hts _ k_X2_init_11) (fun _ h9 => h9) rfl dX2_init_54 ?_
  refine va_alen (v := 8) hx hb hK hP 1 0 rfl rfl rfl dX2_init_57 ?_
  refine lv_icmp_ge (tgt := 80) hx hb dX2_init_58 (by decide) (fun cc7 => ?_) (fun cc7 => ?_)
  · exact absurd cc7 (by decide)
  refine lv_aload_n hx hb dX2_init_61 rfl (lv_at hl 1 rfl) ?_
  refine va_get hx hb hts in_X2_init_20 hown hK hP 0 rfl rfl 0 (by decide) (hts _ k_X2_init_11) (fun _ h9 => h9) rfl dX2_init_62 ?_
  refine lv_iload_n hx hb dX2_init_65 rfl (lv_at hl 0 rfl) ?_
  refine va_new (ci := 1) (fs := z8) (C := RX1) (T := TX1) (N := 8) hx hb hts in_X2_init_10 tyX1 tyX1_ok hown (hts _ cl_X2_init) (hts _ ia_X2_init) (hts _ ii_X2_init) hK hP hD hS hA rfl (fun j hj => by rcases (show j = 0 ∨ j = 1 ∨ j = 2 ∨ j = 3 ∨ j = 4 ∨ j = 5 ∨ j = 6 ∨ j = 7 by omega) with rfl | rfl | rfl | rfl | rfl | rfl | rfl | rfl <;> rfl) (Nat.le_of_ble_eq_true rfl) (Nat.le_of_ble_eq_true rfl) dX2_init_66 (fun q7 H hP hD hS => ?_)
  have hP : va_P D vwCl [(h0, .inr (2, z2 (.ref r) 30 10 4 60 10 100)), (r, .inl (ca, 8, .inr (.inr (.inr (.inr (va_up (va_up (va_up (va_up (va_up (va_up (va_up (fun _ => none) 0 (some q0)) 1 (some q1)) 2 (some q2)) 3 (some q3)) 4 (some q4)) 5 (some q5)) 6 (some q6))))))), (q0, .inr (1, z8)), (q1, .inr (1, z8)), (q2, .inr (1, z8)), (q3, .inr (1, z8)), (q4, .inr (1, z8)), (q5, .inr (1, z8)), (q6, .inr (1, z8)), (q7, .inr (1, z8))] H := hP
  have hD : va_D A [(h0, .inr (2, z2 (.ref r) 30 10 4 60 10 100)), (r, .inl (ca, 8, .inr (.inr (.inr (.inr (va_up (va_up (va_up (va_up (va_up (va_up (va_up (fun _ => none) 0 (some q0)) 1 (some q1)) 2 (some q2)) 3 (some q3)) 4 (some q4)) 5 (some q5)) 6 (some q6))))))), (q0, .inr (1, z8)), (q1, .inr (1, z8)), (q2, .inr (1, z8)), (q3, .inr (1, z8)), (q4, .inr (1, z8)), (q5, .inr (1, z8)), (q6, .inr (1, z8)), (q7, .inr (1, z8))] := hD
  refine lv_dup hx hb dX2_init_69 rfl ?_
  have hPc := hP.sub (ws' := [(q7, .inr (1, z8))]) [9] rfl
  have hDc := hD.sub (ws' := [(q7, .inr (1, z8))]) [9] (by decide) rfl
  have hKc := hK.sub (tys' := []) [] rfl
  have hFc := va_free (wc := [(q7, .inr (1, z8))]) hD hS hA [9] rfl
  refine va_callv (va_runIN (As := []) (rest := [.ref q7, .int 7, .ref r]) ⟨hx, hb, hml, hown, hts⟩ (c_X1_init l D q7 H.size) ⟨va_cnB 0 hts gX2_init_X1_init_n36 rfl rfl rfl hnest (hts _ ii_X2_init) ⟨by decide +kernel, by decide +kernel, by decide +kernel⟩ ⟨Nat.le_of_ble_eq_true rfl, Nat.le_of_ble_eq_true rfl⟩, rfl, hts _ im_X2_init⟩ ⟨fun a U g mk q => by obtain ⟨e0, e1, eP, eK, eD⟩ := q; exact ⟨e0, e1, eP, va_K.moved (u := U) (U := U.calling g mk a) (Vm.Alike.refl U.vm) eK, eD⟩, fun U hU hW => ⟨rfl, by rw [hU], by rw [hU]; exact hPc, va_K.moved hW.alike hKc, hDc.weaken (fun _ _ _ _ => trivial)⟩⟩ rfl rfl hl.1 rfl (lv_room (Nat.le_of_ble_eq_true rfl)) dX2_init_70 ⟨Nat.le_of_ble_eq_true rfl, Nat.le_of_ble_eq_true rfl⟩) hS (fun q _ h => hFc q h) hFc (fun u t H1 locs ht hvm h5 hB hz1 hk1 hS => ?_)
  obtain ⟨hP1, hK1, hD1⟩ := hB
  rw [ht] at hP1
  obtain ⟨hP, hD⟩ := va_join (wr := [(h0, .inr (2, z2 (.ref r) 30 10 4 60 10 100)), (r, .inl (ca, 8, .inr (.inr (.inr (.inr (va_up (va_up (va_up (va_up (va_up (va_up (va_up (fun _ => none) 0 (some q0)) 1 (some q1)) 2 (some q2)) 3 (some q3)) 4 (some q4)) 5 (some q5)) 6 (some q6))))))), (q0, .inr (1, z8)), (q1, .inr (1, z8)), (q2, .inr (1, z8)), (q3, .inr (1, z8)), (q4, .inr (1, z8)), (q5, .inr (1, z8)), (q6, .inr (1, z8))]) (w1 := [(q7, .inr (1, z8))]) hP hD [9] [0, 1, 2, 3, 4, 5, 6, 7, 8] rfl rfl (by decide) (by decide) hk1 hFc hP1 hD1
  have hP : va_P D vwCl [(h0, .inr (2, z2 (.ref r) 30 10 4 60 10 100)), (r, .inl (ca, 8, .inr (.inr (.inr (.inr (va_up (va_up (va_up (va_up (va_up (va_up (va_up (fun _ => none) 0 (some q0)) 1 (some q1)) 2 (some q2)) 3 (some q3)) 4 (some q4)) 5 (some q5)) 6 (some q6))))))), (q0, .inr (1, z8)), (q1, .inr (1, z8)), (q2, .inr (1, z8)), (q3, .inr (1, z8)), (q4, .inr (1, z8)), (q5, .inr (1, z8)), (q6, .inr (1, z8)), (q7, .inr (1, z8))] H1 := hP
  have hD : va_D A [(h0, .inr (2, z2 (.ref r) 30 10 4 60 10 100)), (r, .inl (ca, 8, .inr (.inr (.inr (.inr (va_up (va_up (va_up (va_up (va_up (va_up (va_up (fun _ => none) 0 (some q0)) 1 (some q1)) 2 (some q2)) 3 (some q3)) 4 (some q4)) 5 (some q5)) 6 (some q6))))))), (q0, .inr (1, z8)), (q1, .inr (1, z8)), (q2, .inr (1, z8)), (q3, .inr (1, z8)), (q4, .inr (1, z8)), (q5, .inr (1, z8)), (q6, .inr (1, z8)), (q7, .inr (1, z8))] := hD
  refine va_astq hx hb hK hP hD hS 1 0 9 1 rfl rfl rfl rfl (vp_in_nI (n := 7) (N := 8) (by decide) (by decide)) dX2_init_73 (fun H locs hP hD hS => ?_)
  have hP : va_P D vwCl [(h0, .inr (2, z2 (.ref r) 30 10 4 60 10 100)), (r, .inl (ca, 8, .inr (.inr (.inr (.inr (va_up (va_up (va_up (va_up (va_up (va_up (va_up (va_up (fun _ => none) 0 (some q0)) 1 (some q1)) 2 (some q2)) 3 (some q3)) 4 (some q4)) 5 (some q5)) 6 (some q6)) 7 (some q7))))))), (q0, .inr (1, z8)), (q1, .inr (1, z8)), (q2, .inr (1, z8)), (q3, .inr (1, z8)), (q4, .inr (1, z8)), (q5, .inr (1, z8)), (q6, .inr (1, z8)), (q7, .inr (1, z8))] H := hP
  have hD : va_D A [(h0, .inr (2, z2 (.ref r) 30 10 4 60 10 100)), (r, .inl (ca, 8, .inr (.inr (.inr (.inr (va_up (va_up (va_up (va_up (va_up (va_up (va_up (va_up (fun _ => none) 0 (some q0)) 1 (some q1)) 2 (some q2)) 3 (some q3)) 4 (some q4)) 5 (some q5)) 6 (some q6)) 7 (some q7))))))), (q0, .inr (1, z8)), (q1, .inr (1, z8)), (q2, .inr (1, z8)), (q3, .inr (1, z8)), (q4, .inr (1, z8)), (q5, .inr (1, z8)), (q6, .inr (1, z8)), (q7, .inr (1, z8))] := hD
  refine lv_iinc (v := 8) (lv' := [(1, .int 8), (0, .ref h0)]) hx hb dX2_init_74 hl (k := 0) rfl (by decide) (by decide) rfl (fun ls hl => ?_)
  refine lv_goto (tgt := 52) hx hb dX2_init_77 (by decide) ?_
  refine lv_iload_n hx hb dX2_init_52 rfl (lv_at hl 0 rfl) ?_
  refine lv_aload_n hx hb dX2_init_53 rfl (lv_at hl 1 rfl) ?_
  refine va_get hx hb hts in_X2_init_20 hown hK hP 0 rfl rfl 0 (by decide) (hts _ k_X2_init_11) (fun _ h9 => h9) rfl dX2_init_54 ?_
  refine va_alen (v := 8) hx hb hK hP 1 0 rfl rfl rfl dX2_init_57 ?_
  refine lv_icmp_ge (tgt := 80) hx hb dX2_init_58 (by decide) (fun cc8 => ?_) (fun cc8 => ?_)
  · exact W.vret hx hb hr (fun t ht hW => ⟨⟨(r, ca, q0, q1, q2, q3, q4, q5, q6, q7), rfl, trivial, ⟨by rw [ht]; exact hP, va_K.moved hW.alike hK, hD⟩⟩, hS.F ht⟩) hS.2.2 dX2_init_80
  · exact absurd cc8 (by decide)

