abbrev z4 (a b d e f : Value) : List Value := [a, b, d, e, .int 0, .int 0, f, .int 0, .int 0, .int 0, .int 0, .int 0, .int 0, .int 0, .int 0]
theorem in_X4_init_0 : ∀ w ∈ wsX40, w ∈ wsX4_init := by decide +kernel
theorem a_X4_init : Cond.arrayClass .int ∈ wsX4_init := by decide +kernel
def st0 : Vec := upd (upd (upd (upd (upd (upd (fun _ => 0) 5 100) 3 10) 10 30) 11 10) 12 4) 13 60
theorem k_X4_init_7 : Cond.fieldLink RX4 7 "BellowsRoundModel" "s" "[I" ∈ wsX4_init := by decide +kernel
theorem k_X4_init_13 : Cond.fieldLink RX4 13 "BellowsRoundModel" "past" "[I" ∈ wsX4_init := by decide +kernel
theorem k_X4_init_16 : Cond.fieldLink RX4 16 "BellowsRoundModel" "held" "[I" ∈ wsX4_init := by decide +kernel
theorem k_X4_init_19 : Cond.fieldLink RX4 19 "BellowsRoundModel" "tried" "[I" ∈ wsX4_init := by decide +kernel
theorem k_X4_init_22 : Cond.fieldLink RX4 22 "BellowsRoundModel" "text" "[I" ∈ wsX4_init := by decide +kernel
set_option maxHeartbeats 4000000 in
set_option maxRecDepth 100000 in
theorem c_X4_init (l : Launch) (D : va_G) (h0 : Nat) (sz : Nat) : Met l yX4_init wsX4_init ({ frames := 1, cells := 5, slots := 606, locals := 12 }) (va_Pc [.ref h0] (PI D [(h0, .inr (4, z4 .null .null .null .null .null))] sz)) (va_Qv (fun _ : Nat × Nat × Nat × Nat × Nat × ClassId × ClassId × ClassId × ClassId × ClassId => True) (PO D (va_A [(h0, .inr (4, z4 .null .null .null .null .null))] sz) (fun u => [(h0, .inr (4, z4 (.ref u.1) (.ref u.2.1) (.ref u.2.2.1) (.ref u.2.2.2.1) (.ref u.2.2.2.2.1))), (u.1, .inl (u.2.2.2.2.2.1, 78, .inl st0)), (u.2.1, .inl (u.2.2.2.2.2.2.1, 312, .inl (fun _ => 0))), (u.2.2.1, .inl (u.2.2.2.2.2.2.2.1, 78, .inl (fun _ => 0))), (u.2.2.2.1, .inl (u.2.2.2.2.2.2.2.2.1, 78, .inl (fun _ => 0))), (u.2.2.2.2.1, .inl (u.2.2.2.2.2.2.2.2.2, 60, .inl (fun _ => 0)))]) (fun u => [(u.2.2.2.2.2.1, .int), (u.2.2.2.2.2.2.1, .int), (u.2.2.2.2.2.2.2.1, .int), (u.2.2.2.2.2.2.2.2.1, .int), (u.2.2.2.2.2.2.2.2.2, .int)])) (va_A [(h0, .inr (4, z4 .null .null .null .null .null))] sz)) 5 606 (va_A [(h0, .inr (4, z4 .null .null .null .null .null))] sz) := by
  refine Met.ofW (cc := cX4_init) (maxL := 1) (ret := none) (by decide +kernel) rfl ?_
  intro p e s m args below meth c s₁ B hml hv
  obtain ⟨rfl, hsz, hP, hK, hD0⟩ := hv
  have hx := B.exec
  have hb := B.bytes
  have hr := B.returns
  have hts := atoms_spec (ws := wsX4_init) B.pre
  have hown : s.vm.findClass RX4 = some m.cls := findClass_of_methodNamed B.named
  have hin : meth.name = "<init>" := (name_of_methodNamed B.named B.method).1
  subst hsz
  have hD := hD0.self (sz := s.heap.size)
  generalize hAe : va_A [(h0, .inr (4, z4 .null .null .null .null .null))] s.heap.size = A at hD ⊢
  have hA : ∀ q : Nat, s.heap.size ≤ q → A q := fun q h => by rw [← hAe]; exact Or.inr h
  have hS : va_S A s.heap s.heap [] := va_S.rf
  have hl := lv_entry ([.ref h0]) (n := 1) (Nat.le_of_ble_eq_true rfl)
  rw [lg_entry_eq]
  generalize (lg_sl ([.ref h0]) ++ List.replicate (1 - (lg_sl ([.ref h0])).length) Slot.unset).toArray = ls at hl ⊢
  have hl : lv_has ls 1 [(0, .ref h0)] := hl
  refine lv_aload_n hx hb dX4_init_0 rfl (lv_at hl 0 rfl) ?_
  refine W.objInit hx hb hown (hts (.methodLink RX4 1 objectInit) (by decide +kernel)) (hts (.instanceMethod objectInit) (by decide +kernel)) (hts _ (List.mem_cons_of_mem _ (List.mem_append_left _ (List.mem_of_getElem? (i := 2) rfl)))) rfl (by rw [hml]; exact hl.1) rfl dX4_init_1 (Nat.le_of_ble_eq_true rfl) (Nat.le_of_ble_eq_true rfl) ?_
  refine W.eq (g2 := F0 m 4 ls []) rfl ?_
  refine lv_aload_n hx hb dX4_init_4 rfl (lv_at hl 0 rfl) ?_
  refine lv_bipush (v := 78) hx hb dX4_init_5 (by decide) ?_
  refine va_newa (atype := .int) (ty := .int) (a0 := (78, .inl (fun _ => 0))) hx hb (hts _ a_X4_init) rfl hK hP hD hS hA (fun cA => rfl) (by decide) (show (78 : Int32).toNatClampNeg = 78 by decide) (by decide) (Nat.le_of_ble_eq_true rfl) (Nat.le_of_ble_eq_true rfl) dX4_init_7 (fun q0 ca0 H hK hP hD hS => ?_)
  refine va_putF (ci := 4) (v := .ref q0) (ty := .array .int) (C := RX4) (T := TX4) (N := 15) hx hb hts in_X4_init_0 tyX4 tyX4_ok nmX4 hown hK hP hD hS 0 rfl rfl 0 (by decide) (hts _ k_X4_init_7) (fun _ h9 => h9) rfl hin rfl (by decide +kernel) rfl rfl (Nat.le_of_ble_eq_true rfl) dX4_init_9 (fun H locs hP hD hS => ?_)
  refine lv_aload_n hx hb dX4_init_12 rfl (lv_at hl 0 rfl) ?_
  refine lv_sipush (v := 312) hx hb dX4_init_13 (by decide) ?_
  refine va_newa (atype := .int) (ty := .int) (a0 := (312, .inl (fun _ => 0))) hx hb (hts _ a_X4_init) rfl hK hP hD hS hA (fun cA => rfl) (by decide) (show (312 : Int32).toNatClampNeg = 312 by decide) (by decide) (Nat.le_of_ble_eq_true rfl) (Nat.le_of_ble_eq_true rfl) dX4_init_16 (fun q1 ca1 H hK hP hD hS => ?_)
  refine va_putF (ci := 4) (v := .ref q1) (ty := .array .int) (C := RX4) (T := TX4) (N := 15) hx hb hts in_X4_init_0 tyX4 tyX4_ok nmX4 hown hK hP hD hS 0 rfl rfl 1 (by decide) (hts _ k_X4_init_13) (fun _ h9 => h9) rfl hin rfl (by decide +kernel) rfl rfl (Nat.le_of_ble_eq_true rfl) dX4_init_18 (fun H locs hP hD hS => ?_)
  refine lv_aload_n hx hb dX4_init_21 rfl (lv_at hl 0 rfl) ?_
  refine lv_bipush (v := 78) hx hb dX4_init_22 (by decide) ?_
  refine va_newa (atype := .int) (ty := .int) (a0 := (78, .inl (fun _ => 0))) hx hb (hts _ a_X4_init) rfl hK hP hD hS hA (fun cA => rfl) (by decide) (show (78 : Int32).toNatClampNeg = 78 by decide) (by decide) (Nat.le_of_ble_eq_true rfl) (Nat.le_of_ble_eq_true rfl) dX4_init_24 (fun q2 ca2 H hK hP hD hS => ?_)
  refine va_putF (ci := 4) (v := .ref q2) (ty := .array .int) (C := RX4) (T := TX4) (N := 15) hx hb hts in_X4_init_0 tyX4 tyX4_ok nmX4 hown hK hP hD hS 0 rfl rfl 2 (by decide) (hts _ k_X4_init_16) (fun _ h9 => h9) rfl hin rfl (by decide +kernel) rfl rfl (Nat.le_of_ble_eq_true rfl) dX4_init_26 (fun H locs hP hD hS => ?_)
  refine lv_aload_n hx hb dX4_init_29 rfl (lv_at hl 0 rfl) ?_
  refine lv_bipush (v := 78) hx hb dX4_init_30 (by decide) ?_
  refine va_newa (atype := .int) (ty := .int) (a0 := (78, .inl (fun _ => 0))) hx hb (hts _ a_X4_init) rfl hK hP hD hS hA (fun cA => rfl) (by decide) (show (78 : Int32).toNatClampNeg = 78 by decide) (by decide) (Nat.le_of_ble_eq_true rfl) (Nat.le_of_ble_eq_true rfl) dX4_init_32 (fun q3 ca3 H hK hP hD hS => ?_)
  refine va_putF (ci := 4) (v := .ref q3) (ty := .array .int) (C := RX4) (T := TX4) (N := 15) hx hb hts in_X4_init_0 tyX4 tyX4_ok nmX4 hown hK hP hD hS 0 rfl rfl 3 (by decide) (hts _ k_X4_init_19) (fun _ h9 => h9) rfl hin rfl (by decide +kernel) rfl rfl (Nat.le_of_ble_eq_true rfl) dX4_init_34 (fun H locs hP hD hS => ?_)
  refine lv_aload_n hx hb dX4_init_37 rfl (lv_at hl 0 rfl) ?_
  refine lv_bipush (v := 60) hx hb dX4_init_38 (by decide) ?_
  refine va_newa (atype := .int) (ty := .int) (a0 := (60, .inl (fun _ => 0))) hx hb (hts _ a_X4_init) rfl hK hP hD hS hA (fun cA => rfl) (by decide) (show (60 : Int32).toNatClampNeg = 60 by decide) (by decide) (Nat.le_of_ble_eq_true rfl) (Nat.le_of_ble_eq_true rfl) dX4_init_40 (fun q4 ca4 H hK hP hD hS => ?_)
  refine va_putF (ci := 4) (v := .ref q4) (ty := .array .int) (C := RX4) (T := TX4) (N := 15) hx hb hts in_X4_init_0 tyX4 tyX4_ok nmX4 hown hK hP hD hS 0 rfl rfl 6 (by decide) (hts _ k_X4_init_22) (fun _ h9 => h9) rfl hin rfl (by decide +kernel) rfl rfl (Nat.le_of_ble_eq_true rfl) dX4_init_42 (fun H locs hP hD hS => ?_)
  refine lv_aload_n hx hb dX4_init_45 rfl (lv_at hl 0 rfl) ?_
  refine va_get hx hb hts in_X4_init_0 hown hK hP 0 rfl rfl 0 (by decide) (hts _ k_X4_init_7) (fun _ h9 => h9) rfl dX4_init_46 ?_
  refine lv_iconst (v := 5) hx hb dX4_init_49 (by decide) ?_
  refine lv_bipush (v := 100) hx hb dX4_init_50 (by decide) ?_
  refine va_iast hx hb hK hP hD hS 1 0 rfl rfl (vp_in_nI (n := 5) (N := 78) (by decide) (by decide)) dX4_init_52 (fun H locs hP hD hS => ?_)
  refine lv_aload_n hx hb dX4_init_53 rfl (lv_at hl 0 rfl) ?_
  refine va_get hx hb hts in_X4_init_0 hown hK hP 0 rfl rfl 0 (by decide) (hts _ k_X4_init_7) (fun _ h9 => h9) rfl dX4_init_54 ?_
  refine lv_iconst (v := 3) hx hb dX4_init_57 (by decide) ?_
  refine lv_bipush (v := 10) hx hb dX4_init_58 (by decide) ?_
  refine va_iast hx hb hK hP hD hS 1 0 rfl rfl (vp_in_nI (n := 3) (N := 78) (by decide) (by decide)) dX4_init_60 (fun H locs hP hD hS => ?_)
  refine lv_aload_n hx hb dX4_init_61 rfl (lv_at hl 0 rfl) ?_
  refine va_get hx hb hts in_X4_init_0 hown hK hP 0 rfl rfl 0 (by decide) (hts _ k_X4_init_7) (fun _ h9 => h9) rfl dX4_init_62 ?_
  refine lv_bipush (v := 10) hx hb dX4_init_65 (by decide) ?_
  refine lv_bipush (v := 30) hx hb dX4_init_67 (by decide) ?_
  refine va_iast hx hb hK hP hD hS 1 0 rfl rfl (vp_in_nI (n := 10) (N := 78) (by decide) (by decide)) dX4_init_69 (fun H locs hP hD hS => ?_)
  refine lv_aload_n hx hb dX4_init_70 rfl (lv_at hl 0 rfl) ?_
  refine va_get hx hb hts in_X4_init_0 hown hK hP 0 rfl rfl 0 (by decide) (hts _ k_X4_init_7) (fun _ h9 => h9) rfl dX4_init_71 ?_
  refine lv_bipush (v := 11) hx hb dX4_init_74 (by decide) ?_
  refine lv_bipush (v := 10) hx hb dX4_init_76 (by decide) ?_
  refine va_iast hx hb hK hP hD hS 1 0 rfl rfl (vp_in_nI (n := 11) (N := 78) (by decide) (by decide)) dX4_init_78 (fun H locs hP hD hS => ?_)
  refine lv_aload_n hx hb dX4_init_79 rfl (lv_at hl 0 rfl) ?_
  refine va_get hx hb hts in_X4_init_0 hown hK hP 0 rfl rfl 0 (by decide) (hts _ k_X4_init_7) (fun _ h9 => h9) rfl dX4_init_80 ?_
  refine lv_bipush (v := 12) hx hb dX4_init_83 (by decide) ?_
  refine lv_iconst (v := 4) hx hb dX4_init_85 (by decide) ?_
  refine va_iast hx hb hK hP hD hS 1 0 rfl rfl (vp_in_nI (n := 12) (N := 78) (by decide) (by decide)) dX4_init_86 (fun H locs hP hD hS => ?_)
  refine lv_aload_n hx hb dX4_init_87 rfl (lv_at hl 0 rfl) ?_
  refine va_get hx hb hts in_X4_init_0 hown hK hP 0 rfl rfl 0 (by decide) (hts _ k_X4_init_7) (fun _ h9 => h9) rfl dX4_init_88 ?_
  refine lv_bipush (v := 13) hx hb dX4_init_91 (by decide) ?_
  refine lv_bipush (v := 60) hx hb dX4_init_93 (by decide) ?_
  refine va_iast hx hb hK hP hD hS 1 0 rfl rfl (vp_in_nI (n := 13) (N := 78) (by decide) (by decide)) dX4_init_95 (fun H locs hP hD hS => ?_)
  exact W.vret hx hb hr (fun t ht hW => ⟨⟨(q0, q1, q2, q3, q4, ca0, ca1, ca2, ca3, ca4), rfl, trivial, ⟨by rw [ht]; exact hP, va_K.moved hW.alike hK, hD⟩⟩, hS.F ht⟩) hS.2.2 dX4_init_96
