/-! ===== the mean: walks ===== -/
section MMEANR
variable {cA : Nat → ClassId} {ad : Nat → Nat} {D : va_G} {own : String} {ws : List Cond} {cc : ByteArray} {nL : Nat} {ret : Option FieldType} {d pc n : Nat} {lv : List (Option Value)} {st rest : List Value} {M : Mem} {Q : QT}
theorem metofWF {l : Launch} {y : MethodName} {ws ws' : List Cond} {rm : Room} {Pc : Array Value → State → Prop} {Qc : Array Value → State → Outcome → State → Prop} {mc ms : Nat} {free : Addr → Prop} {cc : ByteArray} {maxL : Nat} {ret : Option FieldType}
    (hy : plainFor y = true) (hw : ws = Cond.code y cc maxL ret :: ws')
    (body : ∀ p e s m args below meth c s₁, BodyLoose p l y (headSpec ws rm) cc maxL ret e s m args below meth c s₁ → c.maxLocals = maxL → Pc args s →
      W p l e (headSpec ws rm).room s m args below meth c s.heap [] 0 0 (MQ below Qc args s mc ms free) (entryFrame m args maxL)) : Met l y ws rm Pc Qc mc ms free := by
  refine MetFree.of_bodySF (code := cc) (maxLocals := maxL) (ret := ret) hy ?_ ?_
  · intro args s m h hn
    obtain ⟨meth, c, h1, h2, h3, h4, h5, h6, -, -⟩ := Cond.code_spec hn (atoms_spec (ws := ws) h _ (by rw [hw]; exact List.mem_cons_self))
    exact ⟨meth, c, h1, h2, h3, h4, h5, h6⟩
  · intro p e s m args below meth c s₁ B hml hP _
    have hh0 : s₁.heap = s.heap := by rw [B.state]; rfl
    have X0 : Stand p l e (headSpec ws rm).room s m args below meth c s₁ [] 0 0 := Stand.of_body B
    obtain ⟨t, a1, o, b1, b2, b3, b4⟩ := body p e s m args below meth c s₁ B hml hP s₁ hh0 X0
    exact ⟨t, o, a1, b1, b2, b3, b4⟩
theorem PM_ofF {cA : Nat → ClassId} {ad : Nat → Nat} {D : va_G} {y : MethodName} {ws ws' : List Cond} {cc : ByteArray} {nL : Nat} {ret : Option FieldType} {d : Nat} {av : List Value} {lv : List (Option Value)} {M : Mem} {Q : QT}
    (hy : plainFor y = true) (hw : ws = Cond.code y cc nL ret :: ws') (hlen : (lg_sl av).length ≤ nL) (hlv : lv_args 0 av = prs 0 lv)
    (k : PW cA ad D y.cls ws cc nL ret d 0 lv [] M Q) : PM cA ad D y ws d av M Q := by
  intro hI l
  refine metofWF (cc := cc) (maxL := nL) (ret := ret) hy hw ?_
  intro p e s m args below meth c s₁ B hml hv
  obtain ⟨rfl, hW, hE⟩ := hv
  have hl := lv_entry av (n := nL) hlen
  rw [lg_entry_eq]
  rw [hlv] at hl
  exact k p l e s m _ below meth c s.heap [] _ ⟨B.exec, B.bytes, hml, findClass_of_methodNamed B.named, atoms_spec (ws := ws) B.pre, B.returns, B.notSynchronized, hE, hI⟩ hW va_S.rf hl
theorem ldcwF0 {p : Program} {l : Launch} {e : Env} {R : Room} {s T : State} {m : MethodId} {args : Array Value} {below : List Frame} {meth : Method} {c : Code} {locs : List Loc} {cells slots : Nat} (X : Stand p l e R s m args below meth c T locs cells slots) (hexec : p.tables.exec = Jvm.exec) {own : String} {index : Nat} {v : UInt32} (hown : s.vm.findClass own = some m.cls)
    (hconst : (Cond.constantFloat own index v).before args s = true) {g : JFrame} (hg : g.method = m) (hdg : decode c.code g.pc = .ok (.ldc_w index, 3)) :
    ∀ target, Steps p.tables e below (T.setTop { g with pc := g.pc + 3, stack := .float v :: g.stack }) target → Steps p.tables e below (T.setTop g) target := by
  obtain ⟨k, cf, hk, hcf, hcp⟩ := Cond.constantFloat_spec hown hconst
  obtain ⟨k', hk', he⟩ := X.warmed.alike.2.2 _ _ hk
  intro target hrest
  subst hg
  jvm_step X.here [hexec, hdg, ldc_w.wp_float (s := T) (f := g) X.here.top hk' (by rw [he]; exact hcf) hcp]
  exact hrest
theorem r_ldcwf {i : Nat} {v : UInt32} (h : decode cc pc = .ok (.ldc_w i, 3)) (hw : Cond.constantFloat own i v ∈ ws) (hn : pc + 3 = n) (kk : PW cA ad D own ws cc nL ret d n lv (.float v :: st) M Q) : PW cA ad D own ws cc nL ret d pc lv (st) M Q := by
  intro p l e s m args below meth c H locs ls E hW hS hl
  subst hn
  intro T hT X
  obtain ⟨t, a, b⟩ := kk p l e s m args below meth c H locs ls E hW hS hl T hT X
  exact ⟨t, ldcwF0 X E.1 E.2.2.2.1 (E.2.2.2.2.1 _ hw) (g := F0 m pc ls st) rfl (by rw [E.2.1]; exact h) t a, b⟩
theorem r_f2raw {i : Nat} {x : UInt32} (hd : 1 ≤ d) (h1 : Cond.methodLink own i ⟨"java/lang/Float", "floatToRawIntBits", "(F)I"⟩ ∈ ws) (h2 : Cond.native ⟨"java/lang/Float", "floatToRawIntBits", "(F)I"⟩ ∈ ws) (h3 : Cond.static ⟨"java/lang/Float", "floatToRawIntBits", "(F)I"⟩ ∈ ws) (h4 : Cond.initialized "java/lang/Float" ∈ ws) (hst : (st.map fun v => v.category).sum ≤ 8) (h : decode cc pc = .ok (.invokestatic i, 3)) (hn : pc + 3 = n) (kk : PW cA ad D own ws cc nL ret d n lv (.int x.toInt32 :: st) M Q) : PW cA ad D own ws cc nL ret d pc lv (.float x :: st) M Q := by
  intro p l e s m args below meth c H locs ls E hW hS hl
  subst hn
  exact vn_f2i E.1 E.2.1 (E.2.2.1.trans hl.1.symm) E.2.2.2.1 (E.2.2.2.2.1 _ h1) (E.2.2.2.2.1 _ h2) (E.2.2.2.2.1 _ h3) (E.2.2.2.2.1 _ h4) hd (by show _ ≤ 32 * d; omega) h (kk p l e s m args below meth c H locs ls E hW hS hl)
end MMEANR
section MMEAN
variable {cA : Nat → ClassId} {ad : Nat → Nat} {D : va_G} {M : Mem}
theorem kA_f2i : Cond.methodLink RJxf58ca 74 ⟨"java/lang/Float", "floatToRawIntBits", "(F)I"⟩ ∈ wsJxf58ca_floatToIntBits_5c35a := by decide +kernel
theorem kB_f2i : Cond.native ⟨"java/lang/Float", "floatToRawIntBits", "(F)I"⟩ ∈ wsJxf58ca_floatToIntBits_5c35a := by decide +kernel
theorem kC_f2i : Cond.static ⟨"java/lang/Float", "floatToRawIntBits", "(F)I"⟩ ∈ wsJxf58ca_floatToIntBits_5c35a := by decide +kernel
theorem kD_f2i : Cond.initialized "java/lang/Float" ∈ wsJxf58ca_floatToIntBits_5c35a := by decide +kernel
set_option maxHeartbeats 4000000 in
set_option maxRecDepth 100000 in
theorem m_isNaN {x : UInt32} (hx : Op.cmpValue (FP.fcmp x x) .l = 0) : C_Jxf58ca_isNaN_12338 cA ad D [.float x] M (Ri 0 M) := by
  refine PM_ofF (lv := [some (.float x)]) (by decide +kernel) rfl (Nat.le_of_ble_eq_true rfl) rfl ?_
  refine r_fl0 (n := 1) dJxf58ca_isNaN_12338_0 rfl ?_
  refine r_fl0 (n := 2) dJxf58ca_isNaN_12338_1 rfl ?_
  refine r_fcmp (n := 3) dJxf58ca_isNaN_12338_2 rfl ?_
  refine r_if_eq (tgt := 10) (n := 6) dJxf58ca_isNaN_12338_3 (by decide) rfl (fun c_3 => ?_) (fun c_3 => ?_)
  · refine r_iconst (v := 0) (n := 11) dJxf58ca_isNaN_12338_10 (by decide) rfl ?_
    exact e_z dJxf58ca_isNaN_12338_11 rfl (by decide) rfl rfl
  · exact absurd c_3 (fun q => q hx)

set_option maxHeartbeats 4000000 in
set_option maxRecDepth 100000 in
theorem m_floatToIntBits {x : UInt32} (hx : Op.cmpValue (FP.fcmp x x) .l = 0) : C_Jxf58ca_floatToIntBits_5c35a cA ad D [.float x] M (Ri x.toInt32 M) := by
  refine PM_ofF (lv := [some (.float x)]) (by decide +kernel) rfl (Nat.le_of_ble_eq_true rfl) rfl ?_
  refine r_fl0 (n := 1) dJxf58ca_floatToIntBits_5c35a_0 rfl ?_
  refine cS_i (n := 4) (np := 1) (m_isNaN hx) gJxf58ca_floatToIntBits_5c35a_Jxf58ca_isNaN_12338 rfl (by decide +kernel) rfl (by decide) (by decide) dJxf58ca_floatToIntBits_5c35a_1 rfl rfl (Nat.le_of_ble_eq_true rfl) ?_
  refine r_if_ne (tgt := 12) (n := 7) dJxf58ca_floatToIntBits_5c35a_4 (by decide) rfl (fun c_4 => ?_) (fun c_4 => ?_)
  · exact absurd c_4 (fun q => q rfl)
  · try replace c_4 := i10 c_4
    refine r_fl0 (n := 8) dJxf58ca_floatToIntBits_5c35a_7 rfl ?_
    refine r_f2raw (n := 11) (by decide) kA_f2i kB_f2i kC_f2i kD_f2i (by decide) dJxf58ca_floatToIntBits_5c35a_8 rfl ?_
    exact e_i dJxf58ca_floatToIntBits_5c35a_11 rfl rfl rfl

set_option maxHeartbeats 4000000 in
set_option maxRecDepth 100000 in
theorem l_bits_dn {x0 : UInt32} {Q : QT} : ∀ (m i : Nat), i + m = 127 → ∀ (x : UInt32) (e : Int32), dnK m x = true → (∀ j : Int32, P_X3_bitsOf cA ad D 39 [some (.float x0), some (.float (dnF m x e).1), some (.int (dnF m x e).2), some (.int j)] [] M Q) → P_X3_bitsOf cA ad D 14 [some (.float x0), some (.float x), some (.int e), some (.int (nI i))] [] M Q := by
  intro m
  induction m with
  | zero =>
    intro i hi x e hk K
    refine r_il3 (n := 15) dX3_bitsOf_14 rfl ?_
    refine r_bipush (v := 127) (n := 17) dX3_bitsOf_15 (by decide) rfl ?_
    refine r_icmp_ge (tgt := 39) (n := 20) dX3_bitsOf_17 (by decide) rfl (fun c_17 => ?_) (fun c_17 => ?_)
    · exact K _
    · exact absurd c_17 (fun q => q (nI_le (a := 127) (b := i) (by omega) (by omega)))
  | succ m ih =>
    intro i hi x e hk K
    refine r_il3 (n := 15) dX3_bitsOf_14 rfl ?_
    refine r_bipush (v := 127) (n := 17) dX3_bitsOf_15 (by decide) rfl ?_
    refine r_icmp_ge (tgt := 39) (n := 20) dX3_bitsOf_17 (by decide) rfl (fun c_17 => ?_) (fun c_17 => ?_)
    · exact absurd c_17 (nI_ge (a := i) (b := 127) (by omega) (by omega))
    · refine r_fl1 (n := 21) dX3_bitsOf_20 rfl ?_
      refine r_fconst2 (n := 22) dX3_bitsOf_21 rfl ?_
      refine r_fcmp (n := 23) dX3_bitsOf_22 rfl ?_
      refine r_if_lt (tgt := 39) (n := 26) dX3_bitsOf_23 (by decide) rfl (fun c_23 => ?_) (fun c_23 => ?_)
      · rw [dnF, if_pos c_23] at K
        exact K _
      · rw [dnK, if_neg c_23, Bool.and_eq_true] at hk
        refine r_fl1 (n := 27) dX3_bitsOf_26 rfl ?_
        refine r_fconst2 (n := 28) dX3_bitsOf_27 rfl ?_
        refine r_fdiv (n := 29) dX3_bitsOf_28 (vfb_n hk.1) rfl ?_
        refine r_fs1 (n := 30) (by decide) rfl dX3_bitsOf_29 rfl ?_
        refine r_ii2 (n := 33) (by decide) rfl dX3_bitsOf_30 rfl rfl ?_
        refine r_ii3 (n := 36) (by decide) rfl dX3_bitsOf_33 rfl rfl ?_
        refine r_goto (tgt := 14) dX3_bitsOf_36 (by decide) ?_
        rw [dnF, if_neg c_23] at K
        rw [nI_inc]
        exact ih (i + 1) (by omega) _ _ hk.2 K

set_option maxHeartbeats 4000000 in
set_option maxRecDepth 100000 in
theorem l_bits_up {x0 : UInt32} {Q : QT} : ∀ (m i : Nat), i + m = 126 → ∀ (x : UInt32) (e : Int32), upK m x = true → (∀ j : Int32, P_X3_bitsOf cA ad D 66 [some (.float x0), some (.float (upF m x e).1), some (.int (upF m x e).2), some (.int j)] [] M Q) → P_X3_bitsOf cA ad D 41 [some (.float x0), some (.float x), some (.int e), some (.int (nI i))] [] M Q := by
  intro m
  induction m with
  | zero =>
    intro i hi x e hk K
    refine r_il3 (n := 42) dX3_bitsOf_41 rfl ?_
    refine r_bipush (v := 126) (n := 44) dX3_bitsOf_42 (by decide) rfl ?_
    refine r_icmp_ge (tgt := 66) (n := 47) dX3_bitsOf_44 (by decide) rfl (fun c_44 => ?_) (fun c_44 => ?_)
    · exact K _
    · exact absurd c_44 (fun q => q (nI_le (a := 126) (b := i) (by omega) (by omega)))
  | succ m ih =>
    intro i hi x e hk K
    refine r_il3 (n := 42) dX3_bitsOf_41 rfl ?_
    refine r_bipush (v := 126) (n := 44) dX3_bitsOf_42 (by decide) rfl ?_
    refine r_icmp_ge (tgt := 66) (n := 47) dX3_bitsOf_44 (by decide) rfl (fun c_44 => ?_) (fun c_44 => ?_)
    · exact absurd c_44 (nI_ge (a := i) (b := 126) (by omega) (by omega))
    · refine r_fl1 (n := 48) dX3_bitsOf_47 rfl ?_
      refine r_fconst1 (n := 49) dX3_bitsOf_48 rfl ?_
      refine r_fcmp (n := 50) dX3_bitsOf_49 rfl ?_
      refine r_if_ge (tgt := 66) (n := 53) dX3_bitsOf_50 (by decide) rfl (fun c_50 => ?_) (fun c_50 => ?_)
      · rw [upF, if_pos c_50] at K
        exact K _
      · rw [upK, if_neg c_50, Bool.and_eq_true] at hk
        refine r_fl1 (n := 54) dX3_bitsOf_53 rfl ?_
        refine r_fconst2 (n := 55) dX3_bitsOf_54 rfl ?_
        refine r_fmul (n := 56) dX3_bitsOf_55 (vfb_n hk.1) rfl ?_
        refine r_fs1 (n := 57) (by decide) rfl dX3_bitsOf_56 rfl ?_
        refine r_ii2 (n := 60) (by decide) rfl dX3_bitsOf_57 rfl rfl ?_
        refine r_ii3 (n := 63) (by decide) rfl dX3_bitsOf_60 rfl rfl ?_
        refine r_goto (tgt := 41) dX3_bitsOf_63 (by decide) ?_
        rw [upF, if_neg c_50] at K
        rw [nI_inc]
        exact ih (i + 1) (by omega) _ _ hk.2 K

set_option maxHeartbeats 4000000 in
set_option maxRecDepth 100000 in
theorem m_X3_bitsOf {x : UInt32} (hk : btK x = true) : C_X3_bitsOf cA ad D [.float x] M (Ri (btF x) M) := by
  refine PM_of (lv := [some (.float x), none, none, none]) (by decide +kernel) rfl (Nat.le_of_ble_eq_true rfl) rfl ?_
  refine r_fl0 (n := 1) dX3_bitsOf_0 rfl ?_
  refine r_fconst0 (n := 2) dX3_bitsOf_1 rfl ?_
  refine r_fcmp (n := 3) dX3_bitsOf_2 rfl ?_
  refine r_if_gt (tgt := 8) (n := 6) dX3_bitsOf_3 (by decide) rfl (fun c_3 => ?_) (fun c_3 => ?_)
  · rw [btK, if_pos c_3, Bool.and_eq_true, Bool.and_eq_true, Bool.and_eq_true] at hk
    refine r_fl0 (n := 9) dX3_bitsOf_8 rfl ?_
    refine r_fs1 (n := 10) (by decide) rfl dX3_bitsOf_9 rfl ?_
    refine r_iconst (v := 0) (n := 11) dX3_bitsOf_10 (by decide) rfl ?_
    refine r_is2 (n := 12) (by decide) rfl dX3_bitsOf_11 rfl ?_
    refine r_iconst (v := 0) (n := 13) dX3_bitsOf_12 (by decide) rfl ?_
    refine r_is3 (n := 14) (by decide) rfl dX3_bitsOf_13 rfl ?_
    refine l_bits_dn 127 0 rfl x 0 hk.1 (fun j => ?_)
    refine r_iconst (v := 0) (n := 40) dX3_bitsOf_39 (by decide) rfl ?_
    refine r_is3 (n := 41) (by decide) rfl dX3_bitsOf_40 rfl ?_
    refine l_bits_up 126 0 rfl _ _ hk.2.1 (fun j2 => ?_)
    refine r_fl1 (n := 67) dX3_bitsOf_66 rfl ?_
    refine r_fconst1 (n := 68) dX3_bitsOf_67 rfl ?_
    refine r_fsub (n := 69) dX3_bitsOf_68 (vfb_n hk.2.2.1) rfl ?_
    refine r_ldcwf (n := 72) dX3_bitsOf_69 k_X3_bitsOf_257 rfl ?_
    refine r_fmul (n := 73) dX3_bitsOf_72 (vfb_n hk.2.2.2) rfl ?_
    refine r_f2i (n := 74) dX3_bitsOf_73 rfl ?_
    refine r_is3 (n := 75) (by decide) rfl dX3_bitsOf_74 rfl ?_
    refine r_il2 (n := 76) dX3_bitsOf_75 rfl ?_
    refine r_bipush (v := 127) (n := 78) dX3_bitsOf_76 (by decide) rfl ?_
    refine r_iadd (n := 79) dX3_bitsOf_78 rfl ?_
    refine r_bipush (v := 23) (n := 81) dX3_bitsOf_79 (by decide) rfl ?_
    refine r_ishl (n := 82) dX3_bitsOf_81 rfl ?_
    refine r_il3 (n := 83) dX3_bitsOf_82 rfl ?_
    refine r_ior (n := 84) dX3_bitsOf_83 rfl ?_
    exact e_i dX3_bitsOf_84 rfl (by rw [btF, if_pos c_3]; rfl) rfl
  · refine r_iconst (v := 0) (n := 7) dX3_bitsOf_6 (by decide) rfl ?_
    exact e_i dX3_bitsOf_7 rfl (by rw [btF, if_neg c_3]) rfl

end MMEAN
