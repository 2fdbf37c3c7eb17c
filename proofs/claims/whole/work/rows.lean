section
-- ===== PART A: goes FIRST, ahead of the names: the tables' words, and 'selects' of the private methods out of them =====
/-- a private method of a class that the tables say can be made, by its rows of tables_1 -/
def lw_okq (q : MethodName × Nat) : Prop := (q.1.cls ≠ "java/lang/invoke/MethodHandle" ∧ q.1.cls ≠ "java/lang/invoke/VarHandle") ∧ Cond.instantiable q.1.cls q.2 ∈ tables_1 ∧ Cond.privateMethod q.1 ∈ tables_1 ∧ Cond.instanceMethod q.1 ∈ tables_1
theorem lw_p0 : lw_okq (⟨"BellowsRound", "commit", "(I)I"⟩, 9) := ⟨⟨by decide +kernel, by decide +kernel⟩, List.mem_of_getElem? (i := 10) (by decide +kernel), List.mem_of_getElem? (i := 218) (by decide +kernel), List.mem_of_getElem? (i := 219) (by decide +kernel)⟩
theorem lw_p1 : lw_okq (⟨"BellowsRound", "remember", "()V"⟩, 9) := ⟨⟨by decide +kernel, by decide +kernel⟩, List.mem_of_getElem? (i := 10) (by decide +kernel), List.mem_of_getElem? (i := 222) (by decide +kernel), List.mem_of_getElem? (i := 223) (by decide +kernel)⟩
theorem lw_p2 : lw_okq (⟨"BellowsRound", "dropOldestState", "()V"⟩, 9) := ⟨⟨by decide +kernel, by decide +kernel⟩, List.mem_of_getElem? (i := 10) (by decide +kernel), List.mem_of_getElem? (i := 226) (by decide +kernel), List.mem_of_getElem? (i := 227) (by decide +kernel)⟩
theorem lw_p3 : lw_okq (⟨"BellowsRound$State", "reasonOfSmithy", "(LBellowsRound$Smithy;)I"⟩, 15) := ⟨⟨by decide +kernel, by decide +kernel⟩, List.mem_of_getElem? (i := 18) (by decide +kernel), List.mem_of_getElem? (i := 277) (by decide +kernel), List.mem_of_getElem? (i := 278) (by decide +kernel)⟩
theorem lw_p4 : lw_okq (⟨"BellowsRound$State", "endDayOf", "(LBellowsRound$Smithy;)V"⟩, 15) := ⟨⟨by decide +kernel, by decide +kernel⟩, List.mem_of_getElem? (i := 18) (by decide +kernel), List.mem_of_getElem? (i := 313) (by decide +kernel), List.mem_of_getElem? (i := 314) (by decide +kernel)⟩
theorem lw_p5 : lw_okq (⟨"BellowsRound$State", "comesBefore", "(LBellowsRound$Smithy;LBellowsRound$Smithy;)Z"⟩, 15) := ⟨⟨by decide +kernel, by decide +kernel⟩, List.mem_of_getElem? (i := 18) (by decide +kernel), List.mem_of_getElem? (i := 396) (by decide +kernel), List.mem_of_getElem? (i := 397) (by decide +kernel)⟩
theorem lw_p6 : lw_okq (⟨"BellowsRound$State", "firstOnRoad", "(I)I"⟩, 15) := ⟨⟨by decide +kernel, by decide +kernel⟩, List.mem_of_getElem? (i := 18) (by decide +kernel), List.mem_of_getElem? (i := 409) (by decide +kernel), List.mem_of_getElem? (i := 410) (by decide +kernel)⟩
theorem lw_p7 : lw_okq (⟨"BellowsRound", "tryOrders", "()Z"⟩, 9) := ⟨⟨by decide +kernel, by decide +kernel⟩, List.mem_of_getElem? (i := 10) (by decide +kernel), List.mem_of_getElem? (i := 456) (by decide +kernel), List.mem_of_getElem? (i := 457) (by decide +kernel)⟩
theorem lw_p8 : lw_okq (⟨"BellowsRound$OrderText", "characterAt", "(I)I"⟩, 6) := ⟨⟨by decide +kernel, by decide +kernel⟩, List.mem_of_getElem? (i := 133) (by decide +kernel), List.mem_of_getElem? (i := 464) (by decide +kernel), List.mem_of_getElem? (i := 465) (by decide +kernel)⟩
theorem lw_p9 : lw_okq (⟨"BellowsRound", "keepFault", "(III)V"⟩, 9) := ⟨⟨by decide +kernel, by decide +kernel⟩, List.mem_of_getElem? (i := 10) (by decide +kernel), List.mem_of_getElem? (i := 474) (by decide +kernel), List.mem_of_getElem? (i := 475) (by decide +kernel)⟩
theorem lw_p10 : lw_okq (⟨"BellowsRoundModel", "changes", "()V"⟩, 15) := ⟨⟨by decide +kernel, by decide +kernel⟩, List.mem_of_getElem? (i := 491) (by decide +kernel), List.mem_of_getElem? (i := 553) (by decide +kernel), List.mem_of_getElem? (i := 554) (by decide +kernel)⟩
theorem lw_p11 : lw_okq (⟨"BellowsRoundModel", "sets", "(III)V"⟩, 15) := ⟨⟨by decide +kernel, by decide +kernel⟩, List.mem_of_getElem? (i := 491) (by decide +kernel), List.mem_of_getElem? (i := 557) (by decide +kernel), List.mem_of_getElem? (i := 558) (by decide +kernel)⟩
theorem lw_p12 : lw_okq (⟨"BellowsRoundModel", "isSmithy", "(I)Z"⟩, 15) := ⟨⟨by decide +kernel, by decide +kernel⟩, List.mem_of_getElem? (i := 491) (by decide +kernel), List.mem_of_getElem? (i := 583) (by decide +kernel), List.mem_of_getElem? (i := 584) (by decide +kernel)⟩
theorem lw_p13 : lw_okq (⟨"BellowsRoundModel", "whyNot", "(II)I"⟩, 15) := ⟨⟨by decide +kernel, by decide +kernel⟩, List.mem_of_getElem? (i := 491) (by decide +kernel), List.mem_of_getElem? (i := 587) (by decide +kernel), List.mem_of_getElem? (i := 588) (by decide +kernel)⟩
theorem lw_p14 : lw_okq (⟨"BellowsRoundModel", "of", "(II)I"⟩, 15) := ⟨⟨by decide +kernel, by decide +kernel⟩, List.mem_of_getElem? (i := 491) (by decide +kernel), List.mem_of_getElem? (i := 591) (by decide +kernel), List.mem_of_getElem? (i := 592) (by decide +kernel)⟩
theorem lw_p15 : lw_okq (⟨"BellowsRoundModel", "leatherOf", "(II)I"⟩, 15) := ⟨⟨by decide +kernel, by decide +kernel⟩, List.mem_of_getElem? (i := 491) (by decide +kernel), List.mem_of_getElem? (i := 598) (by decide +kernel), List.mem_of_getElem? (i := 599) (by decide +kernel)⟩
def lw_privs_1 : List (MethodName × Nat) := [(⟨"BellowsRound", "commit", "(I)I"⟩, 9), (⟨"BellowsRound", "remember", "()V"⟩, 9), (⟨"BellowsRound", "dropOldestState", "()V"⟩, 9), (⟨"BellowsRound$State", "reasonOfSmithy", "(LBellowsRound$Smithy;)I"⟩, 15), (⟨"BellowsRound$State", "endDayOf", "(LBellowsRound$Smithy;)V"⟩, 15), (⟨"BellowsRound$State", "comesBefore", "(LBellowsRound$Smithy;LBellowsRound$Smithy;)Z"⟩, 15), (⟨"BellowsRound$State", "firstOnRoad", "(I)I"⟩, 15), (⟨"BellowsRound", "tryOrders", "()Z"⟩, 9), (⟨"BellowsRound$OrderText", "characterAt", "(I)I"⟩, 6), (⟨"BellowsRound", "keepFault", "(III)V"⟩, 9), (⟨"BellowsRoundModel", "changes", "()V"⟩, 15), (⟨"BellowsRoundModel", "sets", "(III)V"⟩, 15), (⟨"BellowsRoundModel", "isSmithy", "(I)Z"⟩, 15), (⟨"BellowsRoundModel", "whyNot", "(II)I"⟩, 15), (⟨"BellowsRoundModel", "of", "(II)I"⟩, 15), (⟨"BellowsRoundModel", "leatherOf", "(II)I"⟩, 15)]
theorem lw_r1 : ∀ q ∈ lw_privs_1, lw_okq q := List.forall_mem_cons.mpr ⟨lw_p0, List.forall_mem_cons.mpr ⟨lw_p1, List.forall_mem_cons.mpr ⟨lw_p2, List.forall_mem_cons.mpr ⟨lw_p3, List.forall_mem_cons.mpr ⟨lw_p4, List.forall_mem_cons.mpr ⟨lw_p5, List.forall_mem_cons.mpr ⟨lw_p6, List.forall_mem_cons.mpr ⟨lw_p7, List.forall_mem_cons.mpr ⟨lw_p8, List.forall_mem_cons.mpr ⟨lw_p9, List.forall_mem_cons.mpr ⟨lw_p10, List.forall_mem_cons.mpr ⟨lw_p11, List.forall_mem_cons.mpr ⟨lw_p12, List.forall_mem_cons.mpr ⟨lw_p13, List.forall_mem_cons.mpr ⟨lw_p14, List.forall_mem_cons.mpr ⟨lw_p15, fun _ h => absurd h List.not_mem_nil⟩⟩⟩⟩⟩⟩⟩⟩⟩⟩⟩⟩⟩⟩⟩⟩
theorem lw_p16 : lw_okq (⟨"BellowsRoundModel", "mends", "(II)V"⟩, 15) := ⟨⟨by decide +kernel, by decide +kernel⟩, List.mem_of_getElem? (i := 491) (by decide +kernel), List.mem_of_getElem? (i := 602) (by decide +kernel), List.mem_of_getElem? (i := 603) (by decide +kernel)⟩
theorem lw_p17 : lw_okq (⟨"BellowsRoundModel", "owes", "(II)I"⟩, 15) := ⟨⟨by decide +kernel, by decide +kernel⟩, List.mem_of_getElem? (i := 491) (by decide +kernel), List.mem_of_getElem? (i := 606) (by decide +kernel), List.mem_of_getElem? (i := 607) (by decide +kernel)⟩
theorem lw_p18 : lw_okq (⟨"BellowsRoundModel", "isCold", "(I)Z"⟩, 15) := ⟨⟨by decide +kernel, by decide +kernel⟩, List.mem_of_getElem? (i := 491) (by decide +kernel), List.mem_of_getElem? (i := 618) (by decide +kernel), List.mem_of_getElem? (i := 619) (by decide +kernel)⟩
theorem lw_p19 : lw_okq (⟨"BellowsRoundModel", "ends", "()V"⟩, 15) := ⟨⟨by decide +kernel, by decide +kernel⟩, List.mem_of_getElem? (i := 491) (by decide +kernel), List.mem_of_getElem? (i := 626) (by decide +kernel), List.mem_of_getElem? (i := 627) (by decide +kernel)⟩
theorem lw_p20 : lw_okq (⟨"BellowsRoundModel", "ages", "(I)V"⟩, 15) := ⟨⟨by decide +kernel, by decide +kernel⟩, List.mem_of_getElem? (i := 491) (by decide +kernel), List.mem_of_getElem? (i := 630) (by decide +kernel), List.mem_of_getElem? (i := 631) (by decide +kernel)⟩
theorem lw_p21 : lw_okq (⟨"BellowsRoundModel", "leak", "(I)I"⟩, 15) := ⟨⟨by decide +kernel, by decide +kernel⟩, List.mem_of_getElem? (i := 491) (by decide +kernel), List.mem_of_getElem? (i := 634) (by decide +kernel), List.mem_of_getElem? (i := 635) (by decide +kernel)⟩
theorem lw_p22 : lw_okq (⟨"BellowsRoundModel", "coldOnes", "()I"⟩, 15) := ⟨⟨by decide +kernel, by decide +kernel⟩, List.mem_of_getElem? (i := 491) (by decide +kernel), List.mem_of_getElem? (i := 638) (by decide +kernel), List.mem_of_getElem? (i := 639) (by decide +kernel)⟩
theorem lw_p23 : lw_okq (⟨"BellowsRoundModel", "coldDays", "(I)I"⟩, 15) := ⟨⟨by decide +kernel, by decide +kernel⟩, List.mem_of_getElem? (i := 491) (by decide +kernel), List.mem_of_getElem? (i := 668) (by decide +kernel), List.mem_of_getElem? (i := 669) (by decide +kernel)⟩
theorem lw_p24 : lw_okq (⟨"BellowsRoundModel", "isAhead", "(IIII)Z"⟩, 15) := ⟨⟨by decide +kernel, by decide +kernel⟩, List.mem_of_getElem? (i := 491) (by decide +kernel), List.mem_of_getElem? (i := 680) (by decide +kernel), List.mem_of_getElem? (i := 681) (by decide +kernel)⟩
theorem lw_p25 : lw_okq (⟨"BellowsRoundModel", "nearest", "(I)I"⟩, 15) := ⟨⟨by decide +kernel, by decide +kernel⟩, List.mem_of_getElem? (i := 491) (by decide +kernel), List.mem_of_getElem? (i := 688) (by decide +kernel), List.mem_of_getElem? (i := 689) (by decide +kernel)⟩
theorem lw_p26 : lw_okq (⟨"BellowsRoundModel", "sum", "(I)I"⟩, 15) := ⟨⟨by decide +kernel, by decide +kernel⟩, List.mem_of_getElem? (i := 491) (by decide +kernel), List.mem_of_getElem? (i := 696) (by decide +kernel), List.mem_of_getElem? (i := 697) (by decide +kernel)⟩
theorem lw_p27 : lw_okq (⟨"BellowsRoundModel", "plays", "()Z"⟩, 15) := ⟨⟨by decide +kernel, by decide +kernel⟩, List.mem_of_getElem? (i := 491) (by decide +kernel), List.mem_of_getElem? (i := 730) (by decide +kernel), List.mem_of_getElem? (i := 731) (by decide +kernel)⟩
theorem lw_p28 : lw_okq (⟨"BellowsRoundModel", "reads", "()Z"⟩, 15) := ⟨⟨by decide +kernel, by decide +kernel⟩, List.mem_of_getElem? (i := 491) (by decide +kernel), List.mem_of_getElem? (i := 734) (by decide +kernel), List.mem_of_getElem? (i := 735) (by decide +kernel)⟩
theorem lw_p29 : lw_okq (⟨"BellowsRoundModel", "isAt", "(II)Z"⟩, 15) := ⟨⟨by decide +kernel, by decide +kernel⟩, List.mem_of_getElem? (i := 491) (by decide +kernel), List.mem_of_getElem? (i := 738) (by decide +kernel), List.mem_of_getElem? (i := 739) (by decide +kernel)⟩
theorem lw_p30 : lw_okq (⟨"BellowsRoundModel", "calls", "()I"⟩, 15) := ⟨⟨by decide +kernel, by decide +kernel⟩, List.mem_of_getElem? (i := 491) (by decide +kernel), List.mem_of_getElem? (i := 742) (by decide +kernel), List.mem_of_getElem? (i := 743) (by decide +kernel)⟩
def lw_privs_2 : List (MethodName × Nat) := [(⟨"BellowsRoundModel", "mends", "(II)V"⟩, 15), (⟨"BellowsRoundModel", "owes", "(II)I"⟩, 15), (⟨"BellowsRoundModel", "isCold", "(I)Z"⟩, 15), (⟨"BellowsRoundModel", "ends", "()V"⟩, 15), (⟨"BellowsRoundModel", "ages", "(I)V"⟩, 15), (⟨"BellowsRoundModel", "leak", "(I)I"⟩, 15), (⟨"BellowsRoundModel", "coldOnes", "()I"⟩, 15), (⟨"BellowsRoundModel", "coldDays", "(I)I"⟩, 15), (⟨"BellowsRoundModel", "isAhead", "(IIII)Z"⟩, 15), (⟨"BellowsRoundModel", "nearest", "(I)I"⟩, 15), (⟨"BellowsRoundModel", "sum", "(I)I"⟩, 15), (⟨"BellowsRoundModel", "plays", "()Z"⟩, 15), (⟨"BellowsRoundModel", "reads", "()Z"⟩, 15), (⟨"BellowsRoundModel", "isAt", "(II)Z"⟩, 15), (⟨"BellowsRoundModel", "calls", "()I"⟩, 15)]
theorem lw_r2 : ∀ q ∈ lw_privs_2, lw_okq q := List.forall_mem_cons.mpr ⟨lw_p16, List.forall_mem_cons.mpr ⟨lw_p17, List.forall_mem_cons.mpr ⟨lw_p18, List.forall_mem_cons.mpr ⟨lw_p19, List.forall_mem_cons.mpr ⟨lw_p20, List.forall_mem_cons.mpr ⟨lw_p21, List.forall_mem_cons.mpr ⟨lw_p22, List.forall_mem_cons.mpr ⟨lw_p23, List.forall_mem_cons.mpr ⟨lw_p24, List.forall_mem_cons.mpr ⟨lw_p25, List.forall_mem_cons.mpr ⟨lw_p26, List.forall_mem_cons.mpr ⟨lw_p27, List.forall_mem_cons.mpr ⟨lw_p28, List.forall_mem_cons.mpr ⟨lw_p29, List.forall_mem_cons.mpr ⟨lw_p30, fun _ h => absurd h List.not_mem_nil⟩⟩⟩⟩⟩⟩⟩⟩⟩⟩⟩⟩⟩⟩⟩
def lw_privs : List (MethodName × Nat) := lw_privs_1 ++ (lw_privs_2)
def lw_tbl : List Cond := k2_sels lw_privs ++ tables_1
theorem lw_privs_ok : ∀ q ∈ lw_privs, lw_okq q := by
  show ∀ q ∈ lw_privs_1 ++ (lw_privs_2), lw_okq q
  exact List.forall_mem_append.mpr ⟨lw_r1, lw_r2⟩
/-- the streams that the claim lets the run draw from -/
abbrev lw_cs : List Choice := [Jvm.Choice.named "NaN.bits"]
theorem lw_bits : nanBits ∈ lw_cs := by first | decide | exact List.mem_cons_self | simp [lw_cs, nanBits]
end
section
/-! ===== BEGIN words of one list among another's, by their places ===== -/
theorem goodIn_r {big : List Cond} (ws : List Cond) (ps : List Nat) (hp : ws = ps.filterMap (fun i => big[i]?)) (h : ws.all goodWord = true) : GoodIn big ws := by
  intro w hw
  have h1 := List.all_eq_true.mp h w hw
  rw [hp] at hw
  obtain ⟨i, -, hi⟩ := List.mem_filterMap.mp hw
  have hm : w ∈ big := by first | exact List.mem_of_getElem? hi | exact List.getElem?_mem hi
  exact ⟨hm, good_of_word h1⟩
theorem goodIn_app {big a b : List Cond} (ha : GoodIn big a) (hb : GoodIn big b) : GoodIn big (a ++ b) := fun w h => (List.mem_append.mp h).elim (ha w) (hb w)
theorem goodIn_ca {big a b : List Cond} {c : Cond} (ha : GoodIn big (c :: a)) (hb : GoodIn big b) : GoodIn big (c :: (a ++ b)) := fun w h => (List.mem_cons.mp h).elim (fun e => ha w (List.mem_cons.mpr (Or.inl e))) (fun h => (List.mem_append.mp h).elim (fun h => ha w (List.mem_cons.mpr (Or.inr h))) (hb w))
theorem goodIn_sub {big ws : List Cond} (hm : ∀ w ∈ ws, w ∈ big) (h : ws.all goodWord = true) : GoodIn big ws := fun w hw => ⟨hm w hw, good_of_word (List.all_eq_true.mp h w hw)⟩
/-! ===== END ===== -/

/-! ===== BEGIN printed: names, fields, word lists, decode rows ===== -/
def RX0 : String := "BellowsRound$OrderText"
def TX0 : u_T := fun k => match k with
  | 0 => ("BellowsRound$OrderText", "characters", "[C", true)
  | 1 => ("BellowsRound$OrderText", "length", "I", false)
  | 2 => ("BellowsRound$OrderText", "letter", "I", false)
  | 3 => ("BellowsRound$OrderText", "number", "I", false)
  | 4 => ("BellowsRound$OrderText", "behind", "I", false)
  | _ => ("BellowsRound$OrderText", "brokenAt", "I", false)
def tyX0 : Nat → FieldType := fun k => match k with
  | 0 => .array .char
  | 1 => .int
  | 2 => .int
  | 3 => .int
  | 4 => .int
  | _ => .int
abbrev wsX00 : List Cond := u_ws RX0 TX0 6
theorem nmX0 : ∀ a, a < 6 → ∀ b, b < 6 → a ≠ b → (TX0 a).2.1 ≠ (TX0 b).2.1 := by decide +kernel
theorem tyX0_ok : ∀ k, k < 6 → parseFieldDescriptor (TX0 k).2.2.1 = some (tyX0 k) := by decide +kernel
abbrev cX0_init : ByteArray := prog_2_method_1_code
def yX0_init : MethodName := ⟨RX0, "<init>", "()V"⟩
abbrev cX0_append : ByteArray := prog_2_method_2_code
def yX0_append : MethodName := ⟨RX0, "append", "(C)I"⟩
abbrev cX0_characterAt : ByteArray := prog_2_method_3_code
def yX0_characterAt : MethodName := ⟨RX0, "characterAt", "(I)I"⟩
abbrev cX0_readOrder : ByteArray := prog_2_method_4_code
def yX0_readOrder : MethodName := ⟨RX0, "readOrder", "(I)Z"⟩
abbrev cX0_isOrderLetter : ByteArray := prog_2_method_5_code
def yX0_isOrderLetter : MethodName := ⟨RX0, "isOrderLetter", "(I)Z"⟩
abbrev cX0_isDigit : ByteArray := prog_2_method_6_code
def yX0_isDigit : MethodName := ⟨RX0, "isDigit", "(I)Z"⟩
def RX1 : String := "BellowsRound$Smithy"
def TX1 : u_T := fun k => match k with
  | 0 => ("BellowsRound$Smithy", "mile", "I", false)
  | 1 => ("BellowsRound$Smithy", "size", "I", false)
  | 2 => ("BellowsRound$Smithy", "wear", "I", false)
  | 3 => ("BellowsRound$Smithy", "heat", "I", false)
  | 4 => ("BellowsRound$Smithy", "coldDays", "I", false)
  | 5 => ("BellowsRound$Smithy", "debt", "I", false)
  | 6 => ("BellowsRound$Smithy", "paid", "I", false)
  | _ => ("BellowsRound$Smithy", "mends", "I", false)
def tyX1 : Nat → FieldType := fun k => match k with
  | 0 => .int
  | 1 => .int
  | 2 => .int
  | 3 => .int
  | 4 => .int
  | 5 => .int
  | 6 => .int
  | _ => .int
abbrev wsX10 : List Cond := u_ws RX1 TX1 8
theorem nmX1 : ∀ a, a < 8 → ∀ b, b < 8 → a ≠ b → (TX1 a).2.1 ≠ (TX1 b).2.1 := by decide +kernel
theorem tyX1_ok : ∀ k, k < 8 → parseFieldDescriptor (TX1 k).2.2.1 = some (tyX1 k) := by decide +kernel
abbrev cX1_init : ByteArray := prog_3_method_1_code
def yX1_init : MethodName := ⟨RX1, "<init>", "()V"⟩
abbrev cX1_beginAt : ByteArray := prog_3_method_2_code
def yX1_beginAt : MethodName := ⟨RX1, "beginAt", "(II)V"⟩
abbrev cX1_copyFrom : ByteArray := prog_3_method_3_code
def yX1_copyFrom : MethodName := ⟨RX1, "copyFrom", "(LBellowsRound$Smithy;)V"⟩
abbrev cX1_leatherOfMend : ByteArray := prog_3_method_4_code
def yX1_leatherOfMend : MethodName := ⟨RX1, "leatherOfMend", "(Z)I"⟩
abbrev cX1_wearBehindMend : ByteArray := prog_3_method_5_code
def yX1_wearBehindMend : MethodName := ⟨RX1, "wearBehindMend", "(Z)I"⟩
def RX2 : String := "BellowsRound$State"
def TX2 : u_T := fun k => match k with
  | 0 => ("BellowsRound$State", "smithies", "[LBellowsRound$Smithy;", true)
  | 1 => ("BellowsRound$State", "smithyCount", "I", false)
  | 2 => ("BellowsRound$State", "cold", "I", false)
  | 3 => ("BellowsRound$State", "hours", "I", false)
  | 4 => ("BellowsRound$State", "rate", "I", false)
  | 5 => ("BellowsRound$State", "patience", "I", false)
  | 6 => ("BellowsRound$State", "day", "I", false)
  | 7 => ("BellowsRound$State", "mile", "I", false)
  | 8 => ("BellowsRound$State", "hoursLeft", "I", false)
  | 9 => ("BellowsRound$State", "leather", "I", false)
  | 10 => ("BellowsRound$State", "money", "I", false)
  | 11 => ("BellowsRound$State", "paidForLeather", "I", false)
  | 12 => ("BellowsRound$State", "owedForMends", "I", false)
  | 13 => ("BellowsRound$State", "longestCold", "I", false)
  | _ => ("BellowsRound$State", "milesWalked", "I", false)
def tyX2 : Nat → FieldType := fun k => match k with
  | 0 => .array (.object "BellowsRound$Smithy")
  | 1 => .int
  | 2 => .int
  | 3 => .int
  | 4 => .int
  | 5 => .int
  | 6 => .int
  | 7 => .int
  | 8 => .int
  | 9 => .int
  | 10 => .int
  | 11 => .int
  | 12 => .int
  | 13 => .int
  | _ => .int
abbrev wsX20 : List Cond := u_ws RX2 TX2 15
theorem nmX2 : ∀ a, a < 15 → ∀ b, b < 15 → a ≠ b → (TX2 a).2.1 ≠ (TX2 b).2.1 := by decide +kernel
theorem tyX2_ok : ∀ k, k < 15 → parseFieldDescriptor (TX2 k).2.2.1 = some (tyX2 k) := by decide +kernel
abbrev cX2_init : ByteArray := prog_4_method_1_code
def yX2_init : MethodName := ⟨RX2, "<init>", "()V"⟩
abbrev cX2_copyFrom : ByteArray := prog_4_method_2_code
def yX2_copyFrom : MethodName := ⟨RX2, "copyFrom", "(LBellowsRound$State;)V"⟩
abbrev cX2_find : ByteArray := prog_4_method_3_code
def yX2_find : MethodName := ⟨RX2, "find", "(I)LBellowsRound$Smithy;"⟩
abbrev cX2_addSmithy : ByteArray := prog_4_method_4_code
def yX2_addSmithy : MethodName := ⟨RX2, "addSmithy", "(II)I"⟩
abbrev cX2_walkTo : ByteArray := prog_4_method_5_code
def yX2_walkTo : MethodName := ⟨RX2, "walkTo", "(I)I"⟩
abbrev cX2_buyLeather : ByteArray := prog_4_method_6_code
def yX2_buyLeather : MethodName := ⟨RX2, "buyLeather", "(I)I"⟩
abbrev cX2_mendBellows : ByteArray := prog_4_method_7_code
def yX2_mendBellows : MethodName := ⟨RX2, "mendBellows", "(IZ)I"⟩
abbrev cX2_collectDebt : ByteArray := prog_4_method_8_code
def yX2_collectDebt : MethodName := ⟨RX2, "collectDebt", "(I)I"⟩
abbrev cX2_endDays : ByteArray := prog_4_method_9_code
def yX2_endDays : MethodName := ⟨RX2, "endDays", "(I)I"⟩
abbrev cX2_endDayOf : ByteArray := prog_4_method_10_code
def yX2_endDayOf : MethodName := ⟨RX2, "endDayOf", "(LBellowsRound$Smithy;)V"⟩
abbrev cX2_changeSetting : ByteArray := prog_4_method_11_code
def yX2_changeSetting : MethodName := ⟨RX2, "changeSetting", "(II)I"⟩
abbrev cX2_isInRange : ByteArray := prog_4_method_12_code
def yX2_isInRange : MethodName := ⟨RX2, "isInRange", "(II)Z"⟩
abbrev cX2_doOrder : ByteArray := prog_4_method_13_code
def yX2_doOrder : MethodName := ⟨RX2, "doOrder", "(II)I"⟩
abbrev cX2_isCold : ByteArray := prog_4_method_14_code
def yX2_isCold : MethodName := ⟨RX2, "isCold", "(I)Z"⟩
abbrev cX2_coldSet : ByteArray := prog_4_method_15_code
def yX2_coldSet : MethodName := ⟨RX2, "coldSet", "()I"⟩
abbrev cX2_wearTogether : ByteArray := prog_4_method_16_code
def yX2_wearTogether : MethodName := ⟨RX2, "wearTogether", "()I"⟩
abbrev cX2_debtsTogether : ByteArray := prog_4_method_17_code
def yX2_debtsTogether : MethodName := ⟨RX2, "debtsTogether", "()I"⟩
abbrev cX2_priceOfMend : ByteArray := prog_4_method_18_code
def yX2_priceOfMend : MethodName := ⟨RX2, "priceOfMend", "(LBellowsRound$Smithy;Z)I"⟩
abbrev cX2_reasonAgainst : ByteArray := prog_4_method_19_code
def yX2_reasonAgainst : MethodName := ⟨RX2, "reasonAgainst", "(LBellowsRound$Smithy;Z)I"⟩
abbrev cX2_reasonOfSmithy : ByteArray := prog_4_method_20_code
def yX2_reasonOfSmithy : MethodName := ⟨RX2, "reasonOfSmithy", "(LBellowsRound$Smithy;)I"⟩
abbrev cX2_coldDaysAhead : ByteArray := prog_4_method_21_code
def yX2_coldDaysAhead : MethodName := ⟨RX2, "coldDaysAhead", "(LBellowsRound$Smithy;)I"⟩
abbrev cX2_smithyToBeNext : ByteArray := prog_4_method_22_code
def yX2_smithyToBeNext : MethodName := ⟨RX2, "smithyToBeNext", "()I"⟩
abbrev cX2_comesBefore : ByteArray := prog_4_method_23_code
def yX2_comesBefore : MethodName := ⟨RX2, "comesBefore", "(LBellowsRound$Smithy;LBellowsRound$Smithy;)Z"⟩
abbrev cX2_tellRound : ByteArray := prog_4_method_24_code
def yX2_tellRound : MethodName := ⟨RX2, "tellRound", "(II)I"⟩
abbrev cX2_firstOnRoad : ByteArray := prog_4_method_25_code
def yX2_firstOnRoad : MethodName := ⟨RX2, "firstOnRoad", "(I)I"⟩
def RX3 : String := "BellowsRound"
def TX3 : u_T := fun k => match k with
  | 0 => ("BellowsRound", "now", "LBellowsRound$State;", false)
  | 1 => ("BellowsRound", "trial", "LBellowsRound$State;", false)
  | 2 => ("BellowsRound", "history", "[LBellowsRound$State;", true)
  | 3 => ("BellowsRound", "states", "I", false)
  | 4 => ("BellowsRound", "text", "LBellowsRound$OrderText;", true)
  | 5 => ("BellowsRound", "ordersTried", "I", false)
  | 6 => ("BellowsRound", "faultPosition", "I", false)
  | 7 => ("BellowsRound", "faultReason", "I", false)
  | _ => ("BellowsRound", "faultCause", "I", false)
def tyX3 : Nat → FieldType := fun k => match k with
  | 0 => .object "BellowsRound$State"
  | 1 => .object "BellowsRound$State"
  | 2 => .array (.object "BellowsRound$State")
  | 3 => .int
  | 4 => .object "BellowsRound$OrderText"
  | 5 => .int
  | 6 => .int
  | 7 => .int
  | _ => .int
abbrev wsX30 : List Cond := u_ws RX3 TX3 9
theorem nmX3 : ∀ a, a < 9 → ∀ b, b < 9 → a ≠ b → (TX3 a).2.1 ≠ (TX3 b).2.1 := by decide +kernel
theorem tyX3_ok : ∀ k, k < 9 → parseFieldDescriptor (TX3 k).2.2.1 = some (tyX3 k) := by decide +kernel
abbrev cX3_init : ByteArray := prog_1_method_1_code
def yX3_init : MethodName := ⟨RX3, "<init>", "()V"⟩
abbrev cX3_smithy : ByteArray := prog_1_method_2_code
def yX3_smithy : MethodName := ⟨RX3, "smithy", "(II)I"⟩
abbrev cX3_walk : ByteArray := prog_1_method_3_code
def yX3_walk : MethodName := ⟨RX3, "walk", "(I)I"⟩
abbrev cX3_buy : ByteArray := prog_1_method_4_code
def yX3_buy : MethodName := ⟨RX3, "buy", "(I)I"⟩
abbrev cX3_patch : ByteArray := prog_1_method_5_code
def yX3_patch : MethodName := ⟨RX3, "patch", "(I)I"⟩
abbrev cX3_hide : ByteArray := prog_1_method_6_code
def yX3_hide : MethodName := ⟨RX3, "hide", "(I)I"⟩
abbrev cX3_collect : ByteArray := prog_1_method_7_code
def yX3_collect : MethodName := ⟨RX3, "collect", "(I)I"⟩
abbrev cX3_end : ByteArray := prog_1_method_8_code
def yX3_end : MethodName := ⟨RX3, "end", "(I)I"⟩
abbrev cX3_set : ByteArray := prog_1_method_9_code
def yX3_set : MethodName := ⟨RX3, "set", "(II)I"⟩
abbrev cX3_smithyOf : ByteArray := prog_1_method_10_code
def yX3_smithyOf : MethodName := ⟨RX3, "smithyOf", "(II)I"⟩
abbrev cX3_why : ByteArray := prog_1_method_11_code
def yX3_why : MethodName := ⟨RX3, "why", "(II)I"⟩
abbrev cX3_mend : ByteArray := prog_1_method_12_code
def yX3_mend : MethodName := ⟨RX3, "mend", "(III)I"⟩
abbrev cX3_coldIn : ByteArray := prog_1_method_13_code
def yX3_coldIn : MethodName := ⟨RX3, "coldIn", "(I)I"⟩
abbrev cX3_next : ByteArray := prog_1_method_14_code
def yX3_next : MethodName := ⟨RX3, "next", "()I"⟩
abbrev cX3_round : ByteArray := prog_1_method_15_code
def yX3_round : MethodName := ⟨RX3, "round", "(II)I"⟩
abbrev cX3_mean : ByteArray := prog_1_method_16_code
def yX3_mean : MethodName := ⟨RX3, "mean", "()I"⟩
abbrev cX3_count : ByteArray := prog_1_method_17_code
def yX3_count : MethodName := ⟨RX3, "count", "(I)I"⟩
abbrev cX3_undo : ByteArray := prog_1_method_18_code
def yX3_undo : MethodName := ⟨RX3, "undo", "()I"⟩
abbrev cX3_type : ByteArray := prog_1_method_19_code
def yX3_type : MethodName := ⟨RX3, "type", "(I)I"⟩
abbrev cX3_clearText : ByteArray := prog_1_method_20_code
def yX3_clearText : MethodName := ⟨RX3, "clearText", "()I"⟩
abbrev cX3_fault : ByteArray := prog_1_method_21_code
def yX3_fault : MethodName := ⟨RX3, "fault", "(I)I"⟩
abbrev cX3_play : ByteArray := prog_1_method_22_code
def yX3_play : MethodName := ⟨RX3, "play", "()I"⟩
abbrev cX3_commit : ByteArray := prog_1_method_23_code
def yX3_commit : MethodName := ⟨RX3, "commit", "(I)I"⟩
abbrev cX3_remember : ByteArray := prog_1_method_24_code
def yX3_remember : MethodName := ⟨RX3, "remember", "()V"⟩
abbrev cX3_dropOldestState : ByteArray := prog_1_method_25_code
def yX3_dropOldestState : MethodName := ⟨RX3, "dropOldestState", "()V"⟩
abbrev cX3_tryOrders : ByteArray := prog_1_method_26_code
def yX3_tryOrders : MethodName := ⟨RX3, "tryOrders", "()Z"⟩
abbrev cX3_keepFault : ByteArray := prog_1_method_27_code
def yX3_keepFault : MethodName := ⟨RX3, "keepFault", "(III)V"⟩
abbrev cX3_isFlag : ByteArray := prog_1_method_28_code
def yX3_isFlag : MethodName := ⟨RX3, "isFlag", "(I)Z"⟩
abbrev cX3_leakOf : ByteArray := prog_1_method_29_code
def yX3_leakOf : MethodName := ⟨RX3, "leakOf", "(I)I"⟩
abbrev cX3_wearBehindDay : ByteArray := prog_1_method_30_code
def yX3_wearBehindDay : MethodName := ⟨RX3, "wearBehindDay", "(II)I"⟩
abbrev cX3_heatBehindDay : ByteArray := prog_1_method_31_code
def yX3_heatBehindDay : MethodName := ⟨RX3, "heatBehindDay", "(II)I"⟩
abbrev cX3_tensBegun : ByteArray := prog_1_method_32_code
def yX3_tensBegun : MethodName := ⟨RX3, "tensBegun", "(I)I"⟩
abbrev cX3_hoursOfWay : ByteArray := prog_1_method_33_code
def yX3_hoursOfWay : MethodName := ⟨RX3, "hoursOfWay", "(II)I"⟩
abbrev cX3_hoursOfMend : ByteArray := prog_1_method_34_code
def yX3_hoursOfMend : MethodName := ⟨RX3, "hoursOfMend", "(Z)I"⟩
abbrev cX3_bitsOf : ByteArray := prog_1_method_35_code
def yX3_bitsOf : MethodName := ⟨RX3, "bitsOf", "(F)I"⟩
def RX4 : String := "BellowsRoundModel"
def TX4 : u_T := fun k => match k with
  | 0 => ("BellowsRoundModel", "s", "[I", true)
  | 1 => ("BellowsRoundModel", "past", "[I", true)
  | 2 => ("BellowsRoundModel", "held", "[I", true)
  | 3 => ("BellowsRoundModel", "tried", "[I", true)
  | 4 => ("BellowsRoundModel", "pasts", "I", false)
  | 5 => ("BellowsRoundModel", "runs", "Z", false)
  | 6 => ("BellowsRoundModel", "text", "[I", true)
  | 7 => ("BellowsRoundModel", "typed", "I", false)
  | 8 => ("BellowsRoundModel", "spot", "I", false)
  | 9 => ("BellowsRoundModel", "from", "I", false)
  | 10 => ("BellowsRoundModel", "reason", "I", false)
  | 11 => ("BellowsRoundModel", "cause", "I", false)
  | 12 => ("BellowsRoundModel", "orders", "I", false)
  | 13 => ("BellowsRoundModel", "order", "I", false)
  | _ => ("BellowsRoundModel", "number", "I", false)
def tyX4 : Nat → FieldType := fun k => match k with
  | 0 => .array .int
  | 1 => .array .int
  | 2 => .array .int
  | 3 => .array .int
  | 4 => .int
  | 5 => .boolean
  | 6 => .array .int
  | 7 => .int
  | 8 => .int
  | 9 => .int
  | 10 => .int
  | 11 => .int
  | 12 => .int
  | 13 => .int
  | _ => .int
abbrev wsX40 : List Cond := u_ws RX4 TX4 15
theorem nmX4 : ∀ a, a < 15 → ∀ b, b < 15 → a ≠ b → (TX4 a).2.1 ≠ (TX4 b).2.1 := by decide +kernel
theorem tyX4_ok : ∀ k, k < 15 → parseFieldDescriptor (TX4 k).2.2.1 = some (tyX4 k) := by decide +kernel
abbrev cX4_init : ByteArray := prog_6_method_1_code
def yX4_init : MethodName := ⟨RX4, "<init>", "()V"⟩
abbrev cX4_in : ByteArray := prog_6_method_3_code
def yX4_in : MethodName := ⟨RX4, "in", "(III)Z"⟩
abbrev cX4_size : ByteArray := prog_6_method_4_code
def yX4_size : MethodName := ⟨RX4, "size", "(I)I"⟩
abbrev cX4_copies : ByteArray := prog_6_method_5_code
def yX4_copies : MethodName := ⟨RX4, "copies", "([I[I)V"⟩
abbrev cX4_changes : ByteArray := prog_6_method_6_code
def yX4_changes : MethodName := ⟨RX4, "changes", "()V"⟩
abbrev cX4_isSmithy : ByteArray := prog_6_method_7_code
def yX4_isSmithy : MethodName := ⟨RX4, "isSmithy", "(I)Z"⟩
abbrev cX4_of : ByteArray := prog_6_method_8_code
def yX4_of : MethodName := ⟨RX4, "of", "(II)I"⟩
abbrev cX4_sets : ByteArray := prog_6_method_9_code
def yX4_sets : MethodName := ⟨RX4, "sets", "(III)V"⟩
abbrev cX4_leak : ByteArray := prog_6_method_10_code
def yX4_leak : MethodName := ⟨RX4, "leak", "(I)I"⟩
abbrev cX4_isCold : ByteArray := prog_6_method_11_code
def yX4_isCold : MethodName := ⟨RX4, "isCold", "(I)Z"⟩
abbrev cX4_tens : ByteArray := prog_6_method_12_code
def yX4_tens : MethodName := ⟨RX4, "tens", "(I)I"⟩
abbrev cX4_ages : ByteArray := prog_6_method_13_code
def yX4_ages : MethodName := ⟨RX4, "ages", "(I)V"⟩
abbrev cX4_ends : ByteArray := prog_6_method_14_code
def yX4_ends : MethodName := ⟨RX4, "ends", "()V"⟩
abbrev cX4_coldOnes : ByteArray := prog_6_method_15_code
def yX4_coldOnes : MethodName := ⟨RX4, "coldOnes", "()I"⟩
abbrev cX4_ones : ByteArray := prog_6_method_16_code
def yX4_ones : MethodName := ⟨RX4, "ones", "(I)I"⟩
abbrev cX4_smithy : ByteArray := prog_6_method_17_code
def yX4_smithy : MethodName := ⟨RX4, "smithy", "(II)I"⟩
abbrev cX4_hoursBetween : ByteArray := prog_6_method_18_code
def yX4_hoursBetween : MethodName := ⟨RX4, "hoursBetween", "(II)I"⟩
abbrev cX4_walk : ByteArray := prog_6_method_19_code
def yX4_walk : MethodName := ⟨RX4, "walk", "(I)I"⟩
abbrev cX4_buy : ByteArray := prog_6_method_20_code
def yX4_buy : MethodName := ⟨RX4, "buy", "(I)I"⟩
abbrev cX4_hoursOf : ByteArray := prog_6_method_21_code
def yX4_hoursOf : MethodName := ⟨RX4, "hoursOf", "(I)I"⟩
abbrev cX4_leatherOf : ByteArray := prog_6_method_22_code
def yX4_leatherOf : MethodName := ⟨RX4, "leatherOf", "(II)I"⟩
abbrev cX4_owes : ByteArray := prog_6_method_23_code
def yX4_owes : MethodName := ⟨RX4, "owes", "(II)I"⟩
abbrev cX4_whyNot : ByteArray := prog_6_method_24_code
def yX4_whyNot : MethodName := ⟨RX4, "whyNot", "(II)I"⟩
abbrev cX4_mends : ByteArray := prog_6_method_25_code
def yX4_mends : MethodName := ⟨RX4, "mends", "(II)V"⟩
abbrev cX4_patch : ByteArray := prog_6_method_26_code
def yX4_patch : MethodName := ⟨RX4, "patch", "(I)I"⟩
abbrev cX4_hide : ByteArray := prog_6_method_27_code
def yX4_hide : MethodName := ⟨RX4, "hide", "(I)I"⟩
abbrev cX4_collect : ByteArray := prog_6_method_28_code
def yX4_collect : MethodName := ⟨RX4, "collect", "(I)I"⟩
abbrev cX4_end : ByteArray := prog_6_method_29_code
def yX4_end : MethodName := ⟨RX4, "end", "(I)I"⟩
abbrev cX4_maySet : ByteArray := prog_6_method_30_code
def yX4_maySet : MethodName := ⟨RX4, "maySet", "(II)Z"⟩
abbrev cX4_set : ByteArray := prog_6_method_31_code
def yX4_set : MethodName := ⟨RX4, "set", "(II)I"⟩
abbrev cX4_smithyOf : ByteArray := prog_6_method_32_code
def yX4_smithyOf : MethodName := ⟨RX4, "smithyOf", "(II)I"⟩
abbrev cX4_why : ByteArray := prog_6_method_33_code
def yX4_why : MethodName := ⟨RX4, "why", "(II)I"⟩
abbrev cX4_mend : ByteArray := prog_6_method_34_code
def yX4_mend : MethodName := ⟨RX4, "mend", "(III)I"⟩
abbrev cX4_coldDays : ByteArray := prog_6_method_35_code
def yX4_coldDays : MethodName := ⟨RX4, "coldDays", "(I)I"⟩
abbrev cX4_coldIn : ByteArray := prog_6_method_36_code
def yX4_coldIn : MethodName := ⟨RX4, "coldIn", "(I)I"⟩
abbrev cX4_isAhead : ByteArray := prog_6_method_37_code
def yX4_isAhead : MethodName := ⟨RX4, "isAhead", "(IIII)Z"⟩
abbrev cX4_next : ByteArray := prog_6_method_38_code
def yX4_next : MethodName := ⟨RX4, "next", "()I"⟩
abbrev cX4_nearest : ByteArray := prog_6_method_39_code
def yX4_nearest : MethodName := ⟨RX4, "nearest", "(I)I"⟩
abbrev cX4_round : ByteArray := prog_6_method_40_code
def yX4_round : MethodName := ⟨RX4, "round", "(II)I"⟩
abbrev cX4_sum : ByteArray := prog_6_method_41_code
def yX4_sum : MethodName := ⟨RX4, "sum", "(I)I"⟩
abbrev cX4_mean : ByteArray := prog_6_method_42_code
def yX4_mean : MethodName := ⟨RX4, "mean", "()I"⟩
abbrev cX4_count : ByteArray := prog_6_method_43_code
def yX4_count : MethodName := ⟨RX4, "count", "(I)I"⟩
abbrev cX4_undo : ByteArray := prog_6_method_44_code
def yX4_undo : MethodName := ⟨RX4, "undo", "()I"⟩
abbrev cX4_type : ByteArray := prog_6_method_45_code
def yX4_type : MethodName := ⟨RX4, "type", "(I)I"⟩
abbrev cX4_clearText : ByteArray := prog_6_method_46_code
def yX4_clearText : MethodName := ⟨RX4, "clearText", "()I"⟩
abbrev cX4_isAt : ByteArray := prog_6_method_47_code
def yX4_isAt : MethodName := ⟨RX4, "isAt", "(II)Z"⟩
abbrev cX4_reads : ByteArray := prog_6_method_48_code
def yX4_reads : MethodName := ⟨RX4, "reads", "()Z"⟩
abbrev cX4_calls : ByteArray := prog_6_method_49_code
def yX4_calls : MethodName := ⟨RX4, "calls", "()I"⟩
abbrev cX4_plays : ByteArray := prog_6_method_50_code
def yX4_plays : MethodName := ⟨RX4, "plays", "()Z"⟩
abbrev cX4_fault : ByteArray := prog_6_method_51_code
def yX4_fault : MethodName := ⟨RX4, "fault", "(I)I"⟩
abbrev cX4_play : ByteArray := prog_6_method_52_code
def yX4_play : MethodName := ⟨RX4, "play", "()I"⟩
def RJxf58ca : String := "java/lang/Float"
def TJxf58ca : u_T := fun k => match k with
  | _ => ("", "", "", false)
def tyJxf58ca : Nat → FieldType := fun k => match k with
  | _ => .int
abbrev wsJxf58ca0 : List Cond := u_ws RJxf58ca TJxf58ca 0
theorem nmJxf58ca : ∀ a, a < 0 → ∀ b, b < 0 → a ≠ b → (TJxf58ca a).2.1 ≠ (TJxf58ca b).2.1 := by decide +kernel
theorem tyJxf58ca_ok : ∀ k, k < 0 → parseFieldDescriptor (TJxf58ca k).2.2.1 = some (tyJxf58ca k) := by decide +kernel
abbrev cJxf58ca_isNaN_12338 : ByteArray := prog_7_method_6_code
def yJxf58ca_isNaN_12338 : MethodName := ⟨RJxf58ca, "isNaN", "(F)Z"⟩
abbrev cJxf58ca_floatToIntBits_5c35a : ByteArray := prog_7_method_24_code
def yJxf58ca_floatToIntBits_5c35a : MethodName := ⟨RJxf58ca, "floatToIntBits", "(F)I"⟩
def RJ6 : String := "java/lang/Integer"
def TJ6 : u_T := fun k => match k with
  | _ => ("", "", "", false)
def tyJ6 : Nat → FieldType := fun k => match k with
  | _ => .int
abbrev wsJ60 : List Cond := u_ws RJ6 TJ6 0
theorem nmJ6 : ∀ a, a < 0 → ∀ b, b < 0 → a ≠ b → (TJ6 a).2.1 ≠ (TJ6 b).2.1 := by decide +kernel
theorem tyJ6_ok : ∀ k, k < 0 → parseFieldDescriptor (TJ6 k).2.2.1 = some (tyJ6 k) := by decide +kernel
abbrev cJ6_bitCount_0f7a4 : ByteArray := prog_8_method_49_code
def yJ6_bitCount_0f7a4 : MethodName := ⟨RJ6, "bitCount", "(I)I"⟩
def RJ9 : String := "java/lang/Math"
def TJ9 : u_T := fun k => match k with
  | _ => ("", "", "", false)
def tyJ9 : Nat → FieldType := fun k => match k with
  | _ => .int
abbrev wsJ90 : List Cond := u_ws RJ9 TJ9 0
theorem nmJ9 : ∀ a, a < 0 → ∀ b, b < 0 → a ≠ b → (TJ9 a).2.1 ≠ (TJ9 b).2.1 := by decide +kernel
theorem tyJ9_ok : ∀ k, k < 0 → parseFieldDescriptor (TJ9 k).2.2.1 = some (tyJ9 k) := by decide +kernel
abbrev cJ9_abs_0f7a4 : ByteArray := prog_9_method_59_code
def yJ9_abs_0f7a4 : MethodName := ⟨RJ9, "abs", "(I)I"⟩
abbrev cJ9_max_7cf53 : ByteArray := prog_9_method_65_code
def yJ9_max_7cf53 : MethodName := ⟨RJ9, "max", "(II)I"⟩
abbrev cJ9_min_7cf53 : ByteArray := prog_9_method_69_code
def yJ9_min_7cf53 : MethodName := ⟨RJ9, "min", "(II)I"⟩
def RL : String := "BellowsRoundLaw"
abbrev cL_law : ByteArray := code
def yL_law : MethodName := ⟨RL, "law", "([I)Z"⟩
end
section
def wsX0_init : List Cond := .code yX0_init cX0_init 1 none :: ([.methodLink RX0 3 objectInit, .instanceMethod objectInit, .code objectInit ⟨#[0xb1]⟩ 1 none, .arrayClass .char, .fieldLink RX0 9 "BellowsRound$OrderText" "characters" "[C"] ++ wsX00)
def wsX0_append : List Cond := .code yX0_append cX0_append 2 (some .int) :: ([.fieldLink RX0 15 "BellowsRound$OrderText" "length" "I", .fieldLink RX0 9 "BellowsRound$OrderText" "characters" "[C", .constant RX0 19 (-1000000003)] ++ wsX00)
def wsX0_characterAt : List Cond := .code yX0_characterAt cX0_characterAt 2 (some .int) :: ([.fieldLink RX0 15 "BellowsRound$OrderText" "length" "I", .fieldLink RX0 9 "BellowsRound$OrderText" "characters" "[C"] ++ wsX00)
def wsX0_isOrderLetter : List Cond := .code yX0_isOrderLetter cX0_isOrderLetter 1 (some .boolean) :: ([])
def wsX0_isDigit : List Cond := .code yX0_isDigit cX0_isDigit 1 (some .boolean) :: ([])
def wsX0_readOrder : List Cond := .code yX0_readOrder cX0_readOrder 3 (some .boolean) :: ([.fieldLink RX0 24 "BellowsRound$OrderText" "letter" "I", .fieldLink RX0 31 "BellowsRound$OrderText" "brokenAt" "I", .fieldLink RX0 34 "BellowsRound$OrderText" "number" "I", .fieldLink RX0 40 "BellowsRound$OrderText" "behind" "I", .methodLink RX0 20 yX0_characterAt, .instanceMethod yX0_characterAt, .selects RX0 yX0_characterAt yX0_characterAt, .initialized RX0, .code yX0_characterAt cX0_characterAt 2 (some .int), .fieldLink RX0 15 "BellowsRound$OrderText" "length" "I", .fieldLink RX0 9 "BellowsRound$OrderText" "characters" "[C", .methodLink RX0 27 yX0_isOrderLetter, .static yX0_isOrderLetter, .code yX0_isOrderLetter cX0_isOrderLetter 1 (some .boolean), .methodLink RX0 37 yX0_isDigit, .static yX0_isDigit, .code yX0_isDigit cX0_isDigit 1 (some .boolean)] ++ wsX00)
def wsX1_init : List Cond := .code yX1_init cX1_init 1 none :: ([.methodLink RX1 3 objectInit, .instanceMethod objectInit, .code objectInit ⟨#[0xb1]⟩ 1 none])
def wsX1_beginAt : List Cond := .code yX1_beginAt cX1_beginAt 3 none :: ([.fieldLink RX1 9 "BellowsRound$Smithy" "mile" "I", .fieldLink RX1 15 "BellowsRound$Smithy" "size" "I", .fieldLink RX1 18 "BellowsRound$Smithy" "wear" "I", .fieldLink RX1 21 "BellowsRound$Smithy" "heat" "I", .fieldLink RX1 24 "BellowsRound$Smithy" "coldDays" "I", .fieldLink RX1 27 "BellowsRound$Smithy" "debt" "I", .fieldLink RX1 30 "BellowsRound$Smithy" "paid" "I", .fieldLink RX1 33 "BellowsRound$Smithy" "mends" "I"] ++ wsX10)
def wsX1_copyFrom : List Cond := .code yX1_copyFrom cX1_copyFrom 2 none :: ([.fieldLink RX1 9 "BellowsRound$Smithy" "mile" "I", .fieldLink RX1 15 "BellowsRound$Smithy" "size" "I", .fieldLink RX1 18 "BellowsRound$Smithy" "wear" "I", .fieldLink RX1 21 "BellowsRound$Smithy" "heat" "I", .fieldLink RX1 24 "BellowsRound$Smithy" "coldDays" "I", .fieldLink RX1 27 "BellowsRound$Smithy" "debt" "I", .fieldLink RX1 30 "BellowsRound$Smithy" "paid" "I", .fieldLink RX1 33 "BellowsRound$Smithy" "mends" "I"] ++ wsX10)
def wsX3_tensBegun : List Cond := .code yX3_tensBegun cX3_tensBegun 1 (some .int) :: ([])
def wsX1_leatherOfMend : List Cond := .code yX1_leatherOfMend cX1_leatherOfMend 2 (some .int) :: ([.fieldLink RX1 15 "BellowsRound$Smithy" "size" "I", .fieldLink RX1 18 "BellowsRound$Smithy" "wear" "I", .static yX3_tensBegun, .initialized RX3, .code yX3_tensBegun cX3_tensBegun 1 (some .int)] ++ wsX10)
def wsX1_wearBehindMend : List Cond := .code yX1_wearBehindMend cX1_wearBehindMend 2 (some .int) :: ([.fieldLink RX1 18 "BellowsRound$Smithy" "wear" "I"] ++ wsX10)
def wsX2_init : List Cond := .code yX2_init cX2_init 2 none :: ([.methodLink RX2 3 objectInit, .instanceMethod objectInit, .code objectInit ⟨#[0xb1]⟩ 1 none, .classLink RX2 9 RX1, .fieldLink RX2 11 "BellowsRound$State" "smithies" "[LBellowsRound$Smithy;", .fieldLink RX2 17 "BellowsRound$State" "cold" "I", .fieldLink RX2 21 "BellowsRound$State" "hours" "I", .fieldLink RX2 24 "BellowsRound$State" "rate" "I", .fieldLink RX2 27 "BellowsRound$State" "patience" "I", .fieldLink RX2 30 "BellowsRound$State" "hoursLeft" "I", .fieldLink RX2 33 "BellowsRound$State" "money" "I", .instantiable RX1 8, .initialized RX1, .instanceMethod yX1_init, .code yX1_init cX1_init 1 none, .methodLink RX1 3 objectInit] ++ wsX20 ++ wsX10)
def wsX2_find : List Cond := .code yX2_find cX2_find 2 (some (.object "BellowsRound$Smithy")) :: ([.fieldLink RX2 37 "BellowsRound$State" "smithyCount" "I", .fieldLink RX2 11 "BellowsRound$State" "smithies" "[LBellowsRound$Smithy;"] ++ wsX20)
def wsX2_copyFrom_r1 : List Cond := [Cond.fieldLink RX2 37 "BellowsRound$State" "smithyCount" "I", Cond.fieldLink RX2 17 "BellowsRound$State" "cold" "I", Cond.fieldLink RX2 21 "BellowsRound$State" "hours" "I", Cond.fieldLink RX2 24 "BellowsRound$State" "rate" "I", Cond.fieldLink RX2 27 "BellowsRound$State" "patience" "I", Cond.fieldLink RX2 40 "BellowsRound$State" "day" "I", Cond.fieldLink RX2 43 "BellowsRound$State" "mile" "I", Cond.fieldLink RX2 30 "BellowsRound$State" "hoursLeft" "I", Cond.fieldLink RX2 46 "BellowsRound$State" "leather" "I", Cond.fieldLink RX2 33 "BellowsRound$State" "money" "I", Cond.fieldLink RX2 49 "BellowsRound$State" "paidForLeather" "I", Cond.fieldLink RX2 52 "BellowsRound$State" "owedForMends" "I", Cond.fieldLink RX2 55 "BellowsRound$State" "longestCold" "I", Cond.fieldLink RX2 58 "BellowsRound$State" "milesWalked" "I", Cond.methodLink RX2 61 yX2_find, Cond.instanceMethod yX2_find, Cond.selects RX2 yX2_find yX2_find, Cond.initialized RX2, Cond.code yX2_find cX2_find 2 (some (.object "BellowsRound$Smithy")), Cond.fieldLink RX2 11 "BellowsRound$State" "smithies" "[LBellowsRound$Smithy;", Cond.methodLink RX2 65 yX1_copyFrom, Cond.instanceMethod yX1_copyFrom, Cond.selects RX1 yX1_copyFrom yX1_copyFrom, Cond.initialized RX1]
def wsX2_copyFrom_r2 : List Cond := [Cond.code yX1_copyFrom cX1_copyFrom 2 none, Cond.fieldLink RX1 9 "BellowsRound$Smithy" "mile" "I", Cond.fieldLink RX1 15 "BellowsRound$Smithy" "size" "I", Cond.fieldLink RX1 18 "BellowsRound$Smithy" "wear" "I", Cond.fieldLink RX1 21 "BellowsRound$Smithy" "heat" "I", Cond.fieldLink RX1 24 "BellowsRound$Smithy" "coldDays" "I", Cond.fieldLink RX1 27 "BellowsRound$Smithy" "debt" "I", Cond.fieldLink RX1 30 "BellowsRound$Smithy" "paid" "I", Cond.fieldLink RX1 33 "BellowsRound$Smithy" "mends" "I"]
def wsX2_copyFrom : List Cond := .code yX2_copyFrom cX2_copyFrom 5 none :: ((wsX2_copyFrom_r1 ++ wsX2_copyFrom_r2) ++ wsX20 ++ wsX10)
def wsX2_addSmithy : List Cond := .code yX2_addSmithy cX2_addSmithy 5 (some .int) :: ([.constant RX2 69 (-1000000001), .fieldLink RX2 37 "BellowsRound$State" "smithyCount" "I", .constant RX2 70 (-1000000003), .methodLink RX2 61 yX2_find, .instanceMethod yX2_find, .selects RX2 yX2_find yX2_find, .initialized RX2, .code yX2_find cX2_find 2 (some (.object "BellowsRound$Smithy")), .fieldLink RX2 11 "BellowsRound$State" "smithies" "[LBellowsRound$Smithy;", .methodLink RX2 71 yX1_beginAt, .instanceMethod yX1_beginAt, .selects RX1 yX1_beginAt yX1_beginAt, .initialized RX1, .code yX1_beginAt cX1_beginAt 3 none, .fieldLink RX1 9 "BellowsRound$Smithy" "mile" "I", .fieldLink RX1 15 "BellowsRound$Smithy" "size" "I", .fieldLink RX1 18 "BellowsRound$Smithy" "wear" "I", .fieldLink RX1 21 "BellowsRound$Smithy" "heat" "I", .fieldLink RX1 24 "BellowsRound$Smithy" "coldDays" "I", .fieldLink RX1 27 "BellowsRound$Smithy" "debt" "I", .fieldLink RX1 30 "BellowsRound$Smithy" "paid" "I", .fieldLink RX1 33 "BellowsRound$Smithy" "mends" "I"] ++ wsX20 ++ wsX10)
def wsX3_hoursOfWay : List Cond := .code yX3_hoursOfWay cX3_hoursOfWay 2 (some .int) :: ([.methodLink RX3 251 Lib.Math.abs.name, .static Lib.Math.abs.name, .initialized "java/lang/Math", .code Lib.Math.abs.name Lib.Math.abs.code 1 (some .int), .methodLink RX3 254 yX3_tensBegun, .static yX3_tensBegun, .initialized RX3, .code yX3_tensBegun cX3_tensBegun 1 (some .int)])
def wsX2_walkTo : List Cond := .code yX2_walkTo cX2_walkTo 3 (some .int) :: ([.constant RX2 69 (-1000000001), .fieldLink RX2 43 "BellowsRound$State" "mile" "I", .fieldLink RX2 30 "BellowsRound$State" "hoursLeft" "I", .constant RX2 79 (-1000000002), .fieldLink RX2 58 "BellowsRound$State" "milesWalked" "I", .methodLink RX2 80 Lib.Math.abs.name, .static Lib.Math.abs.name, .initialized "java/lang/Math", .code Lib.Math.abs.name Lib.Math.abs.code 1 (some .int), .static yX3_hoursOfWay, .initialized RX3, .code yX3_hoursOfWay cX3_hoursOfWay 2 (some .int), .methodLink RX3 251 Lib.Math.abs.name, .methodLink RX3 254 yX3_tensBegun, .static yX3_tensBegun, .code yX3_tensBegun cX3_tensBegun 1 (some .int)] ++ wsX20)
def wsX2_buyLeather : List Cond := .code yX2_buyLeather cX2_buyLeather 3 (some .int) :: ([.constant RX2 69 (-1000000001), .fieldLink RX2 43 "BellowsRound$State" "mile" "I", .constant RX2 79 (-1000000002), .fieldLink RX2 46 "BellowsRound$State" "leather" "I", .constant RX2 70 (-1000000003), .fieldLink RX2 33 "BellowsRound$State" "money" "I", .fieldLink RX2 49 "BellowsRound$State" "paidForLeather" "I"] ++ wsX20)
def wsX3_hoursOfMend : List Cond := .code yX3_hoursOfMend cX3_hoursOfMend 1 (some .int) :: ([])
def wsX2_reasonOfSmithy : List Cond := .code yX2_reasonOfSmithy cX2_reasonOfSmithy 2 (some .int) :: ([.fieldLink RX2 100 "BellowsRound$Smithy" "debt" "I", .fieldLink RX2 27 "BellowsRound$State" "patience" "I", .fieldLink RX2 106 "BellowsRound$Smithy" "wear" "I"] ++ wsX10 ++ wsX20)
def wsX2_reasonAgainst : List Cond := .code yX2_reasonAgainst cX2_reasonAgainst 3 (some .int) :: ([.fieldLink RX2 112 "BellowsRound$Smithy" "mile" "I", .fieldLink RX2 43 "BellowsRound$State" "mile" "I", .fieldLink RX2 30 "BellowsRound$State" "hoursLeft" "I", .fieldLink RX2 46 "BellowsRound$State" "leather" "I", .static yX3_hoursOfMend, .initialized RX3, .code yX3_hoursOfMend cX3_hoursOfMend 1 (some .int), .methodLink RX2 97 yX1_leatherOfMend, .instanceMethod yX1_leatherOfMend, .selects RX1 yX1_leatherOfMend yX1_leatherOfMend, .initialized RX1, .code yX1_leatherOfMend cX1_leatherOfMend 2 (some .int), .fieldLink RX1 15 "BellowsRound$Smithy" "size" "I", .fieldLink RX1 18 "BellowsRound$Smithy" "wear" "I", .static yX3_tensBegun, .code yX3_tensBegun cX3_tensBegun 1 (some .int), .methodLink RX2 170 yX2_reasonOfSmithy, .instanceMethod yX2_reasonOfSmithy, .selects RX2 yX2_reasonOfSmithy yX2_reasonOfSmithy, .initialized RX2, .code yX2_reasonOfSmithy cX2_reasonOfSmithy 2 (some .int), .fieldLink RX2 100 "BellowsRound$Smithy" "debt" "I", .fieldLink RX2 27 "BellowsRound$State" "patience" "I", .fieldLink RX2 106 "BellowsRound$Smithy" "wear" "I"] ++ wsX10 ++ wsX20)
def wsX2_priceOfMend : List Cond := .code yX2_priceOfMend cX2_priceOfMend 3 (some .int) :: ([.fieldLink RX2 24 "BellowsRound$State" "rate" "I", .static yX3_hoursOfMend, .initialized RX3, .code yX3_hoursOfMend cX3_hoursOfMend 1 (some .int), .methodLink RX2 97 yX1_leatherOfMend, .instanceMethod yX1_leatherOfMend, .selects RX1 yX1_leatherOfMend yX1_leatherOfMend, .initialized RX1, .code yX1_leatherOfMend cX1_leatherOfMend 2 (some .int), .fieldLink RX1 15 "BellowsRound$Smithy" "size" "I", .fieldLink RX1 18 "BellowsRound$Smithy" "wear" "I", .static yX3_tensBegun, .code yX3_tensBegun cX3_tensBegun 1 (some .int)] ++ wsX20 ++ wsX10)
def wsX2_mendBellows_r1 : List Cond := [Cond.constant RX2 69 (-1000000001), Cond.constant RX2 79 (-1000000002), Cond.fieldLink RX2 30 "BellowsRound$State" "hoursLeft" "I", Cond.fieldLink RX2 46 "BellowsRound$State" "leather" "I", Cond.fieldLink RX2 52 "BellowsRound$State" "owedForMends" "I", Cond.fieldLink RX2 100 "BellowsRound$Smithy" "debt" "I", Cond.fieldLink RX2 106 "BellowsRound$Smithy" "wear" "I", Cond.fieldLink RX2 109 "BellowsRound$Smithy" "mends" "I", Cond.methodLink RX2 61 yX2_find, Cond.instanceMethod yX2_find, Cond.selects RX2 yX2_find yX2_find, Cond.initialized RX2, Cond.code yX2_find cX2_find 2 (some (.object "BellowsRound$Smithy")), Cond.fieldLink RX2 37 "BellowsRound$State" "smithyCount" "I", Cond.fieldLink RX2 11 "BellowsRound$State" "smithies" "[LBellowsRound$Smithy;", Cond.methodLink RX2 86 yX2_reasonAgainst, Cond.instanceMethod yX2_reasonAgainst, Cond.selects RX2 yX2_reasonAgainst yX2_reasonAgainst, Cond.code yX2_reasonAgainst cX2_reasonAgainst 3 (some .int), Cond.fieldLink RX2 112 "BellowsRound$Smithy" "mile" "I", Cond.fieldLink RX2 43 "BellowsRound$State" "mile" "I", Cond.static yX3_hoursOfMend, Cond.initialized RX3, Cond.code yX3_hoursOfMend cX3_hoursOfMend 1 (some .int)]
def wsX2_mendBellows_r2 : List Cond := [Cond.methodLink RX2 97 yX1_leatherOfMend, Cond.instanceMethod yX1_leatherOfMend, Cond.selects RX1 yX1_leatherOfMend yX1_leatherOfMend, Cond.initialized RX1, Cond.code yX1_leatherOfMend cX1_leatherOfMend 2 (some .int), Cond.fieldLink RX1 15 "BellowsRound$Smithy" "size" "I", Cond.fieldLink RX1 18 "BellowsRound$Smithy" "wear" "I", Cond.static yX3_tensBegun, Cond.code yX3_tensBegun cX3_tensBegun 1 (some .int), Cond.methodLink RX2 170 yX2_reasonOfSmithy, Cond.instanceMethod yX2_reasonOfSmithy, Cond.selects RX2 yX2_reasonOfSmithy yX2_reasonOfSmithy, Cond.code yX2_reasonOfSmithy cX2_reasonOfSmithy 2 (some .int), Cond.fieldLink RX2 27 "BellowsRound$State" "patience" "I", Cond.methodLink RX2 90 yX2_priceOfMend, Cond.instanceMethod yX2_priceOfMend, Cond.selects RX2 yX2_priceOfMend yX2_priceOfMend, Cond.code yX2_priceOfMend cX2_priceOfMend 3 (some .int), Cond.fieldLink RX2 24 "BellowsRound$State" "rate" "I", Cond.methodLink RX2 103 yX1_wearBehindMend, Cond.instanceMethod yX1_wearBehindMend, Cond.selects RX1 yX1_wearBehindMend yX1_wearBehindMend, Cond.code yX1_wearBehindMend cX1_wearBehindMend 2 (some .int)]
def wsX2_mendBellows : List Cond := .code yX2_mendBellows cX2_mendBellows 5 (some .int) :: ((wsX2_mendBellows_r1 ++ wsX2_mendBellows_r2) ++ wsX20 ++ wsX10)
def wsX2_isCold : List Cond := .code yX2_isCold cX2_isCold 2 (some .boolean) :: ([.fieldLink RX2 17 "BellowsRound$State" "cold" "I"] ++ wsX20)
def wsX2_collectDebt : List Cond := .code yX2_collectDebt cX2_collectDebt 4 (some .int) :: ([.constant RX2 69 (-1000000001), .fieldLink RX2 112 "BellowsRound$Smithy" "mile" "I", .fieldLink RX2 43 "BellowsRound$State" "mile" "I", .fieldLink RX2 100 "BellowsRound$Smithy" "debt" "I", .constant RX2 79 (-1000000002), .fieldLink RX2 113 "BellowsRound$Smithy" "heat" "I", .fieldLink RX2 120 "BellowsRound$Smithy" "paid" "I", .fieldLink RX2 33 "BellowsRound$State" "money" "I", .methodLink RX2 61 yX2_find, .instanceMethod yX2_find, .selects RX2 yX2_find yX2_find, .initialized RX2, .code yX2_find cX2_find 2 (some (.object "BellowsRound$Smithy")), .fieldLink RX2 37 "BellowsRound$State" "smithyCount" "I", .fieldLink RX2 11 "BellowsRound$State" "smithies" "[LBellowsRound$Smithy;", .methodLink RX2 116 yX2_isCold, .instanceMethod yX2_isCold, .selects RX2 yX2_isCold yX2_isCold, .code yX2_isCold cX2_isCold 2 (some .boolean), .fieldLink RX2 17 "BellowsRound$State" "cold" "I"] ++ wsX10 ++ wsX20)
def wsX3_wearBehindDay : List Cond := .code yX3_wearBehindDay cX3_wearBehindDay 2 (some .int) :: ([.methodLink RX3 243 Lib.Math.min.name, .static Lib.Math.min.name, .initialized "java/lang/Math", .code Lib.Math.min.name Lib.Math.min.code 2 (some .int)])
def wsX3_leakOf : List Cond := .code yX3_leakOf cX3_leakOf 1 (some .int) :: ([])
def wsX3_heatBehindDay : List Cond := .code yX3_heatBehindDay cX3_heatBehindDay 3 (some .int) :: ([.methodLink RX3 243 Lib.Math.min.name, .static Lib.Math.min.name, .initialized "java/lang/Math", .code Lib.Math.min.name Lib.Math.min.code 2 (some .int), .methodLink RX3 248 Lib.Math.max.name, .static Lib.Math.max.name, .code Lib.Math.max.name Lib.Math.max.code 2 (some .int), .methodLink RX3 78 yX3_leakOf, .static yX3_leakOf, .initialized RX3, .code yX3_leakOf cX3_leakOf 1 (some .int)])
def wsX2_endDayOf_r1 : List Cond := [Cond.fieldLink RX2 106 "BellowsRound$Smithy" "wear" "I", Cond.fieldLink RX2 135 "BellowsRound$Smithy" "size" "I", Cond.fieldLink RX2 113 "BellowsRound$Smithy" "heat" "I", Cond.fieldLink RX2 144 "BellowsRound$Smithy" "coldDays" "I", Cond.fieldLink RX2 55 "BellowsRound$State" "longestCold" "I", Cond.methodLink RX2 147 Lib.Math.max.name, Cond.static Lib.Math.max.name, Cond.initialized "java/lang/Math", Cond.code Lib.Math.max.name Lib.Math.max.code 2 (some .int), Cond.static yX3_wearBehindDay, Cond.initialized RX3, Cond.code yX3_wearBehindDay cX3_wearBehindDay 2 (some .int), Cond.methodLink RX3 243 Lib.Math.min.name, Cond.static Lib.Math.min.name, Cond.code Lib.Math.min.name Lib.Math.min.code 2 (some .int), Cond.static yX3_heatBehindDay, Cond.code yX3_heatBehindDay cX3_heatBehindDay 3 (some .int), Cond.methodLink RX3 248 Lib.Math.max.name, Cond.methodLink RX3 78 yX3_leakOf, Cond.static yX3_leakOf, Cond.code yX3_leakOf cX3_leakOf 1 (some .int), Cond.methodLink RX2 116 yX2_isCold, Cond.instanceMethod yX2_isCold, Cond.selects RX2 yX2_isCold yX2_isCold]
def wsX2_endDayOf_r2 : List Cond := [Cond.initialized RX2, Cond.code yX2_isCold cX2_isCold 2 (some .boolean), Cond.fieldLink RX2 17 "BellowsRound$State" "cold" "I"]
def wsX2_endDayOf : List Cond := .code yX2_endDayOf cX2_endDayOf 2 none :: ((wsX2_endDayOf_r1 ++ wsX2_endDayOf_r2) ++ wsX10 ++ wsX20)
def wsX2_coldSet : List Cond := .code yX2_coldSet cX2_coldSet 4 (some .int) :: ([.fieldLink RX2 37 "BellowsRound$State" "smithyCount" "I", .fieldLink RX2 113 "BellowsRound$Smithy" "heat" "I", .methodLink RX2 61 yX2_find, .instanceMethod yX2_find, .selects RX2 yX2_find yX2_find, .initialized RX2, .code yX2_find cX2_find 2 (some (.object "BellowsRound$Smithy")), .fieldLink RX2 11 "BellowsRound$State" "smithies" "[LBellowsRound$Smithy;", .methodLink RX2 116 yX2_isCold, .instanceMethod yX2_isCold, .selects RX2 yX2_isCold yX2_isCold, .code yX2_isCold cX2_isCold 2 (some .boolean), .fieldLink RX2 17 "BellowsRound$State" "cold" "I"] ++ wsX20 ++ wsX10)
def wsJ6_bitCount_0f7a4 : List Cond := .code yJ6_bitCount_0f7a4 cJ6_bitCount_0f7a4 1 (some .int) :: ([.constant RJ6 265 (1431655765), .constant RJ6 266 (858993459), .constant RJ6 267 (252645135)])
def wsX2_endDays_r1 : List Cond := [Cond.constant RX2 69 (-1000000001), Cond.fieldLink RX2 40 "BellowsRound$State" "day" "I", Cond.constant RX2 70 (-1000000003), Cond.fieldLink RX2 37 "BellowsRound$State" "smithyCount" "I", Cond.fieldLink RX2 21 "BellowsRound$State" "hours" "I", Cond.fieldLink RX2 30 "BellowsRound$State" "hoursLeft" "I", Cond.methodLink RX2 61 yX2_find, Cond.instanceMethod yX2_find, Cond.selects RX2 yX2_find yX2_find, Cond.initialized RX2, Cond.code yX2_find cX2_find 2 (some (.object "BellowsRound$Smithy")), Cond.fieldLink RX2 11 "BellowsRound$State" "smithies" "[LBellowsRound$Smithy;", Cond.methodLink RX2 123 yX2_endDayOf, Cond.instanceMethod yX2_endDayOf, Cond.selects RX2 yX2_endDayOf yX2_endDayOf, Cond.code yX2_endDayOf cX2_endDayOf 2 none, Cond.fieldLink RX2 106 "BellowsRound$Smithy" "wear" "I", Cond.fieldLink RX2 135 "BellowsRound$Smithy" "size" "I", Cond.fieldLink RX2 113 "BellowsRound$Smithy" "heat" "I", Cond.fieldLink RX2 144 "BellowsRound$Smithy" "coldDays" "I", Cond.fieldLink RX2 55 "BellowsRound$State" "longestCold" "I", Cond.methodLink RX2 147 Lib.Math.max.name, Cond.static Lib.Math.max.name, Cond.initialized "java/lang/Math"]
def wsX2_endDays_r2 : List Cond := [Cond.code Lib.Math.max.name Lib.Math.max.code 2 (some .int), Cond.static yX3_wearBehindDay, Cond.initialized RX3, Cond.code yX3_wearBehindDay cX3_wearBehindDay 2 (some .int), Cond.methodLink RX3 243 Lib.Math.min.name, Cond.static Lib.Math.min.name, Cond.code Lib.Math.min.name Lib.Math.min.code 2 (some .int), Cond.static yX3_heatBehindDay, Cond.code yX3_heatBehindDay cX3_heatBehindDay 3 (some .int), Cond.methodLink RX3 248 Lib.Math.max.name, Cond.methodLink RX3 78 yX3_leakOf, Cond.static yX3_leakOf, Cond.code yX3_leakOf cX3_leakOf 1 (some .int), Cond.methodLink RX2 116 yX2_isCold, Cond.instanceMethod yX2_isCold, Cond.selects RX2 yX2_isCold yX2_isCold, Cond.code yX2_isCold cX2_isCold 2 (some .boolean), Cond.fieldLink RX2 17 "BellowsRound$State" "cold" "I", Cond.methodLink RX2 126 yX2_coldSet, Cond.instanceMethod yX2_coldSet, Cond.selects RX2 yX2_coldSet yX2_coldSet, Cond.code yX2_coldSet cX2_coldSet 4 (some .int), Cond.methodLink RX2 130 yJ6_bitCount_0f7a4, Cond.static yJ6_bitCount_0f7a4]
def wsX2_endDays_r3 : List Cond := [Cond.initialized RJ6, Cond.code yJ6_bitCount_0f7a4 cJ6_bitCount_0f7a4 1 (some .int), Cond.constant RJ6 265 (1431655765), Cond.constant RJ6 266 (858993459), Cond.constant RJ6 267 (252645135)]
def wsX2_endDays : List Cond := .code yX2_endDays cX2_endDays 5 (some .int) :: ((wsX2_endDays_r1 ++ (wsX2_endDays_r2 ++ wsX2_endDays_r3)) ++ wsX20 ++ wsX10)
def wsX2_isInRange : List Cond := .code yX2_isInRange cX2_isInRange 2 (some .boolean) :: ([])
def wsX2_changeSetting : List Cond := .code yX2_changeSetting cX2_changeSetting 4 (some .int) :: ([.constant RX2 69 (-1000000001), .fieldLink RX2 17 "BellowsRound$State" "cold" "I", .fieldLink RX2 21 "BellowsRound$State" "hours" "I", .fieldLink RX2 24 "BellowsRound$State" "rate" "I", .fieldLink RX2 27 "BellowsRound$State" "patience" "I", .methodLink RX2 150 yX2_isInRange, .static yX2_isInRange, .initialized RX2, .code yX2_isInRange cX2_isInRange 2 (some .boolean)] ++ wsX20)
def wsX2_doOrder_r1 : List Cond := [Cond.constant RX2 69 (-1000000001), Cond.methodLink RX2 154 yX2_walkTo, Cond.instanceMethod yX2_walkTo, Cond.selects RX2 yX2_walkTo yX2_walkTo, Cond.initialized RX2, Cond.code yX2_walkTo cX2_walkTo 3 (some .int), Cond.fieldLink RX2 43 "BellowsRound$State" "mile" "I", Cond.fieldLink RX2 30 "BellowsRound$State" "hoursLeft" "I", Cond.constant RX2 79 (-1000000002), Cond.fieldLink RX2 58 "BellowsRound$State" "milesWalked" "I", Cond.methodLink RX2 80 Lib.Math.abs.name, Cond.static Lib.Math.abs.name, Cond.initialized "java/lang/Math", Cond.code Lib.Math.abs.name Lib.Math.abs.code 1 (some .int), Cond.static yX3_hoursOfWay, Cond.initialized RX3, Cond.code yX3_hoursOfWay cX3_hoursOfWay 2 (some .int), Cond.methodLink RX3 251 Lib.Math.abs.name, Cond.methodLink RX3 254 yX3_tensBegun, Cond.static yX3_tensBegun, Cond.code yX3_tensBegun cX3_tensBegun 1 (some .int), Cond.methodLink RX2 157 yX2_buyLeather, Cond.instanceMethod yX2_buyLeather, Cond.selects RX2 yX2_buyLeather yX2_buyLeather]
def wsX2_doOrder_r2 : List Cond := [Cond.code yX2_buyLeather cX2_buyLeather 3 (some .int), Cond.fieldLink RX2 46 "BellowsRound$State" "leather" "I", Cond.constant RX2 70 (-1000000003), Cond.fieldLink RX2 33 "BellowsRound$State" "money" "I", Cond.fieldLink RX2 49 "BellowsRound$State" "paidForLeather" "I", Cond.methodLink RX2 160 yX2_mendBellows, Cond.instanceMethod yX2_mendBellows, Cond.selects RX2 yX2_mendBellows yX2_mendBellows, Cond.code yX2_mendBellows cX2_mendBellows 5 (some .int), Cond.fieldLink RX2 52 "BellowsRound$State" "owedForMends" "I", Cond.fieldLink RX2 100 "BellowsRound$Smithy" "debt" "I", Cond.fieldLink RX2 106 "BellowsRound$Smithy" "wear" "I", Cond.fieldLink RX2 109 "BellowsRound$Smithy" "mends" "I", Cond.methodLink RX2 61 yX2_find, Cond.instanceMethod yX2_find, Cond.selects RX2 yX2_find yX2_find, Cond.code yX2_find cX2_find 2 (some (.object "BellowsRound$Smithy")), Cond.fieldLink RX2 37 "BellowsRound$State" "smithyCount" "I", Cond.fieldLink RX2 11 "BellowsRound$State" "smithies" "[LBellowsRound$Smithy;", Cond.methodLink RX2 86 yX2_reasonAgainst, Cond.instanceMethod yX2_reasonAgainst, Cond.selects RX2 yX2_reasonAgainst yX2_reasonAgainst, Cond.code yX2_reasonAgainst cX2_reasonAgainst 3 (some .int), Cond.fieldLink RX2 112 "BellowsRound$Smithy" "mile" "I"]
def wsX2_doOrder_r3 : List Cond := [Cond.static yX3_hoursOfMend, Cond.code yX3_hoursOfMend cX3_hoursOfMend 1 (some .int), Cond.methodLink RX2 97 yX1_leatherOfMend, Cond.instanceMethod yX1_leatherOfMend, Cond.selects RX1 yX1_leatherOfMend yX1_leatherOfMend, Cond.initialized RX1, Cond.code yX1_leatherOfMend cX1_leatherOfMend 2 (some .int), Cond.fieldLink RX1 15 "BellowsRound$Smithy" "size" "I", Cond.fieldLink RX1 18 "BellowsRound$Smithy" "wear" "I", Cond.methodLink RX2 170 yX2_reasonOfSmithy, Cond.instanceMethod yX2_reasonOfSmithy, Cond.selects RX2 yX2_reasonOfSmithy yX2_reasonOfSmithy, Cond.code yX2_reasonOfSmithy cX2_reasonOfSmithy 2 (some .int), Cond.fieldLink RX2 27 "BellowsRound$State" "patience" "I", Cond.methodLink RX2 90 yX2_priceOfMend, Cond.instanceMethod yX2_priceOfMend, Cond.selects RX2 yX2_priceOfMend yX2_priceOfMend, Cond.code yX2_priceOfMend cX2_priceOfMend 3 (some .int), Cond.fieldLink RX2 24 "BellowsRound$State" "rate" "I", Cond.methodLink RX2 103 yX1_wearBehindMend, Cond.instanceMethod yX1_wearBehindMend, Cond.selects RX1 yX1_wearBehindMend yX1_wearBehindMend, Cond.code yX1_wearBehindMend cX1_wearBehindMend 2 (some .int), Cond.methodLink RX2 164 yX2_collectDebt]
def wsX2_doOrder_r4 : List Cond := [Cond.instanceMethod yX2_collectDebt, Cond.selects RX2 yX2_collectDebt yX2_collectDebt, Cond.code yX2_collectDebt cX2_collectDebt 4 (some .int), Cond.fieldLink RX2 113 "BellowsRound$Smithy" "heat" "I", Cond.fieldLink RX2 120 "BellowsRound$Smithy" "paid" "I", Cond.methodLink RX2 116 yX2_isCold, Cond.instanceMethod yX2_isCold, Cond.selects RX2 yX2_isCold yX2_isCold, Cond.code yX2_isCold cX2_isCold 2 (some .boolean), Cond.fieldLink RX2 17 "BellowsRound$State" "cold" "I", Cond.methodLink RX2 167 yX2_endDays, Cond.instanceMethod yX2_endDays, Cond.selects RX2 yX2_endDays yX2_endDays, Cond.code yX2_endDays cX2_endDays 5 (some .int), Cond.fieldLink RX2 40 "BellowsRound$State" "day" "I", Cond.fieldLink RX2 21 "BellowsRound$State" "hours" "I", Cond.methodLink RX2 123 yX2_endDayOf, Cond.instanceMethod yX2_endDayOf, Cond.selects RX2 yX2_endDayOf yX2_endDayOf, Cond.code yX2_endDayOf cX2_endDayOf 2 none, Cond.fieldLink RX2 135 "BellowsRound$Smithy" "size" "I", Cond.fieldLink RX2 144 "BellowsRound$Smithy" "coldDays" "I", Cond.fieldLink RX2 55 "BellowsRound$State" "longestCold" "I", Cond.methodLink RX2 147 Lib.Math.max.name]
def wsX2_doOrder_r5 : List Cond := [Cond.static Lib.Math.max.name, Cond.code Lib.Math.max.name Lib.Math.max.code 2 (some .int), Cond.static yX3_wearBehindDay, Cond.code yX3_wearBehindDay cX3_wearBehindDay 2 (some .int), Cond.methodLink RX3 243 Lib.Math.min.name, Cond.static Lib.Math.min.name, Cond.code Lib.Math.min.name Lib.Math.min.code 2 (some .int), Cond.static yX3_heatBehindDay, Cond.code yX3_heatBehindDay cX3_heatBehindDay 3 (some .int), Cond.methodLink RX3 248 Lib.Math.max.name, Cond.methodLink RX3 78 yX3_leakOf, Cond.static yX3_leakOf, Cond.code yX3_leakOf cX3_leakOf 1 (some .int), Cond.methodLink RX2 126 yX2_coldSet, Cond.instanceMethod yX2_coldSet, Cond.selects RX2 yX2_coldSet yX2_coldSet, Cond.code yX2_coldSet cX2_coldSet 4 (some .int), Cond.methodLink RX2 130 yJ6_bitCount_0f7a4, Cond.static yJ6_bitCount_0f7a4, Cond.initialized RJ6, Cond.code yJ6_bitCount_0f7a4 cJ6_bitCount_0f7a4 1 (some .int), Cond.constant RJ6 265 (1431655765), Cond.constant RJ6 266 (858993459), Cond.constant RJ6 267 (252645135)]
def wsX2_doOrder : List Cond := .code yX2_doOrder cX2_doOrder 3 (some .int) :: ((wsX2_doOrder_r1 ++ (wsX2_doOrder_r2 ++ (wsX2_doOrder_r3 ++ (wsX2_doOrder_r4 ++ wsX2_doOrder_r5)))) ++ wsX20 ++ wsX10)
def wsX2_wearTogether : List Cond := .code yX2_wearTogether cX2_wearTogether 4 (some .int) :: ([.fieldLink RX2 37 "BellowsRound$State" "smithyCount" "I", .fieldLink RX2 106 "BellowsRound$Smithy" "wear" "I", .methodLink RX2 61 yX2_find, .instanceMethod yX2_find, .selects RX2 yX2_find yX2_find, .initialized RX2, .code yX2_find cX2_find 2 (some (.object "BellowsRound$Smithy")), .fieldLink RX2 11 "BellowsRound$State" "smithies" "[LBellowsRound$Smithy;"] ++ wsX20 ++ wsX10)
def wsX2_debtsTogether : List Cond := .code yX2_debtsTogether cX2_debtsTogether 4 (some .int) :: ([.fieldLink RX2 37 "BellowsRound$State" "smithyCount" "I", .fieldLink RX2 100 "BellowsRound$Smithy" "debt" "I", .methodLink RX2 61 yX2_find, .instanceMethod yX2_find, .selects RX2 yX2_find yX2_find, .initialized RX2, .code yX2_find cX2_find 2 (some (.object "BellowsRound$Smithy")), .fieldLink RX2 11 "BellowsRound$State" "smithies" "[LBellowsRound$Smithy;"] ++ wsX20 ++ wsX10)
def wsX2_coldDaysAhead : List Cond := .code yX2_coldDaysAhead cX2_coldDaysAhead 5 (some .int) :: ([.fieldLink RX2 106 "BellowsRound$Smithy" "wear" "I", .fieldLink RX2 113 "BellowsRound$Smithy" "heat" "I", .fieldLink RX2 135 "BellowsRound$Smithy" "size" "I", .methodLink RX2 116 yX2_isCold, .instanceMethod yX2_isCold, .selects RX2 yX2_isCold yX2_isCold, .initialized RX2, .code yX2_isCold cX2_isCold 2 (some .boolean), .fieldLink RX2 17 "BellowsRound$State" "cold" "I", .static yX3_wearBehindDay, .initialized RX3, .code yX3_wearBehindDay cX3_wearBehindDay 2 (some .int), .methodLink RX3 243 Lib.Math.min.name, .static Lib.Math.min.name, .initialized "java/lang/Math", .code Lib.Math.min.name Lib.Math.min.code 2 (some .int), .static yX3_heatBehindDay, .code yX3_heatBehindDay cX3_heatBehindDay 3 (some .int), .methodLink RX3 248 Lib.Math.max.name, .static Lib.Math.max.name, .code Lib.Math.max.name Lib.Math.max.code 2 (some .int), .methodLink RX3 78 yX3_leakOf, .static yX3_leakOf, .code yX3_leakOf cX3_leakOf 1 (some .int)] ++ wsX10 ++ wsX20)
def wsX2_comesBefore_r1 : List Cond := [Cond.fieldLink RX2 106 "BellowsRound$Smithy" "wear" "I", Cond.fieldLink RX2 112 "BellowsRound$Smithy" "mile" "I", Cond.fieldLink RX2 43 "BellowsRound$State" "mile" "I", Cond.methodLink RX2 80 Lib.Math.abs.name, Cond.static Lib.Math.abs.name, Cond.initialized "java/lang/Math", Cond.code Lib.Math.abs.name Lib.Math.abs.code 1 (some .int), Cond.methodLink RX2 179 yX2_coldDaysAhead, Cond.instanceMethod yX2_coldDaysAhead, Cond.selects RX2 yX2_coldDaysAhead yX2_coldDaysAhead, Cond.initialized RX2, Cond.code yX2_coldDaysAhead cX2_coldDaysAhead 5 (some .int), Cond.fieldLink RX2 113 "BellowsRound$Smithy" "heat" "I", Cond.fieldLink RX2 135 "BellowsRound$Smithy" "size" "I", Cond.methodLink RX2 116 yX2_isCold, Cond.instanceMethod yX2_isCold, Cond.selects RX2 yX2_isCold yX2_isCold, Cond.code yX2_isCold cX2_isCold 2 (some .boolean), Cond.fieldLink RX2 17 "BellowsRound$State" "cold" "I", Cond.static yX3_wearBehindDay, Cond.initialized RX3, Cond.code yX3_wearBehindDay cX3_wearBehindDay 2 (some .int), Cond.methodLink RX3 243 Lib.Math.min.name, Cond.static Lib.Math.min.name]
def wsX2_comesBefore_r2 : List Cond := [Cond.code Lib.Math.min.name Lib.Math.min.code 2 (some .int), Cond.static yX3_heatBehindDay, Cond.code yX3_heatBehindDay cX3_heatBehindDay 3 (some .int), Cond.methodLink RX3 248 Lib.Math.max.name, Cond.static Lib.Math.max.name, Cond.code Lib.Math.max.name Lib.Math.max.code 2 (some .int), Cond.methodLink RX3 78 yX3_leakOf, Cond.static yX3_leakOf, Cond.code yX3_leakOf cX3_leakOf 1 (some .int)]
def wsX2_comesBefore : List Cond := .code yX2_comesBefore cX2_comesBefore 5 (some .boolean) :: ((wsX2_comesBefore_r1 ++ wsX2_comesBefore_r2) ++ wsX10 ++ wsX20)
def wsX2_smithyToBeNext_r1 : List Cond := [Cond.constant RX2 174 (-1000000004), Cond.fieldLink RX2 37 "BellowsRound$State" "smithyCount" "I", Cond.fieldLink RX2 106 "BellowsRound$Smithy" "wear" "I", Cond.methodLink RX2 61 yX2_find, Cond.instanceMethod yX2_find, Cond.selects RX2 yX2_find yX2_find, Cond.initialized RX2, Cond.code yX2_find cX2_find 2 (some (.object "BellowsRound$Smithy")), Cond.fieldLink RX2 11 "BellowsRound$State" "smithies" "[LBellowsRound$Smithy;", Cond.methodLink RX2 175 yX2_comesBefore, Cond.instanceMethod yX2_comesBefore, Cond.selects RX2 yX2_comesBefore yX2_comesBefore, Cond.code yX2_comesBefore cX2_comesBefore 5 (some .boolean), Cond.fieldLink RX2 112 "BellowsRound$Smithy" "mile" "I", Cond.fieldLink RX2 43 "BellowsRound$State" "mile" "I", Cond.methodLink RX2 80 Lib.Math.abs.name, Cond.static Lib.Math.abs.name, Cond.initialized "java/lang/Math", Cond.code Lib.Math.abs.name Lib.Math.abs.code 1 (some .int), Cond.methodLink RX2 179 yX2_coldDaysAhead, Cond.instanceMethod yX2_coldDaysAhead, Cond.selects RX2 yX2_coldDaysAhead yX2_coldDaysAhead, Cond.code yX2_coldDaysAhead cX2_coldDaysAhead 5 (some .int), Cond.fieldLink RX2 113 "BellowsRound$Smithy" "heat" "I"]
def wsX2_smithyToBeNext_r2 : List Cond := [Cond.fieldLink RX2 135 "BellowsRound$Smithy" "size" "I", Cond.methodLink RX2 116 yX2_isCold, Cond.instanceMethod yX2_isCold, Cond.selects RX2 yX2_isCold yX2_isCold, Cond.code yX2_isCold cX2_isCold 2 (some .boolean), Cond.fieldLink RX2 17 "BellowsRound$State" "cold" "I", Cond.static yX3_wearBehindDay, Cond.initialized RX3, Cond.code yX3_wearBehindDay cX3_wearBehindDay 2 (some .int), Cond.methodLink RX3 243 Lib.Math.min.name, Cond.static Lib.Math.min.name, Cond.code Lib.Math.min.name Lib.Math.min.code 2 (some .int), Cond.static yX3_heatBehindDay, Cond.code yX3_heatBehindDay cX3_heatBehindDay 3 (some .int), Cond.methodLink RX3 248 Lib.Math.max.name, Cond.static Lib.Math.max.name, Cond.code Lib.Math.max.name Lib.Math.max.code 2 (some .int), Cond.methodLink RX3 78 yX3_leakOf, Cond.static yX3_leakOf, Cond.code yX3_leakOf cX3_leakOf 1 (some .int)]
def wsX2_smithyToBeNext : List Cond := .code yX2_smithyToBeNext cX2_smithyToBeNext 5 (some .int) :: ((wsX2_smithyToBeNext_r1 ++ wsX2_smithyToBeNext_r2) ++ wsX20 ++ wsX10)
def wsX2_firstOnRoad : List Cond := .code yX2_firstOnRoad cX2_firstOnRoad 6 (some .int) :: ([.fieldLink RX2 37 "BellowsRound$State" "smithyCount" "I", .fieldLink RX2 112 "BellowsRound$Smithy" "mile" "I", .methodLink RX2 61 yX2_find, .instanceMethod yX2_find, .selects RX2 yX2_find yX2_find, .initialized RX2, .code yX2_find cX2_find 2 (some (.object "BellowsRound$Smithy")), .fieldLink RX2 11 "BellowsRound$State" "smithies" "[LBellowsRound$Smithy;"] ++ wsX20 ++ wsX10)
def wsX2_tellRound_r1 : List Cond := [Cond.fieldLink RX2 43 "BellowsRound$State" "mile" "I", Cond.constant RX2 69 (-1000000001), Cond.fieldLink RX2 112 "BellowsRound$Smithy" "mile" "I", Cond.methodLink RX2 182 yX2_firstOnRoad, Cond.instanceMethod yX2_firstOnRoad, Cond.selects RX2 yX2_firstOnRoad yX2_firstOnRoad, Cond.initialized RX2, Cond.code yX2_firstOnRoad cX2_firstOnRoad 6 (some .int), Cond.fieldLink RX2 37 "BellowsRound$State" "smithyCount" "I", Cond.methodLink RX2 61 yX2_find, Cond.instanceMethod yX2_find, Cond.selects RX2 yX2_find yX2_find, Cond.code yX2_find cX2_find 2 (some (.object "BellowsRound$Smithy")), Cond.fieldLink RX2 11 "BellowsRound$State" "smithies" "[LBellowsRound$Smithy;", Cond.static yX3_hoursOfWay, Cond.initialized RX3, Cond.code yX3_hoursOfWay cX3_hoursOfWay 2 (some .int), Cond.methodLink RX3 251 Lib.Math.abs.name, Cond.static Lib.Math.abs.name, Cond.initialized "java/lang/Math", Cond.code Lib.Math.abs.name Lib.Math.abs.code 1 (some .int), Cond.methodLink RX3 254 yX3_tensBegun, Cond.static yX3_tensBegun, Cond.code yX3_tensBegun cX3_tensBegun 1 (some .int)]
def wsX2_tellRound_r2 : List Cond := [Cond.methodLink RX2 170 yX2_reasonOfSmithy, Cond.instanceMethod yX2_reasonOfSmithy, Cond.selects RX2 yX2_reasonOfSmithy yX2_reasonOfSmithy, Cond.code yX2_reasonOfSmithy cX2_reasonOfSmithy 2 (some .int), Cond.fieldLink RX2 100 "BellowsRound$Smithy" "debt" "I", Cond.fieldLink RX2 27 "BellowsRound$State" "patience" "I", Cond.fieldLink RX2 106 "BellowsRound$Smithy" "wear" "I", Cond.static yX3_hoursOfMend, Cond.code yX3_hoursOfMend cX3_hoursOfMend 1 (some .int), Cond.methodLink RX2 97 yX1_leatherOfMend, Cond.instanceMethod yX1_leatherOfMend, Cond.selects RX1 yX1_leatherOfMend yX1_leatherOfMend, Cond.initialized RX1, Cond.code yX1_leatherOfMend cX1_leatherOfMend 2 (some .int), Cond.fieldLink RX1 15 "BellowsRound$Smithy" "size" "I", Cond.fieldLink RX1 18 "BellowsRound$Smithy" "wear" "I", Cond.methodLink RX2 90 yX2_priceOfMend, Cond.instanceMethod yX2_priceOfMend, Cond.selects RX2 yX2_priceOfMend yX2_priceOfMend, Cond.code yX2_priceOfMend cX2_priceOfMend 3 (some .int), Cond.fieldLink RX2 24 "BellowsRound$State" "rate" "I"]
def wsX2_tellRound : List Cond := .code yX2_tellRound cX2_tellRound 11 (some .int) :: ((wsX2_tellRound_r1 ++ wsX2_tellRound_r2) ++ wsX20 ++ wsX10)
def wsX3_init_r1 : List Cond := [Cond.methodLink RX3 3 objectInit, Cond.instanceMethod objectInit, Cond.code objectInit ⟨#[0xb1]⟩ 1 none, Cond.classLink RX3 9 RX2, Cond.instantiable RX2 15, Cond.initialized RX2, Cond.fieldLink RX3 12 "BellowsRound" "now" "LBellowsRound$State;", Cond.fieldLink RX3 16 "BellowsRound" "trial" "LBellowsRound$State;", Cond.fieldLink RX3 19 "BellowsRound" "history" "[LBellowsRound$State;", Cond.classLink RX3 23 RX0, Cond.instantiable RX0 6, Cond.initialized RX0, Cond.fieldLink RX3 26 "BellowsRound" "text" "LBellowsRound$OrderText;", Cond.methodLink RX3 11 yX2_init, Cond.instanceMethod yX2_init, Cond.code yX2_init cX2_init 2 none, Cond.methodLink RX2 3 objectInit, Cond.classLink RX2 9 RX1, Cond.fieldLink RX2 11 "BellowsRound$State" "smithies" "[LBellowsRound$Smithy;", Cond.fieldLink RX2 17 "BellowsRound$State" "cold" "I", Cond.fieldLink RX2 21 "BellowsRound$State" "hours" "I", Cond.fieldLink RX2 24 "BellowsRound$State" "rate" "I", Cond.fieldLink RX2 27 "BellowsRound$State" "patience" "I", Cond.fieldLink RX2 30 "BellowsRound$State" "hoursLeft" "I"]
def wsX3_init_r2 : List Cond := [Cond.fieldLink RX2 33 "BellowsRound$State" "money" "I", Cond.instantiable RX1 8, Cond.initialized RX1, Cond.instanceMethod yX1_init, Cond.code yX1_init cX1_init 1 none, Cond.methodLink RX1 3 objectInit, Cond.instanceMethod yX0_init, Cond.code yX0_init cX0_init 1 none, Cond.methodLink RX0 3 objectInit, Cond.arrayClass .char, Cond.fieldLink RX0 9 "BellowsRound$OrderText" "characters" "[C"]
def wsX3_init : List Cond := .code yX3_init cX3_init 2 none :: ((wsX3_init_r1 ++ wsX3_init_r2) ++ wsX20 ++ wsX30 ++ wsX00 ++ wsX10)
def wsX3_dropOldestState : List Cond := .code yX3_dropOldestState cX3_dropOldestState 3 none :: ([.fieldLink RX3 19 "BellowsRound" "history" "[LBellowsRound$State;", .fieldLink RX3 176 "BellowsRound" "states" "I"] ++ wsX30)
def wsX3_remember_r1 : List Cond := [Cond.fieldLink RX3 176 "BellowsRound" "states" "I", Cond.fieldLink RX3 19 "BellowsRound" "history" "[LBellowsRound$State;", Cond.fieldLink RX3 12 "BellowsRound" "now" "LBellowsRound$State;", Cond.methodLink RX3 218 yX3_dropOldestState, Cond.instanceMethod yX3_dropOldestState, Cond.selects RX3 yX3_dropOldestState yX3_dropOldestState, Cond.initialized RX3, Cond.code yX3_dropOldestState cX3_dropOldestState 3 none, Cond.methodLink RX3 30 yX2_copyFrom, Cond.instanceMethod yX2_copyFrom, Cond.selects RX2 yX2_copyFrom yX2_copyFrom, Cond.initialized RX2, Cond.code yX2_copyFrom cX2_copyFrom 5 none, Cond.fieldLink RX2 37 "BellowsRound$State" "smithyCount" "I", Cond.fieldLink RX2 17 "BellowsRound$State" "cold" "I", Cond.fieldLink RX2 21 "BellowsRound$State" "hours" "I", Cond.fieldLink RX2 24 "BellowsRound$State" "rate" "I", Cond.fieldLink RX2 27 "BellowsRound$State" "patience" "I", Cond.fieldLink RX2 40 "BellowsRound$State" "day" "I", Cond.fieldLink RX2 43 "BellowsRound$State" "mile" "I", Cond.fieldLink RX2 30 "BellowsRound$State" "hoursLeft" "I", Cond.fieldLink RX2 46 "BellowsRound$State" "leather" "I", Cond.fieldLink RX2 33 "BellowsRound$State" "money" "I", Cond.fieldLink RX2 49 "BellowsRound$State" "paidForLeather" "I"]
def wsX3_remember_r2 : List Cond := [Cond.fieldLink RX2 52 "BellowsRound$State" "owedForMends" "I", Cond.fieldLink RX2 55 "BellowsRound$State" "longestCold" "I", Cond.fieldLink RX2 58 "BellowsRound$State" "milesWalked" "I", Cond.methodLink RX2 61 yX2_find, Cond.instanceMethod yX2_find, Cond.selects RX2 yX2_find yX2_find, Cond.code yX2_find cX2_find 2 (some (.object "BellowsRound$Smithy")), Cond.fieldLink RX2 11 "BellowsRound$State" "smithies" "[LBellowsRound$Smithy;", Cond.methodLink RX2 65 yX1_copyFrom, Cond.instanceMethod yX1_copyFrom, Cond.selects RX1 yX1_copyFrom yX1_copyFrom, Cond.initialized RX1, Cond.code yX1_copyFrom cX1_copyFrom 2 none, Cond.fieldLink RX1 9 "BellowsRound$Smithy" "mile" "I", Cond.fieldLink RX1 15 "BellowsRound$Smithy" "size" "I", Cond.fieldLink RX1 18 "BellowsRound$Smithy" "wear" "I", Cond.fieldLink RX1 21 "BellowsRound$Smithy" "heat" "I", Cond.fieldLink RX1 24 "BellowsRound$Smithy" "coldDays" "I", Cond.fieldLink RX1 27 "BellowsRound$Smithy" "debt" "I", Cond.fieldLink RX1 30 "BellowsRound$Smithy" "paid" "I", Cond.fieldLink RX1 33 "BellowsRound$Smithy" "mends" "I"]
def wsX3_remember : List Cond := .code yX3_remember cX3_remember 2 none :: ((wsX3_remember_r1 ++ wsX3_remember_r2) ++ wsX30 ++ wsX20 ++ wsX10)
def wsX3_commit_r1 : List Cond := [Cond.fieldLink RX3 12 "BellowsRound" "now" "LBellowsRound$State;", Cond.fieldLink RX3 16 "BellowsRound" "trial" "LBellowsRound$State;", Cond.methodLink RX3 215 yX3_remember, Cond.instanceMethod yX3_remember, Cond.selects RX3 yX3_remember yX3_remember, Cond.initialized RX3, Cond.code yX3_remember cX3_remember 2 none, Cond.fieldLink RX3 176 "BellowsRound" "states" "I", Cond.fieldLink RX3 19 "BellowsRound" "history" "[LBellowsRound$State;", Cond.methodLink RX3 218 yX3_dropOldestState, Cond.instanceMethod yX3_dropOldestState, Cond.selects RX3 yX3_dropOldestState yX3_dropOldestState, Cond.code yX3_dropOldestState cX3_dropOldestState 3 none, Cond.methodLink RX3 30 yX2_copyFrom, Cond.instanceMethod yX2_copyFrom, Cond.selects RX2 yX2_copyFrom yX2_copyFrom, Cond.initialized RX2, Cond.code yX2_copyFrom cX2_copyFrom 5 none, Cond.fieldLink RX2 37 "BellowsRound$State" "smithyCount" "I", Cond.fieldLink RX2 17 "BellowsRound$State" "cold" "I", Cond.fieldLink RX2 21 "BellowsRound$State" "hours" "I", Cond.fieldLink RX2 24 "BellowsRound$State" "rate" "I", Cond.fieldLink RX2 27 "BellowsRound$State" "patience" "I", Cond.fieldLink RX2 40 "BellowsRound$State" "day" "I"]
def wsX3_commit_r2 : List Cond := [Cond.fieldLink RX2 43 "BellowsRound$State" "mile" "I", Cond.fieldLink RX2 30 "BellowsRound$State" "hoursLeft" "I", Cond.fieldLink RX2 46 "BellowsRound$State" "leather" "I", Cond.fieldLink RX2 33 "BellowsRound$State" "money" "I", Cond.fieldLink RX2 49 "BellowsRound$State" "paidForLeather" "I", Cond.fieldLink RX2 52 "BellowsRound$State" "owedForMends" "I", Cond.fieldLink RX2 55 "BellowsRound$State" "longestCold" "I", Cond.fieldLink RX2 58 "BellowsRound$State" "milesWalked" "I", Cond.methodLink RX2 61 yX2_find, Cond.instanceMethod yX2_find, Cond.selects RX2 yX2_find yX2_find, Cond.code yX2_find cX2_find 2 (some (.object "BellowsRound$Smithy")), Cond.fieldLink RX2 11 "BellowsRound$State" "smithies" "[LBellowsRound$Smithy;", Cond.methodLink RX2 65 yX1_copyFrom, Cond.instanceMethod yX1_copyFrom, Cond.selects RX1 yX1_copyFrom yX1_copyFrom, Cond.initialized RX1, Cond.code yX1_copyFrom cX1_copyFrom 2 none, Cond.fieldLink RX1 9 "BellowsRound$Smithy" "mile" "I", Cond.fieldLink RX1 15 "BellowsRound$Smithy" "size" "I", Cond.fieldLink RX1 18 "BellowsRound$Smithy" "wear" "I", Cond.fieldLink RX1 21 "BellowsRound$Smithy" "heat" "I", Cond.fieldLink RX1 24 "BellowsRound$Smithy" "coldDays" "I", Cond.fieldLink RX1 27 "BellowsRound$Smithy" "debt" "I"]
def wsX3_commit_r3 : List Cond := [Cond.fieldLink RX1 30 "BellowsRound$Smithy" "paid" "I", Cond.fieldLink RX1 33 "BellowsRound$Smithy" "mends" "I"]
def wsX3_commit : List Cond := .code yX3_commit cX3_commit 3 (some .int) :: ((wsX3_commit_r1 ++ (wsX3_commit_r2 ++ wsX3_commit_r3)) ++ wsX30 ++ wsX20 ++ wsX10)
def wsX3_smithy_r1 : List Cond := [Cond.fieldLink RX3 16 "BellowsRound" "trial" "LBellowsRound$State;", Cond.fieldLink RX3 12 "BellowsRound" "now" "LBellowsRound$State;", Cond.methodLink RX3 30 yX2_copyFrom, Cond.instanceMethod yX2_copyFrom, Cond.selects RX2 yX2_copyFrom yX2_copyFrom, Cond.initialized RX2, Cond.code yX2_copyFrom cX2_copyFrom 5 none, Cond.fieldLink RX2 37 "BellowsRound$State" "smithyCount" "I", Cond.fieldLink RX2 17 "BellowsRound$State" "cold" "I", Cond.fieldLink RX2 21 "BellowsRound$State" "hours" "I", Cond.fieldLink RX2 24 "BellowsRound$State" "rate" "I", Cond.fieldLink RX2 27 "BellowsRound$State" "patience" "I", Cond.fieldLink RX2 40 "BellowsRound$State" "day" "I", Cond.fieldLink RX2 43 "BellowsRound$State" "mile" "I", Cond.fieldLink RX2 30 "BellowsRound$State" "hoursLeft" "I", Cond.fieldLink RX2 46 "BellowsRound$State" "leather" "I", Cond.fieldLink RX2 33 "BellowsRound$State" "money" "I", Cond.fieldLink RX2 49 "BellowsRound$State" "paidForLeather" "I", Cond.fieldLink RX2 52 "BellowsRound$State" "owedForMends" "I", Cond.fieldLink RX2 55 "BellowsRound$State" "longestCold" "I", Cond.fieldLink RX2 58 "BellowsRound$State" "milesWalked" "I", Cond.methodLink RX2 61 yX2_find, Cond.instanceMethod yX2_find, Cond.selects RX2 yX2_find yX2_find]
def wsX3_smithy_r2 : List Cond := [Cond.code yX2_find cX2_find 2 (some (.object "BellowsRound$Smithy")), Cond.fieldLink RX2 11 "BellowsRound$State" "smithies" "[LBellowsRound$Smithy;", Cond.methodLink RX2 65 yX1_copyFrom, Cond.instanceMethod yX1_copyFrom, Cond.selects RX1 yX1_copyFrom yX1_copyFrom, Cond.initialized RX1, Cond.code yX1_copyFrom cX1_copyFrom 2 none, Cond.fieldLink RX1 9 "BellowsRound$Smithy" "mile" "I", Cond.fieldLink RX1 15 "BellowsRound$Smithy" "size" "I", Cond.fieldLink RX1 18 "BellowsRound$Smithy" "wear" "I", Cond.fieldLink RX1 21 "BellowsRound$Smithy" "heat" "I", Cond.fieldLink RX1 24 "BellowsRound$Smithy" "coldDays" "I", Cond.fieldLink RX1 27 "BellowsRound$Smithy" "debt" "I", Cond.fieldLink RX1 30 "BellowsRound$Smithy" "paid" "I", Cond.fieldLink RX1 33 "BellowsRound$Smithy" "mends" "I", Cond.methodLink RX3 34 yX2_addSmithy, Cond.instanceMethod yX2_addSmithy, Cond.selects RX2 yX2_addSmithy yX2_addSmithy, Cond.code yX2_addSmithy cX2_addSmithy 5 (some .int), Cond.constant RX2 69 (-1000000001), Cond.constant RX2 70 (-1000000003), Cond.methodLink RX2 71 yX1_beginAt, Cond.instanceMethod yX1_beginAt, Cond.selects RX1 yX1_beginAt yX1_beginAt]
def wsX3_smithy_r3 : List Cond := [Cond.code yX1_beginAt cX1_beginAt 3 none, Cond.methodLink RX3 38 yX3_commit, Cond.instanceMethod yX3_commit, Cond.selects RX3 yX3_commit yX3_commit, Cond.initialized RX3, Cond.code yX3_commit cX3_commit 3 (some .int), Cond.methodLink RX3 215 yX3_remember, Cond.instanceMethod yX3_remember, Cond.selects RX3 yX3_remember yX3_remember, Cond.code yX3_remember cX3_remember 2 none, Cond.fieldLink RX3 176 "BellowsRound" "states" "I", Cond.fieldLink RX3 19 "BellowsRound" "history" "[LBellowsRound$State;", Cond.methodLink RX3 218 yX3_dropOldestState, Cond.instanceMethod yX3_dropOldestState, Cond.selects RX3 yX3_dropOldestState yX3_dropOldestState, Cond.code yX3_dropOldestState cX3_dropOldestState 3 none]
def wsX3_smithy : List Cond := .code yX3_smithy cX3_smithy 3 (some .int) :: ((wsX3_smithy_r1 ++ (wsX3_smithy_r2 ++ wsX3_smithy_r3)) ++ wsX30 ++ wsX20 ++ wsX10)
def wsX3_walk_r1 : List Cond := [Cond.fieldLink RX3 16 "BellowsRound" "trial" "LBellowsRound$State;", Cond.fieldLink RX3 12 "BellowsRound" "now" "LBellowsRound$State;", Cond.methodLink RX3 30 yX2_copyFrom, Cond.instanceMethod yX2_copyFrom, Cond.selects RX2 yX2_copyFrom yX2_copyFrom, Cond.initialized RX2, Cond.code yX2_copyFrom cX2_copyFrom 5 none, Cond.fieldLink RX2 37 "BellowsRound$State" "smithyCount" "I", Cond.fieldLink RX2 17 "BellowsRound$State" "cold" "I", Cond.fieldLink RX2 21 "BellowsRound$State" "hours" "I", Cond.fieldLink RX2 24 "BellowsRound$State" "rate" "I", Cond.fieldLink RX2 27 "BellowsRound$State" "patience" "I", Cond.fieldLink RX2 40 "BellowsRound$State" "day" "I", Cond.fieldLink RX2 43 "BellowsRound$State" "mile" "I", Cond.fieldLink RX2 30 "BellowsRound$State" "hoursLeft" "I", Cond.fieldLink RX2 46 "BellowsRound$State" "leather" "I", Cond.fieldLink RX2 33 "BellowsRound$State" "money" "I", Cond.fieldLink RX2 49 "BellowsRound$State" "paidForLeather" "I", Cond.fieldLink RX2 52 "BellowsRound$State" "owedForMends" "I", Cond.fieldLink RX2 55 "BellowsRound$State" "longestCold" "I", Cond.fieldLink RX2 58 "BellowsRound$State" "milesWalked" "I", Cond.methodLink RX2 61 yX2_find, Cond.instanceMethod yX2_find, Cond.selects RX2 yX2_find yX2_find]
def wsX3_walk_r2 : List Cond := [Cond.code yX2_find cX2_find 2 (some (.object "BellowsRound$Smithy")), Cond.fieldLink RX2 11 "BellowsRound$State" "smithies" "[LBellowsRound$Smithy;", Cond.methodLink RX2 65 yX1_copyFrom, Cond.instanceMethod yX1_copyFrom, Cond.selects RX1 yX1_copyFrom yX1_copyFrom, Cond.initialized RX1, Cond.code yX1_copyFrom cX1_copyFrom 2 none, Cond.fieldLink RX1 9 "BellowsRound$Smithy" "mile" "I", Cond.fieldLink RX1 15 "BellowsRound$Smithy" "size" "I", Cond.fieldLink RX1 18 "BellowsRound$Smithy" "wear" "I", Cond.fieldLink RX1 21 "BellowsRound$Smithy" "heat" "I", Cond.fieldLink RX1 24 "BellowsRound$Smithy" "coldDays" "I", Cond.fieldLink RX1 27 "BellowsRound$Smithy" "debt" "I", Cond.fieldLink RX1 30 "BellowsRound$Smithy" "paid" "I", Cond.fieldLink RX1 33 "BellowsRound$Smithy" "mends" "I", Cond.methodLink RX3 42 yX2_walkTo, Cond.instanceMethod yX2_walkTo, Cond.selects RX2 yX2_walkTo yX2_walkTo, Cond.code yX2_walkTo cX2_walkTo 3 (some .int), Cond.constant RX2 69 (-1000000001), Cond.constant RX2 79 (-1000000002), Cond.methodLink RX2 80 Lib.Math.abs.name, Cond.static Lib.Math.abs.name, Cond.initialized "java/lang/Math"]
def wsX3_walk_r3 : List Cond := [Cond.code Lib.Math.abs.name Lib.Math.abs.code 1 (some .int), Cond.static yX3_hoursOfWay, Cond.initialized RX3, Cond.code yX3_hoursOfWay cX3_hoursOfWay 2 (some .int), Cond.methodLink RX3 251 Lib.Math.abs.name, Cond.methodLink RX3 254 yX3_tensBegun, Cond.static yX3_tensBegun, Cond.code yX3_tensBegun cX3_tensBegun 1 (some .int), Cond.methodLink RX3 38 yX3_commit, Cond.instanceMethod yX3_commit, Cond.selects RX3 yX3_commit yX3_commit, Cond.code yX3_commit cX3_commit 3 (some .int), Cond.methodLink RX3 215 yX3_remember, Cond.instanceMethod yX3_remember, Cond.selects RX3 yX3_remember yX3_remember, Cond.code yX3_remember cX3_remember 2 none, Cond.fieldLink RX3 176 "BellowsRound" "states" "I", Cond.fieldLink RX3 19 "BellowsRound" "history" "[LBellowsRound$State;", Cond.methodLink RX3 218 yX3_dropOldestState, Cond.instanceMethod yX3_dropOldestState, Cond.selects RX3 yX3_dropOldestState yX3_dropOldestState, Cond.code yX3_dropOldestState cX3_dropOldestState 3 none]
def wsX3_walk : List Cond := .code yX3_walk cX3_walk 2 (some .int) :: ((wsX3_walk_r1 ++ (wsX3_walk_r2 ++ wsX3_walk_r3)) ++ wsX30 ++ wsX20 ++ wsX10)
def wsX3_buy_r1 : List Cond := [Cond.fieldLink RX3 16 "BellowsRound" "trial" "LBellowsRound$State;", Cond.fieldLink RX3 12 "BellowsRound" "now" "LBellowsRound$State;", Cond.methodLink RX3 30 yX2_copyFrom, Cond.instanceMethod yX2_copyFrom, Cond.selects RX2 yX2_copyFrom yX2_copyFrom, Cond.initialized RX2, Cond.code yX2_copyFrom cX2_copyFrom 5 none, Cond.fieldLink RX2 37 "BellowsRound$State" "smithyCount" "I", Cond.fieldLink RX2 17 "BellowsRound$State" "cold" "I", Cond.fieldLink RX2 21 "BellowsRound$State" "hours" "I", Cond.fieldLink RX2 24 "BellowsRound$State" "rate" "I", Cond.fieldLink RX2 27 "BellowsRound$State" "patience" "I", Cond.fieldLink RX2 40 "BellowsRound$State" "day" "I", Cond.fieldLink RX2 43 "BellowsRound$State" "mile" "I", Cond.fieldLink RX2 30 "BellowsRound$State" "hoursLeft" "I", Cond.fieldLink RX2 46 "BellowsRound$State" "leather" "I", Cond.fieldLink RX2 33 "BellowsRound$State" "money" "I", Cond.fieldLink RX2 49 "BellowsRound$State" "paidForLeather" "I", Cond.fieldLink RX2 52 "BellowsRound$State" "owedForMends" "I", Cond.fieldLink RX2 55 "BellowsRound$State" "longestCold" "I", Cond.fieldLink RX2 58 "BellowsRound$State" "milesWalked" "I", Cond.methodLink RX2 61 yX2_find, Cond.instanceMethod yX2_find, Cond.selects RX2 yX2_find yX2_find]
def wsX3_buy_r2 : List Cond := [Cond.code yX2_find cX2_find 2 (some (.object "BellowsRound$Smithy")), Cond.fieldLink RX2 11 "BellowsRound$State" "smithies" "[LBellowsRound$Smithy;", Cond.methodLink RX2 65 yX1_copyFrom, Cond.instanceMethod yX1_copyFrom, Cond.selects RX1 yX1_copyFrom yX1_copyFrom, Cond.initialized RX1, Cond.code yX1_copyFrom cX1_copyFrom 2 none, Cond.fieldLink RX1 9 "BellowsRound$Smithy" "mile" "I", Cond.fieldLink RX1 15 "BellowsRound$Smithy" "size" "I", Cond.fieldLink RX1 18 "BellowsRound$Smithy" "wear" "I", Cond.fieldLink RX1 21 "BellowsRound$Smithy" "heat" "I", Cond.fieldLink RX1 24 "BellowsRound$Smithy" "coldDays" "I", Cond.fieldLink RX1 27 "BellowsRound$Smithy" "debt" "I", Cond.fieldLink RX1 30 "BellowsRound$Smithy" "paid" "I", Cond.fieldLink RX1 33 "BellowsRound$Smithy" "mends" "I", Cond.methodLink RX3 45 yX2_buyLeather, Cond.instanceMethod yX2_buyLeather, Cond.selects RX2 yX2_buyLeather yX2_buyLeather, Cond.code yX2_buyLeather cX2_buyLeather 3 (some .int), Cond.constant RX2 69 (-1000000001), Cond.constant RX2 79 (-1000000002), Cond.constant RX2 70 (-1000000003), Cond.methodLink RX3 38 yX3_commit, Cond.instanceMethod yX3_commit]
def wsX3_buy_r3 : List Cond := [Cond.selects RX3 yX3_commit yX3_commit, Cond.initialized RX3, Cond.code yX3_commit cX3_commit 3 (some .int), Cond.methodLink RX3 215 yX3_remember, Cond.instanceMethod yX3_remember, Cond.selects RX3 yX3_remember yX3_remember, Cond.code yX3_remember cX3_remember 2 none, Cond.fieldLink RX3 176 "BellowsRound" "states" "I", Cond.fieldLink RX3 19 "BellowsRound" "history" "[LBellowsRound$State;", Cond.methodLink RX3 218 yX3_dropOldestState, Cond.instanceMethod yX3_dropOldestState, Cond.selects RX3 yX3_dropOldestState yX3_dropOldestState, Cond.code yX3_dropOldestState cX3_dropOldestState 3 none]
def wsX3_buy : List Cond := .code yX3_buy cX3_buy 2 (some .int) :: ((wsX3_buy_r1 ++ (wsX3_buy_r2 ++ wsX3_buy_r3)) ++ wsX30 ++ wsX20 ++ wsX10)
def wsX3_patch_r1 : List Cond := [Cond.fieldLink RX3 16 "BellowsRound" "trial" "LBellowsRound$State;", Cond.fieldLink RX3 12 "BellowsRound" "now" "LBellowsRound$State;", Cond.methodLink RX3 30 yX2_copyFrom, Cond.instanceMethod yX2_copyFrom, Cond.selects RX2 yX2_copyFrom yX2_copyFrom, Cond.initialized RX2, Cond.code yX2_copyFrom cX2_copyFrom 5 none, Cond.fieldLink RX2 37 "BellowsRound$State" "smithyCount" "I", Cond.fieldLink RX2 17 "BellowsRound$State" "cold" "I", Cond.fieldLink RX2 21 "BellowsRound$State" "hours" "I", Cond.fieldLink RX2 24 "BellowsRound$State" "rate" "I", Cond.fieldLink RX2 27 "BellowsRound$State" "patience" "I", Cond.fieldLink RX2 40 "BellowsRound$State" "day" "I", Cond.fieldLink RX2 43 "BellowsRound$State" "mile" "I", Cond.fieldLink RX2 30 "BellowsRound$State" "hoursLeft" "I", Cond.fieldLink RX2 46 "BellowsRound$State" "leather" "I", Cond.fieldLink RX2 33 "BellowsRound$State" "money" "I", Cond.fieldLink RX2 49 "BellowsRound$State" "paidForLeather" "I", Cond.fieldLink RX2 52 "BellowsRound$State" "owedForMends" "I", Cond.fieldLink RX2 55 "BellowsRound$State" "longestCold" "I", Cond.fieldLink RX2 58 "BellowsRound$State" "milesWalked" "I", Cond.methodLink RX2 61 yX2_find, Cond.instanceMethod yX2_find, Cond.selects RX2 yX2_find yX2_find]
def wsX3_patch_r2 : List Cond := [Cond.code yX2_find cX2_find 2 (some (.object "BellowsRound$Smithy")), Cond.fieldLink RX2 11 "BellowsRound$State" "smithies" "[LBellowsRound$Smithy;", Cond.methodLink RX2 65 yX1_copyFrom, Cond.instanceMethod yX1_copyFrom, Cond.selects RX1 yX1_copyFrom yX1_copyFrom, Cond.initialized RX1, Cond.code yX1_copyFrom cX1_copyFrom 2 none, Cond.fieldLink RX1 9 "BellowsRound$Smithy" "mile" "I", Cond.fieldLink RX1 15 "BellowsRound$Smithy" "size" "I", Cond.fieldLink RX1 18 "BellowsRound$Smithy" "wear" "I", Cond.fieldLink RX1 21 "BellowsRound$Smithy" "heat" "I", Cond.fieldLink RX1 24 "BellowsRound$Smithy" "coldDays" "I", Cond.fieldLink RX1 27 "BellowsRound$Smithy" "debt" "I", Cond.fieldLink RX1 30 "BellowsRound$Smithy" "paid" "I", Cond.fieldLink RX1 33 "BellowsRound$Smithy" "mends" "I", Cond.methodLink RX3 48 yX2_mendBellows, Cond.instanceMethod yX2_mendBellows, Cond.selects RX2 yX2_mendBellows yX2_mendBellows, Cond.code yX2_mendBellows cX2_mendBellows 5 (some .int), Cond.constant RX2 69 (-1000000001), Cond.constant RX2 79 (-1000000002), Cond.fieldLink RX2 100 "BellowsRound$Smithy" "debt" "I", Cond.fieldLink RX2 106 "BellowsRound$Smithy" "wear" "I", Cond.fieldLink RX2 109 "BellowsRound$Smithy" "mends" "I"]
def wsX3_patch_r3 : List Cond := [Cond.methodLink RX2 86 yX2_reasonAgainst, Cond.instanceMethod yX2_reasonAgainst, Cond.selects RX2 yX2_reasonAgainst yX2_reasonAgainst, Cond.code yX2_reasonAgainst cX2_reasonAgainst 3 (some .int), Cond.fieldLink RX2 112 "BellowsRound$Smithy" "mile" "I", Cond.static yX3_hoursOfMend, Cond.initialized RX3, Cond.code yX3_hoursOfMend cX3_hoursOfMend 1 (some .int), Cond.methodLink RX2 97 yX1_leatherOfMend, Cond.instanceMethod yX1_leatherOfMend, Cond.selects RX1 yX1_leatherOfMend yX1_leatherOfMend, Cond.code yX1_leatherOfMend cX1_leatherOfMend 2 (some .int), Cond.static yX3_tensBegun, Cond.code yX3_tensBegun cX3_tensBegun 1 (some .int), Cond.methodLink RX2 170 yX2_reasonOfSmithy, Cond.instanceMethod yX2_reasonOfSmithy, Cond.selects RX2 yX2_reasonOfSmithy yX2_reasonOfSmithy, Cond.code yX2_reasonOfSmithy cX2_reasonOfSmithy 2 (some .int), Cond.methodLink RX2 90 yX2_priceOfMend, Cond.instanceMethod yX2_priceOfMend, Cond.selects RX2 yX2_priceOfMend yX2_priceOfMend, Cond.code yX2_priceOfMend cX2_priceOfMend 3 (some .int), Cond.methodLink RX2 103 yX1_wearBehindMend, Cond.instanceMethod yX1_wearBehindMend]
def wsX3_patch_r4 : List Cond := [Cond.selects RX1 yX1_wearBehindMend yX1_wearBehindMend, Cond.code yX1_wearBehindMend cX1_wearBehindMend 2 (some .int), Cond.methodLink RX3 38 yX3_commit, Cond.instanceMethod yX3_commit, Cond.selects RX3 yX3_commit yX3_commit, Cond.code yX3_commit cX3_commit 3 (some .int), Cond.methodLink RX3 215 yX3_remember, Cond.instanceMethod yX3_remember, Cond.selects RX3 yX3_remember yX3_remember, Cond.code yX3_remember cX3_remember 2 none, Cond.fieldLink RX3 176 "BellowsRound" "states" "I", Cond.fieldLink RX3 19 "BellowsRound" "history" "[LBellowsRound$State;", Cond.methodLink RX3 218 yX3_dropOldestState, Cond.instanceMethod yX3_dropOldestState, Cond.selects RX3 yX3_dropOldestState yX3_dropOldestState, Cond.code yX3_dropOldestState cX3_dropOldestState 3 none]
def wsX3_patch : List Cond := .code yX3_patch cX3_patch 2 (some .int) :: ((wsX3_patch_r1 ++ (wsX3_patch_r2 ++ (wsX3_patch_r3 ++ wsX3_patch_r4))) ++ wsX30 ++ wsX20 ++ wsX10)
def wsX3_hide_r1 : List Cond := [Cond.fieldLink RX3 16 "BellowsRound" "trial" "LBellowsRound$State;", Cond.fieldLink RX3 12 "BellowsRound" "now" "LBellowsRound$State;", Cond.methodLink RX3 30 yX2_copyFrom, Cond.instanceMethod yX2_copyFrom, Cond.selects RX2 yX2_copyFrom yX2_copyFrom, Cond.initialized RX2, Cond.code yX2_copyFrom cX2_copyFrom 5 none, Cond.fieldLink RX2 37 "BellowsRound$State" "smithyCount" "I", Cond.fieldLink RX2 17 "BellowsRound$State" "cold" "I", Cond.fieldLink RX2 21 "BellowsRound$State" "hours" "I", Cond.fieldLink RX2 24 "BellowsRound$State" "rate" "I", Cond.fieldLink RX2 27 "BellowsRound$State" "patience" "I", Cond.fieldLink RX2 40 "BellowsRound$State" "day" "I", Cond.fieldLink RX2 43 "BellowsRound$State" "mile" "I", Cond.fieldLink RX2 30 "BellowsRound$State" "hoursLeft" "I", Cond.fieldLink RX2 46 "BellowsRound$State" "leather" "I", Cond.fieldLink RX2 33 "BellowsRound$State" "money" "I", Cond.fieldLink RX2 49 "BellowsRound$State" "paidForLeather" "I", Cond.fieldLink RX2 52 "BellowsRound$State" "owedForMends" "I", Cond.fieldLink RX2 55 "BellowsRound$State" "longestCold" "I", Cond.fieldLink RX2 58 "BellowsRound$State" "milesWalked" "I", Cond.methodLink RX2 61 yX2_find, Cond.instanceMethod yX2_find, Cond.selects RX2 yX2_find yX2_find]
def wsX3_hide_r2 : List Cond := [Cond.code yX2_find cX2_find 2 (some (.object "BellowsRound$Smithy")), Cond.fieldLink RX2 11 "BellowsRound$State" "smithies" "[LBellowsRound$Smithy;", Cond.methodLink RX2 65 yX1_copyFrom, Cond.instanceMethod yX1_copyFrom, Cond.selects RX1 yX1_copyFrom yX1_copyFrom, Cond.initialized RX1, Cond.code yX1_copyFrom cX1_copyFrom 2 none, Cond.fieldLink RX1 9 "BellowsRound$Smithy" "mile" "I", Cond.fieldLink RX1 15 "BellowsRound$Smithy" "size" "I", Cond.fieldLink RX1 18 "BellowsRound$Smithy" "wear" "I", Cond.fieldLink RX1 21 "BellowsRound$Smithy" "heat" "I", Cond.fieldLink RX1 24 "BellowsRound$Smithy" "coldDays" "I", Cond.fieldLink RX1 27 "BellowsRound$Smithy" "debt" "I", Cond.fieldLink RX1 30 "BellowsRound$Smithy" "paid" "I", Cond.fieldLink RX1 33 "BellowsRound$Smithy" "mends" "I", Cond.methodLink RX3 48 yX2_mendBellows, Cond.instanceMethod yX2_mendBellows, Cond.selects RX2 yX2_mendBellows yX2_mendBellows, Cond.code yX2_mendBellows cX2_mendBellows 5 (some .int), Cond.constant RX2 69 (-1000000001), Cond.constant RX2 79 (-1000000002), Cond.fieldLink RX2 100 "BellowsRound$Smithy" "debt" "I", Cond.fieldLink RX2 106 "BellowsRound$Smithy" "wear" "I", Cond.fieldLink RX2 109 "BellowsRound$Smithy" "mends" "I"]
def wsX3_hide_r3 : List Cond := [Cond.methodLink RX2 86 yX2_reasonAgainst, Cond.instanceMethod yX2_reasonAgainst, Cond.selects RX2 yX2_reasonAgainst yX2_reasonAgainst, Cond.code yX2_reasonAgainst cX2_reasonAgainst 3 (some .int), Cond.fieldLink RX2 112 "BellowsRound$Smithy" "mile" "I", Cond.static yX3_hoursOfMend, Cond.initialized RX3, Cond.code yX3_hoursOfMend cX3_hoursOfMend 1 (some .int), Cond.methodLink RX2 97 yX1_leatherOfMend, Cond.instanceMethod yX1_leatherOfMend, Cond.selects RX1 yX1_leatherOfMend yX1_leatherOfMend, Cond.code yX1_leatherOfMend cX1_leatherOfMend 2 (some .int), Cond.static yX3_tensBegun, Cond.code yX3_tensBegun cX3_tensBegun 1 (some .int), Cond.methodLink RX2 170 yX2_reasonOfSmithy, Cond.instanceMethod yX2_reasonOfSmithy, Cond.selects RX2 yX2_reasonOfSmithy yX2_reasonOfSmithy, Cond.code yX2_reasonOfSmithy cX2_reasonOfSmithy 2 (some .int), Cond.methodLink RX2 90 yX2_priceOfMend, Cond.instanceMethod yX2_priceOfMend, Cond.selects RX2 yX2_priceOfMend yX2_priceOfMend, Cond.code yX2_priceOfMend cX2_priceOfMend 3 (some .int), Cond.methodLink RX2 103 yX1_wearBehindMend, Cond.instanceMethod yX1_wearBehindMend]
def wsX3_hide_r4 : List Cond := [Cond.selects RX1 yX1_wearBehindMend yX1_wearBehindMend, Cond.code yX1_wearBehindMend cX1_wearBehindMend 2 (some .int), Cond.methodLink RX3 38 yX3_commit, Cond.instanceMethod yX3_commit, Cond.selects RX3 yX3_commit yX3_commit, Cond.code yX3_commit cX3_commit 3 (some .int), Cond.methodLink RX3 215 yX3_remember, Cond.instanceMethod yX3_remember, Cond.selects RX3 yX3_remember yX3_remember, Cond.code yX3_remember cX3_remember 2 none, Cond.fieldLink RX3 176 "BellowsRound" "states" "I", Cond.fieldLink RX3 19 "BellowsRound" "history" "[LBellowsRound$State;", Cond.methodLink RX3 218 yX3_dropOldestState, Cond.instanceMethod yX3_dropOldestState, Cond.selects RX3 yX3_dropOldestState yX3_dropOldestState, Cond.code yX3_dropOldestState cX3_dropOldestState 3 none]
def wsX3_hide : List Cond := .code yX3_hide cX3_hide 2 (some .int) :: ((wsX3_hide_r1 ++ (wsX3_hide_r2 ++ (wsX3_hide_r3 ++ wsX3_hide_r4))) ++ wsX30 ++ wsX20 ++ wsX10)
def wsX3_collect_r1 : List Cond := [Cond.fieldLink RX3 16 "BellowsRound" "trial" "LBellowsRound$State;", Cond.fieldLink RX3 12 "BellowsRound" "now" "LBellowsRound$State;", Cond.methodLink RX3 30 yX2_copyFrom, Cond.instanceMethod yX2_copyFrom, Cond.selects RX2 yX2_copyFrom yX2_copyFrom, Cond.initialized RX2, Cond.code yX2_copyFrom cX2_copyFrom 5 none, Cond.fieldLink RX2 37 "BellowsRound$State" "smithyCount" "I", Cond.fieldLink RX2 17 "BellowsRound$State" "cold" "I", Cond.fieldLink RX2 21 "BellowsRound$State" "hours" "I", Cond.fieldLink RX2 24 "BellowsRound$State" "rate" "I", Cond.fieldLink RX2 27 "BellowsRound$State" "patience" "I", Cond.fieldLink RX2 40 "BellowsRound$State" "day" "I", Cond.fieldLink RX2 43 "BellowsRound$State" "mile" "I", Cond.fieldLink RX2 30 "BellowsRound$State" "hoursLeft" "I", Cond.fieldLink RX2 46 "BellowsRound$State" "leather" "I", Cond.fieldLink RX2 33 "BellowsRound$State" "money" "I", Cond.fieldLink RX2 49 "BellowsRound$State" "paidForLeather" "I", Cond.fieldLink RX2 52 "BellowsRound$State" "owedForMends" "I", Cond.fieldLink RX2 55 "BellowsRound$State" "longestCold" "I", Cond.fieldLink RX2 58 "BellowsRound$State" "milesWalked" "I", Cond.methodLink RX2 61 yX2_find, Cond.instanceMethod yX2_find, Cond.selects RX2 yX2_find yX2_find]
def wsX3_collect_r2 : List Cond := [Cond.code yX2_find cX2_find 2 (some (.object "BellowsRound$Smithy")), Cond.fieldLink RX2 11 "BellowsRound$State" "smithies" "[LBellowsRound$Smithy;", Cond.methodLink RX2 65 yX1_copyFrom, Cond.instanceMethod yX1_copyFrom, Cond.selects RX1 yX1_copyFrom yX1_copyFrom, Cond.initialized RX1, Cond.code yX1_copyFrom cX1_copyFrom 2 none, Cond.fieldLink RX1 9 "BellowsRound$Smithy" "mile" "I", Cond.fieldLink RX1 15 "BellowsRound$Smithy" "size" "I", Cond.fieldLink RX1 18 "BellowsRound$Smithy" "wear" "I", Cond.fieldLink RX1 21 "BellowsRound$Smithy" "heat" "I", Cond.fieldLink RX1 24 "BellowsRound$Smithy" "coldDays" "I", Cond.fieldLink RX1 27 "BellowsRound$Smithy" "debt" "I", Cond.fieldLink RX1 30 "BellowsRound$Smithy" "paid" "I", Cond.fieldLink RX1 33 "BellowsRound$Smithy" "mends" "I", Cond.methodLink RX3 52 yX2_collectDebt, Cond.instanceMethod yX2_collectDebt, Cond.selects RX2 yX2_collectDebt yX2_collectDebt, Cond.code yX2_collectDebt cX2_collectDebt 4 (some .int), Cond.constant RX2 69 (-1000000001), Cond.fieldLink RX2 112 "BellowsRound$Smithy" "mile" "I", Cond.fieldLink RX2 100 "BellowsRound$Smithy" "debt" "I", Cond.constant RX2 79 (-1000000002), Cond.fieldLink RX2 113 "BellowsRound$Smithy" "heat" "I"]
def wsX3_collect_r3 : List Cond := [Cond.fieldLink RX2 120 "BellowsRound$Smithy" "paid" "I", Cond.methodLink RX2 116 yX2_isCold, Cond.instanceMethod yX2_isCold, Cond.selects RX2 yX2_isCold yX2_isCold, Cond.code yX2_isCold cX2_isCold 2 (some .boolean), Cond.methodLink RX3 38 yX3_commit, Cond.instanceMethod yX3_commit, Cond.selects RX3 yX3_commit yX3_commit, Cond.initialized RX3, Cond.code yX3_commit cX3_commit 3 (some .int), Cond.methodLink RX3 215 yX3_remember, Cond.instanceMethod yX3_remember, Cond.selects RX3 yX3_remember yX3_remember, Cond.code yX3_remember cX3_remember 2 none, Cond.fieldLink RX3 176 "BellowsRound" "states" "I", Cond.fieldLink RX3 19 "BellowsRound" "history" "[LBellowsRound$State;", Cond.methodLink RX3 218 yX3_dropOldestState, Cond.instanceMethod yX3_dropOldestState, Cond.selects RX3 yX3_dropOldestState yX3_dropOldestState, Cond.code yX3_dropOldestState cX3_dropOldestState 3 none]
def wsX3_collect : List Cond := .code yX3_collect cX3_collect 2 (some .int) :: ((wsX3_collect_r1 ++ (wsX3_collect_r2 ++ wsX3_collect_r3)) ++ wsX30 ++ wsX20 ++ wsX10)
def wsX3_end_r1 : List Cond := [Cond.fieldLink RX3 16 "BellowsRound" "trial" "LBellowsRound$State;", Cond.fieldLink RX3 12 "BellowsRound" "now" "LBellowsRound$State;", Cond.methodLink RX3 30 yX2_copyFrom, Cond.instanceMethod yX2_copyFrom, Cond.selects RX2 yX2_copyFrom yX2_copyFrom, Cond.initialized RX2, Cond.code yX2_copyFrom cX2_copyFrom 5 none, Cond.fieldLink RX2 37 "BellowsRound$State" "smithyCount" "I", Cond.fieldLink RX2 17 "BellowsRound$State" "cold" "I", Cond.fieldLink RX2 21 "BellowsRound$State" "hours" "I", Cond.fieldLink RX2 24 "BellowsRound$State" "rate" "I", Cond.fieldLink RX2 27 "BellowsRound$State" "patience" "I", Cond.fieldLink RX2 40 "BellowsRound$State" "day" "I", Cond.fieldLink RX2 43 "BellowsRound$State" "mile" "I", Cond.fieldLink RX2 30 "BellowsRound$State" "hoursLeft" "I", Cond.fieldLink RX2 46 "BellowsRound$State" "leather" "I", Cond.fieldLink RX2 33 "BellowsRound$State" "money" "I", Cond.fieldLink RX2 49 "BellowsRound$State" "paidForLeather" "I", Cond.fieldLink RX2 52 "BellowsRound$State" "owedForMends" "I", Cond.fieldLink RX2 55 "BellowsRound$State" "longestCold" "I", Cond.fieldLink RX2 58 "BellowsRound$State" "milesWalked" "I", Cond.methodLink RX2 61 yX2_find, Cond.instanceMethod yX2_find, Cond.selects RX2 yX2_find yX2_find]
def wsX3_end_r2 : List Cond := [Cond.code yX2_find cX2_find 2 (some (.object "BellowsRound$Smithy")), Cond.fieldLink RX2 11 "BellowsRound$State" "smithies" "[LBellowsRound$Smithy;", Cond.methodLink RX2 65 yX1_copyFrom, Cond.instanceMethod yX1_copyFrom, Cond.selects RX1 yX1_copyFrom yX1_copyFrom, Cond.initialized RX1, Cond.code yX1_copyFrom cX1_copyFrom 2 none, Cond.fieldLink RX1 9 "BellowsRound$Smithy" "mile" "I", Cond.fieldLink RX1 15 "BellowsRound$Smithy" "size" "I", Cond.fieldLink RX1 18 "BellowsRound$Smithy" "wear" "I", Cond.fieldLink RX1 21 "BellowsRound$Smithy" "heat" "I", Cond.fieldLink RX1 24 "BellowsRound$Smithy" "coldDays" "I", Cond.fieldLink RX1 27 "BellowsRound$Smithy" "debt" "I", Cond.fieldLink RX1 30 "BellowsRound$Smithy" "paid" "I", Cond.fieldLink RX1 33 "BellowsRound$Smithy" "mends" "I", Cond.methodLink RX3 55 yX2_endDays, Cond.instanceMethod yX2_endDays, Cond.selects RX2 yX2_endDays yX2_endDays, Cond.code yX2_endDays cX2_endDays 5 (some .int), Cond.constant RX2 69 (-1000000001), Cond.constant RX2 70 (-1000000003), Cond.methodLink RX2 123 yX2_endDayOf, Cond.instanceMethod yX2_endDayOf, Cond.selects RX2 yX2_endDayOf yX2_endDayOf]
def wsX3_end_r3 : List Cond := [Cond.code yX2_endDayOf cX2_endDayOf 2 none, Cond.fieldLink RX2 106 "BellowsRound$Smithy" "wear" "I", Cond.fieldLink RX2 135 "BellowsRound$Smithy" "size" "I", Cond.fieldLink RX2 113 "BellowsRound$Smithy" "heat" "I", Cond.fieldLink RX2 144 "BellowsRound$Smithy" "coldDays" "I", Cond.methodLink RX2 147 Lib.Math.max.name, Cond.static Lib.Math.max.name, Cond.initialized "java/lang/Math", Cond.code Lib.Math.max.name Lib.Math.max.code 2 (some .int), Cond.static yX3_wearBehindDay, Cond.initialized RX3, Cond.code yX3_wearBehindDay cX3_wearBehindDay 2 (some .int), Cond.methodLink RX3 243 Lib.Math.min.name, Cond.static Lib.Math.min.name, Cond.code Lib.Math.min.name Lib.Math.min.code 2 (some .int), Cond.static yX3_heatBehindDay, Cond.code yX3_heatBehindDay cX3_heatBehindDay 3 (some .int), Cond.methodLink RX3 248 Lib.Math.max.name, Cond.methodLink RX3 78 yX3_leakOf, Cond.static yX3_leakOf, Cond.code yX3_leakOf cX3_leakOf 1 (some .int), Cond.methodLink RX2 116 yX2_isCold, Cond.instanceMethod yX2_isCold, Cond.selects RX2 yX2_isCold yX2_isCold]
def wsX3_end_r4 : List Cond := [Cond.code yX2_isCold cX2_isCold 2 (some .boolean), Cond.methodLink RX2 126 yX2_coldSet, Cond.instanceMethod yX2_coldSet, Cond.selects RX2 yX2_coldSet yX2_coldSet, Cond.code yX2_coldSet cX2_coldSet 4 (some .int), Cond.methodLink RX2 130 yJ6_bitCount_0f7a4, Cond.static yJ6_bitCount_0f7a4, Cond.initialized RJ6, Cond.code yJ6_bitCount_0f7a4 cJ6_bitCount_0f7a4 1 (some .int), Cond.constant RJ6 265 (1431655765), Cond.constant RJ6 266 (858993459), Cond.constant RJ6 267 (252645135), Cond.methodLink RX3 38 yX3_commit, Cond.instanceMethod yX3_commit, Cond.selects RX3 yX3_commit yX3_commit, Cond.code yX3_commit cX3_commit 3 (some .int), Cond.methodLink RX3 215 yX3_remember, Cond.instanceMethod yX3_remember, Cond.selects RX3 yX3_remember yX3_remember, Cond.code yX3_remember cX3_remember 2 none, Cond.fieldLink RX3 176 "BellowsRound" "states" "I", Cond.fieldLink RX3 19 "BellowsRound" "history" "[LBellowsRound$State;", Cond.methodLink RX3 218 yX3_dropOldestState, Cond.instanceMethod yX3_dropOldestState]
def wsX3_end_r5 : List Cond := [Cond.selects RX3 yX3_dropOldestState yX3_dropOldestState, Cond.code yX3_dropOldestState cX3_dropOldestState 3 none]
def wsX3_end : List Cond := .code yX3_end cX3_end 2 (some .int) :: ((wsX3_end_r1 ++ (wsX3_end_r2 ++ (wsX3_end_r3 ++ (wsX3_end_r4 ++ wsX3_end_r5)))) ++ wsX30 ++ wsX20 ++ wsX10)
def wsX3_set_r1 : List Cond := [Cond.fieldLink RX3 16 "BellowsRound" "trial" "LBellowsRound$State;", Cond.fieldLink RX3 12 "BellowsRound" "now" "LBellowsRound$State;", Cond.methodLink RX3 30 yX2_copyFrom, Cond.instanceMethod yX2_copyFrom, Cond.selects RX2 yX2_copyFrom yX2_copyFrom, Cond.initialized RX2, Cond.code yX2_copyFrom cX2_copyFrom 5 none, Cond.fieldLink RX2 37 "BellowsRound$State" "smithyCount" "I", Cond.fieldLink RX2 17 "BellowsRound$State" "cold" "I", Cond.fieldLink RX2 21 "BellowsRound$State" "hours" "I", Cond.fieldLink RX2 24 "BellowsRound$State" "rate" "I", Cond.fieldLink RX2 27 "BellowsRound$State" "patience" "I", Cond.fieldLink RX2 40 "BellowsRound$State" "day" "I", Cond.fieldLink RX2 43 "BellowsRound$State" "mile" "I", Cond.fieldLink RX2 30 "BellowsRound$State" "hoursLeft" "I", Cond.fieldLink RX2 46 "BellowsRound$State" "leather" "I", Cond.fieldLink RX2 33 "BellowsRound$State" "money" "I", Cond.fieldLink RX2 49 "BellowsRound$State" "paidForLeather" "I", Cond.fieldLink RX2 52 "BellowsRound$State" "owedForMends" "I", Cond.fieldLink RX2 55 "BellowsRound$State" "longestCold" "I", Cond.fieldLink RX2 58 "BellowsRound$State" "milesWalked" "I", Cond.methodLink RX2 61 yX2_find, Cond.instanceMethod yX2_find, Cond.selects RX2 yX2_find yX2_find]
def wsX3_set_r2 : List Cond := [Cond.code yX2_find cX2_find 2 (some (.object "BellowsRound$Smithy")), Cond.fieldLink RX2 11 "BellowsRound$State" "smithies" "[LBellowsRound$Smithy;", Cond.methodLink RX2 65 yX1_copyFrom, Cond.instanceMethod yX1_copyFrom, Cond.selects RX1 yX1_copyFrom yX1_copyFrom, Cond.initialized RX1, Cond.code yX1_copyFrom cX1_copyFrom 2 none, Cond.fieldLink RX1 9 "BellowsRound$Smithy" "mile" "I", Cond.fieldLink RX1 15 "BellowsRound$Smithy" "size" "I", Cond.fieldLink RX1 18 "BellowsRound$Smithy" "wear" "I", Cond.fieldLink RX1 21 "BellowsRound$Smithy" "heat" "I", Cond.fieldLink RX1 24 "BellowsRound$Smithy" "coldDays" "I", Cond.fieldLink RX1 27 "BellowsRound$Smithy" "debt" "I", Cond.fieldLink RX1 30 "BellowsRound$Smithy" "paid" "I", Cond.fieldLink RX1 33 "BellowsRound$Smithy" "mends" "I", Cond.methodLink RX3 58 yX2_changeSetting, Cond.instanceMethod yX2_changeSetting, Cond.selects RX2 yX2_changeSetting yX2_changeSetting, Cond.code yX2_changeSetting cX2_changeSetting 4 (some .int), Cond.constant RX2 69 (-1000000001), Cond.methodLink RX2 150 yX2_isInRange, Cond.static yX2_isInRange, Cond.code yX2_isInRange cX2_isInRange 2 (some .boolean), Cond.methodLink RX3 38 yX3_commit]
def wsX3_set_r3 : List Cond := [Cond.instanceMethod yX3_commit, Cond.selects RX3 yX3_commit yX3_commit, Cond.initialized RX3, Cond.code yX3_commit cX3_commit 3 (some .int), Cond.methodLink RX3 215 yX3_remember, Cond.instanceMethod yX3_remember, Cond.selects RX3 yX3_remember yX3_remember, Cond.code yX3_remember cX3_remember 2 none, Cond.fieldLink RX3 176 "BellowsRound" "states" "I", Cond.fieldLink RX3 19 "BellowsRound" "history" "[LBellowsRound$State;", Cond.methodLink RX3 218 yX3_dropOldestState, Cond.instanceMethod yX3_dropOldestState, Cond.selects RX3 yX3_dropOldestState yX3_dropOldestState, Cond.code yX3_dropOldestState cX3_dropOldestState 3 none]
def wsX3_set : List Cond := .code yX3_set cX3_set 3 (some .int) :: ((wsX3_set_r1 ++ (wsX3_set_r2 ++ wsX3_set_r3)) ++ wsX30 ++ wsX20 ++ wsX10)
def wsX3_smithyOf_r1 : List Cond := [Cond.fieldLink RX3 12 "BellowsRound" "now" "LBellowsRound$State;", Cond.constant RX3 65 (-1000000001), Cond.fieldLink RX3 66 "BellowsRound$Smithy" "mile" "I", Cond.fieldLink RX3 72 "BellowsRound$Smithy" "size" "I", Cond.fieldLink RX3 75 "BellowsRound$Smithy" "wear" "I", Cond.fieldLink RX3 81 "BellowsRound$Smithy" "heat" "I", Cond.fieldLink RX3 88 "BellowsRound$Smithy" "coldDays" "I", Cond.fieldLink RX3 91 "BellowsRound$Smithy" "debt" "I", Cond.fieldLink RX3 94 "BellowsRound$Smithy" "paid" "I", Cond.fieldLink RX3 97 "BellowsRound$Smithy" "mends" "I", Cond.fieldLink RX3 100 "BellowsRound$State" "mile" "I", Cond.methodLink RX3 61 yX2_find, Cond.instanceMethod yX2_find, Cond.selects RX2 yX2_find yX2_find, Cond.initialized RX2, Cond.code yX2_find cX2_find 2 (some (.object "BellowsRound$Smithy")), Cond.fieldLink RX2 37 "BellowsRound$State" "smithyCount" "I", Cond.fieldLink RX2 11 "BellowsRound$State" "smithies" "[LBellowsRound$Smithy;", Cond.methodLink RX3 78 yX3_leakOf, Cond.static yX3_leakOf, Cond.initialized RX3, Cond.code yX3_leakOf cX3_leakOf 1 (some .int), Cond.methodLink RX3 84 yX2_isCold, Cond.instanceMethod yX2_isCold]
def wsX3_smithyOf_r2 : List Cond := [Cond.selects RX2 yX2_isCold yX2_isCold, Cond.code yX2_isCold cX2_isCold 2 (some .boolean), Cond.fieldLink RX2 17 "BellowsRound$State" "cold" "I", Cond.methodLink RX3 101 yX3_hoursOfWay, Cond.static yX3_hoursOfWay, Cond.code yX3_hoursOfWay cX3_hoursOfWay 2 (some .int), Cond.methodLink RX3 251 Lib.Math.abs.name, Cond.static Lib.Math.abs.name, Cond.initialized "java/lang/Math", Cond.code Lib.Math.abs.name Lib.Math.abs.code 1 (some .int), Cond.methodLink RX3 254 yX3_tensBegun, Cond.static yX3_tensBegun, Cond.code yX3_tensBegun cX3_tensBegun 1 (some .int)]
def wsX3_smithyOf : List Cond := .code yX3_smithyOf cX3_smithyOf 4 (some .int) :: ((wsX3_smithyOf_r1 ++ wsX3_smithyOf_r2) ++ wsX30 ++ wsX10 ++ wsX20)
def wsX3_isFlag : List Cond := .code yX3_isFlag cX3_isFlag 1 (some .boolean) :: ([])
def wsX3_why_r1 : List Cond := [Cond.fieldLink RX3 12 "BellowsRound" "now" "LBellowsRound$State;", Cond.constant RX3 65 (-1000000001), Cond.methodLink RX3 61 yX2_find, Cond.instanceMethod yX2_find, Cond.selects RX2 yX2_find yX2_find, Cond.initialized RX2, Cond.code yX2_find cX2_find 2 (some (.object "BellowsRound$Smithy")), Cond.fieldLink RX2 37 "BellowsRound$State" "smithyCount" "I", Cond.fieldLink RX2 11 "BellowsRound$State" "smithies" "[LBellowsRound$Smithy;", Cond.methodLink RX3 104 yX3_isFlag, Cond.static yX3_isFlag, Cond.initialized RX3, Cond.code yX3_isFlag cX3_isFlag 1 (some .boolean), Cond.methodLink RX3 107 yX2_reasonAgainst, Cond.instanceMethod yX2_reasonAgainst, Cond.selects RX2 yX2_reasonAgainst yX2_reasonAgainst, Cond.code yX2_reasonAgainst cX2_reasonAgainst 3 (some .int), Cond.fieldLink RX2 112 "BellowsRound$Smithy" "mile" "I", Cond.fieldLink RX2 43 "BellowsRound$State" "mile" "I", Cond.fieldLink RX2 30 "BellowsRound$State" "hoursLeft" "I", Cond.fieldLink RX2 46 "BellowsRound$State" "leather" "I", Cond.static yX3_hoursOfMend, Cond.code yX3_hoursOfMend cX3_hoursOfMend 1 (some .int), Cond.methodLink RX2 97 yX1_leatherOfMend]
def wsX3_why_r2 : List Cond := [Cond.instanceMethod yX1_leatherOfMend, Cond.selects RX1 yX1_leatherOfMend yX1_leatherOfMend, Cond.initialized RX1, Cond.code yX1_leatherOfMend cX1_leatherOfMend 2 (some .int), Cond.fieldLink RX1 15 "BellowsRound$Smithy" "size" "I", Cond.fieldLink RX1 18 "BellowsRound$Smithy" "wear" "I", Cond.static yX3_tensBegun, Cond.code yX3_tensBegun cX3_tensBegun 1 (some .int), Cond.methodLink RX2 170 yX2_reasonOfSmithy, Cond.instanceMethod yX2_reasonOfSmithy, Cond.selects RX2 yX2_reasonOfSmithy yX2_reasonOfSmithy, Cond.code yX2_reasonOfSmithy cX2_reasonOfSmithy 2 (some .int), Cond.fieldLink RX2 100 "BellowsRound$Smithy" "debt" "I", Cond.fieldLink RX2 27 "BellowsRound$State" "patience" "I", Cond.fieldLink RX2 106 "BellowsRound$Smithy" "wear" "I"]
def wsX3_why : List Cond := .code yX3_why cX3_why 4 (some .int) :: ((wsX3_why_r1 ++ wsX3_why_r2) ++ wsX30 ++ wsX20 ++ wsX10)
def wsX3_mend_r1 : List Cond := [Cond.fieldLink RX3 12 "BellowsRound" "now" "LBellowsRound$State;", Cond.constant RX3 65 (-1000000001), Cond.methodLink RX3 61 yX2_find, Cond.instanceMethod yX2_find, Cond.selects RX2 yX2_find yX2_find, Cond.initialized RX2, Cond.code yX2_find cX2_find 2 (some (.object "BellowsRound$Smithy")), Cond.fieldLink RX2 37 "BellowsRound$State" "smithyCount" "I", Cond.fieldLink RX2 11 "BellowsRound$State" "smithies" "[LBellowsRound$Smithy;", Cond.methodLink RX3 104 yX3_isFlag, Cond.static yX3_isFlag, Cond.initialized RX3, Cond.code yX3_isFlag cX3_isFlag 1 (some .boolean), Cond.methodLink RX3 111 yX3_hoursOfMend, Cond.static yX3_hoursOfMend, Cond.code yX3_hoursOfMend cX3_hoursOfMend 1 (some .int), Cond.methodLink RX3 115 yX1_leatherOfMend, Cond.instanceMethod yX1_leatherOfMend, Cond.selects RX1 yX1_leatherOfMend yX1_leatherOfMend, Cond.initialized RX1, Cond.code yX1_leatherOfMend cX1_leatherOfMend 2 (some .int), Cond.fieldLink RX1 15 "BellowsRound$Smithy" "size" "I", Cond.fieldLink RX1 18 "BellowsRound$Smithy" "wear" "I", Cond.static yX3_tensBegun]
def wsX3_mend_r2 : List Cond := [Cond.code yX3_tensBegun cX3_tensBegun 1 (some .int), Cond.methodLink RX3 118 yX2_priceOfMend, Cond.instanceMethod yX2_priceOfMend, Cond.selects RX2 yX2_priceOfMend yX2_priceOfMend, Cond.code yX2_priceOfMend cX2_priceOfMend 3 (some .int), Cond.fieldLink RX2 24 "BellowsRound$State" "rate" "I", Cond.methodLink RX2 97 yX1_leatherOfMend, Cond.methodLink RX3 121 yX1_wearBehindMend, Cond.instanceMethod yX1_wearBehindMend, Cond.selects RX1 yX1_wearBehindMend yX1_wearBehindMend, Cond.code yX1_wearBehindMend cX1_wearBehindMend 2 (some .int)]
def wsX3_mend : List Cond := .code yX3_mend cX3_mend 6 (some .int) :: ((wsX3_mend_r1 ++ wsX3_mend_r2) ++ wsX30 ++ wsX20 ++ wsX10)
def wsX3_coldIn_r1 : List Cond := [Cond.fieldLink RX3 12 "BellowsRound" "now" "LBellowsRound$State;", Cond.constant RX3 65 (-1000000001), Cond.constant RX3 128 (-1000000004), Cond.methodLink RX3 61 yX2_find, Cond.instanceMethod yX2_find, Cond.selects RX2 yX2_find yX2_find, Cond.initialized RX2, Cond.code yX2_find cX2_find 2 (some (.object "BellowsRound$Smithy")), Cond.fieldLink RX2 37 "BellowsRound$State" "smithyCount" "I", Cond.fieldLink RX2 11 "BellowsRound$State" "smithies" "[LBellowsRound$Smithy;", Cond.methodLink RX3 124 yX2_coldDaysAhead, Cond.instanceMethod yX2_coldDaysAhead, Cond.selects RX2 yX2_coldDaysAhead yX2_coldDaysAhead, Cond.code yX2_coldDaysAhead cX2_coldDaysAhead 5 (some .int), Cond.fieldLink RX2 106 "BellowsRound$Smithy" "wear" "I", Cond.fieldLink RX2 113 "BellowsRound$Smithy" "heat" "I", Cond.fieldLink RX2 135 "BellowsRound$Smithy" "size" "I", Cond.methodLink RX2 116 yX2_isCold, Cond.instanceMethod yX2_isCold, Cond.selects RX2 yX2_isCold yX2_isCold, Cond.code yX2_isCold cX2_isCold 2 (some .boolean), Cond.fieldLink RX2 17 "BellowsRound$State" "cold" "I", Cond.static yX3_wearBehindDay, Cond.initialized RX3]
def wsX3_coldIn_r2 : List Cond := [Cond.code yX3_wearBehindDay cX3_wearBehindDay 2 (some .int), Cond.methodLink RX3 243 Lib.Math.min.name, Cond.static Lib.Math.min.name, Cond.initialized "java/lang/Math", Cond.code Lib.Math.min.name Lib.Math.min.code 2 (some .int), Cond.static yX3_heatBehindDay, Cond.code yX3_heatBehindDay cX3_heatBehindDay 3 (some .int), Cond.methodLink RX3 248 Lib.Math.max.name, Cond.static Lib.Math.max.name, Cond.code Lib.Math.max.name Lib.Math.max.code 2 (some .int), Cond.methodLink RX3 78 yX3_leakOf, Cond.static yX3_leakOf, Cond.code yX3_leakOf cX3_leakOf 1 (some .int)]
def wsX3_coldIn : List Cond := .code yX3_coldIn cX3_coldIn 4 (some .int) :: ((wsX3_coldIn_r1 ++ wsX3_coldIn_r2) ++ wsX30 ++ wsX20 ++ wsX10)
def wsX3_next_r1 : List Cond := [Cond.fieldLink RX3 12 "BellowsRound" "now" "LBellowsRound$State;", Cond.methodLink RX3 129 yX2_smithyToBeNext, Cond.instanceMethod yX2_smithyToBeNext, Cond.selects RX2 yX2_smithyToBeNext yX2_smithyToBeNext, Cond.initialized RX2, Cond.code yX2_smithyToBeNext cX2_smithyToBeNext 5 (some .int), Cond.constant RX2 174 (-1000000004), Cond.fieldLink RX2 37 "BellowsRound$State" "smithyCount" "I", Cond.fieldLink RX2 106 "BellowsRound$Smithy" "wear" "I", Cond.methodLink RX2 61 yX2_find, Cond.instanceMethod yX2_find, Cond.selects RX2 yX2_find yX2_find, Cond.code yX2_find cX2_find 2 (some (.object "BellowsRound$Smithy")), Cond.fieldLink RX2 11 "BellowsRound$State" "smithies" "[LBellowsRound$Smithy;", Cond.methodLink RX2 175 yX2_comesBefore, Cond.instanceMethod yX2_comesBefore, Cond.selects RX2 yX2_comesBefore yX2_comesBefore, Cond.code yX2_comesBefore cX2_comesBefore 5 (some .boolean), Cond.fieldLink RX2 112 "BellowsRound$Smithy" "mile" "I", Cond.fieldLink RX2 43 "BellowsRound$State" "mile" "I", Cond.methodLink RX2 80 Lib.Math.abs.name, Cond.static Lib.Math.abs.name, Cond.initialized "java/lang/Math", Cond.code Lib.Math.abs.name Lib.Math.abs.code 1 (some .int)]
def wsX3_next_r2 : List Cond := [Cond.methodLink RX2 179 yX2_coldDaysAhead, Cond.instanceMethod yX2_coldDaysAhead, Cond.selects RX2 yX2_coldDaysAhead yX2_coldDaysAhead, Cond.code yX2_coldDaysAhead cX2_coldDaysAhead 5 (some .int), Cond.fieldLink RX2 113 "BellowsRound$Smithy" "heat" "I", Cond.fieldLink RX2 135 "BellowsRound$Smithy" "size" "I", Cond.methodLink RX2 116 yX2_isCold, Cond.instanceMethod yX2_isCold, Cond.selects RX2 yX2_isCold yX2_isCold, Cond.code yX2_isCold cX2_isCold 2 (some .boolean), Cond.fieldLink RX2 17 "BellowsRound$State" "cold" "I", Cond.static yX3_wearBehindDay, Cond.initialized RX3, Cond.code yX3_wearBehindDay cX3_wearBehindDay 2 (some .int), Cond.methodLink RX3 243 Lib.Math.min.name, Cond.static Lib.Math.min.name, Cond.code Lib.Math.min.name Lib.Math.min.code 2 (some .int), Cond.static yX3_heatBehindDay, Cond.code yX3_heatBehindDay cX3_heatBehindDay 3 (some .int), Cond.methodLink RX3 248 Lib.Math.max.name, Cond.static Lib.Math.max.name, Cond.code Lib.Math.max.name Lib.Math.max.code 2 (some .int), Cond.methodLink RX3 78 yX3_leakOf, Cond.static yX3_leakOf]
def wsX3_next_r3 : List Cond := [Cond.code yX3_leakOf cX3_leakOf 1 (some .int)]
def wsX3_next : List Cond := .code yX3_next cX3_next 1 (some .int) :: ((wsX3_next_r1 ++ (wsX3_next_r2 ++ wsX3_next_r3)) ++ wsX30 ++ wsX20 ++ wsX10)
def wsX3_round_r1 : List Cond := [Cond.fieldLink RX3 12 "BellowsRound" "now" "LBellowsRound$State;", Cond.fieldLink RX3 133 "BellowsRound$State" "smithyCount" "I", Cond.constant RX3 65 (-1000000001), Cond.methodLink RX3 136 yX2_tellRound, Cond.instanceMethod yX2_tellRound, Cond.selects RX2 yX2_tellRound yX2_tellRound, Cond.initialized RX2, Cond.code yX2_tellRound cX2_tellRound 11 (some .int), Cond.fieldLink RX2 43 "BellowsRound$State" "mile" "I", Cond.constant RX2 69 (-1000000001), Cond.fieldLink RX2 112 "BellowsRound$Smithy" "mile" "I", Cond.methodLink RX2 182 yX2_firstOnRoad, Cond.instanceMethod yX2_firstOnRoad, Cond.selects RX2 yX2_firstOnRoad yX2_firstOnRoad, Cond.code yX2_firstOnRoad cX2_firstOnRoad 6 (some .int), Cond.fieldLink RX2 37 "BellowsRound$State" "smithyCount" "I", Cond.methodLink RX2 61 yX2_find, Cond.instanceMethod yX2_find, Cond.selects RX2 yX2_find yX2_find, Cond.code yX2_find cX2_find 2 (some (.object "BellowsRound$Smithy")), Cond.fieldLink RX2 11 "BellowsRound$State" "smithies" "[LBellowsRound$Smithy;", Cond.static yX3_hoursOfWay, Cond.initialized RX3, Cond.code yX3_hoursOfWay cX3_hoursOfWay 2 (some .int)]
def wsX3_round_r2 : List Cond := [Cond.methodLink RX3 251 Lib.Math.abs.name, Cond.static Lib.Math.abs.name, Cond.initialized "java/lang/Math", Cond.code Lib.Math.abs.name Lib.Math.abs.code 1 (some .int), Cond.methodLink RX3 254 yX3_tensBegun, Cond.static yX3_tensBegun, Cond.code yX3_tensBegun cX3_tensBegun 1 (some .int), Cond.methodLink RX2 170 yX2_reasonOfSmithy, Cond.instanceMethod yX2_reasonOfSmithy, Cond.selects RX2 yX2_reasonOfSmithy yX2_reasonOfSmithy, Cond.code yX2_reasonOfSmithy cX2_reasonOfSmithy 2 (some .int), Cond.fieldLink RX2 100 "BellowsRound$Smithy" "debt" "I", Cond.fieldLink RX2 27 "BellowsRound$State" "patience" "I", Cond.fieldLink RX2 106 "BellowsRound$Smithy" "wear" "I", Cond.static yX3_hoursOfMend, Cond.code yX3_hoursOfMend cX3_hoursOfMend 1 (some .int), Cond.methodLink RX2 97 yX1_leatherOfMend, Cond.instanceMethod yX1_leatherOfMend, Cond.selects RX1 yX1_leatherOfMend yX1_leatherOfMend, Cond.initialized RX1, Cond.code yX1_leatherOfMend cX1_leatherOfMend 2 (some .int), Cond.fieldLink RX1 15 "BellowsRound$Smithy" "size" "I", Cond.fieldLink RX1 18 "BellowsRound$Smithy" "wear" "I", Cond.methodLink RX2 90 yX2_priceOfMend]
def wsX3_round_r3 : List Cond := [Cond.instanceMethod yX2_priceOfMend, Cond.selects RX2 yX2_priceOfMend yX2_priceOfMend, Cond.code yX2_priceOfMend cX2_priceOfMend 3 (some .int), Cond.fieldLink RX2 24 "BellowsRound$State" "rate" "I"]
def wsX3_round : List Cond := .code yX3_round cX3_round 3 (some .int) :: ((wsX3_round_r1 ++ (wsX3_round_r2 ++ wsX3_round_r3)) ++ wsX30 ++ wsX20 ++ wsX10)
def wsX3_bitsOf : List Cond := .code yX3_bitsOf cX3_bitsOf 4 (some .int) :: ([.constantFloat RX3 257 (1258291200)])
def wsX3_mean : List Cond := .code yX3_mean cX3_mean 1 (some .int) :: ([.fieldLink RX3 12 "BellowsRound" "now" "LBellowsRound$State;", .fieldLink RX3 133 "BellowsRound$State" "smithyCount" "I", .constant RX3 128 (-1000000004), .methodLink RX3 139 yX2_wearTogether, .instanceMethod yX2_wearTogether, .selects RX2 yX2_wearTogether yX2_wearTogether, .initialized RX2, .code yX2_wearTogether cX2_wearTogether 4 (some .int), .fieldLink RX2 37 "BellowsRound$State" "smithyCount" "I", .fieldLink RX2 106 "BellowsRound$Smithy" "wear" "I", .methodLink RX2 61 yX2_find, .instanceMethod yX2_find, .selects RX2 yX2_find yX2_find, .code yX2_find cX2_find 2 (some (.object "BellowsRound$Smithy")), .fieldLink RX2 11 "BellowsRound$State" "smithies" "[LBellowsRound$Smithy;", .methodLink RX3 142 yX3_bitsOf, .static yX3_bitsOf, .initialized RX3, .code yX3_bitsOf cX3_bitsOf 4 (some .int), .constantFloat RX3 257 (1258291200)] ++ wsX30 ++ wsX20 ++ wsX10)
def wsX3_count_r1 : List Cond := [Cond.fieldLink RX3 12 "BellowsRound" "now" "LBellowsRound$State;", Cond.fieldLink RX3 133 "BellowsRound$State" "smithyCount" "I", Cond.fieldLink RX3 146 "BellowsRound$State" "day" "I", Cond.fieldLink RX3 100 "BellowsRound$State" "mile" "I", Cond.fieldLink RX3 149 "BellowsRound$State" "hoursLeft" "I", Cond.fieldLink RX3 152 "BellowsRound$State" "leather" "I", Cond.fieldLink RX3 155 "BellowsRound$State" "money" "I", Cond.fieldLink RX3 161 "BellowsRound$State" "paidForLeather" "I", Cond.fieldLink RX3 164 "BellowsRound$State" "owedForMends" "I", Cond.fieldLink RX3 170 "BellowsRound$State" "longestCold" "I", Cond.fieldLink RX3 173 "BellowsRound$State" "milesWalked" "I", Cond.fieldLink RX3 176 "BellowsRound" "states" "I", Cond.fieldLink RX3 26 "BellowsRound" "text" "LBellowsRound$OrderText;", Cond.fieldLink RX3 179 "BellowsRound$OrderText" "length" "I", Cond.fieldLink RX3 182 "BellowsRound$State" "cold" "I", Cond.fieldLink RX3 185 "BellowsRound$State" "hours" "I", Cond.fieldLink RX3 188 "BellowsRound$State" "rate" "I", Cond.fieldLink RX3 191 "BellowsRound$State" "patience" "I", Cond.constant RX3 65 (-1000000001), Cond.methodLink RX3 158 yX2_debtsTogether, Cond.instanceMethod yX2_debtsTogether, Cond.selects RX2 yX2_debtsTogether yX2_debtsTogether, Cond.initialized RX2, Cond.code yX2_debtsTogether cX2_debtsTogether 4 (some .int)]
def wsX3_count_r2 : List Cond := [Cond.fieldLink RX2 37 "BellowsRound$State" "smithyCount" "I", Cond.fieldLink RX2 100 "BellowsRound$Smithy" "debt" "I", Cond.methodLink RX2 61 yX2_find, Cond.instanceMethod yX2_find, Cond.selects RX2 yX2_find yX2_find, Cond.code yX2_find cX2_find 2 (some (.object "BellowsRound$Smithy")), Cond.fieldLink RX2 11 "BellowsRound$State" "smithies" "[LBellowsRound$Smithy;", Cond.methodLink RX3 167 yX2_coldSet, Cond.instanceMethod yX2_coldSet, Cond.selects RX2 yX2_coldSet yX2_coldSet, Cond.code yX2_coldSet cX2_coldSet 4 (some .int), Cond.fieldLink RX2 113 "BellowsRound$Smithy" "heat" "I", Cond.methodLink RX2 116 yX2_isCold, Cond.instanceMethod yX2_isCold, Cond.selects RX2 yX2_isCold yX2_isCold, Cond.code yX2_isCold cX2_isCold 2 (some .boolean), Cond.fieldLink RX2 17 "BellowsRound$State" "cold" "I"]
def wsX3_count : List Cond := .code yX3_count cX3_count 2 (some .int) :: ((wsX3_count_r1 ++ wsX3_count_r2) ++ wsX30 ++ wsX20 ++ wsX00 ++ wsX10)
def wsX3_undo_r1 : List Cond := [Cond.fieldLink RX3 176 "BellowsRound" "states" "I", Cond.fieldLink RX3 19 "BellowsRound" "history" "[LBellowsRound$State;", Cond.constant RX3 194 (-1000000002), Cond.fieldLink RX3 12 "BellowsRound" "now" "LBellowsRound$State;", Cond.methodLink RX3 30 yX2_copyFrom, Cond.instanceMethod yX2_copyFrom, Cond.selects RX2 yX2_copyFrom yX2_copyFrom, Cond.initialized RX2, Cond.code yX2_copyFrom cX2_copyFrom 5 none, Cond.fieldLink RX2 37 "BellowsRound$State" "smithyCount" "I", Cond.fieldLink RX2 17 "BellowsRound$State" "cold" "I", Cond.fieldLink RX2 21 "BellowsRound$State" "hours" "I", Cond.fieldLink RX2 24 "BellowsRound$State" "rate" "I", Cond.fieldLink RX2 27 "BellowsRound$State" "patience" "I", Cond.fieldLink RX2 40 "BellowsRound$State" "day" "I", Cond.fieldLink RX2 43 "BellowsRound$State" "mile" "I", Cond.fieldLink RX2 30 "BellowsRound$State" "hoursLeft" "I", Cond.fieldLink RX2 46 "BellowsRound$State" "leather" "I", Cond.fieldLink RX2 33 "BellowsRound$State" "money" "I", Cond.fieldLink RX2 49 "BellowsRound$State" "paidForLeather" "I", Cond.fieldLink RX2 52 "BellowsRound$State" "owedForMends" "I", Cond.fieldLink RX2 55 "BellowsRound$State" "longestCold" "I", Cond.fieldLink RX2 58 "BellowsRound$State" "milesWalked" "I", Cond.methodLink RX2 61 yX2_find]
def wsX3_undo_r2 : List Cond := [Cond.instanceMethod yX2_find, Cond.selects RX2 yX2_find yX2_find, Cond.code yX2_find cX2_find 2 (some (.object "BellowsRound$Smithy")), Cond.fieldLink RX2 11 "BellowsRound$State" "smithies" "[LBellowsRound$Smithy;", Cond.methodLink RX2 65 yX1_copyFrom, Cond.instanceMethod yX1_copyFrom, Cond.selects RX1 yX1_copyFrom yX1_copyFrom, Cond.initialized RX1, Cond.code yX1_copyFrom cX1_copyFrom 2 none, Cond.fieldLink RX1 9 "BellowsRound$Smithy" "mile" "I", Cond.fieldLink RX1 15 "BellowsRound$Smithy" "size" "I", Cond.fieldLink RX1 18 "BellowsRound$Smithy" "wear" "I", Cond.fieldLink RX1 21 "BellowsRound$Smithy" "heat" "I", Cond.fieldLink RX1 24 "BellowsRound$Smithy" "coldDays" "I", Cond.fieldLink RX1 27 "BellowsRound$Smithy" "debt" "I", Cond.fieldLink RX1 30 "BellowsRound$Smithy" "paid" "I", Cond.fieldLink RX1 33 "BellowsRound$Smithy" "mends" "I"]
def wsX3_undo : List Cond := .code yX3_undo cX3_undo 2 (some .int) :: ((wsX3_undo_r1 ++ wsX3_undo_r2) ++ wsX30 ++ wsX20 ++ wsX10)
def wsX3_type : List Cond := .code yX3_type cX3_type 2 (some .int) :: ([.constant RX3 65 (-1000000001), .fieldLink RX3 26 "BellowsRound" "text" "LBellowsRound$OrderText;", .methodLink RX3 195 yX0_append, .instanceMethod yX0_append, .selects RX0 yX0_append yX0_append, .initialized RX0, .code yX0_append cX0_append 2 (some .int), .fieldLink RX0 15 "BellowsRound$OrderText" "length" "I", .fieldLink RX0 9 "BellowsRound$OrderText" "characters" "[C", .constant RX0 19 (-1000000003)] ++ wsX30 ++ wsX00)
def wsX3_clearText : List Cond := .code yX3_clearText cX3_clearText 2 (some .int) :: ([.fieldLink RX3 26 "BellowsRound" "text" "LBellowsRound$OrderText;", .fieldLink RX3 179 "BellowsRound$OrderText" "length" "I"] ++ wsX30 ++ wsX00)
def wsX3_keepFault : List Cond := .code yX3_keepFault cX3_keepFault 4 none :: ([.fieldLink RX3 203 "BellowsRound" "faultPosition" "I", .fieldLink RX3 206 "BellowsRound" "faultReason" "I", .fieldLink RX3 209 "BellowsRound" "faultCause" "I"] ++ wsX30)
def wsX3_tryOrders_r1 : List Cond := [Cond.fieldLink RX3 16 "BellowsRound" "trial" "LBellowsRound$State;", Cond.fieldLink RX3 12 "BellowsRound" "now" "LBellowsRound$State;", Cond.fieldLink RX3 212 "BellowsRound" "ordersTried" "I", Cond.fieldLink RX3 26 "BellowsRound" "text" "LBellowsRound$OrderText;", Cond.fieldLink RX3 179 "BellowsRound$OrderText" "length" "I", Cond.fieldLink RX3 224 "BellowsRound$OrderText" "brokenAt" "I", Cond.fieldLink RX3 231 "BellowsRound$OrderText" "letter" "I", Cond.fieldLink RX3 234 "BellowsRound$OrderText" "number" "I", Cond.fieldLink RX3 240 "BellowsRound$OrderText" "behind" "I", Cond.methodLink RX3 30 yX2_copyFrom, Cond.instanceMethod yX2_copyFrom, Cond.selects RX2 yX2_copyFrom yX2_copyFrom, Cond.initialized RX2, Cond.code yX2_copyFrom cX2_copyFrom 5 none, Cond.fieldLink RX2 37 "BellowsRound$State" "smithyCount" "I", Cond.fieldLink RX2 17 "BellowsRound$State" "cold" "I", Cond.fieldLink RX2 21 "BellowsRound$State" "hours" "I", Cond.fieldLink RX2 24 "BellowsRound$State" "rate" "I", Cond.fieldLink RX2 27 "BellowsRound$State" "patience" "I", Cond.fieldLink RX2 40 "BellowsRound$State" "day" "I", Cond.fieldLink RX2 43 "BellowsRound$State" "mile" "I", Cond.fieldLink RX2 30 "BellowsRound$State" "hoursLeft" "I", Cond.fieldLink RX2 46 "BellowsRound$State" "leather" "I", Cond.fieldLink RX2 33 "BellowsRound$State" "money" "I"]
def wsX3_tryOrders_r2 : List Cond := [Cond.fieldLink RX2 49 "BellowsRound$State" "paidForLeather" "I", Cond.fieldLink RX2 52 "BellowsRound$State" "owedForMends" "I", Cond.fieldLink RX2 55 "BellowsRound$State" "longestCold" "I", Cond.fieldLink RX2 58 "BellowsRound$State" "milesWalked" "I", Cond.methodLink RX2 61 yX2_find, Cond.instanceMethod yX2_find, Cond.selects RX2 yX2_find yX2_find, Cond.code yX2_find cX2_find 2 (some (.object "BellowsRound$Smithy")), Cond.fieldLink RX2 11 "BellowsRound$State" "smithies" "[LBellowsRound$Smithy;", Cond.methodLink RX2 65 yX1_copyFrom, Cond.instanceMethod yX1_copyFrom, Cond.selects RX1 yX1_copyFrom yX1_copyFrom, Cond.initialized RX1, Cond.code yX1_copyFrom cX1_copyFrom 2 none, Cond.fieldLink RX1 9 "BellowsRound$Smithy" "mile" "I", Cond.fieldLink RX1 15 "BellowsRound$Smithy" "size" "I", Cond.fieldLink RX1 18 "BellowsRound$Smithy" "wear" "I", Cond.fieldLink RX1 21 "BellowsRound$Smithy" "heat" "I", Cond.fieldLink RX1 24 "BellowsRound$Smithy" "coldDays" "I", Cond.fieldLink RX1 27 "BellowsRound$Smithy" "debt" "I", Cond.fieldLink RX1 30 "BellowsRound$Smithy" "paid" "I", Cond.fieldLink RX1 33 "BellowsRound$Smithy" "mends" "I", Cond.methodLink RX3 221 yX0_readOrder, Cond.instanceMethod yX0_readOrder]
def wsX3_tryOrders_r3 : List Cond := [Cond.selects RX0 yX0_readOrder yX0_readOrder, Cond.initialized RX0, Cond.code yX0_readOrder cX0_readOrder 3 (some .boolean), Cond.fieldLink RX0 24 "BellowsRound$OrderText" "letter" "I", Cond.fieldLink RX0 31 "BellowsRound$OrderText" "brokenAt" "I", Cond.fieldLink RX0 34 "BellowsRound$OrderText" "number" "I", Cond.fieldLink RX0 40 "BellowsRound$OrderText" "behind" "I", Cond.methodLink RX0 20 yX0_characterAt, Cond.instanceMethod yX0_characterAt, Cond.selects RX0 yX0_characterAt yX0_characterAt, Cond.code yX0_characterAt cX0_characterAt 2 (some .int), Cond.fieldLink RX0 15 "BellowsRound$OrderText" "length" "I", Cond.fieldLink RX0 9 "BellowsRound$OrderText" "characters" "[C", Cond.methodLink RX0 27 yX0_isOrderLetter, Cond.static yX0_isOrderLetter, Cond.code yX0_isOrderLetter cX0_isOrderLetter 1 (some .boolean), Cond.methodLink RX0 37 yX0_isDigit, Cond.static yX0_isDigit, Cond.code yX0_isDigit cX0_isDigit 1 (some .boolean), Cond.methodLink RX3 227 yX3_keepFault, Cond.instanceMethod yX3_keepFault, Cond.selects RX3 yX3_keepFault yX3_keepFault, Cond.initialized RX3, Cond.code yX3_keepFault cX3_keepFault 4 none]
def wsX3_tryOrders_r4 : List Cond := [Cond.fieldLink RX3 203 "BellowsRound" "faultPosition" "I", Cond.fieldLink RX3 206 "BellowsRound" "faultReason" "I", Cond.fieldLink RX3 209 "BellowsRound" "faultCause" "I", Cond.methodLink RX3 237 yX2_doOrder, Cond.instanceMethod yX2_doOrder, Cond.selects RX2 yX2_doOrder yX2_doOrder, Cond.code yX2_doOrder cX2_doOrder 3 (some .int), Cond.constant RX2 69 (-1000000001), Cond.methodLink RX2 154 yX2_walkTo, Cond.instanceMethod yX2_walkTo, Cond.selects RX2 yX2_walkTo yX2_walkTo, Cond.code yX2_walkTo cX2_walkTo 3 (some .int), Cond.constant RX2 79 (-1000000002), Cond.methodLink RX2 80 Lib.Math.abs.name, Cond.static Lib.Math.abs.name, Cond.initialized "java/lang/Math", Cond.code Lib.Math.abs.name Lib.Math.abs.code 1 (some .int), Cond.static yX3_hoursOfWay, Cond.code yX3_hoursOfWay cX3_hoursOfWay 2 (some .int), Cond.methodLink RX3 251 Lib.Math.abs.name, Cond.methodLink RX3 254 yX3_tensBegun, Cond.static yX3_tensBegun, Cond.code yX3_tensBegun cX3_tensBegun 1 (some .int), Cond.methodLink RX2 157 yX2_buyLeather]
def wsX3_tryOrders_r5 : List Cond := [Cond.instanceMethod yX2_buyLeather, Cond.selects RX2 yX2_buyLeather yX2_buyLeather, Cond.code yX2_buyLeather cX2_buyLeather 3 (some .int), Cond.constant RX2 70 (-1000000003), Cond.methodLink RX2 160 yX2_mendBellows, Cond.instanceMethod yX2_mendBellows, Cond.selects RX2 yX2_mendBellows yX2_mendBellows, Cond.code yX2_mendBellows cX2_mendBellows 5 (some .int), Cond.fieldLink RX2 100 "BellowsRound$Smithy" "debt" "I", Cond.fieldLink RX2 106 "BellowsRound$Smithy" "wear" "I", Cond.fieldLink RX2 109 "BellowsRound$Smithy" "mends" "I", Cond.methodLink RX2 86 yX2_reasonAgainst, Cond.instanceMethod yX2_reasonAgainst, Cond.selects RX2 yX2_reasonAgainst yX2_reasonAgainst, Cond.code yX2_reasonAgainst cX2_reasonAgainst 3 (some .int), Cond.fieldLink RX2 112 "BellowsRound$Smithy" "mile" "I", Cond.static yX3_hoursOfMend, Cond.code yX3_hoursOfMend cX3_hoursOfMend 1 (some .int), Cond.methodLink RX2 97 yX1_leatherOfMend, Cond.instanceMethod yX1_leatherOfMend, Cond.selects RX1 yX1_leatherOfMend yX1_leatherOfMend, Cond.code yX1_leatherOfMend cX1_leatherOfMend 2 (some .int), Cond.methodLink RX2 170 yX2_reasonOfSmithy, Cond.instanceMethod yX2_reasonOfSmithy]
def wsX3_tryOrders_r6 : List Cond := [Cond.selects RX2 yX2_reasonOfSmithy yX2_reasonOfSmithy, Cond.code yX2_reasonOfSmithy cX2_reasonOfSmithy 2 (some .int), Cond.methodLink RX2 90 yX2_priceOfMend, Cond.instanceMethod yX2_priceOfMend, Cond.selects RX2 yX2_priceOfMend yX2_priceOfMend, Cond.code yX2_priceOfMend cX2_priceOfMend 3 (some .int), Cond.methodLink RX2 103 yX1_wearBehindMend, Cond.instanceMethod yX1_wearBehindMend, Cond.selects RX1 yX1_wearBehindMend yX1_wearBehindMend, Cond.code yX1_wearBehindMend cX1_wearBehindMend 2 (some .int), Cond.methodLink RX2 164 yX2_collectDebt, Cond.instanceMethod yX2_collectDebt, Cond.selects RX2 yX2_collectDebt yX2_collectDebt, Cond.code yX2_collectDebt cX2_collectDebt 4 (some .int), Cond.fieldLink RX2 113 "BellowsRound$Smithy" "heat" "I", Cond.fieldLink RX2 120 "BellowsRound$Smithy" "paid" "I", Cond.methodLink RX2 116 yX2_isCold, Cond.instanceMethod yX2_isCold, Cond.selects RX2 yX2_isCold yX2_isCold, Cond.code yX2_isCold cX2_isCold 2 (some .boolean), Cond.methodLink RX2 167 yX2_endDays, Cond.instanceMethod yX2_endDays, Cond.selects RX2 yX2_endDays yX2_endDays, Cond.code yX2_endDays cX2_endDays 5 (some .int)]
def wsX3_tryOrders_r7 : List Cond := [Cond.methodLink RX2 123 yX2_endDayOf, Cond.instanceMethod yX2_endDayOf, Cond.selects RX2 yX2_endDayOf yX2_endDayOf, Cond.code yX2_endDayOf cX2_endDayOf 2 none, Cond.fieldLink RX2 135 "BellowsRound$Smithy" "size" "I", Cond.fieldLink RX2 144 "BellowsRound$Smithy" "coldDays" "I", Cond.methodLink RX2 147 Lib.Math.max.name, Cond.static Lib.Math.max.name, Cond.code Lib.Math.max.name Lib.Math.max.code 2 (some .int), Cond.static yX3_wearBehindDay, Cond.code yX3_wearBehindDay cX3_wearBehindDay 2 (some .int), Cond.methodLink RX3 243 Lib.Math.min.name, Cond.static Lib.Math.min.name, Cond.code Lib.Math.min.name Lib.Math.min.code 2 (some .int), Cond.static yX3_heatBehindDay, Cond.code yX3_heatBehindDay cX3_heatBehindDay 3 (some .int), Cond.methodLink RX3 248 Lib.Math.max.name, Cond.methodLink RX3 78 yX3_leakOf, Cond.static yX3_leakOf, Cond.code yX3_leakOf cX3_leakOf 1 (some .int), Cond.methodLink RX2 126 yX2_coldSet, Cond.instanceMethod yX2_coldSet, Cond.selects RX2 yX2_coldSet yX2_coldSet, Cond.code yX2_coldSet cX2_coldSet 4 (some .int)]
def wsX3_tryOrders_r8 : List Cond := [Cond.methodLink RX2 130 yJ6_bitCount_0f7a4, Cond.static yJ6_bitCount_0f7a4, Cond.initialized RJ6, Cond.code yJ6_bitCount_0f7a4 cJ6_bitCount_0f7a4 1 (some .int), Cond.constant RJ6 265 (1431655765), Cond.constant RJ6 266 (858993459), Cond.constant RJ6 267 (252645135)]
def wsX3_tryOrders : List Cond := .code yX3_tryOrders cX3_tryOrders 4 (some .boolean) :: ((wsX3_tryOrders_r1 ++ (wsX3_tryOrders_r2 ++ (wsX3_tryOrders_r3 ++ (wsX3_tryOrders_r4 ++ (wsX3_tryOrders_r5 ++ (wsX3_tryOrders_r6 ++ (wsX3_tryOrders_r7 ++ wsX3_tryOrders_r8))))))) ++ wsX30 ++ wsX00 ++ wsX20 ++ wsX10)
def wsX3_fault_r1 : List Cond := [Cond.constant RX3 65 (-1000000001), Cond.constant RX3 128 (-1000000004), Cond.fieldLink RX3 203 "BellowsRound" "faultPosition" "I", Cond.fieldLink RX3 206 "BellowsRound" "faultReason" "I", Cond.fieldLink RX3 209 "BellowsRound" "faultCause" "I", Cond.methodLink RX3 199 yX3_tryOrders, Cond.instanceMethod yX3_tryOrders, Cond.selects RX3 yX3_tryOrders yX3_tryOrders, Cond.initialized RX3, Cond.code yX3_tryOrders cX3_tryOrders 4 (some .boolean), Cond.fieldLink RX3 16 "BellowsRound" "trial" "LBellowsRound$State;", Cond.fieldLink RX3 12 "BellowsRound" "now" "LBellowsRound$State;", Cond.fieldLink RX3 212 "BellowsRound" "ordersTried" "I", Cond.fieldLink RX3 26 "BellowsRound" "text" "LBellowsRound$OrderText;", Cond.fieldLink RX3 179 "BellowsRound$OrderText" "length" "I", Cond.fieldLink RX3 224 "BellowsRound$OrderText" "brokenAt" "I", Cond.fieldLink RX3 231 "BellowsRound$OrderText" "letter" "I", Cond.fieldLink RX3 234 "BellowsRound$OrderText" "number" "I", Cond.fieldLink RX3 240 "BellowsRound$OrderText" "behind" "I", Cond.methodLink RX3 30 yX2_copyFrom, Cond.instanceMethod yX2_copyFrom, Cond.selects RX2 yX2_copyFrom yX2_copyFrom, Cond.initialized RX2, Cond.code yX2_copyFrom cX2_copyFrom 5 none]
def wsX3_fault_r2 : List Cond := [Cond.fieldLink RX2 37 "BellowsRound$State" "smithyCount" "I", Cond.fieldLink RX2 17 "BellowsRound$State" "cold" "I", Cond.fieldLink RX2 21 "BellowsRound$State" "hours" "I", Cond.fieldLink RX2 24 "BellowsRound$State" "rate" "I", Cond.fieldLink RX2 27 "BellowsRound$State" "patience" "I", Cond.fieldLink RX2 40 "BellowsRound$State" "day" "I", Cond.fieldLink RX2 43 "BellowsRound$State" "mile" "I", Cond.fieldLink RX2 30 "BellowsRound$State" "hoursLeft" "I", Cond.fieldLink RX2 46 "BellowsRound$State" "leather" "I", Cond.fieldLink RX2 33 "BellowsRound$State" "money" "I", Cond.fieldLink RX2 49 "BellowsRound$State" "paidForLeather" "I", Cond.fieldLink RX2 52 "BellowsRound$State" "owedForMends" "I", Cond.fieldLink RX2 55 "BellowsRound$State" "longestCold" "I", Cond.fieldLink RX2 58 "BellowsRound$State" "milesWalked" "I", Cond.methodLink RX2 61 yX2_find, Cond.instanceMethod yX2_find, Cond.selects RX2 yX2_find yX2_find, Cond.code yX2_find cX2_find 2 (some (.object "BellowsRound$Smithy")), Cond.fieldLink RX2 11 "BellowsRound$State" "smithies" "[LBellowsRound$Smithy;", Cond.methodLink RX2 65 yX1_copyFrom, Cond.instanceMethod yX1_copyFrom, Cond.selects RX1 yX1_copyFrom yX1_copyFrom, Cond.initialized RX1, Cond.code yX1_copyFrom cX1_copyFrom 2 none]
def wsX3_fault_r3 : List Cond := [Cond.fieldLink RX1 9 "BellowsRound$Smithy" "mile" "I", Cond.fieldLink RX1 15 "BellowsRound$Smithy" "size" "I", Cond.fieldLink RX1 18 "BellowsRound$Smithy" "wear" "I", Cond.fieldLink RX1 21 "BellowsRound$Smithy" "heat" "I", Cond.fieldLink RX1 24 "BellowsRound$Smithy" "coldDays" "I", Cond.fieldLink RX1 27 "BellowsRound$Smithy" "debt" "I", Cond.fieldLink RX1 30 "BellowsRound$Smithy" "paid" "I", Cond.fieldLink RX1 33 "BellowsRound$Smithy" "mends" "I", Cond.methodLink RX3 221 yX0_readOrder, Cond.instanceMethod yX0_readOrder, Cond.selects RX0 yX0_readOrder yX0_readOrder, Cond.initialized RX0, Cond.code yX0_readOrder cX0_readOrder 3 (some .boolean), Cond.fieldLink RX0 24 "BellowsRound$OrderText" "letter" "I", Cond.fieldLink RX0 31 "BellowsRound$OrderText" "brokenAt" "I", Cond.fieldLink RX0 34 "BellowsRound$OrderText" "number" "I", Cond.fieldLink RX0 40 "BellowsRound$OrderText" "behind" "I", Cond.methodLink RX0 20 yX0_characterAt, Cond.instanceMethod yX0_characterAt, Cond.selects RX0 yX0_characterAt yX0_characterAt, Cond.code yX0_characterAt cX0_characterAt 2 (some .int), Cond.fieldLink RX0 15 "BellowsRound$OrderText" "length" "I", Cond.fieldLink RX0 9 "BellowsRound$OrderText" "characters" "[C", Cond.methodLink RX0 27 yX0_isOrderLetter]
def wsX3_fault_r4 : List Cond := [Cond.static yX0_isOrderLetter, Cond.code yX0_isOrderLetter cX0_isOrderLetter 1 (some .boolean), Cond.methodLink RX0 37 yX0_isDigit, Cond.static yX0_isDigit, Cond.code yX0_isDigit cX0_isDigit 1 (some .boolean), Cond.methodLink RX3 227 yX3_keepFault, Cond.instanceMethod yX3_keepFault, Cond.selects RX3 yX3_keepFault yX3_keepFault, Cond.code yX3_keepFault cX3_keepFault 4 none, Cond.methodLink RX3 237 yX2_doOrder, Cond.instanceMethod yX2_doOrder, Cond.selects RX2 yX2_doOrder yX2_doOrder, Cond.code yX2_doOrder cX2_doOrder 3 (some .int), Cond.constant RX2 69 (-1000000001), Cond.methodLink RX2 154 yX2_walkTo, Cond.instanceMethod yX2_walkTo, Cond.selects RX2 yX2_walkTo yX2_walkTo, Cond.code yX2_walkTo cX2_walkTo 3 (some .int), Cond.constant RX2 79 (-1000000002), Cond.methodLink RX2 80 Lib.Math.abs.name, Cond.static Lib.Math.abs.name, Cond.initialized "java/lang/Math", Cond.code Lib.Math.abs.name Lib.Math.abs.code 1 (some .int), Cond.static yX3_hoursOfWay]
def wsX3_fault_r5 : List Cond := [Cond.code yX3_hoursOfWay cX3_hoursOfWay 2 (some .int), Cond.methodLink RX3 251 Lib.Math.abs.name, Cond.methodLink RX3 254 yX3_tensBegun, Cond.static yX3_tensBegun, Cond.code yX3_tensBegun cX3_tensBegun 1 (some .int), Cond.methodLink RX2 157 yX2_buyLeather, Cond.instanceMethod yX2_buyLeather, Cond.selects RX2 yX2_buyLeather yX2_buyLeather, Cond.code yX2_buyLeather cX2_buyLeather 3 (some .int), Cond.constant RX2 70 (-1000000003), Cond.methodLink RX2 160 yX2_mendBellows, Cond.instanceMethod yX2_mendBellows, Cond.selects RX2 yX2_mendBellows yX2_mendBellows, Cond.code yX2_mendBellows cX2_mendBellows 5 (some .int), Cond.fieldLink RX2 100 "BellowsRound$Smithy" "debt" "I", Cond.fieldLink RX2 106 "BellowsRound$Smithy" "wear" "I", Cond.fieldLink RX2 109 "BellowsRound$Smithy" "mends" "I", Cond.methodLink RX2 86 yX2_reasonAgainst, Cond.instanceMethod yX2_reasonAgainst, Cond.selects RX2 yX2_reasonAgainst yX2_reasonAgainst, Cond.code yX2_reasonAgainst cX2_reasonAgainst 3 (some .int), Cond.fieldLink RX2 112 "BellowsRound$Smithy" "mile" "I", Cond.static yX3_hoursOfMend, Cond.code yX3_hoursOfMend cX3_hoursOfMend 1 (some .int)]
def wsX3_fault_r6 : List Cond := [Cond.methodLink RX2 97 yX1_leatherOfMend, Cond.instanceMethod yX1_leatherOfMend, Cond.selects RX1 yX1_leatherOfMend yX1_leatherOfMend, Cond.code yX1_leatherOfMend cX1_leatherOfMend 2 (some .int), Cond.methodLink RX2 170 yX2_reasonOfSmithy, Cond.instanceMethod yX2_reasonOfSmithy, Cond.selects RX2 yX2_reasonOfSmithy yX2_reasonOfSmithy, Cond.code yX2_reasonOfSmithy cX2_reasonOfSmithy 2 (some .int), Cond.methodLink RX2 90 yX2_priceOfMend, Cond.instanceMethod yX2_priceOfMend, Cond.selects RX2 yX2_priceOfMend yX2_priceOfMend, Cond.code yX2_priceOfMend cX2_priceOfMend 3 (some .int), Cond.methodLink RX2 103 yX1_wearBehindMend, Cond.instanceMethod yX1_wearBehindMend, Cond.selects RX1 yX1_wearBehindMend yX1_wearBehindMend, Cond.code yX1_wearBehindMend cX1_wearBehindMend 2 (some .int), Cond.methodLink RX2 164 yX2_collectDebt, Cond.instanceMethod yX2_collectDebt, Cond.selects RX2 yX2_collectDebt yX2_collectDebt, Cond.code yX2_collectDebt cX2_collectDebt 4 (some .int), Cond.fieldLink RX2 113 "BellowsRound$Smithy" "heat" "I", Cond.fieldLink RX2 120 "BellowsRound$Smithy" "paid" "I", Cond.methodLink RX2 116 yX2_isCold, Cond.instanceMethod yX2_isCold]
def wsX3_fault_r7 : List Cond := [Cond.selects RX2 yX2_isCold yX2_isCold, Cond.code yX2_isCold cX2_isCold 2 (some .boolean), Cond.methodLink RX2 167 yX2_endDays, Cond.instanceMethod yX2_endDays, Cond.selects RX2 yX2_endDays yX2_endDays, Cond.code yX2_endDays cX2_endDays 5 (some .int), Cond.methodLink RX2 123 yX2_endDayOf, Cond.instanceMethod yX2_endDayOf, Cond.selects RX2 yX2_endDayOf yX2_endDayOf, Cond.code yX2_endDayOf cX2_endDayOf 2 none, Cond.fieldLink RX2 135 "BellowsRound$Smithy" "size" "I", Cond.fieldLink RX2 144 "BellowsRound$Smithy" "coldDays" "I", Cond.methodLink RX2 147 Lib.Math.max.name, Cond.static Lib.Math.max.name, Cond.code Lib.Math.max.name Lib.Math.max.code 2 (some .int), Cond.static yX3_wearBehindDay, Cond.code yX3_wearBehindDay cX3_wearBehindDay 2 (some .int), Cond.methodLink RX3 243 Lib.Math.min.name, Cond.static Lib.Math.min.name, Cond.code Lib.Math.min.name Lib.Math.min.code 2 (some .int), Cond.static yX3_heatBehindDay, Cond.code yX3_heatBehindDay cX3_heatBehindDay 3 (some .int), Cond.methodLink RX3 248 Lib.Math.max.name, Cond.methodLink RX3 78 yX3_leakOf]
def wsX3_fault_r8 : List Cond := [Cond.static yX3_leakOf, Cond.code yX3_leakOf cX3_leakOf 1 (some .int), Cond.methodLink RX2 126 yX2_coldSet, Cond.instanceMethod yX2_coldSet, Cond.selects RX2 yX2_coldSet yX2_coldSet, Cond.code yX2_coldSet cX2_coldSet 4 (some .int), Cond.methodLink RX2 130 yJ6_bitCount_0f7a4, Cond.static yJ6_bitCount_0f7a4, Cond.initialized RJ6, Cond.code yJ6_bitCount_0f7a4 cJ6_bitCount_0f7a4 1 (some .int), Cond.constant RJ6 265 (1431655765), Cond.constant RJ6 266 (858993459), Cond.constant RJ6 267 (252645135)]
def wsX3_fault : List Cond := .code yX3_fault cX3_fault 2 (some .int) :: ((wsX3_fault_r1 ++ (wsX3_fault_r2 ++ (wsX3_fault_r3 ++ (wsX3_fault_r4 ++ (wsX3_fault_r5 ++ (wsX3_fault_r6 ++ (wsX3_fault_r7 ++ wsX3_fault_r8))))))) ++ wsX30 ++ wsX00 ++ wsX20 ++ wsX10)
def wsX3_play_r1 : List Cond := [Cond.constant RX3 194 (-1000000002), Cond.fieldLink RX3 212 "BellowsRound" "ordersTried" "I", Cond.methodLink RX3 199 yX3_tryOrders, Cond.instanceMethod yX3_tryOrders, Cond.selects RX3 yX3_tryOrders yX3_tryOrders, Cond.initialized RX3, Cond.code yX3_tryOrders cX3_tryOrders 4 (some .boolean), Cond.fieldLink RX3 16 "BellowsRound" "trial" "LBellowsRound$State;", Cond.fieldLink RX3 12 "BellowsRound" "now" "LBellowsRound$State;", Cond.fieldLink RX3 26 "BellowsRound" "text" "LBellowsRound$OrderText;", Cond.fieldLink RX3 179 "BellowsRound$OrderText" "length" "I", Cond.fieldLink RX3 224 "BellowsRound$OrderText" "brokenAt" "I", Cond.fieldLink RX3 231 "BellowsRound$OrderText" "letter" "I", Cond.fieldLink RX3 234 "BellowsRound$OrderText" "number" "I", Cond.fieldLink RX3 240 "BellowsRound$OrderText" "behind" "I", Cond.methodLink RX3 30 yX2_copyFrom, Cond.instanceMethod yX2_copyFrom, Cond.selects RX2 yX2_copyFrom yX2_copyFrom, Cond.initialized RX2, Cond.code yX2_copyFrom cX2_copyFrom 5 none, Cond.fieldLink RX2 37 "BellowsRound$State" "smithyCount" "I", Cond.fieldLink RX2 17 "BellowsRound$State" "cold" "I", Cond.fieldLink RX2 21 "BellowsRound$State" "hours" "I", Cond.fieldLink RX2 24 "BellowsRound$State" "rate" "I"]
def wsX3_play_r2 : List Cond := [Cond.fieldLink RX2 27 "BellowsRound$State" "patience" "I", Cond.fieldLink RX2 40 "BellowsRound$State" "day" "I", Cond.fieldLink RX2 43 "BellowsRound$State" "mile" "I", Cond.fieldLink RX2 30 "BellowsRound$State" "hoursLeft" "I", Cond.fieldLink RX2 46 "BellowsRound$State" "leather" "I", Cond.fieldLink RX2 33 "BellowsRound$State" "money" "I", Cond.fieldLink RX2 49 "BellowsRound$State" "paidForLeather" "I", Cond.fieldLink RX2 52 "BellowsRound$State" "owedForMends" "I", Cond.fieldLink RX2 55 "BellowsRound$State" "longestCold" "I", Cond.fieldLink RX2 58 "BellowsRound$State" "milesWalked" "I", Cond.methodLink RX2 61 yX2_find, Cond.instanceMethod yX2_find, Cond.selects RX2 yX2_find yX2_find, Cond.code yX2_find cX2_find 2 (some (.object "BellowsRound$Smithy")), Cond.fieldLink RX2 11 "BellowsRound$State" "smithies" "[LBellowsRound$Smithy;", Cond.methodLink RX2 65 yX1_copyFrom, Cond.instanceMethod yX1_copyFrom, Cond.selects RX1 yX1_copyFrom yX1_copyFrom, Cond.initialized RX1, Cond.code yX1_copyFrom cX1_copyFrom 2 none, Cond.fieldLink RX1 9 "BellowsRound$Smithy" "mile" "I", Cond.fieldLink RX1 15 "BellowsRound$Smithy" "size" "I", Cond.fieldLink RX1 18 "BellowsRound$Smithy" "wear" "I", Cond.fieldLink RX1 21 "BellowsRound$Smithy" "heat" "I"]
def wsX3_play_r3 : List Cond := [Cond.fieldLink RX1 24 "BellowsRound$Smithy" "coldDays" "I", Cond.fieldLink RX1 27 "BellowsRound$Smithy" "debt" "I", Cond.fieldLink RX1 30 "BellowsRound$Smithy" "paid" "I", Cond.fieldLink RX1 33 "BellowsRound$Smithy" "mends" "I", Cond.methodLink RX3 221 yX0_readOrder, Cond.instanceMethod yX0_readOrder, Cond.selects RX0 yX0_readOrder yX0_readOrder, Cond.initialized RX0, Cond.code yX0_readOrder cX0_readOrder 3 (some .boolean), Cond.fieldLink RX0 24 "BellowsRound$OrderText" "letter" "I", Cond.fieldLink RX0 31 "BellowsRound$OrderText" "brokenAt" "I", Cond.fieldLink RX0 34 "BellowsRound$OrderText" "number" "I", Cond.fieldLink RX0 40 "BellowsRound$OrderText" "behind" "I", Cond.methodLink RX0 20 yX0_characterAt, Cond.instanceMethod yX0_characterAt, Cond.selects RX0 yX0_characterAt yX0_characterAt, Cond.code yX0_characterAt cX0_characterAt 2 (some .int), Cond.fieldLink RX0 15 "BellowsRound$OrderText" "length" "I", Cond.fieldLink RX0 9 "BellowsRound$OrderText" "characters" "[C", Cond.methodLink RX0 27 yX0_isOrderLetter, Cond.static yX0_isOrderLetter, Cond.code yX0_isOrderLetter cX0_isOrderLetter 1 (some .boolean), Cond.methodLink RX0 37 yX0_isDigit, Cond.static yX0_isDigit]
def wsX3_play_r4 : List Cond := [Cond.code yX0_isDigit cX0_isDigit 1 (some .boolean), Cond.methodLink RX3 227 yX3_keepFault, Cond.instanceMethod yX3_keepFault, Cond.selects RX3 yX3_keepFault yX3_keepFault, Cond.code yX3_keepFault cX3_keepFault 4 none, Cond.fieldLink RX3 203 "BellowsRound" "faultPosition" "I", Cond.fieldLink RX3 206 "BellowsRound" "faultReason" "I", Cond.fieldLink RX3 209 "BellowsRound" "faultCause" "I", Cond.methodLink RX3 237 yX2_doOrder, Cond.instanceMethod yX2_doOrder, Cond.selects RX2 yX2_doOrder yX2_doOrder, Cond.code yX2_doOrder cX2_doOrder 3 (some .int), Cond.constant RX2 69 (-1000000001), Cond.methodLink RX2 154 yX2_walkTo, Cond.instanceMethod yX2_walkTo, Cond.selects RX2 yX2_walkTo yX2_walkTo, Cond.code yX2_walkTo cX2_walkTo 3 (some .int), Cond.constant RX2 79 (-1000000002), Cond.methodLink RX2 80 Lib.Math.abs.name, Cond.static Lib.Math.abs.name, Cond.initialized "java/lang/Math", Cond.code Lib.Math.abs.name Lib.Math.abs.code 1 (some .int), Cond.static yX3_hoursOfWay, Cond.code yX3_hoursOfWay cX3_hoursOfWay 2 (some .int)]
def wsX3_play_r5 : List Cond := [Cond.methodLink RX3 251 Lib.Math.abs.name, Cond.methodLink RX3 254 yX3_tensBegun, Cond.static yX3_tensBegun, Cond.code yX3_tensBegun cX3_tensBegun 1 (some .int), Cond.methodLink RX2 157 yX2_buyLeather, Cond.instanceMethod yX2_buyLeather, Cond.selects RX2 yX2_buyLeather yX2_buyLeather, Cond.code yX2_buyLeather cX2_buyLeather 3 (some .int), Cond.constant RX2 70 (-1000000003), Cond.methodLink RX2 160 yX2_mendBellows, Cond.instanceMethod yX2_mendBellows, Cond.selects RX2 yX2_mendBellows yX2_mendBellows, Cond.code yX2_mendBellows cX2_mendBellows 5 (some .int), Cond.fieldLink RX2 100 "BellowsRound$Smithy" "debt" "I", Cond.fieldLink RX2 106 "BellowsRound$Smithy" "wear" "I", Cond.fieldLink RX2 109 "BellowsRound$Smithy" "mends" "I", Cond.methodLink RX2 86 yX2_reasonAgainst, Cond.instanceMethod yX2_reasonAgainst, Cond.selects RX2 yX2_reasonAgainst yX2_reasonAgainst, Cond.code yX2_reasonAgainst cX2_reasonAgainst 3 (some .int), Cond.fieldLink RX2 112 "BellowsRound$Smithy" "mile" "I", Cond.static yX3_hoursOfMend, Cond.code yX3_hoursOfMend cX3_hoursOfMend 1 (some .int), Cond.methodLink RX2 97 yX1_leatherOfMend]
def wsX3_play_r6 : List Cond := [Cond.instanceMethod yX1_leatherOfMend, Cond.selects RX1 yX1_leatherOfMend yX1_leatherOfMend, Cond.code yX1_leatherOfMend cX1_leatherOfMend 2 (some .int), Cond.methodLink RX2 170 yX2_reasonOfSmithy, Cond.instanceMethod yX2_reasonOfSmithy, Cond.selects RX2 yX2_reasonOfSmithy yX2_reasonOfSmithy, Cond.code yX2_reasonOfSmithy cX2_reasonOfSmithy 2 (some .int), Cond.methodLink RX2 90 yX2_priceOfMend, Cond.instanceMethod yX2_priceOfMend, Cond.selects RX2 yX2_priceOfMend yX2_priceOfMend, Cond.code yX2_priceOfMend cX2_priceOfMend 3 (some .int), Cond.methodLink RX2 103 yX1_wearBehindMend, Cond.instanceMethod yX1_wearBehindMend, Cond.selects RX1 yX1_wearBehindMend yX1_wearBehindMend, Cond.code yX1_wearBehindMend cX1_wearBehindMend 2 (some .int), Cond.methodLink RX2 164 yX2_collectDebt, Cond.instanceMethod yX2_collectDebt, Cond.selects RX2 yX2_collectDebt yX2_collectDebt, Cond.code yX2_collectDebt cX2_collectDebt 4 (some .int), Cond.fieldLink RX2 113 "BellowsRound$Smithy" "heat" "I", Cond.fieldLink RX2 120 "BellowsRound$Smithy" "paid" "I", Cond.methodLink RX2 116 yX2_isCold, Cond.instanceMethod yX2_isCold, Cond.selects RX2 yX2_isCold yX2_isCold]
def wsX3_play_r7 : List Cond := [Cond.code yX2_isCold cX2_isCold 2 (some .boolean), Cond.methodLink RX2 167 yX2_endDays, Cond.instanceMethod yX2_endDays, Cond.selects RX2 yX2_endDays yX2_endDays, Cond.code yX2_endDays cX2_endDays 5 (some .int), Cond.methodLink RX2 123 yX2_endDayOf, Cond.instanceMethod yX2_endDayOf, Cond.selects RX2 yX2_endDayOf yX2_endDayOf, Cond.code yX2_endDayOf cX2_endDayOf 2 none, Cond.fieldLink RX2 135 "BellowsRound$Smithy" "size" "I", Cond.fieldLink RX2 144 "BellowsRound$Smithy" "coldDays" "I", Cond.methodLink RX2 147 Lib.Math.max.name, Cond.static Lib.Math.max.name, Cond.code Lib.Math.max.name Lib.Math.max.code 2 (some .int), Cond.static yX3_wearBehindDay, Cond.code yX3_wearBehindDay cX3_wearBehindDay 2 (some .int), Cond.methodLink RX3 243 Lib.Math.min.name, Cond.static Lib.Math.min.name, Cond.code Lib.Math.min.name Lib.Math.min.code 2 (some .int), Cond.static yX3_heatBehindDay, Cond.code yX3_heatBehindDay cX3_heatBehindDay 3 (some .int), Cond.methodLink RX3 248 Lib.Math.max.name, Cond.methodLink RX3 78 yX3_leakOf, Cond.static yX3_leakOf]
def wsX3_play_r8 : List Cond := [Cond.code yX3_leakOf cX3_leakOf 1 (some .int), Cond.methodLink RX2 126 yX2_coldSet, Cond.instanceMethod yX2_coldSet, Cond.selects RX2 yX2_coldSet yX2_coldSet, Cond.code yX2_coldSet cX2_coldSet 4 (some .int), Cond.methodLink RX2 130 yJ6_bitCount_0f7a4, Cond.static yJ6_bitCount_0f7a4, Cond.initialized RJ6, Cond.code yJ6_bitCount_0f7a4 cJ6_bitCount_0f7a4 1 (some .int), Cond.constant RJ6 265 (1431655765), Cond.constant RJ6 266 (858993459), Cond.constant RJ6 267 (252645135), Cond.methodLink RX3 38 yX3_commit, Cond.instanceMethod yX3_commit, Cond.selects RX3 yX3_commit yX3_commit, Cond.code yX3_commit cX3_commit 3 (some .int), Cond.methodLink RX3 215 yX3_remember, Cond.instanceMethod yX3_remember, Cond.selects RX3 yX3_remember yX3_remember, Cond.code yX3_remember cX3_remember 2 none, Cond.fieldLink RX3 176 "BellowsRound" "states" "I", Cond.fieldLink RX3 19 "BellowsRound" "history" "[LBellowsRound$State;", Cond.methodLink RX3 218 yX3_dropOldestState, Cond.instanceMethod yX3_dropOldestState]
def wsX3_play_r9 : List Cond := [Cond.selects RX3 yX3_dropOldestState yX3_dropOldestState, Cond.code yX3_dropOldestState cX3_dropOldestState 3 none]
def wsX3_play : List Cond := .code yX3_play cX3_play 1 (some .int) :: ((wsX3_play_r1 ++ (wsX3_play_r2 ++ (wsX3_play_r3 ++ (wsX3_play_r4 ++ (wsX3_play_r5 ++ (wsX3_play_r6 ++ (wsX3_play_r7 ++ (wsX3_play_r8 ++ wsX3_play_r9)))))))) ++ wsX30 ++ wsX00 ++ wsX20 ++ wsX10)
def wsX4_init : List Cond := .code yX4_init cX4_init 1 none :: ([.methodLink RX4 1 objectInit, .instanceMethod objectInit, .code objectInit ⟨#[0xb1]⟩ 1 none, .arrayClass .int, .fieldLink RX4 7 "BellowsRoundModel" "s" "[I", .fieldLink RX4 13 "BellowsRoundModel" "past" "[I", .fieldLink RX4 16 "BellowsRoundModel" "held" "[I", .fieldLink RX4 19 "BellowsRoundModel" "tried" "[I", .fieldLink RX4 22 "BellowsRoundModel" "text" "[I"] ++ wsX40)
def wsX4_in : List Cond := .code yX4_in cX4_in 3 (some .boolean) :: ([])
def wsX4_size : List Cond := .code yX4_size cX4_size 1 (some .int) :: ([])
def wsX4_copies : List Cond := .code yX4_copies cX4_copies 3 none :: ([])
def wsX4_changes : List Cond := .code yX4_changes cX4_changes 2 none :: ([.fieldLink RX4 25 "BellowsRoundModel" "runs" "Z", .fieldLink RX4 29 "BellowsRoundModel" "pasts" "I", .fieldLink RX4 13 "BellowsRoundModel" "past" "[I", .fieldLink RX4 7 "BellowsRoundModel" "s" "[I"] ++ wsX40)
def wsX4_isSmithy : List Cond := .code yX4_isSmithy cX4_isSmithy 2 (some .boolean) :: ([.fieldLink RX4 7 "BellowsRoundModel" "s" "[I"] ++ wsX40)
def wsX4_of : List Cond := .code yX4_of cX4_of 3 (some .int) :: ([.fieldLink RX4 7 "BellowsRoundModel" "s" "[I"] ++ wsX40)
def wsX4_sets : List Cond := .code yX4_sets cX4_sets 4 none :: ([.fieldLink RX4 7 "BellowsRoundModel" "s" "[I"] ++ wsX40)
def wsX4_leak : List Cond := .code yX4_leak cX4_leak 2 (some .int) :: ([.methodLink RX4 33 yX4_of, .instanceMethod yX4_of, .selects RX4 yX4_of yX4_of, .initialized RX4, .code yX4_of cX4_of 3 (some .int), .fieldLink RX4 7 "BellowsRoundModel" "s" "[I"] ++ wsX40)
def wsX4_isCold : List Cond := .code yX4_isCold cX4_isCold 2 (some .boolean) :: ([.fieldLink RX4 7 "BellowsRoundModel" "s" "[I", .methodLink RX4 33 yX4_of, .instanceMethod yX4_of, .selects RX4 yX4_of yX4_of, .initialized RX4, .code yX4_of cX4_of 3 (some .int)] ++ wsX40)
def wsX4_tens : List Cond := .code yX4_tens cX4_tens 1 (some .int) :: ([])
def wsX4_ages : List Cond := .code yX4_ages cX4_ages 4 none :: ([.fieldLink RX4 7 "BellowsRoundModel" "s" "[I", .methodLink RX4 33 yX4_of, .instanceMethod yX4_of, .selects RX4 yX4_of yX4_of, .initialized RX4, .code yX4_of cX4_of 3 (some .int), .methodLink RX4 37 yX4_sets, .instanceMethod yX4_sets, .selects RX4 yX4_sets yX4_sets, .code yX4_sets cX4_sets 4 none, .methodLink RX4 41 yX4_leak, .instanceMethod yX4_leak, .selects RX4 yX4_leak yX4_leak, .code yX4_leak cX4_leak 2 (some .int), .methodLink RX4 45 yX4_isCold, .instanceMethod yX4_isCold, .selects RX4 yX4_isCold yX4_isCold, .code yX4_isCold cX4_isCold 2 (some .boolean)] ++ wsX40)
def wsX4_ends : List Cond := .code yX4_ends cX4_ends 2 none :: ([.fieldLink RX4 7 "BellowsRoundModel" "s" "[I", .methodLink RX4 49 yX4_ages, .instanceMethod yX4_ages, .selects RX4 yX4_ages yX4_ages, .initialized RX4, .code yX4_ages cX4_ages 4 none, .methodLink RX4 33 yX4_of, .instanceMethod yX4_of, .selects RX4 yX4_of yX4_of, .code yX4_of cX4_of 3 (some .int), .methodLink RX4 37 yX4_sets, .instanceMethod yX4_sets, .selects RX4 yX4_sets yX4_sets, .code yX4_sets cX4_sets 4 none, .methodLink RX4 41 yX4_leak, .instanceMethod yX4_leak, .selects RX4 yX4_leak yX4_leak, .code yX4_leak cX4_leak 2 (some .int), .methodLink RX4 45 yX4_isCold, .instanceMethod yX4_isCold, .selects RX4 yX4_isCold yX4_isCold, .code yX4_isCold cX4_isCold 2 (some .boolean)] ++ wsX40)
def wsX4_coldOnes : List Cond := .code yX4_coldOnes cX4_coldOnes 3 (some .int) :: ([.fieldLink RX4 7 "BellowsRoundModel" "s" "[I", .methodLink RX4 45 yX4_isCold, .instanceMethod yX4_isCold, .selects RX4 yX4_isCold yX4_isCold, .initialized RX4, .code yX4_isCold cX4_isCold 2 (some .boolean), .methodLink RX4 33 yX4_of, .instanceMethod yX4_of, .selects RX4 yX4_of yX4_of, .code yX4_of cX4_of 3 (some .int)] ++ wsX40)
def wsX4_ones : List Cond := .code yX4_ones cX4_ones 3 (some .int) :: ([])
def wsX4_smithy : List Cond := .code yX4_smithy cX4_smithy 5 (some .int) :: ([.constant RX4 57 (-1000000001), .fieldLink RX4 7 "BellowsRoundModel" "s" "[I", .constant RX4 58 (-1000000003), .methodLink RX4 53 yX4_in, .static yX4_in, .initialized RX4, .code yX4_in cX4_in 3 (some .boolean), .methodLink RX4 59 yX4_changes, .instanceMethod yX4_changes, .selects RX4 yX4_changes yX4_changes, .code yX4_changes cX4_changes 2 none, .fieldLink RX4 25 "BellowsRoundModel" "runs" "Z", .fieldLink RX4 29 "BellowsRoundModel" "pasts" "I", .fieldLink RX4 13 "BellowsRoundModel" "past" "[I", .methodLink RX4 37 yX4_sets, .instanceMethod yX4_sets, .selects RX4 yX4_sets yX4_sets, .code yX4_sets cX4_sets 4 none] ++ wsX40)
def wsX4_hoursBetween : List Cond := .code yX4_hoursBetween cX4_hoursBetween 2 (some .int) :: ([.methodLink RX4 62 yX4_size, .static yX4_size, .initialized RX4, .code yX4_size cX4_size 1 (some .int), .methodLink RX4 65 yX4_tens, .static yX4_tens, .code yX4_tens cX4_tens 1 (some .int)])
def wsX4_walk : List Cond := .code yX4_walk cX4_walk 3 (some .int) :: ([.constant RX4 57 (-1000000001), .fieldLink RX4 7 "BellowsRoundModel" "s" "[I", .constant RX4 71 (-1000000002), .methodLink RX4 53 yX4_in, .static yX4_in, .initialized RX4, .code yX4_in cX4_in 3 (some .boolean), .methodLink RX4 68 yX4_hoursBetween, .static yX4_hoursBetween, .code yX4_hoursBetween cX4_hoursBetween 2 (some .int), .methodLink RX4 62 yX4_size, .static yX4_size, .code yX4_size cX4_size 1 (some .int), .methodLink RX4 65 yX4_tens, .static yX4_tens, .code yX4_tens cX4_tens 1 (some .int), .methodLink RX4 59 yX4_changes, .instanceMethod yX4_changes, .selects RX4 yX4_changes yX4_changes, .code yX4_changes cX4_changes 2 none, .fieldLink RX4 25 "BellowsRoundModel" "runs" "Z", .fieldLink RX4 29 "BellowsRoundModel" "pasts" "I", .fieldLink RX4 13 "BellowsRoundModel" "past" "[I"] ++ wsX40)
def wsX4_buy : List Cond := .code yX4_buy cX4_buy 2 (some .int) :: ([.constant RX4 57 (-1000000001), .fieldLink RX4 7 "BellowsRoundModel" "s" "[I", .constant RX4 71 (-1000000002), .constant RX4 58 (-1000000003), .methodLink RX4 53 yX4_in, .static yX4_in, .initialized RX4, .code yX4_in cX4_in 3 (some .boolean), .methodLink RX4 59 yX4_changes, .instanceMethod yX4_changes, .selects RX4 yX4_changes yX4_changes, .code yX4_changes cX4_changes 2 none, .fieldLink RX4 25 "BellowsRoundModel" "runs" "Z", .fieldLink RX4 29 "BellowsRoundModel" "pasts" "I", .fieldLink RX4 13 "BellowsRoundModel" "past" "[I"] ++ wsX40)
def wsX4_hoursOf : List Cond := .code yX4_hoursOf cX4_hoursOf 1 (some .int) :: ([])
def wsX4_leatherOf : List Cond := .code yX4_leatherOf cX4_leatherOf 3 (some .int) :: ([.methodLink RX4 33 yX4_of, .instanceMethod yX4_of, .selects RX4 yX4_of yX4_of, .initialized RX4, .code yX4_of cX4_of 3 (some .int), .fieldLink RX4 7 "BellowsRoundModel" "s" "[I", .methodLink RX4 65 yX4_tens, .static yX4_tens, .code yX4_tens cX4_tens 1 (some .int)] ++ wsX40)
def wsX4_owes : List Cond := .code yX4_owes cX4_owes 3 (some .int) :: ([.fieldLink RX4 7 "BellowsRoundModel" "s" "[I", .methodLink RX4 72 yX4_hoursOf, .static yX4_hoursOf, .initialized RX4, .code yX4_hoursOf cX4_hoursOf 1 (some .int), .methodLink RX4 75 yX4_leatherOf, .instanceMethod yX4_leatherOf, .selects RX4 yX4_leatherOf yX4_leatherOf, .code yX4_leatherOf cX4_leatherOf 3 (some .int), .methodLink RX4 33 yX4_of, .instanceMethod yX4_of, .selects RX4 yX4_of yX4_of, .code yX4_of cX4_of 3 (some .int), .methodLink RX4 65 yX4_tens, .static yX4_tens, .code yX4_tens cX4_tens 1 (some .int)] ++ wsX40)
def wsX4_whyNot : List Cond := .code yX4_whyNot cX4_whyNot 3 (some .int) :: ([.fieldLink RX4 7 "BellowsRoundModel" "s" "[I", .methodLink RX4 33 yX4_of, .instanceMethod yX4_of, .selects RX4 yX4_of yX4_of, .initialized RX4, .code yX4_of cX4_of 3 (some .int), .methodLink RX4 72 yX4_hoursOf, .static yX4_hoursOf, .code yX4_hoursOf cX4_hoursOf 1 (some .int), .methodLink RX4 75 yX4_leatherOf, .instanceMethod yX4_leatherOf, .selects RX4 yX4_leatherOf yX4_leatherOf, .code yX4_leatherOf cX4_leatherOf 3 (some .int), .methodLink RX4 65 yX4_tens, .static yX4_tens, .code yX4_tens cX4_tens 1 (some .int)] ++ wsX40)
def wsX4_mends : List Cond := .code yX4_mends cX4_mends 4 none :: ([.fieldLink RX4 7 "BellowsRoundModel" "s" "[I", .methodLink RX4 78 yX4_owes, .instanceMethod yX4_owes, .selects RX4 yX4_owes yX4_owes, .initialized RX4, .code yX4_owes cX4_owes 3 (some .int), .methodLink RX4 72 yX4_hoursOf, .static yX4_hoursOf, .code yX4_hoursOf cX4_hoursOf 1 (some .int), .methodLink RX4 75 yX4_leatherOf, .instanceMethod yX4_leatherOf, .selects RX4 yX4_leatherOf yX4_leatherOf, .code yX4_leatherOf cX4_leatherOf 3 (some .int), .methodLink RX4 33 yX4_of, .instanceMethod yX4_of, .selects RX4 yX4_of yX4_of, .code yX4_of cX4_of 3 (some .int), .methodLink RX4 65 yX4_tens, .static yX4_tens, .code yX4_tens cX4_tens 1 (some .int), .methodLink RX4 37 yX4_sets, .instanceMethod yX4_sets, .selects RX4 yX4_sets yX4_sets, .code yX4_sets cX4_sets 4 none] ++ wsX40)
def wsX4_patch_r1 : List Cond := [Cond.constant RX4 57 (-1000000001), Cond.constant RX4 71 (-1000000002), Cond.methodLink RX4 81 yX4_isSmithy, Cond.instanceMethod yX4_isSmithy, Cond.selects RX4 yX4_isSmithy yX4_isSmithy, Cond.initialized RX4, Cond.code yX4_isSmithy cX4_isSmithy 2 (some .boolean), Cond.fieldLink RX4 7 "BellowsRoundModel" "s" "[I", Cond.methodLink RX4 84 yX4_whyNot, Cond.instanceMethod yX4_whyNot, Cond.selects RX4 yX4_whyNot yX4_whyNot, Cond.code yX4_whyNot cX4_whyNot 3 (some .int), Cond.methodLink RX4 33 yX4_of, Cond.instanceMethod yX4_of, Cond.selects RX4 yX4_of yX4_of, Cond.code yX4_of cX4_of 3 (some .int), Cond.methodLink RX4 72 yX4_hoursOf, Cond.static yX4_hoursOf, Cond.code yX4_hoursOf cX4_hoursOf 1 (some .int), Cond.methodLink RX4 75 yX4_leatherOf, Cond.instanceMethod yX4_leatherOf, Cond.selects RX4 yX4_leatherOf yX4_leatherOf, Cond.code yX4_leatherOf cX4_leatherOf 3 (some .int), Cond.methodLink RX4 65 yX4_tens]
def wsX4_patch_r2 : List Cond := [Cond.static yX4_tens, Cond.code yX4_tens cX4_tens 1 (some .int), Cond.methodLink RX4 59 yX4_changes, Cond.instanceMethod yX4_changes, Cond.selects RX4 yX4_changes yX4_changes, Cond.code yX4_changes cX4_changes 2 none, Cond.fieldLink RX4 25 "BellowsRoundModel" "runs" "Z", Cond.fieldLink RX4 29 "BellowsRoundModel" "pasts" "I", Cond.fieldLink RX4 13 "BellowsRoundModel" "past" "[I", Cond.methodLink RX4 87 yX4_mends, Cond.instanceMethod yX4_mends, Cond.selects RX4 yX4_mends yX4_mends, Cond.code yX4_mends cX4_mends 4 none, Cond.methodLink RX4 78 yX4_owes, Cond.instanceMethod yX4_owes, Cond.selects RX4 yX4_owes yX4_owes, Cond.code yX4_owes cX4_owes 3 (some .int), Cond.methodLink RX4 37 yX4_sets, Cond.instanceMethod yX4_sets, Cond.selects RX4 yX4_sets yX4_sets, Cond.code yX4_sets cX4_sets 4 none]
def wsX4_patch : List Cond := .code yX4_patch cX4_patch 2 (some .int) :: ((wsX4_patch_r1 ++ wsX4_patch_r2) ++ wsX40)
def wsX4_hide_r1 : List Cond := [Cond.constant RX4 57 (-1000000001), Cond.constant RX4 71 (-1000000002), Cond.methodLink RX4 81 yX4_isSmithy, Cond.instanceMethod yX4_isSmithy, Cond.selects RX4 yX4_isSmithy yX4_isSmithy, Cond.initialized RX4, Cond.code yX4_isSmithy cX4_isSmithy 2 (some .boolean), Cond.fieldLink RX4 7 "BellowsRoundModel" "s" "[I", Cond.methodLink RX4 84 yX4_whyNot, Cond.instanceMethod yX4_whyNot, Cond.selects RX4 yX4_whyNot yX4_whyNot, Cond.code yX4_whyNot cX4_whyNot 3 (some .int), Cond.methodLink RX4 33 yX4_of, Cond.instanceMethod yX4_of, Cond.selects RX4 yX4_of yX4_of, Cond.code yX4_of cX4_of 3 (some .int), Cond.methodLink RX4 72 yX4_hoursOf, Cond.static yX4_hoursOf, Cond.code yX4_hoursOf cX4_hoursOf 1 (some .int), Cond.methodLink RX4 75 yX4_leatherOf, Cond.instanceMethod yX4_leatherOf, Cond.selects RX4 yX4_leatherOf yX4_leatherOf, Cond.code yX4_leatherOf cX4_leatherOf 3 (some .int), Cond.methodLink RX4 65 yX4_tens]
def wsX4_hide_r2 : List Cond := [Cond.static yX4_tens, Cond.code yX4_tens cX4_tens 1 (some .int), Cond.methodLink RX4 59 yX4_changes, Cond.instanceMethod yX4_changes, Cond.selects RX4 yX4_changes yX4_changes, Cond.code yX4_changes cX4_changes 2 none, Cond.fieldLink RX4 25 "BellowsRoundModel" "runs" "Z", Cond.fieldLink RX4 29 "BellowsRoundModel" "pasts" "I", Cond.fieldLink RX4 13 "BellowsRoundModel" "past" "[I", Cond.methodLink RX4 87 yX4_mends, Cond.instanceMethod yX4_mends, Cond.selects RX4 yX4_mends yX4_mends, Cond.code yX4_mends cX4_mends 4 none, Cond.methodLink RX4 78 yX4_owes, Cond.instanceMethod yX4_owes, Cond.selects RX4 yX4_owes yX4_owes, Cond.code yX4_owes cX4_owes 3 (some .int), Cond.methodLink RX4 37 yX4_sets, Cond.instanceMethod yX4_sets, Cond.selects RX4 yX4_sets yX4_sets, Cond.code yX4_sets cX4_sets 4 none]
def wsX4_hide : List Cond := .code yX4_hide cX4_hide 2 (some .int) :: ((wsX4_hide_r1 ++ wsX4_hide_r2) ++ wsX40)
def wsX4_collect_r1 : List Cond := [Cond.constant RX4 57 (-1000000001), Cond.fieldLink RX4 7 "BellowsRoundModel" "s" "[I", Cond.constant RX4 71 (-1000000002), Cond.methodLink RX4 81 yX4_isSmithy, Cond.instanceMethod yX4_isSmithy, Cond.selects RX4 yX4_isSmithy yX4_isSmithy, Cond.initialized RX4, Cond.code yX4_isSmithy cX4_isSmithy 2 (some .boolean), Cond.methodLink RX4 33 yX4_of, Cond.instanceMethod yX4_of, Cond.selects RX4 yX4_of yX4_of, Cond.code yX4_of cX4_of 3 (some .int), Cond.methodLink RX4 59 yX4_changes, Cond.instanceMethod yX4_changes, Cond.selects RX4 yX4_changes yX4_changes, Cond.code yX4_changes cX4_changes 2 none, Cond.fieldLink RX4 25 "BellowsRoundModel" "runs" "Z", Cond.fieldLink RX4 29 "BellowsRoundModel" "pasts" "I", Cond.fieldLink RX4 13 "BellowsRoundModel" "past" "[I", Cond.methodLink RX4 45 yX4_isCold, Cond.instanceMethod yX4_isCold, Cond.selects RX4 yX4_isCold yX4_isCold, Cond.code yX4_isCold cX4_isCold 2 (some .boolean), Cond.methodLink RX4 37 yX4_sets]
def wsX4_collect_r2 : List Cond := [Cond.instanceMethod yX4_sets, Cond.selects RX4 yX4_sets yX4_sets, Cond.code yX4_sets cX4_sets 4 none]
def wsX4_collect : List Cond := .code yX4_collect cX4_collect 3 (some .int) :: ((wsX4_collect_r1 ++ wsX4_collect_r2) ++ wsX40)
def wsX4_end_r1 : List Cond := [Cond.constant RX4 57 (-1000000001), Cond.fieldLink RX4 7 "BellowsRoundModel" "s" "[I", Cond.constant RX4 58 (-1000000003), Cond.methodLink RX4 53 yX4_in, Cond.static yX4_in, Cond.initialized RX4, Cond.code yX4_in cX4_in 3 (some .boolean), Cond.methodLink RX4 59 yX4_changes, Cond.instanceMethod yX4_changes, Cond.selects RX4 yX4_changes yX4_changes, Cond.code yX4_changes cX4_changes 2 none, Cond.fieldLink RX4 25 "BellowsRoundModel" "runs" "Z", Cond.fieldLink RX4 29 "BellowsRoundModel" "pasts" "I", Cond.fieldLink RX4 13 "BellowsRoundModel" "past" "[I", Cond.methodLink RX4 91 yX4_ends, Cond.instanceMethod yX4_ends, Cond.selects RX4 yX4_ends yX4_ends, Cond.code yX4_ends cX4_ends 2 none, Cond.methodLink RX4 49 yX4_ages, Cond.instanceMethod yX4_ages, Cond.selects RX4 yX4_ages yX4_ages, Cond.code yX4_ages cX4_ages 4 none, Cond.methodLink RX4 33 yX4_of, Cond.instanceMethod yX4_of]
def wsX4_end_r2 : List Cond := [Cond.selects RX4 yX4_of yX4_of, Cond.code yX4_of cX4_of 3 (some .int), Cond.methodLink RX4 37 yX4_sets, Cond.instanceMethod yX4_sets, Cond.selects RX4 yX4_sets yX4_sets, Cond.code yX4_sets cX4_sets 4 none, Cond.methodLink RX4 41 yX4_leak, Cond.instanceMethod yX4_leak, Cond.selects RX4 yX4_leak yX4_leak, Cond.code yX4_leak cX4_leak 2 (some .int), Cond.methodLink RX4 45 yX4_isCold, Cond.instanceMethod yX4_isCold, Cond.selects RX4 yX4_isCold yX4_isCold, Cond.code yX4_isCold cX4_isCold 2 (some .boolean), Cond.methodLink RX4 94 yX4_coldOnes, Cond.instanceMethod yX4_coldOnes, Cond.selects RX4 yX4_coldOnes yX4_coldOnes, Cond.code yX4_coldOnes cX4_coldOnes 3 (some .int), Cond.methodLink RX4 98 yX4_ones, Cond.static yX4_ones, Cond.code yX4_ones cX4_ones 3 (some .int)]
def wsX4_end : List Cond := .code yX4_end cX4_end 3 (some .int) :: ((wsX4_end_r1 ++ wsX4_end_r2) ++ wsX40)
def wsX4_maySet : List Cond := .code yX4_maySet cX4_maySet 2 (some .boolean) :: ([.methodLink RX4 53 yX4_in, .static yX4_in, .initialized RX4, .code yX4_in cX4_in 3 (some .boolean)])
def wsX4_set : List Cond := .code yX4_set cX4_set 4 (some .int) :: ([.constant RX4 57 (-1000000001), .fieldLink RX4 7 "BellowsRoundModel" "s" "[I", .methodLink RX4 53 yX4_in, .static yX4_in, .initialized RX4, .code yX4_in cX4_in 3 (some .boolean), .methodLink RX4 101 yX4_maySet, .static yX4_maySet, .code yX4_maySet cX4_maySet 2 (some .boolean), .methodLink RX4 59 yX4_changes, .instanceMethod yX4_changes, .selects RX4 yX4_changes yX4_changes, .code yX4_changes cX4_changes 2 none, .fieldLink RX4 25 "BellowsRoundModel" "runs" "Z", .fieldLink RX4 29 "BellowsRoundModel" "pasts" "I", .fieldLink RX4 13 "BellowsRoundModel" "past" "[I"] ++ wsX40)
def wsX4_smithyOf_r1 : List Cond := [Cond.constant RX4 57 (-1000000001), Cond.fieldLink RX4 7 "BellowsRoundModel" "s" "[I", Cond.methodLink RX4 81 yX4_isSmithy, Cond.instanceMethod yX4_isSmithy, Cond.selects RX4 yX4_isSmithy yX4_isSmithy, Cond.initialized RX4, Cond.code yX4_isSmithy cX4_isSmithy 2 (some .boolean), Cond.methodLink RX4 53 yX4_in, Cond.static yX4_in, Cond.code yX4_in cX4_in 3 (some .boolean), Cond.methodLink RX4 41 yX4_leak, Cond.instanceMethod yX4_leak, Cond.selects RX4 yX4_leak yX4_leak, Cond.code yX4_leak cX4_leak 2 (some .int), Cond.methodLink RX4 33 yX4_of, Cond.instanceMethod yX4_of, Cond.selects RX4 yX4_of yX4_of, Cond.code yX4_of cX4_of 3 (some .int), Cond.methodLink RX4 45 yX4_isCold, Cond.instanceMethod yX4_isCold, Cond.selects RX4 yX4_isCold yX4_isCold, Cond.code yX4_isCold cX4_isCold 2 (some .boolean), Cond.methodLink RX4 68 yX4_hoursBetween, Cond.static yX4_hoursBetween]
def wsX4_smithyOf_r2 : List Cond := [Cond.code yX4_hoursBetween cX4_hoursBetween 2 (some .int), Cond.methodLink RX4 62 yX4_size, Cond.static yX4_size, Cond.code yX4_size cX4_size 1 (some .int), Cond.methodLink RX4 65 yX4_tens, Cond.static yX4_tens, Cond.code yX4_tens cX4_tens 1 (some .int)]
def wsX4_smithyOf : List Cond := .code yX4_smithyOf cX4_smithyOf 3 (some .int) :: ((wsX4_smithyOf_r1 ++ wsX4_smithyOf_r2) ++ wsX40)
def wsX4_why_r1 : List Cond := [Cond.constant RX4 57 (-1000000001), Cond.methodLink RX4 81 yX4_isSmithy, Cond.instanceMethod yX4_isSmithy, Cond.selects RX4 yX4_isSmithy yX4_isSmithy, Cond.initialized RX4, Cond.code yX4_isSmithy cX4_isSmithy 2 (some .boolean), Cond.fieldLink RX4 7 "BellowsRoundModel" "s" "[I", Cond.methodLink RX4 53 yX4_in, Cond.static yX4_in, Cond.code yX4_in cX4_in 3 (some .boolean), Cond.methodLink RX4 84 yX4_whyNot, Cond.instanceMethod yX4_whyNot, Cond.selects RX4 yX4_whyNot yX4_whyNot, Cond.code yX4_whyNot cX4_whyNot 3 (some .int), Cond.methodLink RX4 33 yX4_of, Cond.instanceMethod yX4_of, Cond.selects RX4 yX4_of yX4_of, Cond.code yX4_of cX4_of 3 (some .int), Cond.methodLink RX4 72 yX4_hoursOf, Cond.static yX4_hoursOf, Cond.code yX4_hoursOf cX4_hoursOf 1 (some .int), Cond.methodLink RX4 75 yX4_leatherOf, Cond.instanceMethod yX4_leatherOf, Cond.selects RX4 yX4_leatherOf yX4_leatherOf]
def wsX4_why_r2 : List Cond := [Cond.code yX4_leatherOf cX4_leatherOf 3 (some .int), Cond.methodLink RX4 65 yX4_tens, Cond.static yX4_tens, Cond.code yX4_tens cX4_tens 1 (some .int)]
def wsX4_why : List Cond := .code yX4_why cX4_why 3 (some .int) :: ((wsX4_why_r1 ++ wsX4_why_r2) ++ wsX40)
def wsX4_mend_r1 : List Cond := [Cond.constant RX4 57 (-1000000001), Cond.methodLink RX4 81 yX4_isSmithy, Cond.instanceMethod yX4_isSmithy, Cond.selects RX4 yX4_isSmithy yX4_isSmithy, Cond.initialized RX4, Cond.code yX4_isSmithy cX4_isSmithy 2 (some .boolean), Cond.fieldLink RX4 7 "BellowsRoundModel" "s" "[I", Cond.methodLink RX4 53 yX4_in, Cond.static yX4_in, Cond.code yX4_in cX4_in 3 (some .boolean), Cond.methodLink RX4 72 yX4_hoursOf, Cond.static yX4_hoursOf, Cond.code yX4_hoursOf cX4_hoursOf 1 (some .int), Cond.methodLink RX4 75 yX4_leatherOf, Cond.instanceMethod yX4_leatherOf, Cond.selects RX4 yX4_leatherOf yX4_leatherOf, Cond.code yX4_leatherOf cX4_leatherOf 3 (some .int), Cond.methodLink RX4 33 yX4_of, Cond.instanceMethod yX4_of, Cond.selects RX4 yX4_of yX4_of, Cond.code yX4_of cX4_of 3 (some .int), Cond.methodLink RX4 65 yX4_tens, Cond.static yX4_tens, Cond.code yX4_tens cX4_tens 1 (some .int)]
def wsX4_mend_r2 : List Cond := [Cond.methodLink RX4 78 yX4_owes, Cond.instanceMethod yX4_owes, Cond.selects RX4 yX4_owes yX4_owes, Cond.code yX4_owes cX4_owes 3 (some .int)]
def wsX4_mend : List Cond := .code yX4_mend cX4_mend 4 (some .int) :: ((wsX4_mend_r1 ++ wsX4_mend_r2) ++ wsX40)
def wsX4_coldDays_r1 : List Cond := [Cond.fieldLink RX4 7 "BellowsRoundModel" "s" "[I", Cond.fieldLink RX4 19 "BellowsRoundModel" "tried" "[I", Cond.constant RX4 109 (-1000000004), Cond.methodLink RX4 105 yX4_copies, Cond.static yX4_copies, Cond.initialized RX4, Cond.code yX4_copies cX4_copies 3 none, Cond.methodLink RX4 45 yX4_isCold, Cond.instanceMethod yX4_isCold, Cond.selects RX4 yX4_isCold yX4_isCold, Cond.code yX4_isCold cX4_isCold 2 (some .boolean), Cond.methodLink RX4 33 yX4_of, Cond.instanceMethod yX4_of, Cond.selects RX4 yX4_of yX4_of, Cond.code yX4_of cX4_of 3 (some .int), Cond.methodLink RX4 49 yX4_ages, Cond.instanceMethod yX4_ages, Cond.selects RX4 yX4_ages yX4_ages, Cond.code yX4_ages cX4_ages 4 none, Cond.methodLink RX4 37 yX4_sets, Cond.instanceMethod yX4_sets, Cond.selects RX4 yX4_sets yX4_sets, Cond.code yX4_sets cX4_sets 4 none, Cond.methodLink RX4 41 yX4_leak]
def wsX4_coldDays_r2 : List Cond := [Cond.instanceMethod yX4_leak, Cond.selects RX4 yX4_leak yX4_leak, Cond.code yX4_leak cX4_leak 2 (some .int)]
def wsX4_coldDays : List Cond := .code yX4_coldDays cX4_coldDays 4 (some .int) :: ((wsX4_coldDays_r1 ++ wsX4_coldDays_r2) ++ wsX40)
def wsX4_coldIn_r1 : List Cond := [Cond.constant RX4 57 (-1000000001), Cond.methodLink RX4 81 yX4_isSmithy, Cond.instanceMethod yX4_isSmithy, Cond.selects RX4 yX4_isSmithy yX4_isSmithy, Cond.initialized RX4, Cond.code yX4_isSmithy cX4_isSmithy 2 (some .boolean), Cond.fieldLink RX4 7 "BellowsRoundModel" "s" "[I", Cond.methodLink RX4 110 yX4_coldDays, Cond.instanceMethod yX4_coldDays, Cond.selects RX4 yX4_coldDays yX4_coldDays, Cond.code yX4_coldDays cX4_coldDays 4 (some .int), Cond.fieldLink RX4 19 "BellowsRoundModel" "tried" "[I", Cond.constant RX4 109 (-1000000004), Cond.methodLink RX4 105 yX4_copies, Cond.static yX4_copies, Cond.code yX4_copies cX4_copies 3 none, Cond.methodLink RX4 45 yX4_isCold, Cond.instanceMethod yX4_isCold, Cond.selects RX4 yX4_isCold yX4_isCold, Cond.code yX4_isCold cX4_isCold 2 (some .boolean), Cond.methodLink RX4 33 yX4_of, Cond.instanceMethod yX4_of, Cond.selects RX4 yX4_of yX4_of, Cond.code yX4_of cX4_of 3 (some .int)]
def wsX4_coldIn_r2 : List Cond := [Cond.methodLink RX4 49 yX4_ages, Cond.instanceMethod yX4_ages, Cond.selects RX4 yX4_ages yX4_ages, Cond.code yX4_ages cX4_ages 4 none, Cond.methodLink RX4 37 yX4_sets, Cond.instanceMethod yX4_sets, Cond.selects RX4 yX4_sets yX4_sets, Cond.code yX4_sets cX4_sets 4 none, Cond.methodLink RX4 41 yX4_leak, Cond.instanceMethod yX4_leak, Cond.selects RX4 yX4_leak yX4_leak, Cond.code yX4_leak cX4_leak 2 (some .int)]
def wsX4_coldIn : List Cond := .code yX4_coldIn cX4_coldIn 2 (some .int) :: ((wsX4_coldIn_r1 ++ wsX4_coldIn_r2) ++ wsX40)
def wsX4_isAhead : List Cond := .code yX4_isAhead cX4_isAhead 7 (some .boolean) :: ([.fieldLink RX4 7 "BellowsRoundModel" "s" "[I", .methodLink RX4 33 yX4_of, .instanceMethod yX4_of, .selects RX4 yX4_of yX4_of, .initialized RX4, .code yX4_of cX4_of 3 (some .int), .methodLink RX4 62 yX4_size, .static yX4_size, .code yX4_size cX4_size 1 (some .int)] ++ wsX40)
def wsX4_next_r1 : List Cond := [Cond.constant RX4 109 (-1000000004), Cond.fieldLink RX4 7 "BellowsRoundModel" "s" "[I", Cond.methodLink RX4 110 yX4_coldDays, Cond.instanceMethod yX4_coldDays, Cond.selects RX4 yX4_coldDays yX4_coldDays, Cond.initialized RX4, Cond.code yX4_coldDays cX4_coldDays 4 (some .int), Cond.fieldLink RX4 19 "BellowsRoundModel" "tried" "[I", Cond.methodLink RX4 105 yX4_copies, Cond.static yX4_copies, Cond.code yX4_copies cX4_copies 3 none, Cond.methodLink RX4 45 yX4_isCold, Cond.instanceMethod yX4_isCold, Cond.selects RX4 yX4_isCold yX4_isCold, Cond.code yX4_isCold cX4_isCold 2 (some .boolean), Cond.methodLink RX4 33 yX4_of, Cond.instanceMethod yX4_of, Cond.selects RX4 yX4_of yX4_of, Cond.code yX4_of cX4_of 3 (some .int), Cond.methodLink RX4 49 yX4_ages, Cond.instanceMethod yX4_ages, Cond.selects RX4 yX4_ages yX4_ages, Cond.code yX4_ages cX4_ages 4 none, Cond.methodLink RX4 37 yX4_sets]
def wsX4_next_r2 : List Cond := [Cond.instanceMethod yX4_sets, Cond.selects RX4 yX4_sets yX4_sets, Cond.code yX4_sets cX4_sets 4 none, Cond.methodLink RX4 41 yX4_leak, Cond.instanceMethod yX4_leak, Cond.selects RX4 yX4_leak yX4_leak, Cond.code yX4_leak cX4_leak 2 (some .int), Cond.methodLink RX4 113 yX4_isAhead, Cond.instanceMethod yX4_isAhead, Cond.selects RX4 yX4_isAhead yX4_isAhead, Cond.code yX4_isAhead cX4_isAhead 7 (some .boolean), Cond.methodLink RX4 62 yX4_size, Cond.static yX4_size, Cond.code yX4_size cX4_size 1 (some .int)]
def wsX4_next : List Cond := .code yX4_next cX4_next 6 (some .int) :: ((wsX4_next_r1 ++ wsX4_next_r2) ++ wsX40)
def wsX4_nearest : List Cond := .code yX4_nearest cX4_nearest 5 (some .int) :: ([.constant RX4 109 (-1000000004), .fieldLink RX4 7 "BellowsRoundModel" "s" "[I", .methodLink RX4 33 yX4_of, .instanceMethod yX4_of, .selects RX4 yX4_of yX4_of, .initialized RX4, .code yX4_of cX4_of 3 (some .int)] ++ wsX40)
def wsX4_round_r1 : List Cond := [Cond.fieldLink RX4 7 "BellowsRoundModel" "s" "[I", Cond.constant RX4 57 (-1000000001), Cond.methodLink RX4 53 yX4_in, Cond.static yX4_in, Cond.initialized RX4, Cond.code yX4_in cX4_in 3 (some .boolean), Cond.methodLink RX4 117 yX4_nearest, Cond.instanceMethod yX4_nearest, Cond.selects RX4 yX4_nearest yX4_nearest, Cond.code yX4_nearest cX4_nearest 5 (some .int), Cond.constant RX4 109 (-1000000004), Cond.methodLink RX4 33 yX4_of, Cond.instanceMethod yX4_of, Cond.selects RX4 yX4_of yX4_of, Cond.code yX4_of cX4_of 3 (some .int), Cond.methodLink RX4 68 yX4_hoursBetween, Cond.static yX4_hoursBetween, Cond.code yX4_hoursBetween cX4_hoursBetween 2 (some .int), Cond.methodLink RX4 62 yX4_size, Cond.static yX4_size, Cond.code yX4_size cX4_size 1 (some .int), Cond.methodLink RX4 65 yX4_tens, Cond.static yX4_tens, Cond.code yX4_tens cX4_tens 1 (some .int)]
def wsX4_round_r2 : List Cond := [Cond.methodLink RX4 72 yX4_hoursOf, Cond.static yX4_hoursOf, Cond.code yX4_hoursOf cX4_hoursOf 1 (some .int), Cond.methodLink RX4 75 yX4_leatherOf, Cond.instanceMethod yX4_leatherOf, Cond.selects RX4 yX4_leatherOf yX4_leatherOf, Cond.code yX4_leatherOf cX4_leatherOf 3 (some .int), Cond.methodLink RX4 78 yX4_owes, Cond.instanceMethod yX4_owes, Cond.selects RX4 yX4_owes yX4_owes, Cond.code yX4_owes cX4_owes 3 (some .int)]
def wsX4_round : List Cond := .code yX4_round cX4_round 10 (some .int) :: ((wsX4_round_r1 ++ wsX4_round_r2) ++ wsX40)
def wsX4_sum : List Cond := .code yX4_sum cX4_sum 4 (some .int) :: ([.fieldLink RX4 7 "BellowsRoundModel" "s" "[I", .methodLink RX4 33 yX4_of, .instanceMethod yX4_of, .selects RX4 yX4_of yX4_of, .initialized RX4, .code yX4_of cX4_of 3 (some .int)] ++ wsX40)
def wsJxf58ca_isNaN_12338 : List Cond := .code yJxf58ca_isNaN_12338 cJxf58ca_isNaN_12338 1 (some .boolean) :: ([])
def wsJxf58ca_floatToIntBits_5c35a : List Cond := .code yJxf58ca_floatToIntBits_5c35a cJxf58ca_floatToIntBits_5c35a 1 (some .int) :: ([.methodLink RJxf58ca 74 ⟨"java/lang/Float", "floatToRawIntBits", "(F)I"⟩, .native ⟨"java/lang/Float", "floatToRawIntBits", "(F)I"⟩, .static ⟨"java/lang/Float", "floatToRawIntBits", "(F)I"⟩, .initialized "java/lang/Float", .constant RJxf58ca 77 (2143289344), .methodLink RJxf58ca 59 yJxf58ca_isNaN_12338, .static yJxf58ca_isNaN_12338, .initialized RJxf58ca, .code yJxf58ca_isNaN_12338 cJxf58ca_isNaN_12338 1 (some .boolean)])
def wsX4_mean : List Cond := .code yX4_mean cX4_mean 2 (some .int) :: ([.fieldLink RX4 7 "BellowsRoundModel" "s" "[I", .constant RX4 109 (-1000000004), .methodLink RX4 120 yX4_sum, .instanceMethod yX4_sum, .selects RX4 yX4_sum yX4_sum, .initialized RX4, .code yX4_sum cX4_sum 4 (some .int), .methodLink RX4 33 yX4_of, .instanceMethod yX4_of, .selects RX4 yX4_of yX4_of, .code yX4_of cX4_of 3 (some .int), .methodLink RX4 123 yJxf58ca_floatToIntBits_5c35a, .static yJxf58ca_floatToIntBits_5c35a, .initialized RJxf58ca, .code yJxf58ca_floatToIntBits_5c35a cJxf58ca_floatToIntBits_5c35a 1 (some .int), .methodLink RJxf58ca 74 ⟨"java/lang/Float", "floatToRawIntBits", "(F)I"⟩, .native ⟨"java/lang/Float", "floatToRawIntBits", "(F)I"⟩, .static ⟨"java/lang/Float", "floatToRawIntBits", "(F)I"⟩, .initialized "java/lang/Float", .constant RJxf58ca 77 (2143289344), .methodLink RJxf58ca 59 yJxf58ca_isNaN_12338, .static yJxf58ca_isNaN_12338, .code yJxf58ca_isNaN_12338 cJxf58ca_isNaN_12338 1 (some .boolean)] ++ wsX40)
def wsX4_count : List Cond := .code yX4_count cX4_count 2 (some .int) :: ([.fieldLink RX4 7 "BellowsRoundModel" "s" "[I", .fieldLink RX4 29 "BellowsRoundModel" "pasts" "I", .fieldLink RX4 129 "BellowsRoundModel" "typed" "I", .constant RX4 57 (-1000000001), .methodLink RX4 120 yX4_sum, .instanceMethod yX4_sum, .selects RX4 yX4_sum yX4_sum, .initialized RX4, .code yX4_sum cX4_sum 4 (some .int), .methodLink RX4 33 yX4_of, .instanceMethod yX4_of, .selects RX4 yX4_of yX4_of, .code yX4_of cX4_of 3 (some .int), .methodLink RX4 94 yX4_coldOnes, .instanceMethod yX4_coldOnes, .selects RX4 yX4_coldOnes yX4_coldOnes, .code yX4_coldOnes cX4_coldOnes 3 (some .int), .methodLink RX4 45 yX4_isCold, .instanceMethod yX4_isCold, .selects RX4 yX4_isCold yX4_isCold, .code yX4_isCold cX4_isCold 2 (some .boolean), .methodLink RX4 53 yX4_in, .static yX4_in, .code yX4_in cX4_in 3 (some .boolean)] ++ wsX40)
def wsX4_undo : List Cond := .code yX4_undo cX4_undo 2 (some .int) :: ([.fieldLink RX4 29 "BellowsRoundModel" "pasts" "I", .constant RX4 71 (-1000000002), .fieldLink RX4 7 "BellowsRoundModel" "s" "[I", .fieldLink RX4 13 "BellowsRoundModel" "past" "[I"] ++ wsX40)
def wsX4_type : List Cond := .code yX4_type cX4_type 2 (some .int) :: ([.constant RX4 57 (-1000000001), .fieldLink RX4 129 "BellowsRoundModel" "typed" "I", .constant RX4 58 (-1000000003), .fieldLink RX4 22 "BellowsRoundModel" "text" "[I", .methodLink RX4 53 yX4_in, .static yX4_in, .initialized RX4, .code yX4_in cX4_in 3 (some .boolean)] ++ wsX40)
def wsX4_clearText : List Cond := .code yX4_clearText cX4_clearText 2 (some .int) :: ([.fieldLink RX4 129 "BellowsRoundModel" "typed" "I"] ++ wsX40)
def wsX4_isAt : List Cond := .code yX4_isAt cX4_isAt 3 (some .boolean) :: ([.fieldLink RX4 132 "BellowsRoundModel" "spot" "I", .fieldLink RX4 129 "BellowsRoundModel" "typed" "I", .fieldLink RX4 22 "BellowsRoundModel" "text" "[I", .methodLink RX4 53 yX4_in, .static yX4_in, .initialized RX4, .code yX4_in cX4_in 3 (some .boolean)] ++ wsX40)
def wsX4_reads : List Cond := .code yX4_reads cX4_reads 3 (some .boolean) :: ([.fieldLink RX4 22 "BellowsRoundModel" "text" "[I", .fieldLink RX4 132 "BellowsRoundModel" "spot" "I", .fieldLink RX4 138 "BellowsRoundModel" "order" "I", .fieldLink RX4 141 "BellowsRoundModel" "number" "I", .methodLink RX4 135 yX4_isAt, .instanceMethod yX4_isAt, .selects RX4 yX4_isAt yX4_isAt, .initialized RX4, .code yX4_isAt cX4_isAt 3 (some .boolean), .fieldLink RX4 129 "BellowsRoundModel" "typed" "I", .methodLink RX4 53 yX4_in, .static yX4_in, .code yX4_in cX4_in 3 (some .boolean)] ++ wsX40)
def wsX4_calls_r1 : List Cond := [Cond.fieldLink RX4 138 "BellowsRoundModel" "order" "I", Cond.fieldLink RX4 141 "BellowsRoundModel" "number" "I", Cond.methodLink RX4 144 yX4_walk, Cond.instanceMethod yX4_walk, Cond.selects RX4 yX4_walk yX4_walk, Cond.initialized RX4, Cond.code yX4_walk cX4_walk 3 (some .int), Cond.constant RX4 57 (-1000000001), Cond.fieldLink RX4 7 "BellowsRoundModel" "s" "[I", Cond.constant RX4 71 (-1000000002), Cond.methodLink RX4 53 yX4_in, Cond.static yX4_in, Cond.code yX4_in cX4_in 3 (some .boolean), Cond.methodLink RX4 68 yX4_hoursBetween, Cond.static yX4_hoursBetween, Cond.code yX4_hoursBetween cX4_hoursBetween 2 (some .int), Cond.methodLink RX4 62 yX4_size, Cond.static yX4_size, Cond.code yX4_size cX4_size 1 (some .int), Cond.methodLink RX4 65 yX4_tens, Cond.static yX4_tens, Cond.code yX4_tens cX4_tens 1 (some .int), Cond.methodLink RX4 59 yX4_changes, Cond.instanceMethod yX4_changes]
def wsX4_calls_r2 : List Cond := [Cond.selects RX4 yX4_changes yX4_changes, Cond.code yX4_changes cX4_changes 2 none, Cond.fieldLink RX4 25 "BellowsRoundModel" "runs" "Z", Cond.fieldLink RX4 29 "BellowsRoundModel" "pasts" "I", Cond.fieldLink RX4 13 "BellowsRoundModel" "past" "[I", Cond.methodLink RX4 147 yX4_buy, Cond.instanceMethod yX4_buy, Cond.selects RX4 yX4_buy yX4_buy, Cond.code yX4_buy cX4_buy 2 (some .int), Cond.constant RX4 58 (-1000000003), Cond.methodLink RX4 150 yX4_patch, Cond.instanceMethod yX4_patch, Cond.selects RX4 yX4_patch yX4_patch, Cond.code yX4_patch cX4_patch 2 (some .int), Cond.methodLink RX4 81 yX4_isSmithy, Cond.instanceMethod yX4_isSmithy, Cond.selects RX4 yX4_isSmithy yX4_isSmithy, Cond.code yX4_isSmithy cX4_isSmithy 2 (some .boolean), Cond.methodLink RX4 84 yX4_whyNot, Cond.instanceMethod yX4_whyNot, Cond.selects RX4 yX4_whyNot yX4_whyNot, Cond.code yX4_whyNot cX4_whyNot 3 (some .int), Cond.methodLink RX4 33 yX4_of, Cond.instanceMethod yX4_of]
def wsX4_calls_r3 : List Cond := [Cond.selects RX4 yX4_of yX4_of, Cond.code yX4_of cX4_of 3 (some .int), Cond.methodLink RX4 72 yX4_hoursOf, Cond.static yX4_hoursOf, Cond.code yX4_hoursOf cX4_hoursOf 1 (some .int), Cond.methodLink RX4 75 yX4_leatherOf, Cond.instanceMethod yX4_leatherOf, Cond.selects RX4 yX4_leatherOf yX4_leatherOf, Cond.code yX4_leatherOf cX4_leatherOf 3 (some .int), Cond.methodLink RX4 87 yX4_mends, Cond.instanceMethod yX4_mends, Cond.selects RX4 yX4_mends yX4_mends, Cond.code yX4_mends cX4_mends 4 none, Cond.methodLink RX4 78 yX4_owes, Cond.instanceMethod yX4_owes, Cond.selects RX4 yX4_owes yX4_owes, Cond.code yX4_owes cX4_owes 3 (some .int), Cond.methodLink RX4 37 yX4_sets, Cond.instanceMethod yX4_sets, Cond.selects RX4 yX4_sets yX4_sets, Cond.code yX4_sets cX4_sets 4 none, Cond.methodLink RX4 153 yX4_hide, Cond.instanceMethod yX4_hide, Cond.selects RX4 yX4_hide yX4_hide]
def wsX4_calls_r4 : List Cond := [Cond.code yX4_hide cX4_hide 2 (some .int), Cond.methodLink RX4 156 yX4_collect, Cond.instanceMethod yX4_collect, Cond.selects RX4 yX4_collect yX4_collect, Cond.code yX4_collect cX4_collect 3 (some .int), Cond.methodLink RX4 45 yX4_isCold, Cond.instanceMethod yX4_isCold, Cond.selects RX4 yX4_isCold yX4_isCold, Cond.code yX4_isCold cX4_isCold 2 (some .boolean), Cond.methodLink RX4 159 yX4_end, Cond.instanceMethod yX4_end, Cond.selects RX4 yX4_end yX4_end, Cond.code yX4_end cX4_end 3 (some .int), Cond.methodLink RX4 91 yX4_ends, Cond.instanceMethod yX4_ends, Cond.selects RX4 yX4_ends yX4_ends, Cond.code yX4_ends cX4_ends 2 none, Cond.methodLink RX4 49 yX4_ages, Cond.instanceMethod yX4_ages, Cond.selects RX4 yX4_ages yX4_ages, Cond.code yX4_ages cX4_ages 4 none, Cond.methodLink RX4 41 yX4_leak, Cond.instanceMethod yX4_leak, Cond.selects RX4 yX4_leak yX4_leak]
def wsX4_calls_r5 : List Cond := [Cond.code yX4_leak cX4_leak 2 (some .int), Cond.methodLink RX4 94 yX4_coldOnes, Cond.instanceMethod yX4_coldOnes, Cond.selects RX4 yX4_coldOnes yX4_coldOnes, Cond.code yX4_coldOnes cX4_coldOnes 3 (some .int), Cond.methodLink RX4 98 yX4_ones, Cond.static yX4_ones, Cond.code yX4_ones cX4_ones 3 (some .int)]
def wsX4_calls : List Cond := .code yX4_calls cX4_calls 1 (some .int) :: ((wsX4_calls_r1 ++ (wsX4_calls_r2 ++ (wsX4_calls_r3 ++ (wsX4_calls_r4 ++ wsX4_calls_r5)))) ++ wsX40)
def wsX4_plays_r1 : List Cond := [Cond.fieldLink RX4 25 "BellowsRoundModel" "runs" "Z", Cond.fieldLink RX4 132 "BellowsRoundModel" "spot" "I", Cond.fieldLink RX4 162 "BellowsRoundModel" "from" "I", Cond.fieldLink RX4 165 "BellowsRoundModel" "orders" "I", Cond.fieldLink RX4 129 "BellowsRoundModel" "typed" "I", Cond.fieldLink RX4 175 "BellowsRoundModel" "reason" "I", Cond.fieldLink RX4 178 "BellowsRoundModel" "cause" "I", Cond.methodLink RX4 168 yX4_reads, Cond.instanceMethod yX4_reads, Cond.selects RX4 yX4_reads yX4_reads, Cond.initialized RX4, Cond.code yX4_reads cX4_reads 3 (some .boolean), Cond.fieldLink RX4 22 "BellowsRoundModel" "text" "[I", Cond.fieldLink RX4 138 "BellowsRoundModel" "order" "I", Cond.fieldLink RX4 141 "BellowsRoundModel" "number" "I", Cond.methodLink RX4 135 yX4_isAt, Cond.instanceMethod yX4_isAt, Cond.selects RX4 yX4_isAt yX4_isAt, Cond.code yX4_isAt cX4_isAt 3 (some .boolean), Cond.methodLink RX4 53 yX4_in, Cond.static yX4_in, Cond.code yX4_in cX4_in 3 (some .boolean), Cond.methodLink RX4 172 yX4_calls, Cond.instanceMethod yX4_calls]
def wsX4_plays_r2 : List Cond := [Cond.selects RX4 yX4_calls yX4_calls, Cond.code yX4_calls cX4_calls 1 (some .int), Cond.methodLink RX4 144 yX4_walk, Cond.instanceMethod yX4_walk, Cond.selects RX4 yX4_walk yX4_walk, Cond.code yX4_walk cX4_walk 3 (some .int), Cond.constant RX4 57 (-1000000001), Cond.fieldLink RX4 7 "BellowsRoundModel" "s" "[I", Cond.constant RX4 71 (-1000000002), Cond.methodLink RX4 68 yX4_hoursBetween, Cond.static yX4_hoursBetween, Cond.code yX4_hoursBetween cX4_hoursBetween 2 (some .int), Cond.methodLink RX4 62 yX4_size, Cond.static yX4_size, Cond.code yX4_size cX4_size 1 (some .int), Cond.methodLink RX4 65 yX4_tens, Cond.static yX4_tens, Cond.code yX4_tens cX4_tens 1 (some .int), Cond.methodLink RX4 59 yX4_changes, Cond.instanceMethod yX4_changes, Cond.selects RX4 yX4_changes yX4_changes, Cond.code yX4_changes cX4_changes 2 none, Cond.fieldLink RX4 29 "BellowsRoundModel" "pasts" "I", Cond.fieldLink RX4 13 "BellowsRoundModel" "past" "[I"]
def wsX4_plays_r3 : List Cond := [Cond.methodLink RX4 147 yX4_buy, Cond.instanceMethod yX4_buy, Cond.selects RX4 yX4_buy yX4_buy, Cond.code yX4_buy cX4_buy 2 (some .int), Cond.constant RX4 58 (-1000000003), Cond.methodLink RX4 150 yX4_patch, Cond.instanceMethod yX4_patch, Cond.selects RX4 yX4_patch yX4_patch, Cond.code yX4_patch cX4_patch 2 (some .int), Cond.methodLink RX4 81 yX4_isSmithy, Cond.instanceMethod yX4_isSmithy, Cond.selects RX4 yX4_isSmithy yX4_isSmithy, Cond.code yX4_isSmithy cX4_isSmithy 2 (some .boolean), Cond.methodLink RX4 84 yX4_whyNot, Cond.instanceMethod yX4_whyNot, Cond.selects RX4 yX4_whyNot yX4_whyNot, Cond.code yX4_whyNot cX4_whyNot 3 (some .int), Cond.methodLink RX4 33 yX4_of, Cond.instanceMethod yX4_of, Cond.selects RX4 yX4_of yX4_of, Cond.code yX4_of cX4_of 3 (some .int), Cond.methodLink RX4 72 yX4_hoursOf, Cond.static yX4_hoursOf, Cond.code yX4_hoursOf cX4_hoursOf 1 (some .int)]
def wsX4_plays_r4 : List Cond := [Cond.methodLink RX4 75 yX4_leatherOf, Cond.instanceMethod yX4_leatherOf, Cond.selects RX4 yX4_leatherOf yX4_leatherOf, Cond.code yX4_leatherOf cX4_leatherOf 3 (some .int), Cond.methodLink RX4 87 yX4_mends, Cond.instanceMethod yX4_mends, Cond.selects RX4 yX4_mends yX4_mends, Cond.code yX4_mends cX4_mends 4 none, Cond.methodLink RX4 78 yX4_owes, Cond.instanceMethod yX4_owes, Cond.selects RX4 yX4_owes yX4_owes, Cond.code yX4_owes cX4_owes 3 (some .int), Cond.methodLink RX4 37 yX4_sets, Cond.instanceMethod yX4_sets, Cond.selects RX4 yX4_sets yX4_sets, Cond.code yX4_sets cX4_sets 4 none, Cond.methodLink RX4 153 yX4_hide, Cond.instanceMethod yX4_hide, Cond.selects RX4 yX4_hide yX4_hide, Cond.code yX4_hide cX4_hide 2 (some .int), Cond.methodLink RX4 156 yX4_collect, Cond.instanceMethod yX4_collect, Cond.selects RX4 yX4_collect yX4_collect, Cond.code yX4_collect cX4_collect 3 (some .int)]
def wsX4_plays_r5 : List Cond := [Cond.methodLink RX4 45 yX4_isCold, Cond.instanceMethod yX4_isCold, Cond.selects RX4 yX4_isCold yX4_isCold, Cond.code yX4_isCold cX4_isCold 2 (some .boolean), Cond.methodLink RX4 159 yX4_end, Cond.instanceMethod yX4_end, Cond.selects RX4 yX4_end yX4_end, Cond.code yX4_end cX4_end 3 (some .int), Cond.methodLink RX4 91 yX4_ends, Cond.instanceMethod yX4_ends, Cond.selects RX4 yX4_ends yX4_ends, Cond.code yX4_ends cX4_ends 2 none, Cond.methodLink RX4 49 yX4_ages, Cond.instanceMethod yX4_ages, Cond.selects RX4 yX4_ages yX4_ages, Cond.code yX4_ages cX4_ages 4 none, Cond.methodLink RX4 41 yX4_leak, Cond.instanceMethod yX4_leak, Cond.selects RX4 yX4_leak yX4_leak, Cond.code yX4_leak cX4_leak 2 (some .int), Cond.methodLink RX4 94 yX4_coldOnes, Cond.instanceMethod yX4_coldOnes, Cond.selects RX4 yX4_coldOnes yX4_coldOnes, Cond.code yX4_coldOnes cX4_coldOnes 3 (some .int)]
def wsX4_plays_r6 : List Cond := [Cond.methodLink RX4 98 yX4_ones, Cond.static yX4_ones, Cond.code yX4_ones cX4_ones 3 (some .int)]
def wsX4_plays : List Cond := .code yX4_plays cX4_plays 4 (some .boolean) :: ((wsX4_plays_r1 ++ (wsX4_plays_r2 ++ (wsX4_plays_r3 ++ (wsX4_plays_r4 ++ (wsX4_plays_r5 ++ wsX4_plays_r6))))) ++ wsX40)
def wsX4_fault_r1 : List Cond := [Cond.constant RX4 57 (-1000000001), Cond.fieldLink RX4 7 "BellowsRoundModel" "s" "[I", Cond.fieldLink RX4 16 "BellowsRoundModel" "held" "[I", Cond.constant RX4 109 (-1000000004), Cond.fieldLink RX4 162 "BellowsRoundModel" "from" "I", Cond.fieldLink RX4 175 "BellowsRoundModel" "reason" "I", Cond.fieldLink RX4 178 "BellowsRoundModel" "cause" "I", Cond.methodLink RX4 53 yX4_in, Cond.static yX4_in, Cond.initialized RX4, Cond.code yX4_in cX4_in 3 (some .boolean), Cond.methodLink RX4 105 yX4_copies, Cond.static yX4_copies, Cond.code yX4_copies cX4_copies 3 none, Cond.methodLink RX4 181 yX4_plays, Cond.instanceMethod yX4_plays, Cond.selects RX4 yX4_plays yX4_plays, Cond.code yX4_plays cX4_plays 4 (some .boolean), Cond.fieldLink RX4 25 "BellowsRoundModel" "runs" "Z", Cond.fieldLink RX4 132 "BellowsRoundModel" "spot" "I", Cond.fieldLink RX4 165 "BellowsRoundModel" "orders" "I", Cond.fieldLink RX4 129 "BellowsRoundModel" "typed" "I", Cond.methodLink RX4 168 yX4_reads, Cond.instanceMethod yX4_reads]
def wsX4_fault_r2 : List Cond := [Cond.selects RX4 yX4_reads yX4_reads, Cond.code yX4_reads cX4_reads 3 (some .boolean), Cond.fieldLink RX4 22 "BellowsRoundModel" "text" "[I", Cond.fieldLink RX4 138 "BellowsRoundModel" "order" "I", Cond.fieldLink RX4 141 "BellowsRoundModel" "number" "I", Cond.methodLink RX4 135 yX4_isAt, Cond.instanceMethod yX4_isAt, Cond.selects RX4 yX4_isAt yX4_isAt, Cond.code yX4_isAt cX4_isAt 3 (some .boolean), Cond.methodLink RX4 172 yX4_calls, Cond.instanceMethod yX4_calls, Cond.selects RX4 yX4_calls yX4_calls, Cond.code yX4_calls cX4_calls 1 (some .int), Cond.methodLink RX4 144 yX4_walk, Cond.instanceMethod yX4_walk, Cond.selects RX4 yX4_walk yX4_walk, Cond.code yX4_walk cX4_walk 3 (some .int), Cond.constant RX4 71 (-1000000002), Cond.methodLink RX4 68 yX4_hoursBetween, Cond.static yX4_hoursBetween, Cond.code yX4_hoursBetween cX4_hoursBetween 2 (some .int), Cond.methodLink RX4 62 yX4_size, Cond.static yX4_size, Cond.code yX4_size cX4_size 1 (some .int)]
def wsX4_fault_r3 : List Cond := [Cond.methodLink RX4 65 yX4_tens, Cond.static yX4_tens, Cond.code yX4_tens cX4_tens 1 (some .int), Cond.methodLink RX4 59 yX4_changes, Cond.instanceMethod yX4_changes, Cond.selects RX4 yX4_changes yX4_changes, Cond.code yX4_changes cX4_changes 2 none, Cond.fieldLink RX4 29 "BellowsRoundModel" "pasts" "I", Cond.fieldLink RX4 13 "BellowsRoundModel" "past" "[I", Cond.methodLink RX4 147 yX4_buy, Cond.instanceMethod yX4_buy, Cond.selects RX4 yX4_buy yX4_buy, Cond.code yX4_buy cX4_buy 2 (some .int), Cond.constant RX4 58 (-1000000003), Cond.methodLink RX4 150 yX4_patch, Cond.instanceMethod yX4_patch, Cond.selects RX4 yX4_patch yX4_patch, Cond.code yX4_patch cX4_patch 2 (some .int), Cond.methodLink RX4 81 yX4_isSmithy, Cond.instanceMethod yX4_isSmithy, Cond.selects RX4 yX4_isSmithy yX4_isSmithy, Cond.code yX4_isSmithy cX4_isSmithy 2 (some .boolean), Cond.methodLink RX4 84 yX4_whyNot, Cond.instanceMethod yX4_whyNot]
def wsX4_fault_r4 : List Cond := [Cond.selects RX4 yX4_whyNot yX4_whyNot, Cond.code yX4_whyNot cX4_whyNot 3 (some .int), Cond.methodLink RX4 33 yX4_of, Cond.instanceMethod yX4_of, Cond.selects RX4 yX4_of yX4_of, Cond.code yX4_of cX4_of 3 (some .int), Cond.methodLink RX4 72 yX4_hoursOf, Cond.static yX4_hoursOf, Cond.code yX4_hoursOf cX4_hoursOf 1 (some .int), Cond.methodLink RX4 75 yX4_leatherOf, Cond.instanceMethod yX4_leatherOf, Cond.selects RX4 yX4_leatherOf yX4_leatherOf, Cond.code yX4_leatherOf cX4_leatherOf 3 (some .int), Cond.methodLink RX4 87 yX4_mends, Cond.instanceMethod yX4_mends, Cond.selects RX4 yX4_mends yX4_mends, Cond.code yX4_mends cX4_mends 4 none, Cond.methodLink RX4 78 yX4_owes, Cond.instanceMethod yX4_owes, Cond.selects RX4 yX4_owes yX4_owes, Cond.code yX4_owes cX4_owes 3 (some .int), Cond.methodLink RX4 37 yX4_sets, Cond.instanceMethod yX4_sets, Cond.selects RX4 yX4_sets yX4_sets]
def wsX4_fault_r5 : List Cond := [Cond.code yX4_sets cX4_sets 4 none, Cond.methodLink RX4 153 yX4_hide, Cond.instanceMethod yX4_hide, Cond.selects RX4 yX4_hide yX4_hide, Cond.code yX4_hide cX4_hide 2 (some .int), Cond.methodLink RX4 156 yX4_collect, Cond.instanceMethod yX4_collect, Cond.selects RX4 yX4_collect yX4_collect, Cond.code yX4_collect cX4_collect 3 (some .int), Cond.methodLink RX4 45 yX4_isCold, Cond.instanceMethod yX4_isCold, Cond.selects RX4 yX4_isCold yX4_isCold, Cond.code yX4_isCold cX4_isCold 2 (some .boolean), Cond.methodLink RX4 159 yX4_end, Cond.instanceMethod yX4_end, Cond.selects RX4 yX4_end yX4_end, Cond.code yX4_end cX4_end 3 (some .int), Cond.methodLink RX4 91 yX4_ends, Cond.instanceMethod yX4_ends, Cond.selects RX4 yX4_ends yX4_ends, Cond.code yX4_ends cX4_ends 2 none, Cond.methodLink RX4 49 yX4_ages, Cond.instanceMethod yX4_ages, Cond.selects RX4 yX4_ages yX4_ages]
def wsX4_fault_r6 : List Cond := [Cond.code yX4_ages cX4_ages 4 none, Cond.methodLink RX4 41 yX4_leak, Cond.instanceMethod yX4_leak, Cond.selects RX4 yX4_leak yX4_leak, Cond.code yX4_leak cX4_leak 2 (some .int), Cond.methodLink RX4 94 yX4_coldOnes, Cond.instanceMethod yX4_coldOnes, Cond.selects RX4 yX4_coldOnes yX4_coldOnes, Cond.code yX4_coldOnes cX4_coldOnes 3 (some .int), Cond.methodLink RX4 98 yX4_ones, Cond.static yX4_ones, Cond.code yX4_ones cX4_ones 3 (some .int)]
def wsX4_fault : List Cond := .code yX4_fault cX4_fault 3 (some .int) :: ((wsX4_fault_r1 ++ (wsX4_fault_r2 ++ (wsX4_fault_r3 ++ (wsX4_fault_r4 ++ (wsX4_fault_r5 ++ wsX4_fault_r6))))) ++ wsX40)
def wsX4_play_r1 : List Cond := [Cond.fieldLink RX4 7 "BellowsRoundModel" "s" "[I", Cond.fieldLink RX4 16 "BellowsRoundModel" "held" "[I", Cond.constant RX4 71 (-1000000002), Cond.fieldLink RX4 165 "BellowsRoundModel" "orders" "I", Cond.constant RX4 109 (-1000000004), Cond.methodLink RX4 105 yX4_copies, Cond.static yX4_copies, Cond.initialized RX4, Cond.code yX4_copies cX4_copies 3 none, Cond.methodLink RX4 181 yX4_plays, Cond.instanceMethod yX4_plays, Cond.selects RX4 yX4_plays yX4_plays, Cond.code yX4_plays cX4_plays 4 (some .boolean), Cond.fieldLink RX4 25 "BellowsRoundModel" "runs" "Z", Cond.fieldLink RX4 132 "BellowsRoundModel" "spot" "I", Cond.fieldLink RX4 162 "BellowsRoundModel" "from" "I", Cond.fieldLink RX4 129 "BellowsRoundModel" "typed" "I", Cond.fieldLink RX4 175 "BellowsRoundModel" "reason" "I", Cond.fieldLink RX4 178 "BellowsRoundModel" "cause" "I", Cond.methodLink RX4 168 yX4_reads, Cond.instanceMethod yX4_reads, Cond.selects RX4 yX4_reads yX4_reads, Cond.code yX4_reads cX4_reads 3 (some .boolean), Cond.fieldLink RX4 22 "BellowsRoundModel" "text" "[I"]
def wsX4_play_r2 : List Cond := [Cond.fieldLink RX4 138 "BellowsRoundModel" "order" "I", Cond.fieldLink RX4 141 "BellowsRoundModel" "number" "I", Cond.methodLink RX4 135 yX4_isAt, Cond.instanceMethod yX4_isAt, Cond.selects RX4 yX4_isAt yX4_isAt, Cond.code yX4_isAt cX4_isAt 3 (some .boolean), Cond.methodLink RX4 53 yX4_in, Cond.static yX4_in, Cond.code yX4_in cX4_in 3 (some .boolean), Cond.methodLink RX4 172 yX4_calls, Cond.instanceMethod yX4_calls, Cond.selects RX4 yX4_calls yX4_calls, Cond.code yX4_calls cX4_calls 1 (some .int), Cond.methodLink RX4 144 yX4_walk, Cond.instanceMethod yX4_walk, Cond.selects RX4 yX4_walk yX4_walk, Cond.code yX4_walk cX4_walk 3 (some .int), Cond.constant RX4 57 (-1000000001), Cond.methodLink RX4 68 yX4_hoursBetween, Cond.static yX4_hoursBetween, Cond.code yX4_hoursBetween cX4_hoursBetween 2 (some .int), Cond.methodLink RX4 62 yX4_size, Cond.static yX4_size, Cond.code yX4_size cX4_size 1 (some .int)]
def wsX4_play_r3 : List Cond := [Cond.methodLink RX4 65 yX4_tens, Cond.static yX4_tens, Cond.code yX4_tens cX4_tens 1 (some .int), Cond.methodLink RX4 59 yX4_changes, Cond.instanceMethod yX4_changes, Cond.selects RX4 yX4_changes yX4_changes, Cond.code yX4_changes cX4_changes 2 none, Cond.fieldLink RX4 29 "BellowsRoundModel" "pasts" "I", Cond.fieldLink RX4 13 "BellowsRoundModel" "past" "[I", Cond.methodLink RX4 147 yX4_buy, Cond.instanceMethod yX4_buy, Cond.selects RX4 yX4_buy yX4_buy, Cond.code yX4_buy cX4_buy 2 (some .int), Cond.constant RX4 58 (-1000000003), Cond.methodLink RX4 150 yX4_patch, Cond.instanceMethod yX4_patch, Cond.selects RX4 yX4_patch yX4_patch, Cond.code yX4_patch cX4_patch 2 (some .int), Cond.methodLink RX4 81 yX4_isSmithy, Cond.instanceMethod yX4_isSmithy, Cond.selects RX4 yX4_isSmithy yX4_isSmithy, Cond.code yX4_isSmithy cX4_isSmithy 2 (some .boolean), Cond.methodLink RX4 84 yX4_whyNot, Cond.instanceMethod yX4_whyNot]
def wsX4_play_r4 : List Cond := [Cond.selects RX4 yX4_whyNot yX4_whyNot, Cond.code yX4_whyNot cX4_whyNot 3 (some .int), Cond.methodLink RX4 33 yX4_of, Cond.instanceMethod yX4_of, Cond.selects RX4 yX4_of yX4_of, Cond.code yX4_of cX4_of 3 (some .int), Cond.methodLink RX4 72 yX4_hoursOf, Cond.static yX4_hoursOf, Cond.code yX4_hoursOf cX4_hoursOf 1 (some .int), Cond.methodLink RX4 75 yX4_leatherOf, Cond.instanceMethod yX4_leatherOf, Cond.selects RX4 yX4_leatherOf yX4_leatherOf, Cond.code yX4_leatherOf cX4_leatherOf 3 (some .int), Cond.methodLink RX4 87 yX4_mends, Cond.instanceMethod yX4_mends, Cond.selects RX4 yX4_mends yX4_mends, Cond.code yX4_mends cX4_mends 4 none, Cond.methodLink RX4 78 yX4_owes, Cond.instanceMethod yX4_owes, Cond.selects RX4 yX4_owes yX4_owes, Cond.code yX4_owes cX4_owes 3 (some .int), Cond.methodLink RX4 37 yX4_sets, Cond.instanceMethod yX4_sets, Cond.selects RX4 yX4_sets yX4_sets]
def wsX4_play_r5 : List Cond := [Cond.code yX4_sets cX4_sets 4 none, Cond.methodLink RX4 153 yX4_hide, Cond.instanceMethod yX4_hide, Cond.selects RX4 yX4_hide yX4_hide, Cond.code yX4_hide cX4_hide 2 (some .int), Cond.methodLink RX4 156 yX4_collect, Cond.instanceMethod yX4_collect, Cond.selects RX4 yX4_collect yX4_collect, Cond.code yX4_collect cX4_collect 3 (some .int), Cond.methodLink RX4 45 yX4_isCold, Cond.instanceMethod yX4_isCold, Cond.selects RX4 yX4_isCold yX4_isCold, Cond.code yX4_isCold cX4_isCold 2 (some .boolean), Cond.methodLink RX4 159 yX4_end, Cond.instanceMethod yX4_end, Cond.selects RX4 yX4_end yX4_end, Cond.code yX4_end cX4_end 3 (some .int), Cond.methodLink RX4 91 yX4_ends, Cond.instanceMethod yX4_ends, Cond.selects RX4 yX4_ends yX4_ends, Cond.code yX4_ends cX4_ends 2 none, Cond.methodLink RX4 49 yX4_ages, Cond.instanceMethod yX4_ages, Cond.selects RX4 yX4_ages yX4_ages]
def wsX4_play_r6 : List Cond := [Cond.code yX4_ages cX4_ages 4 none, Cond.methodLink RX4 41 yX4_leak, Cond.instanceMethod yX4_leak, Cond.selects RX4 yX4_leak yX4_leak, Cond.code yX4_leak cX4_leak 2 (some .int), Cond.methodLink RX4 94 yX4_coldOnes, Cond.instanceMethod yX4_coldOnes, Cond.selects RX4 yX4_coldOnes yX4_coldOnes, Cond.code yX4_coldOnes cX4_coldOnes 3 (some .int), Cond.methodLink RX4 98 yX4_ones, Cond.static yX4_ones, Cond.code yX4_ones cX4_ones 3 (some .int)]
def wsX4_play : List Cond := .code yX4_play cX4_play 2 (some .int) :: ((wsX4_play_r1 ++ (wsX4_play_r2 ++ (wsX4_play_r3 ++ (wsX4_play_r4 ++ (wsX4_play_r5 ++ wsX4_play_r6))))) ++ wsX40)
def wsJ9_abs_0f7a4 : List Cond := .code yJ9_abs_0f7a4 cJ9_abs_0f7a4 1 (some .int) :: ([])
def wsJ9_max_7cf53 : List Cond := .code yJ9_max_7cf53 cJ9_max_7cf53 2 (some .int) :: ([])
def wsJ9_min_7cf53 : List Cond := .code yJ9_min_7cf53 cJ9_min_7cf53 2 (some .int) :: ([])
end
section
theorem inJxf58ca : ∀ w ∈ wsJxf58ca0, w ∈ lw_tbl := by decide +kernel
theorem inJ6 : ∀ w ∈ wsJ60, w ∈ lw_tbl := by decide +kernel
theorem inJ9 : ∀ w ∈ wsJ90, w ∈ lw_tbl := by decide +kernel
theorem dX0_init_0 : decode cX0_init 0 = .ok (.aload_n 0, 1) := by decide +kernel
theorem dX0_init_1 : decode cX0_init 1 = .ok (.invokespecial 3, 3) := by decide +kernel
theorem dX0_init_4 : decode cX0_init 4 = .ok (.aload_n 0, 1) := by decide +kernel
theorem dX0_init_5 : decode cX0_init 5 = .ok (.bipush 60, 2) := by decide +kernel
theorem dX0_init_7 : decode cX0_init 7 = .ok (.newarray .char, 2) := by decide +kernel
theorem dX0_init_9 : decode cX0_init 9 = .ok (.putfield 9, 3) := by decide +kernel
theorem dX0_init_12 : decode cX0_init 12 = .ok (.return_, 1) := by decide +kernel
theorem dX0_append_0 : decode cX0_append 0 = .ok (.aload_n 0, 1) := by decide +kernel
theorem dX0_append_1 : decode cX0_append 1 = .ok (.getfield 15, 3) := by decide +kernel
theorem dX0_append_4 : decode cX0_append 4 = .ok (.ifCond .lt 15, 3) := by decide +kernel
theorem dX0_append_7 : decode cX0_append 7 = .ok (.aload_n 0, 1) := by decide +kernel
theorem dX0_append_8 : decode cX0_append 8 = .ok (.getfield 15, 3) := by decide +kernel
theorem dX0_append_11 : decode cX0_append 11 = .ok (.aload_n 0, 1) := by decide +kernel
theorem dX0_append_12 : decode cX0_append 12 = .ok (.getfield 9, 3) := by decide +kernel
theorem dX0_append_15 : decode cX0_append 15 = .ok (.arraylength, 1) := by decide +kernel
theorem dX0_append_16 : decode cX0_append 16 = .ok (.if_icmp .lt 6, 3) := by decide +kernel
theorem dX0_append_19 : decode cX0_append 19 = .ok (.ldc 19, 2) := by decide +kernel
theorem dX0_append_21 : decode cX0_append 21 = .ok (.ireturn, 1) := by decide +kernel
theorem dX0_append_22 : decode cX0_append 22 = .ok (.aload_n 0, 1) := by decide +kernel
theorem dX0_append_23 : decode cX0_append 23 = .ok (.getfield 9, 3) := by decide +kernel
theorem dX0_append_26 : decode cX0_append 26 = .ok (.aload_n 0, 1) := by decide +kernel
theorem dX0_append_27 : decode cX0_append 27 = .ok (.getfield 15, 3) := by decide +kernel
theorem dX0_append_30 : decode cX0_append 30 = .ok (.iload_n 1, 1) := by decide +kernel
theorem dX0_append_31 : decode cX0_append 31 = .ok (.castore, 1) := by decide +kernel
theorem dX0_append_32 : decode cX0_append 32 = .ok (.aload_n 0, 1) := by decide +kernel
theorem dX0_append_33 : decode cX0_append 33 = .ok (.dup, 1) := by decide +kernel
theorem dX0_append_34 : decode cX0_append 34 = .ok (.getfield 15, 3) := by decide +kernel
theorem dX0_append_37 : decode cX0_append 37 = .ok (.iconst 1, 1) := by decide +kernel
theorem dX0_append_38 : decode cX0_append 38 = .ok (.iadd, 1) := by decide +kernel
theorem dX0_append_39 : decode cX0_append 39 = .ok (.putfield 15, 3) := by decide +kernel
theorem dX0_append_42 : decode cX0_append 42 = .ok (.aload_n 0, 1) := by decide +kernel
theorem dX0_append_43 : decode cX0_append 43 = .ok (.getfield 15, 3) := by decide +kernel
theorem dX0_append_46 : decode cX0_append 46 = .ok (.ireturn, 1) := by decide +kernel
theorem dX0_characterAt_0 : decode cX0_characterAt 0 = .ok (.iload_n 1, 1) := by decide +kernel
theorem dX0_characterAt_1 : decode cX0_characterAt 1 = .ok (.ifCond .lt 20, 3) := by decide +kernel
theorem dX0_characterAt_4 : decode cX0_characterAt 4 = .ok (.iload_n 1, 1) := by decide +kernel
theorem dX0_characterAt_5 : decode cX0_characterAt 5 = .ok (.aload_n 0, 1) := by decide +kernel
theorem dX0_characterAt_6 : decode cX0_characterAt 6 = .ok (.getfield 15, 3) := by decide +kernel
theorem dX0_characterAt_9 : decode cX0_characterAt 9 = .ok (.if_icmp .ge 12, 3) := by decide +kernel
theorem dX0_characterAt_12 : decode cX0_characterAt 12 = .ok (.iload_n 1, 1) := by decide +kernel
theorem dX0_characterAt_13 : decode cX0_characterAt 13 = .ok (.aload_n 0, 1) := by decide +kernel
theorem dX0_characterAt_14 : decode cX0_characterAt 14 = .ok (.getfield 9, 3) := by decide +kernel
theorem dX0_characterAt_17 : decode cX0_characterAt 17 = .ok (.arraylength, 1) := by decide +kernel
theorem dX0_characterAt_18 : decode cX0_characterAt 18 = .ok (.if_icmp .lt 5, 3) := by decide +kernel
theorem dX0_characterAt_21 : decode cX0_characterAt 21 = .ok (.iconst (-1), 1) := by decide +kernel
theorem dX0_characterAt_22 : decode cX0_characterAt 22 = .ok (.ireturn, 1) := by decide +kernel
theorem dX0_characterAt_23 : decode cX0_characterAt 23 = .ok (.aload_n 0, 1) := by decide +kernel
theorem dX0_characterAt_24 : decode cX0_characterAt 24 = .ok (.getfield 9, 3) := by decide +kernel
theorem dX0_characterAt_27 : decode cX0_characterAt 27 = .ok (.iload_n 1, 1) := by decide +kernel
theorem dX0_characterAt_28 : decode cX0_characterAt 28 = .ok (.caload, 1) := by decide +kernel
theorem dX0_characterAt_29 : decode cX0_characterAt 29 = .ok (.ireturn, 1) := by decide +kernel
set_option maxRecDepth 20000 in
theorem ggX0_readOrder_X0_characterAt : GoodIn wsX0_readOrder wsX0_characterAt := goodIn_r _ [9, 10, 11, 18, 19, 20, 21, 22, 23] (by decide +kernel) (by decide +kernel)
set_option maxRecDepth 20000 in
theorem gX0_readOrder_X0_characterAt : GoodIn wsX0_readOrder (wsV RX0 20 RX0 yX0_characterAt wsX0_characterAt) := goodIn_app (goodIn_of _ (by decide +kernel)) ggX0_readOrder_X0_characterAt
set_option maxRecDepth 20000 in
theorem ggX0_readOrder_X0_isOrderLetter : GoodIn wsX0_readOrder wsX0_isOrderLetter := goodIn_r _ [14] (by decide +kernel) (by decide +kernel)
set_option maxRecDepth 20000 in
theorem gX0_readOrder_X0_isOrderLetter : GoodIn wsX0_readOrder (va_wsS RX0 27 yX0_isOrderLetter wsX0_isOrderLetter) := goodIn_app (goodIn_of _ (by decide +kernel)) ggX0_readOrder_X0_isOrderLetter
set_option maxRecDepth 20000 in
theorem ggX0_readOrder_X0_isDigit : GoodIn wsX0_readOrder wsX0_isDigit := goodIn_r _ [17] (by decide +kernel) (by decide +kernel)
set_option maxRecDepth 20000 in
theorem gX0_readOrder_X0_isDigit : GoodIn wsX0_readOrder (va_wsS RX0 37 yX0_isDigit wsX0_isDigit) := goodIn_app (goodIn_of _ (by decide +kernel)) ggX0_readOrder_X0_isDigit
theorem dX0_readOrder_0 : decode cX0_readOrder 0 = .ok (.aload_n 0, 1) := by decide +kernel
theorem dX0_readOrder_1 : decode cX0_readOrder 1 = .ok (.aload_n 0, 1) := by decide +kernel
theorem dX0_readOrder_2 : decode cX0_readOrder 2 = .ok (.iload_n 1, 1) := by decide +kernel
theorem dX0_readOrder_3 : decode cX0_readOrder 3 = .ok (.invokevirtual 20, 3) := by decide +kernel
theorem dX0_readOrder_6 : decode cX0_readOrder 6 = .ok (.putfield 24, 3) := by decide +kernel
theorem dX0_readOrder_9 : decode cX0_readOrder 9 = .ok (.aload_n 0, 1) := by decide +kernel
theorem dX0_readOrder_10 : decode cX0_readOrder 10 = .ok (.getfield 24, 3) := by decide +kernel
theorem dX0_readOrder_13 : decode cX0_readOrder 13 = .ok (.invokestatic 27, 3) := by decide +kernel
theorem dX0_readOrder_16 : decode cX0_readOrder 16 = .ok (.ifCond .ne 10, 3) := by decide +kernel
theorem dX0_readOrder_19 : decode cX0_readOrder 19 = .ok (.aload_n 0, 1) := by decide +kernel
theorem dX0_readOrder_20 : decode cX0_readOrder 20 = .ok (.iconst 0, 1) := by decide +kernel
theorem dX0_readOrder_21 : decode cX0_readOrder 21 = .ok (.putfield 31, 3) := by decide +kernel
theorem dX0_readOrder_24 : decode cX0_readOrder 24 = .ok (.iconst 0, 1) := by decide +kernel
theorem dX0_readOrder_25 : decode cX0_readOrder 25 = .ok (.ireturn, 1) := by decide +kernel
theorem dX0_readOrder_26 : decode cX0_readOrder 26 = .ok (.aload_n 0, 1) := by decide +kernel
theorem dX0_readOrder_27 : decode cX0_readOrder 27 = .ok (.iconst 0, 1) := by decide +kernel
theorem dX0_readOrder_28 : decode cX0_readOrder 28 = .ok (.putfield 34, 3) := by decide +kernel
theorem dX0_readOrder_31 : decode cX0_readOrder 31 = .ok (.iconst 0, 1) := by decide +kernel
theorem dX0_readOrder_32 : decode cX0_readOrder 32 = .ok (.istore_n 2, 1) := by decide +kernel
theorem dX0_readOrder_33 : decode cX0_readOrder 33 = .ok (.iload_n 2, 1) := by decide +kernel
theorem dX0_readOrder_34 : decode cX0_readOrder 34 = .ok (.iconst 3, 1) := by decide +kernel
theorem dX0_readOrder_35 : decode cX0_readOrder 35 = .ok (.if_icmp .ge 48, 3) := by decide +kernel
theorem dX0_readOrder_38 : decode cX0_readOrder 38 = .ok (.aload_n 0, 1) := by decide +kernel
theorem dX0_readOrder_39 : decode cX0_readOrder 39 = .ok (.iload_n 1, 1) := by decide +kernel
theorem dX0_readOrder_40 : decode cX0_readOrder 40 = .ok (.iconst 1, 1) := by decide +kernel
theorem dX0_readOrder_41 : decode cX0_readOrder 41 = .ok (.iadd, 1) := by decide +kernel
theorem dX0_readOrder_42 : decode cX0_readOrder 42 = .ok (.iload_n 2, 1) := by decide +kernel
theorem dX0_readOrder_43 : decode cX0_readOrder 43 = .ok (.iadd, 1) := by decide +kernel
theorem dX0_readOrder_44 : decode cX0_readOrder 44 = .ok (.invokevirtual 20, 3) := by decide +kernel
theorem dX0_readOrder_47 : decode cX0_readOrder 47 = .ok (.invokestatic 37, 3) := by decide +kernel
theorem dX0_readOrder_50 : decode cX0_readOrder 50 = .ok (.ifCond .eq 33, 3) := by decide +kernel
theorem dX0_readOrder_53 : decode cX0_readOrder 53 = .ok (.aload_n 0, 1) := by decide +kernel
theorem dX0_readOrder_54 : decode cX0_readOrder 54 = .ok (.aload_n 0, 1) := by decide +kernel
theorem dX0_readOrder_55 : decode cX0_readOrder 55 = .ok (.getfield 34, 3) := by decide +kernel
theorem dX0_readOrder_58 : decode cX0_readOrder 58 = .ok (.bipush 10, 2) := by decide +kernel
theorem dX0_readOrder_60 : decode cX0_readOrder 60 = .ok (.imul, 1) := by decide +kernel
theorem dX0_readOrder_61 : decode cX0_readOrder 61 = .ok (.aload_n 0, 1) := by decide +kernel
theorem dX0_readOrder_62 : decode cX0_readOrder 62 = .ok (.iload_n 1, 1) := by decide +kernel
theorem dX0_readOrder_63 : decode cX0_readOrder 63 = .ok (.iconst 1, 1) := by decide +kernel
theorem dX0_readOrder_64 : decode cX0_readOrder 64 = .ok (.iadd, 1) := by decide +kernel
theorem dX0_readOrder_65 : decode cX0_readOrder 65 = .ok (.iload_n 2, 1) := by decide +kernel
theorem dX0_readOrder_66 : decode cX0_readOrder 66 = .ok (.iadd, 1) := by decide +kernel
theorem dX0_readOrder_67 : decode cX0_readOrder 67 = .ok (.invokevirtual 20, 3) := by decide +kernel
theorem dX0_readOrder_70 : decode cX0_readOrder 70 = .ok (.iadd, 1) := by decide +kernel
theorem dX0_readOrder_71 : decode cX0_readOrder 71 = .ok (.bipush 48, 2) := by decide +kernel
theorem dX0_readOrder_73 : decode cX0_readOrder 73 = .ok (.isub, 1) := by decide +kernel
theorem dX0_readOrder_74 : decode cX0_readOrder 74 = .ok (.putfield 34, 3) := by decide +kernel
theorem dX0_readOrder_77 : decode cX0_readOrder 77 = .ok (.iinc 2 1, 3) := by decide +kernel
theorem dX0_readOrder_80 : decode cX0_readOrder 80 = .ok (.goto (-47), 3) := by decide +kernel
theorem dX0_readOrder_83 : decode cX0_readOrder 83 = .ok (.iload_n 2, 1) := by decide +kernel
theorem dX0_readOrder_84 : decode cX0_readOrder 84 = .ok (.ifCond .eq 17, 3) := by decide +kernel
theorem dX0_readOrder_87 : decode cX0_readOrder 87 = .ok (.aload_n 0, 1) := by decide +kernel
theorem dX0_readOrder_88 : decode cX0_readOrder 88 = .ok (.iload_n 1, 1) := by decide +kernel
theorem dX0_readOrder_89 : decode cX0_readOrder 89 = .ok (.iconst 1, 1) := by decide +kernel
theorem dX0_readOrder_90 : decode cX0_readOrder 90 = .ok (.iadd, 1) := by decide +kernel
theorem dX0_readOrder_91 : decode cX0_readOrder 91 = .ok (.iload_n 2, 1) := by decide +kernel
theorem dX0_readOrder_92 : decode cX0_readOrder 92 = .ok (.iadd, 1) := by decide +kernel
theorem dX0_readOrder_93 : decode cX0_readOrder 93 = .ok (.invokevirtual 20, 3) := by decide +kernel
theorem dX0_readOrder_96 : decode cX0_readOrder 96 = .ok (.bipush 59, 2) := by decide +kernel
theorem dX0_readOrder_98 : decode cX0_readOrder 98 = .ok (.if_icmp .eq 12, 3) := by decide +kernel
theorem dX0_readOrder_101 : decode cX0_readOrder 101 = .ok (.aload_n 0, 1) := by decide +kernel
theorem dX0_readOrder_102 : decode cX0_readOrder 102 = .ok (.iconst 1, 1) := by decide +kernel
theorem dX0_readOrder_103 : decode cX0_readOrder 103 = .ok (.iload_n 2, 1) := by decide +kernel
theorem dX0_readOrder_104 : decode cX0_readOrder 104 = .ok (.iadd, 1) := by decide +kernel
theorem dX0_readOrder_105 : decode cX0_readOrder 105 = .ok (.putfield 31, 3) := by decide +kernel
theorem dX0_readOrder_108 : decode cX0_readOrder 108 = .ok (.iconst 0, 1) := by decide +kernel
theorem dX0_readOrder_109 : decode cX0_readOrder 109 = .ok (.ireturn, 1) := by decide +kernel
theorem dX0_readOrder_110 : decode cX0_readOrder 110 = .ok (.aload_n 0, 1) := by decide +kernel
theorem dX0_readOrder_111 : decode cX0_readOrder 111 = .ok (.iload_n 1, 1) := by decide +kernel
theorem dX0_readOrder_112 : decode cX0_readOrder 112 = .ok (.iconst 2, 1) := by decide +kernel
theorem dX0_readOrder_113 : decode cX0_readOrder 113 = .ok (.iadd, 1) := by decide +kernel
theorem dX0_readOrder_114 : decode cX0_readOrder 114 = .ok (.iload_n 2, 1) := by decide +kernel
theorem dX0_readOrder_115 : decode cX0_readOrder 115 = .ok (.iadd, 1) := by decide +kernel
theorem dX0_readOrder_116 : decode cX0_readOrder 116 = .ok (.putfield 40, 3) := by decide +kernel
theorem dX0_readOrder_119 : decode cX0_readOrder 119 = .ok (.iconst 1, 1) := by decide +kernel
theorem dX0_readOrder_120 : decode cX0_readOrder 120 = .ok (.ireturn, 1) := by decide +kernel
theorem dX0_isOrderLetter_0 : decode cX0_isOrderLetter 0 = .ok (.iload_n 0, 1) := by decide +kernel
theorem dX0_isOrderLetter_1 : decode cX0_isOrderLetter 1 = .ok (.lookupswitch 61 #[(98, 59), (99, 59), (100, 59), (104, 59), (112, 59), (119, 59)], 59) := by decide +kernel
theorem dX0_isOrderLetter_60 : decode cX0_isOrderLetter 60 = .ok (.iconst 1, 1) := by decide +kernel
theorem dX0_isOrderLetter_61 : decode cX0_isOrderLetter 61 = .ok (.ireturn, 1) := by decide +kernel
theorem dX0_isOrderLetter_62 : decode cX0_isOrderLetter 62 = .ok (.iconst 0, 1) := by decide +kernel
theorem dX0_isOrderLetter_63 : decode cX0_isOrderLetter 63 = .ok (.ireturn, 1) := by decide +kernel
theorem dX0_isDigit_0 : decode cX0_isDigit 0 = .ok (.iload_n 0, 1) := by decide +kernel
theorem dX0_isDigit_1 : decode cX0_isDigit 1 = .ok (.bipush 48, 2) := by decide +kernel
theorem dX0_isDigit_3 : decode cX0_isDigit 3 = .ok (.if_icmp .lt 13, 3) := by decide +kernel
theorem dX0_isDigit_6 : decode cX0_isDigit 6 = .ok (.iload_n 0, 1) := by decide +kernel
theorem dX0_isDigit_7 : decode cX0_isDigit 7 = .ok (.bipush 57, 2) := by decide +kernel
theorem dX0_isDigit_9 : decode cX0_isDigit 9 = .ok (.if_icmp .gt 7, 3) := by decide +kernel
theorem dX0_isDigit_12 : decode cX0_isDigit 12 = .ok (.iconst 1, 1) := by decide +kernel
theorem dX0_isDigit_13 : decode cX0_isDigit 13 = .ok (.goto 4, 3) := by decide +kernel
theorem dX0_isDigit_16 : decode cX0_isDigit 16 = .ok (.iconst 0, 1) := by decide +kernel
theorem dX0_isDigit_17 : decode cX0_isDigit 17 = .ok (.ireturn, 1) := by decide +kernel
theorem dX1_init_0 : decode cX1_init 0 = .ok (.aload_n 0, 1) := by decide +kernel
theorem dX1_init_1 : decode cX1_init 1 = .ok (.invokespecial 3, 3) := by decide +kernel
theorem dX1_init_4 : decode cX1_init 4 = .ok (.return_, 1) := by decide +kernel
theorem dX1_beginAt_0 : decode cX1_beginAt 0 = .ok (.aload_n 0, 1) := by decide +kernel
theorem dX1_beginAt_1 : decode cX1_beginAt 1 = .ok (.iload_n 1, 1) := by decide +kernel
theorem dX1_beginAt_2 : decode cX1_beginAt 2 = .ok (.putfield 9, 3) := by decide +kernel
theorem dX1_beginAt_5 : decode cX1_beginAt 5 = .ok (.aload_n 0, 1) := by decide +kernel
theorem dX1_beginAt_6 : decode cX1_beginAt 6 = .ok (.iload_n 2, 1) := by decide +kernel
theorem dX1_beginAt_7 : decode cX1_beginAt 7 = .ok (.putfield 15, 3) := by decide +kernel
theorem dX1_beginAt_10 : decode cX1_beginAt 10 = .ok (.aload_n 0, 1) := by decide +kernel
theorem dX1_beginAt_11 : decode cX1_beginAt 11 = .ok (.iconst 0, 1) := by decide +kernel
theorem dX1_beginAt_12 : decode cX1_beginAt 12 = .ok (.putfield 18, 3) := by decide +kernel
theorem dX1_beginAt_15 : decode cX1_beginAt 15 = .ok (.aload_n 0, 1) := by decide +kernel
theorem dX1_beginAt_16 : decode cX1_beginAt 16 = .ok (.bipush 100, 2) := by decide +kernel
theorem dX1_beginAt_18 : decode cX1_beginAt 18 = .ok (.putfield 21, 3) := by decide +kernel
theorem dX1_beginAt_21 : decode cX1_beginAt 21 = .ok (.aload_n 0, 1) := by decide +kernel
theorem dX1_beginAt_22 : decode cX1_beginAt 22 = .ok (.iconst 0, 1) := by decide +kernel
theorem dX1_beginAt_23 : decode cX1_beginAt 23 = .ok (.putfield 24, 3) := by decide +kernel
theorem dX1_beginAt_26 : decode cX1_beginAt 26 = .ok (.aload_n 0, 1) := by decide +kernel
theorem dX1_beginAt_27 : decode cX1_beginAt 27 = .ok (.iconst 0, 1) := by decide +kernel
theorem dX1_beginAt_28 : decode cX1_beginAt 28 = .ok (.putfield 27, 3) := by decide +kernel
theorem dX1_beginAt_31 : decode cX1_beginAt 31 = .ok (.aload_n 0, 1) := by decide +kernel
theorem dX1_beginAt_32 : decode cX1_beginAt 32 = .ok (.iconst 0, 1) := by decide +kernel
theorem dX1_beginAt_33 : decode cX1_beginAt 33 = .ok (.putfield 30, 3) := by decide +kernel
theorem dX1_beginAt_36 : decode cX1_beginAt 36 = .ok (.aload_n 0, 1) := by decide +kernel
theorem dX1_beginAt_37 : decode cX1_beginAt 37 = .ok (.iconst 0, 1) := by decide +kernel
theorem dX1_beginAt_38 : decode cX1_beginAt 38 = .ok (.putfield 33, 3) := by decide +kernel
theorem dX1_beginAt_41 : decode cX1_beginAt 41 = .ok (.return_, 1) := by decide +kernel
theorem dX1_copyFrom_0 : decode cX1_copyFrom 0 = .ok (.aload_n 0, 1) := by decide +kernel
theorem dX1_copyFrom_1 : decode cX1_copyFrom 1 = .ok (.aload_n 1, 1) := by decide +kernel
theorem dX1_copyFrom_2 : decode cX1_copyFrom 2 = .ok (.getfield 9, 3) := by decide +kernel
theorem dX1_copyFrom_5 : decode cX1_copyFrom 5 = .ok (.putfield 9, 3) := by decide +kernel
theorem dX1_copyFrom_8 : decode cX1_copyFrom 8 = .ok (.aload_n 0, 1) := by decide +kernel
theorem dX1_copyFrom_9 : decode cX1_copyFrom 9 = .ok (.aload_n 1, 1) := by decide +kernel
theorem dX1_copyFrom_10 : decode cX1_copyFrom 10 = .ok (.getfield 15, 3) := by decide +kernel
theorem dX1_copyFrom_13 : decode cX1_copyFrom 13 = .ok (.putfield 15, 3) := by decide +kernel
theorem dX1_copyFrom_16 : decode cX1_copyFrom 16 = .ok (.aload_n 0, 1) := by decide +kernel
theorem dX1_copyFrom_17 : decode cX1_copyFrom 17 = .ok (.aload_n 1, 1) := by decide +kernel
theorem dX1_copyFrom_18 : decode cX1_copyFrom 18 = .ok (.getfield 18, 3) := by decide +kernel
theorem dX1_copyFrom_21 : decode cX1_copyFrom 21 = .ok (.putfield 18, 3) := by decide +kernel
theorem dX1_copyFrom_24 : decode cX1_copyFrom 24 = .ok (.aload_n 0, 1) := by decide +kernel
theorem dX1_copyFrom_25 : decode cX1_copyFrom 25 = .ok (.aload_n 1, 1) := by decide +kernel
theorem dX1_copyFrom_26 : decode cX1_copyFrom 26 = .ok (.getfield 21, 3) := by decide +kernel
theorem dX1_copyFrom_29 : decode cX1_copyFrom 29 = .ok (.putfield 21, 3) := by decide +kernel
theorem dX1_copyFrom_32 : decode cX1_copyFrom 32 = .ok (.aload_n 0, 1) := by decide +kernel
theorem dX1_copyFrom_33 : decode cX1_copyFrom 33 = .ok (.aload_n 1, 1) := by decide +kernel
theorem dX1_copyFrom_34 : decode cX1_copyFrom 34 = .ok (.getfield 24, 3) := by decide +kernel
theorem dX1_copyFrom_37 : decode cX1_copyFrom 37 = .ok (.putfield 24, 3) := by decide +kernel
theorem dX1_copyFrom_40 : decode cX1_copyFrom 40 = .ok (.aload_n 0, 1) := by decide +kernel
theorem dX1_copyFrom_41 : decode cX1_copyFrom 41 = .ok (.aload_n 1, 1) := by decide +kernel
theorem dX1_copyFrom_42 : decode cX1_copyFrom 42 = .ok (.getfield 27, 3) := by decide +kernel
theorem dX1_copyFrom_45 : decode cX1_copyFrom 45 = .ok (.putfield 27, 3) := by decide +kernel
theorem dX1_copyFrom_48 : decode cX1_copyFrom 48 = .ok (.aload_n 0, 1) := by decide +kernel
theorem dX1_copyFrom_49 : decode cX1_copyFrom 49 = .ok (.aload_n 1, 1) := by decide +kernel
theorem dX1_copyFrom_50 : decode cX1_copyFrom 50 = .ok (.getfield 30, 3) := by decide +kernel
theorem dX1_copyFrom_53 : decode cX1_copyFrom 53 = .ok (.putfield 30, 3) := by decide +kernel
theorem dX1_copyFrom_56 : decode cX1_copyFrom 56 = .ok (.aload_n 0, 1) := by decide +kernel
theorem dX1_copyFrom_57 : decode cX1_copyFrom 57 = .ok (.aload_n 1, 1) := by decide +kernel
theorem dX1_copyFrom_58 : decode cX1_copyFrom 58 = .ok (.getfield 33, 3) := by decide +kernel
theorem dX1_copyFrom_61 : decode cX1_copyFrom 61 = .ok (.putfield 33, 3) := by decide +kernel
theorem dX1_copyFrom_64 : decode cX1_copyFrom 64 = .ok (.return_, 1) := by decide +kernel
set_option maxRecDepth 20000 in
theorem ggX1_leatherOfMend_X3_tensBegun : GoodIn wsX1_leatherOfMend wsX3_tensBegun := goodIn_r _ [5] (by decide +kernel) (by decide +kernel)
set_option maxRecDepth 20000 in
theorem gX1_leatherOfMend_X3_tensBegun_n36 : GoodIn wsX1_leatherOfMend (wsX3_tensBegun) := ggX1_leatherOfMend_X3_tensBegun
theorem dX1_leatherOfMend_0 : decode cX1_leatherOfMend 0 = .ok (.iload_n 1, 1) := by decide +kernel
theorem dX1_leatherOfMend_1 : decode cX1_leatherOfMend 1 = .ok (.ifCond .eq 12, 3) := by decide +kernel
theorem dX1_leatherOfMend_4 : decode cX1_leatherOfMend 4 = .ok (.iconst 4, 1) := by decide +kernel
theorem dX1_leatherOfMend_5 : decode cX1_leatherOfMend 5 = .ok (.aload_n 0, 1) := by decide +kernel
theorem dX1_leatherOfMend_6 : decode cX1_leatherOfMend 6 = .ok (.getfield 15, 3) := by decide +kernel
theorem dX1_leatherOfMend_9 : decode cX1_leatherOfMend 9 = .ok (.imul, 1) := by decide +kernel
theorem dX1_leatherOfMend_10 : decode cX1_leatherOfMend 10 = .ok (.goto 10, 3) := by decide +kernel
theorem dX1_leatherOfMend_13 : decode cX1_leatherOfMend 13 = .ok (.aload_n 0, 1) := by decide +kernel
theorem dX1_leatherOfMend_14 : decode cX1_leatherOfMend 14 = .ok (.getfield 18, 3) := by decide +kernel
theorem dX1_leatherOfMend_17 : decode cX1_leatherOfMend 17 = .ok (.invokestatic 36, 3) := by decide +kernel
theorem dX1_leatherOfMend_20 : decode cX1_leatherOfMend 20 = .ok (.ireturn, 1) := by decide +kernel
theorem dX1_wearBehindMend_0 : decode cX1_wearBehindMend 0 = .ok (.iload_n 1, 1) := by decide +kernel
theorem dX1_wearBehindMend_1 : decode cX1_wearBehindMend 1 = .ok (.ifCond .eq 7, 3) := by decide +kernel
theorem dX1_wearBehindMend_4 : decode cX1_wearBehindMend 4 = .ok (.iconst 0, 1) := by decide +kernel
theorem dX1_wearBehindMend_5 : decode cX1_wearBehindMend 5 = .ok (.goto 9, 3) := by decide +kernel
theorem dX1_wearBehindMend_8 : decode cX1_wearBehindMend 8 = .ok (.aload_n 0, 1) := by decide +kernel
theorem dX1_wearBehindMend_9 : decode cX1_wearBehindMend 9 = .ok (.getfield 18, 3) := by decide +kernel
theorem dX1_wearBehindMend_12 : decode cX1_wearBehindMend 12 = .ok (.iconst 3, 1) := by decide +kernel
theorem dX1_wearBehindMend_13 : decode cX1_wearBehindMend 13 = .ok (.idiv, 1) := by decide +kernel
theorem dX1_wearBehindMend_14 : decode cX1_wearBehindMend 14 = .ok (.ireturn, 1) := by decide +kernel
set_option maxRecDepth 20000 in
theorem ggX2_init_X1_init : GoodIn wsX2_init wsX1_init := goodIn_r _ [15, 16, 2, 3] (by decide +kernel) (by decide +kernel)
set_option maxRecDepth 20000 in
theorem gX2_init_X1_init_n36 : GoodIn wsX2_init (wsX1_init) := ggX2_init_X1_init
theorem dX2_init_0 : decode cX2_init 0 = .ok (.aload_n 0, 1) := by decide +kernel
theorem dX2_init_1 : decode cX2_init 1 = .ok (.invokespecial 3, 3) := by decide +kernel
theorem dX2_init_4 : decode cX2_init 4 = .ok (.aload_n 0, 1) := by decide +kernel
theorem dX2_init_5 : decode cX2_init 5 = .ok (.bipush 8, 2) := by decide +kernel
theorem dX2_init_7 : decode cX2_init 7 = .ok (.anewarray 9, 3) := by decide +kernel
theorem dX2_init_10 : decode cX2_init 10 = .ok (.putfield 11, 3) := by decide +kernel
theorem dX2_init_13 : decode cX2_init 13 = .ok (.aload_n 0, 1) := by decide +kernel
theorem dX2_init_14 : decode cX2_init 14 = .ok (.bipush 30, 2) := by decide +kernel
theorem dX2_init_16 : decode cX2_init 16 = .ok (.putfield 17, 3) := by decide +kernel
theorem dX2_init_19 : decode cX2_init 19 = .ok (.aload_n 0, 1) := by decide +kernel
theorem dX2_init_20 : decode cX2_init 20 = .ok (.bipush 10, 2) := by decide +kernel
theorem dX2_init_22 : decode cX2_init 22 = .ok (.putfield 21, 3) := by decide +kernel
theorem dX2_init_25 : decode cX2_init 25 = .ok (.aload_n 0, 1) := by decide +kernel
theorem dX2_init_26 : decode cX2_init 26 = .ok (.iconst 4, 1) := by decide +kernel
theorem dX2_init_27 : decode cX2_init 27 = .ok (.putfield 24, 3) := by decide +kernel
theorem dX2_init_30 : decode cX2_init 30 = .ok (.aload_n 0, 1) := by decide +kernel
theorem dX2_init_31 : decode cX2_init 31 = .ok (.bipush 60, 2) := by decide +kernel
theorem dX2_init_33 : decode cX2_init 33 = .ok (.putfield 27, 3) := by decide +kernel
theorem dX2_init_36 : decode cX2_init 36 = .ok (.aload_n 0, 1) := by decide +kernel
theorem dX2_init_37 : decode cX2_init 37 = .ok (.aload_n 0, 1) := by decide +kernel
theorem dX2_init_38 : decode cX2_init 38 = .ok (.getfield 21, 3) := by decide +kernel
theorem dX2_init_41 : decode cX2_init 41 = .ok (.putfield 30, 3) := by decide +kernel
theorem dX2_init_44 : decode cX2_init 44 = .ok (.aload_n 0, 1) := by decide +kernel
theorem dX2_init_45 : decode cX2_init 45 = .ok (.bipush 100, 2) := by decide +kernel
theorem dX2_init_47 : decode cX2_init 47 = .ok (.putfield 33, 3) := by decide +kernel
theorem dX2_init_50 : decode cX2_init 50 = .ok (.iconst 0, 1) := by decide +kernel
theorem dX2_init_51 : decode cX2_init 51 = .ok (.istore_n 1, 1) := by decide +kernel
theorem dX2_init_52 : decode cX2_init 52 = .ok (.iload_n 1, 1) := by decide +kernel
theorem dX2_init_53 : decode cX2_init 53 = .ok (.aload_n 0, 1) := by decide +kernel
theorem dX2_init_54 : decode cX2_init 54 = .ok (.getfield 11, 3) := by decide +kernel
theorem dX2_init_57 : decode cX2_init 57 = .ok (.arraylength, 1) := by decide +kernel
theorem dX2_init_58 : decode cX2_init 58 = .ok (.if_icmp .ge 22, 3) := by decide +kernel
theorem dX2_init_61 : decode cX2_init 61 = .ok (.aload_n 0, 1) := by decide +kernel
theorem dX2_init_62 : decode cX2_init 62 = .ok (.getfield 11, 3) := by decide +kernel
theorem dX2_init_65 : decode cX2_init 65 = .ok (.iload_n 1, 1) := by decide +kernel
theorem dX2_init_66 : decode cX2_init 66 = .ok (.new 9, 3) := by decide +kernel
theorem dX2_init_69 : decode cX2_init 69 = .ok (.dup, 1) := by decide +kernel
theorem dX2_init_70 : decode cX2_init 70 = .ok (.invokespecial 36, 3) := by decide +kernel
theorem dX2_init_73 : decode cX2_init 73 = .ok (.aastore, 1) := by decide +kernel
theorem dX2_init_74 : decode cX2_init 74 = .ok (.iinc 1 1, 3) := by decide +kernel
theorem dX2_init_77 : decode cX2_init 77 = .ok (.goto (-25), 3) := by decide +kernel
theorem dX2_init_80 : decode cX2_init 80 = .ok (.return_, 1) := by decide +kernel
set_option maxRecDepth 20000 in
theorem ggX2_copyFrom_X2_find : GoodIn wsX2_copyFrom wsX2_find := goodIn_r _ [19, 1, 20, 34, 35, 36, 37, 38, 39, 40, 41, 42, 43, 44, 45, 46, 47, 48] (by decide +kernel) (by decide +kernel)
set_option maxRecDepth 20000 in
theorem gX2_copyFrom_X2_find : GoodIn wsX2_copyFrom (wsV RX2 61 RX2 yX2_find wsX2_find) := goodIn_app (goodIn_of _ (by decide +kernel)) ggX2_copyFrom_X2_find
set_option maxRecDepth 20000 in
theorem ggX2_copyFrom_X1_copyFrom : GoodIn wsX2_copyFrom wsX1_copyFrom := goodIn_r _ [25, 26, 27, 28, 29, 30, 31, 32, 33, 49, 50, 51, 52, 53, 54, 55, 56] (by decide +kernel) (by decide +kernel)
set_option maxRecDepth 20000 in
theorem gX2_copyFrom_X1_copyFrom : GoodIn wsX2_copyFrom (wsV RX2 65 RX1 yX1_copyFrom wsX1_copyFrom) := goodIn_app (goodIn_of _ (by decide +kernel)) ggX2_copyFrom_X1_copyFrom
theorem dX2_copyFrom_0 : decode cX2_copyFrom 0 = .ok (.aload_n 0, 1) := by decide +kernel
theorem dX2_copyFrom_1 : decode cX2_copyFrom 1 = .ok (.aload_n 1, 1) := by decide +kernel
theorem dX2_copyFrom_2 : decode cX2_copyFrom 2 = .ok (.getfield 37, 3) := by decide +kernel
theorem dX2_copyFrom_5 : decode cX2_copyFrom 5 = .ok (.putfield 37, 3) := by decide +kernel
theorem dX2_copyFrom_8 : decode cX2_copyFrom 8 = .ok (.aload_n 0, 1) := by decide +kernel
theorem dX2_copyFrom_9 : decode cX2_copyFrom 9 = .ok (.aload_n 1, 1) := by decide +kernel
theorem dX2_copyFrom_10 : decode cX2_copyFrom 10 = .ok (.getfield 17, 3) := by decide +kernel
theorem dX2_copyFrom_13 : decode cX2_copyFrom 13 = .ok (.putfield 17, 3) := by decide +kernel
theorem dX2_copyFrom_16 : decode cX2_copyFrom 16 = .ok (.aload_n 0, 1) := by decide +kernel
theorem dX2_copyFrom_17 : decode cX2_copyFrom 17 = .ok (.aload_n 1, 1) := by decide +kernel
theorem dX2_copyFrom_18 : decode cX2_copyFrom 18 = .ok (.getfield 21, 3) := by decide +kernel
theorem dX2_copyFrom_21 : decode cX2_copyFrom 21 = .ok (.putfield 21, 3) := by decide +kernel
theorem dX2_copyFrom_24 : decode cX2_copyFrom 24 = .ok (.aload_n 0, 1) := by decide +kernel
theorem dX2_copyFrom_25 : decode cX2_copyFrom 25 = .ok (.aload_n 1, 1) := by decide +kernel
theorem dX2_copyFrom_26 : decode cX2_copyFrom 26 = .ok (.getfield 24, 3) := by decide +kernel
theorem dX2_copyFrom_29 : decode cX2_copyFrom 29 = .ok (.putfield 24, 3) := by decide +kernel
theorem dX2_copyFrom_32 : decode cX2_copyFrom 32 = .ok (.aload_n 0, 1) := by decide +kernel
theorem dX2_copyFrom_33 : decode cX2_copyFrom 33 = .ok (.aload_n 1, 1) := by decide +kernel
theorem dX2_copyFrom_34 : decode cX2_copyFrom 34 = .ok (.getfield 27, 3) := by decide +kernel
theorem dX2_copyFrom_37 : decode cX2_copyFrom 37 = .ok (.putfield 27, 3) := by decide +kernel
theorem dX2_copyFrom_40 : decode cX2_copyFrom 40 = .ok (.aload_n 0, 1) := by decide +kernel
theorem dX2_copyFrom_41 : decode cX2_copyFrom 41 = .ok (.aload_n 1, 1) := by decide +kernel
theorem dX2_copyFrom_42 : decode cX2_copyFrom 42 = .ok (.getfield 40, 3) := by decide +kernel
theorem dX2_copyFrom_45 : decode cX2_copyFrom 45 = .ok (.putfield 40, 3) := by decide +kernel
theorem dX2_copyFrom_48 : decode cX2_copyFrom 48 = .ok (.aload_n 0, 1) := by decide +kernel
theorem dX2_copyFrom_49 : decode cX2_copyFrom 49 = .ok (.aload_n 1, 1) := by decide +kernel
theorem dX2_copyFrom_50 : decode cX2_copyFrom 50 = .ok (.getfield 43, 3) := by decide +kernel
theorem dX2_copyFrom_53 : decode cX2_copyFrom 53 = .ok (.putfield 43, 3) := by decide +kernel
theorem dX2_copyFrom_56 : decode cX2_copyFrom 56 = .ok (.aload_n 0, 1) := by decide +kernel
theorem dX2_copyFrom_57 : decode cX2_copyFrom 57 = .ok (.aload_n 1, 1) := by decide +kernel
theorem dX2_copyFrom_58 : decode cX2_copyFrom 58 = .ok (.getfield 30, 3) := by decide +kernel
theorem dX2_copyFrom_61 : decode cX2_copyFrom 61 = .ok (.putfield 30, 3) := by decide +kernel
theorem dX2_copyFrom_64 : decode cX2_copyFrom 64 = .ok (.aload_n 0, 1) := by decide +kernel
theorem dX2_copyFrom_65 : decode cX2_copyFrom 65 = .ok (.aload_n 1, 1) := by decide +kernel
theorem dX2_copyFrom_66 : decode cX2_copyFrom 66 = .ok (.getfield 46, 3) := by decide +kernel
theorem dX2_copyFrom_69 : decode cX2_copyFrom 69 = .ok (.putfield 46, 3) := by decide +kernel
theorem dX2_copyFrom_72 : decode cX2_copyFrom 72 = .ok (.aload_n 0, 1) := by decide +kernel
theorem dX2_copyFrom_73 : decode cX2_copyFrom 73 = .ok (.aload_n 1, 1) := by decide +kernel
theorem dX2_copyFrom_74 : decode cX2_copyFrom 74 = .ok (.getfield 33, 3) := by decide +kernel
theorem dX2_copyFrom_77 : decode cX2_copyFrom 77 = .ok (.putfield 33, 3) := by decide +kernel
theorem dX2_copyFrom_80 : decode cX2_copyFrom 80 = .ok (.aload_n 0, 1) := by decide +kernel
theorem dX2_copyFrom_81 : decode cX2_copyFrom 81 = .ok (.aload_n 1, 1) := by decide +kernel
theorem dX2_copyFrom_82 : decode cX2_copyFrom 82 = .ok (.getfield 49, 3) := by decide +kernel
theorem dX2_copyFrom_85 : decode cX2_copyFrom 85 = .ok (.putfield 49, 3) := by decide +kernel
theorem dX2_copyFrom_88 : decode cX2_copyFrom 88 = .ok (.aload_n 0, 1) := by decide +kernel
theorem dX2_copyFrom_89 : decode cX2_copyFrom 89 = .ok (.aload_n 1, 1) := by decide +kernel
theorem dX2_copyFrom_90 : decode cX2_copyFrom 90 = .ok (.getfield 52, 3) := by decide +kernel
theorem dX2_copyFrom_93 : decode cX2_copyFrom 93 = .ok (.putfield 52, 3) := by decide +kernel
theorem dX2_copyFrom_96 : decode cX2_copyFrom 96 = .ok (.aload_n 0, 1) := by decide +kernel
theorem dX2_copyFrom_97 : decode cX2_copyFrom 97 = .ok (.aload_n 1, 1) := by decide +kernel
theorem dX2_copyFrom_98 : decode cX2_copyFrom 98 = .ok (.getfield 55, 3) := by decide +kernel
theorem dX2_copyFrom_101 : decode cX2_copyFrom 101 = .ok (.putfield 55, 3) := by decide +kernel
theorem dX2_copyFrom_104 : decode cX2_copyFrom 104 = .ok (.aload_n 0, 1) := by decide +kernel
theorem dX2_copyFrom_105 : decode cX2_copyFrom 105 = .ok (.aload_n 1, 1) := by decide +kernel
theorem dX2_copyFrom_106 : decode cX2_copyFrom 106 = .ok (.getfield 58, 3) := by decide +kernel
theorem dX2_copyFrom_109 : decode cX2_copyFrom 109 = .ok (.putfield 58, 3) := by decide +kernel
theorem dX2_copyFrom_112 : decode cX2_copyFrom 112 = .ok (.iconst 0, 1) := by decide +kernel
theorem dX2_copyFrom_113 : decode cX2_copyFrom 113 = .ok (.istore_n 2, 1) := by decide +kernel
theorem dX2_copyFrom_114 : decode cX2_copyFrom 114 = .ok (.iload_n 2, 1) := by decide +kernel
theorem dX2_copyFrom_115 : decode cX2_copyFrom 115 = .ok (.aload_n 0, 1) := by decide +kernel
theorem dX2_copyFrom_116 : decode cX2_copyFrom 116 = .ok (.getfield 37, 3) := by decide +kernel
theorem dX2_copyFrom_119 : decode cX2_copyFrom 119 = .ok (.if_icmp .ge 37, 3) := by decide +kernel
theorem dX2_copyFrom_122 : decode cX2_copyFrom 122 = .ok (.aload_n 0, 1) := by decide +kernel
theorem dX2_copyFrom_123 : decode cX2_copyFrom 123 = .ok (.iload_n 2, 1) := by decide +kernel
theorem dX2_copyFrom_124 : decode cX2_copyFrom 124 = .ok (.invokevirtual 61, 3) := by decide +kernel
theorem dX2_copyFrom_127 : decode cX2_copyFrom 127 = .ok (.astore_n 3, 1) := by decide +kernel
theorem dX2_copyFrom_128 : decode cX2_copyFrom 128 = .ok (.aload_n 1, 1) := by decide +kernel
theorem dX2_copyFrom_129 : decode cX2_copyFrom 129 = .ok (.iload_n 2, 1) := by decide +kernel
theorem dX2_copyFrom_130 : decode cX2_copyFrom 130 = .ok (.invokevirtual 61, 3) := by decide +kernel
theorem dX2_copyFrom_133 : decode cX2_copyFrom 133 = .ok (.astore 4, 2) := by decide +kernel
theorem dX2_copyFrom_135 : decode cX2_copyFrom 135 = .ok (.aload_n 3, 1) := by decide +kernel
theorem dX2_copyFrom_136 : decode cX2_copyFrom 136 = .ok (.ifnull 14, 3) := by decide +kernel
theorem dX2_copyFrom_139 : decode cX2_copyFrom 139 = .ok (.aload 4, 2) := by decide +kernel
theorem dX2_copyFrom_141 : decode cX2_copyFrom 141 = .ok (.ifnull 9, 3) := by decide +kernel
theorem dX2_copyFrom_144 : decode cX2_copyFrom 144 = .ok (.aload_n 3, 1) := by decide +kernel
theorem dX2_copyFrom_145 : decode cX2_copyFrom 145 = .ok (.aload 4, 2) := by decide +kernel
theorem dX2_copyFrom_147 : decode cX2_copyFrom 147 = .ok (.invokevirtual 65, 3) := by decide +kernel
theorem dX2_copyFrom_150 : decode cX2_copyFrom 150 = .ok (.iinc 2 1, 3) := by decide +kernel
theorem dX2_copyFrom_153 : decode cX2_copyFrom 153 = .ok (.goto (-39), 3) := by decide +kernel
theorem dX2_copyFrom_156 : decode cX2_copyFrom 156 = .ok (.return_, 1) := by decide +kernel
theorem dX2_find_0 : decode cX2_find 0 = .ok (.iload_n 1, 1) := by decide +kernel
theorem dX2_find_1 : decode cX2_find 1 = .ok (.ifCond .lt 20, 3) := by decide +kernel
theorem dX2_find_4 : decode cX2_find 4 = .ok (.iload_n 1, 1) := by decide +kernel
theorem dX2_find_5 : decode cX2_find 5 = .ok (.aload_n 0, 1) := by decide +kernel
theorem dX2_find_6 : decode cX2_find 6 = .ok (.getfield 37, 3) := by decide +kernel
theorem dX2_find_9 : decode cX2_find 9 = .ok (.if_icmp .ge 12, 3) := by decide +kernel
theorem dX2_find_12 : decode cX2_find 12 = .ok (.iload_n 1, 1) := by decide +kernel
theorem dX2_find_13 : decode cX2_find 13 = .ok (.aload_n 0, 1) := by decide +kernel
theorem dX2_find_14 : decode cX2_find 14 = .ok (.getfield 11, 3) := by decide +kernel
theorem dX2_find_17 : decode cX2_find 17 = .ok (.arraylength, 1) := by decide +kernel
theorem dX2_find_18 : decode cX2_find 18 = .ok (.if_icmp .lt 5, 3) := by decide +kernel
theorem dX2_find_21 : decode cX2_find 21 = .ok (.aconst_null, 1) := by decide +kernel
theorem dX2_find_22 : decode cX2_find 22 = .ok (.areturn, 1) := by decide +kernel
theorem dX2_find_23 : decode cX2_find 23 = .ok (.aload_n 0, 1) := by decide +kernel
theorem dX2_find_24 : decode cX2_find 24 = .ok (.getfield 11, 3) := by decide +kernel
theorem dX2_find_27 : decode cX2_find 27 = .ok (.iload_n 1, 1) := by decide +kernel
theorem dX2_find_28 : decode cX2_find 28 = .ok (.aaload, 1) := by decide +kernel
theorem dX2_find_29 : decode cX2_find 29 = .ok (.areturn, 1) := by decide +kernel
set_option maxRecDepth 20000 in
theorem ggX2_addSmithy_X2_find : GoodIn wsX2_addSmithy wsX2_find := goodIn_r _ [8, 2, 9, 23, 24, 25, 26, 27, 28, 29, 30, 31, 32, 33, 34, 35, 36, 37] (by decide +kernel) (by decide +kernel)
set_option maxRecDepth 20000 in
theorem gX2_addSmithy_X2_find : GoodIn wsX2_addSmithy (wsV RX2 61 RX2 yX2_find wsX2_find) := goodIn_app (goodIn_of _ (by decide +kernel)) ggX2_addSmithy_X2_find
set_option maxRecDepth 20000 in
theorem ggX2_addSmithy_X1_beginAt : GoodIn wsX2_addSmithy wsX1_beginAt := goodIn_r _ [14, 15, 16, 17, 18, 19, 20, 21, 22, 38, 39, 40, 41, 42, 43, 44, 45] (by decide +kernel) (by decide +kernel)
set_option maxRecDepth 20000 in
theorem gX2_addSmithy_X1_beginAt : GoodIn wsX2_addSmithy (wsV RX2 71 RX1 yX1_beginAt wsX1_beginAt) := goodIn_app (goodIn_of _ (by decide +kernel)) ggX2_addSmithy_X1_beginAt
theorem dX2_addSmithy_0 : decode cX2_addSmithy 0 = .ok (.iload_n 1, 1) := by decide +kernel
theorem dX2_addSmithy_1 : decode cX2_addSmithy 1 = .ok (.ifCond .lt 20, 3) := by decide +kernel
theorem dX2_addSmithy_4 : decode cX2_addSmithy 4 = .ok (.iload_n 1, 1) := by decide +kernel
theorem dX2_addSmithy_5 : decode cX2_addSmithy 5 = .ok (.bipush 99, 2) := by decide +kernel
theorem dX2_addSmithy_7 : decode cX2_addSmithy 7 = .ok (.if_icmp .gt 14, 3) := by decide +kernel
theorem dX2_addSmithy_10 : decode cX2_addSmithy 10 = .ok (.iload_n 2, 1) := by decide +kernel
theorem dX2_addSmithy_11 : decode cX2_addSmithy 11 = .ok (.iconst 1, 1) := by decide +kernel
theorem dX2_addSmithy_12 : decode cX2_addSmithy 12 = .ok (.if_icmp .lt 9, 3) := by decide +kernel
theorem dX2_addSmithy_15 : decode cX2_addSmithy 15 = .ok (.iload_n 2, 1) := by decide +kernel
theorem dX2_addSmithy_16 : decode cX2_addSmithy 16 = .ok (.bipush 9, 2) := by decide +kernel
theorem dX2_addSmithy_18 : decode cX2_addSmithy 18 = .ok (.if_icmp .le 6, 3) := by decide +kernel
theorem dX2_addSmithy_21 : decode cX2_addSmithy 21 = .ok (.ldc 69, 2) := by decide +kernel
theorem dX2_addSmithy_23 : decode cX2_addSmithy 23 = .ok (.ireturn, 1) := by decide +kernel
theorem dX2_addSmithy_24 : decode cX2_addSmithy 24 = .ok (.aload_n 0, 1) := by decide +kernel
theorem dX2_addSmithy_25 : decode cX2_addSmithy 25 = .ok (.getfield 37, 3) := by decide +kernel
theorem dX2_addSmithy_28 : decode cX2_addSmithy 28 = .ok (.bipush 8, 2) := by decide +kernel
theorem dX2_addSmithy_30 : decode cX2_addSmithy 30 = .ok (.if_icmp .lt 6, 3) := by decide +kernel
theorem dX2_addSmithy_33 : decode cX2_addSmithy 33 = .ok (.ldc 70, 2) := by decide +kernel
theorem dX2_addSmithy_35 : decode cX2_addSmithy 35 = .ok (.ireturn, 1) := by decide +kernel
theorem dX2_addSmithy_36 : decode cX2_addSmithy 36 = .ok (.aload_n 0, 1) := by decide +kernel
theorem dX2_addSmithy_37 : decode cX2_addSmithy 37 = .ok (.getfield 37, 3) := by decide +kernel
theorem dX2_addSmithy_40 : decode cX2_addSmithy 40 = .ok (.istore_n 3, 1) := by decide +kernel
theorem dX2_addSmithy_41 : decode cX2_addSmithy 41 = .ok (.aload_n 0, 1) := by decide +kernel
theorem dX2_addSmithy_42 : decode cX2_addSmithy 42 = .ok (.dup, 1) := by decide +kernel
theorem dX2_addSmithy_43 : decode cX2_addSmithy 43 = .ok (.getfield 37, 3) := by decide +kernel
theorem dX2_addSmithy_46 : decode cX2_addSmithy 46 = .ok (.iconst 1, 1) := by decide +kernel
theorem dX2_addSmithy_47 : decode cX2_addSmithy 47 = .ok (.iadd, 1) := by decide +kernel
theorem dX2_addSmithy_48 : decode cX2_addSmithy 48 = .ok (.putfield 37, 3) := by decide +kernel
theorem dX2_addSmithy_51 : decode cX2_addSmithy 51 = .ok (.aload_n 0, 1) := by decide +kernel
theorem dX2_addSmithy_52 : decode cX2_addSmithy 52 = .ok (.iload_n 3, 1) := by decide +kernel
theorem dX2_addSmithy_53 : decode cX2_addSmithy 53 = .ok (.invokevirtual 61, 3) := by decide +kernel
theorem dX2_addSmithy_56 : decode cX2_addSmithy 56 = .ok (.astore 4, 2) := by decide +kernel
theorem dX2_addSmithy_58 : decode cX2_addSmithy 58 = .ok (.aload 4, 2) := by decide +kernel
theorem dX2_addSmithy_60 : decode cX2_addSmithy 60 = .ok (.ifnull 10, 3) := by decide +kernel
theorem dX2_addSmithy_63 : decode cX2_addSmithy 63 = .ok (.aload 4, 2) := by decide +kernel
theorem dX2_addSmithy_65 : decode cX2_addSmithy 65 = .ok (.iload_n 1, 1) := by decide +kernel
theorem dX2_addSmithy_66 : decode cX2_addSmithy 66 = .ok (.iload_n 2, 1) := by decide +kernel
theorem dX2_addSmithy_67 : decode cX2_addSmithy 67 = .ok (.invokevirtual 71, 3) := by decide +kernel
theorem dX2_addSmithy_70 : decode cX2_addSmithy 70 = .ok (.iload_n 3, 1) := by decide +kernel
theorem dX2_addSmithy_71 : decode cX2_addSmithy 71 = .ok (.ireturn, 1) := by decide +kernel
set_option maxRecDepth 20000 in
theorem ggX2_walkTo_X3_hoursOfWay : GoodIn wsX2_walkTo wsX3_hoursOfWay := goodIn_r _ [12, 13, 7, 8, 9, 14, 15, 11, 16] (by decide +kernel) (by decide +kernel)
set_option maxRecDepth 20000 in
theorem gX2_walkTo_X3_hoursOfWay_n75 : GoodIn wsX2_walkTo (wsX3_hoursOfWay) := ggX2_walkTo_X3_hoursOfWay
theorem dX2_walkTo_0 : decode cX2_walkTo 0 = .ok (.iload_n 1, 1) := by decide +kernel
theorem dX2_walkTo_1 : decode cX2_walkTo 1 = .ok (.ifCond .lt 9, 3) := by decide +kernel
theorem dX2_walkTo_4 : decode cX2_walkTo 4 = .ok (.iload_n 1, 1) := by decide +kernel
theorem dX2_walkTo_5 : decode cX2_walkTo 5 = .ok (.bipush 99, 2) := by decide +kernel
theorem dX2_walkTo_7 : decode cX2_walkTo 7 = .ok (.if_icmp .le 6, 3) := by decide +kernel
theorem dX2_walkTo_10 : decode cX2_walkTo 10 = .ok (.ldc 69, 2) := by decide +kernel
theorem dX2_walkTo_12 : decode cX2_walkTo 12 = .ok (.ireturn, 1) := by decide +kernel
theorem dX2_walkTo_13 : decode cX2_walkTo 13 = .ok (.aload_n 0, 1) := by decide +kernel
theorem dX2_walkTo_14 : decode cX2_walkTo 14 = .ok (.getfield 43, 3) := by decide +kernel
theorem dX2_walkTo_17 : decode cX2_walkTo 17 = .ok (.iload_n 1, 1) := by decide +kernel
theorem dX2_walkTo_18 : decode cX2_walkTo 18 = .ok (.invokestatic 75, 3) := by decide +kernel
theorem dX2_walkTo_21 : decode cX2_walkTo 21 = .ok (.istore_n 2, 1) := by decide +kernel
theorem dX2_walkTo_22 : decode cX2_walkTo 22 = .ok (.iload_n 2, 1) := by decide +kernel
theorem dX2_walkTo_23 : decode cX2_walkTo 23 = .ok (.aload_n 0, 1) := by decide +kernel
theorem dX2_walkTo_24 : decode cX2_walkTo 24 = .ok (.getfield 30, 3) := by decide +kernel
theorem dX2_walkTo_27 : decode cX2_walkTo 27 = .ok (.if_icmp .le 6, 3) := by decide +kernel
theorem dX2_walkTo_30 : decode cX2_walkTo 30 = .ok (.ldc 79, 2) := by decide +kernel
theorem dX2_walkTo_32 : decode cX2_walkTo 32 = .ok (.ireturn, 1) := by decide +kernel
theorem dX2_walkTo_33 : decode cX2_walkTo 33 = .ok (.aload_n 0, 1) := by decide +kernel
theorem dX2_walkTo_34 : decode cX2_walkTo 34 = .ok (.dup, 1) := by decide +kernel
theorem dX2_walkTo_35 : decode cX2_walkTo 35 = .ok (.getfield 30, 3) := by decide +kernel
theorem dX2_walkTo_38 : decode cX2_walkTo 38 = .ok (.iload_n 2, 1) := by decide +kernel
theorem dX2_walkTo_39 : decode cX2_walkTo 39 = .ok (.isub, 1) := by decide +kernel
theorem dX2_walkTo_40 : decode cX2_walkTo 40 = .ok (.putfield 30, 3) := by decide +kernel
theorem dX2_walkTo_43 : decode cX2_walkTo 43 = .ok (.aload_n 0, 1) := by decide +kernel
theorem dX2_walkTo_44 : decode cX2_walkTo 44 = .ok (.dup, 1) := by decide +kernel
theorem dX2_walkTo_45 : decode cX2_walkTo 45 = .ok (.getfield 58, 3) := by decide +kernel
theorem dX2_walkTo_48 : decode cX2_walkTo 48 = .ok (.iload_n 1, 1) := by decide +kernel
theorem dX2_walkTo_49 : decode cX2_walkTo 49 = .ok (.aload_n 0, 1) := by decide +kernel
theorem dX2_walkTo_50 : decode cX2_walkTo 50 = .ok (.getfield 43, 3) := by decide +kernel
theorem dX2_walkTo_53 : decode cX2_walkTo 53 = .ok (.isub, 1) := by decide +kernel
theorem dX2_walkTo_54 : decode cX2_walkTo 54 = .ok (.invokestatic 80, 3) := by decide +kernel
theorem dX2_walkTo_57 : decode cX2_walkTo 57 = .ok (.iadd, 1) := by decide +kernel
theorem dX2_walkTo_58 : decode cX2_walkTo 58 = .ok (.putfield 58, 3) := by decide +kernel
theorem dX2_walkTo_61 : decode cX2_walkTo 61 = .ok (.aload_n 0, 1) := by decide +kernel
theorem dX2_walkTo_62 : decode cX2_walkTo 62 = .ok (.iload_n 1, 1) := by decide +kernel
theorem dX2_walkTo_63 : decode cX2_walkTo 63 = .ok (.putfield 43, 3) := by decide +kernel
theorem dX2_walkTo_66 : decode cX2_walkTo 66 = .ok (.aload_n 0, 1) := by decide +kernel
theorem dX2_walkTo_67 : decode cX2_walkTo 67 = .ok (.getfield 30, 3) := by decide +kernel
theorem dX2_walkTo_70 : decode cX2_walkTo 70 = .ok (.ireturn, 1) := by decide +kernel
theorem dX2_buyLeather_0 : decode cX2_buyLeather 0 = .ok (.iload_n 1, 1) := by decide +kernel
theorem dX2_buyLeather_1 : decode cX2_buyLeather 1 = .ok (.iconst 1, 1) := by decide +kernel
theorem dX2_buyLeather_2 : decode cX2_buyLeather 2 = .ok (.if_icmp .lt 10, 3) := by decide +kernel
theorem dX2_buyLeather_5 : decode cX2_buyLeather 5 = .ok (.iload_n 1, 1) := by decide +kernel
theorem dX2_buyLeather_6 : decode cX2_buyLeather 6 = .ok (.sipush 999, 3) := by decide +kernel
theorem dX2_buyLeather_9 : decode cX2_buyLeather 9 = .ok (.if_icmp .le 6, 3) := by decide +kernel
theorem dX2_buyLeather_12 : decode cX2_buyLeather 12 = .ok (.ldc 69, 2) := by decide +kernel
theorem dX2_buyLeather_14 : decode cX2_buyLeather 14 = .ok (.ireturn, 1) := by decide +kernel
theorem dX2_buyLeather_15 : decode cX2_buyLeather 15 = .ok (.aload_n 0, 1) := by decide +kernel
theorem dX2_buyLeather_16 : decode cX2_buyLeather 16 = .ok (.getfield 43, 3) := by decide +kernel
theorem dX2_buyLeather_19 : decode cX2_buyLeather 19 = .ok (.ifCond .eq 6, 3) := by decide +kernel
theorem dX2_buyLeather_22 : decode cX2_buyLeather 22 = .ok (.ldc 79, 2) := by decide +kernel
theorem dX2_buyLeather_24 : decode cX2_buyLeather 24 = .ok (.ireturn, 1) := by decide +kernel
theorem dX2_buyLeather_25 : decode cX2_buyLeather 25 = .ok (.aload_n 0, 1) := by decide +kernel
theorem dX2_buyLeather_26 : decode cX2_buyLeather 26 = .ok (.getfield 46, 3) := by decide +kernel
theorem dX2_buyLeather_29 : decode cX2_buyLeather 29 = .ok (.iload_n 1, 1) := by decide +kernel
theorem dX2_buyLeather_30 : decode cX2_buyLeather 30 = .ok (.iadd, 1) := by decide +kernel
theorem dX2_buyLeather_31 : decode cX2_buyLeather 31 = .ok (.sipush 999, 3) := by decide +kernel
theorem dX2_buyLeather_34 : decode cX2_buyLeather 34 = .ok (.if_icmp .le 6, 3) := by decide +kernel
theorem dX2_buyLeather_37 : decode cX2_buyLeather 37 = .ok (.ldc 70, 2) := by decide +kernel
theorem dX2_buyLeather_39 : decode cX2_buyLeather 39 = .ok (.ireturn, 1) := by decide +kernel
theorem dX2_buyLeather_40 : decode cX2_buyLeather 40 = .ok (.iconst 2, 1) := by decide +kernel
theorem dX2_buyLeather_41 : decode cX2_buyLeather 41 = .ok (.iload_n 1, 1) := by decide +kernel
theorem dX2_buyLeather_42 : decode cX2_buyLeather 42 = .ok (.imul, 1) := by decide +kernel
theorem dX2_buyLeather_43 : decode cX2_buyLeather 43 = .ok (.istore_n 2, 1) := by decide +kernel
theorem dX2_buyLeather_44 : decode cX2_buyLeather 44 = .ok (.aload_n 0, 1) := by decide +kernel
theorem dX2_buyLeather_45 : decode cX2_buyLeather 45 = .ok (.dup, 1) := by decide +kernel
theorem dX2_buyLeather_46 : decode cX2_buyLeather 46 = .ok (.getfield 46, 3) := by decide +kernel
theorem dX2_buyLeather_49 : decode cX2_buyLeather 49 = .ok (.iload_n 1, 1) := by decide +kernel
theorem dX2_buyLeather_50 : decode cX2_buyLeather 50 = .ok (.iadd, 1) := by decide +kernel
theorem dX2_buyLeather_51 : decode cX2_buyLeather 51 = .ok (.putfield 46, 3) := by decide +kernel
theorem dX2_buyLeather_54 : decode cX2_buyLeather 54 = .ok (.aload_n 0, 1) := by decide +kernel
theorem dX2_buyLeather_55 : decode cX2_buyLeather 55 = .ok (.dup, 1) := by decide +kernel
theorem dX2_buyLeather_56 : decode cX2_buyLeather 56 = .ok (.getfield 33, 3) := by decide +kernel
theorem dX2_buyLeather_59 : decode cX2_buyLeather 59 = .ok (.iload_n 2, 1) := by decide +kernel
theorem dX2_buyLeather_60 : decode cX2_buyLeather 60 = .ok (.isub, 1) := by decide +kernel
theorem dX2_buyLeather_61 : decode cX2_buyLeather 61 = .ok (.putfield 33, 3) := by decide +kernel
theorem dX2_buyLeather_64 : decode cX2_buyLeather 64 = .ok (.aload_n 0, 1) := by decide +kernel
theorem dX2_buyLeather_65 : decode cX2_buyLeather 65 = .ok (.dup, 1) := by decide +kernel
theorem dX2_buyLeather_66 : decode cX2_buyLeather 66 = .ok (.getfield 49, 3) := by decide +kernel
theorem dX2_buyLeather_69 : decode cX2_buyLeather 69 = .ok (.iload_n 2, 1) := by decide +kernel
theorem dX2_buyLeather_70 : decode cX2_buyLeather 70 = .ok (.iadd, 1) := by decide +kernel
theorem dX2_buyLeather_71 : decode cX2_buyLeather 71 = .ok (.putfield 49, 3) := by decide +kernel
theorem dX2_buyLeather_74 : decode cX2_buyLeather 74 = .ok (.aload_n 0, 1) := by decide +kernel
theorem dX2_buyLeather_75 : decode cX2_buyLeather 75 = .ok (.getfield 46, 3) := by decide +kernel
theorem dX2_buyLeather_78 : decode cX2_buyLeather 78 = .ok (.ireturn, 1) := by decide +kernel
set_option maxRecDepth 20000 in
theorem ggX2_mendBellows_X2_find : GoodIn wsX2_mendBellows wsX2_find := goodIn_r _ [13, 14, 15, 48, 49, 50, 51, 52, 53, 54, 55, 56, 57, 58, 59, 60, 61, 62] (by decide +kernel) (by decide +kernel)
set_option maxRecDepth 20000 in
theorem gX2_mendBellows_X2_find : GoodIn wsX2_mendBellows (wsV RX2 61 RX2 yX2_find wsX2_find) := goodIn_app (goodIn_of _ (by decide +kernel)) ggX2_mendBellows_X2_find
set_option maxRecDepth 20000 in
theorem ggX2_mendBellows_X2_reasonAgainst : GoodIn wsX2_mendBellows wsX2_reasonAgainst := goodIn_r _ [19, 20, 21, 3, 4, 22, 23, 24, 25, 26, 27, 28, 29, 30, 31, 32, 33, 34, 35, 36, 12, 37, 6, 38, 7, 63, 64, 65, 66, 67, 68, 69, 70, 48, 49, 50, 51, 52, 53, 54, 55, 56, 57, 58, 59, 60, 61, 62] (by decide +kernel) (by decide +kernel)
set_option maxRecDepth 20000 in
theorem gX2_mendBellows_X2_reasonAgainst : GoodIn wsX2_mendBellows (wsV RX2 86 RX2 yX2_reasonAgainst wsX2_reasonAgainst) := goodIn_app (goodIn_of _ (by decide +kernel)) ggX2_mendBellows_X2_reasonAgainst
set_option maxRecDepth 20000 in
theorem ggX2_mendBellows_X2_priceOfMend : GoodIn wsX2_mendBellows wsX2_priceOfMend := goodIn_r _ [42, 43, 22, 23, 24, 25, 26, 27, 28, 29, 30, 31, 32, 33, 48, 49, 50, 51, 52, 53, 54, 55, 56, 57, 58, 59, 60, 61, 62, 63, 64, 65, 66, 67, 68, 69, 70] (by decide +kernel) (by decide +kernel)
set_option maxRecDepth 20000 in
theorem gX2_mendBellows_X2_priceOfMend : GoodIn wsX2_mendBellows (wsV RX2 90 RX2 yX2_priceOfMend wsX2_priceOfMend) := goodIn_app (goodIn_of _ (by decide +kernel)) ggX2_mendBellows_X2_priceOfMend
set_option maxRecDepth 20000 in
theorem ggX2_mendBellows_X3_hoursOfMend : GoodIn wsX2_mendBellows wsX3_hoursOfMend := goodIn_r _ [24] (by decide +kernel) (by decide +kernel)
set_option maxRecDepth 20000 in
theorem gX2_mendBellows_X3_hoursOfMend_n93 : GoodIn wsX2_mendBellows (wsX3_hoursOfMend) := ggX2_mendBellows_X3_hoursOfMend
set_option maxRecDepth 20000 in
theorem ggX2_mendBellows_X1_leatherOfMend : GoodIn wsX2_mendBellows wsX1_leatherOfMend := goodIn_r _ [29, 30, 31, 32, 23, 33, 63, 64, 65, 66, 67, 68, 69, 70] (by decide +kernel) (by decide +kernel)
set_option maxRecDepth 20000 in
theorem gX2_mendBellows_X1_leatherOfMend : GoodIn wsX2_mendBellows (wsV RX2 97 RX1 yX1_leatherOfMend wsX1_leatherOfMend) := goodIn_app (goodIn_of _ (by decide +kernel)) ggX2_mendBellows_X1_leatherOfMend
set_option maxRecDepth 20000 in
theorem ggX2_mendBellows_X1_wearBehindMend : GoodIn wsX2_mendBellows wsX1_wearBehindMend := goodIn_r _ [47, 31, 63, 64, 65, 66, 67, 68, 69, 70] (by decide +kernel) (by decide +kernel)
set_option maxRecDepth 20000 in
theorem gX2_mendBellows_X1_wearBehindMend : GoodIn wsX2_mendBellows (wsV RX2 103 RX1 yX1_wearBehindMend wsX1_wearBehindMend) := goodIn_app (goodIn_of _ (by decide +kernel)) ggX2_mendBellows_X1_wearBehindMend
theorem dX2_mendBellows_0 : decode cX2_mendBellows 0 = .ok (.aload_n 0, 1) := by decide +kernel
theorem dX2_mendBellows_1 : decode cX2_mendBellows 1 = .ok (.iload_n 1, 1) := by decide +kernel
theorem dX2_mendBellows_2 : decode cX2_mendBellows 2 = .ok (.invokevirtual 61, 3) := by decide +kernel
theorem dX2_mendBellows_5 : decode cX2_mendBellows 5 = .ok (.astore_n 3, 1) := by decide +kernel
theorem dX2_mendBellows_6 : decode cX2_mendBellows 6 = .ok (.aload_n 3, 1) := by decide +kernel
theorem dX2_mendBellows_7 : decode cX2_mendBellows 7 = .ok (.ifnonnull 6, 3) := by decide +kernel
theorem dX2_mendBellows_10 : decode cX2_mendBellows 10 = .ok (.ldc 69, 2) := by decide +kernel
theorem dX2_mendBellows_12 : decode cX2_mendBellows 12 = .ok (.ireturn, 1) := by decide +kernel
theorem dX2_mendBellows_13 : decode cX2_mendBellows 13 = .ok (.aload_n 0, 1) := by decide +kernel
theorem dX2_mendBellows_14 : decode cX2_mendBellows 14 = .ok (.aload_n 3, 1) := by decide +kernel
theorem dX2_mendBellows_15 : decode cX2_mendBellows 15 = .ok (.iload_n 2, 1) := by decide +kernel
theorem dX2_mendBellows_16 : decode cX2_mendBellows 16 = .ok (.invokevirtual 86, 3) := by decide +kernel
theorem dX2_mendBellows_19 : decode cX2_mendBellows 19 = .ok (.ifCond .eq 6, 3) := by decide +kernel
theorem dX2_mendBellows_22 : decode cX2_mendBellows 22 = .ok (.ldc 79, 2) := by decide +kernel
theorem dX2_mendBellows_24 : decode cX2_mendBellows 24 = .ok (.ireturn, 1) := by decide +kernel
theorem dX2_mendBellows_25 : decode cX2_mendBellows 25 = .ok (.aload_n 0, 1) := by decide +kernel
theorem dX2_mendBellows_26 : decode cX2_mendBellows 26 = .ok (.aload_n 3, 1) := by decide +kernel
theorem dX2_mendBellows_27 : decode cX2_mendBellows 27 = .ok (.iload_n 2, 1) := by decide +kernel
theorem dX2_mendBellows_28 : decode cX2_mendBellows 28 = .ok (.invokevirtual 90, 3) := by decide +kernel
theorem dX2_mendBellows_31 : decode cX2_mendBellows 31 = .ok (.istore 4, 2) := by decide +kernel
theorem dX2_mendBellows_33 : decode cX2_mendBellows 33 = .ok (.aload_n 0, 1) := by decide +kernel
theorem dX2_mendBellows_34 : decode cX2_mendBellows 34 = .ok (.dup, 1) := by decide +kernel
theorem dX2_mendBellows_35 : decode cX2_mendBellows 35 = .ok (.getfield 30, 3) := by decide +kernel
theorem dX2_mendBellows_38 : decode cX2_mendBellows 38 = .ok (.iload_n 2, 1) := by decide +kernel
theorem dX2_mendBellows_39 : decode cX2_mendBellows 39 = .ok (.invokestatic 93, 3) := by decide +kernel
theorem dX2_mendBellows_42 : decode cX2_mendBellows 42 = .ok (.isub, 1) := by decide +kernel
theorem dX2_mendBellows_43 : decode cX2_mendBellows 43 = .ok (.putfield 30, 3) := by decide +kernel
theorem dX2_mendBellows_46 : decode cX2_mendBellows 46 = .ok (.aload_n 0, 1) := by decide +kernel
theorem dX2_mendBellows_47 : decode cX2_mendBellows 47 = .ok (.dup, 1) := by decide +kernel
theorem dX2_mendBellows_48 : decode cX2_mendBellows 48 = .ok (.getfield 46, 3) := by decide +kernel
theorem dX2_mendBellows_51 : decode cX2_mendBellows 51 = .ok (.aload_n 3, 1) := by decide +kernel
theorem dX2_mendBellows_52 : decode cX2_mendBellows 52 = .ok (.iload_n 2, 1) := by decide +kernel
theorem dX2_mendBellows_53 : decode cX2_mendBellows 53 = .ok (.invokevirtual 97, 3) := by decide +kernel
theorem dX2_mendBellows_56 : decode cX2_mendBellows 56 = .ok (.isub, 1) := by decide +kernel
theorem dX2_mendBellows_57 : decode cX2_mendBellows 57 = .ok (.putfield 46, 3) := by decide +kernel
theorem dX2_mendBellows_60 : decode cX2_mendBellows 60 = .ok (.aload_n 0, 1) := by decide +kernel
theorem dX2_mendBellows_61 : decode cX2_mendBellows 61 = .ok (.dup, 1) := by decide +kernel
theorem dX2_mendBellows_62 : decode cX2_mendBellows 62 = .ok (.getfield 52, 3) := by decide +kernel
theorem dX2_mendBellows_65 : decode cX2_mendBellows 65 = .ok (.iload 4, 2) := by decide +kernel
theorem dX2_mendBellows_67 : decode cX2_mendBellows 67 = .ok (.iadd, 1) := by decide +kernel
theorem dX2_mendBellows_68 : decode cX2_mendBellows 68 = .ok (.putfield 52, 3) := by decide +kernel
theorem dX2_mendBellows_71 : decode cX2_mendBellows 71 = .ok (.aload_n 3, 1) := by decide +kernel
theorem dX2_mendBellows_72 : decode cX2_mendBellows 72 = .ok (.dup, 1) := by decide +kernel
theorem dX2_mendBellows_73 : decode cX2_mendBellows 73 = .ok (.getfield 100, 3) := by decide +kernel
theorem dX2_mendBellows_76 : decode cX2_mendBellows 76 = .ok (.iload 4, 2) := by decide +kernel
theorem dX2_mendBellows_78 : decode cX2_mendBellows 78 = .ok (.iadd, 1) := by decide +kernel
theorem dX2_mendBellows_79 : decode cX2_mendBellows 79 = .ok (.putfield 100, 3) := by decide +kernel
theorem dX2_mendBellows_82 : decode cX2_mendBellows 82 = .ok (.aload_n 3, 1) := by decide +kernel
theorem dX2_mendBellows_83 : decode cX2_mendBellows 83 = .ok (.aload_n 3, 1) := by decide +kernel
theorem dX2_mendBellows_84 : decode cX2_mendBellows 84 = .ok (.iload_n 2, 1) := by decide +kernel
theorem dX2_mendBellows_85 : decode cX2_mendBellows 85 = .ok (.invokevirtual 103, 3) := by decide +kernel
theorem dX2_mendBellows_88 : decode cX2_mendBellows 88 = .ok (.putfield 106, 3) := by decide +kernel
theorem dX2_mendBellows_91 : decode cX2_mendBellows 91 = .ok (.aload_n 3, 1) := by decide +kernel
theorem dX2_mendBellows_92 : decode cX2_mendBellows 92 = .ok (.dup, 1) := by decide +kernel
theorem dX2_mendBellows_93 : decode cX2_mendBellows 93 = .ok (.getfield 109, 3) := by decide +kernel
theorem dX2_mendBellows_96 : decode cX2_mendBellows 96 = .ok (.iconst 1, 1) := by decide +kernel
theorem dX2_mendBellows_97 : decode cX2_mendBellows 97 = .ok (.iadd, 1) := by decide +kernel
theorem dX2_mendBellows_98 : decode cX2_mendBellows 98 = .ok (.putfield 109, 3) := by decide +kernel
theorem dX2_mendBellows_101 : decode cX2_mendBellows 101 = .ok (.iload_n 2, 1) := by decide +kernel
theorem dX2_mendBellows_102 : decode cX2_mendBellows 102 = .ok (.ifCond .eq 10, 3) := by decide +kernel
theorem dX2_mendBellows_105 : decode cX2_mendBellows 105 = .ok (.aload_n 3, 1) := by decide +kernel
theorem dX2_mendBellows_106 : decode cX2_mendBellows 106 = .ok (.getfield 100, 3) := by decide +kernel
theorem dX2_mendBellows_109 : decode cX2_mendBellows 109 = .ok (.goto 7, 3) := by decide +kernel
theorem dX2_mendBellows_112 : decode cX2_mendBellows 112 = .ok (.aload_n 3, 1) := by decide +kernel
theorem dX2_mendBellows_113 : decode cX2_mendBellows 113 = .ok (.getfield 106, 3) := by decide +kernel
theorem dX2_mendBellows_116 : decode cX2_mendBellows 116 = .ok (.ireturn, 1) := by decide +kernel
set_option maxRecDepth 20000 in
theorem ggX2_collectDebt_X2_find : GoodIn wsX2_collectDebt wsX2_find := goodIn_r _ [13, 14, 15, 29, 30, 31, 32, 33, 34, 35, 36, 37, 38, 39, 40, 41, 42, 43] (by decide +kernel) (by decide +kernel)
set_option maxRecDepth 20000 in
theorem gX2_collectDebt_X2_find : GoodIn wsX2_collectDebt (wsV RX2 61 RX2 yX2_find wsX2_find) := goodIn_app (goodIn_of _ (by decide +kernel)) ggX2_collectDebt_X2_find
set_option maxRecDepth 20000 in
theorem ggX2_collectDebt_X2_isCold : GoodIn wsX2_collectDebt wsX2_isCold := goodIn_r _ [19, 20, 29, 30, 31, 32, 33, 34, 35, 36, 37, 38, 39, 40, 41, 42, 43] (by decide +kernel) (by decide +kernel)
set_option maxRecDepth 20000 in
theorem gX2_collectDebt_X2_isCold : GoodIn wsX2_collectDebt (wsV RX2 116 RX2 yX2_isCold wsX2_isCold) := goodIn_app (goodIn_of _ (by decide +kernel)) ggX2_collectDebt_X2_isCold
theorem dX2_collectDebt_0 : decode cX2_collectDebt 0 = .ok (.aload_n 0, 1) := by decide +kernel
theorem dX2_collectDebt_1 : decode cX2_collectDebt 1 = .ok (.iload_n 1, 1) := by decide +kernel
theorem dX2_collectDebt_2 : decode cX2_collectDebt 2 = .ok (.invokevirtual 61, 3) := by decide +kernel
theorem dX2_collectDebt_5 : decode cX2_collectDebt 5 = .ok (.astore_n 2, 1) := by decide +kernel
theorem dX2_collectDebt_6 : decode cX2_collectDebt 6 = .ok (.aload_n 2, 1) := by decide +kernel
theorem dX2_collectDebt_7 : decode cX2_collectDebt 7 = .ok (.ifnonnull 6, 3) := by decide +kernel
theorem dX2_collectDebt_10 : decode cX2_collectDebt 10 = .ok (.ldc 69, 2) := by decide +kernel
theorem dX2_collectDebt_12 : decode cX2_collectDebt 12 = .ok (.ireturn, 1) := by decide +kernel
theorem dX2_collectDebt_13 : decode cX2_collectDebt 13 = .ok (.aload_n 2, 1) := by decide +kernel
theorem dX2_collectDebt_14 : decode cX2_collectDebt 14 = .ok (.getfield 112, 3) := by decide +kernel
theorem dX2_collectDebt_17 : decode cX2_collectDebt 17 = .ok (.aload_n 0, 1) := by decide +kernel
theorem dX2_collectDebt_18 : decode cX2_collectDebt 18 = .ok (.getfield 43, 3) := by decide +kernel
theorem dX2_collectDebt_21 : decode cX2_collectDebt 21 = .ok (.if_icmp .ne 10, 3) := by decide +kernel
theorem dX2_collectDebt_24 : decode cX2_collectDebt 24 = .ok (.aload_n 2, 1) := by decide +kernel
theorem dX2_collectDebt_25 : decode cX2_collectDebt 25 = .ok (.getfield 100, 3) := by decide +kernel
theorem dX2_collectDebt_28 : decode cX2_collectDebt 28 = .ok (.ifCond .gt 6, 3) := by decide +kernel
theorem dX2_collectDebt_31 : decode cX2_collectDebt 31 = .ok (.ldc 79, 2) := by decide +kernel
theorem dX2_collectDebt_33 : decode cX2_collectDebt 33 = .ok (.ireturn, 1) := by decide +kernel
theorem dX2_collectDebt_34 : decode cX2_collectDebt 34 = .ok (.aload_n 0, 1) := by decide +kernel
theorem dX2_collectDebt_35 : decode cX2_collectDebt 35 = .ok (.aload_n 2, 1) := by decide +kernel
theorem dX2_collectDebt_36 : decode cX2_collectDebt 36 = .ok (.getfield 113, 3) := by decide +kernel
theorem dX2_collectDebt_39 : decode cX2_collectDebt 39 = .ok (.invokevirtual 116, 3) := by decide +kernel
theorem dX2_collectDebt_42 : decode cX2_collectDebt 42 = .ok (.ifCond .eq 12, 3) := by decide +kernel
theorem dX2_collectDebt_45 : decode cX2_collectDebt 45 = .ok (.aload_n 2, 1) := by decide +kernel
theorem dX2_collectDebt_46 : decode cX2_collectDebt 46 = .ok (.getfield 100, 3) := by decide +kernel
theorem dX2_collectDebt_49 : decode cX2_collectDebt 49 = .ok (.iconst 2, 1) := by decide +kernel
theorem dX2_collectDebt_50 : decode cX2_collectDebt 50 = .ok (.idiv, 1) := by decide +kernel
theorem dX2_collectDebt_51 : decode cX2_collectDebt 51 = .ok (.goto 7, 3) := by decide +kernel
theorem dX2_collectDebt_54 : decode cX2_collectDebt 54 = .ok (.aload_n 2, 1) := by decide +kernel
theorem dX2_collectDebt_55 : decode cX2_collectDebt 55 = .ok (.getfield 100, 3) := by decide +kernel
theorem dX2_collectDebt_58 : decode cX2_collectDebt 58 = .ok (.istore_n 3, 1) := by decide +kernel
theorem dX2_collectDebt_59 : decode cX2_collectDebt 59 = .ok (.aload_n 2, 1) := by decide +kernel
theorem dX2_collectDebt_60 : decode cX2_collectDebt 60 = .ok (.dup, 1) := by decide +kernel
theorem dX2_collectDebt_61 : decode cX2_collectDebt 61 = .ok (.getfield 100, 3) := by decide +kernel
theorem dX2_collectDebt_64 : decode cX2_collectDebt 64 = .ok (.iload_n 3, 1) := by decide +kernel
theorem dX2_collectDebt_65 : decode cX2_collectDebt 65 = .ok (.isub, 1) := by decide +kernel
theorem dX2_collectDebt_66 : decode cX2_collectDebt 66 = .ok (.putfield 100, 3) := by decide +kernel
theorem dX2_collectDebt_69 : decode cX2_collectDebt 69 = .ok (.aload_n 2, 1) := by decide +kernel
theorem dX2_collectDebt_70 : decode cX2_collectDebt 70 = .ok (.dup, 1) := by decide +kernel
theorem dX2_collectDebt_71 : decode cX2_collectDebt 71 = .ok (.getfield 120, 3) := by decide +kernel
theorem dX2_collectDebt_74 : decode cX2_collectDebt 74 = .ok (.iload_n 3, 1) := by decide +kernel
theorem dX2_collectDebt_75 : decode cX2_collectDebt 75 = .ok (.iadd, 1) := by decide +kernel
theorem dX2_collectDebt_76 : decode cX2_collectDebt 76 = .ok (.putfield 120, 3) := by decide +kernel
theorem dX2_collectDebt_79 : decode cX2_collectDebt 79 = .ok (.aload_n 0, 1) := by decide +kernel
theorem dX2_collectDebt_80 : decode cX2_collectDebt 80 = .ok (.dup, 1) := by decide +kernel
theorem dX2_collectDebt_81 : decode cX2_collectDebt 81 = .ok (.getfield 33, 3) := by decide +kernel
theorem dX2_collectDebt_84 : decode cX2_collectDebt 84 = .ok (.iload_n 3, 1) := by decide +kernel
theorem dX2_collectDebt_85 : decode cX2_collectDebt 85 = .ok (.iadd, 1) := by decide +kernel
theorem dX2_collectDebt_86 : decode cX2_collectDebt 86 = .ok (.putfield 33, 3) := by decide +kernel
theorem dX2_collectDebt_89 : decode cX2_collectDebt 89 = .ok (.iload_n 3, 1) := by decide +kernel
theorem dX2_collectDebt_90 : decode cX2_collectDebt 90 = .ok (.ireturn, 1) := by decide +kernel
set_option maxRecDepth 20000 in
theorem ggX2_endDays_X2_find : GoodIn wsX2_endDays wsX2_find := goodIn_r _ [11, 4, 12, 54, 55, 56, 57, 58, 59, 60, 61, 62, 63, 64, 65, 66, 67, 68] (by decide +kernel) (by decide +kernel)
set_option maxRecDepth 20000 in
theorem gX2_endDays_X2_find : GoodIn wsX2_endDays (wsV RX2 61 RX2 yX2_find wsX2_find) := goodIn_app (goodIn_of _ (by decide +kernel)) ggX2_endDays_X2_find
set_option maxRecDepth 20000 in
theorem ggX2_endDays_X2_endDayOf : GoodIn wsX2_endDays wsX2_endDayOf := goodIn_r _ [16, 17, 18, 19, 20, 21, 22, 23, 24, 25, 26, 27, 28, 29, 30, 31, 32, 33, 34, 35, 36, 37, 38, 39, 40, 10, 41, 42, 69, 70, 71, 72, 73, 74, 75, 76, 54, 55, 56, 57, 58, 59, 60, 61, 62, 63, 64, 65, 66, 67, 68] (by decide +kernel) (by decide +kernel)
set_option maxRecDepth 20000 in
theorem gX2_endDays_X2_endDayOf : GoodIn wsX2_endDays (wsV RX2 123 RX2 yX2_endDayOf wsX2_endDayOf) := goodIn_app (goodIn_of _ (by decide +kernel)) ggX2_endDays_X2_endDayOf
set_option maxRecDepth 20000 in
theorem ggX2_endDays_X2_coldSet : GoodIn wsX2_endDays wsX2_coldSet := goodIn_r _ [46, 4, 19, 7, 8, 9, 10, 11, 12, 38, 39, 40, 41, 42, 54, 55, 56, 57, 58, 59, 60, 61, 62, 63, 64, 65, 66, 67, 68, 69, 70, 71, 72, 73, 74, 75, 76] (by decide +kernel) (by decide +kernel)
set_option maxRecDepth 20000 in
theorem gX2_endDays_X2_coldSet : GoodIn wsX2_endDays (wsV RX2 126 RX2 yX2_coldSet wsX2_coldSet) := goodIn_app (goodIn_of _ (by decide +kernel)) ggX2_endDays_X2_coldSet
set_option maxRecDepth 20000 in
theorem ggX2_endDays_J6_bitCount_0f7a4 : GoodIn wsX2_endDays wsJ6_bitCount_0f7a4 := goodIn_r _ [50, 51, 52, 53] (by decide +kernel) (by decide +kernel)
set_option maxRecDepth 20000 in
theorem gX2_endDays_J6_bitCount_0f7a4 : GoodIn wsX2_endDays (va_wsS RX2 130 yJ6_bitCount_0f7a4 wsJ6_bitCount_0f7a4) := goodIn_app (goodIn_of _ (by decide +kernel)) ggX2_endDays_J6_bitCount_0f7a4
theorem dX2_endDays_0 : decode cX2_endDays 0 = .ok (.iload_n 1, 1) := by decide +kernel
theorem dX2_endDays_1 : decode cX2_endDays 1 = .ok (.iconst 1, 1) := by decide +kernel
theorem dX2_endDays_2 : decode cX2_endDays 2 = .ok (.if_icmp .lt 9, 3) := by decide +kernel
theorem dX2_endDays_5 : decode cX2_endDays 5 = .ok (.iload_n 1, 1) := by decide +kernel
theorem dX2_endDays_6 : decode cX2_endDays 6 = .ok (.bipush 99, 2) := by decide +kernel
theorem dX2_endDays_8 : decode cX2_endDays 8 = .ok (.if_icmp .le 6, 3) := by decide +kernel
theorem dX2_endDays_11 : decode cX2_endDays 11 = .ok (.ldc 69, 2) := by decide +kernel
theorem dX2_endDays_13 : decode cX2_endDays 13 = .ok (.ireturn, 1) := by decide +kernel
theorem dX2_endDays_14 : decode cX2_endDays 14 = .ok (.aload_n 0, 1) := by decide +kernel
theorem dX2_endDays_15 : decode cX2_endDays 15 = .ok (.getfield 40, 3) := by decide +kernel
theorem dX2_endDays_18 : decode cX2_endDays 18 = .ok (.iload_n 1, 1) := by decide +kernel
theorem dX2_endDays_19 : decode cX2_endDays 19 = .ok (.iadd, 1) := by decide +kernel
theorem dX2_endDays_20 : decode cX2_endDays 20 = .ok (.sipush 9999, 3) := by decide +kernel
theorem dX2_endDays_23 : decode cX2_endDays 23 = .ok (.if_icmp .le 6, 3) := by decide +kernel
theorem dX2_endDays_26 : decode cX2_endDays 26 = .ok (.ldc 70, 2) := by decide +kernel
theorem dX2_endDays_28 : decode cX2_endDays 28 = .ok (.ireturn, 1) := by decide +kernel
theorem dX2_endDays_29 : decode cX2_endDays 29 = .ok (.iconst 0, 1) := by decide +kernel
theorem dX2_endDays_30 : decode cX2_endDays 30 = .ok (.istore_n 2, 1) := by decide +kernel
theorem dX2_endDays_31 : decode cX2_endDays 31 = .ok (.iload_n 2, 1) := by decide +kernel
theorem dX2_endDays_32 : decode cX2_endDays 32 = .ok (.aload_n 0, 1) := by decide +kernel
theorem dX2_endDays_33 : decode cX2_endDays 33 = .ok (.getfield 37, 3) := by decide +kernel
theorem dX2_endDays_36 : decode cX2_endDays 36 = .ok (.if_icmp .ge 39, 3) := by decide +kernel
theorem dX2_endDays_39 : decode cX2_endDays 39 = .ok (.aload_n 0, 1) := by decide +kernel
theorem dX2_endDays_40 : decode cX2_endDays 40 = .ok (.iload_n 2, 1) := by decide +kernel
theorem dX2_endDays_41 : decode cX2_endDays 41 = .ok (.invokevirtual 61, 3) := by decide +kernel
theorem dX2_endDays_44 : decode cX2_endDays 44 = .ok (.astore_n 3, 1) := by decide +kernel
theorem dX2_endDays_45 : decode cX2_endDays 45 = .ok (.iconst 0, 1) := by decide +kernel
theorem dX2_endDays_46 : decode cX2_endDays 46 = .ok (.istore 4, 2) := by decide +kernel
theorem dX2_endDays_48 : decode cX2_endDays 48 = .ok (.iload 4, 2) := by decide +kernel
theorem dX2_endDays_50 : decode cX2_endDays 50 = .ok (.iload_n 1, 1) := by decide +kernel
theorem dX2_endDays_51 : decode cX2_endDays 51 = .ok (.if_icmp .ge 18, 3) := by decide +kernel
theorem dX2_endDays_54 : decode cX2_endDays 54 = .ok (.aload_n 3, 1) := by decide +kernel
theorem dX2_endDays_55 : decode cX2_endDays 55 = .ok (.ifnull 14, 3) := by decide +kernel
theorem dX2_endDays_58 : decode cX2_endDays 58 = .ok (.aload_n 0, 1) := by decide +kernel
theorem dX2_endDays_59 : decode cX2_endDays 59 = .ok (.aload_n 3, 1) := by decide +kernel
theorem dX2_endDays_60 : decode cX2_endDays 60 = .ok (.invokevirtual 123, 3) := by decide +kernel
theorem dX2_endDays_63 : decode cX2_endDays 63 = .ok (.iinc 4 1, 3) := by decide +kernel
theorem dX2_endDays_66 : decode cX2_endDays 66 = .ok (.goto (-18), 3) := by decide +kernel
theorem dX2_endDays_69 : decode cX2_endDays 69 = .ok (.iinc 2 1, 3) := by decide +kernel
theorem dX2_endDays_72 : decode cX2_endDays 72 = .ok (.goto (-41), 3) := by decide +kernel
theorem dX2_endDays_75 : decode cX2_endDays 75 = .ok (.aload_n 0, 1) := by decide +kernel
theorem dX2_endDays_76 : decode cX2_endDays 76 = .ok (.dup, 1) := by decide +kernel
theorem dX2_endDays_77 : decode cX2_endDays 77 = .ok (.getfield 40, 3) := by decide +kernel
theorem dX2_endDays_80 : decode cX2_endDays 80 = .ok (.iload_n 1, 1) := by decide +kernel
theorem dX2_endDays_81 : decode cX2_endDays 81 = .ok (.iadd, 1) := by decide +kernel
theorem dX2_endDays_82 : decode cX2_endDays 82 = .ok (.putfield 40, 3) := by decide +kernel
theorem dX2_endDays_85 : decode cX2_endDays 85 = .ok (.aload_n 0, 1) := by decide +kernel
theorem dX2_endDays_86 : decode cX2_endDays 86 = .ok (.aload_n 0, 1) := by decide +kernel
theorem dX2_endDays_87 : decode cX2_endDays 87 = .ok (.getfield 21, 3) := by decide +kernel
theorem dX2_endDays_90 : decode cX2_endDays 90 = .ok (.putfield 30, 3) := by decide +kernel
theorem dX2_endDays_93 : decode cX2_endDays 93 = .ok (.aload_n 0, 1) := by decide +kernel
theorem dX2_endDays_94 : decode cX2_endDays 94 = .ok (.invokevirtual 126, 3) := by decide +kernel
theorem dX2_endDays_97 : decode cX2_endDays 97 = .ok (.invokestatic 130, 3) := by decide +kernel
theorem dX2_endDays_100 : decode cX2_endDays 100 = .ok (.ireturn, 1) := by decide +kernel
set_option maxRecDepth 20000 in
theorem ggX2_endDayOf_X3_wearBehindDay : GoodIn wsX2_endDayOf wsX3_wearBehindDay := goodIn_r _ [12, 13, 14, 8, 15] (by decide +kernel) (by decide +kernel)
set_option maxRecDepth 20000 in
theorem gX2_endDayOf_X3_wearBehindDay_n138 : GoodIn wsX2_endDayOf (wsX3_wearBehindDay) := ggX2_endDayOf_X3_wearBehindDay
set_option maxRecDepth 20000 in
theorem ggX2_endDayOf_X3_heatBehindDay : GoodIn wsX2_endDayOf wsX3_heatBehindDay := goodIn_r _ [17, 13, 14, 8, 15, 18, 7, 9, 19, 20, 11, 21] (by decide +kernel) (by decide +kernel)
set_option maxRecDepth 20000 in
theorem gX2_endDayOf_X3_heatBehindDay_n141 : GoodIn wsX2_endDayOf (wsX3_heatBehindDay) := ggX2_endDayOf_X3_heatBehindDay
set_option maxRecDepth 20000 in
theorem ggX2_endDayOf_X2_isCold : GoodIn wsX2_endDayOf wsX2_isCold := goodIn_r _ [26, 27, 36, 37, 38, 39, 40, 41, 42, 43, 44, 45, 46, 47, 48, 49, 50] (by decide +kernel) (by decide +kernel)
set_option maxRecDepth 20000 in
theorem gX2_endDayOf_X2_isCold : GoodIn wsX2_endDayOf (wsV RX2 116 RX2 yX2_isCold wsX2_isCold) := goodIn_app (goodIn_of _ (by decide +kernel)) ggX2_endDayOf_X2_isCold
theorem dX2_endDayOf_0 : decode cX2_endDayOf 0 = .ok (.aload_n 1, 1) := by decide +kernel
theorem dX2_endDayOf_1 : decode cX2_endDayOf 1 = .ok (.aload_n 1, 1) := by decide +kernel
theorem dX2_endDayOf_2 : decode cX2_endDayOf 2 = .ok (.getfield 106, 3) := by decide +kernel
theorem dX2_endDayOf_5 : decode cX2_endDayOf 5 = .ok (.aload_n 1, 1) := by decide +kernel
theorem dX2_endDayOf_6 : decode cX2_endDayOf 6 = .ok (.getfield 135, 3) := by decide +kernel
theorem dX2_endDayOf_9 : decode cX2_endDayOf 9 = .ok (.invokestatic 138, 3) := by decide +kernel
theorem dX2_endDayOf_12 : decode cX2_endDayOf 12 = .ok (.putfield 106, 3) := by decide +kernel
theorem dX2_endDayOf_15 : decode cX2_endDayOf 15 = .ok (.aload_n 1, 1) := by decide +kernel
theorem dX2_endDayOf_16 : decode cX2_endDayOf 16 = .ok (.aload_n 1, 1) := by decide +kernel
theorem dX2_endDayOf_17 : decode cX2_endDayOf 17 = .ok (.getfield 113, 3) := by decide +kernel
theorem dX2_endDayOf_20 : decode cX2_endDayOf 20 = .ok (.aload_n 1, 1) := by decide +kernel
theorem dX2_endDayOf_21 : decode cX2_endDayOf 21 = .ok (.getfield 106, 3) := by decide +kernel
theorem dX2_endDayOf_24 : decode cX2_endDayOf 24 = .ok (.invokestatic 141, 3) := by decide +kernel
theorem dX2_endDayOf_27 : decode cX2_endDayOf 27 = .ok (.putfield 113, 3) := by decide +kernel
theorem dX2_endDayOf_30 : decode cX2_endDayOf 30 = .ok (.aload_n 1, 1) := by decide +kernel
theorem dX2_endDayOf_31 : decode cX2_endDayOf 31 = .ok (.aload_n 0, 1) := by decide +kernel
theorem dX2_endDayOf_32 : decode cX2_endDayOf 32 = .ok (.aload_n 1, 1) := by decide +kernel
theorem dX2_endDayOf_33 : decode cX2_endDayOf 33 = .ok (.getfield 113, 3) := by decide +kernel
theorem dX2_endDayOf_36 : decode cX2_endDayOf 36 = .ok (.invokevirtual 116, 3) := by decide +kernel
theorem dX2_endDayOf_39 : decode cX2_endDayOf 39 = .ok (.ifCond .eq 12, 3) := by decide +kernel
theorem dX2_endDayOf_42 : decode cX2_endDayOf 42 = .ok (.aload_n 1, 1) := by decide +kernel
theorem dX2_endDayOf_43 : decode cX2_endDayOf 43 = .ok (.getfield 144, 3) := by decide +kernel
theorem dX2_endDayOf_46 : decode cX2_endDayOf 46 = .ok (.iconst 1, 1) := by decide +kernel
theorem dX2_endDayOf_47 : decode cX2_endDayOf 47 = .ok (.iadd, 1) := by decide +kernel
theorem dX2_endDayOf_48 : decode cX2_endDayOf 48 = .ok (.goto 4, 3) := by decide +kernel
theorem dX2_endDayOf_51 : decode cX2_endDayOf 51 = .ok (.iconst 0, 1) := by decide +kernel
theorem dX2_endDayOf_52 : decode cX2_endDayOf 52 = .ok (.putfield 144, 3) := by decide +kernel
theorem dX2_endDayOf_55 : decode cX2_endDayOf 55 = .ok (.aload_n 0, 1) := by decide +kernel
theorem dX2_endDayOf_56 : decode cX2_endDayOf 56 = .ok (.aload_n 0, 1) := by decide +kernel
theorem dX2_endDayOf_57 : decode cX2_endDayOf 57 = .ok (.getfield 55, 3) := by decide +kernel
theorem dX2_endDayOf_60 : decode cX2_endDayOf 60 = .ok (.aload_n 1, 1) := by decide +kernel
theorem dX2_endDayOf_61 : decode cX2_endDayOf 61 = .ok (.getfield 144, 3) := by decide +kernel
theorem dX2_endDayOf_64 : decode cX2_endDayOf 64 = .ok (.invokestatic 147, 3) := by decide +kernel
theorem dX2_endDayOf_67 : decode cX2_endDayOf 67 = .ok (.putfield 55, 3) := by decide +kernel
theorem dX2_endDayOf_70 : decode cX2_endDayOf 70 = .ok (.return_, 1) := by decide +kernel
set_option maxRecDepth 20000 in
theorem ggX2_changeSetting_X2_isInRange : GoodIn wsX2_changeSetting wsX2_isInRange := goodIn_r _ [9] (by decide +kernel) (by decide +kernel)
set_option maxRecDepth 20000 in
theorem gX2_changeSetting_X2_isInRange : GoodIn wsX2_changeSetting (va_wsS RX2 150 yX2_isInRange wsX2_isInRange) := goodIn_app (goodIn_of _ (by decide +kernel)) ggX2_changeSetting_X2_isInRange
theorem dX2_changeSetting_0 : decode cX2_changeSetting 0 = .ok (.iload_n 1, 1) := by decide +kernel
theorem dX2_changeSetting_1 : decode cX2_changeSetting 1 = .ok (.iload_n 2, 1) := by decide +kernel
theorem dX2_changeSetting_2 : decode cX2_changeSetting 2 = .ok (.invokestatic 150, 3) := by decide +kernel
theorem dX2_changeSetting_5 : decode cX2_changeSetting 5 = .ok (.ifCond .ne 6, 3) := by decide +kernel
theorem dX2_changeSetting_8 : decode cX2_changeSetting 8 = .ok (.ldc 69, 2) := by decide +kernel
theorem dX2_changeSetting_10 : decode cX2_changeSetting 10 = .ok (.ireturn, 1) := by decide +kernel
theorem dX2_changeSetting_11 : decode cX2_changeSetting 11 = .ok (.iload_n 1, 1) := by decide +kernel
theorem dX2_changeSetting_12 : decode cX2_changeSetting 12 = .ok (.tableswitch 64 0 2 #[28, 40, 52], 28) := by decide +kernel
theorem dX2_changeSetting_40 : decode cX2_changeSetting 40 = .ok (.aload_n 0, 1) := by decide +kernel
theorem dX2_changeSetting_41 : decode cX2_changeSetting 41 = .ok (.getfield 17, 3) := by decide +kernel
theorem dX2_changeSetting_44 : decode cX2_changeSetting 44 = .ok (.istore_n 3, 1) := by decide +kernel
theorem dX2_changeSetting_45 : decode cX2_changeSetting 45 = .ok (.aload_n 0, 1) := by decide +kernel
theorem dX2_changeSetting_46 : decode cX2_changeSetting 46 = .ok (.iload_n 2, 1) := by decide +kernel
theorem dX2_changeSetting_47 : decode cX2_changeSetting 47 = .ok (.putfield 17, 3) := by decide +kernel
theorem dX2_changeSetting_50 : decode cX2_changeSetting 50 = .ok (.iload_n 3, 1) := by decide +kernel
theorem dX2_changeSetting_51 : decode cX2_changeSetting 51 = .ok (.ireturn, 1) := by decide +kernel
theorem dX2_changeSetting_52 : decode cX2_changeSetting 52 = .ok (.aload_n 0, 1) := by decide +kernel
theorem dX2_changeSetting_53 : decode cX2_changeSetting 53 = .ok (.getfield 21, 3) := by decide +kernel
theorem dX2_changeSetting_56 : decode cX2_changeSetting 56 = .ok (.istore_n 3, 1) := by decide +kernel
theorem dX2_changeSetting_57 : decode cX2_changeSetting 57 = .ok (.aload_n 0, 1) := by decide +kernel
theorem dX2_changeSetting_58 : decode cX2_changeSetting 58 = .ok (.iload_n 2, 1) := by decide +kernel
theorem dX2_changeSetting_59 : decode cX2_changeSetting 59 = .ok (.putfield 21, 3) := by decide +kernel
theorem dX2_changeSetting_62 : decode cX2_changeSetting 62 = .ok (.iload_n 3, 1) := by decide +kernel
theorem dX2_changeSetting_63 : decode cX2_changeSetting 63 = .ok (.ireturn, 1) := by decide +kernel
theorem dX2_changeSetting_64 : decode cX2_changeSetting 64 = .ok (.aload_n 0, 1) := by decide +kernel
theorem dX2_changeSetting_65 : decode cX2_changeSetting 65 = .ok (.getfield 24, 3) := by decide +kernel
theorem dX2_changeSetting_68 : decode cX2_changeSetting 68 = .ok (.istore_n 3, 1) := by decide +kernel
theorem dX2_changeSetting_69 : decode cX2_changeSetting 69 = .ok (.aload_n 0, 1) := by decide +kernel
theorem dX2_changeSetting_70 : decode cX2_changeSetting 70 = .ok (.iload_n 2, 1) := by decide +kernel
theorem dX2_changeSetting_71 : decode cX2_changeSetting 71 = .ok (.putfield 24, 3) := by decide +kernel
theorem dX2_changeSetting_74 : decode cX2_changeSetting 74 = .ok (.iload_n 3, 1) := by decide +kernel
theorem dX2_changeSetting_75 : decode cX2_changeSetting 75 = .ok (.ireturn, 1) := by decide +kernel
theorem dX2_changeSetting_76 : decode cX2_changeSetting 76 = .ok (.aload_n 0, 1) := by decide +kernel
theorem dX2_changeSetting_77 : decode cX2_changeSetting 77 = .ok (.getfield 27, 3) := by decide +kernel
theorem dX2_changeSetting_80 : decode cX2_changeSetting 80 = .ok (.istore_n 3, 1) := by decide +kernel
theorem dX2_changeSetting_81 : decode cX2_changeSetting 81 = .ok (.aload_n 0, 1) := by decide +kernel
theorem dX2_changeSetting_82 : decode cX2_changeSetting 82 = .ok (.iload_n 2, 1) := by decide +kernel
theorem dX2_changeSetting_83 : decode cX2_changeSetting 83 = .ok (.putfield 27, 3) := by decide +kernel
theorem dX2_changeSetting_86 : decode cX2_changeSetting 86 = .ok (.iload_n 3, 1) := by decide +kernel
theorem dX2_changeSetting_87 : decode cX2_changeSetting 87 = .ok (.ireturn, 1) := by decide +kernel
theorem dX2_isInRange_0 : decode cX2_isInRange 0 = .ok (.iload_n 0, 1) := by decide +kernel
theorem dX2_isInRange_1 : decode cX2_isInRange 1 = .ok (.tableswitch 98 0 3 #[31, 48, 65, 81], 31) := by decide +kernel
theorem dX2_isInRange_32 : decode cX2_isInRange 32 = .ok (.iload_n 1, 1) := by decide +kernel
theorem dX2_isInRange_33 : decode cX2_isInRange 33 = .ok (.iconst 1, 1) := by decide +kernel
theorem dX2_isInRange_34 : decode cX2_isInRange 34 = .ok (.if_icmp .lt 13, 3) := by decide +kernel
theorem dX2_isInRange_37 : decode cX2_isInRange 37 = .ok (.iload_n 1, 1) := by decide +kernel
theorem dX2_isInRange_38 : decode cX2_isInRange 38 = .ok (.bipush 99, 2) := by decide +kernel
theorem dX2_isInRange_40 : decode cX2_isInRange 40 = .ok (.if_icmp .gt 7, 3) := by decide +kernel
theorem dX2_isInRange_43 : decode cX2_isInRange 43 = .ok (.iconst 1, 1) := by decide +kernel
theorem dX2_isInRange_44 : decode cX2_isInRange 44 = .ok (.goto 4, 3) := by decide +kernel
theorem dX2_isInRange_47 : decode cX2_isInRange 47 = .ok (.iconst 0, 1) := by decide +kernel
theorem dX2_isInRange_48 : decode cX2_isInRange 48 = .ok (.ireturn, 1) := by decide +kernel
theorem dX2_isInRange_49 : decode cX2_isInRange 49 = .ok (.iload_n 1, 1) := by decide +kernel
theorem dX2_isInRange_50 : decode cX2_isInRange 50 = .ok (.iconst 1, 1) := by decide +kernel
theorem dX2_isInRange_51 : decode cX2_isInRange 51 = .ok (.if_icmp .lt 13, 3) := by decide +kernel
theorem dX2_isInRange_54 : decode cX2_isInRange 54 = .ok (.iload_n 1, 1) := by decide +kernel
theorem dX2_isInRange_55 : decode cX2_isInRange 55 = .ok (.bipush 24, 2) := by decide +kernel
theorem dX2_isInRange_57 : decode cX2_isInRange 57 = .ok (.if_icmp .gt 7, 3) := by decide +kernel
theorem dX2_isInRange_60 : decode cX2_isInRange 60 = .ok (.iconst 1, 1) := by decide +kernel
theorem dX2_isInRange_61 : decode cX2_isInRange 61 = .ok (.goto 4, 3) := by decide +kernel
theorem dX2_isInRange_64 : decode cX2_isInRange 64 = .ok (.iconst 0, 1) := by decide +kernel
theorem dX2_isInRange_65 : decode cX2_isInRange 65 = .ok (.ireturn, 1) := by decide +kernel
theorem dX2_isInRange_66 : decode cX2_isInRange 66 = .ok (.iload_n 1, 1) := by decide +kernel
theorem dX2_isInRange_67 : decode cX2_isInRange 67 = .ok (.ifCond .lt 13, 3) := by decide +kernel
theorem dX2_isInRange_70 : decode cX2_isInRange 70 = .ok (.iload_n 1, 1) := by decide +kernel
theorem dX2_isInRange_71 : decode cX2_isInRange 71 = .ok (.bipush 20, 2) := by decide +kernel
theorem dX2_isInRange_73 : decode cX2_isInRange 73 = .ok (.if_icmp .gt 7, 3) := by decide +kernel
theorem dX2_isInRange_76 : decode cX2_isInRange 76 = .ok (.iconst 1, 1) := by decide +kernel
theorem dX2_isInRange_77 : decode cX2_isInRange 77 = .ok (.goto 4, 3) := by decide +kernel
theorem dX2_isInRange_80 : decode cX2_isInRange 80 = .ok (.iconst 0, 1) := by decide +kernel
theorem dX2_isInRange_81 : decode cX2_isInRange 81 = .ok (.ireturn, 1) := by decide +kernel
theorem dX2_isInRange_82 : decode cX2_isInRange 82 = .ok (.iload_n 1, 1) := by decide +kernel
theorem dX2_isInRange_83 : decode cX2_isInRange 83 = .ok (.ifCond .lt 14, 3) := by decide +kernel
theorem dX2_isInRange_86 : decode cX2_isInRange 86 = .ok (.iload_n 1, 1) := by decide +kernel
theorem dX2_isInRange_87 : decode cX2_isInRange 87 = .ok (.sipush 500, 3) := by decide +kernel
theorem dX2_isInRange_90 : decode cX2_isInRange 90 = .ok (.if_icmp .gt 7, 3) := by decide +kernel
theorem dX2_isInRange_93 : decode cX2_isInRange 93 = .ok (.iconst 1, 1) := by decide +kernel
theorem dX2_isInRange_94 : decode cX2_isInRange 94 = .ok (.goto 4, 3) := by decide +kernel
theorem dX2_isInRange_97 : decode cX2_isInRange 97 = .ok (.iconst 0, 1) := by decide +kernel
theorem dX2_isInRange_98 : decode cX2_isInRange 98 = .ok (.ireturn, 1) := by decide +kernel
theorem dX2_isInRange_99 : decode cX2_isInRange 99 = .ok (.iconst 0, 1) := by decide +kernel
theorem dX2_isInRange_100 : decode cX2_isInRange 100 = .ok (.ireturn, 1) := by decide +kernel
set_option maxRecDepth 20000 in
theorem ggX2_doOrder_X2_walkTo : GoodIn wsX2_doOrder wsX2_walkTo := goodIn_r _ [6, 1, 7, 8, 9, 10, 11, 12, 13, 14, 15, 16, 17, 18, 19, 20, 21, 121, 122, 123, 124, 125, 126, 127, 128, 129, 130, 131, 132, 133, 134, 135] (by decide +kernel) (by decide +kernel)
set_option maxRecDepth 20000 in
theorem gX2_doOrder_X2_walkTo : GoodIn wsX2_doOrder (wsV RX2 154 RX2 yX2_walkTo wsX2_walkTo) := goodIn_app (goodIn_of _ (by decide +kernel)) ggX2_doOrder_X2_walkTo
set_option maxRecDepth 20000 in
theorem ggX2_doOrder_X2_buyLeather : GoodIn wsX2_doOrder wsX2_buyLeather := goodIn_r _ [25, 1, 7, 9, 26, 27, 28, 29, 121, 122, 123, 124, 125, 126, 127, 128, 129, 130, 131, 132, 133, 134, 135] (by decide +kernel) (by decide +kernel)
set_option maxRecDepth 20000 in
theorem gX2_doOrder_X2_buyLeather : GoodIn wsX2_doOrder (wsV RX2 157 RX2 yX2_buyLeather wsX2_buyLeather) := goodIn_app (goodIn_of _ (by decide +kernel)) ggX2_doOrder_X2_buyLeather
set_option maxRecDepth 20000 in
theorem ggX2_doOrder_X2_mendBellows : GoodIn wsX2_doOrder wsX2_mendBellows := goodIn_r _ [33, 1, 9, 8, 26, 34, 35, 36, 37, 38, 39, 40, 5, 41, 42, 43, 44, 45, 46, 47, 48, 7, 49, 16, 50, 51, 52, 53, 54, 55, 56, 57, 20, 21, 58, 59, 60, 61, 62, 63, 64, 65, 66, 67, 68, 69, 70, 71, 121, 122, 123, 124, 125, 126, 127, 128, 129, 130, 131, 132, 133, 134, 135, 136, 137, 138, 139, 140, 141, 142, 143] (by decide +kernel) (by decide +kernel)
set_option maxRecDepth 20000 in
theorem gX2_doOrder_X2_mendBellows : GoodIn wsX2_doOrder (wsV RX2 160 RX2 yX2_mendBellows wsX2_mendBellows) := goodIn_app (goodIn_of _ (by decide +kernel)) ggX2_doOrder_X2_mendBellows
set_option maxRecDepth 20000 in
theorem ggX2_doOrder_X2_collectDebt : GoodIn wsX2_doOrder wsX2_collectDebt := goodIn_r _ [75, 1, 48, 7, 35, 9, 76, 77, 28, 38, 39, 40, 5, 41, 42, 43, 78, 79, 80, 81, 82, 136, 137, 138, 139, 140, 141, 142, 143, 121, 122, 123, 124, 125, 126, 127, 128, 129, 130, 131, 132, 133, 134, 135] (by decide +kernel) (by decide +kernel)
set_option maxRecDepth 20000 in
theorem gX2_doOrder_X2_collectDebt : GoodIn wsX2_doOrder (wsV RX2 164 RX2 yX2_collectDebt wsX2_collectDebt) := goodIn_app (goodIn_of _ (by decide +kernel)) ggX2_doOrder_X2_collectDebt
set_option maxRecDepth 20000 in
theorem ggX2_doOrder_X2_endDays : GoodIn wsX2_doOrder wsX2_endDays := goodIn_r _ [86, 1, 87, 27, 42, 88, 8, 38, 39, 40, 5, 41, 43, 89, 90, 91, 92, 36, 93, 76, 94, 95, 96, 97, 13, 98, 99, 16, 100, 101, 102, 103, 104, 105, 106, 107, 108, 109, 78, 79, 80, 81, 82, 110, 111, 112, 113, 114, 115, 116, 117, 118, 119, 120, 121, 122, 123, 124, 125, 126, 127, 128, 129, 130, 131, 132, 133, 134, 135, 136, 137, 138, 139, 140, 141, 142, 143] (by decide +kernel) (by decide +kernel)
set_option maxRecDepth 20000 in
theorem gX2_doOrder_X2_endDays : GoodIn wsX2_doOrder (wsV RX2 167 RX2 yX2_endDays wsX2_endDays) := goodIn_app (goodIn_of _ (by decide +kernel)) ggX2_doOrder_X2_endDays
theorem dX2_doOrder_0 : decode cX2_doOrder 0 = .ok (.iload_n 1, 1) := by decide +kernel
theorem dX2_doOrder_1 : decode cX2_doOrder 1 = .ok (.lookupswitch 97 #[(98, 65), (99, 85), (100, 91), (104, 78), (112, 71), (119, 59)], 59) := by decide +kernel
theorem dX2_doOrder_60 : decode cX2_doOrder 60 = .ok (.aload_n 0, 1) := by decide +kernel
theorem dX2_doOrder_61 : decode cX2_doOrder 61 = .ok (.iload_n 2, 1) := by decide +kernel
theorem dX2_doOrder_62 : decode cX2_doOrder 62 = .ok (.invokevirtual 154, 3) := by decide +kernel
theorem dX2_doOrder_65 : decode cX2_doOrder 65 = .ok (.ireturn, 1) := by decide +kernel
theorem dX2_doOrder_66 : decode cX2_doOrder 66 = .ok (.aload_n 0, 1) := by decide +kernel
theorem dX2_doOrder_67 : decode cX2_doOrder 67 = .ok (.iload_n 2, 1) := by decide +kernel
theorem dX2_doOrder_68 : decode cX2_doOrder 68 = .ok (.invokevirtual 157, 3) := by decide +kernel
theorem dX2_doOrder_71 : decode cX2_doOrder 71 = .ok (.ireturn, 1) := by decide +kernel
theorem dX2_doOrder_72 : decode cX2_doOrder 72 = .ok (.aload_n 0, 1) := by decide +kernel
theorem dX2_doOrder_73 : decode cX2_doOrder 73 = .ok (.iload_n 2, 1) := by decide +kernel
theorem dX2_doOrder_74 : decode cX2_doOrder 74 = .ok (.iconst 0, 1) := by decide +kernel
theorem dX2_doOrder_75 : decode cX2_doOrder 75 = .ok (.invokevirtual 160, 3) := by decide +kernel
theorem dX2_doOrder_78 : decode cX2_doOrder 78 = .ok (.ireturn, 1) := by decide +kernel
theorem dX2_doOrder_79 : decode cX2_doOrder 79 = .ok (.aload_n 0, 1) := by decide +kernel
theorem dX2_doOrder_80 : decode cX2_doOrder 80 = .ok (.iload_n 2, 1) := by decide +kernel
theorem dX2_doOrder_81 : decode cX2_doOrder 81 = .ok (.iconst 1, 1) := by decide +kernel
theorem dX2_doOrder_82 : decode cX2_doOrder 82 = .ok (.invokevirtual 160, 3) := by decide +kernel
theorem dX2_doOrder_85 : decode cX2_doOrder 85 = .ok (.ireturn, 1) := by decide +kernel
theorem dX2_doOrder_86 : decode cX2_doOrder 86 = .ok (.aload_n 0, 1) := by decide +kernel
theorem dX2_doOrder_87 : decode cX2_doOrder 87 = .ok (.iload_n 2, 1) := by decide +kernel
theorem dX2_doOrder_88 : decode cX2_doOrder 88 = .ok (.invokevirtual 164, 3) := by decide +kernel
theorem dX2_doOrder_91 : decode cX2_doOrder 91 = .ok (.ireturn, 1) := by decide +kernel
theorem dX2_doOrder_92 : decode cX2_doOrder 92 = .ok (.aload_n 0, 1) := by decide +kernel
theorem dX2_doOrder_93 : decode cX2_doOrder 93 = .ok (.iload_n 2, 1) := by decide +kernel
theorem dX2_doOrder_94 : decode cX2_doOrder 94 = .ok (.invokevirtual 167, 3) := by decide +kernel
theorem dX2_doOrder_97 : decode cX2_doOrder 97 = .ok (.ireturn, 1) := by decide +kernel
theorem dX2_doOrder_98 : decode cX2_doOrder 98 = .ok (.ldc 69, 2) := by decide +kernel
theorem dX2_doOrder_100 : decode cX2_doOrder 100 = .ok (.ireturn, 1) := by decide +kernel
theorem dX2_isCold_0 : decode cX2_isCold 0 = .ok (.iload_n 1, 1) := by decide +kernel
theorem dX2_isCold_1 : decode cX2_isCold 1 = .ok (.aload_n 0, 1) := by decide +kernel
theorem dX2_isCold_2 : decode cX2_isCold 2 = .ok (.getfield 17, 3) := by decide +kernel
theorem dX2_isCold_5 : decode cX2_isCold 5 = .ok (.if_icmp .ge 7, 3) := by decide +kernel
theorem dX2_isCold_8 : decode cX2_isCold 8 = .ok (.iconst 1, 1) := by decide +kernel
theorem dX2_isCold_9 : decode cX2_isCold 9 = .ok (.goto 4, 3) := by decide +kernel
theorem dX2_isCold_12 : decode cX2_isCold 12 = .ok (.iconst 0, 1) := by decide +kernel
theorem dX2_isCold_13 : decode cX2_isCold 13 = .ok (.ireturn, 1) := by decide +kernel
set_option maxRecDepth 20000 in
theorem ggX2_coldSet_X2_find : GoodIn wsX2_coldSet wsX2_find := goodIn_r _ [7, 1, 8, 14, 15, 16, 17, 18, 19, 20, 21, 22, 23, 24, 25, 26, 27, 28] (by decide +kernel) (by decide +kernel)
set_option maxRecDepth 20000 in
theorem gX2_coldSet_X2_find : GoodIn wsX2_coldSet (wsV RX2 61 RX2 yX2_find wsX2_find) := goodIn_app (goodIn_of _ (by decide +kernel)) ggX2_coldSet_X2_find
set_option maxRecDepth 20000 in
theorem ggX2_coldSet_X2_isCold : GoodIn wsX2_coldSet wsX2_isCold := goodIn_r _ [12, 13, 14, 15, 16, 17, 18, 19, 20, 21, 22, 23, 24, 25, 26, 27, 28] (by decide +kernel) (by decide +kernel)
set_option maxRecDepth 20000 in
theorem gX2_coldSet_X2_isCold : GoodIn wsX2_coldSet (wsV RX2 116 RX2 yX2_isCold wsX2_isCold) := goodIn_app (goodIn_of _ (by decide +kernel)) ggX2_coldSet_X2_isCold
theorem dX2_coldSet_0 : decode cX2_coldSet 0 = .ok (.iconst 0, 1) := by decide +kernel
theorem dX2_coldSet_1 : decode cX2_coldSet 1 = .ok (.istore_n 1, 1) := by decide +kernel
theorem dX2_coldSet_2 : decode cX2_coldSet 2 = .ok (.iconst 0, 1) := by decide +kernel
theorem dX2_coldSet_3 : decode cX2_coldSet 3 = .ok (.istore_n 2, 1) := by decide +kernel
theorem dX2_coldSet_4 : decode cX2_coldSet 4 = .ok (.iload_n 2, 1) := by decide +kernel
theorem dX2_coldSet_5 : decode cX2_coldSet 5 = .ok (.aload_n 0, 1) := by decide +kernel
theorem dX2_coldSet_6 : decode cX2_coldSet 6 = .ok (.getfield 37, 3) := by decide +kernel
theorem dX2_coldSet_9 : decode cX2_coldSet 9 = .ok (.if_icmp .ge 36, 3) := by decide +kernel
theorem dX2_coldSet_12 : decode cX2_coldSet 12 = .ok (.aload_n 0, 1) := by decide +kernel
theorem dX2_coldSet_13 : decode cX2_coldSet 13 = .ok (.iload_n 2, 1) := by decide +kernel
theorem dX2_coldSet_14 : decode cX2_coldSet 14 = .ok (.invokevirtual 61, 3) := by decide +kernel
theorem dX2_coldSet_17 : decode cX2_coldSet 17 = .ok (.astore_n 3, 1) := by decide +kernel
theorem dX2_coldSet_18 : decode cX2_coldSet 18 = .ok (.aload_n 3, 1) := by decide +kernel
theorem dX2_coldSet_19 : decode cX2_coldSet 19 = .ok (.ifnull 20, 3) := by decide +kernel
theorem dX2_coldSet_22 : decode cX2_coldSet 22 = .ok (.aload_n 0, 1) := by decide +kernel
theorem dX2_coldSet_23 : decode cX2_coldSet 23 = .ok (.aload_n 3, 1) := by decide +kernel
theorem dX2_coldSet_24 : decode cX2_coldSet 24 = .ok (.getfield 113, 3) := by decide +kernel
theorem dX2_coldSet_27 : decode cX2_coldSet 27 = .ok (.invokevirtual 116, 3) := by decide +kernel
theorem dX2_coldSet_30 : decode cX2_coldSet 30 = .ok (.ifCond .eq 9, 3) := by decide +kernel
theorem dX2_coldSet_33 : decode cX2_coldSet 33 = .ok (.iload_n 1, 1) := by decide +kernel
theorem dX2_coldSet_34 : decode cX2_coldSet 34 = .ok (.iconst 1, 1) := by decide +kernel
theorem dX2_coldSet_35 : decode cX2_coldSet 35 = .ok (.iload_n 2, 1) := by decide +kernel
theorem dX2_coldSet_36 : decode cX2_coldSet 36 = .ok (.ishl, 1) := by decide +kernel
theorem dX2_coldSet_37 : decode cX2_coldSet 37 = .ok (.ior, 1) := by decide +kernel
theorem dX2_coldSet_38 : decode cX2_coldSet 38 = .ok (.istore_n 1, 1) := by decide +kernel
theorem dX2_coldSet_39 : decode cX2_coldSet 39 = .ok (.iinc 2 1, 3) := by decide +kernel
theorem dX2_coldSet_42 : decode cX2_coldSet 42 = .ok (.goto (-38), 3) := by decide +kernel
theorem dX2_coldSet_45 : decode cX2_coldSet 45 = .ok (.iload_n 1, 1) := by decide +kernel
theorem dX2_coldSet_46 : decode cX2_coldSet 46 = .ok (.ireturn, 1) := by decide +kernel
set_option maxRecDepth 20000 in
theorem ggX2_wearTogether_X2_find : GoodIn wsX2_wearTogether wsX2_find := goodIn_r _ [7, 1, 8, 9, 10, 11, 12, 13, 14, 15, 16, 17, 18, 19, 20, 21, 22, 23] (by decide +kernel) (by decide +kernel)
set_option maxRecDepth 20000 in
theorem gX2_wearTogether_X2_find : GoodIn wsX2_wearTogether (wsV RX2 61 RX2 yX2_find wsX2_find) := goodIn_app (goodIn_of _ (by decide +kernel)) ggX2_wearTogether_X2_find
theorem dX2_wearTogether_0 : decode cX2_wearTogether 0 = .ok (.iconst 0, 1) := by decide +kernel
theorem dX2_wearTogether_1 : decode cX2_wearTogether 1 = .ok (.istore_n 1, 1) := by decide +kernel
theorem dX2_wearTogether_2 : decode cX2_wearTogether 2 = .ok (.iconst 0, 1) := by decide +kernel
theorem dX2_wearTogether_3 : decode cX2_wearTogether 3 = .ok (.istore_n 2, 1) := by decide +kernel
theorem dX2_wearTogether_4 : decode cX2_wearTogether 4 = .ok (.iload_n 2, 1) := by decide +kernel
theorem dX2_wearTogether_5 : decode cX2_wearTogether 5 = .ok (.aload_n 0, 1) := by decide +kernel
theorem dX2_wearTogether_6 : decode cX2_wearTogether 6 = .ok (.getfield 37, 3) := by decide +kernel
theorem dX2_wearTogether_9 : decode cX2_wearTogether 9 = .ok (.if_icmp .ge 26, 3) := by decide +kernel
theorem dX2_wearTogether_12 : decode cX2_wearTogether 12 = .ok (.aload_n 0, 1) := by decide +kernel
theorem dX2_wearTogether_13 : decode cX2_wearTogether 13 = .ok (.iload_n 2, 1) := by decide +kernel
theorem dX2_wearTogether_14 : decode cX2_wearTogether 14 = .ok (.invokevirtual 61, 3) := by decide +kernel
theorem dX2_wearTogether_17 : decode cX2_wearTogether 17 = .ok (.astore_n 3, 1) := by decide +kernel
theorem dX2_wearTogether_18 : decode cX2_wearTogether 18 = .ok (.aload_n 3, 1) := by decide +kernel
theorem dX2_wearTogether_19 : decode cX2_wearTogether 19 = .ok (.ifnull 10, 3) := by decide +kernel
theorem dX2_wearTogether_22 : decode cX2_wearTogether 22 = .ok (.iload_n 1, 1) := by decide +kernel
theorem dX2_wearTogether_23 : decode cX2_wearTogether 23 = .ok (.aload_n 3, 1) := by decide +kernel
theorem dX2_wearTogether_24 : decode cX2_wearTogether 24 = .ok (.getfield 106, 3) := by decide +kernel
theorem dX2_wearTogether_27 : decode cX2_wearTogether 27 = .ok (.iadd, 1) := by decide +kernel
theorem dX2_wearTogether_28 : decode cX2_wearTogether 28 = .ok (.istore_n 1, 1) := by decide +kernel
theorem dX2_wearTogether_29 : decode cX2_wearTogether 29 = .ok (.iinc 2 1, 3) := by decide +kernel
theorem dX2_wearTogether_32 : decode cX2_wearTogether 32 = .ok (.goto (-28), 3) := by decide +kernel
theorem dX2_wearTogether_35 : decode cX2_wearTogether 35 = .ok (.iload_n 1, 1) := by decide +kernel
theorem dX2_wearTogether_36 : decode cX2_wearTogether 36 = .ok (.ireturn, 1) := by decide +kernel
set_option maxRecDepth 20000 in
theorem ggX2_debtsTogether_X2_find : GoodIn wsX2_debtsTogether wsX2_find := goodIn_r _ [7, 1, 8, 9, 10, 11, 12, 13, 14, 15, 16, 17, 18, 19, 20, 21, 22, 23] (by decide +kernel) (by decide +kernel)
set_option maxRecDepth 20000 in
theorem gX2_debtsTogether_X2_find : GoodIn wsX2_debtsTogether (wsV RX2 61 RX2 yX2_find wsX2_find) := goodIn_app (goodIn_of _ (by decide +kernel)) ggX2_debtsTogether_X2_find
theorem dX2_debtsTogether_0 : decode cX2_debtsTogether 0 = .ok (.iconst 0, 1) := by decide +kernel
theorem dX2_debtsTogether_1 : decode cX2_debtsTogether 1 = .ok (.istore_n 1, 1) := by decide +kernel
theorem dX2_debtsTogether_2 : decode cX2_debtsTogether 2 = .ok (.iconst 0, 1) := by decide +kernel
theorem dX2_debtsTogether_3 : decode cX2_debtsTogether 3 = .ok (.istore_n 2, 1) := by decide +kernel
theorem dX2_debtsTogether_4 : decode cX2_debtsTogether 4 = .ok (.iload_n 2, 1) := by decide +kernel
theorem dX2_debtsTogether_5 : decode cX2_debtsTogether 5 = .ok (.aload_n 0, 1) := by decide +kernel
theorem dX2_debtsTogether_6 : decode cX2_debtsTogether 6 = .ok (.getfield 37, 3) := by decide +kernel
theorem dX2_debtsTogether_9 : decode cX2_debtsTogether 9 = .ok (.if_icmp .ge 26, 3) := by decide +kernel
theorem dX2_debtsTogether_12 : decode cX2_debtsTogether 12 = .ok (.aload_n 0, 1) := by decide +kernel
theorem dX2_debtsTogether_13 : decode cX2_debtsTogether 13 = .ok (.iload_n 2, 1) := by decide +kernel
theorem dX2_debtsTogether_14 : decode cX2_debtsTogether 14 = .ok (.invokevirtual 61, 3) := by decide +kernel
theorem dX2_debtsTogether_17 : decode cX2_debtsTogether 17 = .ok (.astore_n 3, 1) := by decide +kernel
theorem dX2_debtsTogether_18 : decode cX2_debtsTogether 18 = .ok (.aload_n 3, 1) := by decide +kernel
theorem dX2_debtsTogether_19 : decode cX2_debtsTogether 19 = .ok (.ifnull 10, 3) := by decide +kernel
theorem dX2_debtsTogether_22 : decode cX2_debtsTogether 22 = .ok (.iload_n 1, 1) := by decide +kernel
theorem dX2_debtsTogether_23 : decode cX2_debtsTogether 23 = .ok (.aload_n 3, 1) := by decide +kernel
theorem dX2_debtsTogether_24 : decode cX2_debtsTogether 24 = .ok (.getfield 100, 3) := by decide +kernel
theorem dX2_debtsTogether_27 : decode cX2_debtsTogether 27 = .ok (.iadd, 1) := by decide +kernel
theorem dX2_debtsTogether_28 : decode cX2_debtsTogether 28 = .ok (.istore_n 1, 1) := by decide +kernel
theorem dX2_debtsTogether_29 : decode cX2_debtsTogether 29 = .ok (.iinc 2 1, 3) := by decide +kernel
theorem dX2_debtsTogether_32 : decode cX2_debtsTogether 32 = .ok (.goto (-28), 3) := by decide +kernel
theorem dX2_debtsTogether_35 : decode cX2_debtsTogether 35 = .ok (.iload_n 1, 1) := by decide +kernel
theorem dX2_debtsTogether_36 : decode cX2_debtsTogether 36 = .ok (.ireturn, 1) := by decide +kernel
set_option maxRecDepth 20000 in
theorem ggX2_priceOfMend_X3_hoursOfMend : GoodIn wsX2_priceOfMend wsX3_hoursOfMend := goodIn_r _ [4] (by decide +kernel) (by decide +kernel)
set_option maxRecDepth 20000 in
theorem gX2_priceOfMend_X3_hoursOfMend_n93 : GoodIn wsX2_priceOfMend (wsX3_hoursOfMend) := ggX2_priceOfMend_X3_hoursOfMend
set_option maxRecDepth 20000 in
theorem ggX2_priceOfMend_X1_leatherOfMend : GoodIn wsX2_priceOfMend wsX1_leatherOfMend := goodIn_r _ [9, 10, 11, 12, 3, 13, 29, 30, 31, 32, 33, 34, 35, 36] (by decide +kernel) (by decide +kernel)
set_option maxRecDepth 20000 in
theorem gX2_priceOfMend_X1_leatherOfMend : GoodIn wsX2_priceOfMend (wsV RX2 97 RX1 yX1_leatherOfMend wsX1_leatherOfMend) := goodIn_app (goodIn_of _ (by decide +kernel)) ggX2_priceOfMend_X1_leatherOfMend
theorem dX2_priceOfMend_0 : decode cX2_priceOfMend 0 = .ok (.aload_n 0, 1) := by decide +kernel
theorem dX2_priceOfMend_1 : decode cX2_priceOfMend 1 = .ok (.getfield 24, 3) := by decide +kernel
theorem dX2_priceOfMend_4 : decode cX2_priceOfMend 4 = .ok (.iload_n 2, 1) := by decide +kernel
theorem dX2_priceOfMend_5 : decode cX2_priceOfMend 5 = .ok (.invokestatic 93, 3) := by decide +kernel
theorem dX2_priceOfMend_8 : decode cX2_priceOfMend 8 = .ok (.imul, 1) := by decide +kernel
theorem dX2_priceOfMend_9 : decode cX2_priceOfMend 9 = .ok (.iconst 3, 1) := by decide +kernel
theorem dX2_priceOfMend_10 : decode cX2_priceOfMend 10 = .ok (.aload_n 1, 1) := by decide +kernel
theorem dX2_priceOfMend_11 : decode cX2_priceOfMend 11 = .ok (.iload_n 2, 1) := by decide +kernel
theorem dX2_priceOfMend_12 : decode cX2_priceOfMend 12 = .ok (.invokevirtual 97, 3) := by decide +kernel
theorem dX2_priceOfMend_15 : decode cX2_priceOfMend 15 = .ok (.imul, 1) := by decide +kernel
theorem dX2_priceOfMend_16 : decode cX2_priceOfMend 16 = .ok (.iadd, 1) := by decide +kernel
theorem dX2_priceOfMend_17 : decode cX2_priceOfMend 17 = .ok (.ireturn, 1) := by decide +kernel
set_option maxRecDepth 20000 in
theorem ggX2_reasonAgainst_X3_hoursOfMend : GoodIn wsX2_reasonAgainst wsX3_hoursOfMend := goodIn_r _ [7] (by decide +kernel) (by decide +kernel)
set_option maxRecDepth 20000 in
theorem gX2_reasonAgainst_X3_hoursOfMend_n93 : GoodIn wsX2_reasonAgainst (wsX3_hoursOfMend) := ggX2_reasonAgainst_X3_hoursOfMend
set_option maxRecDepth 20000 in
theorem ggX2_reasonAgainst_X1_leatherOfMend : GoodIn wsX2_reasonAgainst wsX1_leatherOfMend := goodIn_r _ [12, 13, 14, 15, 6, 16, 25, 26, 27, 28, 29, 30, 31, 32] (by decide +kernel) (by decide +kernel)
set_option maxRecDepth 20000 in
theorem gX2_reasonAgainst_X1_leatherOfMend : GoodIn wsX2_reasonAgainst (wsV RX2 97 RX1 yX1_leatherOfMend wsX1_leatherOfMend) := goodIn_app (goodIn_of _ (by decide +kernel)) ggX2_reasonAgainst_X1_leatherOfMend
set_option maxRecDepth 20000 in
theorem ggX2_reasonAgainst_X2_reasonOfSmithy : GoodIn wsX2_reasonAgainst wsX2_reasonOfSmithy := goodIn_r _ [21, 22, 23, 24, 25, 26, 27, 28, 29, 30, 31, 32, 33, 34, 35, 36, 37, 38, 39, 40, 41, 42, 43, 44, 45, 46, 47] (by decide +kernel) (by decide +kernel)
set_option maxRecDepth 20000 in
theorem gX2_reasonAgainst_X2_reasonOfSmithy : GoodIn wsX2_reasonAgainst (wsV RX2 170 RX2 yX2_reasonOfSmithy wsX2_reasonOfSmithy) := goodIn_app (goodIn_of _ (by decide +kernel)) ggX2_reasonAgainst_X2_reasonOfSmithy
theorem dX2_reasonAgainst_0 : decode cX2_reasonAgainst 0 = .ok (.aload_n 1, 1) := by decide +kernel
theorem dX2_reasonAgainst_1 : decode cX2_reasonAgainst 1 = .ok (.getfield 112, 3) := by decide +kernel
theorem dX2_reasonAgainst_4 : decode cX2_reasonAgainst 4 = .ok (.aload_n 0, 1) := by decide +kernel
theorem dX2_reasonAgainst_5 : decode cX2_reasonAgainst 5 = .ok (.getfield 43, 3) := by decide +kernel
theorem dX2_reasonAgainst_8 : decode cX2_reasonAgainst 8 = .ok (.if_icmp .eq 5, 3) := by decide +kernel
theorem dX2_reasonAgainst_11 : decode cX2_reasonAgainst 11 = .ok (.iconst 1, 1) := by decide +kernel
theorem dX2_reasonAgainst_12 : decode cX2_reasonAgainst 12 = .ok (.ireturn, 1) := by decide +kernel
theorem dX2_reasonAgainst_13 : decode cX2_reasonAgainst 13 = .ok (.iload_n 2, 1) := by decide +kernel
theorem dX2_reasonAgainst_14 : decode cX2_reasonAgainst 14 = .ok (.invokestatic 93, 3) := by decide +kernel
theorem dX2_reasonAgainst_17 : decode cX2_reasonAgainst 17 = .ok (.aload_n 0, 1) := by decide +kernel
theorem dX2_reasonAgainst_18 : decode cX2_reasonAgainst 18 = .ok (.getfield 30, 3) := by decide +kernel
theorem dX2_reasonAgainst_21 : decode cX2_reasonAgainst 21 = .ok (.if_icmp .le 5, 3) := by decide +kernel
theorem dX2_reasonAgainst_24 : decode cX2_reasonAgainst 24 = .ok (.iconst 2, 1) := by decide +kernel
theorem dX2_reasonAgainst_25 : decode cX2_reasonAgainst 25 = .ok (.ireturn, 1) := by decide +kernel
theorem dX2_reasonAgainst_26 : decode cX2_reasonAgainst 26 = .ok (.aload_n 1, 1) := by decide +kernel
theorem dX2_reasonAgainst_27 : decode cX2_reasonAgainst 27 = .ok (.iload_n 2, 1) := by decide +kernel
theorem dX2_reasonAgainst_28 : decode cX2_reasonAgainst 28 = .ok (.invokevirtual 97, 3) := by decide +kernel
theorem dX2_reasonAgainst_31 : decode cX2_reasonAgainst 31 = .ok (.aload_n 0, 1) := by decide +kernel
theorem dX2_reasonAgainst_32 : decode cX2_reasonAgainst 32 = .ok (.getfield 46, 3) := by decide +kernel
theorem dX2_reasonAgainst_35 : decode cX2_reasonAgainst 35 = .ok (.if_icmp .le 5, 3) := by decide +kernel
theorem dX2_reasonAgainst_38 : decode cX2_reasonAgainst 38 = .ok (.iconst 3, 1) := by decide +kernel
theorem dX2_reasonAgainst_39 : decode cX2_reasonAgainst 39 = .ok (.ireturn, 1) := by decide +kernel
theorem dX2_reasonAgainst_40 : decode cX2_reasonAgainst 40 = .ok (.aload_n 0, 1) := by decide +kernel
theorem dX2_reasonAgainst_41 : decode cX2_reasonAgainst 41 = .ok (.aload_n 1, 1) := by decide +kernel
theorem dX2_reasonAgainst_42 : decode cX2_reasonAgainst 42 = .ok (.invokevirtual 170, 3) := by decide +kernel
theorem dX2_reasonAgainst_45 : decode cX2_reasonAgainst 45 = .ok (.ireturn, 1) := by decide +kernel
theorem dX2_reasonOfSmithy_0 : decode cX2_reasonOfSmithy 0 = .ok (.aload_n 1, 1) := by decide +kernel
theorem dX2_reasonOfSmithy_1 : decode cX2_reasonOfSmithy 1 = .ok (.getfield 100, 3) := by decide +kernel
theorem dX2_reasonOfSmithy_4 : decode cX2_reasonOfSmithy 4 = .ok (.aload_n 0, 1) := by decide +kernel
theorem dX2_reasonOfSmithy_5 : decode cX2_reasonOfSmithy 5 = .ok (.getfield 27, 3) := by decide +kernel
theorem dX2_reasonOfSmithy_8 : decode cX2_reasonOfSmithy 8 = .ok (.if_icmp .le 5, 3) := by decide +kernel
theorem dX2_reasonOfSmithy_11 : decode cX2_reasonOfSmithy 11 = .ok (.iconst 4, 1) := by decide +kernel
theorem dX2_reasonOfSmithy_12 : decode cX2_reasonOfSmithy 12 = .ok (.ireturn, 1) := by decide +kernel
theorem dX2_reasonOfSmithy_13 : decode cX2_reasonOfSmithy 13 = .ok (.aload_n 1, 1) := by decide +kernel
theorem dX2_reasonOfSmithy_14 : decode cX2_reasonOfSmithy 14 = .ok (.getfield 106, 3) := by decide +kernel
theorem dX2_reasonOfSmithy_17 : decode cX2_reasonOfSmithy 17 = .ok (.ifCond .ne 7, 3) := by decide +kernel
theorem dX2_reasonOfSmithy_20 : decode cX2_reasonOfSmithy 20 = .ok (.iconst 5, 1) := by decide +kernel
theorem dX2_reasonOfSmithy_21 : decode cX2_reasonOfSmithy 21 = .ok (.goto 4, 3) := by decide +kernel
theorem dX2_reasonOfSmithy_24 : decode cX2_reasonOfSmithy 24 = .ok (.iconst 0, 1) := by decide +kernel
theorem dX2_reasonOfSmithy_25 : decode cX2_reasonOfSmithy 25 = .ok (.ireturn, 1) := by decide +kernel
set_option maxRecDepth 20000 in
theorem ggX2_coldDaysAhead_X2_isCold : GoodIn wsX2_coldDaysAhead wsX2_isCold := goodIn_r _ [8, 9, 33, 34, 35, 36, 37, 38, 39, 40, 41, 42, 43, 44, 45, 46, 47] (by decide +kernel) (by decide +kernel)
set_option maxRecDepth 20000 in
theorem gX2_coldDaysAhead_X2_isCold : GoodIn wsX2_coldDaysAhead (wsV RX2 116 RX2 yX2_isCold wsX2_isCold) := goodIn_app (goodIn_of _ (by decide +kernel)) ggX2_coldDaysAhead_X2_isCold
set_option maxRecDepth 20000 in
theorem ggX2_coldDaysAhead_X3_wearBehindDay : GoodIn wsX2_coldDaysAhead wsX3_wearBehindDay := goodIn_r _ [12, 13, 14, 15, 16] (by decide +kernel) (by decide +kernel)
set_option maxRecDepth 20000 in
theorem gX2_coldDaysAhead_X3_wearBehindDay_n138 : GoodIn wsX2_coldDaysAhead (wsX3_wearBehindDay) := ggX2_coldDaysAhead_X3_wearBehindDay
set_option maxRecDepth 20000 in
theorem ggX2_coldDaysAhead_X3_heatBehindDay : GoodIn wsX2_coldDaysAhead wsX3_heatBehindDay := goodIn_r _ [18, 13, 14, 15, 16, 19, 20, 21, 22, 23, 11, 24] (by decide +kernel) (by decide +kernel)
set_option maxRecDepth 20000 in
theorem gX2_coldDaysAhead_X3_heatBehindDay_n141 : GoodIn wsX2_coldDaysAhead (wsX3_heatBehindDay) := ggX2_coldDaysAhead_X3_heatBehindDay
theorem dX2_coldDaysAhead_0 : decode cX2_coldDaysAhead 0 = .ok (.aload_n 1, 1) := by decide +kernel
theorem dX2_coldDaysAhead_1 : decode cX2_coldDaysAhead 1 = .ok (.getfield 106, 3) := by decide +kernel
theorem dX2_coldDaysAhead_4 : decode cX2_coldDaysAhead 4 = .ok (.istore_n 2, 1) := by decide +kernel
theorem dX2_coldDaysAhead_5 : decode cX2_coldDaysAhead 5 = .ok (.aload_n 1, 1) := by decide +kernel
theorem dX2_coldDaysAhead_6 : decode cX2_coldDaysAhead 6 = .ok (.getfield 113, 3) := by decide +kernel
theorem dX2_coldDaysAhead_9 : decode cX2_coldDaysAhead 9 = .ok (.istore_n 3, 1) := by decide +kernel
theorem dX2_coldDaysAhead_10 : decode cX2_coldDaysAhead 10 = .ok (.aload_n 0, 1) := by decide +kernel
theorem dX2_coldDaysAhead_11 : decode cX2_coldDaysAhead 11 = .ok (.iload_n 3, 1) := by decide +kernel
theorem dX2_coldDaysAhead_12 : decode cX2_coldDaysAhead 12 = .ok (.invokevirtual 116, 3) := by decide +kernel
theorem dX2_coldDaysAhead_15 : decode cX2_coldDaysAhead 15 = .ok (.ifCond .eq 5, 3) := by decide +kernel
theorem dX2_coldDaysAhead_18 : decode cX2_coldDaysAhead 18 = .ok (.iconst 0, 1) := by decide +kernel
theorem dX2_coldDaysAhead_19 : decode cX2_coldDaysAhead 19 = .ok (.ireturn, 1) := by decide +kernel
theorem dX2_coldDaysAhead_20 : decode cX2_coldDaysAhead 20 = .ok (.iconst 1, 1) := by decide +kernel
theorem dX2_coldDaysAhead_21 : decode cX2_coldDaysAhead 21 = .ok (.istore 4, 2) := by decide +kernel
theorem dX2_coldDaysAhead_23 : decode cX2_coldDaysAhead 23 = .ok (.iload 4, 2) := by decide +kernel
theorem dX2_coldDaysAhead_25 : decode cX2_coldDaysAhead 25 = .ok (.sipush 200, 3) := by decide +kernel
theorem dX2_coldDaysAhead_28 : decode cX2_coldDaysAhead 28 = .ok (.if_icmp .gt 35, 3) := by decide +kernel
theorem dX2_coldDaysAhead_31 : decode cX2_coldDaysAhead 31 = .ok (.iload_n 2, 1) := by decide +kernel
theorem dX2_coldDaysAhead_32 : decode cX2_coldDaysAhead 32 = .ok (.aload_n 1, 1) := by decide +kernel
theorem dX2_coldDaysAhead_33 : decode cX2_coldDaysAhead 33 = .ok (.getfield 135, 3) := by decide +kernel
theorem dX2_coldDaysAhead_36 : decode cX2_coldDaysAhead 36 = .ok (.invokestatic 138, 3) := by decide +kernel
theorem dX2_coldDaysAhead_39 : decode cX2_coldDaysAhead 39 = .ok (.istore_n 2, 1) := by decide +kernel
theorem dX2_coldDaysAhead_40 : decode cX2_coldDaysAhead 40 = .ok (.iload_n 3, 1) := by decide +kernel
theorem dX2_coldDaysAhead_41 : decode cX2_coldDaysAhead 41 = .ok (.iload_n 2, 1) := by decide +kernel
theorem dX2_coldDaysAhead_42 : decode cX2_coldDaysAhead 42 = .ok (.invokestatic 141, 3) := by decide +kernel
theorem dX2_coldDaysAhead_45 : decode cX2_coldDaysAhead 45 = .ok (.istore_n 3, 1) := by decide +kernel
theorem dX2_coldDaysAhead_46 : decode cX2_coldDaysAhead 46 = .ok (.aload_n 0, 1) := by decide +kernel
theorem dX2_coldDaysAhead_47 : decode cX2_coldDaysAhead 47 = .ok (.iload_n 3, 1) := by decide +kernel
theorem dX2_coldDaysAhead_48 : decode cX2_coldDaysAhead 48 = .ok (.invokevirtual 116, 3) := by decide +kernel
theorem dX2_coldDaysAhead_51 : decode cX2_coldDaysAhead 51 = .ok (.ifCond .eq 6, 3) := by decide +kernel
theorem dX2_coldDaysAhead_54 : decode cX2_coldDaysAhead 54 = .ok (.iload 4, 2) := by decide +kernel
theorem dX2_coldDaysAhead_56 : decode cX2_coldDaysAhead 56 = .ok (.ireturn, 1) := by decide +kernel
theorem dX2_coldDaysAhead_57 : decode cX2_coldDaysAhead 57 = .ok (.iinc 4 1, 3) := by decide +kernel
theorem dX2_coldDaysAhead_60 : decode cX2_coldDaysAhead 60 = .ok (.goto (-37), 3) := by decide +kernel
theorem dX2_coldDaysAhead_63 : decode cX2_coldDaysAhead 63 = .ok (.sipush 201, 3) := by decide +kernel
theorem dX2_coldDaysAhead_66 : decode cX2_coldDaysAhead 66 = .ok (.ireturn, 1) := by decide +kernel
set_option maxRecDepth 20000 in
theorem ggX2_smithyToBeNext_X2_find : GoodIn wsX2_smithyToBeNext wsX2_find := goodIn_r _ [8, 2, 9, 45, 46, 47, 48, 49, 50, 51, 52, 53, 54, 55, 56, 57, 58, 59] (by decide +kernel) (by decide +kernel)
set_option maxRecDepth 20000 in
theorem gX2_smithyToBeNext_X2_find : GoodIn wsX2_smithyToBeNext (wsV RX2 61 RX2 yX2_find wsX2_find) := goodIn_app (goodIn_of _ (by decide +kernel)) ggX2_smithyToBeNext_X2_find
set_option maxRecDepth 20000 in
theorem ggX2_smithyToBeNext_X2_comesBefore : GoodIn wsX2_smithyToBeNext wsX2_comesBefore := goodIn_r _ [13, 3, 14, 15, 16, 17, 18, 19, 20, 21, 22, 7, 23, 24, 25, 26, 27, 28, 29, 30, 31, 32, 33, 34, 35, 36, 37, 38, 39, 40, 41, 42, 43, 44, 60, 61, 62, 63, 64, 65, 66, 67, 45, 46, 47, 48, 49, 50, 51, 52, 53, 54, 55, 56, 57, 58, 59] (by decide +kernel) (by decide +kernel)
set_option maxRecDepth 20000 in
theorem gX2_smithyToBeNext_X2_comesBefore : GoodIn wsX2_smithyToBeNext (wsV RX2 175 RX2 yX2_comesBefore wsX2_comesBefore) := goodIn_app (goodIn_of _ (by decide +kernel)) ggX2_smithyToBeNext_X2_comesBefore
theorem dX2_smithyToBeNext_0 : decode cX2_smithyToBeNext 0 = .ok (.ldc 174, 2) := by decide +kernel
theorem dX2_smithyToBeNext_2 : decode cX2_smithyToBeNext 2 = .ok (.istore_n 1, 1) := by decide +kernel
theorem dX2_smithyToBeNext_3 : decode cX2_smithyToBeNext 3 = .ok (.aconst_null, 1) := by decide +kernel
theorem dX2_smithyToBeNext_4 : decode cX2_smithyToBeNext 4 = .ok (.astore_n 2, 1) := by decide +kernel
theorem dX2_smithyToBeNext_5 : decode cX2_smithyToBeNext 5 = .ok (.iconst 0, 1) := by decide +kernel
theorem dX2_smithyToBeNext_6 : decode cX2_smithyToBeNext 6 = .ok (.istore_n 3, 1) := by decide +kernel
theorem dX2_smithyToBeNext_7 : decode cX2_smithyToBeNext 7 = .ok (.iload_n 3, 1) := by decide +kernel
theorem dX2_smithyToBeNext_8 : decode cX2_smithyToBeNext 8 = .ok (.aload_n 0, 1) := by decide +kernel
theorem dX2_smithyToBeNext_9 : decode cX2_smithyToBeNext 9 = .ok (.getfield 37, 3) := by decide +kernel
theorem dX2_smithyToBeNext_12 : decode cX2_smithyToBeNext 12 = .ok (.if_icmp .ge 48, 3) := by decide +kernel
theorem dX2_smithyToBeNext_15 : decode cX2_smithyToBeNext 15 = .ok (.aload_n 0, 1) := by decide +kernel
theorem dX2_smithyToBeNext_16 : decode cX2_smithyToBeNext 16 = .ok (.iload_n 3, 1) := by decide +kernel
theorem dX2_smithyToBeNext_17 : decode cX2_smithyToBeNext 17 = .ok (.invokevirtual 61, 3) := by decide +kernel
theorem dX2_smithyToBeNext_20 : decode cX2_smithyToBeNext 20 = .ok (.astore 4, 2) := by decide +kernel
theorem dX2_smithyToBeNext_22 : decode cX2_smithyToBeNext 22 = .ok (.aload 4, 2) := by decide +kernel
theorem dX2_smithyToBeNext_24 : decode cX2_smithyToBeNext 24 = .ok (.ifnull 30, 3) := by decide +kernel
theorem dX2_smithyToBeNext_27 : decode cX2_smithyToBeNext 27 = .ok (.aload 4, 2) := by decide +kernel
theorem dX2_smithyToBeNext_29 : decode cX2_smithyToBeNext 29 = .ok (.getfield 106, 3) := by decide +kernel
theorem dX2_smithyToBeNext_32 : decode cX2_smithyToBeNext 32 = .ok (.ifCond .le 22, 3) := by decide +kernel
theorem dX2_smithyToBeNext_35 : decode cX2_smithyToBeNext 35 = .ok (.aload_n 2, 1) := by decide +kernel
theorem dX2_smithyToBeNext_36 : decode cX2_smithyToBeNext 36 = .ok (.ifnull 13, 3) := by decide +kernel
theorem dX2_smithyToBeNext_39 : decode cX2_smithyToBeNext 39 = .ok (.aload_n 0, 1) := by decide +kernel
theorem dX2_smithyToBeNext_40 : decode cX2_smithyToBeNext 40 = .ok (.aload 4, 2) := by decide +kernel
theorem dX2_smithyToBeNext_42 : decode cX2_smithyToBeNext 42 = .ok (.aload_n 2, 1) := by decide +kernel
theorem dX2_smithyToBeNext_43 : decode cX2_smithyToBeNext 43 = .ok (.invokevirtual 175, 3) := by decide +kernel
theorem dX2_smithyToBeNext_46 : decode cX2_smithyToBeNext 46 = .ok (.ifCond .eq 8, 3) := by decide +kernel
theorem dX2_smithyToBeNext_49 : decode cX2_smithyToBeNext 49 = .ok (.iload_n 3, 1) := by decide +kernel
theorem dX2_smithyToBeNext_50 : decode cX2_smithyToBeNext 50 = .ok (.istore_n 1, 1) := by decide +kernel
theorem dX2_smithyToBeNext_51 : decode cX2_smithyToBeNext 51 = .ok (.aload 4, 2) := by decide +kernel
theorem dX2_smithyToBeNext_53 : decode cX2_smithyToBeNext 53 = .ok (.astore_n 2, 1) := by decide +kernel
theorem dX2_smithyToBeNext_54 : decode cX2_smithyToBeNext 54 = .ok (.iinc 3 1, 3) := by decide +kernel
theorem dX2_smithyToBeNext_57 : decode cX2_smithyToBeNext 57 = .ok (.goto (-50), 3) := by decide +kernel
theorem dX2_smithyToBeNext_60 : decode cX2_smithyToBeNext 60 = .ok (.iload_n 1, 1) := by decide +kernel
theorem dX2_smithyToBeNext_61 : decode cX2_smithyToBeNext 61 = .ok (.ireturn, 1) := by decide +kernel
set_option maxRecDepth 20000 in
theorem ggX2_comesBefore_X2_coldDaysAhead : GoodIn wsX2_comesBefore wsX2_coldDaysAhead := goodIn_r _ [12, 1, 13, 14, 15, 16, 17, 11, 18, 19, 20, 21, 22, 23, 24, 6, 25, 26, 27, 28, 29, 30, 31, 32, 33, 34, 35, 36, 37, 38, 39, 40, 41, 42, 43, 44, 45, 46, 47, 48, 49, 50, 51, 52, 53, 54, 55, 56] (by decide +kernel) (by decide +kernel)
set_option maxRecDepth 20000 in
theorem gX2_comesBefore_X2_coldDaysAhead : GoodIn wsX2_comesBefore (wsV RX2 179 RX2 yX2_coldDaysAhead wsX2_coldDaysAhead) := goodIn_app (goodIn_of _ (by decide +kernel)) ggX2_comesBefore_X2_coldDaysAhead
end
section
theorem dX2_comesBefore_0 : decode cX2_comesBefore 0 = .ok (.aload_n 0, 1) := by decide +kernel
theorem dX2_comesBefore_1 : decode cX2_comesBefore 1 = .ok (.aload_n 1, 1) := by decide +kernel
theorem dX2_comesBefore_2 : decode cX2_comesBefore 2 = .ok (.invokevirtual 179, 3) := by decide +kernel
theorem dX2_comesBefore_5 : decode cX2_comesBefore 5 = .ok (.istore_n 3, 1) := by decide +kernel
theorem dX2_comesBefore_6 : decode cX2_comesBefore 6 = .ok (.aload_n 0, 1) := by decide +kernel
theorem dX2_comesBefore_7 : decode cX2_comesBefore 7 = .ok (.aload_n 2, 1) := by decide +kernel
theorem dX2_comesBefore_8 : decode cX2_comesBefore 8 = .ok (.invokevirtual 179, 3) := by decide +kernel
theorem dX2_comesBefore_11 : decode cX2_comesBefore 11 = .ok (.istore 4, 2) := by decide +kernel
theorem dX2_comesBefore_13 : decode cX2_comesBefore 13 = .ok (.iload_n 3, 1) := by decide +kernel
theorem dX2_comesBefore_14 : decode cX2_comesBefore 14 = .ok (.iload 4, 2) := by decide +kernel
theorem dX2_comesBefore_16 : decode cX2_comesBefore 16 = .ok (.if_icmp .eq 15, 3) := by decide +kernel
theorem dX2_comesBefore_19 : decode cX2_comesBefore 19 = .ok (.iload_n 3, 1) := by decide +kernel
theorem dX2_comesBefore_20 : decode cX2_comesBefore 20 = .ok (.iload 4, 2) := by decide +kernel
theorem dX2_comesBefore_22 : decode cX2_comesBefore 22 = .ok (.if_icmp .ge 7, 3) := by decide +kernel
theorem dX2_comesBefore_25 : decode cX2_comesBefore 25 = .ok (.iconst 1, 1) := by decide +kernel
theorem dX2_comesBefore_26 : decode cX2_comesBefore 26 = .ok (.goto 4, 3) := by decide +kernel
theorem dX2_comesBefore_29 : decode cX2_comesBefore 29 = .ok (.iconst 0, 1) := by decide +kernel
theorem dX2_comesBefore_30 : decode cX2_comesBefore 30 = .ok (.ireturn, 1) := by decide +kernel
theorem dX2_comesBefore_31 : decode cX2_comesBefore 31 = .ok (.aload_n 1, 1) := by decide +kernel
theorem dX2_comesBefore_32 : decode cX2_comesBefore 32 = .ok (.getfield 106, 3) := by decide +kernel
theorem dX2_comesBefore_35 : decode cX2_comesBefore 35 = .ok (.aload_n 2, 1) := by decide +kernel
theorem dX2_comesBefore_36 : decode cX2_comesBefore 36 = .ok (.getfield 106, 3) := by decide +kernel
theorem dX2_comesBefore_39 : decode cX2_comesBefore 39 = .ok (.if_icmp .eq 20, 3) := by decide +kernel
theorem dX2_comesBefore_42 : decode cX2_comesBefore 42 = .ok (.aload_n 1, 1) := by decide +kernel
theorem dX2_comesBefore_43 : decode cX2_comesBefore 43 = .ok (.getfield 106, 3) := by decide +kernel
theorem dX2_comesBefore_46 : decode cX2_comesBefore 46 = .ok (.aload_n 2, 1) := by decide +kernel
theorem dX2_comesBefore_47 : decode cX2_comesBefore 47 = .ok (.getfield 106, 3) := by decide +kernel
theorem dX2_comesBefore_50 : decode cX2_comesBefore 50 = .ok (.if_icmp .le 7, 3) := by decide +kernel
theorem dX2_comesBefore_53 : decode cX2_comesBefore 53 = .ok (.iconst 1, 1) := by decide +kernel
theorem dX2_comesBefore_54 : decode cX2_comesBefore 54 = .ok (.goto 4, 3) := by decide +kernel
theorem dX2_comesBefore_57 : decode cX2_comesBefore 57 = .ok (.iconst 0, 1) := by decide +kernel
theorem dX2_comesBefore_58 : decode cX2_comesBefore 58 = .ok (.ireturn, 1) := by decide +kernel
theorem dX2_comesBefore_59 : decode cX2_comesBefore 59 = .ok (.aload_n 1, 1) := by decide +kernel
theorem dX2_comesBefore_60 : decode cX2_comesBefore 60 = .ok (.getfield 112, 3) := by decide +kernel
theorem dX2_comesBefore_63 : decode cX2_comesBefore 63 = .ok (.aload_n 0, 1) := by decide +kernel
theorem dX2_comesBefore_64 : decode cX2_comesBefore 64 = .ok (.getfield 43, 3) := by decide +kernel
theorem dX2_comesBefore_67 : decode cX2_comesBefore 67 = .ok (.isub, 1) := by decide +kernel
theorem dX2_comesBefore_68 : decode cX2_comesBefore 68 = .ok (.invokestatic 80, 3) := by decide +kernel
theorem dX2_comesBefore_71 : decode cX2_comesBefore 71 = .ok (.aload_n 2, 1) := by decide +kernel
theorem dX2_comesBefore_72 : decode cX2_comesBefore 72 = .ok (.getfield 112, 3) := by decide +kernel
theorem dX2_comesBefore_75 : decode cX2_comesBefore 75 = .ok (.aload_n 0, 1) := by decide +kernel
theorem dX2_comesBefore_76 : decode cX2_comesBefore 76 = .ok (.getfield 43, 3) := by decide +kernel
theorem dX2_comesBefore_79 : decode cX2_comesBefore 79 = .ok (.isub, 1) := by decide +kernel
theorem dX2_comesBefore_80 : decode cX2_comesBefore 80 = .ok (.invokestatic 80, 3) := by decide +kernel
theorem dX2_comesBefore_83 : decode cX2_comesBefore 83 = .ok (.if_icmp .ge 7, 3) := by decide +kernel
theorem dX2_comesBefore_86 : decode cX2_comesBefore 86 = .ok (.iconst 1, 1) := by decide +kernel
theorem dX2_comesBefore_87 : decode cX2_comesBefore 87 = .ok (.goto 4, 3) := by decide +kernel
theorem dX2_comesBefore_90 : decode cX2_comesBefore 90 = .ok (.iconst 0, 1) := by decide +kernel
theorem dX2_comesBefore_91 : decode cX2_comesBefore 91 = .ok (.ireturn, 1) := by decide +kernel
set_option maxRecDepth 20000 in
theorem ggX2_tellRound_X2_firstOnRoad : GoodIn wsX2_tellRound wsX2_firstOnRoad := goodIn_r _ [8, 9, 3, 10, 11, 12, 7, 13, 14, 46, 47, 48, 49, 50, 51, 52, 53, 54, 55, 56, 57, 58, 59, 60, 61, 62, 63, 64, 65, 66, 67, 68] (by decide +kernel) (by decide +kernel)
set_option maxRecDepth 20000 in
theorem gX2_tellRound_X2_firstOnRoad : GoodIn wsX2_tellRound (wsV RX2 182 RX2 yX2_firstOnRoad wsX2_firstOnRoad) := goodIn_app (goodIn_of _ (by decide +kernel)) ggX2_tellRound_X2_firstOnRoad
set_option maxRecDepth 20000 in
theorem ggX2_tellRound_X2_find : GoodIn wsX2_tellRound wsX2_find := goodIn_r _ [13, 9, 14, 46, 47, 48, 49, 50, 51, 52, 53, 54, 55, 56, 57, 58, 59, 60] (by decide +kernel) (by decide +kernel)
set_option maxRecDepth 20000 in
theorem gX2_tellRound_X2_find : GoodIn wsX2_tellRound (wsV RX2 61 RX2 yX2_find wsX2_find) := goodIn_app (goodIn_of _ (by decide +kernel)) ggX2_tellRound_X2_find
set_option maxRecDepth 20000 in
theorem ggX2_tellRound_X3_hoursOfWay : GoodIn wsX2_tellRound wsX3_hoursOfWay := goodIn_r _ [17, 18, 19, 20, 21, 22, 23, 16, 24] (by decide +kernel) (by decide +kernel)
set_option maxRecDepth 20000 in
theorem gX2_tellRound_X3_hoursOfWay_n75 : GoodIn wsX2_tellRound (wsX3_hoursOfWay) := ggX2_tellRound_X3_hoursOfWay
set_option maxRecDepth 20000 in
theorem ggX2_tellRound_X2_reasonOfSmithy : GoodIn wsX2_tellRound wsX2_reasonOfSmithy := goodIn_r _ [28, 29, 30, 31, 61, 62, 63, 64, 65, 66, 67, 68, 46, 47, 48, 49, 50, 51, 52, 53, 54, 55, 56, 57, 58, 59, 60] (by decide +kernel) (by decide +kernel)
set_option maxRecDepth 20000 in
theorem gX2_tellRound_X2_reasonOfSmithy : GoodIn wsX2_tellRound (wsV RX2 170 RX2 yX2_reasonOfSmithy wsX2_reasonOfSmithy) := goodIn_app (goodIn_of _ (by decide +kernel)) ggX2_tellRound_X2_reasonOfSmithy
set_option maxRecDepth 20000 in
theorem ggX2_tellRound_X3_hoursOfMend : GoodIn wsX2_tellRound wsX3_hoursOfMend := goodIn_r _ [33] (by decide +kernel) (by decide +kernel)
set_option maxRecDepth 20000 in
theorem gX2_tellRound_X3_hoursOfMend_n93 : GoodIn wsX2_tellRound (wsX3_hoursOfMend) := ggX2_tellRound_X3_hoursOfMend
set_option maxRecDepth 20000 in
theorem ggX2_tellRound_X1_leatherOfMend : GoodIn wsX2_tellRound wsX1_leatherOfMend := goodIn_r _ [38, 39, 40, 23, 16, 24, 61, 62, 63, 64, 65, 66, 67, 68] (by decide +kernel) (by decide +kernel)
set_option maxRecDepth 20000 in
theorem gX2_tellRound_X1_leatherOfMend : GoodIn wsX2_tellRound (wsV RX2 97 RX1 yX1_leatherOfMend wsX1_leatherOfMend) := goodIn_app (goodIn_of _ (by decide +kernel)) ggX2_tellRound_X1_leatherOfMend
set_option maxRecDepth 20000 in
theorem ggX2_tellRound_X2_priceOfMend : GoodIn wsX2_tellRound wsX2_priceOfMend := goodIn_r _ [44, 45, 32, 16, 33, 34, 35, 36, 37, 38, 39, 40, 23, 24, 46, 47, 48, 49, 50, 51, 52, 53, 54, 55, 56, 57, 58, 59, 60, 61, 62, 63, 64, 65, 66, 67, 68] (by decide +kernel) (by decide +kernel)
set_option maxRecDepth 20000 in
theorem gX2_tellRound_X2_priceOfMend : GoodIn wsX2_tellRound (wsV RX2 90 RX2 yX2_priceOfMend wsX2_priceOfMend) := goodIn_app (goodIn_of _ (by decide +kernel)) ggX2_tellRound_X2_priceOfMend
theorem dX2_tellRound_0 : decode cX2_tellRound 0 = .ok (.iconst 0, 1) := by decide +kernel
theorem dX2_tellRound_1 : decode cX2_tellRound 1 = .ok (.istore_n 3, 1) := by decide +kernel
theorem dX2_tellRound_2 : decode cX2_tellRound 2 = .ok (.iconst 0, 1) := by decide +kernel
theorem dX2_tellRound_3 : decode cX2_tellRound 3 = .ok (.istore 4, 2) := by decide +kernel
theorem dX2_tellRound_5 : decode cX2_tellRound 5 = .ok (.iconst 0, 1) := by decide +kernel
theorem dX2_tellRound_6 : decode cX2_tellRound 6 = .ok (.istore 5, 2) := by decide +kernel
theorem dX2_tellRound_8 : decode cX2_tellRound 8 = .ok (.aload_n 0, 1) := by decide +kernel
theorem dX2_tellRound_9 : decode cX2_tellRound 9 = .ok (.getfield 43, 3) := by decide +kernel
theorem dX2_tellRound_12 : decode cX2_tellRound 12 = .ok (.istore 6, 2) := by decide +kernel
theorem dX2_tellRound_14 : decode cX2_tellRound 14 = .ok (.iload_n 1, 1) := by decide +kernel
theorem dX2_tellRound_15 : decode cX2_tellRound 15 = .ok (.istore 7, 2) := by decide +kernel
theorem dX2_tellRound_17 : decode cX2_tellRound 17 = .ok (.iconst 0, 1) := by decide +kernel
theorem dX2_tellRound_18 : decode cX2_tellRound 18 = .ok (.istore 8, 2) := by decide +kernel
theorem dX2_tellRound_20 : decode cX2_tellRound 20 = .ok (.iload 8, 2) := by decide +kernel
theorem dX2_tellRound_22 : decode cX2_tellRound 22 = .ok (.bipush 8, 2) := by decide +kernel
theorem dX2_tellRound_24 : decode cX2_tellRound 24 = .ok (.if_icmp .ge 108, 3) := by decide +kernel
theorem dX2_tellRound_27 : decode cX2_tellRound 27 = .ok (.iload 7, 2) := by decide +kernel
theorem dX2_tellRound_29 : decode cX2_tellRound 29 = .ok (.ifCond .eq 103, 3) := by decide +kernel
theorem dX2_tellRound_32 : decode cX2_tellRound 32 = .ok (.aload_n 0, 1) := by decide +kernel
theorem dX2_tellRound_33 : decode cX2_tellRound 33 = .ok (.iload 7, 2) := by decide +kernel
theorem dX2_tellRound_35 : decode cX2_tellRound 35 = .ok (.invokevirtual 182, 3) := by decide +kernel
theorem dX2_tellRound_38 : decode cX2_tellRound 38 = .ok (.istore 9, 2) := by decide +kernel
theorem dX2_tellRound_40 : decode cX2_tellRound 40 = .ok (.aload_n 0, 1) := by decide +kernel
theorem dX2_tellRound_41 : decode cX2_tellRound 41 = .ok (.iload 9, 2) := by decide +kernel
theorem dX2_tellRound_43 : decode cX2_tellRound 43 = .ok (.invokevirtual 61, 3) := by decide +kernel
theorem dX2_tellRound_46 : decode cX2_tellRound 46 = .ok (.astore 10, 2) := by decide +kernel
theorem dX2_tellRound_48 : decode cX2_tellRound 48 = .ok (.aload 10, 2) := by decide +kernel
theorem dX2_tellRound_50 : decode cX2_tellRound 50 = .ok (.ifnonnull 6, 3) := by decide +kernel
theorem dX2_tellRound_53 : decode cX2_tellRound 53 = .ok (.ldc 69, 2) := by decide +kernel
theorem dX2_tellRound_55 : decode cX2_tellRound 55 = .ok (.ireturn, 1) := by decide +kernel
theorem dX2_tellRound_56 : decode cX2_tellRound 56 = .ok (.iload 7, 2) := by decide +kernel
theorem dX2_tellRound_58 : decode cX2_tellRound 58 = .ok (.iconst 1, 1) := by decide +kernel
theorem dX2_tellRound_59 : decode cX2_tellRound 59 = .ok (.iload 9, 2) := by decide +kernel
theorem dX2_tellRound_61 : decode cX2_tellRound 61 = .ok (.ishl, 1) := by decide +kernel
theorem dX2_tellRound_62 : decode cX2_tellRound 62 = .ok (.iconst (-1), 1) := by decide +kernel
theorem dX2_tellRound_63 : decode cX2_tellRound 63 = .ok (.ixor, 1) := by decide +kernel
theorem dX2_tellRound_64 : decode cX2_tellRound 64 = .ok (.iand, 1) := by decide +kernel
theorem dX2_tellRound_65 : decode cX2_tellRound 65 = .ok (.istore 7, 2) := by decide +kernel
theorem dX2_tellRound_67 : decode cX2_tellRound 67 = .ok (.iload_n 3, 1) := by decide +kernel
theorem dX2_tellRound_68 : decode cX2_tellRound 68 = .ok (.iload 6, 2) := by decide +kernel
theorem dX2_tellRound_70 : decode cX2_tellRound 70 = .ok (.aload 10, 2) := by decide +kernel
theorem dX2_tellRound_72 : decode cX2_tellRound 72 = .ok (.getfield 112, 3) := by decide +kernel
theorem dX2_tellRound_75 : decode cX2_tellRound 75 = .ok (.invokestatic 75, 3) := by decide +kernel
theorem dX2_tellRound_78 : decode cX2_tellRound 78 = .ok (.iadd, 1) := by decide +kernel
theorem dX2_tellRound_79 : decode cX2_tellRound 79 = .ok (.istore_n 3, 1) := by decide +kernel
theorem dX2_tellRound_80 : decode cX2_tellRound 80 = .ok (.aload 10, 2) := by decide +kernel
theorem dX2_tellRound_82 : decode cX2_tellRound 82 = .ok (.getfield 112, 3) := by decide +kernel
theorem dX2_tellRound_85 : decode cX2_tellRound 85 = .ok (.istore 6, 2) := by decide +kernel
theorem dX2_tellRound_87 : decode cX2_tellRound 87 = .ok (.aload_n 0, 1) := by decide +kernel
theorem dX2_tellRound_88 : decode cX2_tellRound 88 = .ok (.aload 10, 2) := by decide +kernel
theorem dX2_tellRound_90 : decode cX2_tellRound 90 = .ok (.invokevirtual 170, 3) := by decide +kernel
theorem dX2_tellRound_93 : decode cX2_tellRound 93 = .ok (.ifCond .ne 33, 3) := by decide +kernel
theorem dX2_tellRound_96 : decode cX2_tellRound 96 = .ok (.iload_n 3, 1) := by decide +kernel
theorem dX2_tellRound_97 : decode cX2_tellRound 97 = .ok (.iconst 0, 1) := by decide +kernel
theorem dX2_tellRound_98 : decode cX2_tellRound 98 = .ok (.invokestatic 93, 3) := by decide +kernel
theorem dX2_tellRound_101 : decode cX2_tellRound 101 = .ok (.iadd, 1) := by decide +kernel
theorem dX2_tellRound_102 : decode cX2_tellRound 102 = .ok (.istore_n 3, 1) := by decide +kernel
theorem dX2_tellRound_103 : decode cX2_tellRound 103 = .ok (.iload 4, 2) := by decide +kernel
theorem dX2_tellRound_105 : decode cX2_tellRound 105 = .ok (.aload 10, 2) := by decide +kernel
theorem dX2_tellRound_107 : decode cX2_tellRound 107 = .ok (.iconst 0, 1) := by decide +kernel
theorem dX2_tellRound_108 : decode cX2_tellRound 108 = .ok (.invokevirtual 97, 3) := by decide +kernel
theorem dX2_tellRound_111 : decode cX2_tellRound 111 = .ok (.iadd, 1) := by decide +kernel
theorem dX2_tellRound_112 : decode cX2_tellRound 112 = .ok (.istore 4, 2) := by decide +kernel
theorem dX2_tellRound_114 : decode cX2_tellRound 114 = .ok (.iload 5, 2) := by decide +kernel
theorem dX2_tellRound_116 : decode cX2_tellRound 116 = .ok (.aload_n 0, 1) := by decide +kernel
theorem dX2_tellRound_117 : decode cX2_tellRound 117 = .ok (.aload 10, 2) := by decide +kernel
theorem dX2_tellRound_119 : decode cX2_tellRound 119 = .ok (.iconst 0, 1) := by decide +kernel
theorem dX2_tellRound_120 : decode cX2_tellRound 120 = .ok (.invokevirtual 90, 3) := by decide +kernel
theorem dX2_tellRound_123 : decode cX2_tellRound 123 = .ok (.iadd, 1) := by decide +kernel
theorem dX2_tellRound_124 : decode cX2_tellRound 124 = .ok (.istore 5, 2) := by decide +kernel
theorem dX2_tellRound_126 : decode cX2_tellRound 126 = .ok (.iinc 8 1, 3) := by decide +kernel
theorem dX2_tellRound_129 : decode cX2_tellRound 129 = .ok (.goto (-109), 3) := by decide +kernel
theorem dX2_tellRound_132 : decode cX2_tellRound 132 = .ok (.iload_n 2, 1) := by decide +kernel
theorem dX2_tellRound_133 : decode cX2_tellRound 133 = .ok (.ifCond .ne 7, 3) := by decide +kernel
theorem dX2_tellRound_136 : decode cX2_tellRound 136 = .ok (.iload_n 3, 1) := by decide +kernel
theorem dX2_tellRound_137 : decode cX2_tellRound 137 = .ok (.goto 15, 3) := by decide +kernel
theorem dX2_tellRound_140 : decode cX2_tellRound 140 = .ok (.iload_n 2, 1) := by decide +kernel
theorem dX2_tellRound_141 : decode cX2_tellRound 141 = .ok (.iconst 1, 1) := by decide +kernel
theorem dX2_tellRound_142 : decode cX2_tellRound 142 = .ok (.if_icmp .ne 8, 3) := by decide +kernel
theorem dX2_tellRound_145 : decode cX2_tellRound 145 = .ok (.iload 4, 2) := by decide +kernel
theorem dX2_tellRound_147 : decode cX2_tellRound 147 = .ok (.goto 5, 3) := by decide +kernel
theorem dX2_tellRound_150 : decode cX2_tellRound 150 = .ok (.iload 5, 2) := by decide +kernel
theorem dX2_tellRound_152 : decode cX2_tellRound 152 = .ok (.ireturn, 1) := by decide +kernel
set_option maxRecDepth 20000 in
theorem ggX2_firstOnRoad_X2_find : GoodIn wsX2_firstOnRoad wsX2_find := goodIn_r _ [7, 1, 8, 9, 10, 11, 12, 13, 14, 15, 16, 17, 18, 19, 20, 21, 22, 23] (by decide +kernel) (by decide +kernel)
set_option maxRecDepth 20000 in
theorem gX2_firstOnRoad_X2_find : GoodIn wsX2_firstOnRoad (wsV RX2 61 RX2 yX2_find wsX2_find) := goodIn_app (goodIn_of _ (by decide +kernel)) ggX2_firstOnRoad_X2_find
theorem dX2_firstOnRoad_0 : decode cX2_firstOnRoad 0 = .ok (.iconst (-1), 1) := by decide +kernel
theorem dX2_firstOnRoad_1 : decode cX2_firstOnRoad 1 = .ok (.istore_n 2, 1) := by decide +kernel
theorem dX2_firstOnRoad_2 : decode cX2_firstOnRoad 2 = .ok (.bipush 100, 2) := by decide +kernel
theorem dX2_firstOnRoad_4 : decode cX2_firstOnRoad 4 = .ok (.istore_n 3, 1) := by decide +kernel
theorem dX2_firstOnRoad_5 : decode cX2_firstOnRoad 5 = .ok (.iconst 0, 1) := by decide +kernel
theorem dX2_firstOnRoad_6 : decode cX2_firstOnRoad 6 = .ok (.istore 4, 2) := by decide +kernel
theorem dX2_firstOnRoad_8 : decode cX2_firstOnRoad 8 = .ok (.iload 4, 2) := by decide +kernel
theorem dX2_firstOnRoad_10 : decode cX2_firstOnRoad 10 = .ok (.aload_n 0, 1) := by decide +kernel
theorem dX2_firstOnRoad_11 : decode cX2_firstOnRoad 11 = .ok (.getfield 37, 3) := by decide +kernel
theorem dX2_firstOnRoad_14 : decode cX2_firstOnRoad 14 = .ok (.if_icmp .ge 49, 3) := by decide +kernel
theorem dX2_firstOnRoad_17 : decode cX2_firstOnRoad 17 = .ok (.aload_n 0, 1) := by decide +kernel
theorem dX2_firstOnRoad_18 : decode cX2_firstOnRoad 18 = .ok (.iload 4, 2) := by decide +kernel
theorem dX2_firstOnRoad_20 : decode cX2_firstOnRoad 20 = .ok (.invokevirtual 61, 3) := by decide +kernel
theorem dX2_firstOnRoad_23 : decode cX2_firstOnRoad 23 = .ok (.astore 5, 2) := by decide +kernel
theorem dX2_firstOnRoad_25 : decode cX2_firstOnRoad 25 = .ok (.aload 5, 2) := by decide +kernel
theorem dX2_firstOnRoad_27 : decode cX2_firstOnRoad 27 = .ok (.ifnull 30, 3) := by decide +kernel
theorem dX2_firstOnRoad_30 : decode cX2_firstOnRoad 30 = .ok (.iload_n 1, 1) := by decide +kernel
theorem dX2_firstOnRoad_31 : decode cX2_firstOnRoad 31 = .ok (.iconst 1, 1) := by decide +kernel
theorem dX2_firstOnRoad_32 : decode cX2_firstOnRoad 32 = .ok (.iload 4, 2) := by decide +kernel
theorem dX2_firstOnRoad_34 : decode cX2_firstOnRoad 34 = .ok (.ishl, 1) := by decide +kernel
theorem dX2_firstOnRoad_35 : decode cX2_firstOnRoad 35 = .ok (.iand, 1) := by decide +kernel
theorem dX2_firstOnRoad_36 : decode cX2_firstOnRoad 36 = .ok (.ifCond .eq 21, 3) := by decide +kernel
theorem dX2_firstOnRoad_39 : decode cX2_firstOnRoad 39 = .ok (.aload 5, 2) := by decide +kernel
theorem dX2_firstOnRoad_41 : decode cX2_firstOnRoad 41 = .ok (.getfield 112, 3) := by decide +kernel
theorem dX2_firstOnRoad_44 : decode cX2_firstOnRoad 44 = .ok (.iload_n 3, 1) := by decide +kernel
theorem dX2_firstOnRoad_45 : decode cX2_firstOnRoad 45 = .ok (.if_icmp .ge 12, 3) := by decide +kernel
theorem dX2_firstOnRoad_48 : decode cX2_firstOnRoad 48 = .ok (.iload 4, 2) := by decide +kernel
theorem dX2_firstOnRoad_50 : decode cX2_firstOnRoad 50 = .ok (.istore_n 2, 1) := by decide +kernel
theorem dX2_firstOnRoad_51 : decode cX2_firstOnRoad 51 = .ok (.aload 5, 2) := by decide +kernel
theorem dX2_firstOnRoad_53 : decode cX2_firstOnRoad 53 = .ok (.getfield 112, 3) := by decide +kernel
theorem dX2_firstOnRoad_56 : decode cX2_firstOnRoad 56 = .ok (.istore_n 3, 1) := by decide +kernel
theorem dX2_firstOnRoad_57 : decode cX2_firstOnRoad 57 = .ok (.iinc 4 1, 3) := by decide +kernel
theorem dX2_firstOnRoad_60 : decode cX2_firstOnRoad 60 = .ok (.goto (-52), 3) := by decide +kernel
theorem dX2_firstOnRoad_63 : decode cX2_firstOnRoad 63 = .ok (.iload_n 2, 1) := by decide +kernel
theorem dX2_firstOnRoad_64 : decode cX2_firstOnRoad 64 = .ok (.ireturn, 1) := by decide +kernel
set_option maxRecDepth 20000 in
theorem ggX3_init_X2_init : GoodIn wsX3_init wsX2_init := goodIn_r _ [16, 17, 2, 3, 18, 19, 20, 21, 22, 23, 24, 25, 26, 27, 28, 29, 30, 36, 37, 38, 39, 40, 41, 42, 43, 44, 45, 46, 47, 48, 49, 50, 66, 67, 68, 69, 70, 71, 72, 73] (by decide +kernel) (by decide +kernel)
set_option maxRecDepth 20000 in
theorem gX3_init_X2_init : GoodIn wsX3_init (wsX2_init) := ggX3_init_X2_init
set_option maxRecDepth 20000 in
theorem ggX3_init_X0_init : GoodIn wsX3_init wsX0_init := goodIn_r _ [32, 33, 2, 3, 34, 35, 60, 61, 62, 63, 64, 65] (by decide +kernel) (by decide +kernel)
set_option maxRecDepth 20000 in
theorem gX3_init_X0_init_n25 : GoodIn wsX3_init (wsX0_init) := ggX3_init_X0_init
theorem dX3_init_0 : decode cX3_init 0 = .ok (.aload_n 0, 1) := by decide +kernel
theorem dX3_init_1 : decode cX3_init 1 = .ok (.invokespecial 3, 3) := by decide +kernel
theorem dX3_init_4 : decode cX3_init 4 = .ok (.aload_n 0, 1) := by decide +kernel
theorem dX3_init_5 : decode cX3_init 5 = .ok (.new 9, 3) := by decide +kernel
theorem dX3_init_8 : decode cX3_init 8 = .ok (.dup, 1) := by decide +kernel
theorem dX3_init_9 : decode cX3_init 9 = .ok (.invokespecial 11, 3) := by decide +kernel
theorem dX3_init_12 : decode cX3_init 12 = .ok (.putfield 12, 3) := by decide +kernel
theorem dX3_init_15 : decode cX3_init 15 = .ok (.aload_n 0, 1) := by decide +kernel
theorem dX3_init_16 : decode cX3_init 16 = .ok (.new 9, 3) := by decide +kernel
theorem dX3_init_19 : decode cX3_init 19 = .ok (.dup, 1) := by decide +kernel
theorem dX3_init_20 : decode cX3_init 20 = .ok (.invokespecial 11, 3) := by decide +kernel
theorem dX3_init_23 : decode cX3_init 23 = .ok (.putfield 16, 3) := by decide +kernel
theorem dX3_init_26 : decode cX3_init 26 = .ok (.aload_n 0, 1) := by decide +kernel
theorem dX3_init_27 : decode cX3_init 27 = .ok (.iconst 4, 1) := by decide +kernel
theorem dX3_init_28 : decode cX3_init 28 = .ok (.anewarray 9, 3) := by decide +kernel
theorem dX3_init_31 : decode cX3_init 31 = .ok (.putfield 19, 3) := by decide +kernel
theorem dX3_init_34 : decode cX3_init 34 = .ok (.aload_n 0, 1) := by decide +kernel
theorem dX3_init_35 : decode cX3_init 35 = .ok (.new 23, 3) := by decide +kernel
theorem dX3_init_38 : decode cX3_init 38 = .ok (.dup, 1) := by decide +kernel
theorem dX3_init_39 : decode cX3_init 39 = .ok (.invokespecial 25, 3) := by decide +kernel
theorem dX3_init_42 : decode cX3_init 42 = .ok (.putfield 26, 3) := by decide +kernel
theorem dX3_init_45 : decode cX3_init 45 = .ok (.iconst 0, 1) := by decide +kernel
theorem dX3_init_46 : decode cX3_init 46 = .ok (.istore_n 1, 1) := by decide +kernel
theorem dX3_init_47 : decode cX3_init 47 = .ok (.iload_n 1, 1) := by decide +kernel
theorem dX3_init_48 : decode cX3_init 48 = .ok (.aload_n 0, 1) := by decide +kernel
theorem dX3_init_49 : decode cX3_init 49 = .ok (.getfield 19, 3) := by decide +kernel
theorem dX3_init_52 : decode cX3_init 52 = .ok (.arraylength, 1) := by decide +kernel
theorem dX3_init_53 : decode cX3_init 53 = .ok (.if_icmp .ge 22, 3) := by decide +kernel
theorem dX3_init_56 : decode cX3_init 56 = .ok (.aload_n 0, 1) := by decide +kernel
theorem dX3_init_57 : decode cX3_init 57 = .ok (.getfield 19, 3) := by decide +kernel
theorem dX3_init_60 : decode cX3_init 60 = .ok (.iload_n 1, 1) := by decide +kernel
theorem dX3_init_61 : decode cX3_init 61 = .ok (.new 9, 3) := by decide +kernel
theorem dX3_init_64 : decode cX3_init 64 = .ok (.dup, 1) := by decide +kernel
theorem dX3_init_65 : decode cX3_init 65 = .ok (.invokespecial 11, 3) := by decide +kernel
theorem dX3_init_68 : decode cX3_init 68 = .ok (.aastore, 1) := by decide +kernel
theorem dX3_init_69 : decode cX3_init 69 = .ok (.iinc 1 1, 3) := by decide +kernel
theorem dX3_init_72 : decode cX3_init 72 = .ok (.goto (-25), 3) := by decide +kernel
theorem dX3_init_75 : decode cX3_init 75 = .ok (.return_, 1) := by decide +kernel
set_option maxRecDepth 20000 in
theorem ggX3_smithy_X2_copyFrom : GoodIn wsX3_smithy wsX2_copyFrom := goodIn_r _ [7, 8, 9, 10, 11, 12, 13, 14, 15, 16, 17, 18, 19, 20, 21, 22, 23, 24, 6, 25, 26, 27, 28, 29, 30, 31, 32, 33, 34, 35, 36, 37, 38, 39, 74, 75, 76, 77, 78, 79, 80, 81, 82, 83, 84, 85, 86, 87, 88, 89, 90, 91, 92, 93, 94, 95, 96] (by decide +kernel) (by decide +kernel)
set_option maxRecDepth 20000 in
theorem gX3_smithy_X2_copyFrom : GoodIn wsX3_smithy (wsV RX3 30 RX2 yX2_copyFrom wsX2_copyFrom) := goodIn_app (goodIn_of _ (by decide +kernel)) ggX3_smithy_X2_copyFrom
set_option maxRecDepth 20000 in
theorem ggX3_smithy_X2_addSmithy : GoodIn wsX3_smithy wsX2_addSmithy := goodIn_r _ [43, 44, 8, 45, 22, 23, 24, 6, 25, 26, 46, 47, 48, 30, 49, 32, 33, 34, 35, 36, 37, 38, 39, 74, 75, 76, 77, 78, 79, 80, 81, 82, 83, 84, 85, 86, 87, 88, 89, 90, 91, 92, 93, 94, 95, 96] (by decide +kernel) (by decide +kernel)
set_option maxRecDepth 20000 in
theorem gX3_smithy_X2_addSmithy : GoodIn wsX3_smithy (wsV RX3 34 RX2 yX2_addSmithy wsX2_addSmithy) := goodIn_app (goodIn_of _ (by decide +kernel)) ggX3_smithy_X2_addSmithy
set_option maxRecDepth 20000 in
theorem ggX3_smithy_X3_commit : GoodIn wsX3_smithy wsX3_commit := goodIn_r _ [54, 2, 1, 55, 56, 57, 53, 58, 59, 60, 61, 62, 63, 64, 3, 4, 5, 6, 7, 8, 9, 10, 11, 12, 13, 14, 15, 16, 17, 18, 19, 20, 21, 22, 23, 24, 25, 26, 27, 28, 29, 30, 31, 32, 33, 34, 35, 36, 37, 38, 39, 65, 66, 67, 68, 69, 70, 71, 72, 73, 74, 75, 76, 77, 78, 79, 80, 81, 82, 83, 84, 85, 86, 87, 88, 89, 90, 91, 92, 93, 94, 95, 96] (by decide +kernel) (by decide +kernel)
set_option maxRecDepth 20000 in
theorem gX3_smithy_X3_commit : GoodIn wsX3_smithy (wsV RX3 38 RX3 yX3_commit wsX3_commit) := goodIn_app (goodIn_of _ (by decide +kernel)) ggX3_smithy_X3_commit
theorem dX3_smithy_0 : decode cX3_smithy 0 = .ok (.aload_n 0, 1) := by decide +kernel
theorem dX3_smithy_1 : decode cX3_smithy 1 = .ok (.getfield 16, 3) := by decide +kernel
theorem dX3_smithy_4 : decode cX3_smithy 4 = .ok (.aload_n 0, 1) := by decide +kernel
theorem dX3_smithy_5 : decode cX3_smithy 5 = .ok (.getfield 12, 3) := by decide +kernel
theorem dX3_smithy_8 : decode cX3_smithy 8 = .ok (.invokevirtual 30, 3) := by decide +kernel
theorem dX3_smithy_11 : decode cX3_smithy 11 = .ok (.aload_n 0, 1) := by decide +kernel
theorem dX3_smithy_12 : decode cX3_smithy 12 = .ok (.aload_n 0, 1) := by decide +kernel
theorem dX3_smithy_13 : decode cX3_smithy 13 = .ok (.getfield 16, 3) := by decide +kernel
theorem dX3_smithy_16 : decode cX3_smithy 16 = .ok (.iload_n 1, 1) := by decide +kernel
theorem dX3_smithy_17 : decode cX3_smithy 17 = .ok (.iload_n 2, 1) := by decide +kernel
theorem dX3_smithy_18 : decode cX3_smithy 18 = .ok (.invokevirtual 34, 3) := by decide +kernel
theorem dX3_smithy_21 : decode cX3_smithy 21 = .ok (.invokevirtual 38, 3) := by decide +kernel
theorem dX3_smithy_24 : decode cX3_smithy 24 = .ok (.ireturn, 1) := by decide +kernel
set_option maxRecDepth 20000 in
theorem ggX3_walk_X2_copyFrom : GoodIn wsX3_walk wsX2_copyFrom := goodIn_r _ [7, 8, 9, 10, 11, 12, 13, 14, 15, 16, 17, 18, 19, 20, 21, 22, 23, 24, 6, 25, 26, 27, 28, 29, 30, 31, 32, 33, 34, 35, 36, 37, 38, 39, 80, 81, 82, 83, 84, 85, 86, 87, 88, 89, 90, 91, 92, 93, 94, 95, 96, 97, 98, 99, 100, 101, 102] (by decide +kernel) (by decide +kernel)
set_option maxRecDepth 20000 in
theorem gX3_walk_X2_copyFrom : GoodIn wsX3_walk (wsV RX3 30 RX2 yX2_copyFrom wsX2_copyFrom) := goodIn_app (goodIn_of _ (by decide +kernel)) ggX3_walk_X2_copyFrom
set_option maxRecDepth 20000 in
theorem ggX3_walk_X2_walkTo : GoodIn wsX3_walk wsX2_walkTo := goodIn_r _ [43, 44, 14, 15, 45, 21, 46, 47, 48, 49, 50, 51, 52, 53, 54, 55, 56, 80, 81, 82, 83, 84, 85, 86, 87, 88, 89, 90, 91, 92, 93, 94] (by decide +kernel) (by decide +kernel)
set_option maxRecDepth 20000 in
theorem gX3_walk_X2_walkTo : GoodIn wsX3_walk (wsV RX3 42 RX2 yX2_walkTo wsX2_walkTo) := goodIn_app (goodIn_of _ (by decide +kernel)) ggX3_walk_X2_walkTo
set_option maxRecDepth 20000 in
theorem ggX3_walk_X3_commit : GoodIn wsX3_walk wsX3_commit := goodIn_r _ [60, 2, 1, 61, 62, 63, 51, 64, 65, 66, 67, 68, 69, 70, 3, 4, 5, 6, 7, 8, 9, 10, 11, 12, 13, 14, 15, 16, 17, 18, 19, 20, 21, 22, 23, 24, 25, 26, 27, 28, 29, 30, 31, 32, 33, 34, 35, 36, 37, 38, 39, 71, 72, 73, 74, 75, 76, 77, 78, 79, 80, 81, 82, 83, 84, 85, 86, 87, 88, 89, 90, 91, 92, 93, 94, 95, 96, 97, 98, 99, 100, 101, 102] (by decide +kernel) (by decide +kernel)
set_option maxRecDepth 20000 in
theorem gX3_walk_X3_commit : GoodIn wsX3_walk (wsV RX3 38 RX3 yX3_commit wsX3_commit) := goodIn_app (goodIn_of _ (by decide +kernel)) ggX3_walk_X3_commit
theorem dX3_walk_0 : decode cX3_walk 0 = .ok (.aload_n 0, 1) := by decide +kernel
theorem dX3_walk_1 : decode cX3_walk 1 = .ok (.getfield 16, 3) := by decide +kernel
theorem dX3_walk_4 : decode cX3_walk 4 = .ok (.aload_n 0, 1) := by decide +kernel
theorem dX3_walk_5 : decode cX3_walk 5 = .ok (.getfield 12, 3) := by decide +kernel
theorem dX3_walk_8 : decode cX3_walk 8 = .ok (.invokevirtual 30, 3) := by decide +kernel
theorem dX3_walk_11 : decode cX3_walk 11 = .ok (.aload_n 0, 1) := by decide +kernel
theorem dX3_walk_12 : decode cX3_walk 12 = .ok (.aload_n 0, 1) := by decide +kernel
theorem dX3_walk_13 : decode cX3_walk 13 = .ok (.getfield 16, 3) := by decide +kernel
theorem dX3_walk_16 : decode cX3_walk 16 = .ok (.iload_n 1, 1) := by decide +kernel
theorem dX3_walk_17 : decode cX3_walk 17 = .ok (.invokevirtual 42, 3) := by decide +kernel
theorem dX3_walk_20 : decode cX3_walk 20 = .ok (.invokevirtual 38, 3) := by decide +kernel
theorem dX3_walk_23 : decode cX3_walk 23 = .ok (.ireturn, 1) := by decide +kernel
set_option maxRecDepth 20000 in
theorem ggX3_buy_X2_copyFrom : GoodIn wsX3_buy wsX2_copyFrom := goodIn_r _ [7, 8, 9, 10, 11, 12, 13, 14, 15, 16, 17, 18, 19, 20, 21, 22, 23, 24, 6, 25, 26, 27, 28, 29, 30, 31, 32, 33, 34, 35, 36, 37, 38, 39, 71, 72, 73, 74, 75, 76, 77, 78, 79, 80, 81, 82, 83, 84, 85, 86, 87, 88, 89, 90, 91, 92, 93] (by decide +kernel) (by decide +kernel)
set_option maxRecDepth 20000 in
theorem gX3_buy_X2_copyFrom : GoodIn wsX3_buy (wsV RX3 30 RX2 yX2_copyFrom wsX2_copyFrom) := goodIn_app (goodIn_of _ (by decide +kernel)) ggX3_buy_X2_copyFrom
set_option maxRecDepth 20000 in
theorem ggX3_buy_X2_buyLeather : GoodIn wsX3_buy wsX2_buyLeather := goodIn_r _ [43, 44, 14, 45, 16, 46, 17, 18, 71, 72, 73, 74, 75, 76, 77, 78, 79, 80, 81, 82, 83, 84, 85] (by decide +kernel) (by decide +kernel)
set_option maxRecDepth 20000 in
theorem gX3_buy_X2_buyLeather : GoodIn wsX3_buy (wsV RX3 45 RX2 yX2_buyLeather wsX2_buyLeather) := goodIn_app (goodIn_of _ (by decide +kernel)) ggX3_buy_X2_buyLeather
set_option maxRecDepth 20000 in
theorem ggX3_buy_X3_commit : GoodIn wsX3_buy wsX3_commit := goodIn_r _ [51, 2, 1, 52, 53, 54, 50, 55, 56, 57, 58, 59, 60, 61, 3, 4, 5, 6, 7, 8, 9, 10, 11, 12, 13, 14, 15, 16, 17, 18, 19, 20, 21, 22, 23, 24, 25, 26, 27, 28, 29, 30, 31, 32, 33, 34, 35, 36, 37, 38, 39, 62, 63, 64, 65, 66, 67, 68, 69, 70, 71, 72, 73, 74, 75, 76, 77, 78, 79, 80, 81, 82, 83, 84, 85, 86, 87, 88, 89, 90, 91, 92, 93] (by decide +kernel) (by decide +kernel)
set_option maxRecDepth 20000 in
theorem gX3_buy_X3_commit : GoodIn wsX3_buy (wsV RX3 38 RX3 yX3_commit wsX3_commit) := goodIn_app (goodIn_of _ (by decide +kernel)) ggX3_buy_X3_commit
theorem dX3_buy_0 : decode cX3_buy 0 = .ok (.aload_n 0, 1) := by decide +kernel
theorem dX3_buy_1 : decode cX3_buy 1 = .ok (.getfield 16, 3) := by decide +kernel
theorem dX3_buy_4 : decode cX3_buy 4 = .ok (.aload_n 0, 1) := by decide +kernel
theorem dX3_buy_5 : decode cX3_buy 5 = .ok (.getfield 12, 3) := by decide +kernel
theorem dX3_buy_8 : decode cX3_buy 8 = .ok (.invokevirtual 30, 3) := by decide +kernel
theorem dX3_buy_11 : decode cX3_buy 11 = .ok (.aload_n 0, 1) := by decide +kernel
theorem dX3_buy_12 : decode cX3_buy 12 = .ok (.aload_n 0, 1) := by decide +kernel
theorem dX3_buy_13 : decode cX3_buy 13 = .ok (.getfield 16, 3) := by decide +kernel
theorem dX3_buy_16 : decode cX3_buy 16 = .ok (.iload_n 1, 1) := by decide +kernel
theorem dX3_buy_17 : decode cX3_buy 17 = .ok (.invokevirtual 45, 3) := by decide +kernel
theorem dX3_buy_20 : decode cX3_buy 20 = .ok (.invokevirtual 38, 3) := by decide +kernel
theorem dX3_buy_23 : decode cX3_buy 23 = .ok (.ireturn, 1) := by decide +kernel
set_option maxRecDepth 20000 in
theorem ggX3_patch_X2_copyFrom : GoodIn wsX3_patch wsX2_copyFrom := goodIn_r _ [7, 8, 9, 10, 11, 12, 13, 14, 15, 16, 17, 18, 19, 20, 21, 22, 23, 24, 6, 25, 26, 27, 28, 29, 30, 31, 32, 33, 34, 35, 36, 37, 38, 39, 98, 99, 100, 101, 102, 103, 104, 105, 106, 107, 108, 109, 110, 111, 112, 113, 114, 115, 116, 117, 118, 119, 120] (by decide +kernel) (by decide +kernel)
set_option maxRecDepth 20000 in
theorem gX3_patch_X2_copyFrom : GoodIn wsX3_patch (wsV RX3 30 RX2 yX2_copyFrom wsX2_copyFrom) := goodIn_app (goodIn_of _ (by decide +kernel)) ggX3_patch_X2_copyFrom
set_option maxRecDepth 20000 in
theorem ggX3_patch_X2_mendBellows : GoodIn wsX3_patch wsX2_mendBellows := goodIn_r _ [43, 44, 45, 15, 16, 19, 46, 47, 48, 22, 23, 24, 6, 25, 8, 26, 49, 50, 51, 52, 53, 14, 54, 55, 56, 57, 58, 59, 30, 60, 33, 34, 61, 62, 63, 64, 65, 66, 12, 67, 68, 69, 70, 11, 71, 72, 73, 74, 98, 99, 100, 101, 102, 103, 104, 105, 106, 107, 108, 109, 110, 111, 112, 113, 114, 115, 116, 117, 118, 119, 120] (by decide +kernel) (by decide +kernel)
set_option maxRecDepth 20000 in
theorem gX3_patch_X2_mendBellows : GoodIn wsX3_patch (wsV RX3 48 RX2 yX2_mendBellows wsX2_mendBellows) := goodIn_app (goodIn_of _ (by decide +kernel)) ggX3_patch_X2_mendBellows
set_option maxRecDepth 20000 in
theorem ggX3_patch_X3_commit : GoodIn wsX3_patch wsX3_commit := goodIn_r _ [78, 2, 1, 79, 80, 81, 55, 82, 83, 84, 85, 86, 87, 88, 3, 4, 5, 6, 7, 8, 9, 10, 11, 12, 13, 14, 15, 16, 17, 18, 19, 20, 21, 22, 23, 24, 25, 26, 27, 28, 29, 30, 31, 32, 33, 34, 35, 36, 37, 38, 39, 89, 90, 91, 92, 93, 94, 95, 96, 97, 98, 99, 100, 101, 102, 103, 104, 105, 106, 107, 108, 109, 110, 111, 112, 113, 114, 115, 116, 117, 118, 119, 120] (by decide +kernel) (by decide +kernel)
set_option maxRecDepth 20000 in
theorem gX3_patch_X3_commit : GoodIn wsX3_patch (wsV RX3 38 RX3 yX3_commit wsX3_commit) := goodIn_app (goodIn_of _ (by decide +kernel)) ggX3_patch_X3_commit
theorem dX3_patch_0 : decode cX3_patch 0 = .ok (.aload_n 0, 1) := by decide +kernel
theorem dX3_patch_1 : decode cX3_patch 1 = .ok (.getfield 16, 3) := by decide +kernel
theorem dX3_patch_4 : decode cX3_patch 4 = .ok (.aload_n 0, 1) := by decide +kernel
theorem dX3_patch_5 : decode cX3_patch 5 = .ok (.getfield 12, 3) := by decide +kernel
theorem dX3_patch_8 : decode cX3_patch 8 = .ok (.invokevirtual 30, 3) := by decide +kernel
theorem dX3_patch_11 : decode cX3_patch 11 = .ok (.aload_n 0, 1) := by decide +kernel
theorem dX3_patch_12 : decode cX3_patch 12 = .ok (.aload_n 0, 1) := by decide +kernel
theorem dX3_patch_13 : decode cX3_patch 13 = .ok (.getfield 16, 3) := by decide +kernel
theorem dX3_patch_16 : decode cX3_patch 16 = .ok (.iload_n 1, 1) := by decide +kernel
theorem dX3_patch_17 : decode cX3_patch 17 = .ok (.iconst 0, 1) := by decide +kernel
theorem dX3_patch_18 : decode cX3_patch 18 = .ok (.invokevirtual 48, 3) := by decide +kernel
theorem dX3_patch_21 : decode cX3_patch 21 = .ok (.invokevirtual 38, 3) := by decide +kernel
theorem dX3_patch_24 : decode cX3_patch 24 = .ok (.ireturn, 1) := by decide +kernel
set_option maxRecDepth 20000 in
theorem ggX3_hide_X2_copyFrom : GoodIn wsX3_hide wsX2_copyFrom := goodIn_r _ [7, 8, 9, 10, 11, 12, 13, 14, 15, 16, 17, 18, 19, 20, 21, 22, 23, 24, 6, 25, 26, 27, 28, 29, 30, 31, 32, 33, 34, 35, 36, 37, 38, 39, 98, 99, 100, 101, 102, 103, 104, 105, 106, 107, 108, 109, 110, 111, 112, 113, 114, 115, 116, 117, 118, 119, 120] (by decide +kernel) (by decide +kernel)
set_option maxRecDepth 20000 in
theorem gX3_hide_X2_copyFrom : GoodIn wsX3_hide (wsV RX3 30 RX2 yX2_copyFrom wsX2_copyFrom) := goodIn_app (goodIn_of _ (by decide +kernel)) ggX3_hide_X2_copyFrom
set_option maxRecDepth 20000 in
theorem ggX3_hide_X2_mendBellows : GoodIn wsX3_hide wsX2_mendBellows := goodIn_r _ [43, 44, 45, 15, 16, 19, 46, 47, 48, 22, 23, 24, 6, 25, 8, 26, 49, 50, 51, 52, 53, 14, 54, 55, 56, 57, 58, 59, 30, 60, 33, 34, 61, 62, 63, 64, 65, 66, 12, 67, 68, 69, 70, 11, 71, 72, 73, 74, 98, 99, 100, 101, 102, 103, 104, 105, 106, 107, 108, 109, 110, 111, 112, 113, 114, 115, 116, 117, 118, 119, 120] (by decide +kernel) (by decide +kernel)
set_option maxRecDepth 20000 in
theorem gX3_hide_X2_mendBellows : GoodIn wsX3_hide (wsV RX3 48 RX2 yX2_mendBellows wsX2_mendBellows) := goodIn_app (goodIn_of _ (by decide +kernel)) ggX3_hide_X2_mendBellows
set_option maxRecDepth 20000 in
theorem ggX3_hide_X3_commit : GoodIn wsX3_hide wsX3_commit := goodIn_r _ [78, 2, 1, 79, 80, 81, 55, 82, 83, 84, 85, 86, 87, 88, 3, 4, 5, 6, 7, 8, 9, 10, 11, 12, 13, 14, 15, 16, 17, 18, 19, 20, 21, 22, 23, 24, 25, 26, 27, 28, 29, 30, 31, 32, 33, 34, 35, 36, 37, 38, 39, 89, 90, 91, 92, 93, 94, 95, 96, 97, 98, 99, 100, 101, 102, 103, 104, 105, 106, 107, 108, 109, 110, 111, 112, 113, 114, 115, 116, 117, 118, 119, 120] (by decide +kernel) (by decide +kernel)
set_option maxRecDepth 20000 in
theorem gX3_hide_X3_commit : GoodIn wsX3_hide (wsV RX3 38 RX3 yX3_commit wsX3_commit) := goodIn_app (goodIn_of _ (by decide +kernel)) ggX3_hide_X3_commit
theorem dX3_hide_0 : decode cX3_hide 0 = .ok (.aload_n 0, 1) := by decide +kernel
theorem dX3_hide_1 : decode cX3_hide 1 = .ok (.getfield 16, 3) := by decide +kernel
theorem dX3_hide_4 : decode cX3_hide 4 = .ok (.aload_n 0, 1) := by decide +kernel
theorem dX3_hide_5 : decode cX3_hide 5 = .ok (.getfield 12, 3) := by decide +kernel
theorem dX3_hide_8 : decode cX3_hide 8 = .ok (.invokevirtual 30, 3) := by decide +kernel
theorem dX3_hide_11 : decode cX3_hide 11 = .ok (.aload_n 0, 1) := by decide +kernel
theorem dX3_hide_12 : decode cX3_hide 12 = .ok (.aload_n 0, 1) := by decide +kernel
theorem dX3_hide_13 : decode cX3_hide 13 = .ok (.getfield 16, 3) := by decide +kernel
theorem dX3_hide_16 : decode cX3_hide 16 = .ok (.iload_n 1, 1) := by decide +kernel
theorem dX3_hide_17 : decode cX3_hide 17 = .ok (.iconst 1, 1) := by decide +kernel
theorem dX3_hide_18 : decode cX3_hide 18 = .ok (.invokevirtual 48, 3) := by decide +kernel
theorem dX3_hide_21 : decode cX3_hide 21 = .ok (.invokevirtual 38, 3) := by decide +kernel
theorem dX3_hide_24 : decode cX3_hide 24 = .ok (.ireturn, 1) := by decide +kernel
set_option maxRecDepth 20000 in
theorem ggX3_collect_X2_copyFrom : GoodIn wsX3_collect wsX2_copyFrom := goodIn_r _ [7, 8, 9, 10, 11, 12, 13, 14, 15, 16, 17, 18, 19, 20, 21, 22, 23, 24, 6, 25, 26, 27, 28, 29, 30, 31, 32, 33, 34, 35, 36, 37, 38, 39, 78, 79, 80, 81, 82, 83, 84, 85, 86, 87, 88, 89, 90, 91, 92, 93, 94, 95, 96, 97, 98, 99, 100] (by decide +kernel) (by decide +kernel)
set_option maxRecDepth 20000 in
theorem gX3_collect_X2_copyFrom : GoodIn wsX3_collect (wsV RX3 30 RX2 yX2_copyFrom wsX2_copyFrom) := goodIn_app (goodIn_of _ (by decide +kernel)) ggX3_collect_X2_copyFrom
set_option maxRecDepth 20000 in
theorem ggX3_collect_X2_collectDebt : GoodIn wsX3_collect wsX2_collectDebt := goodIn_r _ [43, 44, 45, 14, 46, 47, 48, 49, 17, 22, 23, 24, 6, 25, 8, 26, 50, 51, 52, 53, 9, 93, 94, 95, 96, 97, 98, 99, 100, 78, 79, 80, 81, 82, 83, 84, 85, 86, 87, 88, 89, 90, 91, 92] (by decide +kernel) (by decide +kernel)
set_option maxRecDepth 20000 in
theorem gX3_collect_X2_collectDebt : GoodIn wsX3_collect (wsV RX3 52 RX2 yX2_collectDebt wsX2_collectDebt) := goodIn_app (goodIn_of _ (by decide +kernel)) ggX3_collect_X2_collectDebt
set_option maxRecDepth 20000 in
theorem ggX3_collect_X3_commit : GoodIn wsX3_collect wsX3_commit := goodIn_r _ [58, 2, 1, 59, 60, 61, 57, 62, 63, 64, 65, 66, 67, 68, 3, 4, 5, 6, 7, 8, 9, 10, 11, 12, 13, 14, 15, 16, 17, 18, 19, 20, 21, 22, 23, 24, 25, 26, 27, 28, 29, 30, 31, 32, 33, 34, 35, 36, 37, 38, 39, 69, 70, 71, 72, 73, 74, 75, 76, 77, 78, 79, 80, 81, 82, 83, 84, 85, 86, 87, 88, 89, 90, 91, 92, 93, 94, 95, 96, 97, 98, 99, 100] (by decide +kernel) (by decide +kernel)
set_option maxRecDepth 20000 in
theorem gX3_collect_X3_commit : GoodIn wsX3_collect (wsV RX3 38 RX3 yX3_commit wsX3_commit) := goodIn_app (goodIn_of _ (by decide +kernel)) ggX3_collect_X3_commit
theorem dX3_collect_0 : decode cX3_collect 0 = .ok (.aload_n 0, 1) := by decide +kernel
theorem dX3_collect_1 : decode cX3_collect 1 = .ok (.getfield 16, 3) := by decide +kernel
theorem dX3_collect_4 : decode cX3_collect 4 = .ok (.aload_n 0, 1) := by decide +kernel
theorem dX3_collect_5 : decode cX3_collect 5 = .ok (.getfield 12, 3) := by decide +kernel
theorem dX3_collect_8 : decode cX3_collect 8 = .ok (.invokevirtual 30, 3) := by decide +kernel
theorem dX3_collect_11 : decode cX3_collect 11 = .ok (.aload_n 0, 1) := by decide +kernel
theorem dX3_collect_12 : decode cX3_collect 12 = .ok (.aload_n 0, 1) := by decide +kernel
theorem dX3_collect_13 : decode cX3_collect 13 = .ok (.getfield 16, 3) := by decide +kernel
theorem dX3_collect_16 : decode cX3_collect 16 = .ok (.iload_n 1, 1) := by decide +kernel
theorem dX3_collect_17 : decode cX3_collect 17 = .ok (.invokevirtual 52, 3) := by decide +kernel
theorem dX3_collect_20 : decode cX3_collect 20 = .ok (.invokevirtual 38, 3) := by decide +kernel
theorem dX3_collect_23 : decode cX3_collect 23 = .ok (.ireturn, 1) := by decide +kernel
set_option maxRecDepth 20000 in
theorem ggX3_end_X2_copyFrom : GoodIn wsX3_end wsX2_copyFrom := goodIn_r _ [7, 8, 9, 10, 11, 12, 13, 14, 15, 16, 17, 18, 19, 20, 21, 22, 23, 24, 6, 25, 26, 27, 28, 29, 30, 31, 32, 33, 34, 35, 36, 37, 38, 39, 108, 109, 110, 111, 112, 113, 114, 115, 116, 117, 118, 119, 120, 121, 122, 123, 124, 125, 126, 127, 128, 129, 130] (by decide +kernel) (by decide +kernel)
set_option maxRecDepth 20000 in
theorem gX3_end_X2_copyFrom : GoodIn wsX3_end (wsV RX3 30 RX2 yX2_copyFrom wsX2_copyFrom) := goodIn_app (goodIn_of _ (by decide +kernel)) ggX3_end_X2_copyFrom
set_option maxRecDepth 20000 in
theorem ggX3_end_X2_endDays : GoodIn wsX3_end wsX2_endDays := goodIn_r _ [43, 44, 13, 45, 8, 10, 15, 22, 23, 24, 6, 25, 26, 46, 47, 48, 49, 50, 51, 52, 53, 20, 54, 55, 56, 57, 58, 59, 60, 61, 62, 63, 64, 65, 66, 67, 68, 69, 70, 71, 72, 73, 9, 74, 75, 76, 77, 78, 79, 80, 81, 82, 83, 84, 108, 109, 110, 111, 112, 113, 114, 115, 116, 117, 118, 119, 120, 121, 122, 123, 124, 125, 126, 127, 128, 129, 130] (by decide +kernel) (by decide +kernel)
set_option maxRecDepth 20000 in
theorem gX3_end_X2_endDays : GoodIn wsX3_end (wsV RX3 55 RX2 yX2_endDays wsX2_endDays) := goodIn_app (goodIn_of _ (by decide +kernel)) ggX3_end_X2_endDays
set_option maxRecDepth 20000 in
theorem ggX3_end_X3_commit : GoodIn wsX3_end wsX3_commit := goodIn_r _ [88, 2, 1, 89, 90, 91, 59, 92, 93, 94, 95, 96, 97, 98, 3, 4, 5, 6, 7, 8, 9, 10, 11, 12, 13, 14, 15, 16, 17, 18, 19, 20, 21, 22, 23, 24, 25, 26, 27, 28, 29, 30, 31, 32, 33, 34, 35, 36, 37, 38, 39, 99, 100, 101, 102, 103, 104, 105, 106, 107, 108, 109, 110, 111, 112, 113, 114, 115, 116, 117, 118, 119, 120, 121, 122, 123, 124, 125, 126, 127, 128, 129, 130] (by decide +kernel) (by decide +kernel)
set_option maxRecDepth 20000 in
theorem gX3_end_X3_commit : GoodIn wsX3_end (wsV RX3 38 RX3 yX3_commit wsX3_commit) := goodIn_app (goodIn_of _ (by decide +kernel)) ggX3_end_X3_commit
theorem dX3_end_0 : decode cX3_end 0 = .ok (.aload_n 0, 1) := by decide +kernel
theorem dX3_end_1 : decode cX3_end 1 = .ok (.getfield 16, 3) := by decide +kernel
theorem dX3_end_4 : decode cX3_end 4 = .ok (.aload_n 0, 1) := by decide +kernel
theorem dX3_end_5 : decode cX3_end 5 = .ok (.getfield 12, 3) := by decide +kernel
theorem dX3_end_8 : decode cX3_end 8 = .ok (.invokevirtual 30, 3) := by decide +kernel
theorem dX3_end_11 : decode cX3_end 11 = .ok (.aload_n 0, 1) := by decide +kernel
theorem dX3_end_12 : decode cX3_end 12 = .ok (.aload_n 0, 1) := by decide +kernel
theorem dX3_end_13 : decode cX3_end 13 = .ok (.getfield 16, 3) := by decide +kernel
theorem dX3_end_16 : decode cX3_end 16 = .ok (.iload_n 1, 1) := by decide +kernel
theorem dX3_end_17 : decode cX3_end 17 = .ok (.invokevirtual 55, 3) := by decide +kernel
theorem dX3_end_20 : decode cX3_end 20 = .ok (.invokevirtual 38, 3) := by decide +kernel
theorem dX3_end_23 : decode cX3_end 23 = .ok (.ireturn, 1) := by decide +kernel
set_option maxRecDepth 20000 in
theorem ggX3_set_X2_copyFrom : GoodIn wsX3_set wsX2_copyFrom := goodIn_r _ [7, 8, 9, 10, 11, 12, 13, 14, 15, 16, 17, 18, 19, 20, 21, 22, 23, 24, 6, 25, 26, 27, 28, 29, 30, 31, 32, 33, 34, 35, 36, 37, 38, 39, 72, 73, 74, 75, 76, 77, 78, 79, 80, 81, 82, 83, 84, 85, 86, 87, 88, 89, 90, 91, 92, 93, 94] (by decide +kernel) (by decide +kernel)
set_option maxRecDepth 20000 in
theorem gX3_set_X2_copyFrom : GoodIn wsX3_set (wsV RX3 30 RX2 yX2_copyFrom wsX2_copyFrom) := goodIn_app (goodIn_of _ (by decide +kernel)) ggX3_set_X2_copyFrom
set_option maxRecDepth 20000 in
theorem ggX3_set_X2_changeSetting : GoodIn wsX3_set wsX2_changeSetting := goodIn_r _ [43, 44, 9, 10, 11, 12, 45, 46, 6, 47, 72, 73, 74, 75, 76, 77, 78, 79, 80, 81, 82, 83, 84, 85, 86] (by decide +kernel) (by decide +kernel)
set_option maxRecDepth 20000 in
theorem gX3_set_X2_changeSetting : GoodIn wsX3_set (wsV RX3 58 RX2 yX2_changeSetting wsX2_changeSetting) := goodIn_app (goodIn_of _ (by decide +kernel)) ggX3_set_X2_changeSetting
set_option maxRecDepth 20000 in
theorem ggX3_set_X3_commit : GoodIn wsX3_set wsX3_commit := goodIn_r _ [52, 2, 1, 53, 54, 55, 51, 56, 57, 58, 59, 60, 61, 62, 3, 4, 5, 6, 7, 8, 9, 10, 11, 12, 13, 14, 15, 16, 17, 18, 19, 20, 21, 22, 23, 24, 25, 26, 27, 28, 29, 30, 31, 32, 33, 34, 35, 36, 37, 38, 39, 63, 64, 65, 66, 67, 68, 69, 70, 71, 72, 73, 74, 75, 76, 77, 78, 79, 80, 81, 82, 83, 84, 85, 86, 87, 88, 89, 90, 91, 92, 93, 94] (by decide +kernel) (by decide +kernel)
set_option maxRecDepth 20000 in
theorem gX3_set_X3_commit : GoodIn wsX3_set (wsV RX3 38 RX3 yX3_commit wsX3_commit) := goodIn_app (goodIn_of _ (by decide +kernel)) ggX3_set_X3_commit
theorem dX3_set_0 : decode cX3_set 0 = .ok (.aload_n 0, 1) := by decide +kernel
theorem dX3_set_1 : decode cX3_set 1 = .ok (.getfield 16, 3) := by decide +kernel
theorem dX3_set_4 : decode cX3_set 4 = .ok (.aload_n 0, 1) := by decide +kernel
theorem dX3_set_5 : decode cX3_set 5 = .ok (.getfield 12, 3) := by decide +kernel
theorem dX3_set_8 : decode cX3_set 8 = .ok (.invokevirtual 30, 3) := by decide +kernel
theorem dX3_set_11 : decode cX3_set 11 = .ok (.aload_n 0, 1) := by decide +kernel
theorem dX3_set_12 : decode cX3_set 12 = .ok (.aload_n 0, 1) := by decide +kernel
theorem dX3_set_13 : decode cX3_set 13 = .ok (.getfield 16, 3) := by decide +kernel
theorem dX3_set_16 : decode cX3_set 16 = .ok (.iload_n 1, 1) := by decide +kernel
theorem dX3_set_17 : decode cX3_set 17 = .ok (.iload_n 2, 1) := by decide +kernel
theorem dX3_set_18 : decode cX3_set 18 = .ok (.invokevirtual 58, 3) := by decide +kernel
theorem dX3_set_21 : decode cX3_set 21 = .ok (.invokevirtual 38, 3) := by decide +kernel
theorem dX3_set_24 : decode cX3_set 24 = .ok (.ireturn, 1) := by decide +kernel
set_option maxRecDepth 20000 in
theorem ggX3_smithyOf_X2_find : GoodIn wsX3_smithyOf wsX2_find := goodIn_r _ [16, 17, 18, 55, 56, 57, 58, 59, 60, 61, 62, 63, 64, 65, 66, 67, 68, 69] (by decide +kernel) (by decide +kernel)
set_option maxRecDepth 20000 in
theorem gX3_smithyOf_X2_find : GoodIn wsX3_smithyOf (wsV RX3 61 RX2 yX2_find wsX2_find) := goodIn_app (goodIn_of _ (by decide +kernel)) ggX3_smithyOf_X2_find
set_option maxRecDepth 20000 in
theorem ggX3_smithyOf_X3_leakOf : GoodIn wsX3_smithyOf wsX3_leakOf := goodIn_r _ [22] (by decide +kernel) (by decide +kernel)
set_option maxRecDepth 20000 in
theorem gX3_smithyOf_X3_leakOf : GoodIn wsX3_smithyOf (va_wsS RX3 78 yX3_leakOf wsX3_leakOf) := goodIn_app (goodIn_of _ (by decide +kernel)) ggX3_smithyOf_X3_leakOf
set_option maxRecDepth 20000 in
theorem ggX3_smithyOf_X2_isCold : GoodIn wsX3_smithyOf wsX2_isCold := goodIn_r _ [26, 27, 55, 56, 57, 58, 59, 60, 61, 62, 63, 64, 65, 66, 67, 68, 69] (by decide +kernel) (by decide +kernel)
set_option maxRecDepth 20000 in
theorem gX3_smithyOf_X2_isCold : GoodIn wsX3_smithyOf (wsV RX3 84 RX2 yX2_isCold wsX2_isCold) := goodIn_app (goodIn_of _ (by decide +kernel)) ggX3_smithyOf_X2_isCold
set_option maxRecDepth 20000 in
theorem ggX3_smithyOf_X3_hoursOfWay : GoodIn wsX3_smithyOf wsX3_hoursOfWay := goodIn_r _ [30, 31, 32, 33, 34, 35, 36, 21, 37] (by decide +kernel) (by decide +kernel)
set_option maxRecDepth 20000 in
theorem gX3_smithyOf_X3_hoursOfWay : GoodIn wsX3_smithyOf (va_wsS RX3 101 yX3_hoursOfWay wsX3_hoursOfWay) := goodIn_app (goodIn_of _ (by decide +kernel)) ggX3_smithyOf_X3_hoursOfWay
theorem dX3_smithyOf_0 : decode cX3_smithyOf 0 = .ok (.aload_n 0, 1) := by decide +kernel
theorem dX3_smithyOf_1 : decode cX3_smithyOf 1 = .ok (.getfield 12, 3) := by decide +kernel
theorem dX3_smithyOf_4 : decode cX3_smithyOf 4 = .ok (.iload_n 1, 1) := by decide +kernel
theorem dX3_smithyOf_5 : decode cX3_smithyOf 5 = .ok (.invokevirtual 61, 3) := by decide +kernel
theorem dX3_smithyOf_8 : decode cX3_smithyOf 8 = .ok (.astore_n 3, 1) := by decide +kernel
theorem dX3_smithyOf_9 : decode cX3_smithyOf 9 = .ok (.aload_n 3, 1) := by decide +kernel
theorem dX3_smithyOf_10 : decode cX3_smithyOf 10 = .ok (.ifnonnull 6, 3) := by decide +kernel
theorem dX3_smithyOf_13 : decode cX3_smithyOf 13 = .ok (.ldc 65, 2) := by decide +kernel
theorem dX3_smithyOf_15 : decode cX3_smithyOf 15 = .ok (.ireturn, 1) := by decide +kernel
theorem dX3_smithyOf_16 : decode cX3_smithyOf 16 = .ok (.iload_n 2, 1) := by decide +kernel
theorem dX3_smithyOf_17 : decode cX3_smithyOf 17 = .ok (.tableswitch 142 0 10 #[59, 64, 69, 74, 82, 87, 107, 112, 117, 122, 127], 59) := by decide +kernel
theorem dX3_smithyOf_76 : decode cX3_smithyOf 76 = .ok (.aload_n 3, 1) := by decide +kernel
theorem dX3_smithyOf_77 : decode cX3_smithyOf 77 = .ok (.getfield 66, 3) := by decide +kernel
theorem dX3_smithyOf_80 : decode cX3_smithyOf 80 = .ok (.ireturn, 1) := by decide +kernel
theorem dX3_smithyOf_81 : decode cX3_smithyOf 81 = .ok (.aload_n 3, 1) := by decide +kernel
theorem dX3_smithyOf_82 : decode cX3_smithyOf 82 = .ok (.getfield 72, 3) := by decide +kernel
theorem dX3_smithyOf_85 : decode cX3_smithyOf 85 = .ok (.ireturn, 1) := by decide +kernel
theorem dX3_smithyOf_86 : decode cX3_smithyOf 86 = .ok (.aload_n 3, 1) := by decide +kernel
theorem dX3_smithyOf_87 : decode cX3_smithyOf 87 = .ok (.getfield 75, 3) := by decide +kernel
theorem dX3_smithyOf_90 : decode cX3_smithyOf 90 = .ok (.ireturn, 1) := by decide +kernel
theorem dX3_smithyOf_91 : decode cX3_smithyOf 91 = .ok (.aload_n 3, 1) := by decide +kernel
theorem dX3_smithyOf_92 : decode cX3_smithyOf 92 = .ok (.getfield 75, 3) := by decide +kernel
theorem dX3_smithyOf_95 : decode cX3_smithyOf 95 = .ok (.invokestatic 78, 3) := by decide +kernel
theorem dX3_smithyOf_98 : decode cX3_smithyOf 98 = .ok (.ireturn, 1) := by decide +kernel
theorem dX3_smithyOf_99 : decode cX3_smithyOf 99 = .ok (.aload_n 3, 1) := by decide +kernel
theorem dX3_smithyOf_100 : decode cX3_smithyOf 100 = .ok (.getfield 81, 3) := by decide +kernel
theorem dX3_smithyOf_103 : decode cX3_smithyOf 103 = .ok (.ireturn, 1) := by decide +kernel
theorem dX3_smithyOf_104 : decode cX3_smithyOf 104 = .ok (.aload_n 0, 1) := by decide +kernel
theorem dX3_smithyOf_105 : decode cX3_smithyOf 105 = .ok (.getfield 12, 3) := by decide +kernel
theorem dX3_smithyOf_108 : decode cX3_smithyOf 108 = .ok (.aload_n 3, 1) := by decide +kernel
theorem dX3_smithyOf_109 : decode cX3_smithyOf 109 = .ok (.getfield 81, 3) := by decide +kernel
theorem dX3_smithyOf_112 : decode cX3_smithyOf 112 = .ok (.invokevirtual 84, 3) := by decide +kernel
theorem dX3_smithyOf_115 : decode cX3_smithyOf 115 = .ok (.ifCond .eq 7, 3) := by decide +kernel
theorem dX3_smithyOf_118 : decode cX3_smithyOf 118 = .ok (.iconst 1, 1) := by decide +kernel
theorem dX3_smithyOf_119 : decode cX3_smithyOf 119 = .ok (.goto 4, 3) := by decide +kernel
theorem dX3_smithyOf_122 : decode cX3_smithyOf 122 = .ok (.iconst 0, 1) := by decide +kernel
theorem dX3_smithyOf_123 : decode cX3_smithyOf 123 = .ok (.ireturn, 1) := by decide +kernel
theorem dX3_smithyOf_124 : decode cX3_smithyOf 124 = .ok (.aload_n 3, 1) := by decide +kernel
theorem dX3_smithyOf_125 : decode cX3_smithyOf 125 = .ok (.getfield 88, 3) := by decide +kernel
theorem dX3_smithyOf_128 : decode cX3_smithyOf 128 = .ok (.ireturn, 1) := by decide +kernel
theorem dX3_smithyOf_129 : decode cX3_smithyOf 129 = .ok (.aload_n 3, 1) := by decide +kernel
theorem dX3_smithyOf_130 : decode cX3_smithyOf 130 = .ok (.getfield 91, 3) := by decide +kernel
theorem dX3_smithyOf_133 : decode cX3_smithyOf 133 = .ok (.ireturn, 1) := by decide +kernel
theorem dX3_smithyOf_134 : decode cX3_smithyOf 134 = .ok (.aload_n 3, 1) := by decide +kernel
theorem dX3_smithyOf_135 : decode cX3_smithyOf 135 = .ok (.getfield 94, 3) := by decide +kernel
theorem dX3_smithyOf_138 : decode cX3_smithyOf 138 = .ok (.ireturn, 1) := by decide +kernel
theorem dX3_smithyOf_139 : decode cX3_smithyOf 139 = .ok (.aload_n 3, 1) := by decide +kernel
theorem dX3_smithyOf_140 : decode cX3_smithyOf 140 = .ok (.getfield 97, 3) := by decide +kernel
theorem dX3_smithyOf_143 : decode cX3_smithyOf 143 = .ok (.ireturn, 1) := by decide +kernel
theorem dX3_smithyOf_144 : decode cX3_smithyOf 144 = .ok (.aload_n 0, 1) := by decide +kernel
theorem dX3_smithyOf_145 : decode cX3_smithyOf 145 = .ok (.getfield 12, 3) := by decide +kernel
theorem dX3_smithyOf_148 : decode cX3_smithyOf 148 = .ok (.getfield 100, 3) := by decide +kernel
theorem dX3_smithyOf_151 : decode cX3_smithyOf 151 = .ok (.aload_n 3, 1) := by decide +kernel
theorem dX3_smithyOf_152 : decode cX3_smithyOf 152 = .ok (.getfield 66, 3) := by decide +kernel
theorem dX3_smithyOf_155 : decode cX3_smithyOf 155 = .ok (.invokestatic 101, 3) := by decide +kernel
theorem dX3_smithyOf_158 : decode cX3_smithyOf 158 = .ok (.ireturn, 1) := by decide +kernel
theorem dX3_smithyOf_159 : decode cX3_smithyOf 159 = .ok (.ldc 65, 2) := by decide +kernel
theorem dX3_smithyOf_161 : decode cX3_smithyOf 161 = .ok (.ireturn, 1) := by decide +kernel
set_option maxRecDepth 20000 in
theorem ggX3_why_X2_find : GoodIn wsX3_why wsX2_find := goodIn_r _ [7, 8, 9, 49, 50, 51, 52, 53, 54, 55, 56, 57, 58, 59, 60, 61, 62, 63] (by decide +kernel) (by decide +kernel)
set_option maxRecDepth 20000 in
theorem gX3_why_X2_find : GoodIn wsX3_why (wsV RX3 61 RX2 yX2_find wsX2_find) := goodIn_app (goodIn_of _ (by decide +kernel)) ggX3_why_X2_find
set_option maxRecDepth 20000 in
theorem ggX3_why_X3_isFlag : GoodIn wsX3_why wsX3_isFlag := goodIn_r _ [13] (by decide +kernel) (by decide +kernel)
set_option maxRecDepth 20000 in
theorem gX3_why_X3_isFlag : GoodIn wsX3_why (va_wsS RX3 104 yX3_isFlag wsX3_isFlag) := goodIn_app (goodIn_of _ (by decide +kernel)) ggX3_why_X3_isFlag
set_option maxRecDepth 20000 in
theorem ggX3_why_X2_reasonAgainst : GoodIn wsX3_why wsX2_reasonAgainst := goodIn_r _ [17, 18, 19, 20, 21, 22, 12, 23, 24, 25, 26, 27, 28, 29, 30, 31, 32, 33, 34, 35, 6, 36, 37, 38, 39, 64, 65, 66, 67, 68, 69, 70, 71, 49, 50, 51, 52, 53, 54, 55, 56, 57, 58, 59, 60, 61, 62, 63] (by decide +kernel) (by decide +kernel)
set_option maxRecDepth 20000 in
theorem gX3_why_X2_reasonAgainst : GoodIn wsX3_why (wsV RX3 107 RX2 yX2_reasonAgainst wsX2_reasonAgainst) := goodIn_app (goodIn_of _ (by decide +kernel)) ggX3_why_X2_reasonAgainst
theorem dX3_why_0 : decode cX3_why 0 = .ok (.aload_n 0, 1) := by decide +kernel
theorem dX3_why_1 : decode cX3_why 1 = .ok (.getfield 12, 3) := by decide +kernel
theorem dX3_why_4 : decode cX3_why 4 = .ok (.iload_n 1, 1) := by decide +kernel
theorem dX3_why_5 : decode cX3_why 5 = .ok (.invokevirtual 61, 3) := by decide +kernel
theorem dX3_why_8 : decode cX3_why 8 = .ok (.astore_n 3, 1) := by decide +kernel
theorem dX3_why_9 : decode cX3_why 9 = .ok (.aload_n 3, 1) := by decide +kernel
theorem dX3_why_10 : decode cX3_why 10 = .ok (.ifnull 10, 3) := by decide +kernel
theorem dX3_why_13 : decode cX3_why 13 = .ok (.iload_n 2, 1) := by decide +kernel
theorem dX3_why_14 : decode cX3_why 14 = .ok (.invokestatic 104, 3) := by decide +kernel
theorem dX3_why_17 : decode cX3_why 17 = .ok (.ifCond .ne 6, 3) := by decide +kernel
theorem dX3_why_20 : decode cX3_why 20 = .ok (.ldc 65, 2) := by decide +kernel
theorem dX3_why_22 : decode cX3_why 22 = .ok (.ireturn, 1) := by decide +kernel
theorem dX3_why_23 : decode cX3_why 23 = .ok (.aload_n 0, 1) := by decide +kernel
theorem dX3_why_24 : decode cX3_why 24 = .ok (.getfield 12, 3) := by decide +kernel
theorem dX3_why_27 : decode cX3_why 27 = .ok (.aload_n 3, 1) := by decide +kernel
theorem dX3_why_28 : decode cX3_why 28 = .ok (.iload_n 2, 1) := by decide +kernel
theorem dX3_why_29 : decode cX3_why 29 = .ok (.iconst 1, 1) := by decide +kernel
theorem dX3_why_30 : decode cX3_why 30 = .ok (.if_icmp .ne 7, 3) := by decide +kernel
theorem dX3_why_33 : decode cX3_why 33 = .ok (.iconst 1, 1) := by decide +kernel
theorem dX3_why_34 : decode cX3_why 34 = .ok (.goto 4, 3) := by decide +kernel
theorem dX3_why_37 : decode cX3_why 37 = .ok (.iconst 0, 1) := by decide +kernel
theorem dX3_why_38 : decode cX3_why 38 = .ok (.invokevirtual 107, 3) := by decide +kernel
theorem dX3_why_41 : decode cX3_why 41 = .ok (.ireturn, 1) := by decide +kernel
set_option maxRecDepth 20000 in
theorem ggX3_mend_X2_find : GoodIn wsX3_mend wsX2_find := goodIn_r _ [7, 8, 9, 45, 46, 47, 48, 49, 50, 51, 52, 53, 54, 55, 56, 57, 58, 59] (by decide +kernel) (by decide +kernel)
set_option maxRecDepth 20000 in
theorem gX3_mend_X2_find : GoodIn wsX3_mend (wsV RX3 61 RX2 yX2_find wsX2_find) := goodIn_app (goodIn_of _ (by decide +kernel)) ggX3_mend_X2_find
set_option maxRecDepth 20000 in
theorem ggX3_mend_X3_isFlag : GoodIn wsX3_mend wsX3_isFlag := goodIn_r _ [13] (by decide +kernel) (by decide +kernel)
set_option maxRecDepth 20000 in
theorem gX3_mend_X3_isFlag : GoodIn wsX3_mend (va_wsS RX3 104 yX3_isFlag wsX3_isFlag) := goodIn_app (goodIn_of _ (by decide +kernel)) ggX3_mend_X3_isFlag
set_option maxRecDepth 20000 in
theorem ggX3_mend_X3_hoursOfMend : GoodIn wsX3_mend wsX3_hoursOfMend := goodIn_r _ [16] (by decide +kernel) (by decide +kernel)
set_option maxRecDepth 20000 in
theorem gX3_mend_X3_hoursOfMend : GoodIn wsX3_mend (va_wsS RX3 111 yX3_hoursOfMend wsX3_hoursOfMend) := goodIn_app (goodIn_of _ (by decide +kernel)) ggX3_mend_X3_hoursOfMend
set_option maxRecDepth 20000 in
theorem ggX3_mend_X1_leatherOfMend : GoodIn wsX3_mend wsX1_leatherOfMend := goodIn_r _ [21, 22, 23, 24, 12, 25, 60, 61, 62, 63, 64, 65, 66, 67] (by decide +kernel) (by decide +kernel)
set_option maxRecDepth 20000 in
theorem gX3_mend_X1_leatherOfMend : GoodIn wsX3_mend (wsV RX3 115 RX1 yX1_leatherOfMend wsX1_leatherOfMend) := goodIn_app (goodIn_of _ (by decide +kernel)) ggX3_mend_X1_leatherOfMend
set_option maxRecDepth 20000 in
theorem ggX3_mend_X2_priceOfMend : GoodIn wsX3_mend wsX2_priceOfMend := goodIn_r _ [29, 30, 15, 12, 16, 31, 18, 19, 20, 21, 22, 23, 24, 25, 45, 46, 47, 48, 49, 50, 51, 52, 53, 54, 55, 56, 57, 58, 59, 60, 61, 62, 63, 64, 65, 66, 67] (by decide +kernel) (by decide +kernel)
set_option maxRecDepth 20000 in
theorem gX3_mend_X2_priceOfMend : GoodIn wsX3_mend (wsV RX3 118 RX2 yX2_priceOfMend wsX2_priceOfMend) := goodIn_app (goodIn_of _ (by decide +kernel)) ggX3_mend_X2_priceOfMend
set_option maxRecDepth 20000 in
theorem ggX3_mend_X1_wearBehindMend : GoodIn wsX3_mend wsX1_wearBehindMend := goodIn_r _ [35, 23, 60, 61, 62, 63, 64, 65, 66, 67] (by decide +kernel) (by decide +kernel)
set_option maxRecDepth 20000 in
theorem gX3_mend_X1_wearBehindMend : GoodIn wsX3_mend (wsV RX3 121 RX1 yX1_wearBehindMend wsX1_wearBehindMend) := goodIn_app (goodIn_of _ (by decide +kernel)) ggX3_mend_X1_wearBehindMend
theorem dX3_mend_0 : decode cX3_mend 0 = .ok (.aload_n 0, 1) := by decide +kernel
theorem dX3_mend_1 : decode cX3_mend 1 = .ok (.getfield 12, 3) := by decide +kernel
theorem dX3_mend_4 : decode cX3_mend 4 = .ok (.iload_n 1, 1) := by decide +kernel
theorem dX3_mend_5 : decode cX3_mend 5 = .ok (.invokevirtual 61, 3) := by decide +kernel
theorem dX3_mend_8 : decode cX3_mend 8 = .ok (.astore 4, 2) := by decide +kernel
theorem dX3_mend_10 : decode cX3_mend 10 = .ok (.aload 4, 2) := by decide +kernel
theorem dX3_mend_12 : decode cX3_mend 12 = .ok (.ifnull 10, 3) := by decide +kernel
theorem dX3_mend_15 : decode cX3_mend 15 = .ok (.iload_n 2, 1) := by decide +kernel
theorem dX3_mend_16 : decode cX3_mend 16 = .ok (.invokestatic 104, 3) := by decide +kernel
theorem dX3_mend_19 : decode cX3_mend 19 = .ok (.ifCond .ne 6, 3) := by decide +kernel
theorem dX3_mend_22 : decode cX3_mend 22 = .ok (.ldc 65, 2) := by decide +kernel
theorem dX3_mend_24 : decode cX3_mend 24 = .ok (.ireturn, 1) := by decide +kernel
theorem dX3_mend_25 : decode cX3_mend 25 = .ok (.iload_n 2, 1) := by decide +kernel
theorem dX3_mend_26 : decode cX3_mend 26 = .ok (.iconst 1, 1) := by decide +kernel
theorem dX3_mend_27 : decode cX3_mend 27 = .ok (.if_icmp .ne 7, 3) := by decide +kernel
theorem dX3_mend_30 : decode cX3_mend 30 = .ok (.iconst 1, 1) := by decide +kernel
theorem dX3_mend_31 : decode cX3_mend 31 = .ok (.goto 4, 3) := by decide +kernel
theorem dX3_mend_34 : decode cX3_mend 34 = .ok (.iconst 0, 1) := by decide +kernel
theorem dX3_mend_35 : decode cX3_mend 35 = .ok (.istore 5, 2) := by decide +kernel
theorem dX3_mend_37 : decode cX3_mend 37 = .ok (.iload_n 3, 1) := by decide +kernel
theorem dX3_mend_38 : decode cX3_mend 38 = .ok (.tableswitch 64 0 3 #[30, 36, 44, 56], 30) := by decide +kernel
theorem dX3_mend_68 : decode cX3_mend 68 = .ok (.iload 5, 2) := by decide +kernel
theorem dX3_mend_70 : decode cX3_mend 70 = .ok (.invokestatic 111, 3) := by decide +kernel
theorem dX3_mend_73 : decode cX3_mend 73 = .ok (.ireturn, 1) := by decide +kernel
theorem dX3_mend_74 : decode cX3_mend 74 = .ok (.aload 4, 2) := by decide +kernel
theorem dX3_mend_76 : decode cX3_mend 76 = .ok (.iload 5, 2) := by decide +kernel
theorem dX3_mend_78 : decode cX3_mend 78 = .ok (.invokevirtual 115, 3) := by decide +kernel
theorem dX3_mend_81 : decode cX3_mend 81 = .ok (.ireturn, 1) := by decide +kernel
theorem dX3_mend_82 : decode cX3_mend 82 = .ok (.aload_n 0, 1) := by decide +kernel
theorem dX3_mend_83 : decode cX3_mend 83 = .ok (.getfield 12, 3) := by decide +kernel
theorem dX3_mend_86 : decode cX3_mend 86 = .ok (.aload 4, 2) := by decide +kernel
theorem dX3_mend_88 : decode cX3_mend 88 = .ok (.iload 5, 2) := by decide +kernel
theorem dX3_mend_90 : decode cX3_mend 90 = .ok (.invokevirtual 118, 3) := by decide +kernel
theorem dX3_mend_93 : decode cX3_mend 93 = .ok (.ireturn, 1) := by decide +kernel
theorem dX3_mend_94 : decode cX3_mend 94 = .ok (.aload 4, 2) := by decide +kernel
theorem dX3_mend_96 : decode cX3_mend 96 = .ok (.iload 5, 2) := by decide +kernel
theorem dX3_mend_98 : decode cX3_mend 98 = .ok (.invokevirtual 121, 3) := by decide +kernel
theorem dX3_mend_101 : decode cX3_mend 101 = .ok (.ireturn, 1) := by decide +kernel
theorem dX3_mend_102 : decode cX3_mend 102 = .ok (.ldc 65, 2) := by decide +kernel
theorem dX3_mend_104 : decode cX3_mend 104 = .ok (.ireturn, 1) := by decide +kernel
set_option maxRecDepth 20000 in
theorem ggX3_coldIn_X2_find : GoodIn wsX3_coldIn wsX2_find := goodIn_r _ [8, 9, 10, 47, 48, 49, 50, 51, 52, 53, 54, 55, 56, 57, 58, 59, 60, 61] (by decide +kernel) (by decide +kernel)
set_option maxRecDepth 20000 in
theorem gX3_coldIn_X2_find : GoodIn wsX3_coldIn (wsV RX3 61 RX2 yX2_find wsX2_find) := goodIn_app (goodIn_of _ (by decide +kernel)) ggX3_coldIn_X2_find
set_option maxRecDepth 20000 in
theorem ggX3_coldIn_X2_coldDaysAhead : GoodIn wsX3_coldIn wsX2_coldDaysAhead := goodIn_r _ [14, 15, 16, 17, 18, 19, 20, 7, 21, 22, 23, 24, 25, 26, 27, 28, 29, 30, 31, 32, 33, 34, 35, 36, 37, 62, 63, 64, 65, 66, 67, 68, 69, 47, 48, 49, 50, 51, 52, 53, 54, 55, 56, 57, 58, 59, 60, 61] (by decide +kernel) (by decide +kernel)
set_option maxRecDepth 20000 in
theorem gX3_coldIn_X2_coldDaysAhead : GoodIn wsX3_coldIn (wsV RX3 124 RX2 yX2_coldDaysAhead wsX2_coldDaysAhead) := goodIn_app (goodIn_of _ (by decide +kernel)) ggX3_coldIn_X2_coldDaysAhead
theorem dX3_coldIn_0 : decode cX3_coldIn 0 = .ok (.aload_n 0, 1) := by decide +kernel
theorem dX3_coldIn_1 : decode cX3_coldIn 1 = .ok (.getfield 12, 3) := by decide +kernel
theorem dX3_coldIn_4 : decode cX3_coldIn 4 = .ok (.iload_n 1, 1) := by decide +kernel
theorem dX3_coldIn_5 : decode cX3_coldIn 5 = .ok (.invokevirtual 61, 3) := by decide +kernel
theorem dX3_coldIn_8 : decode cX3_coldIn 8 = .ok (.astore_n 2, 1) := by decide +kernel
theorem dX3_coldIn_9 : decode cX3_coldIn 9 = .ok (.aload_n 2, 1) := by decide +kernel
theorem dX3_coldIn_10 : decode cX3_coldIn 10 = .ok (.ifnonnull 6, 3) := by decide +kernel
theorem dX3_coldIn_13 : decode cX3_coldIn 13 = .ok (.ldc 65, 2) := by decide +kernel
theorem dX3_coldIn_15 : decode cX3_coldIn 15 = .ok (.ireturn, 1) := by decide +kernel
theorem dX3_coldIn_16 : decode cX3_coldIn 16 = .ok (.aload_n 0, 1) := by decide +kernel
theorem dX3_coldIn_17 : decode cX3_coldIn 17 = .ok (.getfield 12, 3) := by decide +kernel
theorem dX3_coldIn_20 : decode cX3_coldIn 20 = .ok (.aload_n 2, 1) := by decide +kernel
theorem dX3_coldIn_21 : decode cX3_coldIn 21 = .ok (.invokevirtual 124, 3) := by decide +kernel
theorem dX3_coldIn_24 : decode cX3_coldIn 24 = .ok (.istore_n 3, 1) := by decide +kernel
theorem dX3_coldIn_25 : decode cX3_coldIn 25 = .ok (.iload_n 3, 1) := by decide +kernel
theorem dX3_coldIn_26 : decode cX3_coldIn 26 = .ok (.sipush 201, 3) := by decide +kernel
theorem dX3_coldIn_29 : decode cX3_coldIn 29 = .ok (.if_icmp .ne 8, 3) := by decide +kernel
theorem dX3_coldIn_32 : decode cX3_coldIn 32 = .ok (.ldc 128, 2) := by decide +kernel
theorem dX3_coldIn_34 : decode cX3_coldIn 34 = .ok (.goto 4, 3) := by decide +kernel
theorem dX3_coldIn_37 : decode cX3_coldIn 37 = .ok (.iload_n 3, 1) := by decide +kernel
theorem dX3_coldIn_38 : decode cX3_coldIn 38 = .ok (.ireturn, 1) := by decide +kernel
set_option maxRecDepth 20000 in
theorem ggX3_next_X2_smithyToBeNext : GoodIn wsX3_next wsX2_smithyToBeNext := goodIn_r _ [6, 7, 8, 9, 10, 11, 12, 5, 13, 14, 15, 16, 17, 18, 19, 20, 21, 22, 23, 24, 25, 26, 27, 28, 29, 30, 31, 32, 33, 34, 35, 36, 37, 38, 39, 40, 41, 42, 43, 44, 45, 46, 47, 48, 49, 59, 60, 61, 62, 63, 64, 65, 66, 67, 68, 69, 70, 71, 72, 73, 74, 75, 76, 77, 78, 79, 80, 81] (by decide +kernel) (by decide +kernel)
set_option maxRecDepth 20000 in
theorem gX3_next_X2_smithyToBeNext : GoodIn wsX3_next (wsV RX3 129 RX2 yX2_smithyToBeNext wsX2_smithyToBeNext) := goodIn_app (goodIn_of _ (by decide +kernel)) ggX3_next_X2_smithyToBeNext
theorem dX3_next_0 : decode cX3_next 0 = .ok (.aload_n 0, 1) := by decide +kernel
theorem dX3_next_1 : decode cX3_next 1 = .ok (.getfield 12, 3) := by decide +kernel
theorem dX3_next_4 : decode cX3_next 4 = .ok (.invokevirtual 129, 3) := by decide +kernel
theorem dX3_next_7 : decode cX3_next 7 = .ok (.ireturn, 1) := by decide +kernel
set_option maxRecDepth 20000 in
theorem ggX3_round_X2_tellRound : GoodIn wsX3_round wsX2_tellRound := goodIn_r _ [8, 9, 10, 11, 12, 13, 14, 7, 15, 16, 17, 18, 19, 20, 21, 22, 23, 24, 25, 26, 27, 28, 29, 30, 31, 32, 33, 34, 35, 36, 37, 38, 39, 40, 41, 42, 43, 44, 45, 46, 47, 48, 49, 50, 51, 52, 62, 63, 64, 65, 66, 67, 68, 69, 70, 71, 72, 73, 74, 75, 76, 77, 78, 79, 80, 81, 82, 83, 84] (by decide +kernel) (by decide +kernel)
set_option maxRecDepth 20000 in
theorem gX3_round_X2_tellRound : GoodIn wsX3_round (wsV RX3 136 RX2 yX2_tellRound wsX2_tellRound) := goodIn_app (goodIn_of _ (by decide +kernel)) ggX3_round_X2_tellRound
theorem dX3_round_0 : decode cX3_round 0 = .ok (.iload_n 1, 1) := by decide +kernel
theorem dX3_round_1 : decode cX3_round 1 = .ok (.iconst 1, 1) := by decide +kernel
theorem dX3_round_2 : decode cX3_round 2 = .ok (.if_icmp .lt 25, 3) := by decide +kernel
theorem dX3_round_5 : decode cX3_round 5 = .ok (.iload_n 1, 1) := by decide +kernel
theorem dX3_round_6 : decode cX3_round 6 = .ok (.iconst 1, 1) := by decide +kernel
theorem dX3_round_7 : decode cX3_round 7 = .ok (.aload_n 0, 1) := by decide +kernel
theorem dX3_round_8 : decode cX3_round 8 = .ok (.getfield 12, 3) := by decide +kernel
theorem dX3_round_11 : decode cX3_round 11 = .ok (.getfield 133, 3) := by decide +kernel
theorem dX3_round_14 : decode cX3_round 14 = .ok (.ishl, 1) := by decide +kernel
theorem dX3_round_15 : decode cX3_round 15 = .ok (.if_icmp .ge 12, 3) := by decide +kernel
theorem dX3_round_18 : decode cX3_round 18 = .ok (.iload_n 2, 1) := by decide +kernel
theorem dX3_round_19 : decode cX3_round 19 = .ok (.ifCond .lt 8, 3) := by decide +kernel
theorem dX3_round_22 : decode cX3_round 22 = .ok (.iload_n 2, 1) := by decide +kernel
theorem dX3_round_23 : decode cX3_round 23 = .ok (.iconst 2, 1) := by decide +kernel
theorem dX3_round_24 : decode cX3_round 24 = .ok (.if_icmp .le 6, 3) := by decide +kernel
theorem dX3_round_27 : decode cX3_round 27 = .ok (.ldc 65, 2) := by decide +kernel
theorem dX3_round_29 : decode cX3_round 29 = .ok (.ireturn, 1) := by decide +kernel
theorem dX3_round_30 : decode cX3_round 30 = .ok (.aload_n 0, 1) := by decide +kernel
theorem dX3_round_31 : decode cX3_round 31 = .ok (.getfield 12, 3) := by decide +kernel
theorem dX3_round_34 : decode cX3_round 34 = .ok (.iload_n 1, 1) := by decide +kernel
theorem dX3_round_35 : decode cX3_round 35 = .ok (.iload_n 2, 1) := by decide +kernel
theorem dX3_round_36 : decode cX3_round 36 = .ok (.invokevirtual 136, 3) := by decide +kernel
theorem dX3_round_39 : decode cX3_round 39 = .ok (.ireturn, 1) := by decide +kernel
set_option maxRecDepth 20000 in
theorem ggX3_mean_X2_wearTogether : GoodIn wsX3_mean wsX2_wearTogether := goodIn_r _ [8, 9, 10, 11, 12, 13, 7, 14, 15, 30, 31, 32, 33, 34, 35, 36, 37, 38, 39, 40, 41, 42, 43, 44, 45, 46, 47, 48, 49, 50, 51, 52] (by decide +kernel) (by decide +kernel)
set_option maxRecDepth 20000 in
theorem gX3_mean_X2_wearTogether : GoodIn wsX3_mean (wsV RX3 139 RX2 yX2_wearTogether wsX2_wearTogether) := goodIn_app (goodIn_of _ (by decide +kernel)) ggX3_mean_X2_wearTogether
set_option maxRecDepth 20000 in
theorem ggX3_mean_X3_bitsOf : GoodIn wsX3_mean wsX3_bitsOf := goodIn_r _ [19, 20] (by decide +kernel) (by decide +kernel)
set_option maxRecDepth 20000 in
theorem gX3_mean_X3_bitsOf : GoodIn wsX3_mean (va_wsS RX3 142 yX3_bitsOf wsX3_bitsOf) := goodIn_app (goodIn_of _ (by decide +kernel)) ggX3_mean_X3_bitsOf
theorem dX3_mean_0 : decode cX3_mean 0 = .ok (.aload_n 0, 1) := by decide +kernel
theorem dX3_mean_1 : decode cX3_mean 1 = .ok (.getfield 12, 3) := by decide +kernel
theorem dX3_mean_4 : decode cX3_mean 4 = .ok (.getfield 133, 3) := by decide +kernel
theorem dX3_mean_7 : decode cX3_mean 7 = .ok (.ifCond .gt 6, 3) := by decide +kernel
theorem dX3_mean_10 : decode cX3_mean 10 = .ok (.ldc 128, 2) := by decide +kernel
theorem dX3_mean_12 : decode cX3_mean 12 = .ok (.ireturn, 1) := by decide +kernel
theorem dX3_mean_13 : decode cX3_mean 13 = .ok (.aload_n 0, 1) := by decide +kernel
theorem dX3_mean_14 : decode cX3_mean 14 = .ok (.getfield 12, 3) := by decide +kernel
theorem dX3_mean_17 : decode cX3_mean 17 = .ok (.invokevirtual 139, 3) := by decide +kernel
theorem dX3_mean_20 : decode cX3_mean 20 = .ok (.i2f, 1) := by decide +kernel
theorem dX3_mean_21 : decode cX3_mean 21 = .ok (.aload_n 0, 1) := by decide +kernel
theorem dX3_mean_22 : decode cX3_mean 22 = .ok (.getfield 12, 3) := by decide +kernel
theorem dX3_mean_25 : decode cX3_mean 25 = .ok (.getfield 133, 3) := by decide +kernel
theorem dX3_mean_28 : decode cX3_mean 28 = .ok (.i2f, 1) := by decide +kernel
theorem dX3_mean_29 : decode cX3_mean 29 = .ok (.fdiv, 1) := by decide +kernel
theorem dX3_mean_30 : decode cX3_mean 30 = .ok (.invokestatic 142, 3) := by decide +kernel
theorem dX3_mean_33 : decode cX3_mean 33 = .ok (.ireturn, 1) := by decide +kernel
set_option maxRecDepth 20000 in
theorem ggX3_count_X2_debtsTogether : GoodIn wsX3_count wsX2_debtsTogether := goodIn_r _ [24, 25, 26, 27, 28, 29, 23, 30, 31, 51, 52, 53, 54, 55, 56, 57, 58, 59, 60, 61, 62, 63, 64, 65, 72, 73, 74, 75, 76, 77, 78, 79] (by decide +kernel) (by decide +kernel)
set_option maxRecDepth 20000 in
theorem gX3_count_X2_debtsTogether : GoodIn wsX3_count (wsV RX3 158 RX2 yX2_debtsTogether wsX2_debtsTogether) := goodIn_app (goodIn_of _ (by decide +kernel)) ggX3_count_X2_debtsTogether
set_option maxRecDepth 20000 in
theorem ggX3_count_X2_coldSet : GoodIn wsX3_count wsX2_coldSet := goodIn_r _ [35, 25, 36, 27, 28, 29, 23, 30, 31, 37, 38, 39, 40, 41, 51, 52, 53, 54, 55, 56, 57, 58, 59, 60, 61, 62, 63, 64, 65, 72, 73, 74, 75, 76, 77, 78, 79] (by decide +kernel) (by decide +kernel)
set_option maxRecDepth 20000 in
theorem gX3_count_X2_coldSet : GoodIn wsX3_count (wsV RX3 167 RX2 yX2_coldSet wsX2_coldSet) := goodIn_app (goodIn_of _ (by decide +kernel)) ggX3_count_X2_coldSet
theorem dX3_count_0 : decode cX3_count 0 = .ok (.iload_n 1, 1) := by decide +kernel
theorem dX3_count_1 : decode cX3_count 1 = .ok (.tableswitch 252 0 23 #[111, 119, 127, 135, 143, 151, 159, 167, 175, 183, 191, 199, 207, 212, 252, 252, 252, 252, 252, 252, 220, 228, 236, 244], 111) := by decide +kernel
theorem dX3_count_112 : decode cX3_count 112 = .ok (.aload_n 0, 1) := by decide +kernel
theorem dX3_count_113 : decode cX3_count 113 = .ok (.getfield 12, 3) := by decide +kernel
theorem dX3_count_116 : decode cX3_count 116 = .ok (.getfield 133, 3) := by decide +kernel
theorem dX3_count_119 : decode cX3_count 119 = .ok (.ireturn, 1) := by decide +kernel
theorem dX3_count_120 : decode cX3_count 120 = .ok (.aload_n 0, 1) := by decide +kernel
theorem dX3_count_121 : decode cX3_count 121 = .ok (.getfield 12, 3) := by decide +kernel
theorem dX3_count_124 : decode cX3_count 124 = .ok (.getfield 146, 3) := by decide +kernel
theorem dX3_count_127 : decode cX3_count 127 = .ok (.ireturn, 1) := by decide +kernel
theorem dX3_count_128 : decode cX3_count 128 = .ok (.aload_n 0, 1) := by decide +kernel
theorem dX3_count_129 : decode cX3_count 129 = .ok (.getfield 12, 3) := by decide +kernel
theorem dX3_count_132 : decode cX3_count 132 = .ok (.getfield 100, 3) := by decide +kernel
theorem dX3_count_135 : decode cX3_count 135 = .ok (.ireturn, 1) := by decide +kernel
theorem dX3_count_136 : decode cX3_count 136 = .ok (.aload_n 0, 1) := by decide +kernel
theorem dX3_count_137 : decode cX3_count 137 = .ok (.getfield 12, 3) := by decide +kernel
theorem dX3_count_140 : decode cX3_count 140 = .ok (.getfield 149, 3) := by decide +kernel
theorem dX3_count_143 : decode cX3_count 143 = .ok (.ireturn, 1) := by decide +kernel
theorem dX3_count_144 : decode cX3_count 144 = .ok (.aload_n 0, 1) := by decide +kernel
theorem dX3_count_145 : decode cX3_count 145 = .ok (.getfield 12, 3) := by decide +kernel
theorem dX3_count_148 : decode cX3_count 148 = .ok (.getfield 152, 3) := by decide +kernel
theorem dX3_count_151 : decode cX3_count 151 = .ok (.ireturn, 1) := by decide +kernel
theorem dX3_count_152 : decode cX3_count 152 = .ok (.aload_n 0, 1) := by decide +kernel
theorem dX3_count_153 : decode cX3_count 153 = .ok (.getfield 12, 3) := by decide +kernel
theorem dX3_count_156 : decode cX3_count 156 = .ok (.getfield 155, 3) := by decide +kernel
theorem dX3_count_159 : decode cX3_count 159 = .ok (.ireturn, 1) := by decide +kernel
theorem dX3_count_160 : decode cX3_count 160 = .ok (.aload_n 0, 1) := by decide +kernel
theorem dX3_count_161 : decode cX3_count 161 = .ok (.getfield 12, 3) := by decide +kernel
theorem dX3_count_164 : decode cX3_count 164 = .ok (.invokevirtual 158, 3) := by decide +kernel
theorem dX3_count_167 : decode cX3_count 167 = .ok (.ireturn, 1) := by decide +kernel
theorem dX3_count_168 : decode cX3_count 168 = .ok (.aload_n 0, 1) := by decide +kernel
theorem dX3_count_169 : decode cX3_count 169 = .ok (.getfield 12, 3) := by decide +kernel
theorem dX3_count_172 : decode cX3_count 172 = .ok (.getfield 161, 3) := by decide +kernel
theorem dX3_count_175 : decode cX3_count 175 = .ok (.ireturn, 1) := by decide +kernel
theorem dX3_count_176 : decode cX3_count 176 = .ok (.aload_n 0, 1) := by decide +kernel
theorem dX3_count_177 : decode cX3_count 177 = .ok (.getfield 12, 3) := by decide +kernel
theorem dX3_count_180 : decode cX3_count 180 = .ok (.getfield 164, 3) := by decide +kernel
theorem dX3_count_183 : decode cX3_count 183 = .ok (.ireturn, 1) := by decide +kernel
theorem dX3_count_184 : decode cX3_count 184 = .ok (.aload_n 0, 1) := by decide +kernel
theorem dX3_count_185 : decode cX3_count 185 = .ok (.getfield 12, 3) := by decide +kernel
theorem dX3_count_188 : decode cX3_count 188 = .ok (.invokevirtual 167, 3) := by decide +kernel
theorem dX3_count_191 : decode cX3_count 191 = .ok (.ireturn, 1) := by decide +kernel
theorem dX3_count_192 : decode cX3_count 192 = .ok (.aload_n 0, 1) := by decide +kernel
theorem dX3_count_193 : decode cX3_count 193 = .ok (.getfield 12, 3) := by decide +kernel
theorem dX3_count_196 : decode cX3_count 196 = .ok (.getfield 170, 3) := by decide +kernel
theorem dX3_count_199 : decode cX3_count 199 = .ok (.ireturn, 1) := by decide +kernel
theorem dX3_count_200 : decode cX3_count 200 = .ok (.aload_n 0, 1) := by decide +kernel
theorem dX3_count_201 : decode cX3_count 201 = .ok (.getfield 12, 3) := by decide +kernel
theorem dX3_count_204 : decode cX3_count 204 = .ok (.getfield 173, 3) := by decide +kernel
theorem dX3_count_207 : decode cX3_count 207 = .ok (.ireturn, 1) := by decide +kernel
theorem dX3_count_208 : decode cX3_count 208 = .ok (.aload_n 0, 1) := by decide +kernel
theorem dX3_count_209 : decode cX3_count 209 = .ok (.getfield 176, 3) := by decide +kernel
theorem dX3_count_212 : decode cX3_count 212 = .ok (.ireturn, 1) := by decide +kernel
theorem dX3_count_213 : decode cX3_count 213 = .ok (.aload_n 0, 1) := by decide +kernel
theorem dX3_count_214 : decode cX3_count 214 = .ok (.getfield 26, 3) := by decide +kernel
theorem dX3_count_217 : decode cX3_count 217 = .ok (.getfield 179, 3) := by decide +kernel
theorem dX3_count_220 : decode cX3_count 220 = .ok (.ireturn, 1) := by decide +kernel
theorem dX3_count_221 : decode cX3_count 221 = .ok (.aload_n 0, 1) := by decide +kernel
theorem dX3_count_222 : decode cX3_count 222 = .ok (.getfield 12, 3) := by decide +kernel
theorem dX3_count_225 : decode cX3_count 225 = .ok (.getfield 182, 3) := by decide +kernel
theorem dX3_count_228 : decode cX3_count 228 = .ok (.ireturn, 1) := by decide +kernel
theorem dX3_count_229 : decode cX3_count 229 = .ok (.aload_n 0, 1) := by decide +kernel
theorem dX3_count_230 : decode cX3_count 230 = .ok (.getfield 12, 3) := by decide +kernel
theorem dX3_count_233 : decode cX3_count 233 = .ok (.getfield 185, 3) := by decide +kernel
theorem dX3_count_236 : decode cX3_count 236 = .ok (.ireturn, 1) := by decide +kernel
theorem dX3_count_237 : decode cX3_count 237 = .ok (.aload_n 0, 1) := by decide +kernel
theorem dX3_count_238 : decode cX3_count 238 = .ok (.getfield 12, 3) := by decide +kernel
theorem dX3_count_241 : decode cX3_count 241 = .ok (.getfield 188, 3) := by decide +kernel
theorem dX3_count_244 : decode cX3_count 244 = .ok (.ireturn, 1) := by decide +kernel
theorem dX3_count_245 : decode cX3_count 245 = .ok (.aload_n 0, 1) := by decide +kernel
theorem dX3_count_246 : decode cX3_count 246 = .ok (.getfield 12, 3) := by decide +kernel
theorem dX3_count_249 : decode cX3_count 249 = .ok (.getfield 191, 3) := by decide +kernel
theorem dX3_count_252 : decode cX3_count 252 = .ok (.ireturn, 1) := by decide +kernel
theorem dX3_count_253 : decode cX3_count 253 = .ok (.ldc 65, 2) := by decide +kernel
theorem dX3_count_255 : decode cX3_count 255 = .ok (.ireturn, 1) := by decide +kernel
set_option maxRecDepth 20000 in
theorem ggX3_undo_X2_copyFrom : GoodIn wsX3_undo wsX2_copyFrom := goodIn_r _ [9, 10, 11, 12, 13, 14, 15, 16, 17, 18, 19, 20, 21, 22, 23, 24, 25, 26, 8, 27, 28, 29, 30, 31, 32, 33, 34, 35, 36, 37, 38, 39, 40, 41, 51, 52, 53, 54, 55, 56, 57, 58, 59, 60, 61, 62, 63, 64, 65, 66, 67, 68, 69, 70, 71, 72, 73] (by decide +kernel) (by decide +kernel)
set_option maxRecDepth 20000 in
theorem gX3_undo_X2_copyFrom : GoodIn wsX3_undo (wsV RX3 30 RX2 yX2_copyFrom wsX2_copyFrom) := goodIn_app (goodIn_of _ (by decide +kernel)) ggX3_undo_X2_copyFrom
theorem dX3_undo_0 : decode cX3_undo 0 = .ok (.aload_n 0, 1) := by decide +kernel
theorem dX3_undo_1 : decode cX3_undo 1 = .ok (.getfield 176, 3) := by decide +kernel
theorem dX3_undo_4 : decode cX3_undo 4 = .ok (.iconst 1, 1) := by decide +kernel
theorem dX3_undo_5 : decode cX3_undo 5 = .ok (.if_icmp .lt 15, 3) := by decide +kernel
theorem dX3_undo_8 : decode cX3_undo 8 = .ok (.aload_n 0, 1) := by decide +kernel
theorem dX3_undo_9 : decode cX3_undo 9 = .ok (.getfield 176, 3) := by decide +kernel
theorem dX3_undo_12 : decode cX3_undo 12 = .ok (.aload_n 0, 1) := by decide +kernel
theorem dX3_undo_13 : decode cX3_undo 13 = .ok (.getfield 19, 3) := by decide +kernel
theorem dX3_undo_16 : decode cX3_undo 16 = .ok (.arraylength, 1) := by decide +kernel
theorem dX3_undo_17 : decode cX3_undo 17 = .ok (.if_icmp .le 6, 3) := by decide +kernel
theorem dX3_undo_20 : decode cX3_undo 20 = .ok (.ldc 194, 2) := by decide +kernel
theorem dX3_undo_22 : decode cX3_undo 22 = .ok (.ireturn, 1) := by decide +kernel
theorem dX3_undo_23 : decode cX3_undo 23 = .ok (.aload_n 0, 1) := by decide +kernel
theorem dX3_undo_24 : decode cX3_undo 24 = .ok (.getfield 19, 3) := by decide +kernel
theorem dX3_undo_27 : decode cX3_undo 27 = .ok (.aload_n 0, 1) := by decide +kernel
theorem dX3_undo_28 : decode cX3_undo 28 = .ok (.getfield 176, 3) := by decide +kernel
theorem dX3_undo_31 : decode cX3_undo 31 = .ok (.iconst 1, 1) := by decide +kernel
theorem dX3_undo_32 : decode cX3_undo 32 = .ok (.isub, 1) := by decide +kernel
theorem dX3_undo_33 : decode cX3_undo 33 = .ok (.aaload, 1) := by decide +kernel
theorem dX3_undo_34 : decode cX3_undo 34 = .ok (.astore_n 1, 1) := by decide +kernel
theorem dX3_undo_35 : decode cX3_undo 35 = .ok (.aload_n 1, 1) := by decide +kernel
theorem dX3_undo_36 : decode cX3_undo 36 = .ok (.ifnonnull 6, 3) := by decide +kernel
theorem dX3_undo_39 : decode cX3_undo 39 = .ok (.ldc 194, 2) := by decide +kernel
theorem dX3_undo_41 : decode cX3_undo 41 = .ok (.ireturn, 1) := by decide +kernel
theorem dX3_undo_42 : decode cX3_undo 42 = .ok (.aload_n 0, 1) := by decide +kernel
theorem dX3_undo_43 : decode cX3_undo 43 = .ok (.getfield 12, 3) := by decide +kernel
theorem dX3_undo_46 : decode cX3_undo 46 = .ok (.aload_n 1, 1) := by decide +kernel
theorem dX3_undo_47 : decode cX3_undo 47 = .ok (.invokevirtual 30, 3) := by decide +kernel
theorem dX3_undo_50 : decode cX3_undo 50 = .ok (.aload_n 0, 1) := by decide +kernel
theorem dX3_undo_51 : decode cX3_undo 51 = .ok (.dup, 1) := by decide +kernel
theorem dX3_undo_52 : decode cX3_undo 52 = .ok (.getfield 176, 3) := by decide +kernel
theorem dX3_undo_55 : decode cX3_undo 55 = .ok (.iconst 1, 1) := by decide +kernel
theorem dX3_undo_56 : decode cX3_undo 56 = .ok (.isub, 1) := by decide +kernel
theorem dX3_undo_57 : decode cX3_undo 57 = .ok (.putfield 176, 3) := by decide +kernel
theorem dX3_undo_60 : decode cX3_undo 60 = .ok (.aload_n 0, 1) := by decide +kernel
theorem dX3_undo_61 : decode cX3_undo 61 = .ok (.getfield 176, 3) := by decide +kernel
theorem dX3_undo_64 : decode cX3_undo 64 = .ok (.ireturn, 1) := by decide +kernel
set_option maxRecDepth 20000 in
theorem ggX3_type_X0_append : GoodIn wsX3_type wsX0_append := goodIn_r _ [7, 8, 9, 10, 20, 21, 22, 23, 24, 25] (by decide +kernel) (by decide +kernel)
set_option maxRecDepth 20000 in
theorem gX3_type_X0_append : GoodIn wsX3_type (wsV RX3 195 RX0 yX0_append wsX0_append) := goodIn_app (goodIn_of _ (by decide +kernel)) ggX3_type_X0_append
theorem dX3_type_0 : decode cX3_type 0 = .ok (.iload_n 1, 1) := by decide +kernel
theorem dX3_type_1 : decode cX3_type 1 = .ok (.bipush 32, 2) := by decide +kernel
theorem dX3_type_3 : decode cX3_type 3 = .ok (.if_icmp .lt 9, 3) := by decide +kernel
theorem dX3_type_6 : decode cX3_type 6 = .ok (.iload_n 1, 1) := by decide +kernel
theorem dX3_type_7 : decode cX3_type 7 = .ok (.bipush 126, 2) := by decide +kernel
theorem dX3_type_9 : decode cX3_type 9 = .ok (.if_icmp .le 6, 3) := by decide +kernel
theorem dX3_type_12 : decode cX3_type 12 = .ok (.ldc 65, 2) := by decide +kernel
theorem dX3_type_14 : decode cX3_type 14 = .ok (.ireturn, 1) := by decide +kernel
theorem dX3_type_15 : decode cX3_type 15 = .ok (.aload_n 0, 1) := by decide +kernel
theorem dX3_type_16 : decode cX3_type 16 = .ok (.getfield 26, 3) := by decide +kernel
theorem dX3_type_19 : decode cX3_type 19 = .ok (.iload_n 1, 1) := by decide +kernel
theorem dX3_type_20 : decode cX3_type 20 = .ok (.i2c, 1) := by decide +kernel
theorem dX3_type_21 : decode cX3_type 21 = .ok (.invokevirtual 195, 3) := by decide +kernel
theorem dX3_type_24 : decode cX3_type 24 = .ok (.ireturn, 1) := by decide +kernel
theorem dX3_clearText_0 : decode cX3_clearText 0 = .ok (.aload_n 0, 1) := by decide +kernel
theorem dX3_clearText_1 : decode cX3_clearText 1 = .ok (.getfield 26, 3) := by decide +kernel
theorem dX3_clearText_4 : decode cX3_clearText 4 = .ok (.getfield 179, 3) := by decide +kernel
theorem dX3_clearText_7 : decode cX3_clearText 7 = .ok (.istore_n 1, 1) := by decide +kernel
theorem dX3_clearText_8 : decode cX3_clearText 8 = .ok (.aload_n 0, 1) := by decide +kernel
theorem dX3_clearText_9 : decode cX3_clearText 9 = .ok (.getfield 26, 3) := by decide +kernel
theorem dX3_clearText_12 : decode cX3_clearText 12 = .ok (.iconst 0, 1) := by decide +kernel
theorem dX3_clearText_13 : decode cX3_clearText 13 = .ok (.putfield 179, 3) := by decide +kernel
theorem dX3_clearText_16 : decode cX3_clearText 16 = .ok (.iload_n 1, 1) := by decide +kernel
theorem dX3_clearText_17 : decode cX3_clearText 17 = .ok (.ireturn, 1) := by decide +kernel
set_option maxRecDepth 20000 in
theorem ggX3_fault_X3_tryOrders : GoodIn wsX3_fault wsX3_tryOrders := goodIn_r _ [10, 11, 12, 13, 14, 15, 16, 17, 18, 19, 20, 21, 22, 23, 24, 25, 26, 27, 28, 29, 30, 31, 32, 33, 34, 35, 36, 37, 38, 39, 40, 41, 42, 43, 44, 45, 46, 47, 48, 49, 50, 51, 52, 53, 54, 55, 56, 57, 58, 59, 60, 61, 62, 63, 64, 65, 66, 67, 68, 69, 70, 71, 72, 73, 74, 75, 76, 77, 78, 79, 80, 9, 81, 3, 4, 5, 82, 83, 84, 85, 86, 87, 88, 89, 90, 91, 92, 93, 94, 95, 96, 97, 98, 99, 100, 101, 102, 103, 104, 105, 106, 107, 108, 109, 110, 111, 112, 113, 114, 115, 116, 117, 118, 119, 120, 121, 122, 123, 124, 125, 126, 127, 128, 129, 130, 131, 132, 133, 134, 135, 136, 137, 138, 139, 140, 141, 142, 143, 144, 145, 146, 147, 148, 149, 150, 151, 152, 153, 154, 155, 156, 157, 158, 159, 160, 161, 162, 163, 164, 165, 166, 167, 168, 169, 170, 171, 172, 173, 174, 175, 176, 177, 178, 179, 180, 181, 182, 183, 184, 185, 186, 187, 188, 189, 190, 191, 192, 193, 194, 195, 196, 197, 198, 199, 200, 201, 202, 203, 204, 205, 206, 207, 208, 209, 210, 211, 212, 213, 214, 215, 216, 217, 218, 219] (by decide +kernel) (by decide +kernel)
set_option maxRecDepth 20000 in
theorem gX3_fault_X3_tryOrders : GoodIn wsX3_fault (wsV RX3 199 RX3 yX3_tryOrders wsX3_tryOrders) := goodIn_app (goodIn_of _ (by decide +kernel)) ggX3_fault_X3_tryOrders
theorem dX3_fault_0 : decode cX3_fault 0 = .ok (.iload_n 1, 1) := by decide +kernel
theorem dX3_fault_1 : decode cX3_fault 1 = .ok (.ifCond .lt 8, 3) := by decide +kernel
theorem dX3_fault_4 : decode cX3_fault 4 = .ok (.iload_n 1, 1) := by decide +kernel
theorem dX3_fault_5 : decode cX3_fault 5 = .ok (.iconst 2, 1) := by decide +kernel
theorem dX3_fault_6 : decode cX3_fault 6 = .ok (.if_icmp .le 6, 3) := by decide +kernel
theorem dX3_fault_9 : decode cX3_fault 9 = .ok (.ldc 65, 2) := by decide +kernel
theorem dX3_fault_11 : decode cX3_fault 11 = .ok (.ireturn, 1) := by decide +kernel
theorem dX3_fault_12 : decode cX3_fault 12 = .ok (.aload_n 0, 1) := by decide +kernel
theorem dX3_fault_13 : decode cX3_fault 13 = .ok (.invokevirtual 199, 3) := by decide +kernel
theorem dX3_fault_16 : decode cX3_fault 16 = .ok (.ifCond .eq 6, 3) := by decide +kernel
theorem dX3_fault_19 : decode cX3_fault 19 = .ok (.ldc 128, 2) := by decide +kernel
theorem dX3_fault_21 : decode cX3_fault 21 = .ok (.ireturn, 1) := by decide +kernel
theorem dX3_fault_22 : decode cX3_fault 22 = .ok (.iload_n 1, 1) := by decide +kernel
theorem dX3_fault_23 : decode cX3_fault 23 = .ok (.lookupswitch 35 #[(0, 25), (1, 30)], 25) := by decide +kernel
theorem dX3_fault_48 : decode cX3_fault 48 = .ok (.aload_n 0, 1) := by decide +kernel
theorem dX3_fault_49 : decode cX3_fault 49 = .ok (.getfield 203, 3) := by decide +kernel
theorem dX3_fault_52 : decode cX3_fault 52 = .ok (.ireturn, 1) := by decide +kernel
theorem dX3_fault_53 : decode cX3_fault 53 = .ok (.aload_n 0, 1) := by decide +kernel
theorem dX3_fault_54 : decode cX3_fault 54 = .ok (.getfield 206, 3) := by decide +kernel
theorem dX3_fault_57 : decode cX3_fault 57 = .ok (.ireturn, 1) := by decide +kernel
theorem dX3_fault_58 : decode cX3_fault 58 = .ok (.aload_n 0, 1) := by decide +kernel
theorem dX3_fault_59 : decode cX3_fault 59 = .ok (.getfield 209, 3) := by decide +kernel
theorem dX3_fault_62 : decode cX3_fault 62 = .ok (.ireturn, 1) := by decide +kernel
set_option maxRecDepth 20000 in
theorem ggX3_play_X3_tryOrders : GoodIn wsX3_play wsX3_tryOrders := goodIn_r _ [7, 8, 9, 2, 10, 11, 12, 13, 14, 15, 16, 17, 18, 19, 20, 21, 22, 23, 24, 25, 26, 27, 28, 29, 30, 31, 32, 33, 34, 35, 36, 37, 38, 39, 40, 41, 42, 43, 44, 45, 46, 47, 48, 49, 50, 51, 52, 53, 54, 55, 56, 57, 58, 59, 60, 61, 62, 63, 64, 65, 66, 67, 68, 69, 70, 71, 72, 73, 74, 75, 76, 6, 77, 78, 79, 80, 81, 82, 83, 84, 85, 86, 87, 88, 89, 90, 91, 92, 93, 94, 95, 96, 97, 98, 99, 100, 101, 102, 103, 104, 105, 106, 107, 108, 109, 110, 111, 112, 113, 114, 115, 116, 117, 118, 119, 120, 121, 122, 123, 124, 125, 126, 127, 128, 129, 130, 131, 132, 133, 134, 135, 136, 137, 138, 139, 140, 141, 142, 143, 144, 145, 146, 147, 148, 149, 150, 151, 152, 153, 154, 155, 156, 157, 158, 159, 160, 161, 162, 163, 164, 165, 166, 167, 168, 169, 170, 171, 172, 173, 174, 175, 176, 177, 178, 179, 180, 195, 196, 197, 198, 199, 200, 201, 202, 203, 204, 205, 206, 207, 208, 209, 210, 211, 212, 213, 214, 215, 216, 217, 218, 219, 220, 221, 222, 223, 224, 225, 226, 227, 228, 229, 230, 231, 232] (by decide +kernel) (by decide +kernel)
set_option maxRecDepth 20000 in
theorem gX3_play_X3_tryOrders : GoodIn wsX3_play (wsV RX3 199 RX3 yX3_tryOrders wsX3_tryOrders) := goodIn_app (goodIn_of _ (by decide +kernel)) ggX3_play_X3_tryOrders
set_option maxRecDepth 20000 in
theorem ggX3_play_X3_commit : GoodIn wsX3_play wsX3_commit := goodIn_r _ [184, 9, 8, 185, 186, 187, 6, 188, 189, 190, 191, 192, 193, 194, 16, 17, 18, 19, 20, 21, 22, 23, 24, 25, 26, 27, 28, 29, 30, 31, 32, 33, 34, 35, 36, 37, 38, 39, 40, 41, 42, 43, 44, 45, 46, 47, 48, 49, 50, 51, 52, 195, 196, 197, 198, 199, 200, 201, 202, 203, 210, 211, 212, 213, 214, 215, 216, 217, 218, 219, 220, 221, 222, 223, 224, 225, 226, 227, 228, 229, 230, 231, 232] (by decide +kernel) (by decide +kernel)
set_option maxRecDepth 20000 in
theorem gX3_play_X3_commit : GoodIn wsX3_play (wsV RX3 38 RX3 yX3_commit wsX3_commit) := goodIn_app (goodIn_of _ (by decide +kernel)) ggX3_play_X3_commit
theorem dX3_play_0 : decode cX3_play 0 = .ok (.aload_n 0, 1) := by decide +kernel
theorem dX3_play_1 : decode cX3_play 1 = .ok (.invokevirtual 199, 3) := by decide +kernel
theorem dX3_play_4 : decode cX3_play 4 = .ok (.ifCond .ne 6, 3) := by decide +kernel
theorem dX3_play_7 : decode cX3_play 7 = .ok (.ldc 194, 2) := by decide +kernel
theorem dX3_play_9 : decode cX3_play 9 = .ok (.ireturn, 1) := by decide +kernel
theorem dX3_play_10 : decode cX3_play 10 = .ok (.aload_n 0, 1) := by decide +kernel
theorem dX3_play_11 : decode cX3_play 11 = .ok (.aload_n 0, 1) := by decide +kernel
theorem dX3_play_12 : decode cX3_play 12 = .ok (.getfield 212, 3) := by decide +kernel
theorem dX3_play_15 : decode cX3_play 15 = .ok (.invokevirtual 38, 3) := by decide +kernel
theorem dX3_play_18 : decode cX3_play 18 = .ok (.ireturn, 1) := by decide +kernel
set_option maxRecDepth 20000 in
theorem ggX3_commit_X3_remember : GoodIn wsX3_commit wsX3_remember := goodIn_r _ [7, 8, 9, 1, 10, 11, 12, 6, 13, 14, 15, 16, 17, 18, 19, 20, 21, 22, 23, 24, 25, 26, 27, 28, 29, 30, 31, 32, 33, 34, 35, 36, 37, 38, 39, 40, 41, 42, 43, 44, 45, 46, 47, 48, 49, 50, 51, 52, 53, 54, 55, 56, 57, 58, 59, 60, 61, 62, 63, 64, 65, 66, 67, 68, 69, 70, 71, 72, 73, 74, 75, 76, 77, 78, 79, 80, 81, 82] (by decide +kernel) (by decide +kernel)
set_option maxRecDepth 20000 in
theorem gX3_commit_X3_remember : GoodIn wsX3_commit (wsV RX3 215 RX3 yX3_remember wsX3_remember) := goodIn_app (goodIn_of _ (by decide +kernel)) ggX3_commit_X3_remember
theorem dX3_commit_0 : decode cX3_commit 0 = .ok (.iload_n 1, 1) := by decide +kernel
theorem dX3_commit_1 : decode cX3_commit 1 = .ok (.ifCond .ge 5, 3) := by decide +kernel
theorem dX3_commit_4 : decode cX3_commit 4 = .ok (.iload_n 1, 1) := by decide +kernel
theorem dX3_commit_5 : decode cX3_commit 5 = .ok (.ireturn, 1) := by decide +kernel
theorem dX3_commit_6 : decode cX3_commit 6 = .ok (.aload_n 0, 1) := by decide +kernel
theorem dX3_commit_7 : decode cX3_commit 7 = .ok (.invokevirtual 215, 3) := by decide +kernel
theorem dX3_commit_10 : decode cX3_commit 10 = .ok (.aload_n 0, 1) := by decide +kernel
theorem dX3_commit_11 : decode cX3_commit 11 = .ok (.getfield 12, 3) := by decide +kernel
theorem dX3_commit_14 : decode cX3_commit 14 = .ok (.astore_n 2, 1) := by decide +kernel
theorem dX3_commit_15 : decode cX3_commit 15 = .ok (.aload_n 0, 1) := by decide +kernel
theorem dX3_commit_16 : decode cX3_commit 16 = .ok (.aload_n 0, 1) := by decide +kernel
theorem dX3_commit_17 : decode cX3_commit 17 = .ok (.getfield 16, 3) := by decide +kernel
theorem dX3_commit_20 : decode cX3_commit 20 = .ok (.putfield 12, 3) := by decide +kernel
theorem dX3_commit_23 : decode cX3_commit 23 = .ok (.aload_n 0, 1) := by decide +kernel
theorem dX3_commit_24 : decode cX3_commit 24 = .ok (.aload_n 2, 1) := by decide +kernel
theorem dX3_commit_25 : decode cX3_commit 25 = .ok (.putfield 16, 3) := by decide +kernel
theorem dX3_commit_28 : decode cX3_commit 28 = .ok (.iload_n 1, 1) := by decide +kernel
theorem dX3_commit_29 : decode cX3_commit 29 = .ok (.ireturn, 1) := by decide +kernel
set_option maxRecDepth 20000 in
theorem ggX3_remember_X3_dropOldestState : GoodIn wsX3_remember wsX3_dropOldestState := goodIn_r _ [8, 2, 1, 46, 47, 48, 49, 50, 51, 52, 53, 54] (by decide +kernel) (by decide +kernel)
set_option maxRecDepth 20000 in
theorem gX3_remember_X3_dropOldestState : GoodIn wsX3_remember (wsV RX3 218 RX3 yX3_dropOldestState wsX3_dropOldestState) := goodIn_app (goodIn_of _ (by decide +kernel)) ggX3_remember_X3_dropOldestState
set_option maxRecDepth 20000 in
theorem ggX3_remember_X2_copyFrom : GoodIn wsX3_remember wsX2_copyFrom := goodIn_r _ [13, 14, 15, 16, 17, 18, 19, 20, 21, 22, 23, 24, 25, 26, 27, 28, 29, 30, 12, 31, 32, 33, 34, 35, 36, 37, 38, 39, 40, 41, 42, 43, 44, 45, 55, 56, 57, 58, 59, 60, 61, 62, 63, 64, 65, 66, 67, 68, 69, 70, 71, 72, 73, 74, 75, 76, 77] (by decide +kernel) (by decide +kernel)
set_option maxRecDepth 20000 in
theorem gX3_remember_X2_copyFrom : GoodIn wsX3_remember (wsV RX3 30 RX2 yX2_copyFrom wsX2_copyFrom) := goodIn_app (goodIn_of _ (by decide +kernel)) ggX3_remember_X2_copyFrom
theorem dX3_remember_0 : decode cX3_remember 0 = .ok (.aload_n 0, 1) := by decide +kernel
theorem dX3_remember_1 : decode cX3_remember 1 = .ok (.getfield 176, 3) := by decide +kernel
theorem dX3_remember_4 : decode cX3_remember 4 = .ok (.aload_n 0, 1) := by decide +kernel
theorem dX3_remember_5 : decode cX3_remember 5 = .ok (.getfield 19, 3) := by decide +kernel
theorem dX3_remember_8 : decode cX3_remember 8 = .ok (.arraylength, 1) := by decide +kernel
theorem dX3_remember_9 : decode cX3_remember 9 = .ok (.if_icmp .lt 7, 3) := by decide +kernel
theorem dX3_remember_12 : decode cX3_remember 12 = .ok (.aload_n 0, 1) := by decide +kernel
theorem dX3_remember_13 : decode cX3_remember 13 = .ok (.invokevirtual 218, 3) := by decide +kernel
theorem dX3_remember_16 : decode cX3_remember 16 = .ok (.aload_n 0, 1) := by decide +kernel
theorem dX3_remember_17 : decode cX3_remember 17 = .ok (.getfield 176, 3) := by decide +kernel
theorem dX3_remember_20 : decode cX3_remember 20 = .ok (.ifCond .lt 15, 3) := by decide +kernel
theorem dX3_remember_23 : decode cX3_remember 23 = .ok (.aload_n 0, 1) := by decide +kernel
theorem dX3_remember_24 : decode cX3_remember 24 = .ok (.getfield 176, 3) := by decide +kernel
theorem dX3_remember_27 : decode cX3_remember 27 = .ok (.aload_n 0, 1) := by decide +kernel
theorem dX3_remember_28 : decode cX3_remember 28 = .ok (.getfield 19, 3) := by decide +kernel
theorem dX3_remember_31 : decode cX3_remember 31 = .ok (.arraylength, 1) := by decide +kernel
theorem dX3_remember_32 : decode cX3_remember 32 = .ok (.if_icmp .lt 4, 3) := by decide +kernel
theorem dX3_remember_35 : decode cX3_remember 35 = .ok (.return_, 1) := by decide +kernel
theorem dX3_remember_36 : decode cX3_remember 36 = .ok (.aload_n 0, 1) := by decide +kernel
theorem dX3_remember_37 : decode cX3_remember 37 = .ok (.getfield 19, 3) := by decide +kernel
theorem dX3_remember_40 : decode cX3_remember 40 = .ok (.aload_n 0, 1) := by decide +kernel
theorem dX3_remember_41 : decode cX3_remember 41 = .ok (.getfield 176, 3) := by decide +kernel
theorem dX3_remember_44 : decode cX3_remember 44 = .ok (.aaload, 1) := by decide +kernel
theorem dX3_remember_45 : decode cX3_remember 45 = .ok (.astore_n 1, 1) := by decide +kernel
theorem dX3_remember_46 : decode cX3_remember 46 = .ok (.aload_n 1, 1) := by decide +kernel
theorem dX3_remember_47 : decode cX3_remember 47 = .ok (.ifnull 21, 3) := by decide +kernel
theorem dX3_remember_50 : decode cX3_remember 50 = .ok (.aload_n 1, 1) := by decide +kernel
theorem dX3_remember_51 : decode cX3_remember 51 = .ok (.aload_n 0, 1) := by decide +kernel
theorem dX3_remember_52 : decode cX3_remember 52 = .ok (.getfield 12, 3) := by decide +kernel
theorem dX3_remember_55 : decode cX3_remember 55 = .ok (.invokevirtual 30, 3) := by decide +kernel
theorem dX3_remember_58 : decode cX3_remember 58 = .ok (.aload_n 0, 1) := by decide +kernel
theorem dX3_remember_59 : decode cX3_remember 59 = .ok (.dup, 1) := by decide +kernel
theorem dX3_remember_60 : decode cX3_remember 60 = .ok (.getfield 176, 3) := by decide +kernel
theorem dX3_remember_63 : decode cX3_remember 63 = .ok (.iconst 1, 1) := by decide +kernel
theorem dX3_remember_64 : decode cX3_remember 64 = .ok (.iadd, 1) := by decide +kernel
theorem dX3_remember_65 : decode cX3_remember 65 = .ok (.putfield 176, 3) := by decide +kernel
theorem dX3_remember_68 : decode cX3_remember 68 = .ok (.return_, 1) := by decide +kernel
theorem dX3_dropOldestState_0 : decode cX3_dropOldestState 0 = .ok (.iconst 0, 1) := by decide +kernel
theorem dX3_dropOldestState_1 : decode cX3_dropOldestState 1 = .ok (.istore_n 1, 1) := by decide +kernel
theorem dX3_dropOldestState_2 : decode cX3_dropOldestState 2 = .ok (.iload_n 1, 1) := by decide +kernel
theorem dX3_dropOldestState_3 : decode cX3_dropOldestState 3 = .ok (.iconst 1, 1) := by decide +kernel
theorem dX3_dropOldestState_4 : decode cX3_dropOldestState 4 = .ok (.iadd, 1) := by decide +kernel
theorem dX3_dropOldestState_5 : decode cX3_dropOldestState 5 = .ok (.aload_n 0, 1) := by decide +kernel
theorem dX3_dropOldestState_6 : decode cX3_dropOldestState 6 = .ok (.getfield 19, 3) := by decide +kernel
theorem dX3_dropOldestState_9 : decode cX3_dropOldestState 9 = .ok (.arraylength, 1) := by decide +kernel
theorem dX3_dropOldestState_10 : decode cX3_dropOldestState 10 = .ok (.if_icmp .ge 39, 3) := by decide +kernel
theorem dX3_dropOldestState_13 : decode cX3_dropOldestState 13 = .ok (.aload_n 0, 1) := by decide +kernel
theorem dX3_dropOldestState_14 : decode cX3_dropOldestState 14 = .ok (.getfield 19, 3) := by decide +kernel
theorem dX3_dropOldestState_17 : decode cX3_dropOldestState 17 = .ok (.iload_n 1, 1) := by decide +kernel
theorem dX3_dropOldestState_18 : decode cX3_dropOldestState 18 = .ok (.aaload, 1) := by decide +kernel
theorem dX3_dropOldestState_19 : decode cX3_dropOldestState 19 = .ok (.astore_n 2, 1) := by decide +kernel
theorem dX3_dropOldestState_20 : decode cX3_dropOldestState 20 = .ok (.aload_n 0, 1) := by decide +kernel
theorem dX3_dropOldestState_21 : decode cX3_dropOldestState 21 = .ok (.getfield 19, 3) := by decide +kernel
theorem dX3_dropOldestState_24 : decode cX3_dropOldestState 24 = .ok (.iload_n 1, 1) := by decide +kernel
theorem dX3_dropOldestState_25 : decode cX3_dropOldestState 25 = .ok (.aload_n 0, 1) := by decide +kernel
theorem dX3_dropOldestState_26 : decode cX3_dropOldestState 26 = .ok (.getfield 19, 3) := by decide +kernel
theorem dX3_dropOldestState_29 : decode cX3_dropOldestState 29 = .ok (.iload_n 1, 1) := by decide +kernel
theorem dX3_dropOldestState_30 : decode cX3_dropOldestState 30 = .ok (.iconst 1, 1) := by decide +kernel
theorem dX3_dropOldestState_31 : decode cX3_dropOldestState 31 = .ok (.iadd, 1) := by decide +kernel
theorem dX3_dropOldestState_32 : decode cX3_dropOldestState 32 = .ok (.aaload, 1) := by decide +kernel
theorem dX3_dropOldestState_33 : decode cX3_dropOldestState 33 = .ok (.aastore, 1) := by decide +kernel
theorem dX3_dropOldestState_34 : decode cX3_dropOldestState 34 = .ok (.aload_n 0, 1) := by decide +kernel
theorem dX3_dropOldestState_35 : decode cX3_dropOldestState 35 = .ok (.getfield 19, 3) := by decide +kernel
theorem dX3_dropOldestState_38 : decode cX3_dropOldestState 38 = .ok (.iload_n 1, 1) := by decide +kernel
theorem dX3_dropOldestState_39 : decode cX3_dropOldestState 39 = .ok (.iconst 1, 1) := by decide +kernel
theorem dX3_dropOldestState_40 : decode cX3_dropOldestState 40 = .ok (.iadd, 1) := by decide +kernel
theorem dX3_dropOldestState_41 : decode cX3_dropOldestState 41 = .ok (.aload_n 2, 1) := by decide +kernel
theorem dX3_dropOldestState_42 : decode cX3_dropOldestState 42 = .ok (.aastore, 1) := by decide +kernel
theorem dX3_dropOldestState_43 : decode cX3_dropOldestState 43 = .ok (.iinc 1 1, 3) := by decide +kernel
theorem dX3_dropOldestState_46 : decode cX3_dropOldestState 46 = .ok (.goto (-44), 3) := by decide +kernel
theorem dX3_dropOldestState_49 : decode cX3_dropOldestState 49 = .ok (.aload_n 0, 1) := by decide +kernel
theorem dX3_dropOldestState_50 : decode cX3_dropOldestState 50 = .ok (.dup, 1) := by decide +kernel
theorem dX3_dropOldestState_51 : decode cX3_dropOldestState 51 = .ok (.getfield 176, 3) := by decide +kernel
theorem dX3_dropOldestState_54 : decode cX3_dropOldestState 54 = .ok (.iconst 1, 1) := by decide +kernel
theorem dX3_dropOldestState_55 : decode cX3_dropOldestState 55 = .ok (.isub, 1) := by decide +kernel
theorem dX3_dropOldestState_56 : decode cX3_dropOldestState 56 = .ok (.putfield 176, 3) := by decide +kernel
theorem dX3_dropOldestState_59 : decode cX3_dropOldestState 59 = .ok (.return_, 1) := by decide +kernel
set_option maxRecDepth 20000 in
theorem ggX3_tryOrders_X2_copyFrom : GoodIn wsX3_tryOrders wsX2_copyFrom := goodIn_r _ [14, 15, 16, 17, 18, 19, 20, 21, 22, 23, 24, 25, 26, 27, 28, 29, 30, 31, 13, 32, 33, 34, 35, 36, 37, 38, 39, 40, 41, 42, 43, 44, 45, 46, 191, 192, 193, 194, 195, 196, 197, 198, 199, 200, 201, 202, 203, 204, 205, 206, 207, 208, 209, 210, 211, 212, 213] (by decide +kernel) (by decide +kernel)
set_option maxRecDepth 20000 in
theorem gX3_tryOrders_X2_copyFrom : GoodIn wsX3_tryOrders (wsV RX3 30 RX2 yX2_copyFrom wsX2_copyFrom) := goodIn_app (goodIn_of _ (by decide +kernel)) ggX3_tryOrders_X2_copyFrom
set_option maxRecDepth 20000 in
theorem ggX3_tryOrders_X0_readOrder : GoodIn wsX3_tryOrders wsX0_readOrder := goodIn_r _ [51, 52, 53, 54, 55, 56, 57, 58, 50, 59, 60, 61, 62, 63, 64, 65, 66, 67, 185, 186, 187, 188, 189, 190] (by decide +kernel) (by decide +kernel)
set_option maxRecDepth 20000 in
theorem gX3_tryOrders_X0_readOrder : GoodIn wsX3_tryOrders (wsV RX3 221 RX0 yX0_readOrder wsX0_readOrder) := goodIn_app (goodIn_of _ (by decide +kernel)) ggX3_tryOrders_X0_readOrder
set_option maxRecDepth 20000 in
theorem ggX3_tryOrders_X3_keepFault : GoodIn wsX3_tryOrders wsX3_keepFault := goodIn_r _ [72, 73, 74, 75, 176, 177, 178, 179, 180, 181, 182, 183, 184] (by decide +kernel) (by decide +kernel)
set_option maxRecDepth 20000 in
theorem gX3_tryOrders_X3_keepFault : GoodIn wsX3_tryOrders (wsV RX3 227 RX3 yX3_keepFault wsX3_keepFault) := goodIn_app (goodIn_of _ (by decide +kernel)) ggX3_tryOrders_X3_keepFault
set_option maxRecDepth 20000 in
theorem ggX3_tryOrders_X2_doOrder : GoodIn wsX3_tryOrders wsX2_doOrder := goodIn_r _ [79, 80, 81, 82, 83, 13, 84, 21, 22, 85, 28, 86, 87, 88, 89, 90, 71, 91, 92, 93, 94, 95, 96, 97, 98, 99, 23, 100, 24, 25, 101, 102, 103, 104, 26, 105, 106, 107, 29, 30, 31, 32, 15, 33, 108, 109, 110, 111, 112, 113, 114, 115, 116, 117, 37, 118, 40, 41, 119, 120, 121, 122, 19, 123, 124, 125, 126, 18, 127, 128, 129, 130, 131, 132, 133, 134, 135, 136, 137, 138, 139, 140, 16, 141, 142, 143, 144, 20, 17, 145, 146, 147, 148, 149, 150, 27, 151, 152, 153, 154, 155, 156, 157, 158, 159, 160, 161, 162, 163, 164, 165, 166, 167, 168, 169, 170, 171, 172, 173, 174, 175, 191, 192, 193, 194, 195, 196, 197, 198, 199, 200, 201, 202, 203, 204, 205, 206, 207, 208, 209, 210, 211, 212, 213] (by decide +kernel) (by decide +kernel)
set_option maxRecDepth 20000 in
theorem gX3_tryOrders_X2_doOrder : GoodIn wsX3_tryOrders (wsV RX3 237 RX2 yX2_doOrder wsX2_doOrder) := goodIn_app (goodIn_of _ (by decide +kernel)) ggX3_tryOrders_X2_doOrder
theorem dX3_tryOrders_0 : decode cX3_tryOrders 0 = .ok (.aload_n 0, 1) := by decide +kernel
theorem dX3_tryOrders_1 : decode cX3_tryOrders 1 = .ok (.getfield 16, 3) := by decide +kernel
theorem dX3_tryOrders_4 : decode cX3_tryOrders 4 = .ok (.aload_n 0, 1) := by decide +kernel
theorem dX3_tryOrders_5 : decode cX3_tryOrders 5 = .ok (.getfield 12, 3) := by decide +kernel
theorem dX3_tryOrders_8 : decode cX3_tryOrders 8 = .ok (.invokevirtual 30, 3) := by decide +kernel
theorem dX3_tryOrders_11 : decode cX3_tryOrders 11 = .ok (.aload_n 0, 1) := by decide +kernel
theorem dX3_tryOrders_12 : decode cX3_tryOrders 12 = .ok (.iconst 0, 1) := by decide +kernel
theorem dX3_tryOrders_13 : decode cX3_tryOrders 13 = .ok (.putfield 212, 3) := by decide +kernel
theorem dX3_tryOrders_16 : decode cX3_tryOrders 16 = .ok (.iconst 0, 1) := by decide +kernel
theorem dX3_tryOrders_17 : decode cX3_tryOrders 17 = .ok (.istore_n 1, 1) := by decide +kernel
theorem dX3_tryOrders_18 : decode cX3_tryOrders 18 = .ok (.iconst 0, 1) := by decide +kernel
theorem dX3_tryOrders_19 : decode cX3_tryOrders 19 = .ok (.istore_n 2, 1) := by decide +kernel
theorem dX3_tryOrders_20 : decode cX3_tryOrders 20 = .ok (.iload_n 2, 1) := by decide +kernel
theorem dX3_tryOrders_21 : decode cX3_tryOrders 21 = .ok (.bipush 60, 2) := by decide +kernel
theorem dX3_tryOrders_23 : decode cX3_tryOrders 23 = .ok (.if_icmp .ge 99, 3) := by decide +kernel
theorem dX3_tryOrders_26 : decode cX3_tryOrders 26 = .ok (.iload_n 1, 1) := by decide +kernel
theorem dX3_tryOrders_27 : decode cX3_tryOrders 27 = .ok (.aload_n 0, 1) := by decide +kernel
theorem dX3_tryOrders_28 : decode cX3_tryOrders 28 = .ok (.getfield 26, 3) := by decide +kernel
theorem dX3_tryOrders_31 : decode cX3_tryOrders 31 = .ok (.getfield 179, 3) := by decide +kernel
theorem dX3_tryOrders_34 : decode cX3_tryOrders 34 = .ok (.if_icmp .ge 88, 3) := by decide +kernel
theorem dX3_tryOrders_37 : decode cX3_tryOrders 37 = .ok (.aload_n 0, 1) := by decide +kernel
theorem dX3_tryOrders_38 : decode cX3_tryOrders 38 = .ok (.getfield 26, 3) := by decide +kernel
theorem dX3_tryOrders_41 : decode cX3_tryOrders 41 = .ok (.iload_n 1, 1) := by decide +kernel
theorem dX3_tryOrders_42 : decode cX3_tryOrders 42 = .ok (.invokevirtual 221, 3) := by decide +kernel
theorem dX3_tryOrders_45 : decode cX3_tryOrders 45 = .ok (.ifCond .ne 18, 3) := by decide +kernel
theorem dX3_tryOrders_48 : decode cX3_tryOrders 48 = .ok (.aload_n 0, 1) := by decide +kernel
theorem dX3_tryOrders_49 : decode cX3_tryOrders 49 = .ok (.iload_n 1, 1) := by decide +kernel
theorem dX3_tryOrders_50 : decode cX3_tryOrders 50 = .ok (.iconst 1, 1) := by decide +kernel
theorem dX3_tryOrders_51 : decode cX3_tryOrders 51 = .ok (.aload_n 0, 1) := by decide +kernel
theorem dX3_tryOrders_52 : decode cX3_tryOrders 52 = .ok (.getfield 26, 3) := by decide +kernel
theorem dX3_tryOrders_55 : decode cX3_tryOrders 55 = .ok (.getfield 224, 3) := by decide +kernel
theorem dX3_tryOrders_58 : decode cX3_tryOrders 58 = .ok (.invokevirtual 227, 3) := by decide +kernel
theorem dX3_tryOrders_61 : decode cX3_tryOrders 61 = .ok (.iconst 0, 1) := by decide +kernel
theorem dX3_tryOrders_62 : decode cX3_tryOrders 62 = .ok (.ireturn, 1) := by decide +kernel
theorem dX3_tryOrders_63 : decode cX3_tryOrders 63 = .ok (.aload_n 0, 1) := by decide +kernel
theorem dX3_tryOrders_64 : decode cX3_tryOrders 64 = .ok (.getfield 16, 3) := by decide +kernel
theorem dX3_tryOrders_67 : decode cX3_tryOrders 67 = .ok (.aload_n 0, 1) := by decide +kernel
theorem dX3_tryOrders_68 : decode cX3_tryOrders 68 = .ok (.getfield 26, 3) := by decide +kernel
theorem dX3_tryOrders_71 : decode cX3_tryOrders 71 = .ok (.getfield 231, 3) := by decide +kernel
theorem dX3_tryOrders_74 : decode cX3_tryOrders 74 = .ok (.aload_n 0, 1) := by decide +kernel
theorem dX3_tryOrders_75 : decode cX3_tryOrders 75 = .ok (.getfield 26, 3) := by decide +kernel
theorem dX3_tryOrders_78 : decode cX3_tryOrders 78 = .ok (.getfield 234, 3) := by decide +kernel
theorem dX3_tryOrders_81 : decode cX3_tryOrders 81 = .ok (.invokevirtual 237, 3) := by decide +kernel
theorem dX3_tryOrders_84 : decode cX3_tryOrders 84 = .ok (.istore_n 3, 1) := by decide +kernel
theorem dX3_tryOrders_85 : decode cX3_tryOrders 85 = .ok (.iload_n 3, 1) := by decide +kernel
theorem dX3_tryOrders_86 : decode cX3_tryOrders 86 = .ok (.ifCond .ge 12, 3) := by decide +kernel
theorem dX3_tryOrders_89 : decode cX3_tryOrders 89 = .ok (.aload_n 0, 1) := by decide +kernel
theorem dX3_tryOrders_90 : decode cX3_tryOrders 90 = .ok (.iload_n 1, 1) := by decide +kernel
theorem dX3_tryOrders_91 : decode cX3_tryOrders 91 = .ok (.iconst 2, 1) := by decide +kernel
theorem dX3_tryOrders_92 : decode cX3_tryOrders 92 = .ok (.iload_n 3, 1) := by decide +kernel
theorem dX3_tryOrders_93 : decode cX3_tryOrders 93 = .ok (.invokevirtual 227, 3) := by decide +kernel
theorem dX3_tryOrders_96 : decode cX3_tryOrders 96 = .ok (.iconst 0, 1) := by decide +kernel
theorem dX3_tryOrders_97 : decode cX3_tryOrders 97 = .ok (.ireturn, 1) := by decide +kernel
theorem dX3_tryOrders_98 : decode cX3_tryOrders 98 = .ok (.aload_n 0, 1) := by decide +kernel
theorem dX3_tryOrders_99 : decode cX3_tryOrders 99 = .ok (.dup, 1) := by decide +kernel
theorem dX3_tryOrders_100 : decode cX3_tryOrders 100 = .ok (.getfield 212, 3) := by decide +kernel
theorem dX3_tryOrders_103 : decode cX3_tryOrders 103 = .ok (.iconst 1, 1) := by decide +kernel
theorem dX3_tryOrders_104 : decode cX3_tryOrders 104 = .ok (.iadd, 1) := by decide +kernel
theorem dX3_tryOrders_105 : decode cX3_tryOrders 105 = .ok (.putfield 212, 3) := by decide +kernel
theorem dX3_tryOrders_108 : decode cX3_tryOrders 108 = .ok (.aload_n 0, 1) := by decide +kernel
theorem dX3_tryOrders_109 : decode cX3_tryOrders 109 = .ok (.getfield 26, 3) := by decide +kernel
theorem dX3_tryOrders_112 : decode cX3_tryOrders 112 = .ok (.getfield 240, 3) := by decide +kernel
theorem dX3_tryOrders_115 : decode cX3_tryOrders 115 = .ok (.istore_n 1, 1) := by decide +kernel
theorem dX3_tryOrders_116 : decode cX3_tryOrders 116 = .ok (.iinc 2 1, 3) := by decide +kernel
theorem dX3_tryOrders_119 : decode cX3_tryOrders 119 = .ok (.goto (-99), 3) := by decide +kernel
theorem dX3_tryOrders_122 : decode cX3_tryOrders 122 = .ok (.iconst 1, 1) := by decide +kernel
theorem dX3_tryOrders_123 : decode cX3_tryOrders 123 = .ok (.ireturn, 1) := by decide +kernel
theorem dX3_keepFault_0 : decode cX3_keepFault 0 = .ok (.aload_n 0, 1) := by decide +kernel
theorem dX3_keepFault_1 : decode cX3_keepFault 1 = .ok (.iload_n 1, 1) := by decide +kernel
theorem dX3_keepFault_2 : decode cX3_keepFault 2 = .ok (.putfield 203, 3) := by decide +kernel
theorem dX3_keepFault_5 : decode cX3_keepFault 5 = .ok (.aload_n 0, 1) := by decide +kernel
theorem dX3_keepFault_6 : decode cX3_keepFault 6 = .ok (.iload_n 2, 1) := by decide +kernel
theorem dX3_keepFault_7 : decode cX3_keepFault 7 = .ok (.putfield 206, 3) := by decide +kernel
theorem dX3_keepFault_10 : decode cX3_keepFault 10 = .ok (.aload_n 0, 1) := by decide +kernel
theorem dX3_keepFault_11 : decode cX3_keepFault 11 = .ok (.iload_n 3, 1) := by decide +kernel
theorem dX3_keepFault_12 : decode cX3_keepFault 12 = .ok (.putfield 209, 3) := by decide +kernel
theorem dX3_keepFault_15 : decode cX3_keepFault 15 = .ok (.return_, 1) := by decide +kernel
theorem dX3_isFlag_0 : decode cX3_isFlag 0 = .ok (.iload_n 0, 1) := by decide +kernel
theorem dX3_isFlag_1 : decode cX3_isFlag 1 = .ok (.ifCond .eq 8, 3) := by decide +kernel
theorem dX3_isFlag_4 : decode cX3_isFlag 4 = .ok (.iload_n 0, 1) := by decide +kernel
theorem dX3_isFlag_5 : decode cX3_isFlag 5 = .ok (.iconst 1, 1) := by decide +kernel
theorem dX3_isFlag_6 : decode cX3_isFlag 6 = .ok (.if_icmp .ne 7, 3) := by decide +kernel
theorem dX3_isFlag_9 : decode cX3_isFlag 9 = .ok (.iconst 1, 1) := by decide +kernel
theorem dX3_isFlag_10 : decode cX3_isFlag 10 = .ok (.goto 4, 3) := by decide +kernel
theorem dX3_isFlag_13 : decode cX3_isFlag 13 = .ok (.iconst 0, 1) := by decide +kernel
theorem dX3_isFlag_14 : decode cX3_isFlag 14 = .ok (.ireturn, 1) := by decide +kernel
theorem dX3_leakOf_0 : decode cX3_leakOf 0 = .ok (.iload_n 0, 1) := by decide +kernel
theorem dX3_leakOf_1 : decode cX3_leakOf 1 = .ok (.bipush 10, 2) := by decide +kernel
theorem dX3_leakOf_3 : decode cX3_leakOf 3 = .ok (.idiv, 1) := by decide +kernel
theorem dX3_leakOf_4 : decode cX3_leakOf 4 = .ok (.ireturn, 1) := by decide +kernel
theorem dX3_wearBehindDay_0 : decode cX3_wearBehindDay 0 = .ok (.bipush 100, 2) := by decide +kernel
theorem dX3_wearBehindDay_2 : decode cX3_wearBehindDay 2 = .ok (.iload_n 0, 1) := by decide +kernel
theorem dX3_wearBehindDay_3 : decode cX3_wearBehindDay 3 = .ok (.iload_n 1, 1) := by decide +kernel
theorem dX3_wearBehindDay_4 : decode cX3_wearBehindDay 4 = .ok (.iconst 2, 1) := by decide +kernel
theorem dX3_wearBehindDay_5 : decode cX3_wearBehindDay 5 = .ok (.idiv, 1) := by decide +kernel
theorem dX3_wearBehindDay_6 : decode cX3_wearBehindDay 6 = .ok (.iadd, 1) := by decide +kernel
theorem dX3_wearBehindDay_7 : decode cX3_wearBehindDay 7 = .ok (.iconst 1, 1) := by decide +kernel
theorem dX3_wearBehindDay_8 : decode cX3_wearBehindDay 8 = .ok (.iadd, 1) := by decide +kernel
theorem dX3_wearBehindDay_9 : decode cX3_wearBehindDay 9 = .ok (.invokestatic 243, 3) := by decide +kernel
theorem dX3_wearBehindDay_12 : decode cX3_wearBehindDay 12 = .ok (.ireturn, 1) := by decide +kernel
set_option maxRecDepth 20000 in
theorem ggX3_heatBehindDay_X3_leakOf : GoodIn wsX3_heatBehindDay wsX3_leakOf := goodIn_r _ [11] (by decide +kernel) (by decide +kernel)
set_option maxRecDepth 20000 in
theorem gX3_heatBehindDay_X3_leakOf : GoodIn wsX3_heatBehindDay (va_wsS RX3 78 yX3_leakOf wsX3_leakOf) := goodIn_app (goodIn_of _ (by decide +kernel)) ggX3_heatBehindDay_X3_leakOf
theorem dX3_heatBehindDay_0 : decode cX3_heatBehindDay 0 = .ok (.iload_n 1, 1) := by decide +kernel
theorem dX3_heatBehindDay_1 : decode cX3_heatBehindDay 1 = .ok (.invokestatic 78, 3) := by decide +kernel
theorem dX3_heatBehindDay_4 : decode cX3_heatBehindDay 4 = .ok (.istore_n 2, 1) := by decide +kernel
theorem dX3_heatBehindDay_5 : decode cX3_heatBehindDay 5 = .ok (.iload_n 2, 1) := by decide +kernel
theorem dX3_heatBehindDay_6 : decode cX3_heatBehindDay 6 = .ok (.ifCond .ne 13, 3) := by decide +kernel
theorem dX3_heatBehindDay_9 : decode cX3_heatBehindDay 9 = .ok (.bipush 100, 2) := by decide +kernel
theorem dX3_heatBehindDay_11 : decode cX3_heatBehindDay 11 = .ok (.iload_n 0, 1) := by decide +kernel
theorem dX3_heatBehindDay_12 : decode cX3_heatBehindDay 12 = .ok (.bipush 10, 2) := by decide +kernel
theorem dX3_heatBehindDay_14 : decode cX3_heatBehindDay 14 = .ok (.iadd, 1) := by decide +kernel
theorem dX3_heatBehindDay_15 : decode cX3_heatBehindDay 15 = .ok (.invokestatic 243, 3) := by decide +kernel
theorem dX3_heatBehindDay_18 : decode cX3_heatBehindDay 18 = .ok (.ireturn, 1) := by decide +kernel
theorem dX3_heatBehindDay_19 : decode cX3_heatBehindDay 19 = .ok (.iconst 0, 1) := by decide +kernel
theorem dX3_heatBehindDay_20 : decode cX3_heatBehindDay 20 = .ok (.iload_n 0, 1) := by decide +kernel
theorem dX3_heatBehindDay_21 : decode cX3_heatBehindDay 21 = .ok (.iload_n 2, 1) := by decide +kernel
theorem dX3_heatBehindDay_22 : decode cX3_heatBehindDay 22 = .ok (.iconst 2, 1) := by decide +kernel
theorem dX3_heatBehindDay_23 : decode cX3_heatBehindDay 23 = .ok (.imul, 1) := by decide +kernel
theorem dX3_heatBehindDay_24 : decode cX3_heatBehindDay 24 = .ok (.isub, 1) := by decide +kernel
theorem dX3_heatBehindDay_25 : decode cX3_heatBehindDay 25 = .ok (.invokestatic 248, 3) := by decide +kernel
theorem dX3_heatBehindDay_28 : decode cX3_heatBehindDay 28 = .ok (.ireturn, 1) := by decide +kernel
theorem dX3_tensBegun_0 : decode cX3_tensBegun 0 = .ok (.iload_n 0, 1) := by decide +kernel
theorem dX3_tensBegun_1 : decode cX3_tensBegun 1 = .ok (.bipush 9, 2) := by decide +kernel
theorem dX3_tensBegun_3 : decode cX3_tensBegun 3 = .ok (.iadd, 1) := by decide +kernel
theorem dX3_tensBegun_4 : decode cX3_tensBegun 4 = .ok (.bipush 10, 2) := by decide +kernel
theorem dX3_tensBegun_6 : decode cX3_tensBegun 6 = .ok (.idiv, 1) := by decide +kernel
theorem dX3_tensBegun_7 : decode cX3_tensBegun 7 = .ok (.ireturn, 1) := by decide +kernel
set_option maxRecDepth 20000 in
theorem ggX3_hoursOfWay_X3_tensBegun : GoodIn wsX3_hoursOfWay wsX3_tensBegun := goodIn_r _ [8] (by decide +kernel) (by decide +kernel)
set_option maxRecDepth 20000 in
theorem gX3_hoursOfWay_X3_tensBegun : GoodIn wsX3_hoursOfWay (va_wsS RX3 254 yX3_tensBegun wsX3_tensBegun) := goodIn_app (goodIn_of _ (by decide +kernel)) ggX3_hoursOfWay_X3_tensBegun
theorem dX3_hoursOfWay_0 : decode cX3_hoursOfWay 0 = .ok (.iload_n 0, 1) := by decide +kernel
theorem dX3_hoursOfWay_1 : decode cX3_hoursOfWay 1 = .ok (.iload_n 1, 1) := by decide +kernel
theorem dX3_hoursOfWay_2 : decode cX3_hoursOfWay 2 = .ok (.isub, 1) := by decide +kernel
theorem dX3_hoursOfWay_3 : decode cX3_hoursOfWay 3 = .ok (.invokestatic 251, 3) := by decide +kernel
theorem dX3_hoursOfWay_6 : decode cX3_hoursOfWay 6 = .ok (.invokestatic 254, 3) := by decide +kernel
theorem dX3_hoursOfWay_9 : decode cX3_hoursOfWay 9 = .ok (.ireturn, 1) := by decide +kernel
theorem dX3_hoursOfMend_0 : decode cX3_hoursOfMend 0 = .ok (.iload_n 0, 1) := by decide +kernel
theorem dX3_hoursOfMend_1 : decode cX3_hoursOfMend 1 = .ok (.ifCond .eq 7, 3) := by decide +kernel
theorem dX3_hoursOfMend_4 : decode cX3_hoursOfMend 4 = .ok (.iconst 3, 1) := by decide +kernel
theorem dX3_hoursOfMend_5 : decode cX3_hoursOfMend 5 = .ok (.goto 4, 3) := by decide +kernel
theorem dX3_hoursOfMend_8 : decode cX3_hoursOfMend 8 = .ok (.iconst 1, 1) := by decide +kernel
theorem dX3_hoursOfMend_9 : decode cX3_hoursOfMend 9 = .ok (.ireturn, 1) := by decide +kernel
theorem dX3_bitsOf_0 : decode cX3_bitsOf 0 = .ok (.fload_n 0, 1) := by decide +kernel
theorem dX3_bitsOf_1 : decode cX3_bitsOf 1 = .ok (.fconst 0, 1) := by decide +kernel
theorem dX3_bitsOf_2 : decode cX3_bitsOf 2 = .ok (.fcmp .g, 1) := by decide +kernel
theorem dX3_bitsOf_3 : decode cX3_bitsOf 3 = .ok (.ifCond .gt 5, 3) := by decide +kernel
theorem dX3_bitsOf_6 : decode cX3_bitsOf 6 = .ok (.iconst 0, 1) := by decide +kernel
theorem dX3_bitsOf_7 : decode cX3_bitsOf 7 = .ok (.ireturn, 1) := by decide +kernel
theorem dX3_bitsOf_8 : decode cX3_bitsOf 8 = .ok (.fload_n 0, 1) := by decide +kernel
theorem dX3_bitsOf_9 : decode cX3_bitsOf 9 = .ok (.fstore_n 1, 1) := by decide +kernel
theorem dX3_bitsOf_10 : decode cX3_bitsOf 10 = .ok (.iconst 0, 1) := by decide +kernel
theorem dX3_bitsOf_11 : decode cX3_bitsOf 11 = .ok (.istore_n 2, 1) := by decide +kernel
theorem dX3_bitsOf_12 : decode cX3_bitsOf 12 = .ok (.iconst 0, 1) := by decide +kernel
theorem dX3_bitsOf_13 : decode cX3_bitsOf 13 = .ok (.istore_n 3, 1) := by decide +kernel
theorem dX3_bitsOf_14 : decode cX3_bitsOf 14 = .ok (.iload_n 3, 1) := by decide +kernel
theorem dX3_bitsOf_15 : decode cX3_bitsOf 15 = .ok (.bipush 127, 2) := by decide +kernel
theorem dX3_bitsOf_17 : decode cX3_bitsOf 17 = .ok (.if_icmp .ge 22, 3) := by decide +kernel
theorem dX3_bitsOf_20 : decode cX3_bitsOf 20 = .ok (.fload_n 1, 1) := by decide +kernel
theorem dX3_bitsOf_21 : decode cX3_bitsOf 21 = .ok (.fconst 2, 1) := by decide +kernel
theorem dX3_bitsOf_22 : decode cX3_bitsOf 22 = .ok (.fcmp .l, 1) := by decide +kernel
theorem dX3_bitsOf_23 : decode cX3_bitsOf 23 = .ok (.ifCond .lt 16, 3) := by decide +kernel
theorem dX3_bitsOf_26 : decode cX3_bitsOf 26 = .ok (.fload_n 1, 1) := by decide +kernel
theorem dX3_bitsOf_27 : decode cX3_bitsOf 27 = .ok (.fconst 2, 1) := by decide +kernel
theorem dX3_bitsOf_28 : decode cX3_bitsOf 28 = .ok (.fdiv, 1) := by decide +kernel
theorem dX3_bitsOf_29 : decode cX3_bitsOf 29 = .ok (.fstore_n 1, 1) := by decide +kernel
theorem dX3_bitsOf_30 : decode cX3_bitsOf 30 = .ok (.iinc 2 1, 3) := by decide +kernel
theorem dX3_bitsOf_33 : decode cX3_bitsOf 33 = .ok (.iinc 3 1, 3) := by decide +kernel
theorem dX3_bitsOf_36 : decode cX3_bitsOf 36 = .ok (.goto (-22), 3) := by decide +kernel
theorem dX3_bitsOf_39 : decode cX3_bitsOf 39 = .ok (.iconst 0, 1) := by decide +kernel
theorem dX3_bitsOf_40 : decode cX3_bitsOf 40 = .ok (.istore_n 3, 1) := by decide +kernel
theorem dX3_bitsOf_41 : decode cX3_bitsOf 41 = .ok (.iload_n 3, 1) := by decide +kernel
theorem dX3_bitsOf_42 : decode cX3_bitsOf 42 = .ok (.bipush 126, 2) := by decide +kernel
theorem dX3_bitsOf_44 : decode cX3_bitsOf 44 = .ok (.if_icmp .ge 22, 3) := by decide +kernel
theorem dX3_bitsOf_47 : decode cX3_bitsOf 47 = .ok (.fload_n 1, 1) := by decide +kernel
end
section
theorem dX3_bitsOf_48 : decode cX3_bitsOf 48 = .ok (.fconst 1, 1) := by decide +kernel
theorem dX3_bitsOf_49 : decode cX3_bitsOf 49 = .ok (.fcmp .g, 1) := by decide +kernel
theorem dX3_bitsOf_50 : decode cX3_bitsOf 50 = .ok (.ifCond .ge 16, 3) := by decide +kernel
theorem dX3_bitsOf_53 : decode cX3_bitsOf 53 = .ok (.fload_n 1, 1) := by decide +kernel
theorem dX3_bitsOf_54 : decode cX3_bitsOf 54 = .ok (.fconst 2, 1) := by decide +kernel
theorem dX3_bitsOf_55 : decode cX3_bitsOf 55 = .ok (.fmul, 1) := by decide +kernel
theorem dX3_bitsOf_56 : decode cX3_bitsOf 56 = .ok (.fstore_n 1, 1) := by decide +kernel
theorem dX3_bitsOf_57 : decode cX3_bitsOf 57 = .ok (.iinc 2 (-1), 3) := by decide +kernel
theorem dX3_bitsOf_60 : decode cX3_bitsOf 60 = .ok (.iinc 3 1, 3) := by decide +kernel
theorem dX3_bitsOf_63 : decode cX3_bitsOf 63 = .ok (.goto (-22), 3) := by decide +kernel
theorem dX3_bitsOf_66 : decode cX3_bitsOf 66 = .ok (.fload_n 1, 1) := by decide +kernel
theorem dX3_bitsOf_67 : decode cX3_bitsOf 67 = .ok (.fconst 1, 1) := by decide +kernel
theorem dX3_bitsOf_68 : decode cX3_bitsOf 68 = .ok (.fsub, 1) := by decide +kernel
theorem dX3_bitsOf_69 : decode cX3_bitsOf 69 = .ok (.ldc_w 257, 3) := by decide +kernel
theorem dX3_bitsOf_72 : decode cX3_bitsOf 72 = .ok (.fmul, 1) := by decide +kernel
theorem dX3_bitsOf_73 : decode cX3_bitsOf 73 = .ok (.f2i, 1) := by decide +kernel
theorem dX3_bitsOf_74 : decode cX3_bitsOf 74 = .ok (.istore_n 3, 1) := by decide +kernel
theorem dX3_bitsOf_75 : decode cX3_bitsOf 75 = .ok (.iload_n 2, 1) := by decide +kernel
theorem dX3_bitsOf_76 : decode cX3_bitsOf 76 = .ok (.bipush 127, 2) := by decide +kernel
theorem dX3_bitsOf_78 : decode cX3_bitsOf 78 = .ok (.iadd, 1) := by decide +kernel
theorem dX3_bitsOf_79 : decode cX3_bitsOf 79 = .ok (.bipush 23, 2) := by decide +kernel
theorem dX3_bitsOf_81 : decode cX3_bitsOf 81 = .ok (.ishl, 1) := by decide +kernel
theorem dX3_bitsOf_82 : decode cX3_bitsOf 82 = .ok (.iload_n 3, 1) := by decide +kernel
theorem dX3_bitsOf_83 : decode cX3_bitsOf 83 = .ok (.ior, 1) := by decide +kernel
theorem dX3_bitsOf_84 : decode cX3_bitsOf 84 = .ok (.ireturn, 1) := by decide +kernel
theorem dX4_init_0 : decode cX4_init 0 = .ok (.aload_n 0, 1) := by decide +kernel
theorem dX4_init_1 : decode cX4_init 1 = .ok (.invokespecial 1, 3) := by decide +kernel
theorem dX4_init_4 : decode cX4_init 4 = .ok (.aload_n 0, 1) := by decide +kernel
theorem dX4_init_5 : decode cX4_init 5 = .ok (.bipush 78, 2) := by decide +kernel
theorem dX4_init_7 : decode cX4_init 7 = .ok (.newarray .int, 2) := by decide +kernel
theorem dX4_init_9 : decode cX4_init 9 = .ok (.putfield 7, 3) := by decide +kernel
theorem dX4_init_12 : decode cX4_init 12 = .ok (.aload_n 0, 1) := by decide +kernel
theorem dX4_init_13 : decode cX4_init 13 = .ok (.sipush 312, 3) := by decide +kernel
theorem dX4_init_16 : decode cX4_init 16 = .ok (.newarray .int, 2) := by decide +kernel
theorem dX4_init_18 : decode cX4_init 18 = .ok (.putfield 13, 3) := by decide +kernel
theorem dX4_init_21 : decode cX4_init 21 = .ok (.aload_n 0, 1) := by decide +kernel
theorem dX4_init_22 : decode cX4_init 22 = .ok (.bipush 78, 2) := by decide +kernel
theorem dX4_init_24 : decode cX4_init 24 = .ok (.newarray .int, 2) := by decide +kernel
theorem dX4_init_26 : decode cX4_init 26 = .ok (.putfield 16, 3) := by decide +kernel
theorem dX4_init_29 : decode cX4_init 29 = .ok (.aload_n 0, 1) := by decide +kernel
theorem dX4_init_30 : decode cX4_init 30 = .ok (.bipush 78, 2) := by decide +kernel
theorem dX4_init_32 : decode cX4_init 32 = .ok (.newarray .int, 2) := by decide +kernel
theorem dX4_init_34 : decode cX4_init 34 = .ok (.putfield 19, 3) := by decide +kernel
theorem dX4_init_37 : decode cX4_init 37 = .ok (.aload_n 0, 1) := by decide +kernel
theorem dX4_init_38 : decode cX4_init 38 = .ok (.bipush 60, 2) := by decide +kernel
theorem dX4_init_40 : decode cX4_init 40 = .ok (.newarray .int, 2) := by decide +kernel
theorem dX4_init_42 : decode cX4_init 42 = .ok (.putfield 22, 3) := by decide +kernel
theorem dX4_init_45 : decode cX4_init 45 = .ok (.aload_n 0, 1) := by decide +kernel
theorem dX4_init_46 : decode cX4_init 46 = .ok (.getfield 7, 3) := by decide +kernel
theorem dX4_init_49 : decode cX4_init 49 = .ok (.iconst 5, 1) := by decide +kernel
theorem dX4_init_50 : decode cX4_init 50 = .ok (.bipush 100, 2) := by decide +kernel
theorem dX4_init_52 : decode cX4_init 52 = .ok (.iastore, 1) := by decide +kernel
theorem dX4_init_53 : decode cX4_init 53 = .ok (.aload_n 0, 1) := by decide +kernel
theorem dX4_init_54 : decode cX4_init 54 = .ok (.getfield 7, 3) := by decide +kernel
theorem dX4_init_57 : decode cX4_init 57 = .ok (.iconst 3, 1) := by decide +kernel
theorem dX4_init_58 : decode cX4_init 58 = .ok (.bipush 10, 2) := by decide +kernel
theorem dX4_init_60 : decode cX4_init 60 = .ok (.iastore, 1) := by decide +kernel
theorem dX4_init_61 : decode cX4_init 61 = .ok (.aload_n 0, 1) := by decide +kernel
theorem dX4_init_62 : decode cX4_init 62 = .ok (.getfield 7, 3) := by decide +kernel
theorem dX4_init_65 : decode cX4_init 65 = .ok (.bipush 10, 2) := by decide +kernel
theorem dX4_init_67 : decode cX4_init 67 = .ok (.bipush 30, 2) := by decide +kernel
theorem dX4_init_69 : decode cX4_init 69 = .ok (.iastore, 1) := by decide +kernel
theorem dX4_init_70 : decode cX4_init 70 = .ok (.aload_n 0, 1) := by decide +kernel
theorem dX4_init_71 : decode cX4_init 71 = .ok (.getfield 7, 3) := by decide +kernel
theorem dX4_init_74 : decode cX4_init 74 = .ok (.bipush 11, 2) := by decide +kernel
theorem dX4_init_76 : decode cX4_init 76 = .ok (.bipush 10, 2) := by decide +kernel
theorem dX4_init_78 : decode cX4_init 78 = .ok (.iastore, 1) := by decide +kernel
theorem dX4_init_79 : decode cX4_init 79 = .ok (.aload_n 0, 1) := by decide +kernel
theorem dX4_init_80 : decode cX4_init 80 = .ok (.getfield 7, 3) := by decide +kernel
theorem dX4_init_83 : decode cX4_init 83 = .ok (.bipush 12, 2) := by decide +kernel
theorem dX4_init_85 : decode cX4_init 85 = .ok (.iconst 4, 1) := by decide +kernel
theorem dX4_init_86 : decode cX4_init 86 = .ok (.iastore, 1) := by decide +kernel
theorem dX4_init_87 : decode cX4_init 87 = .ok (.aload_n 0, 1) := by decide +kernel
theorem dX4_init_88 : decode cX4_init 88 = .ok (.getfield 7, 3) := by decide +kernel
theorem dX4_init_91 : decode cX4_init 91 = .ok (.bipush 13, 2) := by decide +kernel
theorem dX4_init_93 : decode cX4_init 93 = .ok (.bipush 60, 2) := by decide +kernel
theorem dX4_init_95 : decode cX4_init 95 = .ok (.iastore, 1) := by decide +kernel
theorem dX4_init_96 : decode cX4_init 96 = .ok (.return_, 1) := by decide +kernel
theorem dX4_in_0 : decode cX4_in 0 = .ok (.iload_n 0, 1) := by decide +kernel
theorem dX4_in_1 : decode cX4_in 1 = .ok (.iload_n 1, 1) := by decide +kernel
theorem dX4_in_2 : decode cX4_in 2 = .ok (.if_icmp .lt 12, 3) := by decide +kernel
theorem dX4_in_5 : decode cX4_in 5 = .ok (.iload_n 0, 1) := by decide +kernel
theorem dX4_in_6 : decode cX4_in 6 = .ok (.iload_n 2, 1) := by decide +kernel
theorem dX4_in_7 : decode cX4_in 7 = .ok (.if_icmp .gt 7, 3) := by decide +kernel
theorem dX4_in_10 : decode cX4_in 10 = .ok (.iconst 1, 1) := by decide +kernel
theorem dX4_in_11 : decode cX4_in 11 = .ok (.goto 4, 3) := by decide +kernel
theorem dX4_in_14 : decode cX4_in 14 = .ok (.iconst 0, 1) := by decide +kernel
theorem dX4_in_15 : decode cX4_in 15 = .ok (.ireturn, 1) := by decide +kernel
theorem dX4_size_0 : decode cX4_size 0 = .ok (.iload_n 0, 1) := by decide +kernel
theorem dX4_size_1 : decode cX4_size 1 = .ok (.ifCond .ge 8, 3) := by decide +kernel
theorem dX4_size_4 : decode cX4_size 4 = .ok (.iload_n 0, 1) := by decide +kernel
theorem dX4_size_5 : decode cX4_size 5 = .ok (.ineg, 1) := by decide +kernel
theorem dX4_size_6 : decode cX4_size 6 = .ok (.goto 4, 3) := by decide +kernel
theorem dX4_size_9 : decode cX4_size 9 = .ok (.iload_n 0, 1) := by decide +kernel
theorem dX4_size_10 : decode cX4_size 10 = .ok (.ireturn, 1) := by decide +kernel
theorem dX4_copies_0 : decode cX4_copies 0 = .ok (.iconst 0, 1) := by decide +kernel
theorem dX4_copies_1 : decode cX4_copies 1 = .ok (.istore_n 2, 1) := by decide +kernel
theorem dX4_copies_2 : decode cX4_copies 2 = .ok (.iload_n 2, 1) := by decide +kernel
theorem dX4_copies_3 : decode cX4_copies 3 = .ok (.bipush 78, 2) := by decide +kernel
theorem dX4_copies_5 : decode cX4_copies 5 = .ok (.if_icmp .ge 15, 3) := by decide +kernel
theorem dX4_copies_8 : decode cX4_copies 8 = .ok (.aload_n 1, 1) := by decide +kernel
theorem dX4_copies_9 : decode cX4_copies 9 = .ok (.iload_n 2, 1) := by decide +kernel
theorem dX4_copies_10 : decode cX4_copies 10 = .ok (.aload_n 0, 1) := by decide +kernel
theorem dX4_copies_11 : decode cX4_copies 11 = .ok (.iload_n 2, 1) := by decide +kernel
theorem dX4_copies_12 : decode cX4_copies 12 = .ok (.iaload, 1) := by decide +kernel
theorem dX4_copies_13 : decode cX4_copies 13 = .ok (.iastore, 1) := by decide +kernel
theorem dX4_copies_14 : decode cX4_copies 14 = .ok (.iinc 2 1, 3) := by decide +kernel
theorem dX4_copies_17 : decode cX4_copies 17 = .ok (.goto (-15), 3) := by decide +kernel
theorem dX4_copies_20 : decode cX4_copies 20 = .ok (.return_, 1) := by decide +kernel
theorem dX4_changes_0 : decode cX4_changes 0 = .ok (.aload_n 0, 1) := by decide +kernel
theorem dX4_changes_1 : decode cX4_changes 1 = .ok (.getfield 25, 3) := by decide +kernel
theorem dX4_changes_4 : decode cX4_changes 4 = .ok (.ifCond .eq 4, 3) := by decide +kernel
theorem dX4_changes_7 : decode cX4_changes 7 = .ok (.return_, 1) := by decide +kernel
theorem dX4_changes_8 : decode cX4_changes 8 = .ok (.aload_n 0, 1) := by decide +kernel
theorem dX4_changes_9 : decode cX4_changes 9 = .ok (.getfield 29, 3) := by decide +kernel
theorem dX4_changes_12 : decode cX4_changes 12 = .ok (.iconst 4, 1) := by decide +kernel
theorem dX4_changes_13 : decode cX4_changes 13 = .ok (.if_icmp .ne 43, 3) := by decide +kernel
theorem dX4_changes_16 : decode cX4_changes 16 = .ok (.iconst 0, 1) := by decide +kernel
theorem dX4_changes_17 : decode cX4_changes 17 = .ok (.istore_n 1, 1) := by decide +kernel
theorem dX4_changes_18 : decode cX4_changes 18 = .ok (.iload_n 1, 1) := by decide +kernel
theorem dX4_changes_19 : decode cX4_changes 19 = .ok (.sipush 234, 3) := by decide +kernel
theorem dX4_changes_22 : decode cX4_changes 22 = .ok (.if_icmp .ge 24, 3) := by decide +kernel
theorem dX4_changes_25 : decode cX4_changes 25 = .ok (.aload_n 0, 1) := by decide +kernel
theorem dX4_changes_26 : decode cX4_changes 26 = .ok (.getfield 13, 3) := by decide +kernel
theorem dX4_changes_29 : decode cX4_changes 29 = .ok (.iload_n 1, 1) := by decide +kernel
theorem dX4_changes_30 : decode cX4_changes 30 = .ok (.aload_n 0, 1) := by decide +kernel
theorem dX4_changes_31 : decode cX4_changes 31 = .ok (.getfield 13, 3) := by decide +kernel
theorem dX4_changes_34 : decode cX4_changes 34 = .ok (.iload_n 1, 1) := by decide +kernel
theorem dX4_changes_35 : decode cX4_changes 35 = .ok (.bipush 78, 2) := by decide +kernel
theorem dX4_changes_37 : decode cX4_changes 37 = .ok (.iadd, 1) := by decide +kernel
theorem dX4_changes_38 : decode cX4_changes 38 = .ok (.iaload, 1) := by decide +kernel
theorem dX4_changes_39 : decode cX4_changes 39 = .ok (.iastore, 1) := by decide +kernel
theorem dX4_changes_40 : decode cX4_changes 40 = .ok (.iinc 1 1, 3) := by decide +kernel
theorem dX4_changes_43 : decode cX4_changes 43 = .ok (.goto (-25), 3) := by decide +kernel
theorem dX4_changes_46 : decode cX4_changes 46 = .ok (.aload_n 0, 1) := by decide +kernel
theorem dX4_changes_47 : decode cX4_changes 47 = .ok (.dup, 1) := by decide +kernel
theorem dX4_changes_48 : decode cX4_changes 48 = .ok (.getfield 29, 3) := by decide +kernel
theorem dX4_changes_51 : decode cX4_changes 51 = .ok (.iconst 1, 1) := by decide +kernel
theorem dX4_changes_52 : decode cX4_changes 52 = .ok (.isub, 1) := by decide +kernel
theorem dX4_changes_53 : decode cX4_changes 53 = .ok (.putfield 29, 3) := by decide +kernel
theorem dX4_changes_56 : decode cX4_changes 56 = .ok (.iconst 0, 1) := by decide +kernel
theorem dX4_changes_57 : decode cX4_changes 57 = .ok (.istore_n 1, 1) := by decide +kernel
theorem dX4_changes_58 : decode cX4_changes 58 = .ok (.iload_n 1, 1) := by decide +kernel
theorem dX4_changes_59 : decode cX4_changes 59 = .ok (.bipush 78, 2) := by decide +kernel
theorem dX4_changes_61 : decode cX4_changes 61 = .ok (.if_icmp .ge 29, 3) := by decide +kernel
theorem dX4_changes_64 : decode cX4_changes 64 = .ok (.aload_n 0, 1) := by decide +kernel
theorem dX4_changes_65 : decode cX4_changes 65 = .ok (.getfield 13, 3) := by decide +kernel
theorem dX4_changes_68 : decode cX4_changes 68 = .ok (.bipush 78, 2) := by decide +kernel
theorem dX4_changes_70 : decode cX4_changes 70 = .ok (.aload_n 0, 1) := by decide +kernel
theorem dX4_changes_71 : decode cX4_changes 71 = .ok (.getfield 29, 3) := by decide +kernel
theorem dX4_changes_74 : decode cX4_changes 74 = .ok (.imul, 1) := by decide +kernel
theorem dX4_changes_75 : decode cX4_changes 75 = .ok (.iload_n 1, 1) := by decide +kernel
theorem dX4_changes_76 : decode cX4_changes 76 = .ok (.iadd, 1) := by decide +kernel
theorem dX4_changes_77 : decode cX4_changes 77 = .ok (.aload_n 0, 1) := by decide +kernel
theorem dX4_changes_78 : decode cX4_changes 78 = .ok (.getfield 7, 3) := by decide +kernel
theorem dX4_changes_81 : decode cX4_changes 81 = .ok (.iload_n 1, 1) := by decide +kernel
theorem dX4_changes_82 : decode cX4_changes 82 = .ok (.iaload, 1) := by decide +kernel
theorem dX4_changes_83 : decode cX4_changes 83 = .ok (.iastore, 1) := by decide +kernel
theorem dX4_changes_84 : decode cX4_changes 84 = .ok (.iinc 1 1, 3) := by decide +kernel
theorem dX4_changes_87 : decode cX4_changes 87 = .ok (.goto (-29), 3) := by decide +kernel
theorem dX4_changes_90 : decode cX4_changes 90 = .ok (.aload_n 0, 1) := by decide +kernel
theorem dX4_changes_91 : decode cX4_changes 91 = .ok (.dup, 1) := by decide +kernel
theorem dX4_changes_92 : decode cX4_changes 92 = .ok (.getfield 29, 3) := by decide +kernel
theorem dX4_changes_95 : decode cX4_changes 95 = .ok (.iconst 1, 1) := by decide +kernel
theorem dX4_changes_96 : decode cX4_changes 96 = .ok (.iadd, 1) := by decide +kernel
theorem dX4_changes_97 : decode cX4_changes 97 = .ok (.putfield 29, 3) := by decide +kernel
theorem dX4_changes_100 : decode cX4_changes 100 = .ok (.return_, 1) := by decide +kernel
theorem dX4_isSmithy_0 : decode cX4_isSmithy 0 = .ok (.iload_n 1, 1) := by decide +kernel
theorem dX4_isSmithy_1 : decode cX4_isSmithy 1 = .ok (.ifCond .lt 17, 3) := by decide +kernel
theorem dX4_isSmithy_4 : decode cX4_isSmithy 4 = .ok (.iload_n 1, 1) := by decide +kernel
theorem dX4_isSmithy_5 : decode cX4_isSmithy 5 = .ok (.aload_n 0, 1) := by decide +kernel
theorem dX4_isSmithy_6 : decode cX4_isSmithy 6 = .ok (.getfield 7, 3) := by decide +kernel
theorem dX4_isSmithy_9 : decode cX4_isSmithy 9 = .ok (.iconst 0, 1) := by decide +kernel
theorem dX4_isSmithy_10 : decode cX4_isSmithy 10 = .ok (.iaload, 1) := by decide +kernel
theorem dX4_isSmithy_11 : decode cX4_isSmithy 11 = .ok (.if_icmp .ge 7, 3) := by decide +kernel
theorem dX4_isSmithy_14 : decode cX4_isSmithy 14 = .ok (.iconst 1, 1) := by decide +kernel
theorem dX4_isSmithy_15 : decode cX4_isSmithy 15 = .ok (.goto 4, 3) := by decide +kernel
theorem dX4_isSmithy_18 : decode cX4_isSmithy 18 = .ok (.iconst 0, 1) := by decide +kernel
theorem dX4_isSmithy_19 : decode cX4_isSmithy 19 = .ok (.ireturn, 1) := by decide +kernel
theorem dX4_of_0 : decode cX4_of 0 = .ok (.aload_n 0, 1) := by decide +kernel
theorem dX4_of_1 : decode cX4_of 1 = .ok (.getfield 7, 3) := by decide +kernel
theorem dX4_of_4 : decode cX4_of 4 = .ok (.bipush 14, 2) := by decide +kernel
theorem dX4_of_6 : decode cX4_of 6 = .ok (.bipush 8, 2) := by decide +kernel
theorem dX4_of_8 : decode cX4_of 8 = .ok (.iload_n 1, 1) := by decide +kernel
theorem dX4_of_9 : decode cX4_of 9 = .ok (.imul, 1) := by decide +kernel
theorem dX4_of_10 : decode cX4_of 10 = .ok (.iadd, 1) := by decide +kernel
theorem dX4_of_11 : decode cX4_of 11 = .ok (.iload_n 2, 1) := by decide +kernel
theorem dX4_of_12 : decode cX4_of 12 = .ok (.iadd, 1) := by decide +kernel
theorem dX4_of_13 : decode cX4_of 13 = .ok (.iaload, 1) := by decide +kernel
theorem dX4_of_14 : decode cX4_of 14 = .ok (.ireturn, 1) := by decide +kernel
theorem dX4_sets_0 : decode cX4_sets 0 = .ok (.aload_n 0, 1) := by decide +kernel
theorem dX4_sets_1 : decode cX4_sets 1 = .ok (.getfield 7, 3) := by decide +kernel
theorem dX4_sets_4 : decode cX4_sets 4 = .ok (.bipush 14, 2) := by decide +kernel
theorem dX4_sets_6 : decode cX4_sets 6 = .ok (.bipush 8, 2) := by decide +kernel
theorem dX4_sets_8 : decode cX4_sets 8 = .ok (.iload_n 1, 1) := by decide +kernel
theorem dX4_sets_9 : decode cX4_sets 9 = .ok (.imul, 1) := by decide +kernel
theorem dX4_sets_10 : decode cX4_sets 10 = .ok (.iadd, 1) := by decide +kernel
theorem dX4_sets_11 : decode cX4_sets 11 = .ok (.iload_n 2, 1) := by decide +kernel
theorem dX4_sets_12 : decode cX4_sets 12 = .ok (.iadd, 1) := by decide +kernel
theorem dX4_sets_13 : decode cX4_sets 13 = .ok (.iload_n 3, 1) := by decide +kernel
theorem dX4_sets_14 : decode cX4_sets 14 = .ok (.iastore, 1) := by decide +kernel
theorem dX4_sets_15 : decode cX4_sets 15 = .ok (.return_, 1) := by decide +kernel
set_option maxRecDepth 20000 in
theorem ggX4_leak_X4_of : GoodIn wsX4_leak wsX4_of := goodIn_r _ [5, 6, 7, 8, 9, 10, 11, 12, 13, 14, 15, 16, 17, 18, 19, 20, 21] (by decide +kernel) (by decide +kernel)
set_option maxRecDepth 20000 in
theorem gX4_leak_X4_of : GoodIn wsX4_leak (wsV RX4 33 RX4 yX4_of wsX4_of) := goodIn_app (goodIn_of _ (by decide +kernel)) ggX4_leak_X4_of
theorem dX4_leak_0 : decode cX4_leak 0 = .ok (.aload_n 0, 1) := by decide +kernel
theorem dX4_leak_1 : decode cX4_leak 1 = .ok (.iload_n 1, 1) := by decide +kernel
theorem dX4_leak_2 : decode cX4_leak 2 = .ok (.iconst 2, 1) := by decide +kernel
theorem dX4_leak_3 : decode cX4_leak 3 = .ok (.invokevirtual 33, 3) := by decide +kernel
theorem dX4_leak_6 : decode cX4_leak 6 = .ok (.bipush 10, 2) := by decide +kernel
theorem dX4_leak_8 : decode cX4_leak 8 = .ok (.idiv, 1) := by decide +kernel
theorem dX4_leak_9 : decode cX4_leak 9 = .ok (.ireturn, 1) := by decide +kernel
set_option maxRecDepth 20000 in
theorem ggX4_isCold_X4_of : GoodIn wsX4_isCold wsX4_of := goodIn_r _ [6, 1, 7, 8, 9, 10, 11, 12, 13, 14, 15, 16, 17, 18, 19, 20, 21] (by decide +kernel) (by decide +kernel)
set_option maxRecDepth 20000 in
theorem gX4_isCold_X4_of : GoodIn wsX4_isCold (wsV RX4 33 RX4 yX4_of wsX4_of) := goodIn_app (goodIn_of _ (by decide +kernel)) ggX4_isCold_X4_of
theorem dX4_isCold_0 : decode cX4_isCold 0 = .ok (.aload_n 0, 1) := by decide +kernel
theorem dX4_isCold_1 : decode cX4_isCold 1 = .ok (.iload_n 1, 1) := by decide +kernel
theorem dX4_isCold_2 : decode cX4_isCold 2 = .ok (.iconst 3, 1) := by decide +kernel
theorem dX4_isCold_3 : decode cX4_isCold 3 = .ok (.invokevirtual 33, 3) := by decide +kernel
theorem dX4_isCold_6 : decode cX4_isCold 6 = .ok (.aload_n 0, 1) := by decide +kernel
theorem dX4_isCold_7 : decode cX4_isCold 7 = .ok (.getfield 7, 3) := by decide +kernel
theorem dX4_isCold_10 : decode cX4_isCold 10 = .ok (.bipush 10, 2) := by decide +kernel
theorem dX4_isCold_12 : decode cX4_isCold 12 = .ok (.iaload, 1) := by decide +kernel
theorem dX4_isCold_13 : decode cX4_isCold 13 = .ok (.if_icmp .ge 7, 3) := by decide +kernel
theorem dX4_isCold_16 : decode cX4_isCold 16 = .ok (.iconst 1, 1) := by decide +kernel
theorem dX4_isCold_17 : decode cX4_isCold 17 = .ok (.goto 4, 3) := by decide +kernel
theorem dX4_isCold_20 : decode cX4_isCold 20 = .ok (.iconst 0, 1) := by decide +kernel
theorem dX4_isCold_21 : decode cX4_isCold 21 = .ok (.ireturn, 1) := by decide +kernel
theorem dX4_tens_0 : decode cX4_tens 0 = .ok (.iload_n 0, 1) := by decide +kernel
theorem dX4_tens_1 : decode cX4_tens 1 = .ok (.bipush 9, 2) := by decide +kernel
theorem dX4_tens_3 : decode cX4_tens 3 = .ok (.iadd, 1) := by decide +kernel
theorem dX4_tens_4 : decode cX4_tens 4 = .ok (.bipush 10, 2) := by decide +kernel
theorem dX4_tens_6 : decode cX4_tens 6 = .ok (.idiv, 1) := by decide +kernel
theorem dX4_tens_7 : decode cX4_tens 7 = .ok (.ireturn, 1) := by decide +kernel
set_option maxRecDepth 20000 in
theorem ggX4_ages_X4_of : GoodIn wsX4_ages wsX4_of := goodIn_r _ [6, 1, 19, 20, 21, 22, 23, 24, 25, 26, 27, 28, 29, 30, 31, 32, 33] (by decide +kernel) (by decide +kernel)
set_option maxRecDepth 20000 in
theorem gX4_ages_X4_of : GoodIn wsX4_ages (wsV RX4 33 RX4 yX4_of wsX4_of) := goodIn_app (goodIn_of _ (by decide +kernel)) ggX4_ages_X4_of
set_option maxRecDepth 20000 in
theorem ggX4_ages_X4_sets : GoodIn wsX4_ages wsX4_sets := goodIn_r _ [10, 1, 19, 20, 21, 22, 23, 24, 25, 26, 27, 28, 29, 30, 31, 32, 33] (by decide +kernel) (by decide +kernel)
set_option maxRecDepth 20000 in
theorem gX4_ages_X4_sets : GoodIn wsX4_ages (wsV RX4 37 RX4 yX4_sets wsX4_sets) := goodIn_app (goodIn_of _ (by decide +kernel)) ggX4_ages_X4_sets
set_option maxRecDepth 20000 in
theorem ggX4_ages_X4_leak : GoodIn wsX4_ages wsX4_leak := goodIn_r _ [14, 2, 3, 4, 5, 6, 1, 19, 20, 21, 22, 23, 24, 25, 26, 27, 28, 29, 30, 31, 32, 33] (by decide +kernel) (by decide +kernel)
set_option maxRecDepth 20000 in
theorem gX4_ages_X4_leak : GoodIn wsX4_ages (wsV RX4 41 RX4 yX4_leak wsX4_leak) := goodIn_app (goodIn_of _ (by decide +kernel)) ggX4_ages_X4_leak
set_option maxRecDepth 20000 in
theorem ggX4_ages_X4_isCold : GoodIn wsX4_ages wsX4_isCold := goodIn_r _ [18, 1, 2, 3, 4, 5, 6, 19, 20, 21, 22, 23, 24, 25, 26, 27, 28, 29, 30, 31, 32, 33] (by decide +kernel) (by decide +kernel)
set_option maxRecDepth 20000 in
theorem gX4_ages_X4_isCold : GoodIn wsX4_ages (wsV RX4 45 RX4 yX4_isCold wsX4_isCold) := goodIn_app (goodIn_of _ (by decide +kernel)) ggX4_ages_X4_isCold
theorem dX4_ages_0 : decode cX4_ages 0 = .ok (.aload_n 0, 1) := by decide +kernel
theorem dX4_ages_1 : decode cX4_ages 1 = .ok (.iload_n 1, 1) := by decide +kernel
theorem dX4_ages_2 : decode cX4_ages 2 = .ok (.iconst 2, 1) := by decide +kernel
theorem dX4_ages_3 : decode cX4_ages 3 = .ok (.invokevirtual 33, 3) := by decide +kernel
theorem dX4_ages_6 : decode cX4_ages 6 = .ok (.aload_n 0, 1) := by decide +kernel
theorem dX4_ages_7 : decode cX4_ages 7 = .ok (.iload_n 1, 1) := by decide +kernel
theorem dX4_ages_8 : decode cX4_ages 8 = .ok (.iconst 1, 1) := by decide +kernel
theorem dX4_ages_9 : decode cX4_ages 9 = .ok (.invokevirtual 33, 3) := by decide +kernel
theorem dX4_ages_12 : decode cX4_ages 12 = .ok (.iconst 2, 1) := by decide +kernel
theorem dX4_ages_13 : decode cX4_ages 13 = .ok (.idiv, 1) := by decide +kernel
theorem dX4_ages_14 : decode cX4_ages 14 = .ok (.iadd, 1) := by decide +kernel
theorem dX4_ages_15 : decode cX4_ages 15 = .ok (.iconst 1, 1) := by decide +kernel
theorem dX4_ages_16 : decode cX4_ages 16 = .ok (.iadd, 1) := by decide +kernel
theorem dX4_ages_17 : decode cX4_ages 17 = .ok (.istore_n 2, 1) := by decide +kernel
theorem dX4_ages_18 : decode cX4_ages 18 = .ok (.aload_n 0, 1) := by decide +kernel
theorem dX4_ages_19 : decode cX4_ages 19 = .ok (.iload_n 1, 1) := by decide +kernel
theorem dX4_ages_20 : decode cX4_ages 20 = .ok (.iconst 2, 1) := by decide +kernel
theorem dX4_ages_21 : decode cX4_ages 21 = .ok (.iload_n 2, 1) := by decide +kernel
theorem dX4_ages_22 : decode cX4_ages 22 = .ok (.bipush 100, 2) := by decide +kernel
theorem dX4_ages_24 : decode cX4_ages 24 = .ok (.if_icmp .le 8, 3) := by decide +kernel
theorem dX4_ages_27 : decode cX4_ages 27 = .ok (.bipush 100, 2) := by decide +kernel
theorem dX4_ages_29 : decode cX4_ages 29 = .ok (.goto 4, 3) := by decide +kernel
theorem dX4_ages_32 : decode cX4_ages 32 = .ok (.iload_n 2, 1) := by decide +kernel
theorem dX4_ages_33 : decode cX4_ages 33 = .ok (.invokevirtual 37, 3) := by decide +kernel
theorem dX4_ages_36 : decode cX4_ages 36 = .ok (.aload_n 0, 1) := by decide +kernel
theorem dX4_ages_37 : decode cX4_ages 37 = .ok (.iload_n 1, 1) := by decide +kernel
theorem dX4_ages_38 : decode cX4_ages 38 = .ok (.iconst 3, 1) := by decide +kernel
theorem dX4_ages_39 : decode cX4_ages 39 = .ok (.invokevirtual 33, 3) := by decide +kernel
theorem dX4_ages_42 : decode cX4_ages 42 = .ok (.aload_n 0, 1) := by decide +kernel
theorem dX4_ages_43 : decode cX4_ages 43 = .ok (.iload_n 1, 1) := by decide +kernel
theorem dX4_ages_44 : decode cX4_ages 44 = .ok (.invokevirtual 41, 3) := by decide +kernel
theorem dX4_ages_47 : decode cX4_ages 47 = .ok (.ifCond .ne 8, 3) := by decide +kernel
theorem dX4_ages_50 : decode cX4_ages 50 = .ok (.bipush 10, 2) := by decide +kernel
theorem dX4_ages_52 : decode cX4_ages 52 = .ok (.goto 11, 3) := by decide +kernel
theorem dX4_ages_55 : decode cX4_ages 55 = .ok (.bipush (-2), 2) := by decide +kernel
theorem dX4_ages_57 : decode cX4_ages 57 = .ok (.aload_n 0, 1) := by decide +kernel
theorem dX4_ages_58 : decode cX4_ages 58 = .ok (.iload_n 1, 1) := by decide +kernel
theorem dX4_ages_59 : decode cX4_ages 59 = .ok (.invokevirtual 41, 3) := by decide +kernel
theorem dX4_ages_62 : decode cX4_ages 62 = .ok (.imul, 1) := by decide +kernel
theorem dX4_ages_63 : decode cX4_ages 63 = .ok (.iadd, 1) := by decide +kernel
theorem dX4_ages_64 : decode cX4_ages 64 = .ok (.istore_n 3, 1) := by decide +kernel
theorem dX4_ages_65 : decode cX4_ages 65 = .ok (.aload_n 0, 1) := by decide +kernel
theorem dX4_ages_66 : decode cX4_ages 66 = .ok (.iload_n 1, 1) := by decide +kernel
theorem dX4_ages_67 : decode cX4_ages 67 = .ok (.iconst 3, 1) := by decide +kernel
theorem dX4_ages_68 : decode cX4_ages 68 = .ok (.iload_n 3, 1) := by decide +kernel
theorem dX4_ages_69 : decode cX4_ages 69 = .ok (.bipush 100, 2) := by decide +kernel
theorem dX4_ages_71 : decode cX4_ages 71 = .ok (.if_icmp .le 8, 3) := by decide +kernel
theorem dX4_ages_74 : decode cX4_ages 74 = .ok (.bipush 100, 2) := by decide +kernel
theorem dX4_ages_76 : decode cX4_ages 76 = .ok (.goto 12, 3) := by decide +kernel
theorem dX4_ages_79 : decode cX4_ages 79 = .ok (.iload_n 3, 1) := by decide +kernel
theorem dX4_ages_80 : decode cX4_ages 80 = .ok (.ifCond .ge 7, 3) := by decide +kernel
theorem dX4_ages_83 : decode cX4_ages 83 = .ok (.iconst 0, 1) := by decide +kernel
theorem dX4_ages_84 : decode cX4_ages 84 = .ok (.goto 4, 3) := by decide +kernel
theorem dX4_ages_87 : decode cX4_ages 87 = .ok (.iload_n 3, 1) := by decide +kernel
theorem dX4_ages_88 : decode cX4_ages 88 = .ok (.invokevirtual 37, 3) := by decide +kernel
theorem dX4_ages_91 : decode cX4_ages 91 = .ok (.aload_n 0, 1) := by decide +kernel
theorem dX4_ages_92 : decode cX4_ages 92 = .ok (.iload_n 1, 1) := by decide +kernel
theorem dX4_ages_93 : decode cX4_ages 93 = .ok (.iconst 4, 1) := by decide +kernel
theorem dX4_ages_94 : decode cX4_ages 94 = .ok (.aload_n 0, 1) := by decide +kernel
theorem dX4_ages_95 : decode cX4_ages 95 = .ok (.iload_n 1, 1) := by decide +kernel
theorem dX4_ages_96 : decode cX4_ages 96 = .ok (.invokevirtual 45, 3) := by decide +kernel
theorem dX4_ages_99 : decode cX4_ages 99 = .ok (.ifCond .eq 14, 3) := by decide +kernel
theorem dX4_ages_102 : decode cX4_ages 102 = .ok (.aload_n 0, 1) := by decide +kernel
theorem dX4_ages_103 : decode cX4_ages 103 = .ok (.iload_n 1, 1) := by decide +kernel
theorem dX4_ages_104 : decode cX4_ages 104 = .ok (.iconst 4, 1) := by decide +kernel
theorem dX4_ages_105 : decode cX4_ages 105 = .ok (.invokevirtual 33, 3) := by decide +kernel
theorem dX4_ages_108 : decode cX4_ages 108 = .ok (.iconst 1, 1) := by decide +kernel
theorem dX4_ages_109 : decode cX4_ages 109 = .ok (.iadd, 1) := by decide +kernel
theorem dX4_ages_110 : decode cX4_ages 110 = .ok (.goto 4, 3) := by decide +kernel
theorem dX4_ages_113 : decode cX4_ages 113 = .ok (.iconst 0, 1) := by decide +kernel
theorem dX4_ages_114 : decode cX4_ages 114 = .ok (.invokevirtual 37, 3) := by decide +kernel
theorem dX4_ages_117 : decode cX4_ages 117 = .ok (.aload_n 0, 1) := by decide +kernel
theorem dX4_ages_118 : decode cX4_ages 118 = .ok (.getfield 7, 3) := by decide +kernel
theorem dX4_ages_121 : decode cX4_ages 121 = .ok (.bipush 8, 2) := by decide +kernel
theorem dX4_ages_123 : decode cX4_ages 123 = .ok (.aload_n 0, 1) := by decide +kernel
theorem dX4_ages_124 : decode cX4_ages 124 = .ok (.iload_n 1, 1) := by decide +kernel
theorem dX4_ages_125 : decode cX4_ages 125 = .ok (.iconst 4, 1) := by decide +kernel
theorem dX4_ages_126 : decode cX4_ages 126 = .ok (.invokevirtual 33, 3) := by decide +kernel
theorem dX4_ages_129 : decode cX4_ages 129 = .ok (.aload_n 0, 1) := by decide +kernel
theorem dX4_ages_130 : decode cX4_ages 130 = .ok (.getfield 7, 3) := by decide +kernel
theorem dX4_ages_133 : decode cX4_ages 133 = .ok (.bipush 8, 2) := by decide +kernel
theorem dX4_ages_135 : decode cX4_ages 135 = .ok (.iaload, 1) := by decide +kernel
theorem dX4_ages_136 : decode cX4_ages 136 = .ok (.if_icmp .le 12, 3) := by decide +kernel
theorem dX4_ages_139 : decode cX4_ages 139 = .ok (.aload_n 0, 1) := by decide +kernel
theorem dX4_ages_140 : decode cX4_ages 140 = .ok (.iload_n 1, 1) := by decide +kernel
theorem dX4_ages_141 : decode cX4_ages 141 = .ok (.iconst 4, 1) := by decide +kernel
theorem dX4_ages_142 : decode cX4_ages 142 = .ok (.invokevirtual 33, 3) := by decide +kernel
theorem dX4_ages_145 : decode cX4_ages 145 = .ok (.goto 10, 3) := by decide +kernel
theorem dX4_ages_148 : decode cX4_ages 148 = .ok (.aload_n 0, 1) := by decide +kernel
theorem dX4_ages_149 : decode cX4_ages 149 = .ok (.getfield 7, 3) := by decide +kernel
theorem dX4_ages_152 : decode cX4_ages 152 = .ok (.bipush 8, 2) := by decide +kernel
theorem dX4_ages_154 : decode cX4_ages 154 = .ok (.iaload, 1) := by decide +kernel
theorem dX4_ages_155 : decode cX4_ages 155 = .ok (.iastore, 1) := by decide +kernel
theorem dX4_ages_156 : decode cX4_ages 156 = .ok (.return_, 1) := by decide +kernel
set_option maxRecDepth 20000 in
theorem ggX4_ends_X4_ages : GoodIn wsX4_ends wsX4_ages := goodIn_r _ [6, 1, 7, 8, 9, 5, 10, 11, 12, 13, 14, 15, 16, 17, 18, 19, 20, 21, 22, 23, 24, 25, 26, 27, 28, 29, 30, 31, 32, 33, 34, 35, 36, 37] (by decide +kernel) (by decide +kernel)
set_option maxRecDepth 20000 in
theorem gX4_ends_X4_ages : GoodIn wsX4_ends (wsV RX4 49 RX4 yX4_ages wsX4_ages) := goodIn_app (goodIn_of _ (by decide +kernel)) ggX4_ends_X4_ages
theorem dX4_ends_0 : decode cX4_ends 0 = .ok (.iconst 0, 1) := by decide +kernel
theorem dX4_ends_1 : decode cX4_ends 1 = .ok (.istore_n 1, 1) := by decide +kernel
theorem dX4_ends_2 : decode cX4_ends 2 = .ok (.iload_n 1, 1) := by decide +kernel
theorem dX4_ends_3 : decode cX4_ends 3 = .ok (.aload_n 0, 1) := by decide +kernel
theorem dX4_ends_4 : decode cX4_ends 4 = .ok (.getfield 7, 3) := by decide +kernel
theorem dX4_ends_7 : decode cX4_ends 7 = .ok (.iconst 0, 1) := by decide +kernel
theorem dX4_ends_8 : decode cX4_ends 8 = .ok (.iaload, 1) := by decide +kernel
theorem dX4_ends_9 : decode cX4_ends 9 = .ok (.if_icmp .ge 14, 3) := by decide +kernel
theorem dX4_ends_12 : decode cX4_ends 12 = .ok (.aload_n 0, 1) := by decide +kernel
theorem dX4_ends_13 : decode cX4_ends 13 = .ok (.iload_n 1, 1) := by decide +kernel
theorem dX4_ends_14 : decode cX4_ends 14 = .ok (.invokevirtual 49, 3) := by decide +kernel
theorem dX4_ends_17 : decode cX4_ends 17 = .ok (.iinc 1 1, 3) := by decide +kernel
theorem dX4_ends_20 : decode cX4_ends 20 = .ok (.goto (-18), 3) := by decide +kernel
theorem dX4_ends_23 : decode cX4_ends 23 = .ok (.aload_n 0, 1) := by decide +kernel
theorem dX4_ends_24 : decode cX4_ends 24 = .ok (.getfield 7, 3) := by decide +kernel
theorem dX4_ends_27 : decode cX4_ends 27 = .ok (.iconst 1, 1) := by decide +kernel
theorem dX4_ends_28 : decode cX4_ends 28 = .ok (.dup2, 1) := by decide +kernel
theorem dX4_ends_29 : decode cX4_ends 29 = .ok (.iaload, 1) := by decide +kernel
theorem dX4_ends_30 : decode cX4_ends 30 = .ok (.iconst 1, 1) := by decide +kernel
theorem dX4_ends_31 : decode cX4_ends 31 = .ok (.iadd, 1) := by decide +kernel
theorem dX4_ends_32 : decode cX4_ends 32 = .ok (.iastore, 1) := by decide +kernel
theorem dX4_ends_33 : decode cX4_ends 33 = .ok (.aload_n 0, 1) := by decide +kernel
theorem dX4_ends_34 : decode cX4_ends 34 = .ok (.getfield 7, 3) := by decide +kernel
theorem dX4_ends_37 : decode cX4_ends 37 = .ok (.iconst 3, 1) := by decide +kernel
theorem dX4_ends_38 : decode cX4_ends 38 = .ok (.aload_n 0, 1) := by decide +kernel
theorem dX4_ends_39 : decode cX4_ends 39 = .ok (.getfield 7, 3) := by decide +kernel
theorem dX4_ends_42 : decode cX4_ends 42 = .ok (.bipush 11, 2) := by decide +kernel
theorem dX4_ends_44 : decode cX4_ends 44 = .ok (.iaload, 1) := by decide +kernel
theorem dX4_ends_45 : decode cX4_ends 45 = .ok (.iastore, 1) := by decide +kernel
theorem dX4_ends_46 : decode cX4_ends 46 = .ok (.return_, 1) := by decide +kernel
set_option maxRecDepth 20000 in
theorem ggX4_coldOnes_X4_isCold : GoodIn wsX4_coldOnes wsX4_isCold := goodIn_r _ [6, 1, 7, 8, 9, 5, 10, 11, 12, 13, 14, 15, 16, 17, 18, 19, 20, 21, 22, 23, 24, 25] (by decide +kernel) (by decide +kernel)
set_option maxRecDepth 20000 in
theorem gX4_coldOnes_X4_isCold : GoodIn wsX4_coldOnes (wsV RX4 45 RX4 yX4_isCold wsX4_isCold) := goodIn_app (goodIn_of _ (by decide +kernel)) ggX4_coldOnes_X4_isCold
theorem dX4_coldOnes_0 : decode cX4_coldOnes 0 = .ok (.iconst 0, 1) := by decide +kernel
theorem dX4_coldOnes_1 : decode cX4_coldOnes 1 = .ok (.istore_n 1, 1) := by decide +kernel
theorem dX4_coldOnes_2 : decode cX4_coldOnes 2 = .ok (.iconst 0, 1) := by decide +kernel
theorem dX4_coldOnes_3 : decode cX4_coldOnes 3 = .ok (.istore_n 2, 1) := by decide +kernel
theorem dX4_coldOnes_4 : decode cX4_coldOnes 4 = .ok (.iload_n 2, 1) := by decide +kernel
theorem dX4_coldOnes_5 : decode cX4_coldOnes 5 = .ok (.aload_n 0, 1) := by decide +kernel
theorem dX4_coldOnes_6 : decode cX4_coldOnes 6 = .ok (.getfield 7, 3) := by decide +kernel
theorem dX4_coldOnes_9 : decode cX4_coldOnes 9 = .ok (.iconst 0, 1) := by decide +kernel
theorem dX4_coldOnes_10 : decode cX4_coldOnes 10 = .ok (.iaload, 1) := by decide +kernel
theorem dX4_coldOnes_11 : decode cX4_coldOnes 11 = .ok (.if_icmp .ge 27, 3) := by decide +kernel
theorem dX4_coldOnes_14 : decode cX4_coldOnes 14 = .ok (.iload_n 1, 1) := by decide +kernel
theorem dX4_coldOnes_15 : decode cX4_coldOnes 15 = .ok (.aload_n 0, 1) := by decide +kernel
theorem dX4_coldOnes_16 : decode cX4_coldOnes 16 = .ok (.iload_n 2, 1) := by decide +kernel
theorem dX4_coldOnes_17 : decode cX4_coldOnes 17 = .ok (.invokevirtual 45, 3) := by decide +kernel
theorem dX4_coldOnes_20 : decode cX4_coldOnes 20 = .ok (.ifCond .eq 9, 3) := by decide +kernel
theorem dX4_coldOnes_23 : decode cX4_coldOnes 23 = .ok (.iconst 1, 1) := by decide +kernel
theorem dX4_coldOnes_24 : decode cX4_coldOnes 24 = .ok (.iload_n 2, 1) := by decide +kernel
theorem dX4_coldOnes_25 : decode cX4_coldOnes 25 = .ok (.ishl, 1) := by decide +kernel
theorem dX4_coldOnes_26 : decode cX4_coldOnes 26 = .ok (.goto 4, 3) := by decide +kernel
theorem dX4_coldOnes_29 : decode cX4_coldOnes 29 = .ok (.iconst 0, 1) := by decide +kernel
theorem dX4_coldOnes_30 : decode cX4_coldOnes 30 = .ok (.ior, 1) := by decide +kernel
theorem dX4_coldOnes_31 : decode cX4_coldOnes 31 = .ok (.istore_n 1, 1) := by decide +kernel
theorem dX4_coldOnes_32 : decode cX4_coldOnes 32 = .ok (.iinc 2 1, 3) := by decide +kernel
theorem dX4_coldOnes_35 : decode cX4_coldOnes 35 = .ok (.goto (-31), 3) := by decide +kernel
theorem dX4_coldOnes_38 : decode cX4_coldOnes 38 = .ok (.iload_n 1, 1) := by decide +kernel
theorem dX4_coldOnes_39 : decode cX4_coldOnes 39 = .ok (.ireturn, 1) := by decide +kernel
theorem dX4_ones_0 : decode cX4_ones 0 = .ok (.iconst 0, 1) := by decide +kernel
theorem dX4_ones_1 : decode cX4_ones 1 = .ok (.istore_n 1, 1) := by decide +kernel
theorem dX4_ones_2 : decode cX4_ones 2 = .ok (.iload_n 0, 1) := by decide +kernel
theorem dX4_ones_3 : decode cX4_ones 3 = .ok (.istore_n 2, 1) := by decide +kernel
theorem dX4_ones_4 : decode cX4_ones 4 = .ok (.iload_n 2, 1) := by decide +kernel
theorem dX4_ones_5 : decode cX4_ones 5 = .ok (.ifCond .eq 15, 3) := by decide +kernel
theorem dX4_ones_8 : decode cX4_ones 8 = .ok (.iinc 1 1, 3) := by decide +kernel
theorem dX4_ones_11 : decode cX4_ones 11 = .ok (.iload_n 2, 1) := by decide +kernel
theorem dX4_ones_12 : decode cX4_ones 12 = .ok (.iload_n 2, 1) := by decide +kernel
theorem dX4_ones_13 : decode cX4_ones 13 = .ok (.iconst 1, 1) := by decide +kernel
theorem dX4_ones_14 : decode cX4_ones 14 = .ok (.isub, 1) := by decide +kernel
theorem dX4_ones_15 : decode cX4_ones 15 = .ok (.iand, 1) := by decide +kernel
theorem dX4_ones_16 : decode cX4_ones 16 = .ok (.istore_n 2, 1) := by decide +kernel
theorem dX4_ones_17 : decode cX4_ones 17 = .ok (.goto (-13), 3) := by decide +kernel
theorem dX4_ones_20 : decode cX4_ones 20 = .ok (.iload_n 1, 1) := by decide +kernel
theorem dX4_ones_21 : decode cX4_ones 21 = .ok (.ireturn, 1) := by decide +kernel
set_option maxRecDepth 20000 in
theorem ggX4_smithy_X4_in : GoodIn wsX4_smithy wsX4_in := goodIn_r _ [7] (by decide +kernel) (by decide +kernel)
set_option maxRecDepth 20000 in
theorem gX4_smithy_X4_in : GoodIn wsX4_smithy (va_wsS RX4 53 yX4_in wsX4_in) := goodIn_app (goodIn_of _ (by decide +kernel)) ggX4_smithy_X4_in
set_option maxRecDepth 20000 in
theorem ggX4_smithy_X4_changes : GoodIn wsX4_smithy wsX4_changes := goodIn_r _ [11, 12, 13, 14, 2, 19, 20, 21, 22, 23, 24, 25, 26, 27, 28, 29, 30, 31, 32, 33] (by decide +kernel) (by decide +kernel)
set_option maxRecDepth 20000 in
theorem gX4_smithy_X4_changes : GoodIn wsX4_smithy (wsV RX4 59 RX4 yX4_changes wsX4_changes) := goodIn_app (goodIn_of _ (by decide +kernel)) ggX4_smithy_X4_changes
set_option maxRecDepth 20000 in
theorem ggX4_smithy_X4_sets : GoodIn wsX4_smithy wsX4_sets := goodIn_r _ [18, 2, 19, 20, 21, 22, 23, 24, 25, 26, 27, 28, 29, 30, 31, 32, 33] (by decide +kernel) (by decide +kernel)
set_option maxRecDepth 20000 in
theorem gX4_smithy_X4_sets : GoodIn wsX4_smithy (wsV RX4 37 RX4 yX4_sets wsX4_sets) := goodIn_app (goodIn_of _ (by decide +kernel)) ggX4_smithy_X4_sets
theorem dX4_smithy_0 : decode cX4_smithy 0 = .ok (.iload_n 1, 1) := by decide +kernel
theorem dX4_smithy_1 : decode cX4_smithy 1 = .ok (.iconst 0, 1) := by decide +kernel
theorem dX4_smithy_2 : decode cX4_smithy 2 = .ok (.bipush 99, 2) := by decide +kernel
theorem dX4_smithy_4 : decode cX4_smithy 4 = .ok (.invokestatic 53, 3) := by decide +kernel
theorem dX4_smithy_7 : decode cX4_smithy 7 = .ok (.ifCond .eq 13, 3) := by decide +kernel
theorem dX4_smithy_10 : decode cX4_smithy 10 = .ok (.iload_n 2, 1) := by decide +kernel
theorem dX4_smithy_11 : decode cX4_smithy 11 = .ok (.iconst 1, 1) := by decide +kernel
theorem dX4_smithy_12 : decode cX4_smithy 12 = .ok (.bipush 9, 2) := by decide +kernel
theorem dX4_smithy_14 : decode cX4_smithy 14 = .ok (.invokestatic 53, 3) := by decide +kernel
theorem dX4_smithy_17 : decode cX4_smithy 17 = .ok (.ifCond .ne 6, 3) := by decide +kernel
theorem dX4_smithy_20 : decode cX4_smithy 20 = .ok (.ldc 57, 2) := by decide +kernel
theorem dX4_smithy_22 : decode cX4_smithy 22 = .ok (.ireturn, 1) := by decide +kernel
theorem dX4_smithy_23 : decode cX4_smithy 23 = .ok (.aload_n 0, 1) := by decide +kernel
theorem dX4_smithy_24 : decode cX4_smithy 24 = .ok (.getfield 7, 3) := by decide +kernel
theorem dX4_smithy_27 : decode cX4_smithy 27 = .ok (.iconst 0, 1) := by decide +kernel
theorem dX4_smithy_28 : decode cX4_smithy 28 = .ok (.iaload, 1) := by decide +kernel
theorem dX4_smithy_29 : decode cX4_smithy 29 = .ok (.istore_n 3, 1) := by decide +kernel
theorem dX4_smithy_30 : decode cX4_smithy 30 = .ok (.iload_n 3, 1) := by decide +kernel
theorem dX4_smithy_31 : decode cX4_smithy 31 = .ok (.bipush 8, 2) := by decide +kernel
theorem dX4_smithy_33 : decode cX4_smithy 33 = .ok (.if_icmp .ne 6, 3) := by decide +kernel
theorem dX4_smithy_36 : decode cX4_smithy 36 = .ok (.ldc 58, 2) := by decide +kernel
theorem dX4_smithy_38 : decode cX4_smithy 38 = .ok (.ireturn, 1) := by decide +kernel
theorem dX4_smithy_39 : decode cX4_smithy 39 = .ok (.aload_n 0, 1) := by decide +kernel
theorem dX4_smithy_40 : decode cX4_smithy 40 = .ok (.invokevirtual 59, 3) := by decide +kernel
theorem dX4_smithy_43 : decode cX4_smithy 43 = .ok (.iconst 0, 1) := by decide +kernel
theorem dX4_smithy_44 : decode cX4_smithy 44 = .ok (.istore 4, 2) := by decide +kernel
theorem dX4_smithy_46 : decode cX4_smithy 46 = .ok (.iload 4, 2) := by decide +kernel
theorem dX4_smithy_48 : decode cX4_smithy 48 = .ok (.bipush 8, 2) := by decide +kernel
theorem dX4_smithy_50 : decode cX4_smithy 50 = .ok (.if_icmp .ge 17, 3) := by decide +kernel
theorem dX4_smithy_53 : decode cX4_smithy 53 = .ok (.aload_n 0, 1) := by decide +kernel
theorem dX4_smithy_54 : decode cX4_smithy 54 = .ok (.iload_n 3, 1) := by decide +kernel
theorem dX4_smithy_55 : decode cX4_smithy 55 = .ok (.iload 4, 2) := by decide +kernel
theorem dX4_smithy_57 : decode cX4_smithy 57 = .ok (.iconst 0, 1) := by decide +kernel
theorem dX4_smithy_58 : decode cX4_smithy 58 = .ok (.invokevirtual 37, 3) := by decide +kernel
theorem dX4_smithy_61 : decode cX4_smithy 61 = .ok (.iinc 4 1, 3) := by decide +kernel
theorem dX4_smithy_64 : decode cX4_smithy 64 = .ok (.goto (-18), 3) := by decide +kernel
theorem dX4_smithy_67 : decode cX4_smithy 67 = .ok (.aload_n 0, 1) := by decide +kernel
theorem dX4_smithy_68 : decode cX4_smithy 68 = .ok (.iload_n 3, 1) := by decide +kernel
theorem dX4_smithy_69 : decode cX4_smithy 69 = .ok (.iconst 0, 1) := by decide +kernel
theorem dX4_smithy_70 : decode cX4_smithy 70 = .ok (.iload_n 1, 1) := by decide +kernel
theorem dX4_smithy_71 : decode cX4_smithy 71 = .ok (.invokevirtual 37, 3) := by decide +kernel
theorem dX4_smithy_74 : decode cX4_smithy 74 = .ok (.aload_n 0, 1) := by decide +kernel
theorem dX4_smithy_75 : decode cX4_smithy 75 = .ok (.iload_n 3, 1) := by decide +kernel
theorem dX4_smithy_76 : decode cX4_smithy 76 = .ok (.iconst 1, 1) := by decide +kernel
theorem dX4_smithy_77 : decode cX4_smithy 77 = .ok (.iload_n 2, 1) := by decide +kernel
theorem dX4_smithy_78 : decode cX4_smithy 78 = .ok (.invokevirtual 37, 3) := by decide +kernel
theorem dX4_smithy_81 : decode cX4_smithy 81 = .ok (.aload_n 0, 1) := by decide +kernel
theorem dX4_smithy_82 : decode cX4_smithy 82 = .ok (.iload_n 3, 1) := by decide +kernel
theorem dX4_smithy_83 : decode cX4_smithy 83 = .ok (.iconst 3, 1) := by decide +kernel
theorem dX4_smithy_84 : decode cX4_smithy 84 = .ok (.bipush 100, 2) := by decide +kernel
theorem dX4_smithy_86 : decode cX4_smithy 86 = .ok (.invokevirtual 37, 3) := by decide +kernel
theorem dX4_smithy_89 : decode cX4_smithy 89 = .ok (.aload_n 0, 1) := by decide +kernel
theorem dX4_smithy_90 : decode cX4_smithy 90 = .ok (.getfield 7, 3) := by decide +kernel
theorem dX4_smithy_93 : decode cX4_smithy 93 = .ok (.iconst 0, 1) := by decide +kernel
theorem dX4_smithy_94 : decode cX4_smithy 94 = .ok (.dup2, 1) := by decide +kernel
theorem dX4_smithy_95 : decode cX4_smithy 95 = .ok (.iaload, 1) := by decide +kernel
theorem dX4_smithy_96 : decode cX4_smithy 96 = .ok (.iconst 1, 1) := by decide +kernel
theorem dX4_smithy_97 : decode cX4_smithy 97 = .ok (.iadd, 1) := by decide +kernel
theorem dX4_smithy_98 : decode cX4_smithy 98 = .ok (.iastore, 1) := by decide +kernel
theorem dX4_smithy_99 : decode cX4_smithy 99 = .ok (.iload_n 3, 1) := by decide +kernel
theorem dX4_smithy_100 : decode cX4_smithy 100 = .ok (.ireturn, 1) := by decide +kernel
set_option maxRecDepth 20000 in
theorem ggX4_hoursBetween_X4_size : GoodIn wsX4_hoursBetween wsX4_size := goodIn_r _ [4] (by decide +kernel) (by decide +kernel)
set_option maxRecDepth 20000 in
theorem gX4_hoursBetween_X4_size : GoodIn wsX4_hoursBetween (va_wsS RX4 62 yX4_size wsX4_size) := goodIn_app (goodIn_of _ (by decide +kernel)) ggX4_hoursBetween_X4_size
set_option maxRecDepth 20000 in
theorem ggX4_hoursBetween_X4_tens : GoodIn wsX4_hoursBetween wsX4_tens := goodIn_r _ [7] (by decide +kernel) (by decide +kernel)
set_option maxRecDepth 20000 in
theorem gX4_hoursBetween_X4_tens : GoodIn wsX4_hoursBetween (va_wsS RX4 65 yX4_tens wsX4_tens) := goodIn_app (goodIn_of _ (by decide +kernel)) ggX4_hoursBetween_X4_tens
theorem dX4_hoursBetween_0 : decode cX4_hoursBetween 0 = .ok (.iload_n 0, 1) := by decide +kernel
theorem dX4_hoursBetween_1 : decode cX4_hoursBetween 1 = .ok (.iload_n 1, 1) := by decide +kernel
theorem dX4_hoursBetween_2 : decode cX4_hoursBetween 2 = .ok (.isub, 1) := by decide +kernel
theorem dX4_hoursBetween_3 : decode cX4_hoursBetween 3 = .ok (.invokestatic 62, 3) := by decide +kernel
theorem dX4_hoursBetween_6 : decode cX4_hoursBetween 6 = .ok (.invokestatic 65, 3) := by decide +kernel
theorem dX4_hoursBetween_9 : decode cX4_hoursBetween 9 = .ok (.ireturn, 1) := by decide +kernel
set_option maxRecDepth 20000 in
theorem ggX4_walk_X4_in : GoodIn wsX4_walk wsX4_in := goodIn_r _ [7] (by decide +kernel) (by decide +kernel)
set_option maxRecDepth 20000 in
theorem gX4_walk_X4_in : GoodIn wsX4_walk (va_wsS RX4 53 yX4_in wsX4_in) := goodIn_app (goodIn_of _ (by decide +kernel)) ggX4_walk_X4_in
set_option maxRecDepth 20000 in
theorem ggX4_walk_X4_hoursBetween : GoodIn wsX4_walk wsX4_hoursBetween := goodIn_r _ [10, 11, 12, 6, 13, 14, 15, 16] (by decide +kernel) (by decide +kernel)
set_option maxRecDepth 20000 in
theorem gX4_walk_X4_hoursBetween : GoodIn wsX4_walk (va_wsS RX4 68 yX4_hoursBetween wsX4_hoursBetween) := goodIn_app (goodIn_of _ (by decide +kernel)) ggX4_walk_X4_hoursBetween
set_option maxRecDepth 20000 in
theorem ggX4_walk_X4_changes : GoodIn wsX4_walk wsX4_changes := goodIn_r _ [20, 21, 22, 23, 2, 24, 25, 26, 27, 28, 29, 30, 31, 32, 33, 34, 35, 36, 37, 38] (by decide +kernel) (by decide +kernel)
set_option maxRecDepth 20000 in
theorem gX4_walk_X4_changes : GoodIn wsX4_walk (wsV RX4 59 RX4 yX4_changes wsX4_changes) := goodIn_app (goodIn_of _ (by decide +kernel)) ggX4_walk_X4_changes
set_option maxRecDepth 20000 in
theorem ggX4_walk_X4_size : GoodIn wsX4_walk wsX4_size := goodIn_r _ [13] (by decide +kernel) (by decide +kernel)
set_option maxRecDepth 20000 in
theorem gX4_walk_X4_size : GoodIn wsX4_walk (va_wsS RX4 62 yX4_size wsX4_size) := goodIn_app (goodIn_of _ (by decide +kernel)) ggX4_walk_X4_size
theorem dX4_walk_0 : decode cX4_walk 0 = .ok (.iload_n 1, 1) := by decide +kernel
theorem dX4_walk_1 : decode cX4_walk 1 = .ok (.iconst 0, 1) := by decide +kernel
theorem dX4_walk_2 : decode cX4_walk 2 = .ok (.bipush 99, 2) := by decide +kernel
theorem dX4_walk_4 : decode cX4_walk 4 = .ok (.invokestatic 53, 3) := by decide +kernel
theorem dX4_walk_7 : decode cX4_walk 7 = .ok (.ifCond .ne 6, 3) := by decide +kernel
theorem dX4_walk_10 : decode cX4_walk 10 = .ok (.ldc 57, 2) := by decide +kernel
theorem dX4_walk_12 : decode cX4_walk 12 = .ok (.ireturn, 1) := by decide +kernel
theorem dX4_walk_13 : decode cX4_walk 13 = .ok (.aload_n 0, 1) := by decide +kernel
theorem dX4_walk_14 : decode cX4_walk 14 = .ok (.getfield 7, 3) := by decide +kernel
theorem dX4_walk_17 : decode cX4_walk 17 = .ok (.iconst 2, 1) := by decide +kernel
theorem dX4_walk_18 : decode cX4_walk 18 = .ok (.iaload, 1) := by decide +kernel
theorem dX4_walk_19 : decode cX4_walk 19 = .ok (.iload_n 1, 1) := by decide +kernel
theorem dX4_walk_20 : decode cX4_walk 20 = .ok (.invokestatic 68, 3) := by decide +kernel
theorem dX4_walk_23 : decode cX4_walk 23 = .ok (.istore_n 2, 1) := by decide +kernel
theorem dX4_walk_24 : decode cX4_walk 24 = .ok (.iload_n 2, 1) := by decide +kernel
theorem dX4_walk_25 : decode cX4_walk 25 = .ok (.aload_n 0, 1) := by decide +kernel
theorem dX4_walk_26 : decode cX4_walk 26 = .ok (.getfield 7, 3) := by decide +kernel
theorem dX4_walk_29 : decode cX4_walk 29 = .ok (.iconst 3, 1) := by decide +kernel
theorem dX4_walk_30 : decode cX4_walk 30 = .ok (.iaload, 1) := by decide +kernel
theorem dX4_walk_31 : decode cX4_walk 31 = .ok (.if_icmp .le 6, 3) := by decide +kernel
theorem dX4_walk_34 : decode cX4_walk 34 = .ok (.ldc 71, 2) := by decide +kernel
theorem dX4_walk_36 : decode cX4_walk 36 = .ok (.ireturn, 1) := by decide +kernel
theorem dX4_walk_37 : decode cX4_walk 37 = .ok (.aload_n 0, 1) := by decide +kernel
theorem dX4_walk_38 : decode cX4_walk 38 = .ok (.invokevirtual 59, 3) := by decide +kernel
theorem dX4_walk_41 : decode cX4_walk 41 = .ok (.aload_n 0, 1) := by decide +kernel
theorem dX4_walk_42 : decode cX4_walk 42 = .ok (.getfield 7, 3) := by decide +kernel
theorem dX4_walk_45 : decode cX4_walk 45 = .ok (.iconst 3, 1) := by decide +kernel
theorem dX4_walk_46 : decode cX4_walk 46 = .ok (.dup2, 1) := by decide +kernel
theorem dX4_walk_47 : decode cX4_walk 47 = .ok (.iaload, 1) := by decide +kernel
theorem dX4_walk_48 : decode cX4_walk 48 = .ok (.iload_n 2, 1) := by decide +kernel
theorem dX4_walk_49 : decode cX4_walk 49 = .ok (.isub, 1) := by decide +kernel
theorem dX4_walk_50 : decode cX4_walk 50 = .ok (.iastore, 1) := by decide +kernel
theorem dX4_walk_51 : decode cX4_walk 51 = .ok (.aload_n 0, 1) := by decide +kernel
theorem dX4_walk_52 : decode cX4_walk 52 = .ok (.getfield 7, 3) := by decide +kernel
theorem dX4_walk_55 : decode cX4_walk 55 = .ok (.bipush 9, 2) := by decide +kernel
theorem dX4_walk_57 : decode cX4_walk 57 = .ok (.dup2, 1) := by decide +kernel
theorem dX4_walk_58 : decode cX4_walk 58 = .ok (.iaload, 1) := by decide +kernel
theorem dX4_walk_59 : decode cX4_walk 59 = .ok (.aload_n 0, 1) := by decide +kernel
theorem dX4_walk_60 : decode cX4_walk 60 = .ok (.getfield 7, 3) := by decide +kernel
theorem dX4_walk_63 : decode cX4_walk 63 = .ok (.iconst 2, 1) := by decide +kernel
theorem dX4_walk_64 : decode cX4_walk 64 = .ok (.iaload, 1) := by decide +kernel
theorem dX4_walk_65 : decode cX4_walk 65 = .ok (.iload_n 1, 1) := by decide +kernel
theorem dX4_walk_66 : decode cX4_walk 66 = .ok (.isub, 1) := by decide +kernel
theorem dX4_walk_67 : decode cX4_walk 67 = .ok (.invokestatic 62, 3) := by decide +kernel
theorem dX4_walk_70 : decode cX4_walk 70 = .ok (.iadd, 1) := by decide +kernel
theorem dX4_walk_71 : decode cX4_walk 71 = .ok (.iastore, 1) := by decide +kernel
theorem dX4_walk_72 : decode cX4_walk 72 = .ok (.aload_n 0, 1) := by decide +kernel
theorem dX4_walk_73 : decode cX4_walk 73 = .ok (.getfield 7, 3) := by decide +kernel
theorem dX4_walk_76 : decode cX4_walk 76 = .ok (.iconst 2, 1) := by decide +kernel
theorem dX4_walk_77 : decode cX4_walk 77 = .ok (.iload_n 1, 1) := by decide +kernel
theorem dX4_walk_78 : decode cX4_walk 78 = .ok (.iastore, 1) := by decide +kernel
theorem dX4_walk_79 : decode cX4_walk 79 = .ok (.aload_n 0, 1) := by decide +kernel
theorem dX4_walk_80 : decode cX4_walk 80 = .ok (.getfield 7, 3) := by decide +kernel
theorem dX4_walk_83 : decode cX4_walk 83 = .ok (.iconst 3, 1) := by decide +kernel
theorem dX4_walk_84 : decode cX4_walk 84 = .ok (.iaload, 1) := by decide +kernel
theorem dX4_walk_85 : decode cX4_walk 85 = .ok (.ireturn, 1) := by decide +kernel
set_option maxRecDepth 20000 in
theorem ggX4_buy_X4_in : GoodIn wsX4_buy wsX4_in := goodIn_r _ [8] (by decide +kernel) (by decide +kernel)
set_option maxRecDepth 20000 in
theorem gX4_buy_X4_in : GoodIn wsX4_buy (va_wsS RX4 53 yX4_in wsX4_in) := goodIn_app (goodIn_of _ (by decide +kernel)) ggX4_buy_X4_in
set_option maxRecDepth 20000 in
theorem ggX4_buy_X4_changes : GoodIn wsX4_buy wsX4_changes := goodIn_r _ [12, 13, 14, 15, 2, 16, 17, 18, 19, 20, 21, 22, 23, 24, 25, 26, 27, 28, 29, 30] (by decide +kernel) (by decide +kernel)
set_option maxRecDepth 20000 in
theorem gX4_buy_X4_changes : GoodIn wsX4_buy (wsV RX4 59 RX4 yX4_changes wsX4_changes) := goodIn_app (goodIn_of _ (by decide +kernel)) ggX4_buy_X4_changes
theorem dX4_buy_0 : decode cX4_buy 0 = .ok (.iload_n 1, 1) := by decide +kernel
theorem dX4_buy_1 : decode cX4_buy 1 = .ok (.iconst 1, 1) := by decide +kernel
theorem dX4_buy_2 : decode cX4_buy 2 = .ok (.sipush 999, 3) := by decide +kernel
theorem dX4_buy_5 : decode cX4_buy 5 = .ok (.invokestatic 53, 3) := by decide +kernel
theorem dX4_buy_8 : decode cX4_buy 8 = .ok (.ifCond .ne 6, 3) := by decide +kernel
theorem dX4_buy_11 : decode cX4_buy 11 = .ok (.ldc 57, 2) := by decide +kernel
theorem dX4_buy_13 : decode cX4_buy 13 = .ok (.ireturn, 1) := by decide +kernel
theorem dX4_buy_14 : decode cX4_buy 14 = .ok (.aload_n 0, 1) := by decide +kernel
theorem dX4_buy_15 : decode cX4_buy 15 = .ok (.getfield 7, 3) := by decide +kernel
theorem dX4_buy_18 : decode cX4_buy 18 = .ok (.iconst 2, 1) := by decide +kernel
theorem dX4_buy_19 : decode cX4_buy 19 = .ok (.iaload, 1) := by decide +kernel
theorem dX4_buy_20 : decode cX4_buy 20 = .ok (.ifCond .eq 6, 3) := by decide +kernel
theorem dX4_buy_23 : decode cX4_buy 23 = .ok (.ldc 71, 2) := by decide +kernel
theorem dX4_buy_25 : decode cX4_buy 25 = .ok (.ireturn, 1) := by decide +kernel
theorem dX4_buy_26 : decode cX4_buy 26 = .ok (.aload_n 0, 1) := by decide +kernel
theorem dX4_buy_27 : decode cX4_buy 27 = .ok (.getfield 7, 3) := by decide +kernel
theorem dX4_buy_30 : decode cX4_buy 30 = .ok (.iconst 4, 1) := by decide +kernel
theorem dX4_buy_31 : decode cX4_buy 31 = .ok (.iaload, 1) := by decide +kernel
theorem dX4_buy_32 : decode cX4_buy 32 = .ok (.iload_n 1, 1) := by decide +kernel
theorem dX4_buy_33 : decode cX4_buy 33 = .ok (.iadd, 1) := by decide +kernel
theorem dX4_buy_34 : decode cX4_buy 34 = .ok (.sipush 999, 3) := by decide +kernel
theorem dX4_buy_37 : decode cX4_buy 37 = .ok (.if_icmp .le 6, 3) := by decide +kernel
theorem dX4_buy_40 : decode cX4_buy 40 = .ok (.ldc 58, 2) := by decide +kernel
theorem dX4_buy_42 : decode cX4_buy 42 = .ok (.ireturn, 1) := by decide +kernel
theorem dX4_buy_43 : decode cX4_buy 43 = .ok (.aload_n 0, 1) := by decide +kernel
theorem dX4_buy_44 : decode cX4_buy 44 = .ok (.invokevirtual 59, 3) := by decide +kernel
theorem dX4_buy_47 : decode cX4_buy 47 = .ok (.aload_n 0, 1) := by decide +kernel
theorem dX4_buy_48 : decode cX4_buy 48 = .ok (.getfield 7, 3) := by decide +kernel
theorem dX4_buy_51 : decode cX4_buy 51 = .ok (.iconst 4, 1) := by decide +kernel
theorem dX4_buy_52 : decode cX4_buy 52 = .ok (.dup2, 1) := by decide +kernel
theorem dX4_buy_53 : decode cX4_buy 53 = .ok (.iaload, 1) := by decide +kernel
theorem dX4_buy_54 : decode cX4_buy 54 = .ok (.iload_n 1, 1) := by decide +kernel
theorem dX4_buy_55 : decode cX4_buy 55 = .ok (.iadd, 1) := by decide +kernel
theorem dX4_buy_56 : decode cX4_buy 56 = .ok (.iastore, 1) := by decide +kernel
theorem dX4_buy_57 : decode cX4_buy 57 = .ok (.aload_n 0, 1) := by decide +kernel
theorem dX4_buy_58 : decode cX4_buy 58 = .ok (.getfield 7, 3) := by decide +kernel
theorem dX4_buy_61 : decode cX4_buy 61 = .ok (.iconst 5, 1) := by decide +kernel
theorem dX4_buy_62 : decode cX4_buy 62 = .ok (.dup2, 1) := by decide +kernel
theorem dX4_buy_63 : decode cX4_buy 63 = .ok (.iaload, 1) := by decide +kernel
theorem dX4_buy_64 : decode cX4_buy 64 = .ok (.iconst 2, 1) := by decide +kernel
theorem dX4_buy_65 : decode cX4_buy 65 = .ok (.iload_n 1, 1) := by decide +kernel
theorem dX4_buy_66 : decode cX4_buy 66 = .ok (.imul, 1) := by decide +kernel
theorem dX4_buy_67 : decode cX4_buy 67 = .ok (.isub, 1) := by decide +kernel
theorem dX4_buy_68 : decode cX4_buy 68 = .ok (.iastore, 1) := by decide +kernel
theorem dX4_buy_69 : decode cX4_buy 69 = .ok (.aload_n 0, 1) := by decide +kernel
theorem dX4_buy_70 : decode cX4_buy 70 = .ok (.getfield 7, 3) := by decide +kernel
theorem dX4_buy_73 : decode cX4_buy 73 = .ok (.bipush 6, 2) := by decide +kernel
theorem dX4_buy_75 : decode cX4_buy 75 = .ok (.dup2, 1) := by decide +kernel
theorem dX4_buy_76 : decode cX4_buy 76 = .ok (.iaload, 1) := by decide +kernel
theorem dX4_buy_77 : decode cX4_buy 77 = .ok (.iconst 2, 1) := by decide +kernel
theorem dX4_buy_78 : decode cX4_buy 78 = .ok (.iload_n 1, 1) := by decide +kernel
theorem dX4_buy_79 : decode cX4_buy 79 = .ok (.imul, 1) := by decide +kernel
theorem dX4_buy_80 : decode cX4_buy 80 = .ok (.iadd, 1) := by decide +kernel
theorem dX4_buy_81 : decode cX4_buy 81 = .ok (.iastore, 1) := by decide +kernel
theorem dX4_buy_82 : decode cX4_buy 82 = .ok (.aload_n 0, 1) := by decide +kernel
theorem dX4_buy_83 : decode cX4_buy 83 = .ok (.getfield 7, 3) := by decide +kernel
theorem dX4_buy_86 : decode cX4_buy 86 = .ok (.iconst 4, 1) := by decide +kernel
theorem dX4_buy_87 : decode cX4_buy 87 = .ok (.iaload, 1) := by decide +kernel
theorem dX4_buy_88 : decode cX4_buy 88 = .ok (.ireturn, 1) := by decide +kernel
theorem dX4_hoursOf_0 : decode cX4_hoursOf 0 = .ok (.iload_n 0, 1) := by decide +kernel
theorem dX4_hoursOf_1 : decode cX4_hoursOf 1 = .ok (.iconst 1, 1) := by decide +kernel
theorem dX4_hoursOf_2 : decode cX4_hoursOf 2 = .ok (.if_icmp .ne 7, 3) := by decide +kernel
theorem dX4_hoursOf_5 : decode cX4_hoursOf 5 = .ok (.iconst 3, 1) := by decide +kernel
theorem dX4_hoursOf_6 : decode cX4_hoursOf 6 = .ok (.goto 4, 3) := by decide +kernel
theorem dX4_hoursOf_9 : decode cX4_hoursOf 9 = .ok (.iconst 1, 1) := by decide +kernel
theorem dX4_hoursOf_10 : decode cX4_hoursOf 10 = .ok (.ireturn, 1) := by decide +kernel
set_option maxRecDepth 20000 in
theorem ggX4_leatherOf_X4_of : GoodIn wsX4_leatherOf wsX4_of := goodIn_r _ [5, 6, 10, 11, 12, 13, 14, 15, 16, 17, 18, 19, 20, 21, 22, 23, 24] (by decide +kernel) (by decide +kernel)
set_option maxRecDepth 20000 in
theorem gX4_leatherOf_X4_of : GoodIn wsX4_leatherOf (wsV RX4 33 RX4 yX4_of wsX4_of) := goodIn_app (goodIn_of _ (by decide +kernel)) ggX4_leatherOf_X4_of
set_option maxRecDepth 20000 in
theorem ggX4_leatherOf_X4_tens : GoodIn wsX4_leatherOf wsX4_tens := goodIn_r _ [9] (by decide +kernel) (by decide +kernel)
set_option maxRecDepth 20000 in
theorem gX4_leatherOf_X4_tens : GoodIn wsX4_leatherOf (va_wsS RX4 65 yX4_tens wsX4_tens) := goodIn_app (goodIn_of _ (by decide +kernel)) ggX4_leatherOf_X4_tens
theorem dX4_leatherOf_0 : decode cX4_leatherOf 0 = .ok (.iload_n 2, 1) := by decide +kernel
theorem dX4_leatherOf_1 : decode cX4_leatherOf 1 = .ok (.iconst 1, 1) := by decide +kernel
theorem dX4_leatherOf_2 : decode cX4_leatherOf 2 = .ok (.if_icmp .ne 14, 3) := by decide +kernel
theorem dX4_leatherOf_5 : decode cX4_leatherOf 5 = .ok (.iconst 4, 1) := by decide +kernel
theorem dX4_leatherOf_6 : decode cX4_leatherOf 6 = .ok (.aload_n 0, 1) := by decide +kernel
theorem dX4_leatherOf_7 : decode cX4_leatherOf 7 = .ok (.iload_n 1, 1) := by decide +kernel
theorem dX4_leatherOf_8 : decode cX4_leatherOf 8 = .ok (.iconst 1, 1) := by decide +kernel
theorem dX4_leatherOf_9 : decode cX4_leatherOf 9 = .ok (.invokevirtual 33, 3) := by decide +kernel
theorem dX4_leatherOf_12 : decode cX4_leatherOf 12 = .ok (.imul, 1) := by decide +kernel
theorem dX4_leatherOf_13 : decode cX4_leatherOf 13 = .ok (.goto 12, 3) := by decide +kernel
theorem dX4_leatherOf_16 : decode cX4_leatherOf 16 = .ok (.aload_n 0, 1) := by decide +kernel
theorem dX4_leatherOf_17 : decode cX4_leatherOf 17 = .ok (.iload_n 1, 1) := by decide +kernel
theorem dX4_leatherOf_18 : decode cX4_leatherOf 18 = .ok (.iconst 2, 1) := by decide +kernel
theorem dX4_leatherOf_19 : decode cX4_leatherOf 19 = .ok (.invokevirtual 33, 3) := by decide +kernel
theorem dX4_leatherOf_22 : decode cX4_leatherOf 22 = .ok (.invokestatic 65, 3) := by decide +kernel
theorem dX4_leatherOf_25 : decode cX4_leatherOf 25 = .ok (.ireturn, 1) := by decide +kernel
set_option maxRecDepth 20000 in
theorem ggX4_owes_X4_hoursOf : GoodIn wsX4_owes wsX4_hoursOf := goodIn_r _ [5] (by decide +kernel) (by decide +kernel)
set_option maxRecDepth 20000 in
theorem gX4_owes_X4_hoursOf : GoodIn wsX4_owes (va_wsS RX4 72 yX4_hoursOf wsX4_hoursOf) := goodIn_app (goodIn_of _ (by decide +kernel)) ggX4_owes_X4_hoursOf
set_option maxRecDepth 20000 in
theorem ggX4_owes_X4_leatherOf : GoodIn wsX4_owes wsX4_leatherOf := goodIn_r _ [9, 10, 11, 12, 4, 13, 1, 14, 15, 16, 17, 18, 19, 20, 21, 22, 23, 24, 25, 26, 27, 28, 29, 30, 31] (by decide +kernel) (by decide +kernel)
set_option maxRecDepth 20000 in
theorem gX4_owes_X4_leatherOf : GoodIn wsX4_owes (wsV RX4 75 RX4 yX4_leatherOf wsX4_leatherOf) := goodIn_app (goodIn_of _ (by decide +kernel)) ggX4_owes_X4_leatherOf
theorem dX4_owes_0 : decode cX4_owes 0 = .ok (.aload_n 0, 1) := by decide +kernel
theorem dX4_owes_1 : decode cX4_owes 1 = .ok (.getfield 7, 3) := by decide +kernel
theorem dX4_owes_4 : decode cX4_owes 4 = .ok (.bipush 12, 2) := by decide +kernel
theorem dX4_owes_6 : decode cX4_owes 6 = .ok (.iaload, 1) := by decide +kernel
theorem dX4_owes_7 : decode cX4_owes 7 = .ok (.iload_n 2, 1) := by decide +kernel
theorem dX4_owes_8 : decode cX4_owes 8 = .ok (.invokestatic 72, 3) := by decide +kernel
theorem dX4_owes_11 : decode cX4_owes 11 = .ok (.imul, 1) := by decide +kernel
theorem dX4_owes_12 : decode cX4_owes 12 = .ok (.iconst 3, 1) := by decide +kernel
theorem dX4_owes_13 : decode cX4_owes 13 = .ok (.aload_n 0, 1) := by decide +kernel
theorem dX4_owes_14 : decode cX4_owes 14 = .ok (.iload_n 1, 1) := by decide +kernel
theorem dX4_owes_15 : decode cX4_owes 15 = .ok (.iload_n 2, 1) := by decide +kernel
theorem dX4_owes_16 : decode cX4_owes 16 = .ok (.invokevirtual 75, 3) := by decide +kernel
theorem dX4_owes_19 : decode cX4_owes 19 = .ok (.imul, 1) := by decide +kernel
theorem dX4_owes_20 : decode cX4_owes 20 = .ok (.iadd, 1) := by decide +kernel
theorem dX4_owes_21 : decode cX4_owes 21 = .ok (.ireturn, 1) := by decide +kernel
set_option maxRecDepth 20000 in
theorem ggX4_whyNot_X4_of : GoodIn wsX4_whyNot wsX4_of := goodIn_r _ [6, 1, 17, 18, 19, 20, 21, 22, 23, 24, 25, 26, 27, 28, 29, 30, 31] (by decide +kernel) (by decide +kernel)
set_option maxRecDepth 20000 in
theorem gX4_whyNot_X4_of : GoodIn wsX4_whyNot (wsV RX4 33 RX4 yX4_of wsX4_of) := goodIn_app (goodIn_of _ (by decide +kernel)) ggX4_whyNot_X4_of
set_option maxRecDepth 20000 in
theorem ggX4_whyNot_X4_hoursOf : GoodIn wsX4_whyNot wsX4_hoursOf := goodIn_r _ [9] (by decide +kernel) (by decide +kernel)
set_option maxRecDepth 20000 in
theorem gX4_whyNot_X4_hoursOf : GoodIn wsX4_whyNot (va_wsS RX4 72 yX4_hoursOf wsX4_hoursOf) := goodIn_app (goodIn_of _ (by decide +kernel)) ggX4_whyNot_X4_hoursOf
set_option maxRecDepth 20000 in
theorem ggX4_whyNot_X4_leatherOf : GoodIn wsX4_whyNot wsX4_leatherOf := goodIn_r _ [13, 2, 3, 4, 5, 6, 1, 14, 15, 16, 17, 18, 19, 20, 21, 22, 23, 24, 25, 26, 27, 28, 29, 30, 31] (by decide +kernel) (by decide +kernel)
set_option maxRecDepth 20000 in
theorem gX4_whyNot_X4_leatherOf : GoodIn wsX4_whyNot (wsV RX4 75 RX4 yX4_leatherOf wsX4_leatherOf) := goodIn_app (goodIn_of _ (by decide +kernel)) ggX4_whyNot_X4_leatherOf
theorem dX4_whyNot_0 : decode cX4_whyNot 0 = .ok (.aload_n 0, 1) := by decide +kernel
theorem dX4_whyNot_1 : decode cX4_whyNot 1 = .ok (.getfield 7, 3) := by decide +kernel
theorem dX4_whyNot_4 : decode cX4_whyNot 4 = .ok (.iconst 2, 1) := by decide +kernel
theorem dX4_whyNot_5 : decode cX4_whyNot 5 = .ok (.iaload, 1) := by decide +kernel
theorem dX4_whyNot_6 : decode cX4_whyNot 6 = .ok (.aload_n 0, 1) := by decide +kernel
theorem dX4_whyNot_7 : decode cX4_whyNot 7 = .ok (.iload_n 1, 1) := by decide +kernel
theorem dX4_whyNot_8 : decode cX4_whyNot 8 = .ok (.iconst 0, 1) := by decide +kernel
theorem dX4_whyNot_9 : decode cX4_whyNot 9 = .ok (.invokevirtual 33, 3) := by decide +kernel
theorem dX4_whyNot_12 : decode cX4_whyNot 12 = .ok (.if_icmp .eq 5, 3) := by decide +kernel
theorem dX4_whyNot_15 : decode cX4_whyNot 15 = .ok (.iconst 1, 1) := by decide +kernel
theorem dX4_whyNot_16 : decode cX4_whyNot 16 = .ok (.ireturn, 1) := by decide +kernel
theorem dX4_whyNot_17 : decode cX4_whyNot 17 = .ok (.aload_n 0, 1) := by decide +kernel
theorem dX4_whyNot_18 : decode cX4_whyNot 18 = .ok (.getfield 7, 3) := by decide +kernel
theorem dX4_whyNot_21 : decode cX4_whyNot 21 = .ok (.iconst 3, 1) := by decide +kernel
theorem dX4_whyNot_22 : decode cX4_whyNot 22 = .ok (.iaload, 1) := by decide +kernel
theorem dX4_whyNot_23 : decode cX4_whyNot 23 = .ok (.iload_n 2, 1) := by decide +kernel
theorem dX4_whyNot_24 : decode cX4_whyNot 24 = .ok (.invokestatic 72, 3) := by decide +kernel
theorem dX4_whyNot_27 : decode cX4_whyNot 27 = .ok (.if_icmp .ge 5, 3) := by decide +kernel
theorem dX4_whyNot_30 : decode cX4_whyNot 30 = .ok (.iconst 2, 1) := by decide +kernel
theorem dX4_whyNot_31 : decode cX4_whyNot 31 = .ok (.ireturn, 1) := by decide +kernel
theorem dX4_whyNot_32 : decode cX4_whyNot 32 = .ok (.aload_n 0, 1) := by decide +kernel
theorem dX4_whyNot_33 : decode cX4_whyNot 33 = .ok (.getfield 7, 3) := by decide +kernel
theorem dX4_whyNot_36 : decode cX4_whyNot 36 = .ok (.iconst 4, 1) := by decide +kernel
theorem dX4_whyNot_37 : decode cX4_whyNot 37 = .ok (.iaload, 1) := by decide +kernel
theorem dX4_whyNot_38 : decode cX4_whyNot 38 = .ok (.aload_n 0, 1) := by decide +kernel
theorem dX4_whyNot_39 : decode cX4_whyNot 39 = .ok (.iload_n 1, 1) := by decide +kernel
theorem dX4_whyNot_40 : decode cX4_whyNot 40 = .ok (.iload_n 2, 1) := by decide +kernel
theorem dX4_whyNot_41 : decode cX4_whyNot 41 = .ok (.invokevirtual 75, 3) := by decide +kernel
theorem dX4_whyNot_44 : decode cX4_whyNot 44 = .ok (.if_icmp .ge 5, 3) := by decide +kernel
theorem dX4_whyNot_47 : decode cX4_whyNot 47 = .ok (.iconst 3, 1) := by decide +kernel
theorem dX4_whyNot_48 : decode cX4_whyNot 48 = .ok (.ireturn, 1) := by decide +kernel
theorem dX4_whyNot_49 : decode cX4_whyNot 49 = .ok (.aload_n 0, 1) := by decide +kernel
theorem dX4_whyNot_50 : decode cX4_whyNot 50 = .ok (.iload_n 1, 1) := by decide +kernel
theorem dX4_whyNot_51 : decode cX4_whyNot 51 = .ok (.iconst 5, 1) := by decide +kernel
theorem dX4_whyNot_52 : decode cX4_whyNot 52 = .ok (.invokevirtual 33, 3) := by decide +kernel
theorem dX4_whyNot_55 : decode cX4_whyNot 55 = .ok (.aload_n 0, 1) := by decide +kernel
theorem dX4_whyNot_56 : decode cX4_whyNot 56 = .ok (.getfield 7, 3) := by decide +kernel
theorem dX4_whyNot_59 : decode cX4_whyNot 59 = .ok (.bipush 13, 2) := by decide +kernel
theorem dX4_whyNot_61 : decode cX4_whyNot 61 = .ok (.iaload, 1) := by decide +kernel
theorem dX4_whyNot_62 : decode cX4_whyNot 62 = .ok (.if_icmp .le 7, 3) := by decide +kernel
theorem dX4_whyNot_65 : decode cX4_whyNot 65 = .ok (.iconst 4, 1) := by decide +kernel
theorem dX4_whyNot_66 : decode cX4_whyNot 66 = .ok (.goto 17, 3) := by decide +kernel
theorem dX4_whyNot_69 : decode cX4_whyNot 69 = .ok (.aload_n 0, 1) := by decide +kernel
theorem dX4_whyNot_70 : decode cX4_whyNot 70 = .ok (.iload_n 1, 1) := by decide +kernel
theorem dX4_whyNot_71 : decode cX4_whyNot 71 = .ok (.iconst 2, 1) := by decide +kernel
theorem dX4_whyNot_72 : decode cX4_whyNot 72 = .ok (.invokevirtual 33, 3) := by decide +kernel
theorem dX4_whyNot_75 : decode cX4_whyNot 75 = .ok (.ifCond .ne 7, 3) := by decide +kernel
theorem dX4_whyNot_78 : decode cX4_whyNot 78 = .ok (.iconst 5, 1) := by decide +kernel
theorem dX4_whyNot_79 : decode cX4_whyNot 79 = .ok (.goto 4, 3) := by decide +kernel
theorem dX4_whyNot_82 : decode cX4_whyNot 82 = .ok (.iconst 0, 1) := by decide +kernel
theorem dX4_whyNot_83 : decode cX4_whyNot 83 = .ok (.ireturn, 1) := by decide +kernel
set_option maxRecDepth 20000 in
theorem ggX4_mends_X4_owes : GoodIn wsX4_mends wsX4_owes := goodIn_r _ [6, 1, 7, 8, 5, 9, 10, 11, 12, 13, 14, 15, 16, 17, 18, 19, 20, 25, 26, 27, 28, 29, 30, 31, 32, 33, 34, 35, 36, 37, 38, 39] (by decide +kernel) (by decide +kernel)
set_option maxRecDepth 20000 in
theorem gX4_mends_X4_owes : GoodIn wsX4_mends (wsV RX4 78 RX4 yX4_owes wsX4_owes) := goodIn_app (goodIn_of _ (by decide +kernel)) ggX4_mends_X4_owes
set_option maxRecDepth 20000 in
theorem ggX4_mends_X4_hoursOf : GoodIn wsX4_mends wsX4_hoursOf := goodIn_r _ [9] (by decide +kernel) (by decide +kernel)
set_option maxRecDepth 20000 in
theorem gX4_mends_X4_hoursOf : GoodIn wsX4_mends (va_wsS RX4 72 yX4_hoursOf wsX4_hoursOf) := goodIn_app (goodIn_of _ (by decide +kernel)) ggX4_mends_X4_hoursOf
set_option maxRecDepth 20000 in
theorem ggX4_mends_X4_leatherOf : GoodIn wsX4_mends wsX4_leatherOf := goodIn_r _ [13, 14, 15, 16, 5, 17, 1, 18, 19, 20, 25, 26, 27, 28, 29, 30, 31, 32, 33, 34, 35, 36, 37, 38, 39] (by decide +kernel) (by decide +kernel)
set_option maxRecDepth 20000 in
theorem gX4_mends_X4_leatherOf : GoodIn wsX4_mends (wsV RX4 75 RX4 yX4_leatherOf wsX4_leatherOf) := goodIn_app (goodIn_of _ (by decide +kernel)) ggX4_mends_X4_leatherOf
set_option maxRecDepth 20000 in
theorem ggX4_mends_X4_of : GoodIn wsX4_mends wsX4_of := goodIn_r _ [17, 1, 25, 26, 27, 28, 29, 30, 31, 32, 33, 34, 35, 36, 37, 38, 39] (by decide +kernel) (by decide +kernel)
set_option maxRecDepth 20000 in
theorem gX4_mends_X4_of : GoodIn wsX4_mends (wsV RX4 33 RX4 yX4_of wsX4_of) := goodIn_app (goodIn_of _ (by decide +kernel)) ggX4_mends_X4_of
set_option maxRecDepth 20000 in
theorem ggX4_mends_X4_sets : GoodIn wsX4_mends wsX4_sets := goodIn_r _ [24, 1, 25, 26, 27, 28, 29, 30, 31, 32, 33, 34, 35, 36, 37, 38, 39] (by decide +kernel) (by decide +kernel)
set_option maxRecDepth 20000 in
theorem gX4_mends_X4_sets : GoodIn wsX4_mends (wsV RX4 37 RX4 yX4_sets wsX4_sets) := goodIn_app (goodIn_of _ (by decide +kernel)) ggX4_mends_X4_sets
theorem dX4_mends_0 : decode cX4_mends 0 = .ok (.aload_n 0, 1) := by decide +kernel
theorem dX4_mends_1 : decode cX4_mends 1 = .ok (.iload_n 1, 1) := by decide +kernel
theorem dX4_mends_2 : decode cX4_mends 2 = .ok (.iload_n 2, 1) := by decide +kernel
theorem dX4_mends_3 : decode cX4_mends 3 = .ok (.invokevirtual 78, 3) := by decide +kernel
theorem dX4_mends_6 : decode cX4_mends 6 = .ok (.istore_n 3, 1) := by decide +kernel
theorem dX4_mends_7 : decode cX4_mends 7 = .ok (.aload_n 0, 1) := by decide +kernel
theorem dX4_mends_8 : decode cX4_mends 8 = .ok (.getfield 7, 3) := by decide +kernel
theorem dX4_mends_11 : decode cX4_mends 11 = .ok (.iconst 3, 1) := by decide +kernel
theorem dX4_mends_12 : decode cX4_mends 12 = .ok (.dup2, 1) := by decide +kernel
theorem dX4_mends_13 : decode cX4_mends 13 = .ok (.iaload, 1) := by decide +kernel
theorem dX4_mends_14 : decode cX4_mends 14 = .ok (.iload_n 2, 1) := by decide +kernel
theorem dX4_mends_15 : decode cX4_mends 15 = .ok (.invokestatic 72, 3) := by decide +kernel
theorem dX4_mends_18 : decode cX4_mends 18 = .ok (.isub, 1) := by decide +kernel
theorem dX4_mends_19 : decode cX4_mends 19 = .ok (.iastore, 1) := by decide +kernel
theorem dX4_mends_20 : decode cX4_mends 20 = .ok (.aload_n 0, 1) := by decide +kernel
theorem dX4_mends_21 : decode cX4_mends 21 = .ok (.getfield 7, 3) := by decide +kernel
theorem dX4_mends_24 : decode cX4_mends 24 = .ok (.iconst 4, 1) := by decide +kernel
theorem dX4_mends_25 : decode cX4_mends 25 = .ok (.dup2, 1) := by decide +kernel
theorem dX4_mends_26 : decode cX4_mends 26 = .ok (.iaload, 1) := by decide +kernel
theorem dX4_mends_27 : decode cX4_mends 27 = .ok (.aload_n 0, 1) := by decide +kernel
theorem dX4_mends_28 : decode cX4_mends 28 = .ok (.iload_n 1, 1) := by decide +kernel
theorem dX4_mends_29 : decode cX4_mends 29 = .ok (.iload_n 2, 1) := by decide +kernel
theorem dX4_mends_30 : decode cX4_mends 30 = .ok (.invokevirtual 75, 3) := by decide +kernel
theorem dX4_mends_33 : decode cX4_mends 33 = .ok (.isub, 1) := by decide +kernel
theorem dX4_mends_34 : decode cX4_mends 34 = .ok (.iastore, 1) := by decide +kernel
theorem dX4_mends_35 : decode cX4_mends 35 = .ok (.aload_n 0, 1) := by decide +kernel
theorem dX4_mends_36 : decode cX4_mends 36 = .ok (.getfield 7, 3) := by decide +kernel
theorem dX4_mends_39 : decode cX4_mends 39 = .ok (.bipush 7, 2) := by decide +kernel
theorem dX4_mends_41 : decode cX4_mends 41 = .ok (.dup2, 1) := by decide +kernel
theorem dX4_mends_42 : decode cX4_mends 42 = .ok (.iaload, 1) := by decide +kernel
theorem dX4_mends_43 : decode cX4_mends 43 = .ok (.iload_n 3, 1) := by decide +kernel
theorem dX4_mends_44 : decode cX4_mends 44 = .ok (.iadd, 1) := by decide +kernel
theorem dX4_mends_45 : decode cX4_mends 45 = .ok (.iastore, 1) := by decide +kernel
theorem dX4_mends_46 : decode cX4_mends 46 = .ok (.aload_n 0, 1) := by decide +kernel
theorem dX4_mends_47 : decode cX4_mends 47 = .ok (.iload_n 1, 1) := by decide +kernel
theorem dX4_mends_48 : decode cX4_mends 48 = .ok (.iconst 5, 1) := by decide +kernel
theorem dX4_mends_49 : decode cX4_mends 49 = .ok (.aload_n 0, 1) := by decide +kernel
theorem dX4_mends_50 : decode cX4_mends 50 = .ok (.iload_n 1, 1) := by decide +kernel
theorem dX4_mends_51 : decode cX4_mends 51 = .ok (.iconst 5, 1) := by decide +kernel
theorem dX4_mends_52 : decode cX4_mends 52 = .ok (.invokevirtual 33, 3) := by decide +kernel
theorem dX4_mends_55 : decode cX4_mends 55 = .ok (.iload_n 3, 1) := by decide +kernel
theorem dX4_mends_56 : decode cX4_mends 56 = .ok (.iadd, 1) := by decide +kernel
theorem dX4_mends_57 : decode cX4_mends 57 = .ok (.invokevirtual 37, 3) := by decide +kernel
theorem dX4_mends_60 : decode cX4_mends 60 = .ok (.aload_n 0, 1) := by decide +kernel
theorem dX4_mends_61 : decode cX4_mends 61 = .ok (.iload_n 1, 1) := by decide +kernel
theorem dX4_mends_62 : decode cX4_mends 62 = .ok (.bipush 7, 2) := by decide +kernel
theorem dX4_mends_64 : decode cX4_mends 64 = .ok (.aload_n 0, 1) := by decide +kernel
theorem dX4_mends_65 : decode cX4_mends 65 = .ok (.iload_n 1, 1) := by decide +kernel
theorem dX4_mends_66 : decode cX4_mends 66 = .ok (.bipush 7, 2) := by decide +kernel
theorem dX4_mends_68 : decode cX4_mends 68 = .ok (.invokevirtual 33, 3) := by decide +kernel
theorem dX4_mends_71 : decode cX4_mends 71 = .ok (.iconst 1, 1) := by decide +kernel
theorem dX4_mends_72 : decode cX4_mends 72 = .ok (.iadd, 1) := by decide +kernel
theorem dX4_mends_73 : decode cX4_mends 73 = .ok (.invokevirtual 37, 3) := by decide +kernel
theorem dX4_mends_76 : decode cX4_mends 76 = .ok (.aload_n 0, 1) := by decide +kernel
theorem dX4_mends_77 : decode cX4_mends 77 = .ok (.iload_n 1, 1) := by decide +kernel
theorem dX4_mends_78 : decode cX4_mends 78 = .ok (.iconst 2, 1) := by decide +kernel
theorem dX4_mends_79 : decode cX4_mends 79 = .ok (.iload_n 2, 1) := by decide +kernel
theorem dX4_mends_80 : decode cX4_mends 80 = .ok (.iconst 1, 1) := by decide +kernel
theorem dX4_mends_81 : decode cX4_mends 81 = .ok (.if_icmp .ne 7, 3) := by decide +kernel
theorem dX4_mends_84 : decode cX4_mends 84 = .ok (.iconst 0, 1) := by decide +kernel
theorem dX4_mends_85 : decode cX4_mends 85 = .ok (.goto 11, 3) := by decide +kernel
theorem dX4_mends_88 : decode cX4_mends 88 = .ok (.aload_n 0, 1) := by decide +kernel
theorem dX4_mends_89 : decode cX4_mends 89 = .ok (.iload_n 1, 1) := by decide +kernel
theorem dX4_mends_90 : decode cX4_mends 90 = .ok (.iconst 2, 1) := by decide +kernel
theorem dX4_mends_91 : decode cX4_mends 91 = .ok (.invokevirtual 33, 3) := by decide +kernel
theorem dX4_mends_94 : decode cX4_mends 94 = .ok (.iconst 3, 1) := by decide +kernel
theorem dX4_mends_95 : decode cX4_mends 95 = .ok (.idiv, 1) := by decide +kernel
theorem dX4_mends_96 : decode cX4_mends 96 = .ok (.invokevirtual 37, 3) := by decide +kernel
theorem dX4_mends_99 : decode cX4_mends 99 = .ok (.return_, 1) := by decide +kernel
set_option maxRecDepth 20000 in
theorem ggX4_patch_X4_isSmithy : GoodIn wsX4_patch wsX4_isSmithy := goodIn_r _ [7, 8, 46, 47, 48, 49, 50, 51, 52, 53, 54, 55, 56, 57, 58, 59, 60] (by decide +kernel) (by decide +kernel)
set_option maxRecDepth 20000 in
theorem gX4_patch_X4_isSmithy : GoodIn wsX4_patch (wsV RX4 81 RX4 yX4_isSmithy wsX4_isSmithy) := goodIn_app (goodIn_of _ (by decide +kernel)) ggX4_patch_X4_isSmithy
set_option maxRecDepth 20000 in
theorem ggX4_patch_X4_whyNot : GoodIn wsX4_patch wsX4_whyNot := goodIn_r _ [12, 8, 13, 14, 15, 6, 16, 17, 18, 19, 20, 21, 22, 23, 24, 25, 26, 46, 47, 48, 49, 50, 51, 52, 53, 54, 55, 56, 57, 58, 59, 60] (by decide +kernel) (by decide +kernel)
set_option maxRecDepth 20000 in
theorem gX4_patch_X4_whyNot : GoodIn wsX4_patch (wsV RX4 84 RX4 yX4_whyNot wsX4_whyNot) := goodIn_app (goodIn_of _ (by decide +kernel)) ggX4_patch_X4_whyNot
set_option maxRecDepth 20000 in
theorem ggX4_patch_X4_changes : GoodIn wsX4_patch wsX4_changes := goodIn_r _ [30, 31, 32, 33, 8, 46, 47, 48, 49, 50, 51, 52, 53, 54, 55, 56, 57, 58, 59, 60] (by decide +kernel) (by decide +kernel)
set_option maxRecDepth 20000 in
theorem gX4_patch_X4_changes : GoodIn wsX4_patch (wsV RX4 59 RX4 yX4_changes wsX4_changes) := goodIn_app (goodIn_of _ (by decide +kernel)) ggX4_patch_X4_changes
set_option maxRecDepth 20000 in
theorem ggX4_patch_X4_mends : GoodIn wsX4_patch wsX4_mends := goodIn_r _ [37, 8, 38, 39, 40, 6, 41, 17, 18, 19, 20, 21, 22, 23, 13, 14, 15, 16, 24, 25, 26, 42, 43, 44, 45, 46, 47, 48, 49, 50, 51, 52, 53, 54, 55, 56, 57, 58, 59, 60] (by decide +kernel) (by decide +kernel)
set_option maxRecDepth 20000 in
theorem gX4_patch_X4_mends : GoodIn wsX4_patch (wsV RX4 87 RX4 yX4_mends wsX4_mends) := goodIn_app (goodIn_of _ (by decide +kernel)) ggX4_patch_X4_mends
set_option maxRecDepth 20000 in
theorem ggX4_patch_X4_of : GoodIn wsX4_patch wsX4_of := goodIn_r _ [16, 8, 46, 47, 48, 49, 50, 51, 52, 53, 54, 55, 56, 57, 58, 59, 60] (by decide +kernel) (by decide +kernel)
set_option maxRecDepth 20000 in
theorem gX4_patch_X4_of : GoodIn wsX4_patch (wsV RX4 33 RX4 yX4_of wsX4_of) := goodIn_app (goodIn_of _ (by decide +kernel)) ggX4_patch_X4_of
theorem dX4_patch_0 : decode cX4_patch 0 = .ok (.aload_n 0, 1) := by decide +kernel
theorem dX4_patch_1 : decode cX4_patch 1 = .ok (.iload_n 1, 1) := by decide +kernel
theorem dX4_patch_2 : decode cX4_patch 2 = .ok (.invokevirtual 81, 3) := by decide +kernel
theorem dX4_patch_5 : decode cX4_patch 5 = .ok (.ifCond .ne 6, 3) := by decide +kernel
theorem dX4_patch_8 : decode cX4_patch 8 = .ok (.ldc 57, 2) := by decide +kernel
theorem dX4_patch_10 : decode cX4_patch 10 = .ok (.ireturn, 1) := by decide +kernel
theorem dX4_patch_11 : decode cX4_patch 11 = .ok (.aload_n 0, 1) := by decide +kernel
theorem dX4_patch_12 : decode cX4_patch 12 = .ok (.iload_n 1, 1) := by decide +kernel
theorem dX4_patch_13 : decode cX4_patch 13 = .ok (.iconst 0, 1) := by decide +kernel
theorem dX4_patch_14 : decode cX4_patch 14 = .ok (.invokevirtual 84, 3) := by decide +kernel
theorem dX4_patch_17 : decode cX4_patch 17 = .ok (.ifCond .eq 6, 3) := by decide +kernel
theorem dX4_patch_20 : decode cX4_patch 20 = .ok (.ldc 71, 2) := by decide +kernel
theorem dX4_patch_22 : decode cX4_patch 22 = .ok (.ireturn, 1) := by decide +kernel
theorem dX4_patch_23 : decode cX4_patch 23 = .ok (.aload_n 0, 1) := by decide +kernel
theorem dX4_patch_24 : decode cX4_patch 24 = .ok (.invokevirtual 59, 3) := by decide +kernel
theorem dX4_patch_27 : decode cX4_patch 27 = .ok (.aload_n 0, 1) := by decide +kernel
theorem dX4_patch_28 : decode cX4_patch 28 = .ok (.iload_n 1, 1) := by decide +kernel
theorem dX4_patch_29 : decode cX4_patch 29 = .ok (.iconst 0, 1) := by decide +kernel
theorem dX4_patch_30 : decode cX4_patch 30 = .ok (.invokevirtual 87, 3) := by decide +kernel
theorem dX4_patch_33 : decode cX4_patch 33 = .ok (.aload_n 0, 1) := by decide +kernel
theorem dX4_patch_34 : decode cX4_patch 34 = .ok (.iload_n 1, 1) := by decide +kernel
theorem dX4_patch_35 : decode cX4_patch 35 = .ok (.iconst 2, 1) := by decide +kernel
theorem dX4_patch_36 : decode cX4_patch 36 = .ok (.invokevirtual 33, 3) := by decide +kernel
theorem dX4_patch_39 : decode cX4_patch 39 = .ok (.ireturn, 1) := by decide +kernel
set_option maxRecDepth 20000 in
theorem ggX4_hide_X4_isSmithy : GoodIn wsX4_hide wsX4_isSmithy := goodIn_r _ [7, 8, 46, 47, 48, 49, 50, 51, 52, 53, 54, 55, 56, 57, 58, 59, 60] (by decide +kernel) (by decide +kernel)
set_option maxRecDepth 20000 in
theorem gX4_hide_X4_isSmithy : GoodIn wsX4_hide (wsV RX4 81 RX4 yX4_isSmithy wsX4_isSmithy) := goodIn_app (goodIn_of _ (by decide +kernel)) ggX4_hide_X4_isSmithy
set_option maxRecDepth 20000 in
theorem ggX4_hide_X4_whyNot : GoodIn wsX4_hide wsX4_whyNot := goodIn_r _ [12, 8, 13, 14, 15, 6, 16, 17, 18, 19, 20, 21, 22, 23, 24, 25, 26, 46, 47, 48, 49, 50, 51, 52, 53, 54, 55, 56, 57, 58, 59, 60] (by decide +kernel) (by decide +kernel)
set_option maxRecDepth 20000 in
theorem gX4_hide_X4_whyNot : GoodIn wsX4_hide (wsV RX4 84 RX4 yX4_whyNot wsX4_whyNot) := goodIn_app (goodIn_of _ (by decide +kernel)) ggX4_hide_X4_whyNot
set_option maxRecDepth 20000 in
theorem ggX4_hide_X4_changes : GoodIn wsX4_hide wsX4_changes := goodIn_r _ [30, 31, 32, 33, 8, 46, 47, 48, 49, 50, 51, 52, 53, 54, 55, 56, 57, 58, 59, 60] (by decide +kernel) (by decide +kernel)
set_option maxRecDepth 20000 in
theorem gX4_hide_X4_changes : GoodIn wsX4_hide (wsV RX4 59 RX4 yX4_changes wsX4_changes) := goodIn_app (goodIn_of _ (by decide +kernel)) ggX4_hide_X4_changes
set_option maxRecDepth 20000 in
theorem ggX4_hide_X4_mends : GoodIn wsX4_hide wsX4_mends := goodIn_r _ [37, 8, 38, 39, 40, 6, 41, 17, 18, 19, 20, 21, 22, 23, 13, 14, 15, 16, 24, 25, 26, 42, 43, 44, 45, 46, 47, 48, 49, 50, 51, 52, 53, 54, 55, 56, 57, 58, 59, 60] (by decide +kernel) (by decide +kernel)
set_option maxRecDepth 20000 in
theorem gX4_hide_X4_mends : GoodIn wsX4_hide (wsV RX4 87 RX4 yX4_mends wsX4_mends) := goodIn_app (goodIn_of _ (by decide +kernel)) ggX4_hide_X4_mends
set_option maxRecDepth 20000 in
theorem ggX4_hide_X4_of : GoodIn wsX4_hide wsX4_of := goodIn_r _ [16, 8, 46, 47, 48, 49, 50, 51, 52, 53, 54, 55, 56, 57, 58, 59, 60] (by decide +kernel) (by decide +kernel)
set_option maxRecDepth 20000 in
theorem gX4_hide_X4_of : GoodIn wsX4_hide (wsV RX4 33 RX4 yX4_of wsX4_of) := goodIn_app (goodIn_of _ (by decide +kernel)) ggX4_hide_X4_of
theorem dX4_hide_0 : decode cX4_hide 0 = .ok (.aload_n 0, 1) := by decide +kernel
theorem dX4_hide_1 : decode cX4_hide 1 = .ok (.iload_n 1, 1) := by decide +kernel
theorem dX4_hide_2 : decode cX4_hide 2 = .ok (.invokevirtual 81, 3) := by decide +kernel
theorem dX4_hide_5 : decode cX4_hide 5 = .ok (.ifCond .ne 6, 3) := by decide +kernel
theorem dX4_hide_8 : decode cX4_hide 8 = .ok (.ldc 57, 2) := by decide +kernel
theorem dX4_hide_10 : decode cX4_hide 10 = .ok (.ireturn, 1) := by decide +kernel
theorem dX4_hide_11 : decode cX4_hide 11 = .ok (.aload_n 0, 1) := by decide +kernel
theorem dX4_hide_12 : decode cX4_hide 12 = .ok (.iload_n 1, 1) := by decide +kernel
theorem dX4_hide_13 : decode cX4_hide 13 = .ok (.iconst 1, 1) := by decide +kernel
theorem dX4_hide_14 : decode cX4_hide 14 = .ok (.invokevirtual 84, 3) := by decide +kernel
theorem dX4_hide_17 : decode cX4_hide 17 = .ok (.ifCond .eq 6, 3) := by decide +kernel
theorem dX4_hide_20 : decode cX4_hide 20 = .ok (.ldc 71, 2) := by decide +kernel
theorem dX4_hide_22 : decode cX4_hide 22 = .ok (.ireturn, 1) := by decide +kernel
theorem dX4_hide_23 : decode cX4_hide 23 = .ok (.aload_n 0, 1) := by decide +kernel
theorem dX4_hide_24 : decode cX4_hide 24 = .ok (.invokevirtual 59, 3) := by decide +kernel
theorem dX4_hide_27 : decode cX4_hide 27 = .ok (.aload_n 0, 1) := by decide +kernel
theorem dX4_hide_28 : decode cX4_hide 28 = .ok (.iload_n 1, 1) := by decide +kernel
theorem dX4_hide_29 : decode cX4_hide 29 = .ok (.iconst 1, 1) := by decide +kernel
theorem dX4_hide_30 : decode cX4_hide 30 = .ok (.invokevirtual 87, 3) := by decide +kernel
theorem dX4_hide_33 : decode cX4_hide 33 = .ok (.aload_n 0, 1) := by decide +kernel
theorem dX4_hide_34 : decode cX4_hide 34 = .ok (.iload_n 1, 1) := by decide +kernel
theorem dX4_hide_35 : decode cX4_hide 35 = .ok (.iconst 5, 1) := by decide +kernel
theorem dX4_hide_36 : decode cX4_hide 36 = .ok (.invokevirtual 33, 3) := by decide +kernel
theorem dX4_hide_39 : decode cX4_hide 39 = .ok (.ireturn, 1) := by decide +kernel
set_option maxRecDepth 20000 in
theorem ggX4_collect_X4_isSmithy : GoodIn wsX4_collect wsX4_isSmithy := goodIn_r _ [8, 2, 28, 29, 30, 31, 32, 33, 34, 35, 36, 37, 38, 39, 40, 41, 42] (by decide +kernel) (by decide +kernel)
set_option maxRecDepth 20000 in
theorem gX4_collect_X4_isSmithy : GoodIn wsX4_collect (wsV RX4 81 RX4 yX4_isSmithy wsX4_isSmithy) := goodIn_app (goodIn_of _ (by decide +kernel)) ggX4_collect_X4_isSmithy
set_option maxRecDepth 20000 in
theorem ggX4_collect_X4_of : GoodIn wsX4_collect wsX4_of := goodIn_r _ [12, 2, 28, 29, 30, 31, 32, 33, 34, 35, 36, 37, 38, 39, 40, 41, 42] (by decide +kernel) (by decide +kernel)
set_option maxRecDepth 20000 in
theorem gX4_collect_X4_of : GoodIn wsX4_collect (wsV RX4 33 RX4 yX4_of wsX4_of) := goodIn_app (goodIn_of _ (by decide +kernel)) ggX4_collect_X4_of
set_option maxRecDepth 20000 in
theorem ggX4_collect_X4_changes : GoodIn wsX4_collect wsX4_changes := goodIn_r _ [16, 17, 18, 19, 2, 28, 29, 30, 31, 32, 33, 34, 35, 36, 37, 38, 39, 40, 41, 42] (by decide +kernel) (by decide +kernel)
set_option maxRecDepth 20000 in
theorem gX4_collect_X4_changes : GoodIn wsX4_collect (wsV RX4 59 RX4 yX4_changes wsX4_changes) := goodIn_app (goodIn_of _ (by decide +kernel)) ggX4_collect_X4_changes
set_option maxRecDepth 20000 in
theorem ggX4_collect_X4_isCold : GoodIn wsX4_collect wsX4_isCold := goodIn_r _ [23, 2, 9, 10, 11, 7, 12, 28, 29, 30, 31, 32, 33, 34, 35, 36, 37, 38, 39, 40, 41, 42] (by decide +kernel) (by decide +kernel)
set_option maxRecDepth 20000 in
theorem gX4_collect_X4_isCold : GoodIn wsX4_collect (wsV RX4 45 RX4 yX4_isCold wsX4_isCold) := goodIn_app (goodIn_of _ (by decide +kernel)) ggX4_collect_X4_isCold
set_option maxRecDepth 20000 in
theorem ggX4_collect_X4_sets : GoodIn wsX4_collect wsX4_sets := goodIn_r _ [27, 2, 28, 29, 30, 31, 32, 33, 34, 35, 36, 37, 38, 39, 40, 41, 42] (by decide +kernel) (by decide +kernel)
set_option maxRecDepth 20000 in
theorem gX4_collect_X4_sets : GoodIn wsX4_collect (wsV RX4 37 RX4 yX4_sets wsX4_sets) := goodIn_app (goodIn_of _ (by decide +kernel)) ggX4_collect_X4_sets
theorem dX4_collect_0 : decode cX4_collect 0 = .ok (.aload_n 0, 1) := by decide +kernel
theorem dX4_collect_1 : decode cX4_collect 1 = .ok (.iload_n 1, 1) := by decide +kernel
theorem dX4_collect_2 : decode cX4_collect 2 = .ok (.invokevirtual 81, 3) := by decide +kernel
theorem dX4_collect_5 : decode cX4_collect 5 = .ok (.ifCond .ne 6, 3) := by decide +kernel
theorem dX4_collect_8 : decode cX4_collect 8 = .ok (.ldc 57, 2) := by decide +kernel
theorem dX4_collect_10 : decode cX4_collect 10 = .ok (.ireturn, 1) := by decide +kernel
theorem dX4_collect_11 : decode cX4_collect 11 = .ok (.aload_n 0, 1) := by decide +kernel
theorem dX4_collect_12 : decode cX4_collect 12 = .ok (.getfield 7, 3) := by decide +kernel
theorem dX4_collect_15 : decode cX4_collect 15 = .ok (.iconst 2, 1) := by decide +kernel
theorem dX4_collect_16 : decode cX4_collect 16 = .ok (.iaload, 1) := by decide +kernel
theorem dX4_collect_17 : decode cX4_collect 17 = .ok (.aload_n 0, 1) := by decide +kernel
theorem dX4_collect_18 : decode cX4_collect 18 = .ok (.iload_n 1, 1) := by decide +kernel
theorem dX4_collect_19 : decode cX4_collect 19 = .ok (.iconst 0, 1) := by decide +kernel
theorem dX4_collect_20 : decode cX4_collect 20 = .ok (.invokevirtual 33, 3) := by decide +kernel
theorem dX4_collect_23 : decode cX4_collect 23 = .ok (.if_icmp .ne 12, 3) := by decide +kernel
theorem dX4_collect_26 : decode cX4_collect 26 = .ok (.aload_n 0, 1) := by decide +kernel
theorem dX4_collect_27 : decode cX4_collect 27 = .ok (.iload_n 1, 1) := by decide +kernel
theorem dX4_collect_28 : decode cX4_collect 28 = .ok (.iconst 5, 1) := by decide +kernel
theorem dX4_collect_29 : decode cX4_collect 29 = .ok (.invokevirtual 33, 3) := by decide +kernel
theorem dX4_collect_32 : decode cX4_collect 32 = .ok (.ifCond .ne 6, 3) := by decide +kernel
theorem dX4_collect_35 : decode cX4_collect 35 = .ok (.ldc 71, 2) := by decide +kernel
theorem dX4_collect_37 : decode cX4_collect 37 = .ok (.ireturn, 1) := by decide +kernel
theorem dX4_collect_38 : decode cX4_collect 38 = .ok (.aload_n 0, 1) := by decide +kernel
theorem dX4_collect_39 : decode cX4_collect 39 = .ok (.invokevirtual 59, 3) := by decide +kernel
theorem dX4_collect_42 : decode cX4_collect 42 = .ok (.aload_n 0, 1) := by decide +kernel
theorem dX4_collect_43 : decode cX4_collect 43 = .ok (.iload_n 1, 1) := by decide +kernel
theorem dX4_collect_44 : decode cX4_collect 44 = .ok (.invokevirtual 45, 3) := by decide +kernel
theorem dX4_collect_47 : decode cX4_collect 47 = .ok (.ifCond .eq 14, 3) := by decide +kernel
theorem dX4_collect_50 : decode cX4_collect 50 = .ok (.aload_n 0, 1) := by decide +kernel
theorem dX4_collect_51 : decode cX4_collect 51 = .ok (.iload_n 1, 1) := by decide +kernel
theorem dX4_collect_52 : decode cX4_collect 52 = .ok (.iconst 5, 1) := by decide +kernel
theorem dX4_collect_53 : decode cX4_collect 53 = .ok (.invokevirtual 33, 3) := by decide +kernel
theorem dX4_collect_56 : decode cX4_collect 56 = .ok (.iconst 2, 1) := by decide +kernel
theorem dX4_collect_57 : decode cX4_collect 57 = .ok (.idiv, 1) := by decide +kernel
theorem dX4_collect_58 : decode cX4_collect 58 = .ok (.goto 9, 3) := by decide +kernel
theorem dX4_collect_61 : decode cX4_collect 61 = .ok (.aload_n 0, 1) := by decide +kernel
theorem dX4_collect_62 : decode cX4_collect 62 = .ok (.iload_n 1, 1) := by decide +kernel
theorem dX4_collect_63 : decode cX4_collect 63 = .ok (.iconst 5, 1) := by decide +kernel
theorem dX4_collect_64 : decode cX4_collect 64 = .ok (.invokevirtual 33, 3) := by decide +kernel
theorem dX4_collect_67 : decode cX4_collect 67 = .ok (.istore_n 2, 1) := by decide +kernel
theorem dX4_collect_68 : decode cX4_collect 68 = .ok (.aload_n 0, 1) := by decide +kernel
theorem dX4_collect_69 : decode cX4_collect 69 = .ok (.iload_n 1, 1) := by decide +kernel
theorem dX4_collect_70 : decode cX4_collect 70 = .ok (.iconst 5, 1) := by decide +kernel
theorem dX4_collect_71 : decode cX4_collect 71 = .ok (.aload_n 0, 1) := by decide +kernel
theorem dX4_collect_72 : decode cX4_collect 72 = .ok (.iload_n 1, 1) := by decide +kernel
theorem dX4_collect_73 : decode cX4_collect 73 = .ok (.iconst 5, 1) := by decide +kernel
theorem dX4_collect_74 : decode cX4_collect 74 = .ok (.invokevirtual 33, 3) := by decide +kernel
theorem dX4_collect_77 : decode cX4_collect 77 = .ok (.iload_n 2, 1) := by decide +kernel
theorem dX4_collect_78 : decode cX4_collect 78 = .ok (.isub, 1) := by decide +kernel
theorem dX4_collect_79 : decode cX4_collect 79 = .ok (.invokevirtual 37, 3) := by decide +kernel
theorem dX4_collect_82 : decode cX4_collect 82 = .ok (.aload_n 0, 1) := by decide +kernel
theorem dX4_collect_83 : decode cX4_collect 83 = .ok (.iload_n 1, 1) := by decide +kernel
theorem dX4_collect_84 : decode cX4_collect 84 = .ok (.bipush 6, 2) := by decide +kernel
theorem dX4_collect_86 : decode cX4_collect 86 = .ok (.aload_n 0, 1) := by decide +kernel
theorem dX4_collect_87 : decode cX4_collect 87 = .ok (.iload_n 1, 1) := by decide +kernel
theorem dX4_collect_88 : decode cX4_collect 88 = .ok (.bipush 6, 2) := by decide +kernel
theorem dX4_collect_90 : decode cX4_collect 90 = .ok (.invokevirtual 33, 3) := by decide +kernel
theorem dX4_collect_93 : decode cX4_collect 93 = .ok (.iload_n 2, 1) := by decide +kernel
theorem dX4_collect_94 : decode cX4_collect 94 = .ok (.iadd, 1) := by decide +kernel
theorem dX4_collect_95 : decode cX4_collect 95 = .ok (.invokevirtual 37, 3) := by decide +kernel
theorem dX4_collect_98 : decode cX4_collect 98 = .ok (.aload_n 0, 1) := by decide +kernel
theorem dX4_collect_99 : decode cX4_collect 99 = .ok (.getfield 7, 3) := by decide +kernel
theorem dX4_collect_102 : decode cX4_collect 102 = .ok (.iconst 5, 1) := by decide +kernel
theorem dX4_collect_103 : decode cX4_collect 103 = .ok (.dup2, 1) := by decide +kernel
theorem dX4_collect_104 : decode cX4_collect 104 = .ok (.iaload, 1) := by decide +kernel
theorem dX4_collect_105 : decode cX4_collect 105 = .ok (.iload_n 2, 1) := by decide +kernel
theorem dX4_collect_106 : decode cX4_collect 106 = .ok (.iadd, 1) := by decide +kernel
theorem dX4_collect_107 : decode cX4_collect 107 = .ok (.iastore, 1) := by decide +kernel
theorem dX4_collect_108 : decode cX4_collect 108 = .ok (.iload_n 2, 1) := by decide +kernel
theorem dX4_collect_109 : decode cX4_collect 109 = .ok (.ireturn, 1) := by decide +kernel
set_option maxRecDepth 20000 in
theorem ggX4_end_X4_in : GoodIn wsX4_end wsX4_in := goodIn_r _ [7] (by decide +kernel) (by decide +kernel)
set_option maxRecDepth 20000 in
theorem gX4_end_X4_in : GoodIn wsX4_end (va_wsS RX4 53 yX4_in wsX4_in) := goodIn_app (goodIn_of _ (by decide +kernel)) ggX4_end_X4_in
set_option maxRecDepth 20000 in
theorem ggX4_end_X4_changes : GoodIn wsX4_end wsX4_changes := goodIn_r _ [11, 12, 13, 14, 2, 46, 47, 48, 49, 50, 51, 52, 53, 54, 55, 56, 57, 58, 59, 60] (by decide +kernel) (by decide +kernel)
set_option maxRecDepth 20000 in
theorem gX4_end_X4_changes : GoodIn wsX4_end (wsV RX4 59 RX4 yX4_changes wsX4_changes) := goodIn_app (goodIn_of _ (by decide +kernel)) ggX4_end_X4_changes
set_option maxRecDepth 20000 in
theorem ggX4_end_X4_ends : GoodIn wsX4_end wsX4_ends := goodIn_r _ [18, 2, 19, 20, 21, 6, 22, 23, 24, 25, 26, 27, 28, 29, 30, 31, 32, 33, 34, 35, 36, 37, 38, 46, 47, 48, 49, 50, 51, 52, 53, 54, 55, 56, 57, 58, 59, 60] (by decide +kernel) (by decide +kernel)
set_option maxRecDepth 20000 in
theorem gX4_end_X4_ends : GoodIn wsX4_end (wsV RX4 91 RX4 yX4_ends wsX4_ends) := goodIn_app (goodIn_of _ (by decide +kernel)) ggX4_end_X4_ends
set_option maxRecDepth 20000 in
theorem ggX4_end_X4_coldOnes : GoodIn wsX4_end wsX4_coldOnes := goodIn_r _ [42, 2, 35, 36, 37, 6, 38, 23, 24, 25, 26, 46, 47, 48, 49, 50, 51, 52, 53, 54, 55, 56, 57, 58, 59, 60] (by decide +kernel) (by decide +kernel)
set_option maxRecDepth 20000 in
theorem gX4_end_X4_coldOnes : GoodIn wsX4_end (wsV RX4 94 RX4 yX4_coldOnes wsX4_coldOnes) := goodIn_app (goodIn_of _ (by decide +kernel)) ggX4_end_X4_coldOnes
set_option maxRecDepth 20000 in
theorem ggX4_end_X4_ones : GoodIn wsX4_end wsX4_ones := goodIn_r _ [45] (by decide +kernel) (by decide +kernel)
set_option maxRecDepth 20000 in
theorem gX4_end_X4_ones : GoodIn wsX4_end (va_wsS RX4 98 yX4_ones wsX4_ones) := goodIn_app (goodIn_of _ (by decide +kernel)) ggX4_end_X4_ones
theorem dX4_end_0 : decode cX4_end 0 = .ok (.iload_n 1, 1) := by decide +kernel
theorem dX4_end_1 : decode cX4_end 1 = .ok (.iconst 1, 1) := by decide +kernel
theorem dX4_end_2 : decode cX4_end 2 = .ok (.bipush 99, 2) := by decide +kernel
theorem dX4_end_4 : decode cX4_end 4 = .ok (.invokestatic 53, 3) := by decide +kernel
theorem dX4_end_7 : decode cX4_end 7 = .ok (.ifCond .ne 6, 3) := by decide +kernel
theorem dX4_end_10 : decode cX4_end 10 = .ok (.ldc 57, 2) := by decide +kernel
theorem dX4_end_12 : decode cX4_end 12 = .ok (.ireturn, 1) := by decide +kernel
theorem dX4_end_13 : decode cX4_end 13 = .ok (.aload_n 0, 1) := by decide +kernel
theorem dX4_end_14 : decode cX4_end 14 = .ok (.getfield 7, 3) := by decide +kernel
theorem dX4_end_17 : decode cX4_end 17 = .ok (.iconst 1, 1) := by decide +kernel
theorem dX4_end_18 : decode cX4_end 18 = .ok (.iaload, 1) := by decide +kernel
theorem dX4_end_19 : decode cX4_end 19 = .ok (.iload_n 1, 1) := by decide +kernel
theorem dX4_end_20 : decode cX4_end 20 = .ok (.iadd, 1) := by decide +kernel
theorem dX4_end_21 : decode cX4_end 21 = .ok (.sipush 9999, 3) := by decide +kernel
theorem dX4_end_24 : decode cX4_end 24 = .ok (.if_icmp .le 6, 3) := by decide +kernel
theorem dX4_end_27 : decode cX4_end 27 = .ok (.ldc 58, 2) := by decide +kernel
theorem dX4_end_29 : decode cX4_end 29 = .ok (.ireturn, 1) := by decide +kernel
theorem dX4_end_30 : decode cX4_end 30 = .ok (.aload_n 0, 1) := by decide +kernel
theorem dX4_end_31 : decode cX4_end 31 = .ok (.invokevirtual 59, 3) := by decide +kernel
theorem dX4_end_34 : decode cX4_end 34 = .ok (.iconst 0, 1) := by decide +kernel
theorem dX4_end_35 : decode cX4_end 35 = .ok (.istore_n 2, 1) := by decide +kernel
theorem dX4_end_36 : decode cX4_end 36 = .ok (.iload_n 2, 1) := by decide +kernel
theorem dX4_end_37 : decode cX4_end 37 = .ok (.iload_n 1, 1) := by decide +kernel
theorem dX4_end_38 : decode cX4_end 38 = .ok (.if_icmp .ge 13, 3) := by decide +kernel
theorem dX4_end_41 : decode cX4_end 41 = .ok (.aload_n 0, 1) := by decide +kernel
theorem dX4_end_42 : decode cX4_end 42 = .ok (.invokevirtual 91, 3) := by decide +kernel
theorem dX4_end_45 : decode cX4_end 45 = .ok (.iinc 2 1, 3) := by decide +kernel
theorem dX4_end_48 : decode cX4_end 48 = .ok (.goto (-12), 3) := by decide +kernel
theorem dX4_end_51 : decode cX4_end 51 = .ok (.aload_n 0, 1) := by decide +kernel
theorem dX4_end_52 : decode cX4_end 52 = .ok (.invokevirtual 94, 3) := by decide +kernel
theorem dX4_end_55 : decode cX4_end 55 = .ok (.invokestatic 98, 3) := by decide +kernel
theorem dX4_end_58 : decode cX4_end 58 = .ok (.ireturn, 1) := by decide +kernel
set_option maxRecDepth 20000 in
theorem ggX4_maySet_X4_in : GoodIn wsX4_maySet wsX4_in := goodIn_r _ [4] (by decide +kernel) (by decide +kernel)
set_option maxRecDepth 20000 in
theorem gX4_maySet_X4_in : GoodIn wsX4_maySet (va_wsS RX4 53 yX4_in wsX4_in) := goodIn_app (goodIn_of _ (by decide +kernel)) ggX4_maySet_X4_in
theorem dX4_maySet_0 : decode cX4_maySet 0 = .ok (.iload_n 0, 1) := by decide +kernel
theorem dX4_maySet_1 : decode cX4_maySet 1 = .ok (.tableswitch 51 0 2 #[27, 35, 43], 27) := by decide +kernel
theorem dX4_maySet_28 : decode cX4_maySet 28 = .ok (.iload_n 1, 1) := by decide +kernel
theorem dX4_maySet_29 : decode cX4_maySet 29 = .ok (.iconst 1, 1) := by decide +kernel
theorem dX4_maySet_30 : decode cX4_maySet 30 = .ok (.bipush 99, 2) := by decide +kernel
theorem dX4_maySet_32 : decode cX4_maySet 32 = .ok (.invokestatic 53, 3) := by decide +kernel
theorem dX4_maySet_35 : decode cX4_maySet 35 = .ok (.ireturn, 1) := by decide +kernel
theorem dX4_maySet_36 : decode cX4_maySet 36 = .ok (.iload_n 1, 1) := by decide +kernel
theorem dX4_maySet_37 : decode cX4_maySet 37 = .ok (.iconst 1, 1) := by decide +kernel
theorem dX4_maySet_38 : decode cX4_maySet 38 = .ok (.bipush 24, 2) := by decide +kernel
theorem dX4_maySet_40 : decode cX4_maySet 40 = .ok (.invokestatic 53, 3) := by decide +kernel
theorem dX4_maySet_43 : decode cX4_maySet 43 = .ok (.ireturn, 1) := by decide +kernel
theorem dX4_maySet_44 : decode cX4_maySet 44 = .ok (.iload_n 1, 1) := by decide +kernel
theorem dX4_maySet_45 : decode cX4_maySet 45 = .ok (.iconst 0, 1) := by decide +kernel
theorem dX4_maySet_46 : decode cX4_maySet 46 = .ok (.bipush 20, 2) := by decide +kernel
theorem dX4_maySet_48 : decode cX4_maySet 48 = .ok (.invokestatic 53, 3) := by decide +kernel
theorem dX4_maySet_51 : decode cX4_maySet 51 = .ok (.ireturn, 1) := by decide +kernel
theorem dX4_maySet_52 : decode cX4_maySet 52 = .ok (.iload_n 1, 1) := by decide +kernel
theorem dX4_maySet_53 : decode cX4_maySet 53 = .ok (.iconst 0, 1) := by decide +kernel
theorem dX4_maySet_54 : decode cX4_maySet 54 = .ok (.sipush 500, 3) := by decide +kernel
theorem dX4_maySet_57 : decode cX4_maySet 57 = .ok (.invokestatic 53, 3) := by decide +kernel
theorem dX4_maySet_60 : decode cX4_maySet 60 = .ok (.ireturn, 1) := by decide +kernel
set_option maxRecDepth 20000 in
theorem ggX4_set_X4_in : GoodIn wsX4_set wsX4_in := goodIn_r _ [6] (by decide +kernel) (by decide +kernel)
set_option maxRecDepth 20000 in
theorem gX4_set_X4_in : GoodIn wsX4_set (va_wsS RX4 53 yX4_in wsX4_in) := goodIn_app (goodIn_of _ (by decide +kernel)) ggX4_set_X4_in
set_option maxRecDepth 20000 in
theorem ggX4_set_X4_maySet : GoodIn wsX4_set wsX4_maySet := goodIn_r _ [9, 3, 4, 5, 6] (by decide +kernel) (by decide +kernel)
set_option maxRecDepth 20000 in
theorem gX4_set_X4_maySet : GoodIn wsX4_set (va_wsS RX4 101 yX4_maySet wsX4_maySet) := goodIn_app (goodIn_of _ (by decide +kernel)) ggX4_set_X4_maySet
set_option maxRecDepth 20000 in
theorem ggX4_set_X4_changes : GoodIn wsX4_set wsX4_changes := goodIn_r _ [13, 14, 15, 16, 2, 17, 18, 19, 20, 21, 22, 23, 24, 25, 26, 27, 28, 29, 30, 31] (by decide +kernel) (by decide +kernel)
set_option maxRecDepth 20000 in
theorem gX4_set_X4_changes : GoodIn wsX4_set (wsV RX4 59 RX4 yX4_changes wsX4_changes) := goodIn_app (goodIn_of _ (by decide +kernel)) ggX4_set_X4_changes
theorem dX4_set_0 : decode cX4_set 0 = .ok (.iload_n 1, 1) := by decide +kernel
theorem dX4_set_1 : decode cX4_set 1 = .ok (.iconst 0, 1) := by decide +kernel
theorem dX4_set_2 : decode cX4_set 2 = .ok (.iconst 3, 1) := by decide +kernel
theorem dX4_set_3 : decode cX4_set 3 = .ok (.invokestatic 53, 3) := by decide +kernel
theorem dX4_set_6 : decode cX4_set 6 = .ok (.ifCond .eq 11, 3) := by decide +kernel
theorem dX4_set_9 : decode cX4_set 9 = .ok (.iload_n 1, 1) := by decide +kernel
theorem dX4_set_10 : decode cX4_set 10 = .ok (.iload_n 2, 1) := by decide +kernel
theorem dX4_set_11 : decode cX4_set 11 = .ok (.invokestatic 101, 3) := by decide +kernel
theorem dX4_set_14 : decode cX4_set 14 = .ok (.ifCond .ne 6, 3) := by decide +kernel
theorem dX4_set_17 : decode cX4_set 17 = .ok (.ldc 57, 2) := by decide +kernel
theorem dX4_set_19 : decode cX4_set 19 = .ok (.ireturn, 1) := by decide +kernel
theorem dX4_set_20 : decode cX4_set 20 = .ok (.aload_n 0, 1) := by decide +kernel
theorem dX4_set_21 : decode cX4_set 21 = .ok (.invokevirtual 59, 3) := by decide +kernel
theorem dX4_set_24 : decode cX4_set 24 = .ok (.aload_n 0, 1) := by decide +kernel
theorem dX4_set_25 : decode cX4_set 25 = .ok (.getfield 7, 3) := by decide +kernel
theorem dX4_set_28 : decode cX4_set 28 = .ok (.bipush 10, 2) := by decide +kernel
theorem dX4_set_30 : decode cX4_set 30 = .ok (.iload_n 1, 1) := by decide +kernel
theorem dX4_set_31 : decode cX4_set 31 = .ok (.iadd, 1) := by decide +kernel
theorem dX4_set_32 : decode cX4_set 32 = .ok (.iaload, 1) := by decide +kernel
theorem dX4_set_33 : decode cX4_set 33 = .ok (.istore_n 3, 1) := by decide +kernel
theorem dX4_set_34 : decode cX4_set 34 = .ok (.aload_n 0, 1) := by decide +kernel
theorem dX4_set_35 : decode cX4_set 35 = .ok (.getfield 7, 3) := by decide +kernel
theorem dX4_set_38 : decode cX4_set 38 = .ok (.bipush 10, 2) := by decide +kernel
theorem dX4_set_40 : decode cX4_set 40 = .ok (.iload_n 1, 1) := by decide +kernel
theorem dX4_set_41 : decode cX4_set 41 = .ok (.iadd, 1) := by decide +kernel
theorem dX4_set_42 : decode cX4_set 42 = .ok (.iload_n 2, 1) := by decide +kernel
theorem dX4_set_43 : decode cX4_set 43 = .ok (.iastore, 1) := by decide +kernel
theorem dX4_set_44 : decode cX4_set 44 = .ok (.iload_n 3, 1) := by decide +kernel
theorem dX4_set_45 : decode cX4_set 45 = .ok (.ireturn, 1) := by decide +kernel
set_option maxRecDepth 20000 in
theorem ggX4_smithyOf_X4_isSmithy : GoodIn wsX4_smithyOf wsX4_isSmithy := goodIn_r _ [7, 2, 32, 33, 34, 35, 36, 37, 38, 39, 40, 41, 42, 43, 44, 45, 46] (by decide +kernel) (by decide +kernel)
set_option maxRecDepth 20000 in
theorem gX4_smithyOf_X4_isSmithy : GoodIn wsX4_smithyOf (wsV RX4 81 RX4 yX4_isSmithy wsX4_isSmithy) := goodIn_app (goodIn_of _ (by decide +kernel)) ggX4_smithyOf_X4_isSmithy
set_option maxRecDepth 20000 in
theorem ggX4_smithyOf_X4_in : GoodIn wsX4_smithyOf wsX4_in := goodIn_r _ [10] (by decide +kernel) (by decide +kernel)
set_option maxRecDepth 20000 in
theorem gX4_smithyOf_X4_in : GoodIn wsX4_smithyOf (va_wsS RX4 53 yX4_in wsX4_in) := goodIn_app (goodIn_of _ (by decide +kernel)) ggX4_smithyOf_X4_in
set_option maxRecDepth 20000 in
theorem ggX4_smithyOf_X4_leak : GoodIn wsX4_smithyOf wsX4_leak := goodIn_r _ [14, 15, 16, 17, 6, 18, 2, 32, 33, 34, 35, 36, 37, 38, 39, 40, 41, 42, 43, 44, 45, 46] (by decide +kernel) (by decide +kernel)
set_option maxRecDepth 20000 in
theorem gX4_smithyOf_X4_leak : GoodIn wsX4_smithyOf (wsV RX4 41 RX4 yX4_leak wsX4_leak) := goodIn_app (goodIn_of _ (by decide +kernel)) ggX4_smithyOf_X4_leak
set_option maxRecDepth 20000 in
theorem ggX4_smithyOf_X4_of : GoodIn wsX4_smithyOf wsX4_of := goodIn_r _ [18, 2, 32, 33, 34, 35, 36, 37, 38, 39, 40, 41, 42, 43, 44, 45, 46] (by decide +kernel) (by decide +kernel)
set_option maxRecDepth 20000 in
theorem gX4_smithyOf_X4_of : GoodIn wsX4_smithyOf (wsV RX4 33 RX4 yX4_of wsX4_of) := goodIn_app (goodIn_of _ (by decide +kernel)) ggX4_smithyOf_X4_of
set_option maxRecDepth 20000 in
theorem ggX4_smithyOf_X4_isCold : GoodIn wsX4_smithyOf wsX4_isCold := goodIn_r _ [22, 2, 15, 16, 17, 6, 18, 32, 33, 34, 35, 36, 37, 38, 39, 40, 41, 42, 43, 44, 45, 46] (by decide +kernel) (by decide +kernel)
set_option maxRecDepth 20000 in
theorem gX4_smithyOf_X4_isCold : GoodIn wsX4_smithyOf (wsV RX4 45 RX4 yX4_isCold wsX4_isCold) := goodIn_app (goodIn_of _ (by decide +kernel)) ggX4_smithyOf_X4_isCold
set_option maxRecDepth 20000 in
theorem ggX4_smithyOf_X4_hoursBetween : GoodIn wsX4_smithyOf wsX4_hoursBetween := goodIn_r _ [25, 26, 27, 6, 28, 29, 30, 31] (by decide +kernel) (by decide +kernel)
set_option maxRecDepth 20000 in
theorem gX4_smithyOf_X4_hoursBetween : GoodIn wsX4_smithyOf (va_wsS RX4 68 yX4_hoursBetween wsX4_hoursBetween) := goodIn_app (goodIn_of _ (by decide +kernel)) ggX4_smithyOf_X4_hoursBetween
theorem dX4_smithyOf_0 : decode cX4_smithyOf 0 = .ok (.aload_n 0, 1) := by decide +kernel
theorem dX4_smithyOf_1 : decode cX4_smithyOf 1 = .ok (.iload_n 1, 1) := by decide +kernel
theorem dX4_smithyOf_2 : decode cX4_smithyOf 2 = .ok (.invokevirtual 81, 3) := by decide +kernel
theorem dX4_smithyOf_5 : decode cX4_smithyOf 5 = .ok (.ifCond .eq 13, 3) := by decide +kernel
theorem dX4_smithyOf_8 : decode cX4_smithyOf 8 = .ok (.iload_n 2, 1) := by decide +kernel
theorem dX4_smithyOf_9 : decode cX4_smithyOf 9 = .ok (.iconst 0, 1) := by decide +kernel
theorem dX4_smithyOf_10 : decode cX4_smithyOf 10 = .ok (.bipush 10, 2) := by decide +kernel
theorem dX4_smithyOf_12 : decode cX4_smithyOf 12 = .ok (.invokestatic 53, 3) := by decide +kernel
theorem dX4_smithyOf_15 : decode cX4_smithyOf 15 = .ok (.ifCond .ne 6, 3) := by decide +kernel
theorem dX4_smithyOf_18 : decode cX4_smithyOf 18 = .ok (.ldc 57, 2) := by decide +kernel
theorem dX4_smithyOf_20 : decode cX4_smithyOf 20 = .ok (.ireturn, 1) := by decide +kernel
theorem dX4_smithyOf_21 : decode cX4_smithyOf 21 = .ok (.iload_n 2, 1) := by decide +kernel
theorem dX4_smithyOf_22 : decode cX4_smithyOf 22 = .ok (.tableswitch 98 3 10 #[46, 52, 59, 73, 73, 73, 73, 82], 46) := by decide +kernel
theorem dX4_smithyOf_68 : decode cX4_smithyOf 68 = .ok (.aload_n 0, 1) := by decide +kernel
theorem dX4_smithyOf_69 : decode cX4_smithyOf 69 = .ok (.iload_n 1, 1) := by decide +kernel
theorem dX4_smithyOf_70 : decode cX4_smithyOf 70 = .ok (.invokevirtual 41, 3) := by decide +kernel
theorem dX4_smithyOf_73 : decode cX4_smithyOf 73 = .ok (.ireturn, 1) := by decide +kernel
theorem dX4_smithyOf_74 : decode cX4_smithyOf 74 = .ok (.aload_n 0, 1) := by decide +kernel
theorem dX4_smithyOf_75 : decode cX4_smithyOf 75 = .ok (.iload_n 1, 1) := by decide +kernel
theorem dX4_smithyOf_76 : decode cX4_smithyOf 76 = .ok (.iconst 3, 1) := by decide +kernel
theorem dX4_smithyOf_77 : decode cX4_smithyOf 77 = .ok (.invokevirtual 33, 3) := by decide +kernel
end
section
theorem dX4_smithyOf_80 : decode cX4_smithyOf 80 = .ok (.ireturn, 1) := by decide +kernel
theorem dX4_smithyOf_81 : decode cX4_smithyOf 81 = .ok (.aload_n 0, 1) := by decide +kernel
theorem dX4_smithyOf_82 : decode cX4_smithyOf 82 = .ok (.iload_n 1, 1) := by decide +kernel
theorem dX4_smithyOf_83 : decode cX4_smithyOf 83 = .ok (.invokevirtual 45, 3) := by decide +kernel
theorem dX4_smithyOf_86 : decode cX4_smithyOf 86 = .ok (.ifCond .eq 7, 3) := by decide +kernel
theorem dX4_smithyOf_89 : decode cX4_smithyOf 89 = .ok (.iconst 1, 1) := by decide +kernel
theorem dX4_smithyOf_90 : decode cX4_smithyOf 90 = .ok (.goto 4, 3) := by decide +kernel
theorem dX4_smithyOf_93 : decode cX4_smithyOf 93 = .ok (.iconst 0, 1) := by decide +kernel
theorem dX4_smithyOf_94 : decode cX4_smithyOf 94 = .ok (.ireturn, 1) := by decide +kernel
theorem dX4_smithyOf_95 : decode cX4_smithyOf 95 = .ok (.aload_n 0, 1) := by decide +kernel
theorem dX4_smithyOf_96 : decode cX4_smithyOf 96 = .ok (.iload_n 1, 1) := by decide +kernel
theorem dX4_smithyOf_97 : decode cX4_smithyOf 97 = .ok (.iload_n 2, 1) := by decide +kernel
theorem dX4_smithyOf_98 : decode cX4_smithyOf 98 = .ok (.iconst 2, 1) := by decide +kernel
theorem dX4_smithyOf_99 : decode cX4_smithyOf 99 = .ok (.isub, 1) := by decide +kernel
theorem dX4_smithyOf_100 : decode cX4_smithyOf 100 = .ok (.invokevirtual 33, 3) := by decide +kernel
theorem dX4_smithyOf_103 : decode cX4_smithyOf 103 = .ok (.ireturn, 1) := by decide +kernel
theorem dX4_smithyOf_104 : decode cX4_smithyOf 104 = .ok (.aload_n 0, 1) := by decide +kernel
theorem dX4_smithyOf_105 : decode cX4_smithyOf 105 = .ok (.getfield 7, 3) := by decide +kernel
theorem dX4_smithyOf_108 : decode cX4_smithyOf 108 = .ok (.iconst 2, 1) := by decide +kernel
theorem dX4_smithyOf_109 : decode cX4_smithyOf 109 = .ok (.iaload, 1) := by decide +kernel
theorem dX4_smithyOf_110 : decode cX4_smithyOf 110 = .ok (.aload_n 0, 1) := by decide +kernel
theorem dX4_smithyOf_111 : decode cX4_smithyOf 111 = .ok (.iload_n 1, 1) := by decide +kernel
theorem dX4_smithyOf_112 : decode cX4_smithyOf 112 = .ok (.iconst 0, 1) := by decide +kernel
theorem dX4_smithyOf_113 : decode cX4_smithyOf 113 = .ok (.invokevirtual 33, 3) := by decide +kernel
theorem dX4_smithyOf_116 : decode cX4_smithyOf 116 = .ok (.invokestatic 68, 3) := by decide +kernel
theorem dX4_smithyOf_119 : decode cX4_smithyOf 119 = .ok (.ireturn, 1) := by decide +kernel
theorem dX4_smithyOf_120 : decode cX4_smithyOf 120 = .ok (.aload_n 0, 1) := by decide +kernel
theorem dX4_smithyOf_121 : decode cX4_smithyOf 121 = .ok (.iload_n 1, 1) := by decide +kernel
theorem dX4_smithyOf_122 : decode cX4_smithyOf 122 = .ok (.iload_n 2, 1) := by decide +kernel
theorem dX4_smithyOf_123 : decode cX4_smithyOf 123 = .ok (.invokevirtual 33, 3) := by decide +kernel
theorem dX4_smithyOf_126 : decode cX4_smithyOf 126 = .ok (.ireturn, 1) := by decide +kernel
set_option maxRecDepth 20000 in
theorem ggX4_why_X4_isSmithy : GoodIn wsX4_why wsX4_isSmithy := goodIn_r _ [6, 7, 29, 30, 31, 32, 33, 34, 35, 36, 37, 38, 39, 40, 41, 42, 43] (by decide +kernel) (by decide +kernel)
set_option maxRecDepth 20000 in
theorem gX4_why_X4_isSmithy : GoodIn wsX4_why (wsV RX4 81 RX4 yX4_isSmithy wsX4_isSmithy) := goodIn_app (goodIn_of _ (by decide +kernel)) ggX4_why_X4_isSmithy
set_option maxRecDepth 20000 in
theorem ggX4_why_X4_in : GoodIn wsX4_why wsX4_in := goodIn_r _ [10] (by decide +kernel) (by decide +kernel)
set_option maxRecDepth 20000 in
theorem gX4_why_X4_in : GoodIn wsX4_why (va_wsS RX4 53 yX4_in wsX4_in) := goodIn_app (goodIn_of _ (by decide +kernel)) ggX4_why_X4_in
set_option maxRecDepth 20000 in
theorem ggX4_why_X4_whyNot : GoodIn wsX4_why wsX4_whyNot := goodIn_r _ [14, 7, 15, 16, 17, 5, 18, 19, 20, 21, 22, 23, 24, 25, 26, 27, 28, 29, 30, 31, 32, 33, 34, 35, 36, 37, 38, 39, 40, 41, 42, 43] (by decide +kernel) (by decide +kernel)
set_option maxRecDepth 20000 in
theorem gX4_why_X4_whyNot : GoodIn wsX4_why (wsV RX4 84 RX4 yX4_whyNot wsX4_whyNot) := goodIn_app (goodIn_of _ (by decide +kernel)) ggX4_why_X4_whyNot
theorem dX4_why_0 : decode cX4_why 0 = .ok (.aload_n 0, 1) := by decide +kernel
theorem dX4_why_1 : decode cX4_why 1 = .ok (.iload_n 1, 1) := by decide +kernel
theorem dX4_why_2 : decode cX4_why 2 = .ok (.invokevirtual 81, 3) := by decide +kernel
theorem dX4_why_5 : decode cX4_why 5 = .ok (.ifCond .eq 21, 3) := by decide +kernel
theorem dX4_why_8 : decode cX4_why 8 = .ok (.iload_n 2, 1) := by decide +kernel
theorem dX4_why_9 : decode cX4_why 9 = .ok (.iconst 0, 1) := by decide +kernel
theorem dX4_why_10 : decode cX4_why 10 = .ok (.iconst 1, 1) := by decide +kernel
theorem dX4_why_11 : decode cX4_why 11 = .ok (.invokestatic 53, 3) := by decide +kernel
theorem dX4_why_14 : decode cX4_why 14 = .ok (.ifCond .eq 12, 3) := by decide +kernel
theorem dX4_why_17 : decode cX4_why 17 = .ok (.aload_n 0, 1) := by decide +kernel
theorem dX4_why_18 : decode cX4_why 18 = .ok (.iload_n 1, 1) := by decide +kernel
theorem dX4_why_19 : decode cX4_why 19 = .ok (.iload_n 2, 1) := by decide +kernel
theorem dX4_why_20 : decode cX4_why 20 = .ok (.invokevirtual 84, 3) := by decide +kernel
theorem dX4_why_23 : decode cX4_why 23 = .ok (.goto 5, 3) := by decide +kernel
theorem dX4_why_26 : decode cX4_why 26 = .ok (.ldc 57, 2) := by decide +kernel
theorem dX4_why_28 : decode cX4_why 28 = .ok (.ireturn, 1) := by decide +kernel
set_option maxRecDepth 20000 in
theorem ggX4_mend_X4_isSmithy : GoodIn wsX4_mend wsX4_isSmithy := goodIn_r _ [6, 7, 29, 30, 31, 32, 33, 34, 35, 36, 37, 38, 39, 40, 41, 42, 43] (by decide +kernel) (by decide +kernel)
set_option maxRecDepth 20000 in
theorem gX4_mend_X4_isSmithy : GoodIn wsX4_mend (wsV RX4 81 RX4 yX4_isSmithy wsX4_isSmithy) := goodIn_app (goodIn_of _ (by decide +kernel)) ggX4_mend_X4_isSmithy
set_option maxRecDepth 20000 in
theorem ggX4_mend_X4_in : GoodIn wsX4_mend wsX4_in := goodIn_r _ [10] (by decide +kernel) (by decide +kernel)
set_option maxRecDepth 20000 in
theorem gX4_mend_X4_in : GoodIn wsX4_mend (va_wsS RX4 53 yX4_in wsX4_in) := goodIn_app (goodIn_of _ (by decide +kernel)) ggX4_mend_X4_in
set_option maxRecDepth 20000 in
theorem ggX4_mend_X4_hoursOf : GoodIn wsX4_mend wsX4_hoursOf := goodIn_r _ [13] (by decide +kernel) (by decide +kernel)
set_option maxRecDepth 20000 in
theorem gX4_mend_X4_hoursOf : GoodIn wsX4_mend (va_wsS RX4 72 yX4_hoursOf wsX4_hoursOf) := goodIn_app (goodIn_of _ (by decide +kernel)) ggX4_mend_X4_hoursOf
set_option maxRecDepth 20000 in
theorem ggX4_mend_X4_leatherOf : GoodIn wsX4_mend wsX4_leatherOf := goodIn_r _ [17, 18, 19, 20, 5, 21, 7, 22, 23, 24, 29, 30, 31, 32, 33, 34, 35, 36, 37, 38, 39, 40, 41, 42, 43] (by decide +kernel) (by decide +kernel)
set_option maxRecDepth 20000 in
theorem gX4_mend_X4_leatherOf : GoodIn wsX4_mend (wsV RX4 75 RX4 yX4_leatherOf wsX4_leatherOf) := goodIn_app (goodIn_of _ (by decide +kernel)) ggX4_mend_X4_leatherOf
set_option maxRecDepth 20000 in
theorem ggX4_mend_X4_owes : GoodIn wsX4_mend wsX4_owes := goodIn_r _ [28, 7, 11, 12, 5, 13, 14, 15, 16, 17, 18, 19, 20, 21, 22, 23, 24, 29, 30, 31, 32, 33, 34, 35, 36, 37, 38, 39, 40, 41, 42, 43] (by decide +kernel) (by decide +kernel)
set_option maxRecDepth 20000 in
theorem gX4_mend_X4_owes : GoodIn wsX4_mend (wsV RX4 78 RX4 yX4_owes wsX4_owes) := goodIn_app (goodIn_of _ (by decide +kernel)) ggX4_mend_X4_owes
set_option maxRecDepth 20000 in
theorem ggX4_mend_X4_of : GoodIn wsX4_mend wsX4_of := goodIn_r _ [21, 7, 29, 30, 31, 32, 33, 34, 35, 36, 37, 38, 39, 40, 41, 42, 43] (by decide +kernel) (by decide +kernel)
set_option maxRecDepth 20000 in
theorem gX4_mend_X4_of : GoodIn wsX4_mend (wsV RX4 33 RX4 yX4_of wsX4_of) := goodIn_app (goodIn_of _ (by decide +kernel)) ggX4_mend_X4_of
theorem dX4_mend_0 : decode cX4_mend 0 = .ok (.aload_n 0, 1) := by decide +kernel
theorem dX4_mend_1 : decode cX4_mend 1 = .ok (.iload_n 1, 1) := by decide +kernel
theorem dX4_mend_2 : decode cX4_mend 2 = .ok (.invokevirtual 81, 3) := by decide +kernel
theorem dX4_mend_5 : decode cX4_mend 5 = .ok (.ifCond .eq 21, 3) := by decide +kernel
theorem dX4_mend_8 : decode cX4_mend 8 = .ok (.iload_n 2, 1) := by decide +kernel
theorem dX4_mend_9 : decode cX4_mend 9 = .ok (.iconst 0, 1) := by decide +kernel
theorem dX4_mend_10 : decode cX4_mend 10 = .ok (.iconst 1, 1) := by decide +kernel
theorem dX4_mend_11 : decode cX4_mend 11 = .ok (.invokestatic 53, 3) := by decide +kernel
theorem dX4_mend_14 : decode cX4_mend 14 = .ok (.ifCond .eq 12, 3) := by decide +kernel
theorem dX4_mend_17 : decode cX4_mend 17 = .ok (.iload_n 3, 1) := by decide +kernel
theorem dX4_mend_18 : decode cX4_mend 18 = .ok (.iconst 0, 1) := by decide +kernel
theorem dX4_mend_19 : decode cX4_mend 19 = .ok (.iconst 3, 1) := by decide +kernel
theorem dX4_mend_20 : decode cX4_mend 20 = .ok (.invokestatic 53, 3) := by decide +kernel
theorem dX4_mend_23 : decode cX4_mend 23 = .ok (.ifCond .ne 6, 3) := by decide +kernel
theorem dX4_mend_26 : decode cX4_mend 26 = .ok (.ldc 57, 2) := by decide +kernel
theorem dX4_mend_28 : decode cX4_mend 28 = .ok (.ireturn, 1) := by decide +kernel
theorem dX4_mend_29 : decode cX4_mend 29 = .ok (.iload_n 3, 1) := by decide +kernel
theorem dX4_mend_30 : decode cX4_mend 30 = .ok (.ifCond .ne 10, 3) := by decide +kernel
theorem dX4_mend_33 : decode cX4_mend 33 = .ok (.iload_n 2, 1) := by decide +kernel
theorem dX4_mend_34 : decode cX4_mend 34 = .ok (.invokestatic 72, 3) := by decide +kernel
theorem dX4_mend_37 : decode cX4_mend 37 = .ok (.goto 48, 3) := by decide +kernel
theorem dX4_mend_40 : decode cX4_mend 40 = .ok (.iload_n 3, 1) := by decide +kernel
theorem dX4_mend_41 : decode cX4_mend 41 = .ok (.iconst 1, 1) := by decide +kernel
theorem dX4_mend_42 : decode cX4_mend 42 = .ok (.if_icmp .ne 12, 3) := by decide +kernel
theorem dX4_mend_45 : decode cX4_mend 45 = .ok (.aload_n 0, 1) := by decide +kernel
theorem dX4_mend_46 : decode cX4_mend 46 = .ok (.iload_n 1, 1) := by decide +kernel
theorem dX4_mend_47 : decode cX4_mend 47 = .ok (.iload_n 2, 1) := by decide +kernel
theorem dX4_mend_48 : decode cX4_mend 48 = .ok (.invokevirtual 75, 3) := by decide +kernel
theorem dX4_mend_51 : decode cX4_mend 51 = .ok (.goto 34, 3) := by decide +kernel
theorem dX4_mend_54 : decode cX4_mend 54 = .ok (.iload_n 3, 1) := by decide +kernel
theorem dX4_mend_55 : decode cX4_mend 55 = .ok (.iconst 2, 1) := by decide +kernel
theorem dX4_mend_56 : decode cX4_mend 56 = .ok (.if_icmp .ne 12, 3) := by decide +kernel
theorem dX4_mend_59 : decode cX4_mend 59 = .ok (.aload_n 0, 1) := by decide +kernel
theorem dX4_mend_60 : decode cX4_mend 60 = .ok (.iload_n 1, 1) := by decide +kernel
theorem dX4_mend_61 : decode cX4_mend 61 = .ok (.iload_n 2, 1) := by decide +kernel
theorem dX4_mend_62 : decode cX4_mend 62 = .ok (.invokevirtual 78, 3) := by decide +kernel
theorem dX4_mend_65 : decode cX4_mend 65 = .ok (.goto 20, 3) := by decide +kernel
theorem dX4_mend_68 : decode cX4_mend 68 = .ok (.iload_n 2, 1) := by decide +kernel
theorem dX4_mend_69 : decode cX4_mend 69 = .ok (.iconst 1, 1) := by decide +kernel
theorem dX4_mend_70 : decode cX4_mend 70 = .ok (.if_icmp .ne 7, 3) := by decide +kernel
theorem dX4_mend_73 : decode cX4_mend 73 = .ok (.iconst 0, 1) := by decide +kernel
theorem dX4_mend_74 : decode cX4_mend 74 = .ok (.goto 11, 3) := by decide +kernel
theorem dX4_mend_77 : decode cX4_mend 77 = .ok (.aload_n 0, 1) := by decide +kernel
theorem dX4_mend_78 : decode cX4_mend 78 = .ok (.iload_n 1, 1) := by decide +kernel
theorem dX4_mend_79 : decode cX4_mend 79 = .ok (.iconst 2, 1) := by decide +kernel
theorem dX4_mend_80 : decode cX4_mend 80 = .ok (.invokevirtual 33, 3) := by decide +kernel
theorem dX4_mend_83 : decode cX4_mend 83 = .ok (.iconst 3, 1) := by decide +kernel
theorem dX4_mend_84 : decode cX4_mend 84 = .ok (.idiv, 1) := by decide +kernel
theorem dX4_mend_85 : decode cX4_mend 85 = .ok (.ireturn, 1) := by decide +kernel
set_option maxRecDepth 20000 in
theorem ggX4_coldDays_X4_copies : GoodIn wsX4_coldDays wsX4_copies := goodIn_r _ [7] (by decide +kernel) (by decide +kernel)
set_option maxRecDepth 20000 in
theorem gX4_coldDays_X4_copies : GoodIn wsX4_coldDays (va_wsS RX4 105 yX4_copies wsX4_copies) := goodIn_app (goodIn_of _ (by decide +kernel)) ggX4_coldDays_X4_copies
set_option maxRecDepth 20000 in
theorem ggX4_coldDays_X4_isCold : GoodIn wsX4_coldDays wsX4_isCold := goodIn_r _ [11, 1, 12, 13, 14, 6, 15, 28, 29, 30, 31, 32, 33, 34, 35, 36, 37, 38, 39, 40, 41, 42] (by decide +kernel) (by decide +kernel)
set_option maxRecDepth 20000 in
theorem gX4_coldDays_X4_isCold : GoodIn wsX4_coldDays (wsV RX4 45 RX4 yX4_isCold wsX4_isCold) := goodIn_app (goodIn_of _ (by decide +kernel)) ggX4_coldDays_X4_isCold
set_option maxRecDepth 20000 in
theorem ggX4_coldDays_X4_ages : GoodIn wsX4_coldDays wsX4_ages := goodIn_r _ [19, 1, 12, 13, 14, 6, 15, 20, 21, 22, 23, 24, 25, 26, 27, 8, 9, 10, 11, 28, 29, 30, 31, 32, 33, 34, 35, 36, 37, 38, 39, 40, 41, 42] (by decide +kernel) (by decide +kernel)
set_option maxRecDepth 20000 in
theorem gX4_coldDays_X4_ages : GoodIn wsX4_coldDays (wsV RX4 49 RX4 yX4_ages wsX4_ages) := goodIn_app (goodIn_of _ (by decide +kernel)) ggX4_coldDays_X4_ages
theorem dX4_coldDays_0 : decode cX4_coldDays 0 = .ok (.aload_n 0, 1) := by decide +kernel
theorem dX4_coldDays_1 : decode cX4_coldDays 1 = .ok (.getfield 7, 3) := by decide +kernel
theorem dX4_coldDays_4 : decode cX4_coldDays 4 = .ok (.aload_n 0, 1) := by decide +kernel
theorem dX4_coldDays_5 : decode cX4_coldDays 5 = .ok (.getfield 19, 3) := by decide +kernel
theorem dX4_coldDays_8 : decode cX4_coldDays 8 = .ok (.invokestatic 105, 3) := by decide +kernel
theorem dX4_coldDays_11 : decode cX4_coldDays 11 = .ok (.iconst 0, 1) := by decide +kernel
theorem dX4_coldDays_12 : decode cX4_coldDays 12 = .ok (.istore_n 2, 1) := by decide +kernel
theorem dX4_coldDays_13 : decode cX4_coldDays 13 = .ok (.iload_n 2, 1) := by decide +kernel
theorem dX4_coldDays_14 : decode cX4_coldDays 14 = .ok (.sipush 200, 3) := by decide +kernel
theorem dX4_coldDays_17 : decode cX4_coldDays 17 = .ok (.if_icmp .ge 22, 3) := by decide +kernel
theorem dX4_coldDays_20 : decode cX4_coldDays 20 = .ok (.aload_n 0, 1) := by decide +kernel
theorem dX4_coldDays_21 : decode cX4_coldDays 21 = .ok (.iload_n 1, 1) := by decide +kernel
theorem dX4_coldDays_22 : decode cX4_coldDays 22 = .ok (.invokevirtual 45, 3) := by decide +kernel
theorem dX4_coldDays_25 : decode cX4_coldDays 25 = .ok (.ifCond .ne 14, 3) := by decide +kernel
theorem dX4_coldDays_28 : decode cX4_coldDays 28 = .ok (.aload_n 0, 1) := by decide +kernel
theorem dX4_coldDays_29 : decode cX4_coldDays 29 = .ok (.iload_n 1, 1) := by decide +kernel
theorem dX4_coldDays_30 : decode cX4_coldDays 30 = .ok (.invokevirtual 49, 3) := by decide +kernel
theorem dX4_coldDays_33 : decode cX4_coldDays 33 = .ok (.iinc 2 1, 3) := by decide +kernel
theorem dX4_coldDays_36 : decode cX4_coldDays 36 = .ok (.goto (-23), 3) := by decide +kernel
theorem dX4_coldDays_39 : decode cX4_coldDays 39 = .ok (.aload_n 0, 1) := by decide +kernel
theorem dX4_coldDays_40 : decode cX4_coldDays 40 = .ok (.iload_n 1, 1) := by decide +kernel
theorem dX4_coldDays_41 : decode cX4_coldDays 41 = .ok (.invokevirtual 45, 3) := by decide +kernel
theorem dX4_coldDays_44 : decode cX4_coldDays 44 = .ok (.istore_n 3, 1) := by decide +kernel
theorem dX4_coldDays_45 : decode cX4_coldDays 45 = .ok (.aload_n 0, 1) := by decide +kernel
theorem dX4_coldDays_46 : decode cX4_coldDays 46 = .ok (.getfield 19, 3) := by decide +kernel
theorem dX4_coldDays_49 : decode cX4_coldDays 49 = .ok (.aload_n 0, 1) := by decide +kernel
theorem dX4_coldDays_50 : decode cX4_coldDays 50 = .ok (.getfield 7, 3) := by decide +kernel
theorem dX4_coldDays_53 : decode cX4_coldDays 53 = .ok (.invokestatic 105, 3) := by decide +kernel
theorem dX4_coldDays_56 : decode cX4_coldDays 56 = .ok (.iload_n 3, 1) := by decide +kernel
theorem dX4_coldDays_57 : decode cX4_coldDays 57 = .ok (.ifCond .eq 7, 3) := by decide +kernel
theorem dX4_coldDays_60 : decode cX4_coldDays 60 = .ok (.iload_n 2, 1) := by decide +kernel
theorem dX4_coldDays_61 : decode cX4_coldDays 61 = .ok (.goto 5, 3) := by decide +kernel
theorem dX4_coldDays_64 : decode cX4_coldDays 64 = .ok (.ldc 109, 2) := by decide +kernel
theorem dX4_coldDays_66 : decode cX4_coldDays 66 = .ok (.ireturn, 1) := by decide +kernel
set_option maxRecDepth 20000 in
theorem ggX4_coldIn_X4_isSmithy : GoodIn wsX4_coldIn wsX4_isSmithy := goodIn_r _ [6, 7, 37, 38, 39, 40, 41, 42, 43, 44, 45, 46, 47, 48, 49, 50, 51] (by decide +kernel) (by decide +kernel)
set_option maxRecDepth 20000 in
theorem gX4_coldIn_X4_isSmithy : GoodIn wsX4_coldIn (wsV RX4 81 RX4 yX4_isSmithy wsX4_isSmithy) := goodIn_app (goodIn_of _ (by decide +kernel)) ggX4_coldIn_X4_isSmithy
set_option maxRecDepth 20000 in
theorem ggX4_coldIn_X4_coldDays : GoodIn wsX4_coldIn wsX4_coldDays := goodIn_r _ [11, 7, 12, 13, 14, 15, 5, 16, 17, 18, 19, 20, 21, 22, 23, 24, 25, 26, 27, 28, 29, 30, 31, 32, 33, 34, 35, 36, 37, 38, 39, 40, 41, 42, 43, 44, 45, 46, 47, 48, 49, 50, 51] (by decide +kernel) (by decide +kernel)
set_option maxRecDepth 20000 in
theorem gX4_coldIn_X4_coldDays : GoodIn wsX4_coldIn (wsV RX4 110 RX4 yX4_coldDays wsX4_coldDays) := goodIn_app (goodIn_of _ (by decide +kernel)) ggX4_coldIn_X4_coldDays
theorem dX4_coldIn_0 : decode cX4_coldIn 0 = .ok (.aload_n 0, 1) := by decide +kernel
theorem dX4_coldIn_1 : decode cX4_coldIn 1 = .ok (.iload_n 1, 1) := by decide +kernel
theorem dX4_coldIn_2 : decode cX4_coldIn 2 = .ok (.invokevirtual 81, 3) := by decide +kernel
theorem dX4_coldIn_5 : decode cX4_coldIn 5 = .ok (.ifCond .eq 11, 3) := by decide +kernel
theorem dX4_coldIn_8 : decode cX4_coldIn 8 = .ok (.aload_n 0, 1) := by decide +kernel
theorem dX4_coldIn_9 : decode cX4_coldIn 9 = .ok (.iload_n 1, 1) := by decide +kernel
theorem dX4_coldIn_10 : decode cX4_coldIn 10 = .ok (.invokevirtual 110, 3) := by decide +kernel
theorem dX4_coldIn_13 : decode cX4_coldIn 13 = .ok (.goto 5, 3) := by decide +kernel
theorem dX4_coldIn_16 : decode cX4_coldIn 16 = .ok (.ldc 57, 2) := by decide +kernel
theorem dX4_coldIn_18 : decode cX4_coldIn 18 = .ok (.ireturn, 1) := by decide +kernel
set_option maxRecDepth 20000 in
theorem ggX4_isAhead_X4_of : GoodIn wsX4_isAhead wsX4_of := goodIn_r _ [6, 1, 10, 11, 12, 13, 14, 15, 16, 17, 18, 19, 20, 21, 22, 23, 24] (by decide +kernel) (by decide +kernel)
set_option maxRecDepth 20000 in
theorem gX4_isAhead_X4_of : GoodIn wsX4_isAhead (wsV RX4 33 RX4 yX4_of wsX4_of) := goodIn_app (goodIn_of _ (by decide +kernel)) ggX4_isAhead_X4_of
set_option maxRecDepth 20000 in
theorem ggX4_isAhead_X4_size : GoodIn wsX4_isAhead wsX4_size := goodIn_r _ [9] (by decide +kernel) (by decide +kernel)
set_option maxRecDepth 20000 in
theorem gX4_isAhead_X4_size : GoodIn wsX4_isAhead (va_wsS RX4 62 yX4_size wsX4_size) := goodIn_app (goodIn_of _ (by decide +kernel)) ggX4_isAhead_X4_size
theorem dX4_isAhead_0 : decode cX4_isAhead 0 = .ok (.iload_n 2, 1) := by decide +kernel
theorem dX4_isAhead_1 : decode cX4_isAhead 1 = .ok (.ifCond .ge 9, 3) := by decide +kernel
theorem dX4_isAhead_4 : decode cX4_isAhead 4 = .ok (.sipush 201, 3) := by decide +kernel
theorem dX4_isAhead_7 : decode cX4_isAhead 7 = .ok (.goto 4, 3) := by decide +kernel
theorem dX4_isAhead_10 : decode cX4_isAhead 10 = .ok (.iload_n 2, 1) := by decide +kernel
theorem dX4_isAhead_11 : decode cX4_isAhead 11 = .ok (.istore 5, 2) := by decide +kernel
theorem dX4_isAhead_13 : decode cX4_isAhead 13 = .ok (.iload 4, 2) := by decide +kernel
theorem dX4_isAhead_15 : decode cX4_isAhead 15 = .ok (.ifCond .ge 9, 3) := by decide +kernel
theorem dX4_isAhead_18 : decode cX4_isAhead 18 = .ok (.sipush 201, 3) := by decide +kernel
theorem dX4_isAhead_21 : decode cX4_isAhead 21 = .ok (.goto 5, 3) := by decide +kernel
theorem dX4_isAhead_24 : decode cX4_isAhead 24 = .ok (.iload 4, 2) := by decide +kernel
theorem dX4_isAhead_26 : decode cX4_isAhead 26 = .ok (.istore 6, 2) := by decide +kernel
theorem dX4_isAhead_28 : decode cX4_isAhead 28 = .ok (.iload 5, 2) := by decide +kernel
theorem dX4_isAhead_30 : decode cX4_isAhead 30 = .ok (.iload 6, 2) := by decide +kernel
theorem dX4_isAhead_32 : decode cX4_isAhead 32 = .ok (.if_icmp .eq 16, 3) := by decide +kernel
theorem dX4_isAhead_35 : decode cX4_isAhead 35 = .ok (.iload 5, 2) := by decide +kernel
theorem dX4_isAhead_37 : decode cX4_isAhead 37 = .ok (.iload 6, 2) := by decide +kernel
theorem dX4_isAhead_39 : decode cX4_isAhead 39 = .ok (.if_icmp .ge 7, 3) := by decide +kernel
theorem dX4_isAhead_42 : decode cX4_isAhead 42 = .ok (.iconst 1, 1) := by decide +kernel
theorem dX4_isAhead_43 : decode cX4_isAhead 43 = .ok (.goto 4, 3) := by decide +kernel
theorem dX4_isAhead_46 : decode cX4_isAhead 46 = .ok (.iconst 0, 1) := by decide +kernel
theorem dX4_isAhead_47 : decode cX4_isAhead 47 = .ok (.ireturn, 1) := by decide +kernel
theorem dX4_isAhead_48 : decode cX4_isAhead 48 = .ok (.aload_n 0, 1) := by decide +kernel
theorem dX4_isAhead_49 : decode cX4_isAhead 49 = .ok (.iload_n 1, 1) := by decide +kernel
theorem dX4_isAhead_50 : decode cX4_isAhead 50 = .ok (.iconst 2, 1) := by decide +kernel
theorem dX4_isAhead_51 : decode cX4_isAhead 51 = .ok (.invokevirtual 33, 3) := by decide +kernel
theorem dX4_isAhead_54 : decode cX4_isAhead 54 = .ok (.aload_n 0, 1) := by decide +kernel
theorem dX4_isAhead_55 : decode cX4_isAhead 55 = .ok (.iload_n 3, 1) := by decide +kernel
theorem dX4_isAhead_56 : decode cX4_isAhead 56 = .ok (.iconst 2, 1) := by decide +kernel
theorem dX4_isAhead_57 : decode cX4_isAhead 57 = .ok (.invokevirtual 33, 3) := by decide +kernel
theorem dX4_isAhead_60 : decode cX4_isAhead 60 = .ok (.if_icmp .eq 24, 3) := by decide +kernel
theorem dX4_isAhead_63 : decode cX4_isAhead 63 = .ok (.aload_n 0, 1) := by decide +kernel
theorem dX4_isAhead_64 : decode cX4_isAhead 64 = .ok (.iload_n 1, 1) := by decide +kernel
theorem dX4_isAhead_65 : decode cX4_isAhead 65 = .ok (.iconst 2, 1) := by decide +kernel
theorem dX4_isAhead_66 : decode cX4_isAhead 66 = .ok (.invokevirtual 33, 3) := by decide +kernel
theorem dX4_isAhead_69 : decode cX4_isAhead 69 = .ok (.aload_n 0, 1) := by decide +kernel
theorem dX4_isAhead_70 : decode cX4_isAhead 70 = .ok (.iload_n 3, 1) := by decide +kernel
theorem dX4_isAhead_71 : decode cX4_isAhead 71 = .ok (.iconst 2, 1) := by decide +kernel
theorem dX4_isAhead_72 : decode cX4_isAhead 72 = .ok (.invokevirtual 33, 3) := by decide +kernel
theorem dX4_isAhead_75 : decode cX4_isAhead 75 = .ok (.if_icmp .le 7, 3) := by decide +kernel
theorem dX4_isAhead_78 : decode cX4_isAhead 78 = .ok (.iconst 1, 1) := by decide +kernel
theorem dX4_isAhead_79 : decode cX4_isAhead 79 = .ok (.goto 4, 3) := by decide +kernel
theorem dX4_isAhead_82 : decode cX4_isAhead 82 = .ok (.iconst 0, 1) := by decide +kernel
theorem dX4_isAhead_83 : decode cX4_isAhead 83 = .ok (.ireturn, 1) := by decide +kernel
theorem dX4_isAhead_84 : decode cX4_isAhead 84 = .ok (.aload_n 0, 1) := by decide +kernel
theorem dX4_isAhead_85 : decode cX4_isAhead 85 = .ok (.iload_n 1, 1) := by decide +kernel
theorem dX4_isAhead_86 : decode cX4_isAhead 86 = .ok (.iconst 0, 1) := by decide +kernel
theorem dX4_isAhead_87 : decode cX4_isAhead 87 = .ok (.invokevirtual 33, 3) := by decide +kernel
theorem dX4_isAhead_90 : decode cX4_isAhead 90 = .ok (.aload_n 0, 1) := by decide +kernel
theorem dX4_isAhead_91 : decode cX4_isAhead 91 = .ok (.getfield 7, 3) := by decide +kernel
theorem dX4_isAhead_94 : decode cX4_isAhead 94 = .ok (.iconst 2, 1) := by decide +kernel
theorem dX4_isAhead_95 : decode cX4_isAhead 95 = .ok (.iaload, 1) := by decide +kernel
theorem dX4_isAhead_96 : decode cX4_isAhead 96 = .ok (.isub, 1) := by decide +kernel
theorem dX4_isAhead_97 : decode cX4_isAhead 97 = .ok (.invokestatic 62, 3) := by decide +kernel
theorem dX4_isAhead_100 : decode cX4_isAhead 100 = .ok (.aload_n 0, 1) := by decide +kernel
theorem dX4_isAhead_101 : decode cX4_isAhead 101 = .ok (.iload_n 3, 1) := by decide +kernel
theorem dX4_isAhead_102 : decode cX4_isAhead 102 = .ok (.iconst 0, 1) := by decide +kernel
theorem dX4_isAhead_103 : decode cX4_isAhead 103 = .ok (.invokevirtual 33, 3) := by decide +kernel
theorem dX4_isAhead_106 : decode cX4_isAhead 106 = .ok (.aload_n 0, 1) := by decide +kernel
theorem dX4_isAhead_107 : decode cX4_isAhead 107 = .ok (.getfield 7, 3) := by decide +kernel
theorem dX4_isAhead_110 : decode cX4_isAhead 110 = .ok (.iconst 2, 1) := by decide +kernel
theorem dX4_isAhead_111 : decode cX4_isAhead 111 = .ok (.iaload, 1) := by decide +kernel
theorem dX4_isAhead_112 : decode cX4_isAhead 112 = .ok (.isub, 1) := by decide +kernel
theorem dX4_isAhead_113 : decode cX4_isAhead 113 = .ok (.invokestatic 62, 3) := by decide +kernel
theorem dX4_isAhead_116 : decode cX4_isAhead 116 = .ok (.if_icmp .ge 7, 3) := by decide +kernel
theorem dX4_isAhead_119 : decode cX4_isAhead 119 = .ok (.iconst 1, 1) := by decide +kernel
theorem dX4_isAhead_120 : decode cX4_isAhead 120 = .ok (.goto 4, 3) := by decide +kernel
theorem dX4_isAhead_123 : decode cX4_isAhead 123 = .ok (.iconst 0, 1) := by decide +kernel
theorem dX4_isAhead_124 : decode cX4_isAhead 124 = .ok (.ireturn, 1) := by decide +kernel
set_option maxRecDepth 20000 in
theorem ggX4_next_X4_coldDays : GoodIn wsX4_next wsX4_coldDays := goodIn_r _ [7, 2, 8, 1, 9, 10, 6, 11, 12, 13, 14, 15, 16, 17, 18, 19, 20, 21, 22, 23, 24, 25, 26, 27, 28, 29, 30, 31, 39, 40, 41, 42, 43, 44, 45, 46, 47, 48, 49, 50, 51, 52, 53] (by decide +kernel) (by decide +kernel)
set_option maxRecDepth 20000 in
theorem gX4_next_X4_coldDays : GoodIn wsX4_next (wsV RX4 110 RX4 yX4_coldDays wsX4_coldDays) := goodIn_app (goodIn_of _ (by decide +kernel)) ggX4_next_X4_coldDays
set_option maxRecDepth 20000 in
theorem ggX4_next_X4_of : GoodIn wsX4_next wsX4_of := goodIn_r _ [19, 2, 39, 40, 41, 42, 43, 44, 45, 46, 47, 48, 49, 50, 51, 52, 53] (by decide +kernel) (by decide +kernel)
set_option maxRecDepth 20000 in
theorem gX4_next_X4_of : GoodIn wsX4_next (wsV RX4 33 RX4 yX4_of wsX4_of) := goodIn_app (goodIn_of _ (by decide +kernel)) ggX4_next_X4_of
set_option maxRecDepth 20000 in
theorem ggX4_next_X4_isAhead : GoodIn wsX4_next wsX4_isAhead := goodIn_r _ [35, 2, 16, 17, 18, 6, 19, 36, 37, 38, 39, 40, 41, 42, 43, 44, 45, 46, 47, 48, 49, 50, 51, 52, 53] (by decide +kernel) (by decide +kernel)
set_option maxRecDepth 20000 in
theorem gX4_next_X4_isAhead : GoodIn wsX4_next (wsV RX4 113 RX4 yX4_isAhead wsX4_isAhead) := goodIn_app (goodIn_of _ (by decide +kernel)) ggX4_next_X4_isAhead
theorem dX4_next_0 : decode cX4_next 0 = .ok (.ldc 109, 2) := by decide +kernel
theorem dX4_next_2 : decode cX4_next 2 = .ok (.istore_n 1, 1) := by decide +kernel
theorem dX4_next_3 : decode cX4_next 3 = .ok (.iconst 0, 1) := by decide +kernel
theorem dX4_next_4 : decode cX4_next 4 = .ok (.istore_n 2, 1) := by decide +kernel
theorem dX4_next_5 : decode cX4_next 5 = .ok (.iconst 0, 1) := by decide +kernel
theorem dX4_next_6 : decode cX4_next 6 = .ok (.istore_n 3, 1) := by decide +kernel
theorem dX4_next_7 : decode cX4_next 7 = .ok (.iload_n 3, 1) := by decide +kernel
theorem dX4_next_8 : decode cX4_next 8 = .ok (.aload_n 0, 1) := by decide +kernel
theorem dX4_next_9 : decode cX4_next 9 = .ok (.getfield 7, 3) := by decide +kernel
theorem dX4_next_12 : decode cX4_next 12 = .ok (.iconst 0, 1) := by decide +kernel
theorem dX4_next_13 : decode cX4_next 13 = .ok (.iaload, 1) := by decide +kernel
theorem dX4_next_14 : decode cX4_next 14 = .ok (.if_icmp .ge 71, 3) := by decide +kernel
theorem dX4_next_17 : decode cX4_next 17 = .ok (.aload_n 0, 1) := by decide +kernel
theorem dX4_next_18 : decode cX4_next 18 = .ok (.iload_n 3, 1) := by decide +kernel
theorem dX4_next_19 : decode cX4_next 19 = .ok (.invokevirtual 110, 3) := by decide +kernel
theorem dX4_next_22 : decode cX4_next 22 = .ok (.istore 4, 2) := by decide +kernel
theorem dX4_next_24 : decode cX4_next 24 = .ok (.aload_n 0, 1) := by decide +kernel
theorem dX4_next_25 : decode cX4_next 25 = .ok (.iload_n 3, 1) := by decide +kernel
theorem dX4_next_26 : decode cX4_next 26 = .ok (.iconst 2, 1) := by decide +kernel
theorem dX4_next_27 : decode cX4_next 27 = .ok (.invokevirtual 33, 3) := by decide +kernel
theorem dX4_next_30 : decode cX4_next 30 = .ok (.ifCond .le 23, 3) := by decide +kernel
theorem dX4_next_33 : decode cX4_next 33 = .ok (.iload_n 1, 1) := by decide +kernel
theorem dX4_next_34 : decode cX4_next 34 = .ok (.ifCond .lt 15, 3) := by decide +kernel
theorem dX4_next_37 : decode cX4_next 37 = .ok (.aload_n 0, 1) := by decide +kernel
theorem dX4_next_38 : decode cX4_next 38 = .ok (.iload_n 3, 1) := by decide +kernel
theorem dX4_next_39 : decode cX4_next 39 = .ok (.iload 4, 2) := by decide +kernel
theorem dX4_next_41 : decode cX4_next 41 = .ok (.iload_n 1, 1) := by decide +kernel
theorem dX4_next_42 : decode cX4_next 42 = .ok (.iload_n 2, 1) := by decide +kernel
theorem dX4_next_43 : decode cX4_next 43 = .ok (.invokevirtual 113, 3) := by decide +kernel
theorem dX4_next_46 : decode cX4_next 46 = .ok (.ifCond .eq 7, 3) := by decide +kernel
theorem dX4_next_49 : decode cX4_next 49 = .ok (.iconst 1, 1) := by decide +kernel
theorem dX4_next_50 : decode cX4_next 50 = .ok (.goto 4, 3) := by decide +kernel
theorem dX4_next_53 : decode cX4_next 53 = .ok (.iconst 0, 1) := by decide +kernel
theorem dX4_next_54 : decode cX4_next 54 = .ok (.istore 5, 2) := by decide +kernel
theorem dX4_next_56 : decode cX4_next 56 = .ok (.iload 5, 2) := by decide +kernel
theorem dX4_next_58 : decode cX4_next 58 = .ok (.ifCond .eq 7, 3) := by decide +kernel
theorem dX4_next_61 : decode cX4_next 61 = .ok (.iload_n 3, 1) := by decide +kernel
theorem dX4_next_62 : decode cX4_next 62 = .ok (.goto 4, 3) := by decide +kernel
theorem dX4_next_65 : decode cX4_next 65 = .ok (.iload_n 1, 1) := by decide +kernel
theorem dX4_next_66 : decode cX4_next 66 = .ok (.istore_n 1, 1) := by decide +kernel
theorem dX4_next_67 : decode cX4_next 67 = .ok (.iload 5, 2) := by decide +kernel
theorem dX4_next_69 : decode cX4_next 69 = .ok (.ifCond .eq 8, 3) := by decide +kernel
theorem dX4_next_72 : decode cX4_next 72 = .ok (.iload 4, 2) := by decide +kernel
theorem dX4_next_74 : decode cX4_next 74 = .ok (.goto 4, 3) := by decide +kernel
theorem dX4_next_77 : decode cX4_next 77 = .ok (.iload_n 2, 1) := by decide +kernel
theorem dX4_next_78 : decode cX4_next 78 = .ok (.istore_n 2, 1) := by decide +kernel
theorem dX4_next_79 : decode cX4_next 79 = .ok (.iinc 3 1, 3) := by decide +kernel
theorem dX4_next_82 : decode cX4_next 82 = .ok (.goto (-75), 3) := by decide +kernel
theorem dX4_next_85 : decode cX4_next 85 = .ok (.iload_n 1, 1) := by decide +kernel
theorem dX4_next_86 : decode cX4_next 86 = .ok (.ireturn, 1) := by decide +kernel
set_option maxRecDepth 20000 in
theorem ggX4_nearest_X4_of : GoodIn wsX4_nearest wsX4_of := goodIn_r _ [7, 2, 8, 9, 10, 11, 12, 13, 14, 15, 16, 17, 18, 19, 20, 21, 22] (by decide +kernel) (by decide +kernel)
set_option maxRecDepth 20000 in
theorem gX4_nearest_X4_of : GoodIn wsX4_nearest (wsV RX4 33 RX4 yX4_of wsX4_of) := goodIn_app (goodIn_of _ (by decide +kernel)) ggX4_nearest_X4_of
theorem dX4_nearest_0 : decode cX4_nearest 0 = .ok (.ldc 109, 2) := by decide +kernel
theorem dX4_nearest_2 : decode cX4_nearest 2 = .ok (.istore_n 2, 1) := by decide +kernel
theorem dX4_nearest_3 : decode cX4_nearest 3 = .ok (.iconst 0, 1) := by decide +kernel
theorem dX4_nearest_4 : decode cX4_nearest 4 = .ok (.istore_n 3, 1) := by decide +kernel
theorem dX4_nearest_5 : decode cX4_nearest 5 = .ok (.iload_n 3, 1) := by decide +kernel
theorem dX4_nearest_6 : decode cX4_nearest 6 = .ok (.aload_n 0, 1) := by decide +kernel
theorem dX4_nearest_7 : decode cX4_nearest 7 = .ok (.getfield 7, 3) := by decide +kernel
theorem dX4_nearest_10 : decode cX4_nearest 10 = .ok (.iconst 0, 1) := by decide +kernel
theorem dX4_nearest_11 : decode cX4_nearest 11 = .ok (.iaload, 1) := by decide +kernel
theorem dX4_nearest_12 : decode cX4_nearest 12 = .ok (.if_icmp .ge 55, 3) := by decide +kernel
theorem dX4_nearest_15 : decode cX4_nearest 15 = .ok (.iload_n 1, 1) := by decide +kernel
theorem dX4_nearest_16 : decode cX4_nearest 16 = .ok (.iload_n 3, 1) := by decide +kernel
theorem dX4_nearest_17 : decode cX4_nearest 17 = .ok (.ishr, 1) := by decide +kernel
theorem dX4_nearest_18 : decode cX4_nearest 18 = .ok (.iconst 1, 1) := by decide +kernel
theorem dX4_nearest_19 : decode cX4_nearest 19 = .ok (.iand, 1) := by decide +kernel
theorem dX4_nearest_20 : decode cX4_nearest 20 = .ok (.iconst 1, 1) := by decide +kernel
theorem dX4_nearest_21 : decode cX4_nearest 21 = .ok (.if_icmp .ne 26, 3) := by decide +kernel
theorem dX4_nearest_24 : decode cX4_nearest 24 = .ok (.iload_n 2, 1) := by decide +kernel
theorem dX4_nearest_25 : decode cX4_nearest 25 = .ok (.ifCond .lt 18, 3) := by decide +kernel
theorem dX4_nearest_28 : decode cX4_nearest 28 = .ok (.aload_n 0, 1) := by decide +kernel
theorem dX4_nearest_29 : decode cX4_nearest 29 = .ok (.iload_n 3, 1) := by decide +kernel
theorem dX4_nearest_30 : decode cX4_nearest 30 = .ok (.iconst 0, 1) := by decide +kernel
theorem dX4_nearest_31 : decode cX4_nearest 31 = .ok (.invokevirtual 33, 3) := by decide +kernel
theorem dX4_nearest_34 : decode cX4_nearest 34 = .ok (.aload_n 0, 1) := by decide +kernel
theorem dX4_nearest_35 : decode cX4_nearest 35 = .ok (.iload_n 2, 1) := by decide +kernel
theorem dX4_nearest_36 : decode cX4_nearest 36 = .ok (.iconst 0, 1) := by decide +kernel
theorem dX4_nearest_37 : decode cX4_nearest 37 = .ok (.invokevirtual 33, 3) := by decide +kernel
theorem dX4_nearest_40 : decode cX4_nearest 40 = .ok (.if_icmp .ge 7, 3) := by decide +kernel
theorem dX4_nearest_43 : decode cX4_nearest 43 = .ok (.iconst 1, 1) := by decide +kernel
theorem dX4_nearest_44 : decode cX4_nearest 44 = .ok (.goto 4, 3) := by decide +kernel
theorem dX4_nearest_47 : decode cX4_nearest 47 = .ok (.iconst 0, 1) := by decide +kernel
theorem dX4_nearest_48 : decode cX4_nearest 48 = .ok (.istore 4, 2) := by decide +kernel
theorem dX4_nearest_50 : decode cX4_nearest 50 = .ok (.iload 4, 2) := by decide +kernel
theorem dX4_nearest_52 : decode cX4_nearest 52 = .ok (.ifCond .eq 7, 3) := by decide +kernel
theorem dX4_nearest_55 : decode cX4_nearest 55 = .ok (.iload_n 3, 1) := by decide +kernel
theorem dX4_nearest_56 : decode cX4_nearest 56 = .ok (.goto 4, 3) := by decide +kernel
theorem dX4_nearest_59 : decode cX4_nearest 59 = .ok (.iload_n 2, 1) := by decide +kernel
theorem dX4_nearest_60 : decode cX4_nearest 60 = .ok (.istore_n 2, 1) := by decide +kernel
theorem dX4_nearest_61 : decode cX4_nearest 61 = .ok (.iinc 3 1, 3) := by decide +kernel
theorem dX4_nearest_64 : decode cX4_nearest 64 = .ok (.goto (-59), 3) := by decide +kernel
theorem dX4_nearest_67 : decode cX4_nearest 67 = .ok (.iload_n 2, 1) := by decide +kernel
theorem dX4_nearest_68 : decode cX4_nearest 68 = .ok (.ireturn, 1) := by decide +kernel
set_option maxRecDepth 20000 in
theorem ggX4_round_X4_in : GoodIn wsX4_round wsX4_in := goodIn_r _ [6] (by decide +kernel) (by decide +kernel)
set_option maxRecDepth 20000 in
theorem gX4_round_X4_in : GoodIn wsX4_round (va_wsS RX4 53 yX4_in wsX4_in) := goodIn_app (goodIn_of _ (by decide +kernel)) ggX4_round_X4_in
set_option maxRecDepth 20000 in
theorem ggX4_round_X4_nearest : GoodIn wsX4_round wsX4_nearest := goodIn_r _ [10, 11, 1, 12, 13, 14, 5, 15, 36, 37, 38, 39, 40, 41, 42, 43, 44, 45, 46, 47, 48, 49, 50] (by decide +kernel) (by decide +kernel)
set_option maxRecDepth 20000 in
theorem gX4_round_X4_nearest : GoodIn wsX4_round (wsV RX4 117 RX4 yX4_nearest wsX4_nearest) := goodIn_app (goodIn_of _ (by decide +kernel)) ggX4_round_X4_nearest
set_option maxRecDepth 20000 in
theorem ggX4_round_X4_of : GoodIn wsX4_round wsX4_of := goodIn_r _ [15, 1, 36, 37, 38, 39, 40, 41, 42, 43, 44, 45, 46, 47, 48, 49, 50] (by decide +kernel) (by decide +kernel)
set_option maxRecDepth 20000 in
theorem gX4_round_X4_of : GoodIn wsX4_round (wsV RX4 33 RX4 yX4_of wsX4_of) := goodIn_app (goodIn_of _ (by decide +kernel)) ggX4_round_X4_of
set_option maxRecDepth 20000 in
theorem ggX4_round_X4_hoursBetween : GoodIn wsX4_round wsX4_hoursBetween := goodIn_r _ [18, 19, 20, 5, 21, 22, 23, 24] (by decide +kernel) (by decide +kernel)
set_option maxRecDepth 20000 in
theorem gX4_round_X4_hoursBetween : GoodIn wsX4_round (va_wsS RX4 68 yX4_hoursBetween wsX4_hoursBetween) := goodIn_app (goodIn_of _ (by decide +kernel)) ggX4_round_X4_hoursBetween
set_option maxRecDepth 20000 in
theorem ggX4_round_X4_hoursOf : GoodIn wsX4_round wsX4_hoursOf := goodIn_r _ [27] (by decide +kernel) (by decide +kernel)
set_option maxRecDepth 20000 in
theorem gX4_round_X4_hoursOf : GoodIn wsX4_round (va_wsS RX4 72 yX4_hoursOf wsX4_hoursOf) := goodIn_app (goodIn_of _ (by decide +kernel)) ggX4_round_X4_hoursOf
set_option maxRecDepth 20000 in
theorem ggX4_round_X4_leatherOf : GoodIn wsX4_round wsX4_leatherOf := goodIn_r _ [31, 12, 13, 14, 5, 15, 1, 22, 23, 24, 36, 37, 38, 39, 40, 41, 42, 43, 44, 45, 46, 47, 48, 49, 50] (by decide +kernel) (by decide +kernel)
set_option maxRecDepth 20000 in
theorem gX4_round_X4_leatherOf : GoodIn wsX4_round (wsV RX4 75 RX4 yX4_leatherOf wsX4_leatherOf) := goodIn_app (goodIn_of _ (by decide +kernel)) ggX4_round_X4_leatherOf
set_option maxRecDepth 20000 in
theorem ggX4_round_X4_owes : GoodIn wsX4_round wsX4_owes := goodIn_r _ [35, 1, 25, 26, 5, 27, 28, 29, 30, 31, 12, 13, 14, 15, 22, 23, 24, 36, 37, 38, 39, 40, 41, 42, 43, 44, 45, 46, 47, 48, 49, 50] (by decide +kernel) (by decide +kernel)
set_option maxRecDepth 20000 in
theorem gX4_round_X4_owes : GoodIn wsX4_round (wsV RX4 78 RX4 yX4_owes wsX4_owes) := goodIn_app (goodIn_of _ (by decide +kernel)) ggX4_round_X4_owes
theorem dX4_round_0 : decode cX4_round 0 = .ok (.iload_n 1, 1) := by decide +kernel
theorem dX4_round_1 : decode cX4_round 1 = .ok (.iconst 1, 1) := by decide +kernel
theorem dX4_round_2 : decode cX4_round 2 = .ok (.iconst 1, 1) := by decide +kernel
theorem dX4_round_3 : decode cX4_round 3 = .ok (.aload_n 0, 1) := by decide +kernel
theorem dX4_round_4 : decode cX4_round 4 = .ok (.getfield 7, 3) := by decide +kernel
theorem dX4_round_7 : decode cX4_round 7 = .ok (.iconst 0, 1) := by decide +kernel
theorem dX4_round_8 : decode cX4_round 8 = .ok (.iaload, 1) := by decide +kernel
theorem dX4_round_9 : decode cX4_round 9 = .ok (.ishl, 1) := by decide +kernel
theorem dX4_round_10 : decode cX4_round 10 = .ok (.iconst 1, 1) := by decide +kernel
theorem dX4_round_11 : decode cX4_round 11 = .ok (.isub, 1) := by decide +kernel
theorem dX4_round_12 : decode cX4_round 12 = .ok (.invokestatic 53, 3) := by decide +kernel
theorem dX4_round_15 : decode cX4_round 15 = .ok (.ifCond .eq 12, 3) := by decide +kernel
theorem dX4_round_18 : decode cX4_round 18 = .ok (.iload_n 2, 1) := by decide +kernel
theorem dX4_round_19 : decode cX4_round 19 = .ok (.iconst 0, 1) := by decide +kernel
theorem dX4_round_20 : decode cX4_round 20 = .ok (.iconst 2, 1) := by decide +kernel
theorem dX4_round_21 : decode cX4_round 21 = .ok (.invokestatic 53, 3) := by decide +kernel
theorem dX4_round_24 : decode cX4_round 24 = .ok (.ifCond .ne 6, 3) := by decide +kernel
theorem dX4_round_27 : decode cX4_round 27 = .ok (.ldc 57, 2) := by decide +kernel
theorem dX4_round_29 : decode cX4_round 29 = .ok (.ireturn, 1) := by decide +kernel
theorem dX4_round_30 : decode cX4_round 30 = .ok (.iconst 0, 1) := by decide +kernel
theorem dX4_round_31 : decode cX4_round 31 = .ok (.istore_n 3, 1) := by decide +kernel
theorem dX4_round_32 : decode cX4_round 32 = .ok (.iconst 0, 1) := by decide +kernel
theorem dX4_round_33 : decode cX4_round 33 = .ok (.istore 4, 2) := by decide +kernel
theorem dX4_round_35 : decode cX4_round 35 = .ok (.iconst 0, 1) := by decide +kernel
theorem dX4_round_36 : decode cX4_round 36 = .ok (.istore 5, 2) := by decide +kernel
theorem dX4_round_38 : decode cX4_round 38 = .ok (.aload_n 0, 1) := by decide +kernel
theorem dX4_round_39 : decode cX4_round 39 = .ok (.getfield 7, 3) := by decide +kernel
theorem dX4_round_42 : decode cX4_round 42 = .ok (.iconst 2, 1) := by decide +kernel
theorem dX4_round_43 : decode cX4_round 43 = .ok (.iaload, 1) := by decide +kernel
theorem dX4_round_44 : decode cX4_round 44 = .ok (.istore 6, 2) := by decide +kernel
theorem dX4_round_46 : decode cX4_round 46 = .ok (.iload_n 1, 1) := by decide +kernel
theorem dX4_round_47 : decode cX4_round 47 = .ok (.istore 7, 2) := by decide +kernel
theorem dX4_round_49 : decode cX4_round 49 = .ok (.iload 7, 2) := by decide +kernel
theorem dX4_round_51 : decode cX4_round 51 = .ok (.ifCond .eq 137, 3) := by decide +kernel
theorem dX4_round_54 : decode cX4_round 54 = .ok (.aload_n 0, 1) := by decide +kernel
theorem dX4_round_55 : decode cX4_round 55 = .ok (.iload 7, 2) := by decide +kernel
theorem dX4_round_57 : decode cX4_round 57 = .ok (.invokevirtual 117, 3) := by decide +kernel
theorem dX4_round_60 : decode cX4_round 60 = .ok (.istore 8, 2) := by decide +kernel
theorem dX4_round_62 : decode cX4_round 62 = .ok (.aload_n 0, 1) := by decide +kernel
theorem dX4_round_63 : decode cX4_round 63 = .ok (.iload 8, 2) := by decide +kernel
theorem dX4_round_65 : decode cX4_round 65 = .ok (.iconst 5, 1) := by decide +kernel
theorem dX4_round_66 : decode cX4_round 66 = .ok (.invokevirtual 33, 3) := by decide +kernel
theorem dX4_round_69 : decode cX4_round 69 = .ok (.aload_n 0, 1) := by decide +kernel
theorem dX4_round_70 : decode cX4_round 70 = .ok (.getfield 7, 3) := by decide +kernel
theorem dX4_round_73 : decode cX4_round 73 = .ok (.bipush 13, 2) := by decide +kernel
theorem dX4_round_75 : decode cX4_round 75 = .ok (.iaload, 1) := by decide +kernel
theorem dX4_round_76 : decode cX4_round 76 = .ok (.if_icmp .gt 17, 3) := by decide +kernel
theorem dX4_round_79 : decode cX4_round 79 = .ok (.aload_n 0, 1) := by decide +kernel
theorem dX4_round_80 : decode cX4_round 80 = .ok (.iload 8, 2) := by decide +kernel
theorem dX4_round_82 : decode cX4_round 82 = .ok (.iconst 2, 1) := by decide +kernel
theorem dX4_round_83 : decode cX4_round 83 = .ok (.invokevirtual 33, 3) := by decide +kernel
theorem dX4_round_86 : decode cX4_round 86 = .ok (.ifCond .le 7, 3) := by decide +kernel
theorem dX4_round_89 : decode cX4_round 89 = .ok (.iconst 1, 1) := by decide +kernel
theorem dX4_round_90 : decode cX4_round 90 = .ok (.goto 4, 3) := by decide +kernel
theorem dX4_round_93 : decode cX4_round 93 = .ok (.iconst 0, 1) := by decide +kernel
theorem dX4_round_94 : decode cX4_round 94 = .ok (.istore 9, 2) := by decide +kernel
theorem dX4_round_96 : decode cX4_round 96 = .ok (.iload_n 3, 1) := by decide +kernel
theorem dX4_round_97 : decode cX4_round 97 = .ok (.iload 6, 2) := by decide +kernel
theorem dX4_round_99 : decode cX4_round 99 = .ok (.aload_n 0, 1) := by decide +kernel
theorem dX4_round_100 : decode cX4_round 100 = .ok (.iload 8, 2) := by decide +kernel
theorem dX4_round_102 : decode cX4_round 102 = .ok (.iconst 0, 1) := by decide +kernel
theorem dX4_round_103 : decode cX4_round 103 = .ok (.invokevirtual 33, 3) := by decide +kernel
theorem dX4_round_106 : decode cX4_round 106 = .ok (.invokestatic 68, 3) := by decide +kernel
theorem dX4_round_109 : decode cX4_round 109 = .ok (.iload 9, 2) := by decide +kernel
theorem dX4_round_111 : decode cX4_round 111 = .ok (.ifCond .eq 10, 3) := by decide +kernel
theorem dX4_round_114 : decode cX4_round 114 = .ok (.iconst 0, 1) := by decide +kernel
theorem dX4_round_115 : decode cX4_round 115 = .ok (.invokestatic 72, 3) := by decide +kernel
theorem dX4_round_118 : decode cX4_round 118 = .ok (.goto 4, 3) := by decide +kernel
theorem dX4_round_121 : decode cX4_round 121 = .ok (.iconst 0, 1) := by decide +kernel
theorem dX4_round_122 : decode cX4_round 122 = .ok (.iadd, 1) := by decide +kernel
theorem dX4_round_123 : decode cX4_round 123 = .ok (.iadd, 1) := by decide +kernel
theorem dX4_round_124 : decode cX4_round 124 = .ok (.istore_n 3, 1) := by decide +kernel
theorem dX4_round_125 : decode cX4_round 125 = .ok (.iload 4, 2) := by decide +kernel
theorem dX4_round_127 : decode cX4_round 127 = .ok (.iload 9, 2) := by decide +kernel
theorem dX4_round_129 : decode cX4_round 129 = .ok (.ifCond .eq 13, 3) := by decide +kernel
theorem dX4_round_132 : decode cX4_round 132 = .ok (.aload_n 0, 1) := by decide +kernel
theorem dX4_round_133 : decode cX4_round 133 = .ok (.iload 8, 2) := by decide +kernel
theorem dX4_round_135 : decode cX4_round 135 = .ok (.iconst 0, 1) := by decide +kernel
theorem dX4_round_136 : decode cX4_round 136 = .ok (.invokevirtual 75, 3) := by decide +kernel
theorem dX4_round_139 : decode cX4_round 139 = .ok (.goto 4, 3) := by decide +kernel
theorem dX4_round_142 : decode cX4_round 142 = .ok (.iconst 0, 1) := by decide +kernel
theorem dX4_round_143 : decode cX4_round 143 = .ok (.iadd, 1) := by decide +kernel
theorem dX4_round_144 : decode cX4_round 144 = .ok (.istore 4, 2) := by decide +kernel
theorem dX4_round_146 : decode cX4_round 146 = .ok (.iload 5, 2) := by decide +kernel
theorem dX4_round_148 : decode cX4_round 148 = .ok (.iload 9, 2) := by decide +kernel
theorem dX4_round_150 : decode cX4_round 150 = .ok (.ifCond .eq 13, 3) := by decide +kernel
theorem dX4_round_153 : decode cX4_round 153 = .ok (.aload_n 0, 1) := by decide +kernel
theorem dX4_round_154 : decode cX4_round 154 = .ok (.iload 8, 2) := by decide +kernel
theorem dX4_round_156 : decode cX4_round 156 = .ok (.iconst 0, 1) := by decide +kernel
theorem dX4_round_157 : decode cX4_round 157 = .ok (.invokevirtual 78, 3) := by decide +kernel
theorem dX4_round_160 : decode cX4_round 160 = .ok (.goto 4, 3) := by decide +kernel
theorem dX4_round_163 : decode cX4_round 163 = .ok (.iconst 0, 1) := by decide +kernel
theorem dX4_round_164 : decode cX4_round 164 = .ok (.iadd, 1) := by decide +kernel
theorem dX4_round_165 : decode cX4_round 165 = .ok (.istore 5, 2) := by decide +kernel
theorem dX4_round_167 : decode cX4_round 167 = .ok (.aload_n 0, 1) := by decide +kernel
theorem dX4_round_168 : decode cX4_round 168 = .ok (.iload 8, 2) := by decide +kernel
theorem dX4_round_170 : decode cX4_round 170 = .ok (.iconst 0, 1) := by decide +kernel
theorem dX4_round_171 : decode cX4_round 171 = .ok (.invokevirtual 33, 3) := by decide +kernel
theorem dX4_round_174 : decode cX4_round 174 = .ok (.istore 6, 2) := by decide +kernel
theorem dX4_round_176 : decode cX4_round 176 = .ok (.iload 7, 2) := by decide +kernel
theorem dX4_round_178 : decode cX4_round 178 = .ok (.iconst 1, 1) := by decide +kernel
theorem dX4_round_179 : decode cX4_round 179 = .ok (.iload 8, 2) := by decide +kernel
theorem dX4_round_181 : decode cX4_round 181 = .ok (.ishl, 1) := by decide +kernel
theorem dX4_round_182 : decode cX4_round 182 = .ok (.ixor, 1) := by decide +kernel
theorem dX4_round_183 : decode cX4_round 183 = .ok (.istore 7, 2) := by decide +kernel
theorem dX4_round_185 : decode cX4_round 185 = .ok (.goto (-136), 3) := by decide +kernel
theorem dX4_round_188 : decode cX4_round 188 = .ok (.iload_n 2, 1) := by decide +kernel
theorem dX4_round_189 : decode cX4_round 189 = .ok (.ifCond .ne 7, 3) := by decide +kernel
theorem dX4_round_192 : decode cX4_round 192 = .ok (.iload_n 3, 1) := by decide +kernel
theorem dX4_round_193 : decode cX4_round 193 = .ok (.goto 15, 3) := by decide +kernel
theorem dX4_round_196 : decode cX4_round 196 = .ok (.iload_n 2, 1) := by decide +kernel
theorem dX4_round_197 : decode cX4_round 197 = .ok (.iconst 1, 1) := by decide +kernel
theorem dX4_round_198 : decode cX4_round 198 = .ok (.if_icmp .ne 8, 3) := by decide +kernel
theorem dX4_round_201 : decode cX4_round 201 = .ok (.iload 4, 2) := by decide +kernel
theorem dX4_round_203 : decode cX4_round 203 = .ok (.goto 5, 3) := by decide +kernel
theorem dX4_round_206 : decode cX4_round 206 = .ok (.iload 5, 2) := by decide +kernel
theorem dX4_round_208 : decode cX4_round 208 = .ok (.ireturn, 1) := by decide +kernel
set_option maxRecDepth 20000 in
theorem ggX4_sum_X4_of : GoodIn wsX4_sum wsX4_of := goodIn_r _ [6, 1, 7, 8, 9, 10, 11, 12, 13, 14, 15, 16, 17, 18, 19, 20, 21] (by decide +kernel) (by decide +kernel)
set_option maxRecDepth 20000 in
theorem gX4_sum_X4_of : GoodIn wsX4_sum (wsV RX4 33 RX4 yX4_of wsX4_of) := goodIn_app (goodIn_of _ (by decide +kernel)) ggX4_sum_X4_of
theorem dX4_sum_0 : decode cX4_sum 0 = .ok (.iconst 0, 1) := by decide +kernel
theorem dX4_sum_1 : decode cX4_sum 1 = .ok (.istore_n 2, 1) := by decide +kernel
theorem dX4_sum_2 : decode cX4_sum 2 = .ok (.iconst 0, 1) := by decide +kernel
theorem dX4_sum_3 : decode cX4_sum 3 = .ok (.istore_n 3, 1) := by decide +kernel
theorem dX4_sum_4 : decode cX4_sum 4 = .ok (.iload_n 3, 1) := by decide +kernel
theorem dX4_sum_5 : decode cX4_sum 5 = .ok (.aload_n 0, 1) := by decide +kernel
theorem dX4_sum_6 : decode cX4_sum 6 = .ok (.getfield 7, 3) := by decide +kernel
theorem dX4_sum_9 : decode cX4_sum 9 = .ok (.iconst 0, 1) := by decide +kernel
theorem dX4_sum_10 : decode cX4_sum 10 = .ok (.iaload, 1) := by decide +kernel
theorem dX4_sum_11 : decode cX4_sum 11 = .ok (.if_icmp .ge 18, 3) := by decide +kernel
theorem dX4_sum_14 : decode cX4_sum 14 = .ok (.iload_n 2, 1) := by decide +kernel
theorem dX4_sum_15 : decode cX4_sum 15 = .ok (.aload_n 0, 1) := by decide +kernel
theorem dX4_sum_16 : decode cX4_sum 16 = .ok (.iload_n 3, 1) := by decide +kernel
theorem dX4_sum_17 : decode cX4_sum 17 = .ok (.iload_n 1, 1) := by decide +kernel
theorem dX4_sum_18 : decode cX4_sum 18 = .ok (.invokevirtual 33, 3) := by decide +kernel
theorem dX4_sum_21 : decode cX4_sum 21 = .ok (.iadd, 1) := by decide +kernel
theorem dX4_sum_22 : decode cX4_sum 22 = .ok (.istore_n 2, 1) := by decide +kernel
theorem dX4_sum_23 : decode cX4_sum 23 = .ok (.iinc 3 1, 3) := by decide +kernel
theorem dX4_sum_26 : decode cX4_sum 26 = .ok (.goto (-22), 3) := by decide +kernel
theorem dX4_sum_29 : decode cX4_sum 29 = .ok (.iload_n 2, 1) := by decide +kernel
theorem dX4_sum_30 : decode cX4_sum 30 = .ok (.ireturn, 1) := by decide +kernel
set_option maxRecDepth 20000 in
theorem ggX4_mean_X4_sum : GoodIn wsX4_mean wsX4_sum := goodIn_r _ [7, 1, 8, 9, 10, 6, 11, 24, 25, 26, 27, 28, 29, 30, 31, 32, 33, 34, 35, 36, 37, 38] (by decide +kernel) (by decide +kernel)
set_option maxRecDepth 20000 in
theorem gX4_mean_X4_sum : GoodIn wsX4_mean (wsV RX4 120 RX4 yX4_sum wsX4_sum) := goodIn_app (goodIn_of _ (by decide +kernel)) ggX4_mean_X4_sum
set_option maxRecDepth 20000 in
theorem ggX4_mean_Jxf58ca_floatToIntBits_5c35a : GoodIn wsX4_mean wsJxf58ca_floatToIntBits_5c35a := goodIn_r _ [15, 16, 17, 18, 19, 20, 21, 22, 14, 23] (by decide +kernel) (by decide +kernel)
set_option maxRecDepth 20000 in
theorem gX4_mean_Jxf58ca_floatToIntBits_5c35a : GoodIn wsX4_mean (va_wsS RX4 123 yJxf58ca_floatToIntBits_5c35a wsJxf58ca_floatToIntBits_5c35a) := goodIn_app (goodIn_of _ (by decide +kernel)) ggX4_mean_Jxf58ca_floatToIntBits_5c35a
theorem dX4_mean_0 : decode cX4_mean 0 = .ok (.aload_n 0, 1) := by decide +kernel
theorem dX4_mean_1 : decode cX4_mean 1 = .ok (.iconst 2, 1) := by decide +kernel
theorem dX4_mean_2 : decode cX4_mean 2 = .ok (.invokevirtual 120, 3) := by decide +kernel
theorem dX4_mean_5 : decode cX4_mean 5 = .ok (.i2f, 1) := by decide +kernel
theorem dX4_mean_6 : decode cX4_mean 6 = .ok (.aload_n 0, 1) := by decide +kernel
theorem dX4_mean_7 : decode cX4_mean 7 = .ok (.getfield 7, 3) := by decide +kernel
theorem dX4_mean_10 : decode cX4_mean 10 = .ok (.iconst 0, 1) := by decide +kernel
theorem dX4_mean_11 : decode cX4_mean 11 = .ok (.iaload, 1) := by decide +kernel
theorem dX4_mean_12 : decode cX4_mean 12 = .ok (.ifCond .ne 7, 3) := by decide +kernel
theorem dX4_mean_15 : decode cX4_mean 15 = .ok (.iconst 1, 1) := by decide +kernel
theorem dX4_mean_16 : decode cX4_mean 16 = .ok (.goto 9, 3) := by decide +kernel
theorem dX4_mean_19 : decode cX4_mean 19 = .ok (.aload_n 0, 1) := by decide +kernel
theorem dX4_mean_20 : decode cX4_mean 20 = .ok (.getfield 7, 3) := by decide +kernel
theorem dX4_mean_23 : decode cX4_mean 23 = .ok (.iconst 0, 1) := by decide +kernel
theorem dX4_mean_24 : decode cX4_mean 24 = .ok (.iaload, 1) := by decide +kernel
theorem dX4_mean_25 : decode cX4_mean 25 = .ok (.i2f, 1) := by decide +kernel
theorem dX4_mean_26 : decode cX4_mean 26 = .ok (.fdiv, 1) := by decide +kernel
theorem dX4_mean_27 : decode cX4_mean 27 = .ok (.fstore_n 1, 1) := by decide +kernel
theorem dX4_mean_28 : decode cX4_mean 28 = .ok (.aload_n 0, 1) := by decide +kernel
theorem dX4_mean_29 : decode cX4_mean 29 = .ok (.getfield 7, 3) := by decide +kernel
theorem dX4_mean_32 : decode cX4_mean 32 = .ok (.iconst 0, 1) := by decide +kernel
theorem dX4_mean_33 : decode cX4_mean 33 = .ok (.iaload, 1) := by decide +kernel
theorem dX4_mean_34 : decode cX4_mean 34 = .ok (.ifCond .ne 8, 3) := by decide +kernel
theorem dX4_mean_37 : decode cX4_mean 37 = .ok (.ldc 109, 2) := by decide +kernel
theorem dX4_mean_39 : decode cX4_mean 39 = .ok (.goto 7, 3) := by decide +kernel
theorem dX4_mean_42 : decode cX4_mean 42 = .ok (.fload_n 1, 1) := by decide +kernel
theorem dX4_mean_43 : decode cX4_mean 43 = .ok (.invokestatic 123, 3) := by decide +kernel
theorem dX4_mean_46 : decode cX4_mean 46 = .ok (.ireturn, 1) := by decide +kernel
set_option maxRecDepth 20000 in
theorem ggX4_count_X4_sum : GoodIn wsX4_count wsX4_sum := goodIn_r _ [9, 1, 10, 11, 12, 8, 13, 25, 26, 27, 28, 29, 30, 31, 32, 33, 34, 35, 36, 37, 38, 39] (by decide +kernel) (by decide +kernel)
set_option maxRecDepth 20000 in
theorem gX4_count_X4_sum : GoodIn wsX4_count (wsV RX4 120 RX4 yX4_sum wsX4_sum) := goodIn_app (goodIn_of _ (by decide +kernel)) ggX4_count_X4_sum
set_option maxRecDepth 20000 in
theorem ggX4_count_X4_coldOnes : GoodIn wsX4_count wsX4_coldOnes := goodIn_r _ [17, 1, 18, 19, 20, 8, 21, 10, 11, 12, 13, 25, 26, 27, 28, 29, 30, 31, 32, 33, 34, 35, 36, 37, 38, 39] (by decide +kernel) (by decide +kernel)
set_option maxRecDepth 20000 in
theorem gX4_count_X4_coldOnes : GoodIn wsX4_count (wsV RX4 94 RX4 yX4_coldOnes wsX4_coldOnes) := goodIn_app (goodIn_of _ (by decide +kernel)) ggX4_count_X4_coldOnes
set_option maxRecDepth 20000 in
theorem ggX4_count_X4_in : GoodIn wsX4_count wsX4_in := goodIn_r _ [24] (by decide +kernel) (by decide +kernel)
set_option maxRecDepth 20000 in
theorem gX4_count_X4_in : GoodIn wsX4_count (va_wsS RX4 53 yX4_in wsX4_in) := goodIn_app (goodIn_of _ (by decide +kernel)) ggX4_count_X4_in
theorem dX4_count_0 : decode cX4_count 0 = .ok (.iload_n 1, 1) := by decide +kernel
theorem dX4_count_1 : decode cX4_count 1 = .ok (.tableswitch 124 0 13 #[71, 71, 71, 71, 71, 71, 78, 84, 84, 93, 98, 106, 114, 119], 71) := by decide +kernel
theorem dX4_count_72 : decode cX4_count 72 = .ok (.aload_n 0, 1) := by decide +kernel
theorem dX4_count_73 : decode cX4_count 73 = .ok (.getfield 7, 3) := by decide +kernel
theorem dX4_count_76 : decode cX4_count 76 = .ok (.iload_n 1, 1) := by decide +kernel
theorem dX4_count_77 : decode cX4_count 77 = .ok (.iaload, 1) := by decide +kernel
theorem dX4_count_78 : decode cX4_count 78 = .ok (.ireturn, 1) := by decide +kernel
theorem dX4_count_79 : decode cX4_count 79 = .ok (.aload_n 0, 1) := by decide +kernel
theorem dX4_count_80 : decode cX4_count 80 = .ok (.iconst 5, 1) := by decide +kernel
theorem dX4_count_81 : decode cX4_count 81 = .ok (.invokevirtual 120, 3) := by decide +kernel
theorem dX4_count_84 : decode cX4_count 84 = .ok (.ireturn, 1) := by decide +kernel
theorem dX4_count_85 : decode cX4_count 85 = .ok (.aload_n 0, 1) := by decide +kernel
theorem dX4_count_86 : decode cX4_count 86 = .ok (.getfield 7, 3) := by decide +kernel
theorem dX4_count_89 : decode cX4_count 89 = .ok (.iload_n 1, 1) := by decide +kernel
theorem dX4_count_90 : decode cX4_count 90 = .ok (.iconst 1, 1) := by decide +kernel
theorem dX4_count_91 : decode cX4_count 91 = .ok (.isub, 1) := by decide +kernel
theorem dX4_count_92 : decode cX4_count 92 = .ok (.iaload, 1) := by decide +kernel
theorem dX4_count_93 : decode cX4_count 93 = .ok (.ireturn, 1) := by decide +kernel
theorem dX4_count_94 : decode cX4_count 94 = .ok (.aload_n 0, 1) := by decide +kernel
theorem dX4_count_95 : decode cX4_count 95 = .ok (.invokevirtual 94, 3) := by decide +kernel
theorem dX4_count_98 : decode cX4_count 98 = .ok (.ireturn, 1) := by decide +kernel
theorem dX4_count_99 : decode cX4_count 99 = .ok (.aload_n 0, 1) := by decide +kernel
theorem dX4_count_100 : decode cX4_count 100 = .ok (.getfield 7, 3) := by decide +kernel
theorem dX4_count_103 : decode cX4_count 103 = .ok (.bipush 8, 2) := by decide +kernel
theorem dX4_count_105 : decode cX4_count 105 = .ok (.iaload, 1) := by decide +kernel
theorem dX4_count_106 : decode cX4_count 106 = .ok (.ireturn, 1) := by decide +kernel
theorem dX4_count_107 : decode cX4_count 107 = .ok (.aload_n 0, 1) := by decide +kernel
theorem dX4_count_108 : decode cX4_count 108 = .ok (.getfield 7, 3) := by decide +kernel
theorem dX4_count_111 : decode cX4_count 111 = .ok (.bipush 9, 2) := by decide +kernel
theorem dX4_count_113 : decode cX4_count 113 = .ok (.iaload, 1) := by decide +kernel
theorem dX4_count_114 : decode cX4_count 114 = .ok (.ireturn, 1) := by decide +kernel
theorem dX4_count_115 : decode cX4_count 115 = .ok (.aload_n 0, 1) := by decide +kernel
theorem dX4_count_116 : decode cX4_count 116 = .ok (.getfield 29, 3) := by decide +kernel
theorem dX4_count_119 : decode cX4_count 119 = .ok (.ireturn, 1) := by decide +kernel
theorem dX4_count_120 : decode cX4_count 120 = .ok (.aload_n 0, 1) := by decide +kernel
theorem dX4_count_121 : decode cX4_count 121 = .ok (.getfield 129, 3) := by decide +kernel
theorem dX4_count_124 : decode cX4_count 124 = .ok (.ireturn, 1) := by decide +kernel
theorem dX4_count_125 : decode cX4_count 125 = .ok (.iload_n 1, 1) := by decide +kernel
theorem dX4_count_126 : decode cX4_count 126 = .ok (.bipush 20, 2) := by decide +kernel
theorem dX4_count_128 : decode cX4_count 128 = .ok (.bipush 23, 2) := by decide +kernel
theorem dX4_count_130 : decode cX4_count 130 = .ok (.invokestatic 53, 3) := by decide +kernel
theorem dX4_count_133 : decode cX4_count 133 = .ok (.ifCond .eq 18, 3) := by decide +kernel
theorem dX4_count_136 : decode cX4_count 136 = .ok (.aload_n 0, 1) := by decide +kernel
theorem dX4_count_137 : decode cX4_count 137 = .ok (.getfield 7, 3) := by decide +kernel
theorem dX4_count_140 : decode cX4_count 140 = .ok (.bipush 10, 2) := by decide +kernel
theorem dX4_count_142 : decode cX4_count 142 = .ok (.iload_n 1, 1) := by decide +kernel
theorem dX4_count_143 : decode cX4_count 143 = .ok (.iadd, 1) := by decide +kernel
theorem dX4_count_144 : decode cX4_count 144 = .ok (.bipush 20, 2) := by decide +kernel
theorem dX4_count_146 : decode cX4_count 146 = .ok (.isub, 1) := by decide +kernel
theorem dX4_count_147 : decode cX4_count 147 = .ok (.iaload, 1) := by decide +kernel
theorem dX4_count_148 : decode cX4_count 148 = .ok (.goto 5, 3) := by decide +kernel
theorem dX4_count_151 : decode cX4_count 151 = .ok (.ldc 57, 2) := by decide +kernel
theorem dX4_count_153 : decode cX4_count 153 = .ok (.ireturn, 1) := by decide +kernel
theorem dX4_undo_0 : decode cX4_undo 0 = .ok (.aload_n 0, 1) := by decide +kernel
theorem dX4_undo_1 : decode cX4_undo 1 = .ok (.getfield 29, 3) := by decide +kernel
theorem dX4_undo_4 : decode cX4_undo 4 = .ok (.ifCond .ne 6, 3) := by decide +kernel
theorem dX4_undo_7 : decode cX4_undo 7 = .ok (.ldc 71, 2) := by decide +kernel
theorem dX4_undo_9 : decode cX4_undo 9 = .ok (.ireturn, 1) := by decide +kernel
theorem dX4_undo_10 : decode cX4_undo 10 = .ok (.aload_n 0, 1) := by decide +kernel
theorem dX4_undo_11 : decode cX4_undo 11 = .ok (.dup, 1) := by decide +kernel
theorem dX4_undo_12 : decode cX4_undo 12 = .ok (.getfield 29, 3) := by decide +kernel
theorem dX4_undo_15 : decode cX4_undo 15 = .ok (.iconst 1, 1) := by decide +kernel
theorem dX4_undo_16 : decode cX4_undo 16 = .ok (.isub, 1) := by decide +kernel
theorem dX4_undo_17 : decode cX4_undo 17 = .ok (.putfield 29, 3) := by decide +kernel
theorem dX4_undo_20 : decode cX4_undo 20 = .ok (.iconst 0, 1) := by decide +kernel
theorem dX4_undo_21 : decode cX4_undo 21 = .ok (.istore_n 1, 1) := by decide +kernel
theorem dX4_undo_22 : decode cX4_undo 22 = .ok (.iload_n 1, 1) := by decide +kernel
theorem dX4_undo_23 : decode cX4_undo 23 = .ok (.bipush 78, 2) := by decide +kernel
theorem dX4_undo_25 : decode cX4_undo 25 = .ok (.if_icmp .ge 29, 3) := by decide +kernel
theorem dX4_undo_28 : decode cX4_undo 28 = .ok (.aload_n 0, 1) := by decide +kernel
theorem dX4_undo_29 : decode cX4_undo 29 = .ok (.getfield 7, 3) := by decide +kernel
theorem dX4_undo_32 : decode cX4_undo 32 = .ok (.iload_n 1, 1) := by decide +kernel
theorem dX4_undo_33 : decode cX4_undo 33 = .ok (.aload_n 0, 1) := by decide +kernel
theorem dX4_undo_34 : decode cX4_undo 34 = .ok (.getfield 13, 3) := by decide +kernel
theorem dX4_undo_37 : decode cX4_undo 37 = .ok (.bipush 78, 2) := by decide +kernel
theorem dX4_undo_39 : decode cX4_undo 39 = .ok (.aload_n 0, 1) := by decide +kernel
theorem dX4_undo_40 : decode cX4_undo 40 = .ok (.getfield 29, 3) := by decide +kernel
theorem dX4_undo_43 : decode cX4_undo 43 = .ok (.imul, 1) := by decide +kernel
theorem dX4_undo_44 : decode cX4_undo 44 = .ok (.iload_n 1, 1) := by decide +kernel
theorem dX4_undo_45 : decode cX4_undo 45 = .ok (.iadd, 1) := by decide +kernel
theorem dX4_undo_46 : decode cX4_undo 46 = .ok (.iaload, 1) := by decide +kernel
theorem dX4_undo_47 : decode cX4_undo 47 = .ok (.iastore, 1) := by decide +kernel
theorem dX4_undo_48 : decode cX4_undo 48 = .ok (.iinc 1 1, 3) := by decide +kernel
theorem dX4_undo_51 : decode cX4_undo 51 = .ok (.goto (-29), 3) := by decide +kernel
theorem dX4_undo_54 : decode cX4_undo 54 = .ok (.aload_n 0, 1) := by decide +kernel
theorem dX4_undo_55 : decode cX4_undo 55 = .ok (.getfield 29, 3) := by decide +kernel
theorem dX4_undo_58 : decode cX4_undo 58 = .ok (.ireturn, 1) := by decide +kernel
set_option maxRecDepth 20000 in
theorem ggX4_type_X4_in : GoodIn wsX4_type wsX4_in := goodIn_r _ [8] (by decide +kernel) (by decide +kernel)
set_option maxRecDepth 20000 in
theorem gX4_type_X4_in : GoodIn wsX4_type (va_wsS RX4 53 yX4_in wsX4_in) := goodIn_app (goodIn_of _ (by decide +kernel)) ggX4_type_X4_in
theorem dX4_type_0 : decode cX4_type 0 = .ok (.iload_n 1, 1) := by decide +kernel
theorem dX4_type_1 : decode cX4_type 1 = .ok (.bipush 32, 2) := by decide +kernel
theorem dX4_type_3 : decode cX4_type 3 = .ok (.bipush 126, 2) := by decide +kernel
theorem dX4_type_5 : decode cX4_type 5 = .ok (.invokestatic 53, 3) := by decide +kernel
theorem dX4_type_8 : decode cX4_type 8 = .ok (.ifCond .ne 6, 3) := by decide +kernel
theorem dX4_type_11 : decode cX4_type 11 = .ok (.ldc 57, 2) := by decide +kernel
theorem dX4_type_13 : decode cX4_type 13 = .ok (.ireturn, 1) := by decide +kernel
theorem dX4_type_14 : decode cX4_type 14 = .ok (.aload_n 0, 1) := by decide +kernel
theorem dX4_type_15 : decode cX4_type 15 = .ok (.getfield 129, 3) := by decide +kernel
theorem dX4_type_18 : decode cX4_type 18 = .ok (.bipush 60, 2) := by decide +kernel
theorem dX4_type_20 : decode cX4_type 20 = .ok (.if_icmp .ne 6, 3) := by decide +kernel
theorem dX4_type_23 : decode cX4_type 23 = .ok (.ldc 58, 2) := by decide +kernel
theorem dX4_type_25 : decode cX4_type 25 = .ok (.ireturn, 1) := by decide +kernel
theorem dX4_type_26 : decode cX4_type 26 = .ok (.aload_n 0, 1) := by decide +kernel
theorem dX4_type_27 : decode cX4_type 27 = .ok (.getfield 22, 3) := by decide +kernel
theorem dX4_type_30 : decode cX4_type 30 = .ok (.aload_n 0, 1) := by decide +kernel
theorem dX4_type_31 : decode cX4_type 31 = .ok (.getfield 129, 3) := by decide +kernel
theorem dX4_type_34 : decode cX4_type 34 = .ok (.iload_n 1, 1) := by decide +kernel
theorem dX4_type_35 : decode cX4_type 35 = .ok (.iastore, 1) := by decide +kernel
theorem dX4_type_36 : decode cX4_type 36 = .ok (.aload_n 0, 1) := by decide +kernel
theorem dX4_type_37 : decode cX4_type 37 = .ok (.dup, 1) := by decide +kernel
theorem dX4_type_38 : decode cX4_type 38 = .ok (.getfield 129, 3) := by decide +kernel
theorem dX4_type_41 : decode cX4_type 41 = .ok (.iconst 1, 1) := by decide +kernel
theorem dX4_type_42 : decode cX4_type 42 = .ok (.iadd, 1) := by decide +kernel
theorem dX4_type_43 : decode cX4_type 43 = .ok (.putfield 129, 3) := by decide +kernel
theorem dX4_type_46 : decode cX4_type 46 = .ok (.aload_n 0, 1) := by decide +kernel
theorem dX4_type_47 : decode cX4_type 47 = .ok (.getfield 129, 3) := by decide +kernel
theorem dX4_type_50 : decode cX4_type 50 = .ok (.ireturn, 1) := by decide +kernel
theorem dX4_clearText_0 : decode cX4_clearText 0 = .ok (.aload_n 0, 1) := by decide +kernel
theorem dX4_clearText_1 : decode cX4_clearText 1 = .ok (.getfield 129, 3) := by decide +kernel
theorem dX4_clearText_4 : decode cX4_clearText 4 = .ok (.istore_n 1, 1) := by decide +kernel
theorem dX4_clearText_5 : decode cX4_clearText 5 = .ok (.aload_n 0, 1) := by decide +kernel
theorem dX4_clearText_6 : decode cX4_clearText 6 = .ok (.iconst 0, 1) := by decide +kernel
theorem dX4_clearText_7 : decode cX4_clearText 7 = .ok (.putfield 129, 3) := by decide +kernel
theorem dX4_clearText_10 : decode cX4_clearText 10 = .ok (.iload_n 1, 1) := by decide +kernel
theorem dX4_clearText_11 : decode cX4_clearText 11 = .ok (.ireturn, 1) := by decide +kernel
set_option maxRecDepth 20000 in
theorem ggX4_isAt_X4_in : GoodIn wsX4_isAt wsX4_in := goodIn_r _ [7] (by decide +kernel) (by decide +kernel)
set_option maxRecDepth 20000 in
theorem gX4_isAt_X4_in : GoodIn wsX4_isAt (va_wsS RX4 53 yX4_in wsX4_in) := goodIn_app (goodIn_of _ (by decide +kernel)) ggX4_isAt_X4_in
theorem dX4_isAt_0 : decode cX4_isAt 0 = .ok (.aload_n 0, 1) := by decide +kernel
theorem dX4_isAt_1 : decode cX4_isAt 1 = .ok (.getfield 132, 3) := by decide +kernel
theorem dX4_isAt_4 : decode cX4_isAt 4 = .ok (.aload_n 0, 1) := by decide +kernel
theorem dX4_isAt_5 : decode cX4_isAt 5 = .ok (.getfield 129, 3) := by decide +kernel
theorem dX4_isAt_8 : decode cX4_isAt 8 = .ok (.if_icmp .ge 24, 3) := by decide +kernel
theorem dX4_isAt_11 : decode cX4_isAt 11 = .ok (.aload_n 0, 1) := by decide +kernel
theorem dX4_isAt_12 : decode cX4_isAt 12 = .ok (.getfield 22, 3) := by decide +kernel
theorem dX4_isAt_15 : decode cX4_isAt 15 = .ok (.aload_n 0, 1) := by decide +kernel
theorem dX4_isAt_16 : decode cX4_isAt 16 = .ok (.getfield 132, 3) := by decide +kernel
theorem dX4_isAt_19 : decode cX4_isAt 19 = .ok (.iaload, 1) := by decide +kernel
theorem dX4_isAt_20 : decode cX4_isAt 20 = .ok (.iload_n 1, 1) := by decide +kernel
theorem dX4_isAt_21 : decode cX4_isAt 21 = .ok (.iload_n 2, 1) := by decide +kernel
theorem dX4_isAt_22 : decode cX4_isAt 22 = .ok (.invokestatic 53, 3) := by decide +kernel
theorem dX4_isAt_25 : decode cX4_isAt 25 = .ok (.ifCond .eq 7, 3) := by decide +kernel
theorem dX4_isAt_28 : decode cX4_isAt 28 = .ok (.iconst 1, 1) := by decide +kernel
theorem dX4_isAt_29 : decode cX4_isAt 29 = .ok (.goto 4, 3) := by decide +kernel
theorem dX4_isAt_32 : decode cX4_isAt 32 = .ok (.iconst 0, 1) := by decide +kernel
theorem dX4_isAt_33 : decode cX4_isAt 33 = .ok (.ireturn, 1) := by decide +kernel
set_option maxRecDepth 20000 in
theorem ggX4_reads_X4_isAt : GoodIn wsX4_reads wsX4_isAt := goodIn_r _ [9, 2, 10, 1, 11, 12, 8, 13, 14, 15, 16, 17, 18, 19, 20, 21, 22, 23, 24, 25, 26, 27, 28] (by decide +kernel) (by decide +kernel)
set_option maxRecDepth 20000 in
theorem gX4_reads_X4_isAt : GoodIn wsX4_reads (wsV RX4 135 RX4 yX4_isAt wsX4_isAt) := goodIn_app (goodIn_of _ (by decide +kernel)) ggX4_reads_X4_isAt
theorem dX4_reads_0 : decode cX4_reads 0 = .ok (.aload_n 0, 1) := by decide +kernel
theorem dX4_reads_1 : decode cX4_reads 1 = .ok (.aload_n 0, 1) := by decide +kernel
theorem dX4_reads_2 : decode cX4_reads 2 = .ok (.bipush 33, 2) := by decide +kernel
theorem dX4_reads_4 : decode cX4_reads 4 = .ok (.bipush 126, 2) := by decide +kernel
theorem dX4_reads_6 : decode cX4_reads 6 = .ok (.invokevirtual 135, 3) := by decide +kernel
theorem dX4_reads_9 : decode cX4_reads 9 = .ok (.ifCond .eq 15, 3) := by decide +kernel
theorem dX4_reads_12 : decode cX4_reads 12 = .ok (.aload_n 0, 1) := by decide +kernel
theorem dX4_reads_13 : decode cX4_reads 13 = .ok (.getfield 22, 3) := by decide +kernel
theorem dX4_reads_16 : decode cX4_reads 16 = .ok (.aload_n 0, 1) := by decide +kernel
theorem dX4_reads_17 : decode cX4_reads 17 = .ok (.getfield 132, 3) := by decide +kernel
theorem dX4_reads_20 : decode cX4_reads 20 = .ok (.iaload, 1) := by decide +kernel
theorem dX4_reads_21 : decode cX4_reads 21 = .ok (.goto 4, 3) := by decide +kernel
theorem dX4_reads_24 : decode cX4_reads 24 = .ok (.iconst 0, 1) := by decide +kernel
theorem dX4_reads_25 : decode cX4_reads 25 = .ok (.putfield 138, 3) := by decide +kernel
theorem dX4_reads_28 : decode cX4_reads 28 = .ok (.aload_n 0, 1) := by decide +kernel
theorem dX4_reads_29 : decode cX4_reads 29 = .ok (.getfield 138, 3) := by decide +kernel
theorem dX4_reads_32 : decode cX4_reads 32 = .ok (.bipush 119, 2) := by decide +kernel
theorem dX4_reads_34 : decode cX4_reads 34 = .ok (.if_icmp .eq 50, 3) := by decide +kernel
theorem dX4_reads_37 : decode cX4_reads 37 = .ok (.aload_n 0, 1) := by decide +kernel
theorem dX4_reads_38 : decode cX4_reads 38 = .ok (.getfield 138, 3) := by decide +kernel
theorem dX4_reads_41 : decode cX4_reads 41 = .ok (.bipush 98, 2) := by decide +kernel
theorem dX4_reads_43 : decode cX4_reads 43 = .ok (.if_icmp .eq 41, 3) := by decide +kernel
theorem dX4_reads_46 : decode cX4_reads 46 = .ok (.aload_n 0, 1) := by decide +kernel
theorem dX4_reads_47 : decode cX4_reads 47 = .ok (.getfield 138, 3) := by decide +kernel
theorem dX4_reads_50 : decode cX4_reads 50 = .ok (.bipush 112, 2) := by decide +kernel
theorem dX4_reads_52 : decode cX4_reads 52 = .ok (.if_icmp .eq 32, 3) := by decide +kernel
theorem dX4_reads_55 : decode cX4_reads 55 = .ok (.aload_n 0, 1) := by decide +kernel
theorem dX4_reads_56 : decode cX4_reads 56 = .ok (.getfield 138, 3) := by decide +kernel
theorem dX4_reads_59 : decode cX4_reads 59 = .ok (.bipush 104, 2) := by decide +kernel
theorem dX4_reads_61 : decode cX4_reads 61 = .ok (.if_icmp .eq 23, 3) := by decide +kernel
theorem dX4_reads_64 : decode cX4_reads 64 = .ok (.aload_n 0, 1) := by decide +kernel
theorem dX4_reads_65 : decode cX4_reads 65 = .ok (.getfield 138, 3) := by decide +kernel
theorem dX4_reads_68 : decode cX4_reads 68 = .ok (.bipush 99, 2) := by decide +kernel
theorem dX4_reads_70 : decode cX4_reads 70 = .ok (.if_icmp .eq 14, 3) := by decide +kernel
theorem dX4_reads_73 : decode cX4_reads 73 = .ok (.aload_n 0, 1) := by decide +kernel
theorem dX4_reads_74 : decode cX4_reads 74 = .ok (.getfield 138, 3) := by decide +kernel
theorem dX4_reads_77 : decode cX4_reads 77 = .ok (.bipush 100, 2) := by decide +kernel
theorem dX4_reads_79 : decode cX4_reads 79 = .ok (.if_icmp .eq 5, 3) := by decide +kernel
theorem dX4_reads_82 : decode cX4_reads 82 = .ok (.iconst 0, 1) := by decide +kernel
theorem dX4_reads_83 : decode cX4_reads 83 = .ok (.ireturn, 1) := by decide +kernel
theorem dX4_reads_84 : decode cX4_reads 84 = .ok (.aload_n 0, 1) := by decide +kernel
theorem dX4_reads_85 : decode cX4_reads 85 = .ok (.dup, 1) := by decide +kernel
theorem dX4_reads_86 : decode cX4_reads 86 = .ok (.getfield 132, 3) := by decide +kernel
theorem dX4_reads_89 : decode cX4_reads 89 = .ok (.iconst 1, 1) := by decide +kernel
theorem dX4_reads_90 : decode cX4_reads 90 = .ok (.iadd, 1) := by decide +kernel
theorem dX4_reads_91 : decode cX4_reads 91 = .ok (.putfield 132, 3) := by decide +kernel
theorem dX4_reads_94 : decode cX4_reads 94 = .ok (.aload_n 0, 1) := by decide +kernel
theorem dX4_reads_95 : decode cX4_reads 95 = .ok (.getfield 132, 3) := by decide +kernel
theorem dX4_reads_98 : decode cX4_reads 98 = .ok (.istore_n 1, 1) := by decide +kernel
theorem dX4_reads_99 : decode cX4_reads 99 = .ok (.aload_n 0, 1) := by decide +kernel
theorem dX4_reads_100 : decode cX4_reads 100 = .ok (.iconst 0, 1) := by decide +kernel
theorem dX4_reads_101 : decode cX4_reads 101 = .ok (.putfield 141, 3) := by decide +kernel
theorem dX4_reads_104 : decode cX4_reads 104 = .ok (.aload_n 0, 1) := by decide +kernel
theorem dX4_reads_105 : decode cX4_reads 105 = .ok (.bipush 48, 2) := by decide +kernel
theorem dX4_reads_107 : decode cX4_reads 107 = .ok (.bipush 57, 2) := by decide +kernel
theorem dX4_reads_109 : decode cX4_reads 109 = .ok (.invokevirtual 135, 3) := by decide +kernel
theorem dX4_reads_112 : decode cX4_reads 112 = .ok (.ifCond .eq 50, 3) := by decide +kernel
theorem dX4_reads_115 : decode cX4_reads 115 = .ok (.aload_n 0, 1) := by decide +kernel
theorem dX4_reads_116 : decode cX4_reads 116 = .ok (.getfield 132, 3) := by decide +kernel
theorem dX4_reads_119 : decode cX4_reads 119 = .ok (.iload_n 1, 1) := by decide +kernel
theorem dX4_reads_120 : decode cX4_reads 120 = .ok (.isub, 1) := by decide +kernel
theorem dX4_reads_121 : decode cX4_reads 121 = .ok (.iconst 3, 1) := by decide +kernel
theorem dX4_reads_122 : decode cX4_reads 122 = .ok (.if_icmp .ge 40, 3) := by decide +kernel
theorem dX4_reads_125 : decode cX4_reads 125 = .ok (.aload_n 0, 1) := by decide +kernel
theorem dX4_reads_126 : decode cX4_reads 126 = .ok (.bipush 10, 2) := by decide +kernel
theorem dX4_reads_128 : decode cX4_reads 128 = .ok (.aload_n 0, 1) := by decide +kernel
theorem dX4_reads_129 : decode cX4_reads 129 = .ok (.getfield 141, 3) := by decide +kernel
theorem dX4_reads_132 : decode cX4_reads 132 = .ok (.imul, 1) := by decide +kernel
theorem dX4_reads_133 : decode cX4_reads 133 = .ok (.aload_n 0, 1) := by decide +kernel
theorem dX4_reads_134 : decode cX4_reads 134 = .ok (.getfield 22, 3) := by decide +kernel
theorem dX4_reads_137 : decode cX4_reads 137 = .ok (.aload_n 0, 1) := by decide +kernel
theorem dX4_reads_138 : decode cX4_reads 138 = .ok (.getfield 132, 3) := by decide +kernel
theorem dX4_reads_141 : decode cX4_reads 141 = .ok (.iaload, 1) := by decide +kernel
theorem dX4_reads_142 : decode cX4_reads 142 = .ok (.iadd, 1) := by decide +kernel
theorem dX4_reads_143 : decode cX4_reads 143 = .ok (.bipush 48, 2) := by decide +kernel
theorem dX4_reads_145 : decode cX4_reads 145 = .ok (.isub, 1) := by decide +kernel
theorem dX4_reads_146 : decode cX4_reads 146 = .ok (.putfield 141, 3) := by decide +kernel
theorem dX4_reads_149 : decode cX4_reads 149 = .ok (.aload_n 0, 1) := by decide +kernel
theorem dX4_reads_150 : decode cX4_reads 150 = .ok (.dup, 1) := by decide +kernel
theorem dX4_reads_151 : decode cX4_reads 151 = .ok (.getfield 132, 3) := by decide +kernel
theorem dX4_reads_154 : decode cX4_reads 154 = .ok (.iconst 1, 1) := by decide +kernel
theorem dX4_reads_155 : decode cX4_reads 155 = .ok (.iadd, 1) := by decide +kernel
theorem dX4_reads_156 : decode cX4_reads 156 = .ok (.putfield 132, 3) := by decide +kernel
theorem dX4_reads_159 : decode cX4_reads 159 = .ok (.goto (-55), 3) := by decide +kernel
theorem dX4_reads_162 : decode cX4_reads 162 = .ok (.aload_n 0, 1) := by decide +kernel
theorem dX4_reads_163 : decode cX4_reads 163 = .ok (.getfield 132, 3) := by decide +kernel
theorem dX4_reads_166 : decode cX4_reads 166 = .ok (.iload_n 1, 1) := by decide +kernel
theorem dX4_reads_167 : decode cX4_reads 167 = .ok (.if_icmp .le 18, 3) := by decide +kernel
theorem dX4_reads_170 : decode cX4_reads 170 = .ok (.aload_n 0, 1) := by decide +kernel
theorem dX4_reads_171 : decode cX4_reads 171 = .ok (.bipush 59, 2) := by decide +kernel
theorem dX4_reads_173 : decode cX4_reads 173 = .ok (.bipush 59, 2) := by decide +kernel
theorem dX4_reads_175 : decode cX4_reads 175 = .ok (.invokevirtual 135, 3) := by decide +kernel
theorem dX4_reads_178 : decode cX4_reads 178 = .ok (.ifCond .eq 7, 3) := by decide +kernel
theorem dX4_reads_181 : decode cX4_reads 181 = .ok (.iconst 1, 1) := by decide +kernel
theorem dX4_reads_182 : decode cX4_reads 182 = .ok (.goto 4, 3) := by decide +kernel
theorem dX4_reads_185 : decode cX4_reads 185 = .ok (.iconst 0, 1) := by decide +kernel
theorem dX4_reads_186 : decode cX4_reads 186 = .ok (.istore_n 2, 1) := by decide +kernel
theorem dX4_reads_187 : decode cX4_reads 187 = .ok (.aload_n 0, 1) := by decide +kernel
theorem dX4_reads_188 : decode cX4_reads 188 = .ok (.dup, 1) := by decide +kernel
theorem dX4_reads_189 : decode cX4_reads 189 = .ok (.getfield 132, 3) := by decide +kernel
theorem dX4_reads_192 : decode cX4_reads 192 = .ok (.iload_n 2, 1) := by decide +kernel
theorem dX4_reads_193 : decode cX4_reads 193 = .ok (.ifCond .eq 7, 3) := by decide +kernel
theorem dX4_reads_196 : decode cX4_reads 196 = .ok (.iconst 1, 1) := by decide +kernel
theorem dX4_reads_197 : decode cX4_reads 197 = .ok (.goto 4, 3) := by decide +kernel
theorem dX4_reads_200 : decode cX4_reads 200 = .ok (.iconst 0, 1) := by decide +kernel
theorem dX4_reads_201 : decode cX4_reads 201 = .ok (.iadd, 1) := by decide +kernel
theorem dX4_reads_202 : decode cX4_reads 202 = .ok (.putfield 132, 3) := by decide +kernel
theorem dX4_reads_205 : decode cX4_reads 205 = .ok (.iload_n 2, 1) := by decide +kernel
theorem dX4_reads_206 : decode cX4_reads 206 = .ok (.ireturn, 1) := by decide +kernel
set_option maxRecDepth 20000 in
theorem ggX4_calls_X4_walk : GoodIn wsX4_calls wsX4_walk := goodIn_r _ [7, 8, 9, 10, 11, 12, 6, 13, 14, 15, 16, 17, 18, 19, 20, 21, 22, 23, 24, 25, 26, 27, 28, 29, 105, 106, 107, 108, 109, 110, 111, 112, 113, 114, 115, 116, 117, 118, 119] (by decide +kernel) (by decide +kernel)
set_option maxRecDepth 20000 in
theorem gX4_calls_X4_walk : GoodIn wsX4_calls (wsV RX4 144 RX4 yX4_walk wsX4_walk) := goodIn_app (goodIn_of _ (by decide +kernel)) ggX4_calls_X4_walk
set_option maxRecDepth 20000 in
theorem ggX4_calls_X4_buy : GoodIn wsX4_calls wsX4_buy := goodIn_r _ [33, 8, 9, 10, 34, 11, 12, 6, 13, 23, 24, 25, 26, 27, 28, 29, 105, 106, 107, 108, 109, 110, 111, 112, 113, 114, 115, 116, 117, 118, 119] (by decide +kernel) (by decide +kernel)
set_option maxRecDepth 20000 in
theorem gX4_calls_X4_buy : GoodIn wsX4_calls (wsV RX4 147 RX4 yX4_buy wsX4_buy) := goodIn_app (goodIn_of _ (by decide +kernel)) ggX4_calls_X4_buy
set_option maxRecDepth 20000 in
theorem ggX4_calls_X4_patch : GoodIn wsX4_calls wsX4_patch := goodIn_r _ [38, 8, 10, 39, 40, 41, 6, 42, 9, 43, 44, 45, 46, 47, 48, 49, 50, 51, 52, 53, 54, 55, 56, 57, 20, 21, 22, 23, 24, 25, 26, 27, 28, 29, 58, 59, 60, 61, 62, 63, 64, 65, 66, 67, 68, 69, 105, 106, 107, 108, 109, 110, 111, 112, 113, 114, 115, 116, 117, 118, 119] (by decide +kernel) (by decide +kernel)
set_option maxRecDepth 20000 in
theorem gX4_calls_X4_patch : GoodIn wsX4_calls (wsV RX4 150 RX4 yX4_patch wsX4_patch) := goodIn_app (goodIn_of _ (by decide +kernel)) ggX4_calls_X4_patch
set_option maxRecDepth 20000 in
theorem ggX4_calls_X4_hide : GoodIn wsX4_calls wsX4_hide := goodIn_r _ [73, 8, 10, 39, 40, 41, 6, 42, 9, 43, 44, 45, 46, 47, 48, 49, 50, 51, 52, 53, 54, 55, 56, 57, 20, 21, 22, 23, 24, 25, 26, 27, 28, 29, 58, 59, 60, 61, 62, 63, 64, 65, 66, 67, 68, 69, 105, 106, 107, 108, 109, 110, 111, 112, 113, 114, 115, 116, 117, 118, 119] (by decide +kernel) (by decide +kernel)
set_option maxRecDepth 20000 in
theorem gX4_calls_X4_hide : GoodIn wsX4_calls (wsV RX4 153 RX4 yX4_hide wsX4_hide) := goodIn_app (goodIn_of _ (by decide +kernel)) ggX4_calls_X4_hide
set_option maxRecDepth 20000 in
theorem ggX4_calls_X4_collect : GoodIn wsX4_calls wsX4_collect := goodIn_r _ [77, 8, 9, 10, 39, 40, 41, 6, 42, 47, 48, 49, 50, 23, 24, 25, 26, 27, 28, 29, 78, 79, 80, 81, 66, 67, 68, 69, 105, 106, 107, 108, 109, 110, 111, 112, 113, 114, 115, 116, 117, 118, 119] (by decide +kernel) (by decide +kernel)
set_option maxRecDepth 20000 in
theorem gX4_calls_X4_collect : GoodIn wsX4_calls (wsV RX4 156 RX4 yX4_collect wsX4_collect) := goodIn_app (goodIn_of _ (by decide +kernel)) ggX4_calls_X4_collect
set_option maxRecDepth 20000 in
theorem ggX4_calls_X4_end : GoodIn wsX4_calls wsX4_end := goodIn_r _ [85, 8, 9, 34, 11, 12, 6, 13, 23, 24, 25, 26, 27, 28, 29, 86, 87, 88, 89, 90, 91, 92, 93, 47, 48, 49, 50, 66, 67, 68, 69, 94, 95, 96, 97, 78, 79, 80, 81, 98, 99, 100, 101, 102, 103, 104, 105, 106, 107, 108, 109, 110, 111, 112, 113, 114, 115, 116, 117, 118, 119] (by decide +kernel) (by decide +kernel)
set_option maxRecDepth 20000 in
theorem gX4_calls_X4_end : GoodIn wsX4_calls (wsV RX4 159 RX4 yX4_end wsX4_end) := goodIn_app (goodIn_of _ (by decide +kernel)) ggX4_calls_X4_end
theorem dX4_calls_0 : decode cX4_calls 0 = .ok (.aload_n 0, 1) := by decide +kernel
theorem dX4_calls_1 : decode cX4_calls 1 = .ok (.getfield 138, 3) := by decide +kernel
theorem dX4_calls_4 : decode cX4_calls 4 = .ok (.lookupswitch 97 #[(98, 61), (99, 88), (104, 79), (112, 70), (119, 52)], 52) := by decide +kernel
theorem dX4_calls_56 : decode cX4_calls 56 = .ok (.aload_n 0, 1) := by decide +kernel
theorem dX4_calls_57 : decode cX4_calls 57 = .ok (.aload_n 0, 1) := by decide +kernel
theorem dX4_calls_58 : decode cX4_calls 58 = .ok (.getfield 141, 3) := by decide +kernel
theorem dX4_calls_61 : decode cX4_calls 61 = .ok (.invokevirtual 144, 3) := by decide +kernel
theorem dX4_calls_64 : decode cX4_calls 64 = .ok (.ireturn, 1) := by decide +kernel
theorem dX4_calls_65 : decode cX4_calls 65 = .ok (.aload_n 0, 1) := by decide +kernel
theorem dX4_calls_66 : decode cX4_calls 66 = .ok (.aload_n 0, 1) := by decide +kernel
theorem dX4_calls_67 : decode cX4_calls 67 = .ok (.getfield 141, 3) := by decide +kernel
theorem dX4_calls_70 : decode cX4_calls 70 = .ok (.invokevirtual 147, 3) := by decide +kernel
theorem dX4_calls_73 : decode cX4_calls 73 = .ok (.ireturn, 1) := by decide +kernel
theorem dX4_calls_74 : decode cX4_calls 74 = .ok (.aload_n 0, 1) := by decide +kernel
theorem dX4_calls_75 : decode cX4_calls 75 = .ok (.aload_n 0, 1) := by decide +kernel
theorem dX4_calls_76 : decode cX4_calls 76 = .ok (.getfield 141, 3) := by decide +kernel
theorem dX4_calls_79 : decode cX4_calls 79 = .ok (.invokevirtual 150, 3) := by decide +kernel
theorem dX4_calls_82 : decode cX4_calls 82 = .ok (.ireturn, 1) := by decide +kernel
theorem dX4_calls_83 : decode cX4_calls 83 = .ok (.aload_n 0, 1) := by decide +kernel
theorem dX4_calls_84 : decode cX4_calls 84 = .ok (.aload_n 0, 1) := by decide +kernel
theorem dX4_calls_85 : decode cX4_calls 85 = .ok (.getfield 141, 3) := by decide +kernel
theorem dX4_calls_88 : decode cX4_calls 88 = .ok (.invokevirtual 153, 3) := by decide +kernel
theorem dX4_calls_91 : decode cX4_calls 91 = .ok (.ireturn, 1) := by decide +kernel
theorem dX4_calls_92 : decode cX4_calls 92 = .ok (.aload_n 0, 1) := by decide +kernel
theorem dX4_calls_93 : decode cX4_calls 93 = .ok (.aload_n 0, 1) := by decide +kernel
theorem dX4_calls_94 : decode cX4_calls 94 = .ok (.getfield 141, 3) := by decide +kernel
theorem dX4_calls_97 : decode cX4_calls 97 = .ok (.invokevirtual 156, 3) := by decide +kernel
theorem dX4_calls_100 : decode cX4_calls 100 = .ok (.ireturn, 1) := by decide +kernel
theorem dX4_calls_101 : decode cX4_calls 101 = .ok (.aload_n 0, 1) := by decide +kernel
theorem dX4_calls_102 : decode cX4_calls 102 = .ok (.aload_n 0, 1) := by decide +kernel
theorem dX4_calls_103 : decode cX4_calls 103 = .ok (.getfield 141, 3) := by decide +kernel
theorem dX4_calls_106 : decode cX4_calls 106 = .ok (.invokevirtual 159, 3) := by decide +kernel
theorem dX4_calls_109 : decode cX4_calls 109 = .ok (.ireturn, 1) := by decide +kernel
set_option maxRecDepth 20000 in
theorem ggX4_plays_X4_reads : GoodIn wsX4_plays wsX4_reads := goodIn_r _ [12, 13, 2, 14, 15, 16, 17, 18, 11, 19, 5, 20, 21, 22, 124, 125, 126, 127, 128, 129, 130, 131, 132, 133, 134, 135, 136, 137, 138] (by decide +kernel) (by decide +kernel)
set_option maxRecDepth 20000 in
theorem gX4_plays_X4_reads : GoodIn wsX4_plays (wsV RX4 168 RX4 yX4_reads wsX4_reads) := goodIn_app (goodIn_of _ (by decide +kernel)) ggX4_plays_X4_reads
set_option maxRecDepth 20000 in
theorem ggX4_plays_X4_calls : GoodIn wsX4_plays wsX4_calls := goodIn_r _ [26, 14, 15, 27, 28, 29, 11, 30, 31, 32, 33, 20, 21, 22, 34, 35, 36, 37, 38, 39, 40, 41, 42, 43, 44, 45, 46, 1, 47, 48, 49, 50, 51, 52, 53, 54, 55, 56, 57, 58, 59, 60, 61, 62, 63, 64, 65, 66, 67, 68, 69, 70, 71, 72, 73, 74, 75, 76, 77, 78, 79, 80, 81, 82, 83, 84, 85, 86, 87, 88, 89, 90, 91, 92, 93, 94, 95, 96, 97, 98, 99, 100, 101, 102, 103, 104, 105, 106, 107, 108, 109, 110, 111, 112, 113, 114, 115, 116, 117, 118, 119, 120, 121, 122, 123, 124, 125, 126, 127, 128, 129, 130, 131, 132, 133, 134, 135, 136, 137, 138] (by decide +kernel) (by decide +kernel)
set_option maxRecDepth 20000 in
theorem gX4_plays_X4_calls : GoodIn wsX4_plays (wsV RX4 172 RX4 yX4_calls wsX4_calls) := goodIn_app (goodIn_of _ (by decide +kernel)) ggX4_plays_X4_calls
theorem dX4_plays_0 : decode cX4_plays 0 = .ok (.aload_n 0, 1) := by decide +kernel
theorem dX4_plays_1 : decode cX4_plays 1 = .ok (.iconst 1, 1) := by decide +kernel
theorem dX4_plays_2 : decode cX4_plays 2 = .ok (.putfield 25, 3) := by decide +kernel
theorem dX4_plays_5 : decode cX4_plays 5 = .ok (.aload_n 0, 1) := by decide +kernel
theorem dX4_plays_6 : decode cX4_plays 6 = .ok (.iconst 0, 1) := by decide +kernel
theorem dX4_plays_7 : decode cX4_plays 7 = .ok (.putfield 132, 3) := by decide +kernel
theorem dX4_plays_10 : decode cX4_plays 10 = .ok (.aload_n 0, 1) := by decide +kernel
theorem dX4_plays_11 : decode cX4_plays 11 = .ok (.iconst 0, 1) := by decide +kernel
theorem dX4_plays_12 : decode cX4_plays 12 = .ok (.putfield 162, 3) := by decide +kernel
theorem dX4_plays_15 : decode cX4_plays 15 = .ok (.aload_n 0, 1) := by decide +kernel
theorem dX4_plays_16 : decode cX4_plays 16 = .ok (.iconst 0, 1) := by decide +kernel
theorem dX4_plays_17 : decode cX4_plays 17 = .ok (.putfield 165, 3) := by decide +kernel
theorem dX4_plays_20 : decode cX4_plays 20 = .ok (.iconst 1, 1) := by decide +kernel
theorem dX4_plays_21 : decode cX4_plays 21 = .ok (.istore_n 1, 1) := by decide +kernel
theorem dX4_plays_22 : decode cX4_plays 22 = .ok (.aload_n 0, 1) := by decide +kernel
theorem dX4_plays_23 : decode cX4_plays 23 = .ok (.getfield 132, 3) := by decide +kernel
theorem dX4_plays_26 : decode cX4_plays 26 = .ok (.aload_n 0, 1) := by decide +kernel
theorem dX4_plays_27 : decode cX4_plays 27 = .ok (.getfield 129, 3) := by decide +kernel
theorem dX4_plays_30 : decode cX4_plays 30 = .ok (.if_icmp .ge 94, 3) := by decide +kernel
theorem dX4_plays_33 : decode cX4_plays 33 = .ok (.iload_n 1, 1) := by decide +kernel
theorem dX4_plays_34 : decode cX4_plays 34 = .ok (.ifCond .eq 90, 3) := by decide +kernel
theorem dX4_plays_37 : decode cX4_plays 37 = .ok (.aload_n 0, 1) := by decide +kernel
theorem dX4_plays_38 : decode cX4_plays 38 = .ok (.aload_n 0, 1) := by decide +kernel
theorem dX4_plays_39 : decode cX4_plays 39 = .ok (.getfield 132, 3) := by decide +kernel
theorem dX4_plays_42 : decode cX4_plays 42 = .ok (.putfield 162, 3) := by decide +kernel
theorem dX4_plays_45 : decode cX4_plays 45 = .ok (.aload_n 0, 1) := by decide +kernel
theorem dX4_plays_46 : decode cX4_plays 46 = .ok (.invokevirtual 168, 3) := by decide +kernel
theorem dX4_plays_49 : decode cX4_plays 49 = .ok (.istore_n 2, 1) := by decide +kernel
theorem dX4_plays_50 : decode cX4_plays 50 = .ok (.iload_n 2, 1) := by decide +kernel
theorem dX4_plays_51 : decode cX4_plays 51 = .ok (.ifCond .eq 10, 3) := by decide +kernel
theorem dX4_plays_54 : decode cX4_plays 54 = .ok (.aload_n 0, 1) := by decide +kernel
theorem dX4_plays_55 : decode cX4_plays 55 = .ok (.invokevirtual 172, 3) := by decide +kernel
theorem dX4_plays_58 : decode cX4_plays 58 = .ok (.goto 4, 3) := by decide +kernel
theorem dX4_plays_61 : decode cX4_plays 61 = .ok (.iconst 0, 1) := by decide +kernel
theorem dX4_plays_62 : decode cX4_plays 62 = .ok (.istore_n 3, 1) := by decide +kernel
theorem dX4_plays_63 : decode cX4_plays 63 = .ok (.iload_n 2, 1) := by decide +kernel
theorem dX4_plays_64 : decode cX4_plays 64 = .ok (.ifCond .eq 11, 3) := by decide +kernel
theorem dX4_plays_67 : decode cX4_plays 67 = .ok (.iload_n 3, 1) := by decide +kernel
theorem dX4_plays_68 : decode cX4_plays 68 = .ok (.ifCond .lt 7, 3) := by decide +kernel
theorem dX4_plays_71 : decode cX4_plays 71 = .ok (.iconst 1, 1) := by decide +kernel
theorem dX4_plays_72 : decode cX4_plays 72 = .ok (.goto 4, 3) := by decide +kernel
theorem dX4_plays_75 : decode cX4_plays 75 = .ok (.iconst 0, 1) := by decide +kernel
theorem dX4_plays_76 : decode cX4_plays 76 = .ok (.istore_n 1, 1) := by decide +kernel
theorem dX4_plays_77 : decode cX4_plays 77 = .ok (.aload_n 0, 1) := by decide +kernel
theorem dX4_plays_78 : decode cX4_plays 78 = .ok (.iload_n 2, 1) := by decide +kernel
theorem dX4_plays_79 : decode cX4_plays 79 = .ok (.ifCond .eq 7, 3) := by decide +kernel
theorem dX4_plays_82 : decode cX4_plays 82 = .ok (.iconst 2, 1) := by decide +kernel
theorem dX4_plays_83 : decode cX4_plays 83 = .ok (.goto 4, 3) := by decide +kernel
theorem dX4_plays_86 : decode cX4_plays 86 = .ok (.iconst 1, 1) := by decide +kernel
theorem dX4_plays_87 : decode cX4_plays 87 = .ok (.putfield 175, 3) := by decide +kernel
theorem dX4_plays_90 : decode cX4_plays 90 = .ok (.aload_n 0, 1) := by decide +kernel
theorem dX4_plays_91 : decode cX4_plays 91 = .ok (.iload_n 2, 1) := by decide +kernel
theorem dX4_plays_92 : decode cX4_plays 92 = .ok (.ifCond .eq 7, 3) := by decide +kernel
theorem dX4_plays_95 : decode cX4_plays 95 = .ok (.iload_n 3, 1) := by decide +kernel
theorem dX4_plays_96 : decode cX4_plays 96 = .ok (.goto 12, 3) := by decide +kernel
theorem dX4_plays_99 : decode cX4_plays 99 = .ok (.aload_n 0, 1) := by decide +kernel
theorem dX4_plays_100 : decode cX4_plays 100 = .ok (.getfield 132, 3) := by decide +kernel
theorem dX4_plays_103 : decode cX4_plays 103 = .ok (.aload_n 0, 1) := by decide +kernel
theorem dX4_plays_104 : decode cX4_plays 104 = .ok (.getfield 162, 3) := by decide +kernel
theorem dX4_plays_107 : decode cX4_plays 107 = .ok (.isub, 1) := by decide +kernel
theorem dX4_plays_108 : decode cX4_plays 108 = .ok (.putfield 178, 3) := by decide +kernel
theorem dX4_plays_111 : decode cX4_plays 111 = .ok (.aload_n 0, 1) := by decide +kernel
theorem dX4_plays_112 : decode cX4_plays 112 = .ok (.dup, 1) := by decide +kernel
theorem dX4_plays_113 : decode cX4_plays 113 = .ok (.getfield 165, 3) := by decide +kernel
theorem dX4_plays_116 : decode cX4_plays 116 = .ok (.iconst 1, 1) := by decide +kernel
theorem dX4_plays_117 : decode cX4_plays 117 = .ok (.iadd, 1) := by decide +kernel
theorem dX4_plays_118 : decode cX4_plays 118 = .ok (.putfield 165, 3) := by decide +kernel
theorem dX4_plays_121 : decode cX4_plays 121 = .ok (.goto (-99), 3) := by decide +kernel
theorem dX4_plays_124 : decode cX4_plays 124 = .ok (.aload_n 0, 1) := by decide +kernel
theorem dX4_plays_125 : decode cX4_plays 125 = .ok (.iconst 0, 1) := by decide +kernel
theorem dX4_plays_126 : decode cX4_plays 126 = .ok (.putfield 25, 3) := by decide +kernel
theorem dX4_plays_129 : decode cX4_plays 129 = .ok (.iload_n 1, 1) := by decide +kernel
theorem dX4_plays_130 : decode cX4_plays 130 = .ok (.ireturn, 1) := by decide +kernel
set_option maxRecDepth 20000 in
theorem ggX4_fault_X4_in : GoodIn wsX4_fault wsX4_in := goodIn_r _ [11] (by decide +kernel) (by decide +kernel)
set_option maxRecDepth 20000 in
theorem gX4_fault_X4_in : GoodIn wsX4_fault (va_wsS RX4 53 yX4_in wsX4_in) := goodIn_app (goodIn_of _ (by decide +kernel)) ggX4_fault_X4_in
set_option maxRecDepth 20000 in
theorem ggX4_fault_X4_copies : GoodIn wsX4_fault wsX4_copies := goodIn_r _ [14] (by decide +kernel) (by decide +kernel)
set_option maxRecDepth 20000 in
theorem gX4_fault_X4_copies : GoodIn wsX4_fault (va_wsS RX4 105 yX4_copies wsX4_copies) := goodIn_app (goodIn_of _ (by decide +kernel)) ggX4_fault_X4_copies
set_option maxRecDepth 20000 in
theorem ggX4_fault_X4_plays : GoodIn wsX4_fault wsX4_plays := goodIn_r _ [18, 19, 20, 5, 21, 22, 6, 7, 23, 24, 25, 10, 26, 27, 28, 29, 30, 31, 32, 33, 8, 9, 11, 34, 35, 36, 37, 38, 39, 40, 41, 1, 2, 42, 43, 44, 45, 46, 47, 48, 49, 50, 51, 52, 53, 54, 55, 56, 57, 58, 59, 60, 61, 62, 63, 64, 65, 66, 67, 68, 69, 70, 71, 72, 73, 74, 75, 76, 77, 78, 79, 80, 81, 82, 83, 84, 85, 86, 87, 88, 89, 90, 91, 92, 93, 94, 95, 96, 97, 98, 99, 100, 101, 102, 103, 104, 105, 106, 107, 108, 109, 110, 111, 112, 113, 114, 115, 116, 117, 118, 119, 120, 121, 122, 123, 124, 125, 126, 127, 128, 129, 130, 131, 132, 133, 134, 135, 136, 137, 138, 139, 140, 141, 142, 143, 144, 145, 146, 147] (by decide +kernel) (by decide +kernel)
set_option maxRecDepth 20000 in
theorem gX4_fault_X4_plays : GoodIn wsX4_fault (wsV RX4 181 RX4 yX4_plays wsX4_plays) := goodIn_app (goodIn_of _ (by decide +kernel)) ggX4_fault_X4_plays
theorem dX4_fault_0 : decode cX4_fault 0 = .ok (.iload_n 1, 1) := by decide +kernel
theorem dX4_fault_1 : decode cX4_fault 1 = .ok (.iconst 0, 1) := by decide +kernel
theorem dX4_fault_2 : decode cX4_fault 2 = .ok (.iconst 2, 1) := by decide +kernel
theorem dX4_fault_3 : decode cX4_fault 3 = .ok (.invokestatic 53, 3) := by decide +kernel
theorem dX4_fault_6 : decode cX4_fault 6 = .ok (.ifCond .ne 6, 3) := by decide +kernel
theorem dX4_fault_9 : decode cX4_fault 9 = .ok (.ldc 57, 2) := by decide +kernel
theorem dX4_fault_11 : decode cX4_fault 11 = .ok (.ireturn, 1) := by decide +kernel
theorem dX4_fault_12 : decode cX4_fault 12 = .ok (.aload_n 0, 1) := by decide +kernel
theorem dX4_fault_13 : decode cX4_fault 13 = .ok (.getfield 7, 3) := by decide +kernel
theorem dX4_fault_16 : decode cX4_fault 16 = .ok (.aload_n 0, 1) := by decide +kernel
theorem dX4_fault_17 : decode cX4_fault 17 = .ok (.getfield 16, 3) := by decide +kernel
theorem dX4_fault_20 : decode cX4_fault 20 = .ok (.invokestatic 105, 3) := by decide +kernel
theorem dX4_fault_23 : decode cX4_fault 23 = .ok (.aload_n 0, 1) := by decide +kernel
theorem dX4_fault_24 : decode cX4_fault 24 = .ok (.invokevirtual 181, 3) := by decide +kernel
theorem dX4_fault_27 : decode cX4_fault 27 = .ok (.istore_n 2, 1) := by decide +kernel
theorem dX4_fault_28 : decode cX4_fault 28 = .ok (.aload_n 0, 1) := by decide +kernel
theorem dX4_fault_29 : decode cX4_fault 29 = .ok (.getfield 16, 3) := by decide +kernel
theorem dX4_fault_32 : decode cX4_fault 32 = .ok (.aload_n 0, 1) := by decide +kernel
theorem dX4_fault_33 : decode cX4_fault 33 = .ok (.getfield 7, 3) := by decide +kernel
theorem dX4_fault_36 : decode cX4_fault 36 = .ok (.invokestatic 105, 3) := by decide +kernel
theorem dX4_fault_39 : decode cX4_fault 39 = .ok (.iload_n 2, 1) := by decide +kernel
theorem dX4_fault_40 : decode cX4_fault 40 = .ok (.ifCond .eq 8, 3) := by decide +kernel
theorem dX4_fault_43 : decode cX4_fault 43 = .ok (.ldc 109, 2) := by decide +kernel
theorem dX4_fault_45 : decode cX4_fault 45 = .ok (.goto 30, 3) := by decide +kernel
theorem dX4_fault_48 : decode cX4_fault 48 = .ok (.iload_n 1, 1) := by decide +kernel
theorem dX4_fault_49 : decode cX4_fault 49 = .ok (.ifCond .ne 10, 3) := by decide +kernel
theorem dX4_fault_52 : decode cX4_fault 52 = .ok (.aload_n 0, 1) := by decide +kernel
theorem dX4_fault_53 : decode cX4_fault 53 = .ok (.getfield 162, 3) := by decide +kernel
theorem dX4_fault_56 : decode cX4_fault 56 = .ok (.goto 19, 3) := by decide +kernel
theorem dX4_fault_59 : decode cX4_fault 59 = .ok (.iload_n 1, 1) := by decide +kernel
theorem dX4_fault_60 : decode cX4_fault 60 = .ok (.iconst 1, 1) := by decide +kernel
theorem dX4_fault_61 : decode cX4_fault 61 = .ok (.if_icmp .ne 10, 3) := by decide +kernel
theorem dX4_fault_64 : decode cX4_fault 64 = .ok (.aload_n 0, 1) := by decide +kernel
theorem dX4_fault_65 : decode cX4_fault 65 = .ok (.getfield 175, 3) := by decide +kernel
theorem dX4_fault_68 : decode cX4_fault 68 = .ok (.goto 7, 3) := by decide +kernel
theorem dX4_fault_71 : decode cX4_fault 71 = .ok (.aload_n 0, 1) := by decide +kernel
theorem dX4_fault_72 : decode cX4_fault 72 = .ok (.getfield 178, 3) := by decide +kernel
theorem dX4_fault_75 : decode cX4_fault 75 = .ok (.ireturn, 1) := by decide +kernel
set_option maxRecDepth 20000 in
theorem ggX4_play_X4_copies : GoodIn wsX4_play wsX4_copies := goodIn_r _ [9] (by decide +kernel) (by decide +kernel)
set_option maxRecDepth 20000 in
theorem gX4_play_X4_copies : GoodIn wsX4_play (va_wsS RX4 105 yX4_copies wsX4_copies) := goodIn_app (goodIn_of _ (by decide +kernel)) ggX4_play_X4_copies
set_option maxRecDepth 20000 in
theorem ggX4_play_X4_plays : GoodIn wsX4_play wsX4_plays := goodIn_r _ [13, 14, 15, 16, 4, 17, 18, 19, 20, 21, 22, 8, 23, 24, 25, 26, 27, 28, 29, 30, 31, 32, 33, 34, 35, 36, 37, 38, 39, 40, 41, 42, 1, 3, 43, 44, 45, 46, 47, 48, 49, 50, 51, 52, 53, 54, 55, 56, 57, 58, 59, 60, 61, 62, 63, 64, 65, 66, 67, 68, 69, 70, 71, 72, 73, 74, 75, 76, 77, 78, 79, 80, 81, 82, 83, 84, 85, 86, 87, 88, 89, 90, 91, 92, 93, 94, 95, 96, 97, 98, 99, 100, 101, 102, 103, 104, 105, 106, 107, 108, 109, 110, 111, 112, 113, 114, 115, 116, 117, 118, 119, 120, 121, 122, 123, 124, 125, 126, 127, 128, 129, 130, 131, 132, 133, 134, 135, 136, 137, 138, 139, 140, 141, 142, 143, 144, 145, 146, 147] (by decide +kernel) (by decide +kernel)
set_option maxRecDepth 20000 in
theorem gX4_play_X4_plays : GoodIn wsX4_play (wsV RX4 181 RX4 yX4_plays wsX4_plays) := goodIn_app (goodIn_of _ (by decide +kernel)) ggX4_play_X4_plays
set_option maxRecDepth 20000 in
theorem ggX4_play_X4_changes : GoodIn wsX4_play wsX4_changes := goodIn_r _ [55, 14, 56, 57, 1, 133, 134, 135, 136, 137, 138, 139, 140, 141, 142, 143, 144, 145, 146, 147] (by decide +kernel) (by decide +kernel)
set_option maxRecDepth 20000 in
theorem gX4_play_X4_changes : GoodIn wsX4_play (wsV RX4 59 RX4 yX4_changes wsX4_changes) := goodIn_app (goodIn_of _ (by decide +kernel)) ggX4_play_X4_changes
theorem dX4_play_0 : decode cX4_play 0 = .ok (.aload_n 0, 1) := by decide +kernel
theorem dX4_play_1 : decode cX4_play 1 = .ok (.getfield 7, 3) := by decide +kernel
theorem dX4_play_4 : decode cX4_play 4 = .ok (.aload_n 0, 1) := by decide +kernel
theorem dX4_play_5 : decode cX4_play 5 = .ok (.getfield 16, 3) := by decide +kernel
theorem dX4_play_8 : decode cX4_play 8 = .ok (.invokestatic 105, 3) := by decide +kernel
theorem dX4_play_11 : decode cX4_play 11 = .ok (.aload_n 0, 1) := by decide +kernel
theorem dX4_play_12 : decode cX4_play 12 = .ok (.invokevirtual 181, 3) := by decide +kernel
theorem dX4_play_15 : decode cX4_play 15 = .ok (.istore_n 1, 1) := by decide +kernel
theorem dX4_play_16 : decode cX4_play 16 = .ok (.aload_n 0, 1) := by decide +kernel
theorem dX4_play_17 : decode cX4_play 17 = .ok (.getfield 16, 3) := by decide +kernel
theorem dX4_play_20 : decode cX4_play 20 = .ok (.aload_n 0, 1) := by decide +kernel
theorem dX4_play_21 : decode cX4_play 21 = .ok (.getfield 7, 3) := by decide +kernel
theorem dX4_play_24 : decode cX4_play 24 = .ok (.invokestatic 105, 3) := by decide +kernel
theorem dX4_play_27 : decode cX4_play 27 = .ok (.iload_n 1, 1) := by decide +kernel
theorem dX4_play_28 : decode cX4_play 28 = .ok (.ifCond .ne 6, 3) := by decide +kernel
theorem dX4_play_31 : decode cX4_play 31 = .ok (.ldc 71, 2) := by decide +kernel
theorem dX4_play_33 : decode cX4_play 33 = .ok (.ireturn, 1) := by decide +kernel
theorem dX4_play_34 : decode cX4_play 34 = .ok (.aload_n 0, 1) := by decide +kernel
theorem dX4_play_35 : decode cX4_play 35 = .ok (.invokevirtual 59, 3) := by decide +kernel
theorem dX4_play_38 : decode cX4_play 38 = .ok (.aload_n 0, 1) := by decide +kernel
theorem dX4_play_39 : decode cX4_play 39 = .ok (.invokevirtual 181, 3) := by decide +kernel
theorem dX4_play_42 : decode cX4_play 42 = .ok (.ifCond .eq 10, 3) := by decide +kernel
theorem dX4_play_45 : decode cX4_play 45 = .ok (.aload_n 0, 1) := by decide +kernel
theorem dX4_play_46 : decode cX4_play 46 = .ok (.getfield 165, 3) := by decide +kernel
theorem dX4_play_49 : decode cX4_play 49 = .ok (.goto 5, 3) := by decide +kernel
theorem dX4_play_52 : decode cX4_play 52 = .ok (.ldc 109, 2) := by decide +kernel
theorem dX4_play_54 : decode cX4_play 54 = .ok (.ireturn, 1) := by decide +kernel
theorem dJxf58ca_isNaN_12338_0 : decode cJxf58ca_isNaN_12338 0 = .ok (.fload_n 0, 1) := by decide +kernel
theorem dJxf58ca_isNaN_12338_1 : decode cJxf58ca_isNaN_12338 1 = .ok (.fload_n 0, 1) := by decide +kernel
theorem dJxf58ca_isNaN_12338_2 : decode cJxf58ca_isNaN_12338 2 = .ok (.fcmp .l, 1) := by decide +kernel
theorem dJxf58ca_isNaN_12338_3 : decode cJxf58ca_isNaN_12338 3 = .ok (.ifCond .eq 7, 3) := by decide +kernel
theorem dJxf58ca_isNaN_12338_6 : decode cJxf58ca_isNaN_12338 6 = .ok (.iconst 1, 1) := by decide +kernel
theorem dJxf58ca_isNaN_12338_7 : decode cJxf58ca_isNaN_12338 7 = .ok (.goto 4, 3) := by decide +kernel
theorem dJxf58ca_isNaN_12338_10 : decode cJxf58ca_isNaN_12338 10 = .ok (.iconst 0, 1) := by decide +kernel
theorem dJxf58ca_isNaN_12338_11 : decode cJxf58ca_isNaN_12338 11 = .ok (.ireturn, 1) := by decide +kernel
set_option maxRecDepth 20000 in
theorem ggJxf58ca_floatToIntBits_5c35a_Jxf58ca_isNaN_12338 : GoodIn wsJxf58ca_floatToIntBits_5c35a wsJxf58ca_isNaN_12338 := goodIn_r _ [9] (by decide +kernel) (by decide +kernel)
set_option maxRecDepth 20000 in
theorem gJxf58ca_floatToIntBits_5c35a_Jxf58ca_isNaN_12338 : GoodIn wsJxf58ca_floatToIntBits_5c35a (va_wsS RJxf58ca 59 yJxf58ca_isNaN_12338 wsJxf58ca_isNaN_12338) := goodIn_app (goodIn_of _ (by decide +kernel)) ggJxf58ca_floatToIntBits_5c35a_Jxf58ca_isNaN_12338
theorem dJxf58ca_floatToIntBits_5c35a_0 : decode cJxf58ca_floatToIntBits_5c35a 0 = .ok (.fload_n 0, 1) := by decide +kernel
theorem dJxf58ca_floatToIntBits_5c35a_1 : decode cJxf58ca_floatToIntBits_5c35a 1 = .ok (.invokestatic 59, 3) := by decide +kernel
theorem dJxf58ca_floatToIntBits_5c35a_4 : decode cJxf58ca_floatToIntBits_5c35a 4 = .ok (.ifCond .ne 8, 3) := by decide +kernel
theorem dJxf58ca_floatToIntBits_5c35a_7 : decode cJxf58ca_floatToIntBits_5c35a 7 = .ok (.fload_n 0, 1) := by decide +kernel
theorem dJxf58ca_floatToIntBits_5c35a_8 : decode cJxf58ca_floatToIntBits_5c35a 8 = .ok (.invokestatic 74, 3) := by decide +kernel
theorem dJxf58ca_floatToIntBits_5c35a_11 : decode cJxf58ca_floatToIntBits_5c35a 11 = .ok (.ireturn, 1) := by decide +kernel
theorem dJxf58ca_floatToIntBits_5c35a_12 : decode cJxf58ca_floatToIntBits_5c35a 12 = .ok (.ldc 77, 2) := by decide +kernel
theorem dJxf58ca_floatToIntBits_5c35a_14 : decode cJxf58ca_floatToIntBits_5c35a 14 = .ok (.ireturn, 1) := by decide +kernel
theorem dJ6_bitCount_0f7a4_0 : decode cJ6_bitCount_0f7a4 0 = .ok (.iload_n 0, 1) := by decide +kernel
theorem dJ6_bitCount_0f7a4_1 : decode cJ6_bitCount_0f7a4 1 = .ok (.iload_n 0, 1) := by decide +kernel
theorem dJ6_bitCount_0f7a4_2 : decode cJ6_bitCount_0f7a4 2 = .ok (.iconst 1, 1) := by decide +kernel
theorem dJ6_bitCount_0f7a4_3 : decode cJ6_bitCount_0f7a4 3 = .ok (.iushr, 1) := by decide +kernel
theorem dJ6_bitCount_0f7a4_4 : decode cJ6_bitCount_0f7a4 4 = .ok (.ldc_w 265, 3) := by decide +kernel
theorem dJ6_bitCount_0f7a4_7 : decode cJ6_bitCount_0f7a4 7 = .ok (.iand, 1) := by decide +kernel
theorem dJ6_bitCount_0f7a4_8 : decode cJ6_bitCount_0f7a4 8 = .ok (.isub, 1) := by decide +kernel
theorem dJ6_bitCount_0f7a4_9 : decode cJ6_bitCount_0f7a4 9 = .ok (.istore_n 0, 1) := by decide +kernel
theorem dJ6_bitCount_0f7a4_10 : decode cJ6_bitCount_0f7a4 10 = .ok (.iload_n 0, 1) := by decide +kernel
theorem dJ6_bitCount_0f7a4_11 : decode cJ6_bitCount_0f7a4 11 = .ok (.ldc_w 266, 3) := by decide +kernel
theorem dJ6_bitCount_0f7a4_14 : decode cJ6_bitCount_0f7a4 14 = .ok (.iand, 1) := by decide +kernel
theorem dJ6_bitCount_0f7a4_15 : decode cJ6_bitCount_0f7a4 15 = .ok (.iload_n 0, 1) := by decide +kernel
theorem dJ6_bitCount_0f7a4_16 : decode cJ6_bitCount_0f7a4 16 = .ok (.iconst 2, 1) := by decide +kernel
theorem dJ6_bitCount_0f7a4_17 : decode cJ6_bitCount_0f7a4 17 = .ok (.iushr, 1) := by decide +kernel
theorem dJ6_bitCount_0f7a4_18 : decode cJ6_bitCount_0f7a4 18 = .ok (.ldc_w 266, 3) := by decide +kernel
theorem dJ6_bitCount_0f7a4_21 : decode cJ6_bitCount_0f7a4 21 = .ok (.iand, 1) := by decide +kernel
theorem dJ6_bitCount_0f7a4_22 : decode cJ6_bitCount_0f7a4 22 = .ok (.iadd, 1) := by decide +kernel
theorem dJ6_bitCount_0f7a4_23 : decode cJ6_bitCount_0f7a4 23 = .ok (.istore_n 0, 1) := by decide +kernel
theorem dJ6_bitCount_0f7a4_24 : decode cJ6_bitCount_0f7a4 24 = .ok (.iload_n 0, 1) := by decide +kernel
theorem dJ6_bitCount_0f7a4_25 : decode cJ6_bitCount_0f7a4 25 = .ok (.iload_n 0, 1) := by decide +kernel
theorem dJ6_bitCount_0f7a4_26 : decode cJ6_bitCount_0f7a4 26 = .ok (.iconst 4, 1) := by decide +kernel
theorem dJ6_bitCount_0f7a4_27 : decode cJ6_bitCount_0f7a4 27 = .ok (.iushr, 1) := by decide +kernel
theorem dJ6_bitCount_0f7a4_28 : decode cJ6_bitCount_0f7a4 28 = .ok (.iadd, 1) := by decide +kernel
theorem dJ6_bitCount_0f7a4_29 : decode cJ6_bitCount_0f7a4 29 = .ok (.ldc_w 267, 3) := by decide +kernel
theorem dJ6_bitCount_0f7a4_32 : decode cJ6_bitCount_0f7a4 32 = .ok (.iand, 1) := by decide +kernel
theorem dJ6_bitCount_0f7a4_33 : decode cJ6_bitCount_0f7a4 33 = .ok (.istore_n 0, 1) := by decide +kernel
theorem dJ6_bitCount_0f7a4_34 : decode cJ6_bitCount_0f7a4 34 = .ok (.iload_n 0, 1) := by decide +kernel
theorem dJ6_bitCount_0f7a4_35 : decode cJ6_bitCount_0f7a4 35 = .ok (.iload_n 0, 1) := by decide +kernel
theorem dJ6_bitCount_0f7a4_36 : decode cJ6_bitCount_0f7a4 36 = .ok (.bipush 8, 2) := by decide +kernel
theorem dJ6_bitCount_0f7a4_38 : decode cJ6_bitCount_0f7a4 38 = .ok (.iushr, 1) := by decide +kernel
theorem dJ6_bitCount_0f7a4_39 : decode cJ6_bitCount_0f7a4 39 = .ok (.iadd, 1) := by decide +kernel
theorem dJ6_bitCount_0f7a4_40 : decode cJ6_bitCount_0f7a4 40 = .ok (.istore_n 0, 1) := by decide +kernel
theorem dJ6_bitCount_0f7a4_41 : decode cJ6_bitCount_0f7a4 41 = .ok (.iload_n 0, 1) := by decide +kernel
theorem dJ6_bitCount_0f7a4_42 : decode cJ6_bitCount_0f7a4 42 = .ok (.iload_n 0, 1) := by decide +kernel
theorem dJ6_bitCount_0f7a4_43 : decode cJ6_bitCount_0f7a4 43 = .ok (.bipush 16, 2) := by decide +kernel
theorem dJ6_bitCount_0f7a4_45 : decode cJ6_bitCount_0f7a4 45 = .ok (.iushr, 1) := by decide +kernel
theorem dJ6_bitCount_0f7a4_46 : decode cJ6_bitCount_0f7a4 46 = .ok (.iadd, 1) := by decide +kernel
theorem dJ6_bitCount_0f7a4_47 : decode cJ6_bitCount_0f7a4 47 = .ok (.istore_n 0, 1) := by decide +kernel
theorem dJ6_bitCount_0f7a4_48 : decode cJ6_bitCount_0f7a4 48 = .ok (.iload_n 0, 1) := by decide +kernel
theorem dJ6_bitCount_0f7a4_49 : decode cJ6_bitCount_0f7a4 49 = .ok (.bipush 63, 2) := by decide +kernel
theorem dJ6_bitCount_0f7a4_51 : decode cJ6_bitCount_0f7a4 51 = .ok (.iand, 1) := by decide +kernel
theorem dJ6_bitCount_0f7a4_52 : decode cJ6_bitCount_0f7a4 52 = .ok (.ireturn, 1) := by decide +kernel
theorem dJ9_abs_0f7a4_0 : decode cJ9_abs_0f7a4 0 = .ok (.iload_n 0, 1) := by decide +kernel
theorem dJ9_abs_0f7a4_1 : decode cJ9_abs_0f7a4 1 = .ok (.ifCond .ge 8, 3) := by decide +kernel
theorem dJ9_abs_0f7a4_4 : decode cJ9_abs_0f7a4 4 = .ok (.iload_n 0, 1) := by decide +kernel
theorem dJ9_abs_0f7a4_5 : decode cJ9_abs_0f7a4 5 = .ok (.ineg, 1) := by decide +kernel
theorem dJ9_abs_0f7a4_6 : decode cJ9_abs_0f7a4 6 = .ok (.goto 4, 3) := by decide +kernel
theorem dJ9_abs_0f7a4_9 : decode cJ9_abs_0f7a4 9 = .ok (.iload_n 0, 1) := by decide +kernel
theorem dJ9_abs_0f7a4_10 : decode cJ9_abs_0f7a4 10 = .ok (.ireturn, 1) := by decide +kernel
theorem dJ9_max_7cf53_0 : decode cJ9_max_7cf53 0 = .ok (.iload_n 0, 1) := by decide +kernel
theorem dJ9_max_7cf53_1 : decode cJ9_max_7cf53 1 = .ok (.iload_n 1, 1) := by decide +kernel
theorem dJ9_max_7cf53_2 : decode cJ9_max_7cf53 2 = .ok (.if_icmp .lt 7, 3) := by decide +kernel
theorem dJ9_max_7cf53_5 : decode cJ9_max_7cf53 5 = .ok (.iload_n 0, 1) := by decide +kernel
theorem dJ9_max_7cf53_6 : decode cJ9_max_7cf53 6 = .ok (.goto 4, 3) := by decide +kernel
theorem dJ9_max_7cf53_9 : decode cJ9_max_7cf53 9 = .ok (.iload_n 1, 1) := by decide +kernel
theorem dJ9_max_7cf53_10 : decode cJ9_max_7cf53 10 = .ok (.ireturn, 1) := by decide +kernel
theorem dJ9_min_7cf53_0 : decode cJ9_min_7cf53 0 = .ok (.iload_n 0, 1) := by decide +kernel
theorem dJ9_min_7cf53_1 : decode cJ9_min_7cf53 1 = .ok (.iload_n 1, 1) := by decide +kernel
theorem dJ9_min_7cf53_2 : decode cJ9_min_7cf53 2 = .ok (.if_icmp .gt 7, 3) := by decide +kernel
theorem dJ9_min_7cf53_5 : decode cJ9_min_7cf53 5 = .ok (.iload_n 0, 1) := by decide +kernel
theorem dJ9_min_7cf53_6 : decode cJ9_min_7cf53 6 = .ok (.goto 4, 3) := by decide +kernel
theorem dJ9_min_7cf53_9 : decode cJ9_min_7cf53 9 = .ok (.iload_n 1, 1) := by decide +kernel
theorem dJ9_min_7cf53_10 : decode cJ9_min_7cf53 10 = .ok (.ireturn, 1) := by decide +kernel
end
section
abbrev vwCl : List vw_C := [(RX0, TX0, 6), (RX1, TX1, 8), (RX2, TX2, 15), (RX3, TX3, 9), (RX4, TX4, 15)]
/-! ===== THE LOGIC: one memory for class and reference, contracts PM, walks PW: thin rows over the kit's ===== -/
abbrev Mem : Type := (Nat → Nat → Int32) × (Nat → Nat)
abbrev QT : Type := Option Value → Mem → Prop
/-- the cell of the object i: 0 BellowsRound, 1 OrderText, 2 its characters, 3 the history, 4 the reference, 5..9 its rows, 10+10p.. the State p, its row, its smithies -/
def cellOf (cA : Nat → ClassId) (ad : Nat → Nat) (M : Mem) (i : Nat) : va_E :=
  if i = 0 then .inr (3, [.ref (ad (10 + 10 * M.2 0)), .ref (ad (10 + 10 * M.2 1)), .ref (ad 3), .int (M.1 8 0), .ref (ad 1), .int (M.1 8 1), .int (M.1 8 2), .int (M.1 8 3), .int (M.1 8 4)])
  else if i = 1 then .inr (0, [.ref (ad 2), .int (M.1 6 0), .int (M.1 6 1), .int (M.1 6 2), .int (M.1 6 3), .int (M.1 6 4)])
  else if i = 2 then .inl (cA 0, 60, .inl (M.1 7))
  else if i = 3 then .inl (cA 3, 4, .inr (.inr (.inr (.inr (fun j => some (ad (10 + 10 * M.2 (2 + j))))))))
  else if i = 4 then .inr (4, [.ref (ad 5), .ref (ad 6), .ref (ad 7), .ref (ad 8), .int (M.1 9 0), .int (M.1 9 1), .ref (ad 9), .int (M.1 9 2), .int (M.1 9 3), .int (M.1 9 4), .int (M.1 9 5), .int (M.1 9 6), .int (M.1 9 7), .int (M.1 9 8), .int (M.1 9 9)])
  else if i = 5 then .inl (cA 1, 78, .inl (M.1 10))
  else if i = 6 then .inl (cA 1, 312, .inl (M.1 11))
  else if i = 7 then .inl (cA 1, 78, .inl (M.1 12))
  else if i = 8 then .inl (cA 1, 78, .inl (M.1 13))
  else if i = 9 then .inl (cA 1, 60, .inl (M.1 14))
  else if (i - 10) % 10 = 0 then .inr (2, [.ref (ad (i + 1)), .int (M.1 ((i - 10) / 10) 0), .int (M.1 ((i - 10) / 10) 10), .int (M.1 ((i - 10) / 10) 11), .int (M.1 ((i - 10) / 10) 12), .int (M.1 ((i - 10) / 10) 13), .int (M.1 ((i - 10) / 10) 1), .int (M.1 ((i - 10) / 10) 2), .int (M.1 ((i - 10) / 10) 3), .int (M.1 ((i - 10) / 10) 4), .int (M.1 ((i - 10) / 10) 5), .int (M.1 ((i - 10) / 10) 6), .int (M.1 ((i - 10) / 10) 7), .int (M.1 ((i - 10) / 10) 8), .int (M.1 ((i - 10) / 10) 9)])
  else if (i - 10) % 10 = 1 then .inl (cA 2, 8, .inr (.inr (.inr (.inr (fun j => some (ad (i + 1 + j)))))))
  else .inr (1, [.int (M.1 ((i - 10) / 10) (14 + 8 * ((i - 10) % 10 - 2))), .int (M.1 ((i - 10) / 10) (14 + 8 * ((i - 10) % 10 - 2) + 1)), .int (M.1 ((i - 10) / 10) (14 + 8 * ((i - 10) % 10 - 2) + 2)), .int (M.1 ((i - 10) / 10) (14 + 8 * ((i - 10) % 10 - 2) + 3)), .int (M.1 ((i - 10) / 10) (14 + 8 * ((i - 10) % 10 - 2) + 4)), .int (M.1 ((i - 10) / 10) (14 + 8 * ((i - 10) % 10 - 2) + 5)), .int (M.1 ((i - 10) / 10) (14 + 8 * ((i - 10) % 10 - 2) + 6)), .int (M.1 ((i - 10) / 10) (14 + 8 * ((i - 10) % 10 - 2) + 7))])
def Wld (cA : Nat → ClassId) (ad : Nat → Nat) (M : Mem) : va_W := (List.range 70).map (fun i => (ad i, cellOf cA ad M i))
def AA (ad : Nat → Nat) : Nat → Prop := fun q => ∃ i, i < 70 ∧ q = ad i
def TYS (cA : Nat → ClassId) : List (ClassId × FieldType) := [(cA 0, .char), (cA 1, .int), (cA 2, .object "BellowsRound$Smithy"), (cA 3, .object "BellowsRound$State")]
def rmD (d : Nat) : Room := { frames := d, cells := 0, slots := 0, locals := 32 * d }
def INJ (ad : Nat → Nat) : Prop := ∀ i j, i < 70 → j < 70 → ad i = ad j → i = j
def NST (U : State) : Prop := va_Nw (.methodLinkNest RX2 75 yX3_hoursOfWay "BellowsRound") U ∧ va_Nw (.methodLinkNest RX2 93 yX3_hoursOfMend "BellowsRound") U ∧ va_Nw (.methodLinkNest RX1 36 yX3_tensBegun "BellowsRound") U ∧ va_Nw (.methodLinkNest RX2 138 yX3_wearBehindDay "BellowsRound") U ∧ va_Nw (.methodLinkNest RX2 141 yX3_heatBehindDay "BellowsRound") U
def WOK (cA : Nat → ClassId) (ad : Nat → Nat) (D : va_G) (M : Mem) (H : Heap) : Prop := va_P D vwCl (Wld cA ad M) H
def EOK (cA : Nat → ClassId) (D : va_G) (U : State) : Prop := va_K D vwCl (TYS cA) U ∧ NST U
def QQ (cA : Nat → ClassId) (ad : Nat → Nat) (D : va_G) (Q : QT) : Array Value → State → Outcome → State → Prop := fun _ st oc t => (∃ (r : Option Value) (M : Mem), oc = .returned r ∧ Q r M ∧ WOK cA ad D M t.heap) ∧ va_F (AA ad) st t
def PM (cA : Nat → ClassId) (ad : Nat → Nat) (D : va_G) (y : MethodName) (ws : List Cond) (d : Nat) (av : List Value) (M : Mem) (Q : QT) : Prop :=
  INJ ad → ∀ l : Launch, Met l y ws (rmD d) (va_Pc av (fun U => WOK cA ad D M U.heap ∧ EOK cA D U)) (QQ cA ad D Q) 0 0 (AA ad)
def prs : Nat → List (Option Value) → List (Nat × Value)
  | _, [] => []
  | k, some v :: t => (k, v) :: prs (k + 1) t
  | k, none :: t => prs (k + 1) t
def ENV (cA : Nat → ClassId) (ad : Nat → Nat) (D : va_G) (own : String) (ws : List Cond) (cc : ByteArray) (nL : Nat) (ret : Option FieldType) (p : Program) (s : State) (m : MethodId) (args : Array Value) (meth : Method) (c : Code) : Prop :=
  p.tables.exec = Jvm.exec ∧ c.code = cc ∧ c.maxLocals = nL ∧ s.vm.findClass own = some m.cls ∧ (∀ w ∈ ws, w.before args s = true) ∧ meth.sig.returnType = ret ∧ meth.locks = false ∧ EOK cA D s ∧ INJ ad
def PW (cA : Nat → ClassId) (ad : Nat → Nat) (D : va_G) (own : String) (ws : List Cond) (cc : ByteArray) (nL : Nat) (ret : Option FieldType) (d pc : Nat) (lv : List (Option Value)) (st : List Value) (M : Mem) (Q : QT) : Prop :=
  ∀ (p : Program) (l : Launch) (e : Env) (s : State) (m : MethodId) (args : Array Value) (below : List Frame) (meth : Method) (c : Code) (H : Heap) (locs : List Loc) (ls : Array Slot),
    ENV cA ad D own ws cc nL ret p s m args meth c → WOK cA ad D M H → va_S (AA ad) s.heap H locs → lv_has ls nL (prs 0 lv) →
    W p l e (rmD d) s m args below meth c H locs 0 0 (MQ below (QQ cA ad D Q) args s 0 0 (AA ad)) (F0 m pc ls st)
-- locals
theorem prs_mem : ∀ (lv : List (Option Value)) (k i : Nat) (v : Value), (i, v) ∈ prs k lv ↔ ∃ j, i = k + j ∧ lv[j]? = some (some v) := by
  intro lv
  induction lv with
  | nil => intro k i v; simp [prs]
  | cons a t ih =>
    intro k i v
    cases a with
    | none =>
      simp only [prs]
      rw [ih (k + 1) i v]
      constructor
      · rintro ⟨j, h1, h2⟩
        exact ⟨j + 1, by omega, by simpa using h2⟩
      · rintro ⟨j, h1, h2⟩
        cases j with
        | zero => simp at h2
        | succ j => exact ⟨j, by omega, by simpa using h2⟩
    | some w =>
      simp only [prs, List.mem_cons]
      rw [ih (k + 1) i v]
      constructor
      · rintro (h | ⟨j, h1, h2⟩)
        · exact ⟨0, by simp only [Prod.mk.injEq] at h; omega, by simp only [Prod.mk.injEq] at h; simp [h.2]⟩
        · exact ⟨j + 1, by omega, by simpa using h2⟩
      · rintro ⟨j, h1, h2⟩
        cases j with
        | zero =>
          left
          simp at h2
          simp [h1, h2]
        | succ j => right; exact ⟨j, by omega, by simpa using h2⟩
theorem prs_get {ls : Array Slot} {nL : Nat} {lv : List (Option Value)} (h : lv_has ls nL (prs 0 lv)) {i : Nat} {v : Value} (hi : lv[i]? = some (some v)) : ls[i]? = some (.val v) :=
  h.2.2 (i, v) ((prs_mem lv 0 i v).mpr ⟨i, by omega, hi⟩)
theorem prs_set {ls : Array Slot} {nL : Nat} {lv : List (Option Value)} {i : Nat} {v : Value} (hc : ∀ w, (some w) ∈ lv → w.category = 1) (h : lv_has ls nL ((i, v) :: (prs 0 lv).filter (fun q => !(q.1 == i) && !(q.1 + 1 == i && q.2.category == 2)))) : lv_has ls nL (prs 0 (lv.set i (some v))) := by
  refine ⟨h.1, h.2.1, ?_⟩
  rintro ⟨j, w⟩ hm
  obtain ⟨k, h1, h2⟩ := (prs_mem _ 0 j w).mp hm
  have hk : j = k := by omega
  subst hk
  by_cases hj : j = i
  · subst hj
    have hlt : j < lv.length := by
      rcases Nat.lt_or_ge j lv.length with q | q
      · exact q
      · rw [List.getElem?_eq_none (by simpa using q)] at h2; cases h2
    rw [List.getElem?_set_self hlt] at h2
    cases h2
    exact h.2.2 _ List.mem_cons_self
  · rw [List.getElem?_set_ne (fun q => hj q.symm)] at h2
    refine h.2.2 (j, w) (List.mem_cons_of_mem _ (List.mem_filter.mpr ⟨(prs_mem lv 0 j w).mpr ⟨j, by omega, h2⟩, ?_⟩))
    have hw := hc w (List.mem_of_getElem? h2)
    simp [hj, hw]
-- the world
theorem wld_get (cA : Nat → ClassId) (ad : Nat → Nat) (M : Mem) {i : Nat} (hi : i < 70) : (Wld cA ad M)[i]? = some (ad i, cellOf cA ad M i) := by
  unfold Wld
  rw [List.getElem?_map, List.getElem?_range hi]
  rfl
theorem wld_lt {cA : Nat → ClassId} {ad : Nat → Nat} {M : Mem} {i : Nat} {q : Nat × va_E} (h : (Wld cA ad M)[i]? = some q) : i < 70 ∧ q = (ad i, cellOf cA ad M i) := by
  have hl : i < 70 := by
    rcases Nat.lt_or_ge i 70 with w | w
    · exact w
    · unfold Wld at h
      rw [List.getElem?_eq_none (by simpa using w)] at h; cases h
  rw [wld_get cA ad M hl] at h
  exact ⟨hl, (Option.some.inj h).symm⟩
theorem wld_D {cA : Nat → ClassId} {ad : Nat → Nat} (hI : INJ ad) (M : Mem) : va_D (AA ad) (Wld cA ad M) := by
  refine ⟨fun i j p q hi hj hpq => ?_, fun k q hk => ?_⟩
  · obtain ⟨h1, rfl⟩ := wld_lt hi
    obtain ⟨h2, rfl⟩ := wld_lt hj
    exact hI i j h1 h2 hpq
  · obtain ⟨h1, rfl⟩ := wld_lt hk
    exact ⟨k, h1, rfl⟩
theorem wld_set {cA : Nat → ClassId} {ad : Nat → Nat} {M M' : Mem} {i : Nat} {e : va_E} (hi : i < 70) (h1 : cellOf cA ad M' i = e) (h2 : ∀ j, j < 70 → j ≠ i → cellOf cA ad M' j = cellOf cA ad M j) : (Wld cA ad M).set i (ad i, e) = Wld cA ad M' := by
  apply List.ext_getElem?
  intro j
  by_cases hj : j < 70
  · rw [wld_get cA ad M' hj]
    by_cases hji : j = i
    · subst hji
      rw [List.getElem?_set_self (by unfold Wld; simpa using hj), h1]
    · rw [List.getElem?_set_ne (fun q => hji q.symm), wld_get cA ad M hj, h2 j hj hji]
  · rw [List.getElem?_eq_none (by unfold Wld; simp; omega), List.getElem?_eq_none (by unfold Wld; simp; omega)]
def ownI (p k : Nat) : Nat := if p < 6 then (if k < 14 then 10 + 10 * p else 12 + 10 * p + (k - 14) / 8) else if p = 6 then 1 else if p = 7 then 2 else if p = 8 then 0 else if p = 9 then 4 else p - 5
/-- one int is written -/
def mput (M : Mem) (p k : Nat) (x : Int32) : Mem := (va_up M.1 p (upd (M.1 p) k x), M.2)
theorem mput_ne {M : Mem} {p k q : Nat} {x : Int32} (h : q ≠ p) : (mput M p k x).1 q = M.1 q := by simp [mput, va_up, h]
theorem mput_eq {M : Mem} {p k : Nat} {x : Int32} : (mput M p k x).1 p = upd (M.1 p) k x := by simp [mput, va_up]
theorem mput_no {M : Mem} {p k q j : Nat} {x : Int32} (h : q ≠ p ∨ j ≠ k) : (mput M p k x).1 q j = M.1 q j := by
  by_cases hq : q = p
  · subst hq
    rw [mput_eq]
    rcases h with h | h
    · exact absurd rfl h
    · simp [upd, h]
  · rw [mput_ne hq]
theorem mput_at {M : Mem} {p k : Nat} {x : Int32} : (mput M p k x).1 p k = x := by rw [mput_eq]; simp [upd]
theorem mput_r {M : Mem} {p k : Nat} {x : Int32} : (mput M p k x).2 = M.2 := rfl
theorem cell_other (cA : Nat → ClassId) (ad : Nat → Nat) (M : Mem) {p k j : Nat} {x : Int32} (hp : p < 15) (hj : j < 70) (hne : j ≠ ownI p k) : cellOf cA ad (mput M p k x) j = cellOf cA ad M j := by
  have hp6 : 6 ≤ p → ownI p k = if p = 6 then 1 else if p = 7 then 2 else if p = 8 then 0 else if p = 9 then 4 else p - 5 := fun h => by
    unfold ownI; rw [if_neg (by omega)]
  have hpl : p < 6 → k < 14 → ownI p k = 10 + 10 * p := fun h h2 => by unfold ownI; rw [if_pos h, if_pos h2]
  have hps : p < 6 → ¬ k < 14 → ownI p k = 12 + 10 * p + (k - 14) / 8 := fun h h2 => by unfold ownI; rw [if_pos h, if_neg h2]
  have hq : ∀ q, q ≠ p → (mput M p k x).1 q = M.1 q := fun q h => mput_ne h
  have e6 : j = 1 → (mput M p k x).1 6 = M.1 6 := fun h => hq 6 (fun z => by subst z; exact hne (by rw [hp6 (by omega)]; simp; omega))
  have e7 : j = 2 → (mput M p k x).1 7 = M.1 7 := fun h => hq 7 (fun z => by subst z; exact hne (by rw [hp6 (by omega)]; simp; omega))
  have e8 : j = 0 → (mput M p k x).1 8 = M.1 8 := fun h => hq 8 (fun z => by subst z; exact hne (by rw [hp6 (by omega)]; simp; omega))
  have e9 : j = 4 → (mput M p k x).1 9 = M.1 9 := fun h => hq 9 (fun z => by subst z; exact hne (by rw [hp6 (by omega)]; simp; omega))
  have e10 : j = 5 → (mput M p k x).1 10 = M.1 10 := fun h => hq 10 (fun z => by subst z; exact hne (by rw [hp6 (by omega)]; simp; omega))
  have e11 : j = 6 → (mput M p k x).1 11 = M.1 11 := fun h => hq 11 (fun z => by subst z; exact hne (by rw [hp6 (by omega)]; simp; omega))
  have e12 : j = 7 → (mput M p k x).1 12 = M.1 12 := fun h => hq 12 (fun z => by subst z; exact hne (by rw [hp6 (by omega)]; simp; omega))
  have e13 : j = 8 → (mput M p k x).1 13 = M.1 13 := fun h => hq 13 (fun z => by subst z; exact hne (by rw [hp6 (by omega)]; simp; omega))
  have e14 : j = 9 → (mput M p k x).1 14 = M.1 14 := fun h => hq 14 (fun z => by subst z; exact hne (by rw [hp6 (by omega)]; simp; omega))
  have es : 10 ≤ j → (j - 10) % 10 = 0 → ∀ i, i < 14 → (mput M p k x).1 ((j - 10) / 10) i = M.1 ((j - 10) / 10) i := fun h h2 i hi => by
    refine mput_no ?_
    by_cases hz : (j - 10) / 10 = p
    · right
      intro hk
      exact hne (by rw [hpl (by omega) (by omega)]; omega)
    · exact Or.inl hz
  have em : 10 ≤ j → ¬ (j - 10) % 10 = 0 → ¬ (j - 10) % 10 = 1 → ∀ i, i < 8 → (mput M p k x).1 ((j - 10) / 10) (14 + 8 * ((j - 10) % 10 - 2) + i) = M.1 ((j - 10) / 10) (14 + 8 * ((j - 10) % 10 - 2) + i) := fun h h2 h3 i hi => by
    refine mput_no ?_
    by_cases hz : (j - 10) / 10 = p
    · right
      intro hk
      exact hne (by rw [hps (by omega) (by omega)]; omega)
    · exact Or.inl hz
  unfold cellOf
  simp only [mput_r]
  by_cases h0 : j = 0
  · simp only [if_pos h0, e8 h0]
  by_cases h1 : j = 1
  · simp only [if_neg h0, if_pos h1, e6 h1]
  by_cases h2 : j = 2
  · simp only [if_neg h0, if_neg h1, if_pos h2, e7 h2]
  by_cases h3 : j = 3
  · simp only [if_neg h0, if_neg h1, if_neg h2, if_pos h3]
  by_cases h4 : j = 4
  · simp only [if_neg h0, if_neg h1, if_neg h2, if_neg h3, if_pos h4, e9 h4]
  by_cases h5 : j = 5
  · simp only [if_neg h0, if_neg h1, if_neg h2, if_neg h3, if_neg h4, if_pos h5, e10 h5]
  by_cases h6 : j = 6
  · simp only [if_neg h0, if_neg h1, if_neg h2, if_neg h3, if_neg h4, if_neg h5, if_pos h6, e11 h6]
  by_cases h7 : j = 7
  · simp only [if_neg h0, if_neg h1, if_neg h2, if_neg h3, if_neg h4, if_neg h5, if_neg h6, if_pos h7, e12 h7]
  by_cases h8 : j = 8
  · simp only [if_neg h0, if_neg h1, if_neg h2, if_neg h3, if_neg h4, if_neg h5, if_neg h6, if_neg h7, if_pos h8, e13 h8]
  by_cases h9 : j = 9
  · simp only [if_neg h0, if_neg h1, if_neg h2, if_neg h3, if_neg h4, if_neg h5, if_neg h6, if_neg h7, if_neg h8, if_pos h9, e14 h9]
  have hj10 : 10 ≤ j := by omega
  simp only [if_neg h0, if_neg h1, if_neg h2, if_neg h3, if_neg h4, if_neg h5, if_neg h6, if_neg h7, if_neg h8, if_neg h9]
  by_cases hr : (j - 10) % 10 = 0
  · have q := es hj10 hr
    simp only [if_pos hr, q 0 (by omega), q 1 (by omega), q 2 (by omega), q 3 (by omega), q 4 (by omega), q 5 (by omega), q 6 (by omega), q 7 (by omega), q 8 (by omega), q 9 (by omega), q 10 (by omega), q 11 (by omega), q 12 (by omega), q 13 (by omega)]
  by_cases hr1 : (j - 10) % 10 = 1
  · simp only [if_neg hr, if_pos hr1]
  · have q := em hj10 hr hr1
    have q0 := q 0 (by omega)
    rw [Nat.add_zero] at q0
    simp only [if_neg hr, if_neg hr1, q0, q 1 (by omega), q 2 (by omega), q 3 (by omega), q 4 (by omega), q 5 (by omega), q 6 (by omega), q 7 (by omega)]
end
section
/-! ===== contracts from walks; ends; calls ===== -/
theorem PM_of {cA : Nat → ClassId} {ad : Nat → Nat} {D : va_G} {y : MethodName} {ws ws' : List Cond} {cc : ByteArray} {nL : Nat} {ret : Option FieldType} {d : Nat} {av : List Value} {lv : List (Option Value)} {M : Mem} {Q : QT}
    (hy : plainName y.cls = true) (hw : ws = Cond.code y cc nL ret :: ws') (hlen : (lg_sl av).length ≤ nL) (hlv : lv_args 0 av = prs 0 lv)
    (k : PW cA ad D y.cls ws cc nL ret d 0 lv [] M Q) : PM cA ad D y ws d av M Q := by
  intro hI l
  refine Met.ofW (cc := cc) (maxL := nL) (ret := ret) hy hw ?_
  intro p e s m args below meth c s₁ B hml hv
  obtain ⟨rfl, hW, hE⟩ := hv
  have hl := lv_entry av (n := nL) hlen
  rw [lg_entry_eq]
  rw [hlv] at hl
  exact k p l e s m _ below meth c s.heap [] _ ⟨B.exec, B.bytes, hml, findClass_of_methodNamed B.named, atoms_spec (ws := ws) B.pre, B.returns, B.notSynchronized, hE, hI⟩ hW va_S.rf hl
def catok : List (Option Value) → Bool
  | [] => true
  | some v :: t => (v.category == 1) && catok t
  | none :: t => catok t
theorem catok_of : ∀ {lv : List (Option Value)}, catok lv = true → ∀ w, (some w) ∈ lv → w.category = 1
  | [], _, w, h => by cases h
  | some v :: t, hc, w, h => by
    simp only [catok, Bool.and_eq_true, beq_iff_eq] at hc
    rcases List.mem_cons.mp h with q | q
    · cases q; exact hc.1
    · exact catok_of hc.2 w q
  | none :: t, hc, w, h => by
    simp only [catok] at hc
    rcases List.mem_cons.mp h with q | q
    · cases q
    · exact catok_of hc w q
section ROWS
variable {cA : Nat → ClassId} {ad : Nat → Nat} {D : va_G} {own : String} {ws : List Cond} {cc : ByteArray} {nL : Nat} {ret : Option FieldType} {d pc n : Nat} {lv : List (Option Value)} {st rest : List Value} {M : Mem} {Q : QT}
theorem r_iret {v : Int32} (h : decode cc pc = .ok (.ireturn, 1)) (hr : ret = some .int) (hq : Q (some (.int v)) M) : PW cA ad D own ws cc nL ret d pc lv [.int v] M Q := by
  intro p l e s m args below meth c H locs ls E hW hS hl
  subst hr
  exact W.iret E.1 E.2.1 E.2.2.2.2.2.1 (fun t ht _ => ⟨⟨_, M, rfl, hq, by rw [ht]; exact hW⟩, hS.F ht⟩) hS.2.2 h E.2.2.2.2.2.2.1
theorem r_zret {v : Int32} (h : decode cc pc = .ok (.ireturn, 1)) (hr : ret = some .boolean) (hv : v = 0 ∨ v = 1) (hq : Q (some (.int v)) M) : PW cA ad D own ws cc nL ret d pc lv [.int v] M Q := by
  intro p l e s m args below meth c H locs ls E hW hS hl
  subst hr
  exact W.zret E.1 E.2.1 E.2.2.2.2.2.1 (by rcases hv with rfl | rfl <;> decide +kernel) (fun t ht _ => ⟨⟨_, M, rfl, hq, by rw [ht]; exact hW⟩, hS.F ht⟩) hS.2.2 h E.2.2.2.2.2.2.1
theorem r_vret (h : decode cc pc = .ok (.return_, 1)) (hr : ret = none) (hq : Q none M) : PW cA ad D own ws cc nL ret d pc lv [] M Q := by
  intro p l e s m args below meth c H locs ls E hW hS hl
  subst hr
  exact W.vret E.1 E.2.1 E.2.2.2.2.2.1 (fun t ht _ => ⟨⟨_, M, rfl, hq, by rw [ht]; exact hW⟩, hS.F ht⟩) hS.2.2 h E.2.2.2.2.2.2.1
theorem r_aret {v : Value} {C : String} (h : decode cc pc = .ok (.areturn, 1)) (hr : ret = some (.object C)) (hv : v = .null ∨ ∃ a, v = .ref a) (hq : Q (some v) M) : PW cA ad D own ws cc nL ret d pc lv [v] M Q := by
  intro p l e s m args below meth c H locs ls E hW hS hl
  subst hr
  exact W.aret E.1 E.2.1 E.2.2.2.2.2.1 (Or.inl ⟨C, rfl⟩) hv (fun t ht _ => ⟨⟨_, M, rfl, hq, by rw [ht]; exact hW⟩, hS.F ht⟩) hS.2.2 h E.2.2.2.2.2.2.1
theorem r_iload_n {k : Fin 4} {i : Nat} {x : Int32} (h : decode cc pc = .ok (.iload_n k, 1)) (hi : (k : Nat) = i) (hg : lv[i]? = some (some (.int x))) (hn : pc + 1 = n) (kk : PW cA ad D own ws cc nL ret d n lv (.int x :: st) M Q) : PW cA ad D own ws cc nL ret d pc lv st M Q := by
  intro p l e s m args below meth c H locs ls E hW hS hl
  subst hn
  exact lv_iload_n E.1 E.2.1 h hi (prs_get hl hg) (kk p l e s m args below meth c H locs ls E hW hS hl)
theorem r_iload {i : Nat} {x : Int32} (h : decode cc pc = .ok (.iload i, 2)) (hg : lv[i]? = some (some (.int x))) (hn : pc + 2 = n) (kk : PW cA ad D own ws cc nL ret d n lv (.int x :: st) M Q) : PW cA ad D own ws cc nL ret d pc lv st M Q := by
  intro p l e s m args below meth c H locs ls E hW hS hl
  subst hn
  exact lv_iload E.1 E.2.1 h (prs_get hl hg) (kk p l e s m args below meth c H locs ls E hW hS hl)
theorem r_fload_n {k : Fin 4} {i : Nat} {x : UInt32} (h : decode cc pc = .ok (.fload_n k, 1)) (hi : (k : Nat) = i) (hg : lv[i]? = some (some (.float x))) (hn : pc + 1 = n) (kk : PW cA ad D own ws cc nL ret d n lv (.float x :: st) M Q) : PW cA ad D own ws cc nL ret d pc lv st M Q := by
  intro p l e s m args below meth c H locs ls E hW hS hl
  subst hn
  exact lv_fload_n E.1 E.2.1 h hi (prs_get hl hg) (kk p l e s m args below meth c H locs ls E hW hS hl)
theorem r_aload_n {k : Fin 4} {i : Nat} {x : Nat} (h : decode cc pc = .ok (.aload_n k, 1)) (hi : (k : Nat) = i) (hg : lv[i]? = some (some (.ref x))) (hn : pc + 1 = n) (kk : PW cA ad D own ws cc nL ret d n lv (.ref x :: st) M Q) : PW cA ad D own ws cc nL ret d pc lv st M Q := by
  intro p l e s m args below meth c H locs ls E hW hS hl
  subst hn
  exact lv_aload_n E.1 E.2.1 h hi (prs_get hl hg) (kk p l e s m args below meth c H locs ls E hW hS hl)
theorem r_aload {i : Nat} {x : Nat} (h : decode cc pc = .ok (.aload i, 2)) (hg : lv[i]? = some (some (.ref x))) (hn : pc + 2 = n) (kk : PW cA ad D own ws cc nL ret d n lv (.ref x :: st) M Q) : PW cA ad D own ws cc nL ret d pc lv st M Q := by
  intro p l e s m args below meth c H locs ls E hW hS hl
  subst hn
  exact lv_aload E.1 E.2.1 h (prs_get hl hg) (kk p l e s m args below meth c H locs ls E hW hS hl)
theorem r_aload_nN {k : Fin 4} {i : Nat} (h : decode cc pc = .ok (.aload_n k, 1)) (hi : (k : Nat) = i) (hg : lv[i]? = some (some .null)) (hn : pc + 1 = n) (kk : PW cA ad D own ws cc nL ret d n lv (.null :: st) M Q) : PW cA ad D own ws cc nL ret d pc lv st M Q := by
  intro p l e s m args below meth c H locs ls E hW hS hl
  subst hn
  exact lv_aload_nN E.1 E.2.1 h hi (prs_get hl hg) (kk p l e s m args below meth c H locs ls E hW hS hl)
theorem r_istore_n {k : Fin 4} {i : Nat} {x : Int32} (hL : i < nL) (hc : catok lv = true) (h : decode cc pc = .ok (.istore_n k, 1)) (hi : (k : Nat) = i) (hn : pc + 1 = n) (kk : PW cA ad D own ws cc nL ret d n (lv.set i (some (.int x))) st M Q) : PW cA ad D own ws cc nL ret d pc lv (.int x :: st) M Q := by
  intro p l e s m args below meth c H locs ls E hW hS hl
  subst hn
  exact lv_istore_n E.1 E.2.1 h hi hl hL rfl (fun ls hl => kk p l e s m args below meth c H locs ls E hW hS (prs_set (catok_of hc) hl))
theorem r_istore {i : Nat} {x : Int32} (hL : i < nL) (hc : catok lv = true) (h : decode cc pc = .ok (.istore i, 2)) (hn : pc + 2 = n) (kk : PW cA ad D own ws cc nL ret d n (lv.set i (some (.int x))) st M Q) : PW cA ad D own ws cc nL ret d pc lv (.int x :: st) M Q := by
  intro p l e s m args below meth c H locs ls E hW hS hl
  subst hn
  exact lv_istore E.1 E.2.1 h hl hL rfl (fun ls hl => kk p l e s m args below meth c H locs ls E hW hS (prs_set (catok_of hc) hl))
theorem r_fstore_n {k : Fin 4} {i : Nat} {x : UInt32} (hL : i < nL) (hc : catok lv = true) (h : decode cc pc = .ok (.fstore_n k, 1)) (hi : (k : Nat) = i) (hn : pc + 1 = n) (kk : PW cA ad D own ws cc nL ret d n (lv.set i (some (.float x))) st M Q) : PW cA ad D own ws cc nL ret d pc lv (.float x :: st) M Q := by
  intro p l e s m args below meth c H locs ls E hW hS hl
  subst hn
  exact lv_fstore_n E.1 E.2.1 h hi hl hL rfl (fun ls hl => kk p l e s m args below meth c H locs ls E hW hS (prs_set (catok_of hc) hl))
theorem r_astore_n {k : Fin 4} {i : Nat} {x : Nat} (hL : i < nL) (hc : catok lv = true) (h : decode cc pc = .ok (.astore_n k, 1)) (hi : (k : Nat) = i) (hn : pc + 1 = n) (kk : PW cA ad D own ws cc nL ret d n (lv.set i (some (.ref x))) st M Q) : PW cA ad D own ws cc nL ret d pc lv (.ref x :: st) M Q := by
  intro p l e s m args below meth c H locs ls E hW hS hl
  subst hn
  exact lv_astore_n E.1 E.2.1 h hi hl hL rfl (fun ls hl => kk p l e s m args below meth c H locs ls E hW hS (prs_set (catok_of hc) hl))
theorem r_astore {i : Nat} {x : Nat} (hL : i < nL) (hc : catok lv = true) (h : decode cc pc = .ok (.astore i, 2)) (hn : pc + 2 = n) (kk : PW cA ad D own ws cc nL ret d n (lv.set i (some (.ref x))) st M Q) : PW cA ad D own ws cc nL ret d pc lv (.ref x :: st) M Q := by
  intro p l e s m args below meth c H locs ls E hW hS hl
  subst hn
  exact lv_astore E.1 E.2.1 h hl hL rfl (fun ls hl => kk p l e s m args below meth c H locs ls E hW hS (prs_set (catok_of hc) hl))
theorem r_astore_nN {k : Fin 4} {i : Nat} (hL : i < nL) (hc : catok lv = true) (h : decode cc pc = .ok (.astore_n k, 1)) (hi : (k : Nat) = i) (hn : pc + 1 = n) (kk : PW cA ad D own ws cc nL ret d n (lv.set i (some .null)) st M Q) : PW cA ad D own ws cc nL ret d pc lv (.null :: st) M Q := by
  intro p l e s m args below meth c H locs ls E hW hS hl
  subst hn
  exact lv_astore_nN E.1 E.2.1 h hi hl hL rfl (fun ls hl => kk p l e s m args below meth c H locs ls E hW hS (prs_set (catok_of hc) hl))
theorem r_iinc {i : Nat} {z : Int} {x v : Int32} (hL : i < nL) (hc : catok lv = true) (h : decode cc pc = .ok (.iinc i z, 3)) (hg : lv[i]? = some (some (.int x))) (hv : x + Int32.ofInt z = v) (hn : pc + 3 = n) (kk : PW cA ad D own ws cc nL ret d n (lv.set i (some (.int v))) st M Q) : PW cA ad D own ws cc nL ret d pc lv st M Q := by
  intro p l e s m args below meth c H locs ls E hW hS hl
  subst hn
  have hm : (i, Value.int x) ∈ prs 0 lv := (prs_mem lv 0 i _).mpr ⟨i, by omega, hg⟩
  obtain ⟨k, hk⟩ := List.getElem?_of_mem hm
  exact lv_iinc E.1 E.2.1 h hl hk hv hL rfl (fun ls hl => kk p l e s m args below meth c H locs ls E hW hS (prs_set (catok_of hc) hl))
-- STRAIGHT
theorem r_iconst {k : Int} {v : Int32} (h : decode cc pc = .ok (.iconst k, 1)) (hv : Int32.ofInt k = v) (hn : pc + 1 = n) (kk : PW cA ad D own ws cc nL ret d n lv (.int v :: st) M Q) : PW cA ad D own ws cc nL ret d pc lv (st) M Q := by
  intro p l e s m args below meth c H locs ls E hW hS hl
  subst hn
  exact lv_iconst E.1 E.2.1 h hv (kk p l e s m args below meth c H locs ls E hW hS hl)
theorem r_bipush {k : Int} {v : Int32} (h : decode cc pc = .ok (.bipush k, 2)) (hv : (Int8.ofInt k).toInt32 = v) (hn : pc + 2 = n) (kk : PW cA ad D own ws cc nL ret d n lv (.int v :: st) M Q) : PW cA ad D own ws cc nL ret d pc lv (st) M Q := by
  intro p l e s m args below meth c H locs ls E hW hS hl
  subst hn
  exact lv_bipush E.1 E.2.1 h hv (kk p l e s m args below meth c H locs ls E hW hS hl)
theorem r_sipush {k : Int} {v : Int32} (h : decode cc pc = .ok (.sipush k, 3)) (hv : (Int16.ofInt k).toInt32 = v) (hn : pc + 3 = n) (kk : PW cA ad D own ws cc nL ret d n lv (.int v :: st) M Q) : PW cA ad D own ws cc nL ret d pc lv (st) M Q := by
  intro p l e s m args below meth c H locs ls E hW hS hl
  subst hn
  exact lv_sipush E.1 E.2.1 h hv (kk p l e s m args below meth c H locs ls E hW hS hl)
theorem r_ldc {i : Nat} {v : Int32} (h : decode cc pc = .ok (.ldc i, 2)) (hw : Cond.constant own i v ∈ ws) (hn : pc + 2 = n) (kk : PW cA ad D own ws cc nL ret d n lv (.int v :: st) M Q) : PW cA ad D own ws cc nL ret d pc lv (st) M Q := by
  intro p l e s m args below meth c H locs ls E hW hS hl
  subst hn
  exact lv_ldc E.1 E.2.1 E.2.2.2.1 (E.2.2.2.2.1 _ hw) h (kk p l e s m args below meth c H locs ls E hW hS hl)
theorem r_ldcw {i : Nat} {v : Int32} (h : decode cc pc = .ok (.ldc_w i, 3)) (hw : Cond.constant own i v ∈ ws) (hn : pc + 3 = n) (kk : PW cA ad D own ws cc nL ret d n lv (.int v :: st) M Q) : PW cA ad D own ws cc nL ret d pc lv (st) M Q := by
  intro p l e s m args below meth c H locs ls E hW hS hl
  subst hn
  exact lv_ldcw E.1 E.2.1 E.2.2.2.1 (E.2.2.2.2.1 _ hw) h (kk p l e s m args below meth c H locs ls E hW hS hl)
theorem r_ldcf {i : Nat} {v : UInt32} (h : decode cc pc = .ok (.ldc i, 2)) (hw : Cond.constantFloat own i v ∈ ws) (hn : pc + 2 = n) (kk : PW cA ad D own ws cc nL ret d n lv (.float v :: st) M Q) : PW cA ad D own ws cc nL ret d pc lv (st) M Q := by
  intro p l e s m args below meth c H locs ls E hW hS hl
  subst hn
  exact lv_ldcf E.1 E.2.1 E.2.2.2.1 (E.2.2.2.2.1 _ hw) h (kk p l e s m args below meth c H locs ls E hW hS hl)
theorem r_iadd {x y : Int32} (h : decode cc pc = .ok (.iadd, 1)) (hn : pc + 1 = n) (kk : PW cA ad D own ws cc nL ret d n lv (.int (x + y) :: st) M Q) : PW cA ad D own ws cc nL ret d pc lv (.int y :: .int x :: st) M Q := by
  intro p l e s m args below meth c H locs ls E hW hS hl
  subst hn
  exact lv_iadd E.1 E.2.1 h (kk p l e s m args below meth c H locs ls E hW hS hl)
theorem r_isub {x y : Int32} (h : decode cc pc = .ok (.isub, 1)) (hn : pc + 1 = n) (kk : PW cA ad D own ws cc nL ret d n lv (.int (x - y) :: st) M Q) : PW cA ad D own ws cc nL ret d pc lv (.int y :: .int x :: st) M Q := by
  intro p l e s m args below meth c H locs ls E hW hS hl
  subst hn
  exact lv_isub E.1 E.2.1 h (kk p l e s m args below meth c H locs ls E hW hS hl)
theorem r_imul {x y : Int32} (h : decode cc pc = .ok (.imul, 1)) (hn : pc + 1 = n) (kk : PW cA ad D own ws cc nL ret d n lv (.int (x * y) :: st) M Q) : PW cA ad D own ws cc nL ret d pc lv (.int y :: .int x :: st) M Q := by
  intro p l e s m args below meth c H locs ls E hW hS hl
  subst hn
  exact lv_imul E.1 E.2.1 h (kk p l e s m args below meth c H locs ls E hW hS hl)
theorem r_iand {x y : Int32} (h : decode cc pc = .ok (.iand, 1)) (hn : pc + 1 = n) (kk : PW cA ad D own ws cc nL ret d n lv (.int (x &&& y) :: st) M Q) : PW cA ad D own ws cc nL ret d pc lv (.int y :: .int x :: st) M Q := by
  intro p l e s m args below meth c H locs ls E hW hS hl
  subst hn
  exact lv_iand E.1 E.2.1 h (kk p l e s m args below meth c H locs ls E hW hS hl)
theorem r_ior {x y : Int32} (h : decode cc pc = .ok (.ior, 1)) (hn : pc + 1 = n) (kk : PW cA ad D own ws cc nL ret d n lv (.int (x ||| y) :: st) M Q) : PW cA ad D own ws cc nL ret d pc lv (.int y :: .int x :: st) M Q := by
  intro p l e s m args below meth c H locs ls E hW hS hl
  subst hn
  exact lv_ior E.1 E.2.1 h (kk p l e s m args below meth c H locs ls E hW hS hl)
theorem r_ixor {x y : Int32} (h : decode cc pc = .ok (.ixor, 1)) (hn : pc + 1 = n) (kk : PW cA ad D own ws cc nL ret d n lv (.int (x ^^^ y) :: st) M Q) : PW cA ad D own ws cc nL ret d pc lv (.int y :: .int x :: st) M Q := by
  intro p l e s m args below meth c H locs ls E hW hS hl
  subst hn
  exact lv_ixor E.1 E.2.1 h (kk p l e s m args below meth c H locs ls E hW hS hl)
theorem r_idiv {x y : Int32} (h : decode cc pc = .ok (.idiv, 1)) (hne : ¬ y = 0) (hn : pc + 1 = n) (kk : PW cA ad D own ws cc nL ret d n lv (.int (x / y) :: st) M Q) : PW cA ad D own ws cc nL ret d pc lv (.int y :: .int x :: st) M Q := by
  intro p l e s m args below meth c H locs ls E hW hS hl
  subst hn
  exact lv_idiv E.1 E.2.1 h hne (kk p l e s m args below meth c H locs ls E hW hS hl)
theorem r_ineg {x : Int32} (h : decode cc pc = .ok (.ineg, 1)) (hn : pc + 1 = n) (kk : PW cA ad D own ws cc nL ret d n lv (.int (-x) :: st) M Q) : PW cA ad D own ws cc nL ret d pc lv (.int x :: st) M Q := by
  intro p l e s m args below meth c H locs ls E hW hS hl
  subst hn
  exact lv_ineg E.1 E.2.1 h (kk p l e s m args below meth c H locs ls E hW hS hl)
theorem r_ishl {x y : Int32} (h : decode cc pc = .ok (.ishl, 1)) (hn : pc + 1 = n) (kk : PW cA ad D own ws cc nL ret d n lv (.int (x <<< (y &&& 31)) :: st) M Q) : PW cA ad D own ws cc nL ret d pc lv (.int y :: .int x :: st) M Q := by
  intro p l e s m args below meth c H locs ls E hW hS hl
  subst hn
  exact lv_ishl E.1 E.2.1 h (kk p l e s m args below meth c H locs ls E hW hS hl)
theorem r_ishr {x y : Int32} (h : decode cc pc = .ok (.ishr, 1)) (hn : pc + 1 = n) (kk : PW cA ad D own ws cc nL ret d n lv (.int (x >>> (y &&& 31)) :: st) M Q) : PW cA ad D own ws cc nL ret d pc lv (.int y :: .int x :: st) M Q := by
  intro p l e s m args below meth c H locs ls E hW hS hl
  subst hn
  exact lv_ishr E.1 E.2.1 h (kk p l e s m args below meth c H locs ls E hW hS hl)
theorem r_iushr {x y : Int32} (h : decode cc pc = .ok (.iushr, 1)) (hn : pc + 1 = n) (kk : PW cA ad D own ws cc nL ret d n lv (.int (x.toUInt32 >>> (y.toUInt32 &&& Int32.toUInt32 31)).toInt32 :: st) M Q) : PW cA ad D own ws cc nL ret d pc lv (.int y :: .int x :: st) M Q := by
  intro p l e s m args below meth c H locs ls E hW hS hl
  subst hn
  exact lv_iushr E.1 E.2.1 h rfl (kk p l e s m args below meth c H locs ls E hW hS hl)
theorem r_i2c {x : Int32} (h : decode cc pc = .ok (.i2c, 1)) (hn : pc + 1 = n) (kk : PW cA ad D own ws cc nL ret d n lv (.int (x.toUInt32 % 65536).toInt32 :: st) M Q) : PW cA ad D own ws cc nL ret d pc lv (.int x :: st) M Q := by
  intro p l e s m args below meth c H locs ls E hW hS hl
  subst hn
  exact lv_i2c E.1 E.2.1 h rfl (kk p l e s m args below meth c H locs ls E hW hS hl)
theorem r_dup {v : Value} (h : decode cc pc = .ok (.dup, 1)) (hv : v.category = 1) (hn : pc + 1 = n) (kk : PW cA ad D own ws cc nL ret d n lv (v :: v :: st) M Q) : PW cA ad D own ws cc nL ret d pc lv (v :: st) M Q := by
  intro p l e s m args below meth c H locs ls E hW hS hl
  subst hn
  exact lv_dup E.1 E.2.1 h hv (kk p l e s m args below meth c H locs ls E hW hS hl)
theorem r_dup2 {v w : Value} (h : decode cc pc = .ok (.dup2, 1)) (hv : w.category = 1) (hw : v.category = 1) (hn : pc + 1 = n) (kk : PW cA ad D own ws cc nL ret d n lv (w :: v :: w :: v :: st) M Q) : PW cA ad D own ws cc nL ret d pc lv (w :: v :: st) M Q := by
  intro p l e s m args below meth c H locs ls E hW hS hl
  subst hn
  exact lv_dup2_11 E.1 E.2.1 h hv hw (kk p l e s m args below meth c H locs ls E hW hS hl)
theorem r_null (h : decode cc pc = .ok (.aconst_null, 1)) (hn : pc + 1 = n) (kk : PW cA ad D own ws cc nL ret d n lv (.null :: st) M Q) : PW cA ad D own ws cc nL ret d pc lv (st) M Q := by
  intro p l e s m args below meth c H locs ls E hW hS hl
  subst hn
  exact lv_null E.1 E.2.1 h (kk p l e s m args below meth c H locs ls E hW hS hl)
theorem r_i2f {x : Int32} (h : decode cc pc = .ok (.i2f, 1)) (hn : pc + 1 = n) (kk : PW cA ad D own ws cc nL ret d n lv (.float (FP.i2f x) :: st) M Q) : PW cA ad D own ws cc nL ret d pc lv (.int x :: st) M Q := by
  intro p l e s m args below meth c H locs ls E hW hS hl
  subst hn
  exact lv_i2f E.1 E.2.1 h (kk p l e s m args below meth c H locs ls E hW hS hl)
theorem r_f2i {x : UInt32} (h : decode cc pc = .ok (.f2i, 1)) (hn : pc + 1 = n) (kk : PW cA ad D own ws cc nL ret d n lv (.int (FP.f2i x) :: st) M Q) : PW cA ad D own ws cc nL ret d pc lv (.float x :: st) M Q := by
  intro p l e s m args below meth c H locs ls E hW hS hl
  subst hn
  exact lv_f2i E.1 E.2.1 h (kk p l e s m args below meth c H locs ls E hW hS hl)
theorem r_fdiv {x y : UInt32} (h : decode cc pc = .ok (.fdiv, 1)) (hne : vf_n32 (FP.fdiv x y)) (hn : pc + 1 = n) (kk : PW cA ad D own ws cc nL ret d n lv (.float (FP.fdiv x y) :: st) M Q) : PW cA ad D own ws cc nL ret d pc lv (.float y :: .float x :: st) M Q := by
  intro p l e s m args below meth c H locs ls E hW hS hl
  subst hn
  exact lv_fdiv E.1 E.2.1 h hne (kk p l e s m args below meth c H locs ls E hW hS hl)
theorem r_fmul {x y : UInt32} (h : decode cc pc = .ok (.fmul, 1)) (hne : vf_n32 (FP.fmul x y)) (hn : pc + 1 = n) (kk : PW cA ad D own ws cc nL ret d n lv (.float (FP.fmul x y) :: st) M Q) : PW cA ad D own ws cc nL ret d pc lv (.float y :: .float x :: st) M Q := by
  intro p l e s m args below meth c H locs ls E hW hS hl
  subst hn
  exact lv_fmul E.1 E.2.1 h hne (kk p l e s m args below meth c H locs ls E hW hS hl)
theorem r_fsub {x y : UInt32} (h : decode cc pc = .ok (.fsub, 1)) (hne : vf_n32 (FP.fsub x y)) (hn : pc + 1 = n) (kk : PW cA ad D own ws cc nL ret d n lv (.float (FP.fsub x y) :: st) M Q) : PW cA ad D own ws cc nL ret d pc lv (.float y :: .float x :: st) M Q := by
  intro p l e s m args below meth c H locs ls E hW hS hl
  subst hn
  exact lv_fsub E.1 E.2.1 h hne (kk p l e s m args below meth c H locs ls E hW hS hl)
theorem r_fcmp {x y : UInt32} {op : CmpOp} (h : decode cc pc = .ok (.fcmp op, 1)) (hn : pc + 1 = n) (kk : PW cA ad D own ws cc nL ret d n lv (.int (Op.cmpValue (FP.fcmp x y) op) :: st) M Q) : PW cA ad D own ws cc nL ret d pc lv (.float y :: .float x :: st) M Q := by
  intro p l e s m args below meth c H locs ls E hW hS hl
  subst hn
  exact lv_fcmp E.1 E.2.1 h (kk p l e s m args below meth c H locs ls E hW hS hl)
theorem r_fconst0 (h : decode cc pc = .ok (.fconst 0, 1)) (hn : pc + 1 = n) (kk : PW cA ad D own ws cc nL ret d n lv (.float FP.fconst0 :: st) M Q) : PW cA ad D own ws cc nL ret d pc lv (st) M Q := by
  intro p l e s m args below meth c H locs ls E hW hS hl
  subst hn
  exact lv_fconst0 E.1 E.2.1 h (kk p l e s m args below meth c H locs ls E hW hS hl)
theorem r_fconst1 (h : decode cc pc = .ok (.fconst 1, 1)) (hn : pc + 1 = n) (kk : PW cA ad D own ws cc nL ret d n lv (.float FP.fconst1 :: st) M Q) : PW cA ad D own ws cc nL ret d pc lv (st) M Q := by
  intro p l e s m args below meth c H locs ls E hW hS hl
  subst hn
  exact lv_fconst1 E.1 E.2.1 h (kk p l e s m args below meth c H locs ls E hW hS hl)
theorem r_fconst2 (h : decode cc pc = .ok (.fconst 2, 1)) (hn : pc + 1 = n) (kk : PW cA ad D own ws cc nL ret d n lv (.float FP.fconst2 :: st) M Q) : PW cA ad D own ws cc nL ret d pc lv (st) M Q := by
  intro p l e s m args below meth c H locs ls E hW hS hl
  subst hn
  exact lv_fconst2 E.1 E.2.1 h (kk p l e s m args below meth c H locs ls E hW hS hl)
theorem r_if_eq {x : Int32} {off : Int} {tgt : Nat} (h : decode cc pc = .ok (.ifCond .eq off, 3)) (ht : (pc : Int) + off = (tgt : Int)) (hn : pc + 3 = n) (kt : x = 0 → PW cA ad D own ws cc nL ret d tgt lv st M Q) (kf : ¬ x = 0 → PW cA ad D own ws cc nL ret d n lv st M Q) : PW cA ad D own ws cc nL ret d pc lv (.int x :: st) M Q := by
  intro p l e s m args below meth c H locs ls E hW hS hl
  subst hn
  exact lv_if_eq E.1 E.2.1 h ht (fun q => kt q p l e s m args below meth c H locs ls E hW hS hl) (fun q => kf q p l e s m args below meth c H locs ls E hW hS hl)
theorem r_icmp_eq {x y : Int32} {off : Int} {tgt : Nat} (h : decode cc pc = .ok (.if_icmp .eq off, 3)) (ht : (pc : Int) + off = (tgt : Int)) (hn : pc + 3 = n) (kt : x = y → PW cA ad D own ws cc nL ret d tgt lv st M Q) (kf : ¬ x = y → PW cA ad D own ws cc nL ret d n lv st M Q) : PW cA ad D own ws cc nL ret d pc lv (.int y :: .int x :: st) M Q := by
  intro p l e s m args below meth c H locs ls E hW hS hl
  subst hn
  exact lv_icmp_eq E.1 E.2.1 h ht (fun q => kt q p l e s m args below meth c H locs ls E hW hS hl) (fun q => kf q p l e s m args below meth c H locs ls E hW hS hl)
theorem r_if_ne {x : Int32} {off : Int} {tgt : Nat} (h : decode cc pc = .ok (.ifCond .ne off, 3)) (ht : (pc : Int) + off = (tgt : Int)) (hn : pc + 3 = n) (kt : ¬ x = 0 → PW cA ad D own ws cc nL ret d tgt lv st M Q) (kf : x = 0 → PW cA ad D own ws cc nL ret d n lv st M Q) : PW cA ad D own ws cc nL ret d pc lv (.int x :: st) M Q := by
  intro p l e s m args below meth c H locs ls E hW hS hl
  subst hn
  exact lv_if_ne E.1 E.2.1 h ht (fun q => kt q p l e s m args below meth c H locs ls E hW hS hl) (fun q => kf q p l e s m args below meth c H locs ls E hW hS hl)
theorem r_icmp_ne {x y : Int32} {off : Int} {tgt : Nat} (h : decode cc pc = .ok (.if_icmp .ne off, 3)) (ht : (pc : Int) + off = (tgt : Int)) (hn : pc + 3 = n) (kt : ¬ x = y → PW cA ad D own ws cc nL ret d tgt lv st M Q) (kf : x = y → PW cA ad D own ws cc nL ret d n lv st M Q) : PW cA ad D own ws cc nL ret d pc lv (.int y :: .int x :: st) M Q := by
  intro p l e s m args below meth c H locs ls E hW hS hl
  subst hn
  exact lv_icmp_ne E.1 E.2.1 h ht (fun q => kt q p l e s m args below meth c H locs ls E hW hS hl) (fun q => kf q p l e s m args below meth c H locs ls E hW hS hl)
theorem r_if_lt {x : Int32} {off : Int} {tgt : Nat} (h : decode cc pc = .ok (.ifCond .lt off, 3)) (ht : (pc : Int) + off = (tgt : Int)) (hn : pc + 3 = n) (kt : x < 0 → PW cA ad D own ws cc nL ret d tgt lv st M Q) (kf : ¬ x < 0 → PW cA ad D own ws cc nL ret d n lv st M Q) : PW cA ad D own ws cc nL ret d pc lv (.int x :: st) M Q := by
  intro p l e s m args below meth c H locs ls E hW hS hl
  subst hn
  exact lv_if_lt E.1 E.2.1 h ht (fun q => kt q p l e s m args below meth c H locs ls E hW hS hl) (fun q => kf q p l e s m args below meth c H locs ls E hW hS hl)
theorem r_icmp_lt {x y : Int32} {off : Int} {tgt : Nat} (h : decode cc pc = .ok (.if_icmp .lt off, 3)) (ht : (pc : Int) + off = (tgt : Int)) (hn : pc + 3 = n) (kt : x < y → PW cA ad D own ws cc nL ret d tgt lv st M Q) (kf : ¬ x < y → PW cA ad D own ws cc nL ret d n lv st M Q) : PW cA ad D own ws cc nL ret d pc lv (.int y :: .int x :: st) M Q := by
  intro p l e s m args below meth c H locs ls E hW hS hl
  subst hn
  exact lv_icmp_lt E.1 E.2.1 h ht (fun q => kt q p l e s m args below meth c H locs ls E hW hS hl) (fun q => kf q p l e s m args below meth c H locs ls E hW hS hl)
theorem r_if_ge {x : Int32} {off : Int} {tgt : Nat} (h : decode cc pc = .ok (.ifCond .ge off, 3)) (ht : (pc : Int) + off = (tgt : Int)) (hn : pc + 3 = n) (kt : 0 ≤ x → PW cA ad D own ws cc nL ret d tgt lv st M Q) (kf : ¬ 0 ≤ x → PW cA ad D own ws cc nL ret d n lv st M Q) : PW cA ad D own ws cc nL ret d pc lv (.int x :: st) M Q := by
  intro p l e s m args below meth c H locs ls E hW hS hl
  subst hn
  exact lv_if_ge E.1 E.2.1 h ht (fun q => kt q p l e s m args below meth c H locs ls E hW hS hl) (fun q => kf q p l e s m args below meth c H locs ls E hW hS hl)
theorem r_icmp_ge {x y : Int32} {off : Int} {tgt : Nat} (h : decode cc pc = .ok (.if_icmp .ge off, 3)) (ht : (pc : Int) + off = (tgt : Int)) (hn : pc + 3 = n) (kt : y ≤ x → PW cA ad D own ws cc nL ret d tgt lv st M Q) (kf : ¬ y ≤ x → PW cA ad D own ws cc nL ret d n lv st M Q) : PW cA ad D own ws cc nL ret d pc lv (.int y :: .int x :: st) M Q := by
  intro p l e s m args below meth c H locs ls E hW hS hl
  subst hn
  exact lv_icmp_ge E.1 E.2.1 h ht (fun q => kt q p l e s m args below meth c H locs ls E hW hS hl) (fun q => kf q p l e s m args below meth c H locs ls E hW hS hl)
theorem r_if_gt {x : Int32} {off : Int} {tgt : Nat} (h : decode cc pc = .ok (.ifCond .gt off, 3)) (ht : (pc : Int) + off = (tgt : Int)) (hn : pc + 3 = n) (kt : 0 < x → PW cA ad D own ws cc nL ret d tgt lv st M Q) (kf : ¬ 0 < x → PW cA ad D own ws cc nL ret d n lv st M Q) : PW cA ad D own ws cc nL ret d pc lv (.int x :: st) M Q := by
  intro p l e s m args below meth c H locs ls E hW hS hl
  subst hn
  exact lv_if_gt E.1 E.2.1 h ht (fun q => kt q p l e s m args below meth c H locs ls E hW hS hl) (fun q => kf q p l e s m args below meth c H locs ls E hW hS hl)
theorem r_icmp_gt {x y : Int32} {off : Int} {tgt : Nat} (h : decode cc pc = .ok (.if_icmp .gt off, 3)) (ht : (pc : Int) + off = (tgt : Int)) (hn : pc + 3 = n) (kt : y < x → PW cA ad D own ws cc nL ret d tgt lv st M Q) (kf : ¬ y < x → PW cA ad D own ws cc nL ret d n lv st M Q) : PW cA ad D own ws cc nL ret d pc lv (.int y :: .int x :: st) M Q := by
  intro p l e s m args below meth c H locs ls E hW hS hl
  subst hn
  exact lv_icmp_gt E.1 E.2.1 h ht (fun q => kt q p l e s m args below meth c H locs ls E hW hS hl) (fun q => kf q p l e s m args below meth c H locs ls E hW hS hl)
theorem r_if_le {x : Int32} {off : Int} {tgt : Nat} (h : decode cc pc = .ok (.ifCond .le off, 3)) (ht : (pc : Int) + off = (tgt : Int)) (hn : pc + 3 = n) (kt : x ≤ 0 → PW cA ad D own ws cc nL ret d tgt lv st M Q) (kf : ¬ x ≤ 0 → PW cA ad D own ws cc nL ret d n lv st M Q) : PW cA ad D own ws cc nL ret d pc lv (.int x :: st) M Q := by
  intro p l e s m args below meth c H locs ls E hW hS hl
  subst hn
  exact lv_if_le E.1 E.2.1 h ht (fun q => kt q p l e s m args below meth c H locs ls E hW hS hl) (fun q => kf q p l e s m args below meth c H locs ls E hW hS hl)
theorem r_icmp_le {x y : Int32} {off : Int} {tgt : Nat} (h : decode cc pc = .ok (.if_icmp .le off, 3)) (ht : (pc : Int) + off = (tgt : Int)) (hn : pc + 3 = n) (kt : x ≤ y → PW cA ad D own ws cc nL ret d tgt lv st M Q) (kf : ¬ x ≤ y → PW cA ad D own ws cc nL ret d n lv st M Q) : PW cA ad D own ws cc nL ret d pc lv (.int y :: .int x :: st) M Q := by
  intro p l e s m args below meth c H locs ls E hW hS hl
  subst hn
  exact lv_icmp_le E.1 E.2.1 h ht (fun q => kt q p l e s m args below meth c H locs ls E hW hS hl) (fun q => kf q p l e s m args below meth c H locs ls E hW hS hl)
theorem r_goto {off : Int} {tgt : Nat} (h : decode cc pc = .ok (.goto off, 3)) (ht : (pc : Int) + off = (tgt : Int)) (kk : PW cA ad D own ws cc nL ret d tgt lv st M Q) : PW cA ad D own ws cc nL ret d pc lv st M Q := by
  intro p l e s m args below meth c H locs ls E hW hS hl
  exact lv_goto E.1 E.2.1 h ht (kk p l e s m args below meth c H locs ls E hW hS hl)
theorem r_ifnull {x : Nat} {off : Int} (h : decode cc pc = .ok (.ifnull off, 3)) (hn : pc + 3 = n) (kk : PW cA ad D own ws cc nL ret d n lv st M Q) : PW cA ad D own ws cc nL ret d pc lv (.ref x :: st) M Q := by
  intro p l e s m args below meth c H locs ls E hW hS hl
  subst hn
  exact lv_ifnull E.1 E.2.1 h (kk p l e s m args below meth c H locs ls E hW hS hl)
theorem r_ifnullN {off : Int} {tgt : Nat} (h : decode cc pc = .ok (.ifnull off, 3)) (ht : (pc : Int) + off = (tgt : Int)) (kk : PW cA ad D own ws cc nL ret d tgt lv st M Q) : PW cA ad D own ws cc nL ret d pc lv (.null :: st) M Q := by
  intro p l e s m args below meth c H locs ls E hW hS hl
  exact lv_ifnullN E.1 E.2.1 h ht (kk p l e s m args below meth c H locs ls E hW hS hl)
theorem r_ifnonnull {x : Nat} {off : Int} {tgt : Nat} (h : decode cc pc = .ok (.ifnonnull off, 3)) (ht : (pc : Int) + off = (tgt : Int)) (kk : PW cA ad D own ws cc nL ret d tgt lv st M Q) : PW cA ad D own ws cc nL ret d pc lv (.ref x :: st) M Q := by
  intro p l e s m args below meth c H locs ls E hW hS hl
  exact lv_ifnonnull E.1 E.2.1 h ht (kk p l e s m args below meth c H locs ls E hW hS hl)
theorem r_ifnonnullN {off : Int} (h : decode cc pc = .ok (.ifnonnull off, 3)) (hn : pc + 3 = n) (kk : PW cA ad D own ws cc nL ret d n lv st M Q) : PW cA ad D own ws cc nL ret d pc lv (.null :: st) M Q := by
  intro p l e s m args below meth c H locs ls E hW hS hl
  subst hn
  exact lv_ifnonnullN E.1 E.2.1 h (kk p l e s m args below meth c H locs ls E hW hS hl)
theorem r_tableIn {dflt lo hi : Int} {offs : Array Int} {len : Nat} {x : Int32} {off : Int} {tgt : Nat} (h : decode cc pc = .ok (.tableswitch dflt lo hi offs, len)) (h1 : ¬ x.toInt < lo) (h2 : ¬ hi < x.toInt) (ho : offs[(x.toInt - lo).toNat]? = some off) (ht : (pc : Int) + off = (tgt : Int)) (kk : PW cA ad D own ws cc nL ret d tgt lv st M Q) : PW cA ad D own ws cc nL ret d pc lv (.int x :: st) M Q := by
  intro p l e s m args below meth c H locs ls E hW hS hl
  exact lv_tableIn E.1 E.2.1 h h1 h2 ho ht (kk p l e s m args below meth c H locs ls E hW hS hl)
theorem r_tableOut {dflt lo hi : Int} {offs : Array Int} {len : Nat} {x : Int32} {tgt : Nat} (h : decode cc pc = .ok (.tableswitch dflt lo hi offs, len)) (h1 : x.toInt < lo ∨ hi < x.toInt) (ht : (pc : Int) + dflt = (tgt : Int)) (kk : PW cA ad D own ws cc nL ret d tgt lv st M Q) : PW cA ad D own ws cc nL ret d pc lv (.int x :: st) M Q := by
  intro p l e s m args below meth c H locs ls E hW hS hl
  exact lv_tableOut E.1 E.2.1 h h1 ht (kk p l e s m args below meth c H locs ls E hW hS hl)
theorem r_lookup {dflt : Int} {ps : Array (Int × Int)} {len : Nat} {x : Int32} {off : Int} {tgt : Nat} (h : decode cc pc = .ok (.lookupswitch dflt ps, len)) (hp : (ps.toList.zip (ps.toList.drop 1)).all (fun (a, next) => a.1 < next.1) = true) (ho : Op.lookupswitch.offset ps.toList dflt x.toInt = off) (ht : (pc : Int) + off = (tgt : Int)) (kk : PW cA ad D own ws cc nL ret d tgt lv st M Q) : PW cA ad D own ws cc nL ret d pc lv (.int x :: st) M Q := by
  intro p l e s m args below meth c H locs ls E hW hS hl
  exact lv_lookup E.1 E.2.1 h hp ho ht (kk p l e s m args below meth c H locs ls E hW hS hl)
theorem r_mmax {i : Nat} {x y : Int32} (hd : 1 ≤ d) (h1 : Cond.methodLink own i Lib.Math.max.name ∈ ws) (h2 : Cond.static Lib.Math.max.name ∈ ws) (h3 : Cond.initialized "java/lang/Math" ∈ ws) (h4 : Cond.code Lib.Math.max.name Lib.Math.max.code 2 (some .int) ∈ ws) (hst : (st.map fun v => v.category).sum ≤ 8) (h : decode cc pc = .ok (.invokestatic i, 3)) (hn : pc + 3 = n) (kk : PW cA ad D own ws cc nL ret d n lv (.int (if x < y then y else x) :: st) M Q) : PW cA ad D own ws cc nL ret d pc lv (.int y :: .int x :: st) M Q := by
  intro p l e s m args below meth c H locs ls E hW hS hl
  subst hn
  exact va_mmax E.1 E.2.1 (E.2.2.1.trans hl.1.symm) E.2.2.2.1 (E.2.2.2.2.1 _ h1) (E.2.2.2.2.1 _ h2) (E.2.2.2.2.1 _ h3) (E.2.2.2.2.1 _ h4) hd (by show _ ≤ 32 * d; omega) (Nat.zero_le _) (Nat.zero_le _) h (kk p l e s m args below meth c H locs ls E hW hS hl)
theorem r_mmin {i : Nat} {x y : Int32} (hd : 1 ≤ d) (h1 : Cond.methodLink own i Lib.Math.min.name ∈ ws) (h2 : Cond.static Lib.Math.min.name ∈ ws) (h3 : Cond.initialized "java/lang/Math" ∈ ws) (h4 : Cond.code Lib.Math.min.name Lib.Math.min.code 2 (some .int) ∈ ws) (hst : (st.map fun v => v.category).sum ≤ 8) (h : decode cc pc = .ok (.invokestatic i, 3)) (hn : pc + 3 = n) (kk : PW cA ad D own ws cc nL ret d n lv (.int (if y < x then y else x) :: st) M Q) : PW cA ad D own ws cc nL ret d pc lv (.int y :: .int x :: st) M Q := by
  intro p l e s m args below meth c H locs ls E hW hS hl
  subst hn
  exact va_mmin E.1 E.2.1 (E.2.2.1.trans hl.1.symm) E.2.2.2.1 (E.2.2.2.2.1 _ h1) (E.2.2.2.2.1 _ h2) (E.2.2.2.2.1 _ h3) (E.2.2.2.2.1 _ h4) hd (by show _ ≤ 32 * d; omega) (Nat.zero_le _) (Nat.zero_le _) h (kk p l e s m args below meth c H locs ls E hW hS hl)
theorem r_mabs {i : Nat} {x : Int32} (hd : 1 ≤ d) (h1 : Cond.methodLink own i Lib.Math.abs.name ∈ ws) (h2 : Cond.static Lib.Math.abs.name ∈ ws) (h3 : Cond.initialized "java/lang/Math" ∈ ws) (h4 : Cond.code Lib.Math.abs.name Lib.Math.abs.code 1 (some .int) ∈ ws) (hst : (st.map fun v => v.category).sum ≤ 8) (h : decode cc pc = .ok (.invokestatic i, 3)) (hn : pc + 3 = n) (kk : PW cA ad D own ws cc nL ret d n lv (.int (if 0 ≤ x then x else 0 - x) :: st) M Q) : PW cA ad D own ws cc nL ret d pc lv (.int x :: st) M Q := by
  intro p l e s m args below meth c H locs ls E hW hS hl
  subst hn
  exact va_mabs E.1 E.2.1 (E.2.2.1.trans hl.1.symm) E.2.2.2.1 (E.2.2.2.2.1 _ h1) (E.2.2.2.2.1 _ h2) (E.2.2.2.2.1 _ h3) (E.2.2.2.2.1 _ h4) hd (by show _ ≤ 32 * d; omega) (Nat.zero_le _) (Nat.zero_le _) h (kk p l e s m args below meth c H locs ls E hW hS hl)
/-- a field is read -/
theorem r_get {index i ci k N : Nat} {C : String} {T : u_T} {fs : List Value} {v : Value} (hi : i < 70) (hc : cellOf cA ad M i = .inr (ci, fs)) (hcl : vwCl[ci]? = some (C, T, N)) (hin : ∀ w ∈ u_ws C T N, w ∈ ws) (hk : k < N) (hlink : Cond.fieldLink own index (T k).1 (T k).2.1 (T k).2.2.1 ∈ ws) (hv : fs[k]? = some v) (h : decode cc pc = .ok (.getfield index, 3)) (hn : pc + 3 = n) (kk : PW cA ad D own ws cc nL ret d n lv (v :: st) M Q) : PW cA ad D own ws cc nL ret d pc lv (.ref (ad i) :: st) M Q := by
  intro p l e s m args below meth c H locs ls E hW hS hl
  subst hn
  exact va_get E.1 E.2.1 E.2.2.2.2.1 hin E.2.2.2.1 E.2.2.2.2.2.2.2.1.1 hW i ((wld_get cA ad M hi).trans (by rw [hc])) hcl k hk (E.2.2.2.2.1 _ hlink) (fun _ h9 => h9) hv h (kk p l e s m args below meth c H locs ls E hW hS hl)
/-- a field is written -/
theorem r_put {index i ci k N : Nat} {C : String} {T : u_T} {fs : List Value} {v : Value} {ty : FieldType} {M' : Mem} (hi : i < 70) (hc : cellOf cA ad M i = .inr (ci, fs)) (hcl : vwCl[ci]? = some (C, T, N)) (ty0 : Nat → FieldType) (hty : ∀ k, k < N → parseFieldDescriptor (T k).2.2.1 = some (ty0 k)) (hnm : ∀ a, a < N → ∀ b, b < N → a ≠ b → (T a).2.1 ≠ (T b).2.1) (hin : ∀ w ∈ u_ws C T N, w ∈ ws) (hk : k < N) (hlink : Cond.fieldLink own index (T k).1 (T k).2.1 (T k).2.2.1 ∈ ws) (hfin : (T k).2.2.2 = false) (hd : parseFieldDescriptor (T k).2.2.1 = some ty) (hna : narrow ty v = v) (hfit : fits ty v = true) (hlk : k < fs.length) (hM : cellOf cA ad M' i = .inr (ci, fs.set k v)) (hM2 : ∀ j, j < 70 → j ≠ i → cellOf cA ad M' j = cellOf cA ad M j) (h : decode cc pc = .ok (.putfield index, 3)) (hn : pc + 3 = n) (kk : PW cA ad D own ws cc nL ret d n lv st M' Q) : PW cA ad D own ws cc nL ret d pc lv (v :: .ref (ad i) :: st) M Q := by
  intro p l e s m args below meth c H locs ls E hW hS hl
  subst hn
  refine va_put E.1 E.2.1 E.2.2.2.2.1 hin ty0 hty hnm E.2.2.2.1 E.2.2.2.2.2.2.2.1.1 hW (wld_D E.2.2.2.2.2.2.2.2 M) hS i ((wld_get cA ad M hi).trans (by rw [hc])) hcl k hk (E.2.2.2.2.1 _ hlink) (fun _ h9 => h9) hfin hd hna hfit hlk h (fun H1 locs1 hP1 hD1 hS1 => ?_)
  rw [wld_set hi hM hM2] at hP1
  exact kk p l e s m args below meth c H1 locs1 ls E hP1 hS1 hl
/-- an int of a row is read -/
theorem r_iald {i len : Nat} {f : Nat → Int32} {j : Int32} (hi : i < 70) (hc : cellOf cA ad M i = .inl (cA 1, len, .inl f)) (hin : vp_in j len) (h : decode cc pc = .ok (.iaload, 1)) (hn : pc + 1 = n) (kk : PW cA ad D own ws cc nL ret d n lv (.int (f j.toNatClampNeg) :: st) M Q) : PW cA ad D own ws cc nL ret d pc lv (.int j :: .ref (ad i) :: st) M Q := by
  intro p l e s m args below meth c H locs ls E hW hS hl
  subst hn
  exact va_iald E.1 E.2.1 E.2.2.2.2.2.2.2.1.1 hW i 1 ((wld_get cA ad M hi).trans (by rw [hc])) rfl hin h (kk p l e s m args below meth c H locs ls E hW hS hl)
theorem r_cald {j : Int32} (hin : vp_in j 60) (h : decode cc pc = .ok (.caload, 1)) (hn : pc + 1 = n) (kk : PW cA ad D own ws cc nL ret d n lv (.int (M.1 7 j.toNatClampNeg) :: st) M Q) : PW cA ad D own ws cc nL ret d pc lv (.int j :: .ref (ad 2) :: st) M Q := by
  intro p l e s m args below meth c H locs ls E hW hS hl
  subst hn
  exact va_cald E.1 E.2.1 E.2.2.2.2.2.2.2.1.1 hW 2 0 (wld_get cA ad M (by decide)) rfl hin h (kk p l e s m args below meth c H locs ls E hW hS hl)
theorem r_alen {i len : Nat} {x : ((Nat → Int32) ⊕ (Nat → Int64) ⊕ (Nat → UInt32) ⊕ (Nat → UInt64) ⊕ (Nat → Option Nat))} {t : Nat} {ty : FieldType} {v : Int32} (hi : i < 70) (hc : cellOf cA ad M i = .inl (cA t, len, x)) (ht : (TYS cA)[t]? = some (cA t, ty)) (hv : Int32.ofNat len = v) (h : decode cc pc = .ok (.arraylength, 1)) (hn : pc + 1 = n) (kk : PW cA ad D own ws cc nL ret d n lv (.int v :: st) M Q) : PW cA ad D own ws cc nL ret d pc lv (.ref (ad i) :: st) M Q := by
  intro p l e s m args below meth c H locs ls E hW hS hl
  subst hn
  exact va_alen E.1 E.2.1 E.2.2.2.2.2.2.2.1.1 hW i t ((wld_get cA ad M hi).trans (by rw [hc])) ht hv h (kk p l e s m args below meth c H locs ls E hW hS hl)
theorem r_aald {i len t : Nat} {C : String} {f : Nat → Option Nat} {j : Int32} {a : Nat} (hi : i < 70) (hc : cellOf cA ad M i = .inl (cA t, len, .inr (.inr (.inr (.inr f))))) (ht : (TYS cA)[t]? = some (cA t, .object C)) (hin : vp_in j len) (hf : f j.toNatClampNeg = some a) (h : decode cc pc = .ok (.aaload, 1)) (hn : pc + 1 = n) (kk : PW cA ad D own ws cc nL ret d n lv (.ref a :: st) M Q) : PW cA ad D own ws cc nL ret d pc lv (.int j :: .ref (ad i) :: st) M Q := by
  intro p l e s m args below meth c H locs ls E hW hS hl
  subst hn
  refine va_aldq E.1 E.2.1 E.2.2.2.2.2.2.2.1.1 hW i t ((wld_get cA ad M hi).trans (by rw [hc])) ht hin h ?_
  rw [hf]
  exact kk p l e s m args below meth c H locs ls E hW hS hl
theorem r_iast {i len p' : Nat} {f : Nat → Int32} {j x : Int32} (hi : i < 70) (hc : cellOf cA ad M i = .inl (cA 1, len, .inl f)) (hin : vp_in j len) (hM : cellOf cA ad (mput M p' j.toNatClampNeg x) i = .inl (cA 1, len, .inl (upd f j.toNatClampNeg x))) (hp : p' < 15) (ho : ownI p' j.toNatClampNeg = i) (h : decode cc pc = .ok (.iastore, 1)) (hn : pc + 1 = n) (kk : PW cA ad D own ws cc nL ret d n lv st (mput M p' j.toNatClampNeg x) Q) : PW cA ad D own ws cc nL ret d pc lv (.int x :: .int j :: .ref (ad i) :: st) M Q := by
  intro p l e s m args below meth c H locs ls E hW hS hl
  subst hn
  refine va_iast E.1 E.2.1 E.2.2.2.2.2.2.2.1.1 hW (wld_D E.2.2.2.2.2.2.2.2 M) hS i 1 ((wld_get cA ad M hi).trans (by rw [hc])) rfl hin h (fun H1 locs1 hP1 hD1 hS1 => ?_)
  rw [wld_set hi hM (fun j2 h1 h2 => cell_other cA ad M hp h1 (by rw [ho]; exact h2))] at hP1
  exact kk p l e s m args below meth c H1 locs1 ls E hP1 hS1 hl
theorem r_cast {j x : Int32} (hin : vp_in j 60) (h : decode cc pc = .ok (.castore, 1)) (hn : pc + 1 = n) (kk : PW cA ad D own ws cc nL ret d n lv st (mput M 7 j.toNatClampNeg (vp_nar .char x)) Q) : PW cA ad D own ws cc nL ret d pc lv (.int x :: .int j :: .ref (ad 2) :: st) M Q := by
  intro p l e s m args below meth c H locs ls E hW hS hl
  subst hn
  refine va_cast E.1 E.2.1 E.2.2.2.2.2.2.2.1.1 hW (wld_D E.2.2.2.2.2.2.2.2 M) hS 2 0 (wld_get cA ad M (by decide)) rfl hin h (fun H1 locs1 hP1 hD1 hS1 => ?_)
  have hw := wld_set (cA := cA) (ad := ad) (M := M) (M' := mput M 7 j.toNatClampNeg (vp_nar .char x)) (i := 2) (e := .inl (cA 0, 60, .inl (upd (M.1 7) j.toNatClampNeg (vp_nar .char x)))) (by decide) (by simp [cellOf, mput_eq]) (fun j2 h1 h2 => cell_other cA ad M (by decide) h1 (by simp [ownI]; exact h2))
  rw [hw] at hP1
  exact kk p l e s m args below meth c H1 locs1 ls E hP1 hS1 hl
/-- behind a call -/
theorem call_k {p : Program} {l : Launch} {e : Env} {R : Room} {s : State} {m : MethodId} {args : Array Value} {below : List Frame} {meth : Method} {c : Code} {H : Heap} {locs : List Loc} {Z : State → Prop} {ls : Array Slot} {st0 : List Value} {a : Array Value} {Q' : QT}
    (hr : va_Run p l e R s m args below meth c H locs 0 0 0 0 (F0 m pc ls st0) rest (QQ cA ad D Q' a) (AA ad)) (hS : va_S (AA ad) s.heap H locs)
    (kk : ∀ (r : Option Value) (M' : Mem) (H1 : Heap) (locs1 : List Loc), Q' r M' → WOK cA ad D M' H1 → va_S (AA ad) s.heap H1 locs1 → W p l e R s m args below meth c H1 locs1 0 0 Z (F0 m (pc + 3) ls (r.toList ++ rest))) : W p l e R s m args below meth c H locs 0 0 Z (F0 m pc ls st0) := by
  intro T hT X
  obtain ⟨v, st₀, t, T', L, h0, X', hL, e1, e2, ⟨⟨r, M', hv, hq, hw⟩, hz, hk⟩, st⟩ := hr T hT X
  cases hv
  rw [h0] at hz hk
  obtain ⟨t2, a1, b1⟩ := kk v M' T'.heap (locs ++ L) hq (by rw [e1]; exact hw)
    ⟨Nat.le_trans hS.1 (by rw [e1]; exact hz), fun q h1 h2 => by rw [e1, hk q (Nat.lt_of_lt_of_le h1 hS.1) h2]; exact hS.2.1 q h1 h2, fun q hq => by
      rcases List.mem_append.mp hq with h | h
      · exact hS.2.2 q h
      · exact hL q h⟩ T' rfl X'
  exact ⟨t2, st t2 a1, b1⟩
theorem NST.moved {u U : State} (h : u.vm = U.vm) (hz : NST u) : NST U := ⟨va_Nw.same rfl h hz.1, va_Nw.same rfl h hz.2.1, va_Nw.same rfl h hz.2.2.1, va_Nw.same rfl h hz.2.2.2.1, va_Nw.same rfl h hz.2.2.2.2⟩
theorem NST.warm {s U : State} (hW : s.WarmedH U.vm) (hz : NST s) : NST U := ⟨va_Nw.warmM hW hz.1, va_Nw.warmM hW hz.2.1, va_Nw.warmM hW hz.2.2.1, va_Nw.warmM hW hz.2.2.2.1, va_Nw.warmM hW hz.2.2.2.2⟩
theorem pc_blind (cA : Nat → ClassId) (ad : Nat → Nat) (D : va_G) (av : List Value) (M : Mem) : FrameBlind (va_Pc av (fun U => WOK cA ad D M U.heap ∧ EOK cA D U)) :=
  fun a U g mk h => ⟨h.1, h.2.1, va_K.moved (u := U) (U := U.calling g mk a) (Vm.Alike.refl U.vm) h.2.2.1, NST.moved (u := U) (U := U.calling g mk a) rfl h.2.2.2⟩
theorem pc_ok {cA : Nat → ClassId} {ad : Nat → Nat} {D : va_G} {av : List Value} {M : Mem} {s U : State} {H : Heap} (hE : EOK cA D s) (hW : WOK cA ad D M H) (hU : U.heap = H) (hw : s.WarmedH U.vm) : va_Pc av (fun U => WOK cA ad D M U.heap ∧ EOK cA D U) av.toArray U :=
  ⟨rfl, by rw [hU]; exact hW, va_K.moved hw.alike hE.1, NST.warm hw hE.2⟩
/-- a call of an instance method -/
theorem r_callV {index i np d' ci N maxL : Nat} {y : MethodName} {ws' wst : List Cond} {bytes : ByteArray} {rty : Option FieldType} {C : String} {T : u_T} {fs : List Value} {As : List Value} {Q' : QT}
    (hM : PM cA ad D y ws' d' (.ref (ad i) :: As) M Q') (hg : GoodIn ws (wsV own index C y ws')) (hw : ws' = Cond.code y bytes maxL rty :: wst) (hd : y.cls = C ∧ y.cls ≠ "java/lang/invoke/MethodHandle" ∧ y.cls ≠ "java/lang/invoke/VarHandle" ∧ (parseMethodDescriptor y.desc).map (fun d => d.parameters.length) = some np) (hnp : As.length = np) (hdep : d' + 1 ≤ d) (hmax : maxL ≤ 13)
    (hi : i < 70) (hc : cellOf cA ad M i = .inr (ci, fs)) (hcl : vwCl[ci]? = some (C, T, N)) (h : decode cc pc = .ok (.invokevirtual index, 3)) (hn : pc + 3 = n) (hst : st = As.reverse ++ .ref (ad i) :: rest) (hcat : (rest.map fun v => v.category).sum ≤ 8)
    (kk : ∀ r M', Q' r M' → PW cA ad D own ws cc nL ret d n lv (r.toList ++ rest) M' Q) : PW cA ad D own ws cc nL ret d pc lv st M Q := by
  intro p l e s m args below meth c H locs ls E hW hS hl
  subst hn
  have hE := E
  obtain ⟨hx, hb, hml, hown, hts, hr, hlocks, hek, hI⟩ := E
  refine call_k (va_runV (As := As) (rest := rest) ⟨hx, hb, hml, hown, hts⟩ (hM hI l) (cwV np hts hg hw rfl rfl hd ⟨hdep, by show _ ≤ 32 * d; show 8 + (maxL + 11) + 32 * d' ≤ 32 * d; omega⟩) ⟨pc_blind cA ad D _ M, va_recv hek.1 hW hcl ((wld_get cA ad M hi).trans (by rw [hc])), fun U hU hw => pc_ok hek hW hU hw⟩ rfl hnp hl.1 hst (lv_room hcat) h ⟨Nat.zero_le _, Nat.zero_le _⟩) hS (fun r M' H1 locs1 hq hW1 hS1 => ?_)
  exact kk r M' hq p l e s m args below meth c H1 locs1 ls hE hW1 hS1 hl
theorem r_callS {index np d' maxL : Nat} {y : MethodName} {ws' wst : List Cond} {bytes : ByteArray} {rty : Option FieldType} {As : List Value} {Q' : QT}
    (hM : PM cA ad D y ws' d' As M Q') (hg : GoodIn ws (va_wsS own index y ws')) (hw : ws' = Cond.code y bytes maxL rty :: wst) (hd : y.cls ≠ "java/lang/invoke/MethodHandle" ∧ y.cls ≠ "java/lang/invoke/VarHandle" ∧ (parseMethodDescriptor y.desc).map (fun d => d.parameters.length) = some np) (hnp : As.length = np) (hdep : d' + 1 ≤ d) (hmax : maxL ≤ 13)
    (h : decode cc pc = .ok (.invokestatic index, 3)) (hn : pc + 3 = n) (hst : st = As.reverse ++ rest) (hcat : (rest.map fun v => v.category).sum ≤ 8)
    (kk : ∀ r M', Q' r M' → PW cA ad D own ws cc nL ret d n lv (r.toList ++ rest) M' Q) : PW cA ad D own ws cc nL ret d pc lv st M Q := by
  intro p l e s m args below meth c H locs ls E hW hS hl
  subst hn
  have hE := E
  obtain ⟨hx, hb, hml, hown, hts, hr, hlocks, hek, hI⟩ := E
  refine call_k (va_runS (As := As) (rest := rest) ⟨hx, hb, hml, hown, hts⟩ (hM hI l) (va_cwS np hts hg hw rfl rfl hd ⟨hdep, by show 8 + (maxL + 11) + 32 * d' ≤ 32 * d; omega⟩) ⟨pc_blind cA ad D _ M, fun U hU hw => pc_ok hek hW hU hw⟩ rfl hnp hl.1 hst (lv_room hcat) h ⟨Nat.zero_le _, Nat.zero_le _⟩) hS (fun r M' H1 locs1 hq hW1 hS1 => ?_)
  exact kk r M' hq p l e s m args below meth c H1 locs1 ls hE hW1 hS1 hl
theorem r_callSN {index np d' maxL : Nat} {y : MethodName} {ws' wst : List Cond} {bytes : ByteArray} {rty : Option FieldType} {As : List Value} {Q' : QT} {host : String}
    (hM : PM cA ad D y ws' d' As M Q') (hg : GoodIn ws ws') (hw : ws' = Cond.code y bytes maxL rty :: wst) (hnn : ∀ U, NST U → va_Nw (.methodLinkNest own index y host) U) (h1 : Cond.initialized y.cls ∈ ws) (h2 : Cond.static y ∈ ws) (hd : y.cls ≠ "java/lang/invoke/MethodHandle" ∧ y.cls ≠ "java/lang/invoke/VarHandle" ∧ (parseMethodDescriptor y.desc).map (fun d => d.parameters.length) = some np) (hnp : As.length = np) (hdep : d' + 1 ≤ d) (hmax : maxL ≤ 13)
    (h : decode cc pc = .ok (.invokestatic index, 3)) (hn : pc + 3 = n) (hst : st = As.reverse ++ rest) (hcat : (rest.map fun v => v.category).sum ≤ 8)
    (kk : ∀ r M', Q' r M' → PW cA ad D own ws cc nL ret d n lv (r.toList ++ rest) M' Q) : PW cA ad D own ws cc nL ret d pc lv st M Q := by
  intro p l e s m args below meth c H locs ls E hW hS hl
  subst hn
  have hE := E
  obtain ⟨hx, hb, hml, hown, hts, hr, hlocks, hek, hI⟩ := E
  refine call_k (va_runSN (As := As) (rest := rest) ⟨hx, hb, hml, hown, hts⟩ (hM hI l) ⟨va_cnB np hts hg hw rfl rfl (hnn s hek.2) (hts _ h1) hd ⟨hdep, by show 8 + (maxL + 11) + 32 * d' ≤ 32 * d; omega⟩, hts _ h2, trivial⟩ ⟨pc_blind cA ad D _ M, fun U hU hw => pc_ok hek hW hU hw⟩ rfl hnp hl.1 hst (lv_room hcat) h ⟨Nat.zero_le _, Nat.zero_le _⟩) hS (fun r M' H1 locs1 hq hW1 hS1 => ?_)
  exact kk r M' hq p l e s m args below meth c H1 locs1 ls hE hW1 hS1 hl
theorem pw_drop {lv' : List (Option Value)} {i : Nat} (hl' : lv' = lv.set i none) (kk : PW cA ad D own ws cc nL ret d pc lv' st M Q) : PW cA ad D own ws cc nL ret d pc lv st M Q := by
  intro p l e s m args below meth c H locs ls E hW hS hl
  refine kk p l e s m args below meth c H locs ls E hW hS ⟨hl.1, hl.2.1, ?_⟩
  rintro ⟨j, w⟩ hm
  obtain ⟨k, h1, h2⟩ := (prs_mem _ 0 j w).mp hm
  have hk : j = k := by omega
  subst hk
  refine prs_get hl ?_
  rw [hl'] at h2
  by_cases hj : j = i
  · subst hj
    by_cases hlt : j < lv.length
    · rw [List.getElem?_set_self hlt] at h2
      cases h2
    · rw [List.getElem?_eq_none (by simpa using hlt)] at h2
      cases h2
  · rw [List.getElem?_set_ne (fun q => hj q.symm)] at h2
    exact h2
theorem pw_cut {P : Prop} (h : P) (k : P → PW cA ad D own ws cc nL ret d pc lv st M Q) : PW cA ad D own ws cc nL ret d pc lv st M Q := k h
theorem pw_post {Q' : QT} (h : PW cA ad D own ws cc nL ret d pc lv st M Q') (hq : ∀ r M', Q' r M' → Q r M') : PW cA ad D own ws cc nL ret d pc lv st M Q := by
  intro p l e s m args below meth c H locs ls E hW hS hl T hT X
  obtain ⟨t, a, o, b1, b2, ⟨⟨r, M', h1, h2, h3⟩, h4⟩, b4⟩ := h p l e s m args below meth c H locs ls E hW hS hl T hT X
  exact ⟨t, a, o, b1, b2, ⟨⟨r, M', h1, hq _ _ h2, h3⟩, h4⟩, b4⟩
end ROWS
end
section
/-! ===== fields and rows, by their names ===== -/
section FIELDS
variable {cA : Nat → ClassId} {ad : Nat → Nat} {D : va_G} {own : String} {ws : List Cond} {cc : ByteArray} {nL : Nat} {ret : Option FieldType} {d pc n : Nat} {lv : List (Option Value)} {st rest : List Value} {M : Mem} {Q : QT}
theorem cell_st (cA : Nat → ClassId) (ad : Nat → Nat) (M : Mem) {p : Nat} (hp : p < 6) : cellOf cA ad M (10 + 10 * p) = .inr (2, [.ref (ad (10 + 10 * p + 1)), .int (M.1 p 0), .int (M.1 p 10), .int (M.1 p 11), .int (M.1 p 12), .int (M.1 p 13), .int (M.1 p 1), .int (M.1 p 2), .int (M.1 p 3), .int (M.1 p 4), .int (M.1 p 5), .int (M.1 p 6), .int (M.1 p 7), .int (M.1 p 8), .int (M.1 p 9)]) := by
  unfold cellOf
  have e : (10 + 10 * p - 10) / 10 = p := by omega
  have e2 : (10 + 10 * p - 10) % 10 = 0 := by omega
  rw [if_neg (by omega), if_neg (by omega), if_neg (by omega), if_neg (by omega), if_neg (by omega), if_neg (by omega), if_neg (by omega), if_neg (by omega), if_neg (by omega), if_neg (by omega), if_pos e2, e]
theorem cell_row (cA : Nat → ClassId) (ad : Nat → Nat) (M : Mem) {p : Nat} (hp : p < 6) : cellOf cA ad M (10 + 10 * p + 1) = .inl (cA 2, 8, .inr (.inr (.inr (.inr (fun j => some (ad (12 + 10 * p + j))))))) := by
  unfold cellOf
  have e2 : (10 + 10 * p + 1 - 10) % 10 = 1 := by omega
  have e3 : ∀ j, 10 + 10 * p + 1 + 1 + j = 12 + 10 * p + j := fun j => by omega
  rw [if_neg (by omega), if_neg (by omega), if_neg (by omega), if_neg (by omega), if_neg (by omega), if_neg (by omega), if_neg (by omega), if_neg (by omega), if_neg (by omega), if_neg (by omega), if_neg (by omega), if_pos e2]
  simp only [e3]
theorem cell_sm (cA : Nat → ClassId) (ad : Nat → Nat) (M : Mem) {p k : Nat} (hp : p < 6) (hk : k < 8) : cellOf cA ad M (12 + 10 * p + k) = .inr (1, [.int (M.1 p (14 + 8 * k)), .int (M.1 p (14 + 8 * k + 1)), .int (M.1 p (14 + 8 * k + 2)), .int (M.1 p (14 + 8 * k + 3)), .int (M.1 p (14 + 8 * k + 4)), .int (M.1 p (14 + 8 * k + 5)), .int (M.1 p (14 + 8 * k + 6)), .int (M.1 p (14 + 8 * k + 7))]) := by
  unfold cellOf
  have e : (12 + 10 * p + k - 10) / 10 = p := by omega
  have e2 : (12 + 10 * p + k - 10) % 10 - 2 = k := by omega
  rw [if_neg (by omega), if_neg (by omega), if_neg (by omega), if_neg (by omega), if_neg (by omega), if_neg (by omega), if_neg (by omega), if_neg (by omega), if_neg (by omega), if_neg (by omega), if_neg (by omega), if_neg (by omega), e, e2]
theorem g_ot_characters {index : Nat} (hin : ∀ w ∈ u_ws RX0 TX0 6, w ∈ ws) (hlink : Cond.fieldLink own index "BellowsRound$OrderText" "characters" "[C" ∈ ws) (h : decode cc pc = .ok (.getfield index, 3)) (hn : pc + 3 = n) (kk : PW cA ad D own ws cc nL ret d n lv (.ref (ad 2) :: st) M Q) : PW cA ad D own ws cc nL ret d pc lv (.ref (ad (1)) :: st) M Q :=
  r_get (ci := 0) (k := 0) (T := TX0) (by decide) (rfl) rfl hin (by decide) hlink rfl h hn kk
theorem g_ot_length {index : Nat} (hin : ∀ w ∈ u_ws RX0 TX0 6, w ∈ ws) (hlink : Cond.fieldLink own index "BellowsRound$OrderText" "length" "I" ∈ ws) (h : decode cc pc = .ok (.getfield index, 3)) (hn : pc + 3 = n) (kk : PW cA ad D own ws cc nL ret d n lv (.int (M.1 6 0) :: st) M Q) : PW cA ad D own ws cc nL ret d pc lv (.ref (ad (1)) :: st) M Q :=
  r_get (ci := 0) (k := 1) (T := TX0) (by decide) (rfl) rfl hin (by decide) hlink rfl h hn kk
theorem p_ot_length {index : Nat} {x : Int32} (hin : ∀ w ∈ u_ws RX0 TX0 6, w ∈ ws) (hlink : Cond.fieldLink own index "BellowsRound$OrderText" "length" "I" ∈ ws) (h : decode cc pc = .ok (.putfield index, 3)) (hn : pc + 3 = n) (kk : PW cA ad D own ws cc nL ret d n lv st (mput M 6 0 x) Q) : PW cA ad D own ws cc nL ret d pc lv (.int x :: .ref (ad (1)) :: st) M Q :=
  r_put (ci := 0) (k := 1) (T := TX0) (ty := .int) (by decide) (rfl) rfl tyX0 tyX0_ok nmX0 hin (by decide) hlink rfl (by decide +kernel) rfl rfl (Nat.le_of_ble_eq_true rfl) (by simp [cellOf, mput, va_up, upd])
    (fun j2 h1 h2 => cell_other cA ad M (by decide) h1 (by rw [show ownI 6 0 = 1 from by decide]; exact h2)) h hn kk
theorem g_ot_letter {index : Nat} (hin : ∀ w ∈ u_ws RX0 TX0 6, w ∈ ws) (hlink : Cond.fieldLink own index "BellowsRound$OrderText" "letter" "I" ∈ ws) (h : decode cc pc = .ok (.getfield index, 3)) (hn : pc + 3 = n) (kk : PW cA ad D own ws cc nL ret d n lv (.int (M.1 6 1) :: st) M Q) : PW cA ad D own ws cc nL ret d pc lv (.ref (ad (1)) :: st) M Q :=
  r_get (ci := 0) (k := 2) (T := TX0) (by decide) (rfl) rfl hin (by decide) hlink rfl h hn kk
theorem p_ot_letter {index : Nat} {x : Int32} (hin : ∀ w ∈ u_ws RX0 TX0 6, w ∈ ws) (hlink : Cond.fieldLink own index "BellowsRound$OrderText" "letter" "I" ∈ ws) (h : decode cc pc = .ok (.putfield index, 3)) (hn : pc + 3 = n) (kk : PW cA ad D own ws cc nL ret d n lv st (mput M 6 1 x) Q) : PW cA ad D own ws cc nL ret d pc lv (.int x :: .ref (ad (1)) :: st) M Q :=
  r_put (ci := 0) (k := 2) (T := TX0) (ty := .int) (by decide) (rfl) rfl tyX0 tyX0_ok nmX0 hin (by decide) hlink rfl (by decide +kernel) rfl rfl (Nat.le_of_ble_eq_true rfl) (by simp [cellOf, mput, va_up, upd])
    (fun j2 h1 h2 => cell_other cA ad M (by decide) h1 (by rw [show ownI 6 1 = 1 from by decide]; exact h2)) h hn kk
theorem g_ot_number {index : Nat} (hin : ∀ w ∈ u_ws RX0 TX0 6, w ∈ ws) (hlink : Cond.fieldLink own index "BellowsRound$OrderText" "number" "I" ∈ ws) (h : decode cc pc = .ok (.getfield index, 3)) (hn : pc + 3 = n) (kk : PW cA ad D own ws cc nL ret d n lv (.int (M.1 6 2) :: st) M Q) : PW cA ad D own ws cc nL ret d pc lv (.ref (ad (1)) :: st) M Q :=
  r_get (ci := 0) (k := 3) (T := TX0) (by decide) (rfl) rfl hin (by decide) hlink rfl h hn kk
theorem p_ot_number {index : Nat} {x : Int32} (hin : ∀ w ∈ u_ws RX0 TX0 6, w ∈ ws) (hlink : Cond.fieldLink own index "BellowsRound$OrderText" "number" "I" ∈ ws) (h : decode cc pc = .ok (.putfield index, 3)) (hn : pc + 3 = n) (kk : PW cA ad D own ws cc nL ret d n lv st (mput M 6 2 x) Q) : PW cA ad D own ws cc nL ret d pc lv (.int x :: .ref (ad (1)) :: st) M Q :=
  r_put (ci := 0) (k := 3) (T := TX0) (ty := .int) (by decide) (rfl) rfl tyX0 tyX0_ok nmX0 hin (by decide) hlink rfl (by decide +kernel) rfl rfl (Nat.le_of_ble_eq_true rfl) (by simp [cellOf, mput, va_up, upd])
    (fun j2 h1 h2 => cell_other cA ad M (by decide) h1 (by rw [show ownI 6 2 = 1 from by decide]; exact h2)) h hn kk
theorem g_ot_behind {index : Nat} (hin : ∀ w ∈ u_ws RX0 TX0 6, w ∈ ws) (hlink : Cond.fieldLink own index "BellowsRound$OrderText" "behind" "I" ∈ ws) (h : decode cc pc = .ok (.getfield index, 3)) (hn : pc + 3 = n) (kk : PW cA ad D own ws cc nL ret d n lv (.int (M.1 6 3) :: st) M Q) : PW cA ad D own ws cc nL ret d pc lv (.ref (ad (1)) :: st) M Q :=
  r_get (ci := 0) (k := 4) (T := TX0) (by decide) (rfl) rfl hin (by decide) hlink rfl h hn kk
theorem p_ot_behind {index : Nat} {x : Int32} (hin : ∀ w ∈ u_ws RX0 TX0 6, w ∈ ws) (hlink : Cond.fieldLink own index "BellowsRound$OrderText" "behind" "I" ∈ ws) (h : decode cc pc = .ok (.putfield index, 3)) (hn : pc + 3 = n) (kk : PW cA ad D own ws cc nL ret d n lv st (mput M 6 3 x) Q) : PW cA ad D own ws cc nL ret d pc lv (.int x :: .ref (ad (1)) :: st) M Q :=
  r_put (ci := 0) (k := 4) (T := TX0) (ty := .int) (by decide) (rfl) rfl tyX0 tyX0_ok nmX0 hin (by decide) hlink rfl (by decide +kernel) rfl rfl (Nat.le_of_ble_eq_true rfl) (by simp [cellOf, mput, va_up, upd])
    (fun j2 h1 h2 => cell_other cA ad M (by decide) h1 (by rw [show ownI 6 3 = 1 from by decide]; exact h2)) h hn kk
theorem g_ot_brokenAt {index : Nat} (hin : ∀ w ∈ u_ws RX0 TX0 6, w ∈ ws) (hlink : Cond.fieldLink own index "BellowsRound$OrderText" "brokenAt" "I" ∈ ws) (h : decode cc pc = .ok (.getfield index, 3)) (hn : pc + 3 = n) (kk : PW cA ad D own ws cc nL ret d n lv (.int (M.1 6 4) :: st) M Q) : PW cA ad D own ws cc nL ret d pc lv (.ref (ad (1)) :: st) M Q :=
  r_get (ci := 0) (k := 5) (T := TX0) (by decide) (rfl) rfl hin (by decide) hlink rfl h hn kk
theorem p_ot_brokenAt {index : Nat} {x : Int32} (hin : ∀ w ∈ u_ws RX0 TX0 6, w ∈ ws) (hlink : Cond.fieldLink own index "BellowsRound$OrderText" "brokenAt" "I" ∈ ws) (h : decode cc pc = .ok (.putfield index, 3)) (hn : pc + 3 = n) (kk : PW cA ad D own ws cc nL ret d n lv st (mput M 6 4 x) Q) : PW cA ad D own ws cc nL ret d pc lv (.int x :: .ref (ad (1)) :: st) M Q :=
  r_put (ci := 0) (k := 5) (T := TX0) (ty := .int) (by decide) (rfl) rfl tyX0 tyX0_ok nmX0 hin (by decide) hlink rfl (by decide +kernel) rfl rfl (Nat.le_of_ble_eq_true rfl) (by simp [cellOf, mput, va_up, upd])
    (fun j2 h1 h2 => cell_other cA ad M (by decide) h1 (by rw [show ownI 6 4 = 1 from by decide]; exact h2)) h hn kk
theorem g_sm_mile {index : Nat} {q k : Nat} (hp : q < 6) (hk : k < 8) (hin : ∀ w ∈ u_ws RX1 TX1 8, w ∈ ws) (hlink : Cond.fieldLink own index "BellowsRound$Smithy" "mile" "I" ∈ ws) (h : decode cc pc = .ok (.getfield index, 3)) (hn : pc + 3 = n) (kk : PW cA ad D own ws cc nL ret d n lv (.int (M.1 q (14 + 8 * k)) :: st) M Q) : PW cA ad D own ws cc nL ret d pc lv (.ref (ad (12 + 10 * q + k)) :: st) M Q :=
  r_get (ci := 1) (k := 0) (T := TX1) (by omega) (cell_sm cA ad M hp hk) rfl hin (by decide) hlink rfl h hn kk
theorem p_sm_mile {index : Nat} {x : Int32} {q k : Nat} (hp : q < 6) (hk : k < 8) (hin : ∀ w ∈ u_ws RX1 TX1 8, w ∈ ws) (hlink : Cond.fieldLink own index "BellowsRound$Smithy" "mile" "I" ∈ ws) (h : decode cc pc = .ok (.putfield index, 3)) (hn : pc + 3 = n) (kk : PW cA ad D own ws cc nL ret d n lv st (mput M q (14 + 8 * k) x) Q) : PW cA ad D own ws cc nL ret d pc lv (.int x :: .ref (ad (12 + 10 * q + k)) :: st) M Q :=
  r_put (ci := 1) (k := 0) (T := TX1) (ty := .int) (by omega) (cell_sm cA ad M hp hk) rfl tyX1 tyX1_ok nmX1 hin (by decide) hlink rfl (by decide +kernel) rfl rfl (Nat.le_of_ble_eq_true rfl) (by
    rw [cell_sm cA ad _ hp hk, mput_eq]
    simp [upd, Nat.add_assoc])
    (fun j2 h1 h2 => cell_other cA ad M (by omega) h1 (by rw [show ownI q (14 + 8 * k) = 12 + 10 * q + k from by unfold ownI; rw [if_pos hp, if_neg (by omega)]; omega]; exact h2)) h hn kk
theorem g_sm_size {index : Nat} {q k : Nat} (hp : q < 6) (hk : k < 8) (hin : ∀ w ∈ u_ws RX1 TX1 8, w ∈ ws) (hlink : Cond.fieldLink own index "BellowsRound$Smithy" "size" "I" ∈ ws) (h : decode cc pc = .ok (.getfield index, 3)) (hn : pc + 3 = n) (kk : PW cA ad D own ws cc nL ret d n lv (.int (M.1 q (14 + 8 * k + 1)) :: st) M Q) : PW cA ad D own ws cc nL ret d pc lv (.ref (ad (12 + 10 * q + k)) :: st) M Q :=
  r_get (ci := 1) (k := 1) (T := TX1) (by omega) (cell_sm cA ad M hp hk) rfl hin (by decide) hlink rfl h hn kk
theorem p_sm_size {index : Nat} {x : Int32} {q k : Nat} (hp : q < 6) (hk : k < 8) (hin : ∀ w ∈ u_ws RX1 TX1 8, w ∈ ws) (hlink : Cond.fieldLink own index "BellowsRound$Smithy" "size" "I" ∈ ws) (h : decode cc pc = .ok (.putfield index, 3)) (hn : pc + 3 = n) (kk : PW cA ad D own ws cc nL ret d n lv st (mput M q (14 + 8 * k + 1) x) Q) : PW cA ad D own ws cc nL ret d pc lv (.int x :: .ref (ad (12 + 10 * q + k)) :: st) M Q :=
  r_put (ci := 1) (k := 1) (T := TX1) (ty := .int) (by omega) (cell_sm cA ad M hp hk) rfl tyX1 tyX1_ok nmX1 hin (by decide) hlink rfl (by decide +kernel) rfl rfl (Nat.le_of_ble_eq_true rfl) (by
    rw [cell_sm cA ad _ hp hk, mput_eq]
    simp [upd, Nat.add_assoc])
    (fun j2 h1 h2 => cell_other cA ad M (by omega) h1 (by rw [show ownI q (14 + 8 * k + 1) = 12 + 10 * q + k from by unfold ownI; rw [if_pos hp, if_neg (by omega)]; omega]; exact h2)) h hn kk
theorem g_sm_wear {index : Nat} {q k : Nat} (hp : q < 6) (hk : k < 8) (hin : ∀ w ∈ u_ws RX1 TX1 8, w ∈ ws) (hlink : Cond.fieldLink own index "BellowsRound$Smithy" "wear" "I" ∈ ws) (h : decode cc pc = .ok (.getfield index, 3)) (hn : pc + 3 = n) (kk : PW cA ad D own ws cc nL ret d n lv (.int (M.1 q (14 + 8 * k + 2)) :: st) M Q) : PW cA ad D own ws cc nL ret d pc lv (.ref (ad (12 + 10 * q + k)) :: st) M Q :=
  r_get (ci := 1) (k := 2) (T := TX1) (by omega) (cell_sm cA ad M hp hk) rfl hin (by decide) hlink rfl h hn kk
theorem p_sm_wear {index : Nat} {x : Int32} {q k : Nat} (hp : q < 6) (hk : k < 8) (hin : ∀ w ∈ u_ws RX1 TX1 8, w ∈ ws) (hlink : Cond.fieldLink own index "BellowsRound$Smithy" "wear" "I" ∈ ws) (h : decode cc pc = .ok (.putfield index, 3)) (hn : pc + 3 = n) (kk : PW cA ad D own ws cc nL ret d n lv st (mput M q (14 + 8 * k + 2) x) Q) : PW cA ad D own ws cc nL ret d pc lv (.int x :: .ref (ad (12 + 10 * q + k)) :: st) M Q :=
  r_put (ci := 1) (k := 2) (T := TX1) (ty := .int) (by omega) (cell_sm cA ad M hp hk) rfl tyX1 tyX1_ok nmX1 hin (by decide) hlink rfl (by decide +kernel) rfl rfl (Nat.le_of_ble_eq_true rfl) (by
    rw [cell_sm cA ad _ hp hk, mput_eq]
    simp [upd, Nat.add_assoc])
    (fun j2 h1 h2 => cell_other cA ad M (by omega) h1 (by rw [show ownI q (14 + 8 * k + 2) = 12 + 10 * q + k from by unfold ownI; rw [if_pos hp, if_neg (by omega)]; omega]; exact h2)) h hn kk
theorem g_sm_heat {index : Nat} {q k : Nat} (hp : q < 6) (hk : k < 8) (hin : ∀ w ∈ u_ws RX1 TX1 8, w ∈ ws) (hlink : Cond.fieldLink own index "BellowsRound$Smithy" "heat" "I" ∈ ws) (h : decode cc pc = .ok (.getfield index, 3)) (hn : pc + 3 = n) (kk : PW cA ad D own ws cc nL ret d n lv (.int (M.1 q (14 + 8 * k + 3)) :: st) M Q) : PW cA ad D own ws cc nL ret d pc lv (.ref (ad (12 + 10 * q + k)) :: st) M Q :=
  r_get (ci := 1) (k := 3) (T := TX1) (by omega) (cell_sm cA ad M hp hk) rfl hin (by decide) hlink rfl h hn kk
theorem p_sm_heat {index : Nat} {x : Int32} {q k : Nat} (hp : q < 6) (hk : k < 8) (hin : ∀ w ∈ u_ws RX1 TX1 8, w ∈ ws) (hlink : Cond.fieldLink own index "BellowsRound$Smithy" "heat" "I" ∈ ws) (h : decode cc pc = .ok (.putfield index, 3)) (hn : pc + 3 = n) (kk : PW cA ad D own ws cc nL ret d n lv st (mput M q (14 + 8 * k + 3) x) Q) : PW cA ad D own ws cc nL ret d pc lv (.int x :: .ref (ad (12 + 10 * q + k)) :: st) M Q :=
  r_put (ci := 1) (k := 3) (T := TX1) (ty := .int) (by omega) (cell_sm cA ad M hp hk) rfl tyX1 tyX1_ok nmX1 hin (by decide) hlink rfl (by decide +kernel) rfl rfl (Nat.le_of_ble_eq_true rfl) (by
    rw [cell_sm cA ad _ hp hk, mput_eq]
    simp [upd, Nat.add_assoc])
    (fun j2 h1 h2 => cell_other cA ad M (by omega) h1 (by rw [show ownI q (14 + 8 * k + 3) = 12 + 10 * q + k from by unfold ownI; rw [if_pos hp, if_neg (by omega)]; omega]; exact h2)) h hn kk
theorem g_sm_coldDays {index : Nat} {q k : Nat} (hp : q < 6) (hk : k < 8) (hin : ∀ w ∈ u_ws RX1 TX1 8, w ∈ ws) (hlink : Cond.fieldLink own index "BellowsRound$Smithy" "coldDays" "I" ∈ ws) (h : decode cc pc = .ok (.getfield index, 3)) (hn : pc + 3 = n) (kk : PW cA ad D own ws cc nL ret d n lv (.int (M.1 q (14 + 8 * k + 4)) :: st) M Q) : PW cA ad D own ws cc nL ret d pc lv (.ref (ad (12 + 10 * q + k)) :: st) M Q :=
  r_get (ci := 1) (k := 4) (T := TX1) (by omega) (cell_sm cA ad M hp hk) rfl hin (by decide) hlink rfl h hn kk
theorem p_sm_coldDays {index : Nat} {x : Int32} {q k : Nat} (hp : q < 6) (hk : k < 8) (hin : ∀ w ∈ u_ws RX1 TX1 8, w ∈ ws) (hlink : Cond.fieldLink own index "BellowsRound$Smithy" "coldDays" "I" ∈ ws) (h : decode cc pc = .ok (.putfield index, 3)) (hn : pc + 3 = n) (kk : PW cA ad D own ws cc nL ret d n lv st (mput M q (14 + 8 * k + 4) x) Q) : PW cA ad D own ws cc nL ret d pc lv (.int x :: .ref (ad (12 + 10 * q + k)) :: st) M Q :=
  r_put (ci := 1) (k := 4) (T := TX1) (ty := .int) (by omega) (cell_sm cA ad M hp hk) rfl tyX1 tyX1_ok nmX1 hin (by decide) hlink rfl (by decide +kernel) rfl rfl (Nat.le_of_ble_eq_true rfl) (by
    rw [cell_sm cA ad _ hp hk, mput_eq]
    simp [upd, Nat.add_assoc])
    (fun j2 h1 h2 => cell_other cA ad M (by omega) h1 (by rw [show ownI q (14 + 8 * k + 4) = 12 + 10 * q + k from by unfold ownI; rw [if_pos hp, if_neg (by omega)]; omega]; exact h2)) h hn kk
theorem g_sm_debt {index : Nat} {q k : Nat} (hp : q < 6) (hk : k < 8) (hin : ∀ w ∈ u_ws RX1 TX1 8, w ∈ ws) (hlink : Cond.fieldLink own index "BellowsRound$Smithy" "debt" "I" ∈ ws) (h : decode cc pc = .ok (.getfield index, 3)) (hn : pc + 3 = n) (kk : PW cA ad D own ws cc nL ret d n lv (.int (M.1 q (14 + 8 * k + 5)) :: st) M Q) : PW cA ad D own ws cc nL ret d pc lv (.ref (ad (12 + 10 * q + k)) :: st) M Q :=
  r_get (ci := 1) (k := 5) (T := TX1) (by omega) (cell_sm cA ad M hp hk) rfl hin (by decide) hlink rfl h hn kk
theorem p_sm_debt {index : Nat} {x : Int32} {q k : Nat} (hp : q < 6) (hk : k < 8) (hin : ∀ w ∈ u_ws RX1 TX1 8, w ∈ ws) (hlink : Cond.fieldLink own index "BellowsRound$Smithy" "debt" "I" ∈ ws) (h : decode cc pc = .ok (.putfield index, 3)) (hn : pc + 3 = n) (kk : PW cA ad D own ws cc nL ret d n lv st (mput M q (14 + 8 * k + 5) x) Q) : PW cA ad D own ws cc nL ret d pc lv (.int x :: .ref (ad (12 + 10 * q + k)) :: st) M Q :=
  r_put (ci := 1) (k := 5) (T := TX1) (ty := .int) (by omega) (cell_sm cA ad M hp hk) rfl tyX1 tyX1_ok nmX1 hin (by decide) hlink rfl (by decide +kernel) rfl rfl (Nat.le_of_ble_eq_true rfl) (by
    rw [cell_sm cA ad _ hp hk, mput_eq]
    simp [upd, Nat.add_assoc])
    (fun j2 h1 h2 => cell_other cA ad M (by omega) h1 (by rw [show ownI q (14 + 8 * k + 5) = 12 + 10 * q + k from by unfold ownI; rw [if_pos hp, if_neg (by omega)]; omega]; exact h2)) h hn kk
theorem g_sm_paid {index : Nat} {q k : Nat} (hp : q < 6) (hk : k < 8) (hin : ∀ w ∈ u_ws RX1 TX1 8, w ∈ ws) (hlink : Cond.fieldLink own index "BellowsRound$Smithy" "paid" "I" ∈ ws) (h : decode cc pc = .ok (.getfield index, 3)) (hn : pc + 3 = n) (kk : PW cA ad D own ws cc nL ret d n lv (.int (M.1 q (14 + 8 * k + 6)) :: st) M Q) : PW cA ad D own ws cc nL ret d pc lv (.ref (ad (12 + 10 * q + k)) :: st) M Q :=
  r_get (ci := 1) (k := 6) (T := TX1) (by omega) (cell_sm cA ad M hp hk) rfl hin (by decide) hlink rfl h hn kk
theorem p_sm_paid {index : Nat} {x : Int32} {q k : Nat} (hp : q < 6) (hk : k < 8) (hin : ∀ w ∈ u_ws RX1 TX1 8, w ∈ ws) (hlink : Cond.fieldLink own index "BellowsRound$Smithy" "paid" "I" ∈ ws) (h : decode cc pc = .ok (.putfield index, 3)) (hn : pc + 3 = n) (kk : PW cA ad D own ws cc nL ret d n lv st (mput M q (14 + 8 * k + 6) x) Q) : PW cA ad D own ws cc nL ret d pc lv (.int x :: .ref (ad (12 + 10 * q + k)) :: st) M Q :=
  r_put (ci := 1) (k := 6) (T := TX1) (ty := .int) (by omega) (cell_sm cA ad M hp hk) rfl tyX1 tyX1_ok nmX1 hin (by decide) hlink rfl (by decide +kernel) rfl rfl (Nat.le_of_ble_eq_true rfl) (by
    rw [cell_sm cA ad _ hp hk, mput_eq]
    simp [upd, Nat.add_assoc])
    (fun j2 h1 h2 => cell_other cA ad M (by omega) h1 (by rw [show ownI q (14 + 8 * k + 6) = 12 + 10 * q + k from by unfold ownI; rw [if_pos hp, if_neg (by omega)]; omega]; exact h2)) h hn kk
theorem g_sm_mends {index : Nat} {q k : Nat} (hp : q < 6) (hk : k < 8) (hin : ∀ w ∈ u_ws RX1 TX1 8, w ∈ ws) (hlink : Cond.fieldLink own index "BellowsRound$Smithy" "mends" "I" ∈ ws) (h : decode cc pc = .ok (.getfield index, 3)) (hn : pc + 3 = n) (kk : PW cA ad D own ws cc nL ret d n lv (.int (M.1 q (14 + 8 * k + 7)) :: st) M Q) : PW cA ad D own ws cc nL ret d pc lv (.ref (ad (12 + 10 * q + k)) :: st) M Q :=
  r_get (ci := 1) (k := 7) (T := TX1) (by omega) (cell_sm cA ad M hp hk) rfl hin (by decide) hlink rfl h hn kk
theorem p_sm_mends {index : Nat} {x : Int32} {q k : Nat} (hp : q < 6) (hk : k < 8) (hin : ∀ w ∈ u_ws RX1 TX1 8, w ∈ ws) (hlink : Cond.fieldLink own index "BellowsRound$Smithy" "mends" "I" ∈ ws) (h : decode cc pc = .ok (.putfield index, 3)) (hn : pc + 3 = n) (kk : PW cA ad D own ws cc nL ret d n lv st (mput M q (14 + 8 * k + 7) x) Q) : PW cA ad D own ws cc nL ret d pc lv (.int x :: .ref (ad (12 + 10 * q + k)) :: st) M Q :=
  r_put (ci := 1) (k := 7) (T := TX1) (ty := .int) (by omega) (cell_sm cA ad M hp hk) rfl tyX1 tyX1_ok nmX1 hin (by decide) hlink rfl (by decide +kernel) rfl rfl (Nat.le_of_ble_eq_true rfl) (by
    rw [cell_sm cA ad _ hp hk, mput_eq]
    simp [upd, Nat.add_assoc])
    (fun j2 h1 h2 => cell_other cA ad M (by omega) h1 (by rw [show ownI q (14 + 8 * k + 7) = 12 + 10 * q + k from by unfold ownI; rw [if_pos hp, if_neg (by omega)]; omega]; exact h2)) h hn kk
theorem g_st_smithies {index : Nat} {q : Nat} (hp : q < 6) (hin : ∀ w ∈ u_ws RX2 TX2 15, w ∈ ws) (hlink : Cond.fieldLink own index "BellowsRound$State" "smithies" "[LBellowsRound$Smithy;" ∈ ws) (h : decode cc pc = .ok (.getfield index, 3)) (hn : pc + 3 = n) (kk : PW cA ad D own ws cc nL ret d n lv (.ref (ad (10 + 10 * q + 1)) :: st) M Q) : PW cA ad D own ws cc nL ret d pc lv (.ref (ad (10 + 10 * q)) :: st) M Q :=
  r_get (ci := 2) (k := 0) (T := TX2) (by omega) (cell_st cA ad M hp) rfl hin (by decide) hlink rfl h hn kk
theorem g_st_smithyCount {index : Nat} {q : Nat} (hp : q < 6) (hin : ∀ w ∈ u_ws RX2 TX2 15, w ∈ ws) (hlink : Cond.fieldLink own index "BellowsRound$State" "smithyCount" "I" ∈ ws) (h : decode cc pc = .ok (.getfield index, 3)) (hn : pc + 3 = n) (kk : PW cA ad D own ws cc nL ret d n lv (.int (M.1 q 0) :: st) M Q) : PW cA ad D own ws cc nL ret d pc lv (.ref (ad (10 + 10 * q)) :: st) M Q :=
  r_get (ci := 2) (k := 1) (T := TX2) (by omega) (cell_st cA ad M hp) rfl hin (by decide) hlink rfl h hn kk
theorem p_st_smithyCount {index : Nat} {x : Int32} {q : Nat} (hp : q < 6) (hin : ∀ w ∈ u_ws RX2 TX2 15, w ∈ ws) (hlink : Cond.fieldLink own index "BellowsRound$State" "smithyCount" "I" ∈ ws) (h : decode cc pc = .ok (.putfield index, 3)) (hn : pc + 3 = n) (kk : PW cA ad D own ws cc nL ret d n lv st (mput M q 0 x) Q) : PW cA ad D own ws cc nL ret d pc lv (.int x :: .ref (ad (10 + 10 * q)) :: st) M Q :=
  r_put (ci := 2) (k := 1) (T := TX2) (ty := .int) (by omega) (cell_st cA ad M hp) rfl tyX2 tyX2_ok nmX2 hin (by decide) hlink rfl (by decide +kernel) rfl rfl (Nat.le_of_ble_eq_true rfl) (by
    rw [cell_st cA ad _ hp, mput_eq]
    simp [upd])
    (fun j2 h1 h2 => cell_other cA ad M (by omega) h1 (by rw [show ownI q 0 = 10 + 10 * q from by unfold ownI; rw [if_pos hp, if_pos (by decide)]]; exact h2)) h hn kk
theorem g_st_cold {index : Nat} {q : Nat} (hp : q < 6) (hin : ∀ w ∈ u_ws RX2 TX2 15, w ∈ ws) (hlink : Cond.fieldLink own index "BellowsRound$State" "cold" "I" ∈ ws) (h : decode cc pc = .ok (.getfield index, 3)) (hn : pc + 3 = n) (kk : PW cA ad D own ws cc nL ret d n lv (.int (M.1 q 10) :: st) M Q) : PW cA ad D own ws cc nL ret d pc lv (.ref (ad (10 + 10 * q)) :: st) M Q :=
  r_get (ci := 2) (k := 2) (T := TX2) (by omega) (cell_st cA ad M hp) rfl hin (by decide) hlink rfl h hn kk
theorem p_st_cold {index : Nat} {x : Int32} {q : Nat} (hp : q < 6) (hin : ∀ w ∈ u_ws RX2 TX2 15, w ∈ ws) (hlink : Cond.fieldLink own index "BellowsRound$State" "cold" "I" ∈ ws) (h : decode cc pc = .ok (.putfield index, 3)) (hn : pc + 3 = n) (kk : PW cA ad D own ws cc nL ret d n lv st (mput M q 10 x) Q) : PW cA ad D own ws cc nL ret d pc lv (.int x :: .ref (ad (10 + 10 * q)) :: st) M Q :=
  r_put (ci := 2) (k := 2) (T := TX2) (ty := .int) (by omega) (cell_st cA ad M hp) rfl tyX2 tyX2_ok nmX2 hin (by decide) hlink rfl (by decide +kernel) rfl rfl (Nat.le_of_ble_eq_true rfl) (by
    rw [cell_st cA ad _ hp, mput_eq]
    simp [upd])
    (fun j2 h1 h2 => cell_other cA ad M (by omega) h1 (by rw [show ownI q 10 = 10 + 10 * q from by unfold ownI; rw [if_pos hp, if_pos (by decide)]]; exact h2)) h hn kk
theorem g_st_hours {index : Nat} {q : Nat} (hp : q < 6) (hin : ∀ w ∈ u_ws RX2 TX2 15, w ∈ ws) (hlink : Cond.fieldLink own index "BellowsRound$State" "hours" "I" ∈ ws) (h : decode cc pc = .ok (.getfield index, 3)) (hn : pc + 3 = n) (kk : PW cA ad D own ws cc nL ret d n lv (.int (M.1 q 11) :: st) M Q) : PW cA ad D own ws cc nL ret d pc lv (.ref (ad (10 + 10 * q)) :: st) M Q :=
  r_get (ci := 2) (k := 3) (T := TX2) (by omega) (cell_st cA ad M hp) rfl hin (by decide) hlink rfl h hn kk
theorem p_st_hours {index : Nat} {x : Int32} {q : Nat} (hp : q < 6) (hin : ∀ w ∈ u_ws RX2 TX2 15, w ∈ ws) (hlink : Cond.fieldLink own index "BellowsRound$State" "hours" "I" ∈ ws) (h : decode cc pc = .ok (.putfield index, 3)) (hn : pc + 3 = n) (kk : PW cA ad D own ws cc nL ret d n lv st (mput M q 11 x) Q) : PW cA ad D own ws cc nL ret d pc lv (.int x :: .ref (ad (10 + 10 * q)) :: st) M Q :=
  r_put (ci := 2) (k := 3) (T := TX2) (ty := .int) (by omega) (cell_st cA ad M hp) rfl tyX2 tyX2_ok nmX2 hin (by decide) hlink rfl (by decide +kernel) rfl rfl (Nat.le_of_ble_eq_true rfl) (by
    rw [cell_st cA ad _ hp, mput_eq]
    simp [upd])
    (fun j2 h1 h2 => cell_other cA ad M (by omega) h1 (by rw [show ownI q 11 = 10 + 10 * q from by unfold ownI; rw [if_pos hp, if_pos (by decide)]]; exact h2)) h hn kk
theorem g_st_rate {index : Nat} {q : Nat} (hp : q < 6) (hin : ∀ w ∈ u_ws RX2 TX2 15, w ∈ ws) (hlink : Cond.fieldLink own index "BellowsRound$State" "rate" "I" ∈ ws) (h : decode cc pc = .ok (.getfield index, 3)) (hn : pc + 3 = n) (kk : PW cA ad D own ws cc nL ret d n lv (.int (M.1 q 12) :: st) M Q) : PW cA ad D own ws cc nL ret d pc lv (.ref (ad (10 + 10 * q)) :: st) M Q :=
  r_get (ci := 2) (k := 4) (T := TX2) (by omega) (cell_st cA ad M hp) rfl hin (by decide) hlink rfl h hn kk
theorem p_st_rate {index : Nat} {x : Int32} {q : Nat} (hp : q < 6) (hin : ∀ w ∈ u_ws RX2 TX2 15, w ∈ ws) (hlink : Cond.fieldLink own index "BellowsRound$State" "rate" "I" ∈ ws) (h : decode cc pc = .ok (.putfield index, 3)) (hn : pc + 3 = n) (kk : PW cA ad D own ws cc nL ret d n lv st (mput M q 12 x) Q) : PW cA ad D own ws cc nL ret d pc lv (.int x :: .ref (ad (10 + 10 * q)) :: st) M Q :=
  r_put (ci := 2) (k := 4) (T := TX2) (ty := .int) (by omega) (cell_st cA ad M hp) rfl tyX2 tyX2_ok nmX2 hin (by decide) hlink rfl (by decide +kernel) rfl rfl (Nat.le_of_ble_eq_true rfl) (by
    rw [cell_st cA ad _ hp, mput_eq]
    simp [upd])
    (fun j2 h1 h2 => cell_other cA ad M (by omega) h1 (by rw [show ownI q 12 = 10 + 10 * q from by unfold ownI; rw [if_pos hp, if_pos (by decide)]]; exact h2)) h hn kk
theorem g_st_patience {index : Nat} {q : Nat} (hp : q < 6) (hin : ∀ w ∈ u_ws RX2 TX2 15, w ∈ ws) (hlink : Cond.fieldLink own index "BellowsRound$State" "patience" "I" ∈ ws) (h : decode cc pc = .ok (.getfield index, 3)) (hn : pc + 3 = n) (kk : PW cA ad D own ws cc nL ret d n lv (.int (M.1 q 13) :: st) M Q) : PW cA ad D own ws cc nL ret d pc lv (.ref (ad (10 + 10 * q)) :: st) M Q :=
  r_get (ci := 2) (k := 5) (T := TX2) (by omega) (cell_st cA ad M hp) rfl hin (by decide) hlink rfl h hn kk
theorem p_st_patience {index : Nat} {x : Int32} {q : Nat} (hp : q < 6) (hin : ∀ w ∈ u_ws RX2 TX2 15, w ∈ ws) (hlink : Cond.fieldLink own index "BellowsRound$State" "patience" "I" ∈ ws) (h : decode cc pc = .ok (.putfield index, 3)) (hn : pc + 3 = n) (kk : PW cA ad D own ws cc nL ret d n lv st (mput M q 13 x) Q) : PW cA ad D own ws cc nL ret d pc lv (.int x :: .ref (ad (10 + 10 * q)) :: st) M Q :=
  r_put (ci := 2) (k := 5) (T := TX2) (ty := .int) (by omega) (cell_st cA ad M hp) rfl tyX2 tyX2_ok nmX2 hin (by decide) hlink rfl (by decide +kernel) rfl rfl (Nat.le_of_ble_eq_true rfl) (by
    rw [cell_st cA ad _ hp, mput_eq]
    simp [upd])
    (fun j2 h1 h2 => cell_other cA ad M (by omega) h1 (by rw [show ownI q 13 = 10 + 10 * q from by unfold ownI; rw [if_pos hp, if_pos (by decide)]]; exact h2)) h hn kk
theorem g_st_day {index : Nat} {q : Nat} (hp : q < 6) (hin : ∀ w ∈ u_ws RX2 TX2 15, w ∈ ws) (hlink : Cond.fieldLink own index "BellowsRound$State" "day" "I" ∈ ws) (h : decode cc pc = .ok (.getfield index, 3)) (hn : pc + 3 = n) (kk : PW cA ad D own ws cc nL ret d n lv (.int (M.1 q 1) :: st) M Q) : PW cA ad D own ws cc nL ret d pc lv (.ref (ad (10 + 10 * q)) :: st) M Q :=
  r_get (ci := 2) (k := 6) (T := TX2) (by omega) (cell_st cA ad M hp) rfl hin (by decide) hlink rfl h hn kk
theorem p_st_day {index : Nat} {x : Int32} {q : Nat} (hp : q < 6) (hin : ∀ w ∈ u_ws RX2 TX2 15, w ∈ ws) (hlink : Cond.fieldLink own index "BellowsRound$State" "day" "I" ∈ ws) (h : decode cc pc = .ok (.putfield index, 3)) (hn : pc + 3 = n) (kk : PW cA ad D own ws cc nL ret d n lv st (mput M q 1 x) Q) : PW cA ad D own ws cc nL ret d pc lv (.int x :: .ref (ad (10 + 10 * q)) :: st) M Q :=
  r_put (ci := 2) (k := 6) (T := TX2) (ty := .int) (by omega) (cell_st cA ad M hp) rfl tyX2 tyX2_ok nmX2 hin (by decide) hlink rfl (by decide +kernel) rfl rfl (Nat.le_of_ble_eq_true rfl) (by
    rw [cell_st cA ad _ hp, mput_eq]
    simp [upd])
    (fun j2 h1 h2 => cell_other cA ad M (by omega) h1 (by rw [show ownI q 1 = 10 + 10 * q from by unfold ownI; rw [if_pos hp, if_pos (by decide)]]; exact h2)) h hn kk
theorem g_st_mile {index : Nat} {q : Nat} (hp : q < 6) (hin : ∀ w ∈ u_ws RX2 TX2 15, w ∈ ws) (hlink : Cond.fieldLink own index "BellowsRound$State" "mile" "I" ∈ ws) (h : decode cc pc = .ok (.getfield index, 3)) (hn : pc + 3 = n) (kk : PW cA ad D own ws cc nL ret d n lv (.int (M.1 q 2) :: st) M Q) : PW cA ad D own ws cc nL ret d pc lv (.ref (ad (10 + 10 * q)) :: st) M Q :=
  r_get (ci := 2) (k := 7) (T := TX2) (by omega) (cell_st cA ad M hp) rfl hin (by decide) hlink rfl h hn kk
theorem p_st_mile {index : Nat} {x : Int32} {q : Nat} (hp : q < 6) (hin : ∀ w ∈ u_ws RX2 TX2 15, w ∈ ws) (hlink : Cond.fieldLink own index "BellowsRound$State" "mile" "I" ∈ ws) (h : decode cc pc = .ok (.putfield index, 3)) (hn : pc + 3 = n) (kk : PW cA ad D own ws cc nL ret d n lv st (mput M q 2 x) Q) : PW cA ad D own ws cc nL ret d pc lv (.int x :: .ref (ad (10 + 10 * q)) :: st) M Q :=
  r_put (ci := 2) (k := 7) (T := TX2) (ty := .int) (by omega) (cell_st cA ad M hp) rfl tyX2 tyX2_ok nmX2 hin (by decide) hlink rfl (by decide +kernel) rfl rfl (Nat.le_of_ble_eq_true rfl) (by
    rw [cell_st cA ad _ hp, mput_eq]
    simp [upd])
    (fun j2 h1 h2 => cell_other cA ad M (by omega) h1 (by rw [show ownI q 2 = 10 + 10 * q from by unfold ownI; rw [if_pos hp, if_pos (by decide)]]; exact h2)) h hn kk
theorem g_st_hoursLeft {index : Nat} {q : Nat} (hp : q < 6) (hin : ∀ w ∈ u_ws RX2 TX2 15, w ∈ ws) (hlink : Cond.fieldLink own index "BellowsRound$State" "hoursLeft" "I" ∈ ws) (h : decode cc pc = .ok (.getfield index, 3)) (hn : pc + 3 = n) (kk : PW cA ad D own ws cc nL ret d n lv (.int (M.1 q 3) :: st) M Q) : PW cA ad D own ws cc nL ret d pc lv (.ref (ad (10 + 10 * q)) :: st) M Q :=
  r_get (ci := 2) (k := 8) (T := TX2) (by omega) (cell_st cA ad M hp) rfl hin (by decide) hlink rfl h hn kk
theorem p_st_hoursLeft {index : Nat} {x : Int32} {q : Nat} (hp : q < 6) (hin : ∀ w ∈ u_ws RX2 TX2 15, w ∈ ws) (hlink : Cond.fieldLink own index "BellowsRound$State" "hoursLeft" "I" ∈ ws) (h : decode cc pc = .ok (.putfield index, 3)) (hn : pc + 3 = n) (kk : PW cA ad D own ws cc nL ret d n lv st (mput M q 3 x) Q) : PW cA ad D own ws cc nL ret d pc lv (.int x :: .ref (ad (10 + 10 * q)) :: st) M Q :=
  r_put (ci := 2) (k := 8) (T := TX2) (ty := .int) (by omega) (cell_st cA ad M hp) rfl tyX2 tyX2_ok nmX2 hin (by decide) hlink rfl (by decide +kernel) rfl rfl (Nat.le_of_ble_eq_true rfl) (by
    rw [cell_st cA ad _ hp, mput_eq]
    simp [upd])
    (fun j2 h1 h2 => cell_other cA ad M (by omega) h1 (by rw [show ownI q 3 = 10 + 10 * q from by unfold ownI; rw [if_pos hp, if_pos (by decide)]]; exact h2)) h hn kk
theorem g_st_leather {index : Nat} {q : Nat} (hp : q < 6) (hin : ∀ w ∈ u_ws RX2 TX2 15, w ∈ ws) (hlink : Cond.fieldLink own index "BellowsRound$State" "leather" "I" ∈ ws) (h : decode cc pc = .ok (.getfield index, 3)) (hn : pc + 3 = n) (kk : PW cA ad D own ws cc nL ret d n lv (.int (M.1 q 4) :: st) M Q) : PW cA ad D own ws cc nL ret d pc lv (.ref (ad (10 + 10 * q)) :: st) M Q :=
  r_get (ci := 2) (k := 9) (T := TX2) (by omega) (cell_st cA ad M hp) rfl hin (by decide) hlink rfl h hn kk
theorem p_st_leather {index : Nat} {x : Int32} {q : Nat} (hp : q < 6) (hin : ∀ w ∈ u_ws RX2 TX2 15, w ∈ ws) (hlink : Cond.fieldLink own index "BellowsRound$State" "leather" "I" ∈ ws) (h : decode cc pc = .ok (.putfield index, 3)) (hn : pc + 3 = n) (kk : PW cA ad D own ws cc nL ret d n lv st (mput M q 4 x) Q) : PW cA ad D own ws cc nL ret d pc lv (.int x :: .ref (ad (10 + 10 * q)) :: st) M Q :=
  r_put (ci := 2) (k := 9) (T := TX2) (ty := .int) (by omega) (cell_st cA ad M hp) rfl tyX2 tyX2_ok nmX2 hin (by decide) hlink rfl (by decide +kernel) rfl rfl (Nat.le_of_ble_eq_true rfl) (by
    rw [cell_st cA ad _ hp, mput_eq]
    simp [upd])
    (fun j2 h1 h2 => cell_other cA ad M (by omega) h1 (by rw [show ownI q 4 = 10 + 10 * q from by unfold ownI; rw [if_pos hp, if_pos (by decide)]]; exact h2)) h hn kk
theorem g_st_money {index : Nat} {q : Nat} (hp : q < 6) (hin : ∀ w ∈ u_ws RX2 TX2 15, w ∈ ws) (hlink : Cond.fieldLink own index "BellowsRound$State" "money" "I" ∈ ws) (h : decode cc pc = .ok (.getfield index, 3)) (hn : pc + 3 = n) (kk : PW cA ad D own ws cc nL ret d n lv (.int (M.1 q 5) :: st) M Q) : PW cA ad D own ws cc nL ret d pc lv (.ref (ad (10 + 10 * q)) :: st) M Q :=
  r_get (ci := 2) (k := 10) (T := TX2) (by omega) (cell_st cA ad M hp) rfl hin (by decide) hlink rfl h hn kk
theorem p_st_money {index : Nat} {x : Int32} {q : Nat} (hp : q < 6) (hin : ∀ w ∈ u_ws RX2 TX2 15, w ∈ ws) (hlink : Cond.fieldLink own index "BellowsRound$State" "money" "I" ∈ ws) (h : decode cc pc = .ok (.putfield index, 3)) (hn : pc + 3 = n) (kk : PW cA ad D own ws cc nL ret d n lv st (mput M q 5 x) Q) : PW cA ad D own ws cc nL ret d pc lv (.int x :: .ref (ad (10 + 10 * q)) :: st) M Q :=
  r_put (ci := 2) (k := 10) (T := TX2) (ty := .int) (by omega) (cell_st cA ad M hp) rfl tyX2 tyX2_ok nmX2 hin (by decide) hlink rfl (by decide +kernel) rfl rfl (Nat.le_of_ble_eq_true rfl) (by
    rw [cell_st cA ad _ hp, mput_eq]
    simp [upd])
    (fun j2 h1 h2 => cell_other cA ad M (by omega) h1 (by rw [show ownI q 5 = 10 + 10 * q from by unfold ownI; rw [if_pos hp, if_pos (by decide)]]; exact h2)) h hn kk
theorem g_st_paidForLeather {index : Nat} {q : Nat} (hp : q < 6) (hin : ∀ w ∈ u_ws RX2 TX2 15, w ∈ ws) (hlink : Cond.fieldLink own index "BellowsRound$State" "paidForLeather" "I" ∈ ws) (h : decode cc pc = .ok (.getfield index, 3)) (hn : pc + 3 = n) (kk : PW cA ad D own ws cc nL ret d n lv (.int (M.1 q 6) :: st) M Q) : PW cA ad D own ws cc nL ret d pc lv (.ref (ad (10 + 10 * q)) :: st) M Q :=
  r_get (ci := 2) (k := 11) (T := TX2) (by omega) (cell_st cA ad M hp) rfl hin (by decide) hlink rfl h hn kk
theorem p_st_paidForLeather {index : Nat} {x : Int32} {q : Nat} (hp : q < 6) (hin : ∀ w ∈ u_ws RX2 TX2 15, w ∈ ws) (hlink : Cond.fieldLink own index "BellowsRound$State" "paidForLeather" "I" ∈ ws) (h : decode cc pc = .ok (.putfield index, 3)) (hn : pc + 3 = n) (kk : PW cA ad D own ws cc nL ret d n lv st (mput M q 6 x) Q) : PW cA ad D own ws cc nL ret d pc lv (.int x :: .ref (ad (10 + 10 * q)) :: st) M Q :=
  r_put (ci := 2) (k := 11) (T := TX2) (ty := .int) (by omega) (cell_st cA ad M hp) rfl tyX2 tyX2_ok nmX2 hin (by decide) hlink rfl (by decide +kernel) rfl rfl (Nat.le_of_ble_eq_true rfl) (by
    rw [cell_st cA ad _ hp, mput_eq]
    simp [upd])
    (fun j2 h1 h2 => cell_other cA ad M (by omega) h1 (by rw [show ownI q 6 = 10 + 10 * q from by unfold ownI; rw [if_pos hp, if_pos (by decide)]]; exact h2)) h hn kk
theorem g_st_owedForMends {index : Nat} {q : Nat} (hp : q < 6) (hin : ∀ w ∈ u_ws RX2 TX2 15, w ∈ ws) (hlink : Cond.fieldLink own index "BellowsRound$State" "owedForMends" "I" ∈ ws) (h : decode cc pc = .ok (.getfield index, 3)) (hn : pc + 3 = n) (kk : PW cA ad D own ws cc nL ret d n lv (.int (M.1 q 7) :: st) M Q) : PW cA ad D own ws cc nL ret d pc lv (.ref (ad (10 + 10 * q)) :: st) M Q :=
  r_get (ci := 2) (k := 12) (T := TX2) (by omega) (cell_st cA ad M hp) rfl hin (by decide) hlink rfl h hn kk
theorem p_st_owedForMends {index : Nat} {x : Int32} {q : Nat} (hp : q < 6) (hin : ∀ w ∈ u_ws RX2 TX2 15, w ∈ ws) (hlink : Cond.fieldLink own index "BellowsRound$State" "owedForMends" "I" ∈ ws) (h : decode cc pc = .ok (.putfield index, 3)) (hn : pc + 3 = n) (kk : PW cA ad D own ws cc nL ret d n lv st (mput M q 7 x) Q) : PW cA ad D own ws cc nL ret d pc lv (.int x :: .ref (ad (10 + 10 * q)) :: st) M Q :=
  r_put (ci := 2) (k := 12) (T := TX2) (ty := .int) (by omega) (cell_st cA ad M hp) rfl tyX2 tyX2_ok nmX2 hin (by decide) hlink rfl (by decide +kernel) rfl rfl (Nat.le_of_ble_eq_true rfl) (by
    rw [cell_st cA ad _ hp, mput_eq]
    simp [upd])
    (fun j2 h1 h2 => cell_other cA ad M (by omega) h1 (by rw [show ownI q 7 = 10 + 10 * q from by unfold ownI; rw [if_pos hp, if_pos (by decide)]]; exact h2)) h hn kk
theorem g_st_longestCold {index : Nat} {q : Nat} (hp : q < 6) (hin : ∀ w ∈ u_ws RX2 TX2 15, w ∈ ws) (hlink : Cond.fieldLink own index "BellowsRound$State" "longestCold" "I" ∈ ws) (h : decode cc pc = .ok (.getfield index, 3)) (hn : pc + 3 = n) (kk : PW cA ad D own ws cc nL ret d n lv (.int (M.1 q 8) :: st) M Q) : PW cA ad D own ws cc nL ret d pc lv (.ref (ad (10 + 10 * q)) :: st) M Q :=
  r_get (ci := 2) (k := 13) (T := TX2) (by omega) (cell_st cA ad M hp) rfl hin (by decide) hlink rfl h hn kk
theorem p_st_longestCold {index : Nat} {x : Int32} {q : Nat} (hp : q < 6) (hin : ∀ w ∈ u_ws RX2 TX2 15, w ∈ ws) (hlink : Cond.fieldLink own index "BellowsRound$State" "longestCold" "I" ∈ ws) (h : decode cc pc = .ok (.putfield index, 3)) (hn : pc + 3 = n) (kk : PW cA ad D own ws cc nL ret d n lv st (mput M q 8 x) Q) : PW cA ad D own ws cc nL ret d pc lv (.int x :: .ref (ad (10 + 10 * q)) :: st) M Q :=
  r_put (ci := 2) (k := 13) (T := TX2) (ty := .int) (by omega) (cell_st cA ad M hp) rfl tyX2 tyX2_ok nmX2 hin (by decide) hlink rfl (by decide +kernel) rfl rfl (Nat.le_of_ble_eq_true rfl) (by
    rw [cell_st cA ad _ hp, mput_eq]
    simp [upd])
    (fun j2 h1 h2 => cell_other cA ad M (by omega) h1 (by rw [show ownI q 8 = 10 + 10 * q from by unfold ownI; rw [if_pos hp, if_pos (by decide)]]; exact h2)) h hn kk
theorem g_st_milesWalked {index : Nat} {q : Nat} (hp : q < 6) (hin : ∀ w ∈ u_ws RX2 TX2 15, w ∈ ws) (hlink : Cond.fieldLink own index "BellowsRound$State" "milesWalked" "I" ∈ ws) (h : decode cc pc = .ok (.getfield index, 3)) (hn : pc + 3 = n) (kk : PW cA ad D own ws cc nL ret d n lv (.int (M.1 q 9) :: st) M Q) : PW cA ad D own ws cc nL ret d pc lv (.ref (ad (10 + 10 * q)) :: st) M Q :=
  r_get (ci := 2) (k := 14) (T := TX2) (by omega) (cell_st cA ad M hp) rfl hin (by decide) hlink rfl h hn kk
theorem p_st_milesWalked {index : Nat} {x : Int32} {q : Nat} (hp : q < 6) (hin : ∀ w ∈ u_ws RX2 TX2 15, w ∈ ws) (hlink : Cond.fieldLink own index "BellowsRound$State" "milesWalked" "I" ∈ ws) (h : decode cc pc = .ok (.putfield index, 3)) (hn : pc + 3 = n) (kk : PW cA ad D own ws cc nL ret d n lv st (mput M q 9 x) Q) : PW cA ad D own ws cc nL ret d pc lv (.int x :: .ref (ad (10 + 10 * q)) :: st) M Q :=
  r_put (ci := 2) (k := 14) (T := TX2) (ty := .int) (by omega) (cell_st cA ad M hp) rfl tyX2 tyX2_ok nmX2 hin (by decide) hlink rfl (by decide +kernel) rfl rfl (Nat.le_of_ble_eq_true rfl) (by
    rw [cell_st cA ad _ hp, mput_eq]
    simp [upd])
    (fun j2 h1 h2 => cell_other cA ad M (by omega) h1 (by rw [show ownI q 9 = 10 + 10 * q from by unfold ownI; rw [if_pos hp, if_pos (by decide)]]; exact h2)) h hn kk
theorem g_br_now {index : Nat} (hin : ∀ w ∈ u_ws RX3 TX3 9, w ∈ ws) (hlink : Cond.fieldLink own index "BellowsRound" "now" "LBellowsRound$State;" ∈ ws) (h : decode cc pc = .ok (.getfield index, 3)) (hn : pc + 3 = n) (kk : PW cA ad D own ws cc nL ret d n lv (.ref (ad (10 + 10 * M.2 0)) :: st) M Q) : PW cA ad D own ws cc nL ret d pc lv (.ref (ad (0)) :: st) M Q :=
  r_get (ci := 3) (k := 0) (T := TX3) (by decide) (rfl) rfl hin (by decide) hlink rfl h hn kk
theorem g_br_trial {index : Nat} (hin : ∀ w ∈ u_ws RX3 TX3 9, w ∈ ws) (hlink : Cond.fieldLink own index "BellowsRound" "trial" "LBellowsRound$State;" ∈ ws) (h : decode cc pc = .ok (.getfield index, 3)) (hn : pc + 3 = n) (kk : PW cA ad D own ws cc nL ret d n lv (.ref (ad (10 + 10 * M.2 1)) :: st) M Q) : PW cA ad D own ws cc nL ret d pc lv (.ref (ad (0)) :: st) M Q :=
  r_get (ci := 3) (k := 1) (T := TX3) (by decide) (rfl) rfl hin (by decide) hlink rfl h hn kk
theorem g_br_history {index : Nat} (hin : ∀ w ∈ u_ws RX3 TX3 9, w ∈ ws) (hlink : Cond.fieldLink own index "BellowsRound" "history" "[LBellowsRound$State;" ∈ ws) (h : decode cc pc = .ok (.getfield index, 3)) (hn : pc + 3 = n) (kk : PW cA ad D own ws cc nL ret d n lv (.ref (ad 3) :: st) M Q) : PW cA ad D own ws cc nL ret d pc lv (.ref (ad (0)) :: st) M Q :=
  r_get (ci := 3) (k := 2) (T := TX3) (by decide) (rfl) rfl hin (by decide) hlink rfl h hn kk
theorem g_br_states {index : Nat} (hin : ∀ w ∈ u_ws RX3 TX3 9, w ∈ ws) (hlink : Cond.fieldLink own index "BellowsRound" "states" "I" ∈ ws) (h : decode cc pc = .ok (.getfield index, 3)) (hn : pc + 3 = n) (kk : PW cA ad D own ws cc nL ret d n lv (.int (M.1 8 0) :: st) M Q) : PW cA ad D own ws cc nL ret d pc lv (.ref (ad (0)) :: st) M Q :=
  r_get (ci := 3) (k := 3) (T := TX3) (by decide) (rfl) rfl hin (by decide) hlink rfl h hn kk
theorem p_br_states {index : Nat} {x : Int32} (hin : ∀ w ∈ u_ws RX3 TX3 9, w ∈ ws) (hlink : Cond.fieldLink own index "BellowsRound" "states" "I" ∈ ws) (h : decode cc pc = .ok (.putfield index, 3)) (hn : pc + 3 = n) (kk : PW cA ad D own ws cc nL ret d n lv st (mput M 8 0 x) Q) : PW cA ad D own ws cc nL ret d pc lv (.int x :: .ref (ad (0)) :: st) M Q :=
  r_put (ci := 3) (k := 3) (T := TX3) (ty := .int) (by decide) (rfl) rfl tyX3 tyX3_ok nmX3 hin (by decide) hlink rfl (by decide +kernel) rfl rfl (Nat.le_of_ble_eq_true rfl) (by simp [cellOf, mput, va_up, upd])
    (fun j2 h1 h2 => cell_other cA ad M (by decide) h1 (by rw [show ownI 8 0 = 0 from by decide]; exact h2)) h hn kk
theorem g_br_text {index : Nat} (hin : ∀ w ∈ u_ws RX3 TX3 9, w ∈ ws) (hlink : Cond.fieldLink own index "BellowsRound" "text" "LBellowsRound$OrderText;" ∈ ws) (h : decode cc pc = .ok (.getfield index, 3)) (hn : pc + 3 = n) (kk : PW cA ad D own ws cc nL ret d n lv (.ref (ad 1) :: st) M Q) : PW cA ad D own ws cc nL ret d pc lv (.ref (ad (0)) :: st) M Q :=
  r_get (ci := 3) (k := 4) (T := TX3) (by decide) (rfl) rfl hin (by decide) hlink rfl h hn kk
theorem g_br_ordersTried {index : Nat} (hin : ∀ w ∈ u_ws RX3 TX3 9, w ∈ ws) (hlink : Cond.fieldLink own index "BellowsRound" "ordersTried" "I" ∈ ws) (h : decode cc pc = .ok (.getfield index, 3)) (hn : pc + 3 = n) (kk : PW cA ad D own ws cc nL ret d n lv (.int (M.1 8 1) :: st) M Q) : PW cA ad D own ws cc nL ret d pc lv (.ref (ad (0)) :: st) M Q :=
  r_get (ci := 3) (k := 5) (T := TX3) (by decide) (rfl) rfl hin (by decide) hlink rfl h hn kk
theorem p_br_ordersTried {index : Nat} {x : Int32} (hin : ∀ w ∈ u_ws RX3 TX3 9, w ∈ ws) (hlink : Cond.fieldLink own index "BellowsRound" "ordersTried" "I" ∈ ws) (h : decode cc pc = .ok (.putfield index, 3)) (hn : pc + 3 = n) (kk : PW cA ad D own ws cc nL ret d n lv st (mput M 8 1 x) Q) : PW cA ad D own ws cc nL ret d pc lv (.int x :: .ref (ad (0)) :: st) M Q :=
  r_put (ci := 3) (k := 5) (T := TX3) (ty := .int) (by decide) (rfl) rfl tyX3 tyX3_ok nmX3 hin (by decide) hlink rfl (by decide +kernel) rfl rfl (Nat.le_of_ble_eq_true rfl) (by simp [cellOf, mput, va_up, upd])
    (fun j2 h1 h2 => cell_other cA ad M (by decide) h1 (by rw [show ownI 8 1 = 0 from by decide]; exact h2)) h hn kk
theorem g_br_faultPosition {index : Nat} (hin : ∀ w ∈ u_ws RX3 TX3 9, w ∈ ws) (hlink : Cond.fieldLink own index "BellowsRound" "faultPosition" "I" ∈ ws) (h : decode cc pc = .ok (.getfield index, 3)) (hn : pc + 3 = n) (kk : PW cA ad D own ws cc nL ret d n lv (.int (M.1 8 2) :: st) M Q) : PW cA ad D own ws cc nL ret d pc lv (.ref (ad (0)) :: st) M Q :=
  r_get (ci := 3) (k := 6) (T := TX3) (by decide) (rfl) rfl hin (by decide) hlink rfl h hn kk
theorem p_br_faultPosition {index : Nat} {x : Int32} (hin : ∀ w ∈ u_ws RX3 TX3 9, w ∈ ws) (hlink : Cond.fieldLink own index "BellowsRound" "faultPosition" "I" ∈ ws) (h : decode cc pc = .ok (.putfield index, 3)) (hn : pc + 3 = n) (kk : PW cA ad D own ws cc nL ret d n lv st (mput M 8 2 x) Q) : PW cA ad D own ws cc nL ret d pc lv (.int x :: .ref (ad (0)) :: st) M Q :=
  r_put (ci := 3) (k := 6) (T := TX3) (ty := .int) (by decide) (rfl) rfl tyX3 tyX3_ok nmX3 hin (by decide) hlink rfl (by decide +kernel) rfl rfl (Nat.le_of_ble_eq_true rfl) (by simp [cellOf, mput, va_up, upd])
    (fun j2 h1 h2 => cell_other cA ad M (by decide) h1 (by rw [show ownI 8 2 = 0 from by decide]; exact h2)) h hn kk
theorem g_br_faultReason {index : Nat} (hin : ∀ w ∈ u_ws RX3 TX3 9, w ∈ ws) (hlink : Cond.fieldLink own index "BellowsRound" "faultReason" "I" ∈ ws) (h : decode cc pc = .ok (.getfield index, 3)) (hn : pc + 3 = n) (kk : PW cA ad D own ws cc nL ret d n lv (.int (M.1 8 3) :: st) M Q) : PW cA ad D own ws cc nL ret d pc lv (.ref (ad (0)) :: st) M Q :=
  r_get (ci := 3) (k := 7) (T := TX3) (by decide) (rfl) rfl hin (by decide) hlink rfl h hn kk
theorem p_br_faultReason {index : Nat} {x : Int32} (hin : ∀ w ∈ u_ws RX3 TX3 9, w ∈ ws) (hlink : Cond.fieldLink own index "BellowsRound" "faultReason" "I" ∈ ws) (h : decode cc pc = .ok (.putfield index, 3)) (hn : pc + 3 = n) (kk : PW cA ad D own ws cc nL ret d n lv st (mput M 8 3 x) Q) : PW cA ad D own ws cc nL ret d pc lv (.int x :: .ref (ad (0)) :: st) M Q :=
  r_put (ci := 3) (k := 7) (T := TX3) (ty := .int) (by decide) (rfl) rfl tyX3 tyX3_ok nmX3 hin (by decide) hlink rfl (by decide +kernel) rfl rfl (Nat.le_of_ble_eq_true rfl) (by simp [cellOf, mput, va_up, upd])
    (fun j2 h1 h2 => cell_other cA ad M (by decide) h1 (by rw [show ownI 8 3 = 0 from by decide]; exact h2)) h hn kk
theorem g_br_faultCause {index : Nat} (hin : ∀ w ∈ u_ws RX3 TX3 9, w ∈ ws) (hlink : Cond.fieldLink own index "BellowsRound" "faultCause" "I" ∈ ws) (h : decode cc pc = .ok (.getfield index, 3)) (hn : pc + 3 = n) (kk : PW cA ad D own ws cc nL ret d n lv (.int (M.1 8 4) :: st) M Q) : PW cA ad D own ws cc nL ret d pc lv (.ref (ad (0)) :: st) M Q :=
  r_get (ci := 3) (k := 8) (T := TX3) (by decide) (rfl) rfl hin (by decide) hlink rfl h hn kk
theorem p_br_faultCause {index : Nat} {x : Int32} (hin : ∀ w ∈ u_ws RX3 TX3 9, w ∈ ws) (hlink : Cond.fieldLink own index "BellowsRound" "faultCause" "I" ∈ ws) (h : decode cc pc = .ok (.putfield index, 3)) (hn : pc + 3 = n) (kk : PW cA ad D own ws cc nL ret d n lv st (mput M 8 4 x) Q) : PW cA ad D own ws cc nL ret d pc lv (.int x :: .ref (ad (0)) :: st) M Q :=
  r_put (ci := 3) (k := 8) (T := TX3) (ty := .int) (by decide) (rfl) rfl tyX3 tyX3_ok nmX3 hin (by decide) hlink rfl (by decide +kernel) rfl rfl (Nat.le_of_ble_eq_true rfl) (by simp [cellOf, mput, va_up, upd])
    (fun j2 h1 h2 => cell_other cA ad M (by decide) h1 (by rw [show ownI 8 4 = 0 from by decide]; exact h2)) h hn kk
theorem g_mo_s {index : Nat} (hin : ∀ w ∈ u_ws RX4 TX4 15, w ∈ ws) (hlink : Cond.fieldLink own index "BellowsRoundModel" "s" "[I" ∈ ws) (h : decode cc pc = .ok (.getfield index, 3)) (hn : pc + 3 = n) (kk : PW cA ad D own ws cc nL ret d n lv (.ref (ad 5) :: st) M Q) : PW cA ad D own ws cc nL ret d pc lv (.ref (ad (4)) :: st) M Q :=
  r_get (ci := 4) (k := 0) (T := TX4) (by decide) (rfl) rfl hin (by decide) hlink rfl h hn kk
theorem g_mo_past {index : Nat} (hin : ∀ w ∈ u_ws RX4 TX4 15, w ∈ ws) (hlink : Cond.fieldLink own index "BellowsRoundModel" "past" "[I" ∈ ws) (h : decode cc pc = .ok (.getfield index, 3)) (hn : pc + 3 = n) (kk : PW cA ad D own ws cc nL ret d n lv (.ref (ad 6) :: st) M Q) : PW cA ad D own ws cc nL ret d pc lv (.ref (ad (4)) :: st) M Q :=
  r_get (ci := 4) (k := 1) (T := TX4) (by decide) (rfl) rfl hin (by decide) hlink rfl h hn kk
theorem g_mo_held {index : Nat} (hin : ∀ w ∈ u_ws RX4 TX4 15, w ∈ ws) (hlink : Cond.fieldLink own index "BellowsRoundModel" "held" "[I" ∈ ws) (h : decode cc pc = .ok (.getfield index, 3)) (hn : pc + 3 = n) (kk : PW cA ad D own ws cc nL ret d n lv (.ref (ad 7) :: st) M Q) : PW cA ad D own ws cc nL ret d pc lv (.ref (ad (4)) :: st) M Q :=
  r_get (ci := 4) (k := 2) (T := TX4) (by decide) (rfl) rfl hin (by decide) hlink rfl h hn kk
theorem g_mo_tried {index : Nat} (hin : ∀ w ∈ u_ws RX4 TX4 15, w ∈ ws) (hlink : Cond.fieldLink own index "BellowsRoundModel" "tried" "[I" ∈ ws) (h : decode cc pc = .ok (.getfield index, 3)) (hn : pc + 3 = n) (kk : PW cA ad D own ws cc nL ret d n lv (.ref (ad 8) :: st) M Q) : PW cA ad D own ws cc nL ret d pc lv (.ref (ad (4)) :: st) M Q :=
  r_get (ci := 4) (k := 3) (T := TX4) (by decide) (rfl) rfl hin (by decide) hlink rfl h hn kk
theorem g_mo_pasts {index : Nat} (hin : ∀ w ∈ u_ws RX4 TX4 15, w ∈ ws) (hlink : Cond.fieldLink own index "BellowsRoundModel" "pasts" "I" ∈ ws) (h : decode cc pc = .ok (.getfield index, 3)) (hn : pc + 3 = n) (kk : PW cA ad D own ws cc nL ret d n lv (.int (M.1 9 0) :: st) M Q) : PW cA ad D own ws cc nL ret d pc lv (.ref (ad (4)) :: st) M Q :=
  r_get (ci := 4) (k := 4) (T := TX4) (by decide) (rfl) rfl hin (by decide) hlink rfl h hn kk
theorem p_mo_pasts {index : Nat} {x : Int32} (hin : ∀ w ∈ u_ws RX4 TX4 15, w ∈ ws) (hlink : Cond.fieldLink own index "BellowsRoundModel" "pasts" "I" ∈ ws) (h : decode cc pc = .ok (.putfield index, 3)) (hn : pc + 3 = n) (kk : PW cA ad D own ws cc nL ret d n lv st (mput M 9 0 x) Q) : PW cA ad D own ws cc nL ret d pc lv (.int x :: .ref (ad (4)) :: st) M Q :=
  r_put (ci := 4) (k := 4) (T := TX4) (ty := .int) (by decide) (rfl) rfl tyX4 tyX4_ok nmX4 hin (by decide) hlink rfl (by decide +kernel) rfl rfl (Nat.le_of_ble_eq_true rfl) (by simp [cellOf, mput, va_up, upd])
    (fun j2 h1 h2 => cell_other cA ad M (by decide) h1 (by rw [show ownI 9 0 = 4 from by decide]; exact h2)) h hn kk
theorem g_mo_runs {index : Nat} (hin : ∀ w ∈ u_ws RX4 TX4 15, w ∈ ws) (hlink : Cond.fieldLink own index "BellowsRoundModel" "runs" "Z" ∈ ws) (h : decode cc pc = .ok (.getfield index, 3)) (hn : pc + 3 = n) (kk : PW cA ad D own ws cc nL ret d n lv (.int (M.1 9 1) :: st) M Q) : PW cA ad D own ws cc nL ret d pc lv (.ref (ad (4)) :: st) M Q :=
  r_get (ci := 4) (k := 5) (T := TX4) (by decide) (rfl) rfl hin (by decide) hlink rfl h hn kk
theorem p_mo_runs {index : Nat} {x : Int32} (hx : x = 0 ∨ x = 1) (hin : ∀ w ∈ u_ws RX4 TX4 15, w ∈ ws) (hlink : Cond.fieldLink own index "BellowsRoundModel" "runs" "Z" ∈ ws) (h : decode cc pc = .ok (.putfield index, 3)) (hn : pc + 3 = n) (kk : PW cA ad D own ws cc nL ret d n lv st (mput M 9 1 x) Q) : PW cA ad D own ws cc nL ret d pc lv (.int x :: .ref (ad (4)) :: st) M Q :=
  r_put (ci := 4) (k := 5) (T := TX4) (ty := .boolean) (by decide) (rfl) rfl tyX4 tyX4_ok nmX4 hin (by decide) hlink rfl (by decide +kernel) (by rcases hx with rfl | rfl <;> decide +kernel) (by rcases hx with rfl | rfl <;> decide +kernel) (Nat.le_of_ble_eq_true rfl) (by simp [cellOf, mput, va_up, upd])
    (fun j2 h1 h2 => cell_other cA ad M (by decide) h1 (by rw [show ownI 9 1 = 4 from by decide]; exact h2)) h hn kk
theorem g_mo_text {index : Nat} (hin : ∀ w ∈ u_ws RX4 TX4 15, w ∈ ws) (hlink : Cond.fieldLink own index "BellowsRoundModel" "text" "[I" ∈ ws) (h : decode cc pc = .ok (.getfield index, 3)) (hn : pc + 3 = n) (kk : PW cA ad D own ws cc nL ret d n lv (.ref (ad 9) :: st) M Q) : PW cA ad D own ws cc nL ret d pc lv (.ref (ad (4)) :: st) M Q :=
  r_get (ci := 4) (k := 6) (T := TX4) (by decide) (rfl) rfl hin (by decide) hlink rfl h hn kk
theorem g_mo_typed {index : Nat} (hin : ∀ w ∈ u_ws RX4 TX4 15, w ∈ ws) (hlink : Cond.fieldLink own index "BellowsRoundModel" "typed" "I" ∈ ws) (h : decode cc pc = .ok (.getfield index, 3)) (hn : pc + 3 = n) (kk : PW cA ad D own ws cc nL ret d n lv (.int (M.1 9 2) :: st) M Q) : PW cA ad D own ws cc nL ret d pc lv (.ref (ad (4)) :: st) M Q :=
  r_get (ci := 4) (k := 7) (T := TX4) (by decide) (rfl) rfl hin (by decide) hlink rfl h hn kk
theorem p_mo_typed {index : Nat} {x : Int32} (hin : ∀ w ∈ u_ws RX4 TX4 15, w ∈ ws) (hlink : Cond.fieldLink own index "BellowsRoundModel" "typed" "I" ∈ ws) (h : decode cc pc = .ok (.putfield index, 3)) (hn : pc + 3 = n) (kk : PW cA ad D own ws cc nL ret d n lv st (mput M 9 2 x) Q) : PW cA ad D own ws cc nL ret d pc lv (.int x :: .ref (ad (4)) :: st) M Q :=
  r_put (ci := 4) (k := 7) (T := TX4) (ty := .int) (by decide) (rfl) rfl tyX4 tyX4_ok nmX4 hin (by decide) hlink rfl (by decide +kernel) rfl rfl (Nat.le_of_ble_eq_true rfl) (by simp [cellOf, mput, va_up, upd])
    (fun j2 h1 h2 => cell_other cA ad M (by decide) h1 (by rw [show ownI 9 2 = 4 from by decide]; exact h2)) h hn kk
theorem g_mo_spot {index : Nat} (hin : ∀ w ∈ u_ws RX4 TX4 15, w ∈ ws) (hlink : Cond.fieldLink own index "BellowsRoundModel" "spot" "I" ∈ ws) (h : decode cc pc = .ok (.getfield index, 3)) (hn : pc + 3 = n) (kk : PW cA ad D own ws cc nL ret d n lv (.int (M.1 9 3) :: st) M Q) : PW cA ad D own ws cc nL ret d pc lv (.ref (ad (4)) :: st) M Q :=
  r_get (ci := 4) (k := 8) (T := TX4) (by decide) (rfl) rfl hin (by decide) hlink rfl h hn kk
theorem p_mo_spot {index : Nat} {x : Int32} (hin : ∀ w ∈ u_ws RX4 TX4 15, w ∈ ws) (hlink : Cond.fieldLink own index "BellowsRoundModel" "spot" "I" ∈ ws) (h : decode cc pc = .ok (.putfield index, 3)) (hn : pc + 3 = n) (kk : PW cA ad D own ws cc nL ret d n lv st (mput M 9 3 x) Q) : PW cA ad D own ws cc nL ret d pc lv (.int x :: .ref (ad (4)) :: st) M Q :=
  r_put (ci := 4) (k := 8) (T := TX4) (ty := .int) (by decide) (rfl) rfl tyX4 tyX4_ok nmX4 hin (by decide) hlink rfl (by decide +kernel) rfl rfl (Nat.le_of_ble_eq_true rfl) (by simp [cellOf, mput, va_up, upd])
    (fun j2 h1 h2 => cell_other cA ad M (by decide) h1 (by rw [show ownI 9 3 = 4 from by decide]; exact h2)) h hn kk
theorem g_mo_from {index : Nat} (hin : ∀ w ∈ u_ws RX4 TX4 15, w ∈ ws) (hlink : Cond.fieldLink own index "BellowsRoundModel" "from" "I" ∈ ws) (h : decode cc pc = .ok (.getfield index, 3)) (hn : pc + 3 = n) (kk : PW cA ad D own ws cc nL ret d n lv (.int (M.1 9 4) :: st) M Q) : PW cA ad D own ws cc nL ret d pc lv (.ref (ad (4)) :: st) M Q :=
  r_get (ci := 4) (k := 9) (T := TX4) (by decide) (rfl) rfl hin (by decide) hlink rfl h hn kk
theorem p_mo_from {index : Nat} {x : Int32} (hin : ∀ w ∈ u_ws RX4 TX4 15, w ∈ ws) (hlink : Cond.fieldLink own index "BellowsRoundModel" "from" "I" ∈ ws) (h : decode cc pc = .ok (.putfield index, 3)) (hn : pc + 3 = n) (kk : PW cA ad D own ws cc nL ret d n lv st (mput M 9 4 x) Q) : PW cA ad D own ws cc nL ret d pc lv (.int x :: .ref (ad (4)) :: st) M Q :=
  r_put (ci := 4) (k := 9) (T := TX4) (ty := .int) (by decide) (rfl) rfl tyX4 tyX4_ok nmX4 hin (by decide) hlink rfl (by decide +kernel) rfl rfl (Nat.le_of_ble_eq_true rfl) (by simp [cellOf, mput, va_up, upd])
    (fun j2 h1 h2 => cell_other cA ad M (by decide) h1 (by rw [show ownI 9 4 = 4 from by decide]; exact h2)) h hn kk
theorem g_mo_reason {index : Nat} (hin : ∀ w ∈ u_ws RX4 TX4 15, w ∈ ws) (hlink : Cond.fieldLink own index "BellowsRoundModel" "reason" "I" ∈ ws) (h : decode cc pc = .ok (.getfield index, 3)) (hn : pc + 3 = n) (kk : PW cA ad D own ws cc nL ret d n lv (.int (M.1 9 5) :: st) M Q) : PW cA ad D own ws cc nL ret d pc lv (.ref (ad (4)) :: st) M Q :=
  r_get (ci := 4) (k := 10) (T := TX4) (by decide) (rfl) rfl hin (by decide) hlink rfl h hn kk
theorem p_mo_reason {index : Nat} {x : Int32} (hin : ∀ w ∈ u_ws RX4 TX4 15, w ∈ ws) (hlink : Cond.fieldLink own index "BellowsRoundModel" "reason" "I" ∈ ws) (h : decode cc pc = .ok (.putfield index, 3)) (hn : pc + 3 = n) (kk : PW cA ad D own ws cc nL ret d n lv st (mput M 9 5 x) Q) : PW cA ad D own ws cc nL ret d pc lv (.int x :: .ref (ad (4)) :: st) M Q :=
  r_put (ci := 4) (k := 10) (T := TX4) (ty := .int) (by decide) (rfl) rfl tyX4 tyX4_ok nmX4 hin (by decide) hlink rfl (by decide +kernel) rfl rfl (Nat.le_of_ble_eq_true rfl) (by simp [cellOf, mput, va_up, upd])
    (fun j2 h1 h2 => cell_other cA ad M (by decide) h1 (by rw [show ownI 9 5 = 4 from by decide]; exact h2)) h hn kk
theorem g_mo_cause {index : Nat} (hin : ∀ w ∈ u_ws RX4 TX4 15, w ∈ ws) (hlink : Cond.fieldLink own index "BellowsRoundModel" "cause" "I" ∈ ws) (h : decode cc pc = .ok (.getfield index, 3)) (hn : pc + 3 = n) (kk : PW cA ad D own ws cc nL ret d n lv (.int (M.1 9 6) :: st) M Q) : PW cA ad D own ws cc nL ret d pc lv (.ref (ad (4)) :: st) M Q :=
  r_get (ci := 4) (k := 11) (T := TX4) (by decide) (rfl) rfl hin (by decide) hlink rfl h hn kk
theorem p_mo_cause {index : Nat} {x : Int32} (hin : ∀ w ∈ u_ws RX4 TX4 15, w ∈ ws) (hlink : Cond.fieldLink own index "BellowsRoundModel" "cause" "I" ∈ ws) (h : decode cc pc = .ok (.putfield index, 3)) (hn : pc + 3 = n) (kk : PW cA ad D own ws cc nL ret d n lv st (mput M 9 6 x) Q) : PW cA ad D own ws cc nL ret d pc lv (.int x :: .ref (ad (4)) :: st) M Q :=
  r_put (ci := 4) (k := 11) (T := TX4) (ty := .int) (by decide) (rfl) rfl tyX4 tyX4_ok nmX4 hin (by decide) hlink rfl (by decide +kernel) rfl rfl (Nat.le_of_ble_eq_true rfl) (by simp [cellOf, mput, va_up, upd])
    (fun j2 h1 h2 => cell_other cA ad M (by decide) h1 (by rw [show ownI 9 6 = 4 from by decide]; exact h2)) h hn kk
theorem g_mo_orders {index : Nat} (hin : ∀ w ∈ u_ws RX4 TX4 15, w ∈ ws) (hlink : Cond.fieldLink own index "BellowsRoundModel" "orders" "I" ∈ ws) (h : decode cc pc = .ok (.getfield index, 3)) (hn : pc + 3 = n) (kk : PW cA ad D own ws cc nL ret d n lv (.int (M.1 9 7) :: st) M Q) : PW cA ad D own ws cc nL ret d pc lv (.ref (ad (4)) :: st) M Q :=
  r_get (ci := 4) (k := 12) (T := TX4) (by decide) (rfl) rfl hin (by decide) hlink rfl h hn kk
theorem p_mo_orders {index : Nat} {x : Int32} (hin : ∀ w ∈ u_ws RX4 TX4 15, w ∈ ws) (hlink : Cond.fieldLink own index "BellowsRoundModel" "orders" "I" ∈ ws) (h : decode cc pc = .ok (.putfield index, 3)) (hn : pc + 3 = n) (kk : PW cA ad D own ws cc nL ret d n lv st (mput M 9 7 x) Q) : PW cA ad D own ws cc nL ret d pc lv (.int x :: .ref (ad (4)) :: st) M Q :=
  r_put (ci := 4) (k := 12) (T := TX4) (ty := .int) (by decide) (rfl) rfl tyX4 tyX4_ok nmX4 hin (by decide) hlink rfl (by decide +kernel) rfl rfl (Nat.le_of_ble_eq_true rfl) (by simp [cellOf, mput, va_up, upd])
    (fun j2 h1 h2 => cell_other cA ad M (by decide) h1 (by rw [show ownI 9 7 = 4 from by decide]; exact h2)) h hn kk
theorem g_mo_order {index : Nat} (hin : ∀ w ∈ u_ws RX4 TX4 15, w ∈ ws) (hlink : Cond.fieldLink own index "BellowsRoundModel" "order" "I" ∈ ws) (h : decode cc pc = .ok (.getfield index, 3)) (hn : pc + 3 = n) (kk : PW cA ad D own ws cc nL ret d n lv (.int (M.1 9 8) :: st) M Q) : PW cA ad D own ws cc nL ret d pc lv (.ref (ad (4)) :: st) M Q :=
  r_get (ci := 4) (k := 13) (T := TX4) (by decide) (rfl) rfl hin (by decide) hlink rfl h hn kk
theorem p_mo_order {index : Nat} {x : Int32} (hin : ∀ w ∈ u_ws RX4 TX4 15, w ∈ ws) (hlink : Cond.fieldLink own index "BellowsRoundModel" "order" "I" ∈ ws) (h : decode cc pc = .ok (.putfield index, 3)) (hn : pc + 3 = n) (kk : PW cA ad D own ws cc nL ret d n lv st (mput M 9 8 x) Q) : PW cA ad D own ws cc nL ret d pc lv (.int x :: .ref (ad (4)) :: st) M Q :=
  r_put (ci := 4) (k := 13) (T := TX4) (ty := .int) (by decide) (rfl) rfl tyX4 tyX4_ok nmX4 hin (by decide) hlink rfl (by decide +kernel) rfl rfl (Nat.le_of_ble_eq_true rfl) (by simp [cellOf, mput, va_up, upd])
    (fun j2 h1 h2 => cell_other cA ad M (by decide) h1 (by rw [show ownI 9 8 = 4 from by decide]; exact h2)) h hn kk
theorem g_mo_number {index : Nat} (hin : ∀ w ∈ u_ws RX4 TX4 15, w ∈ ws) (hlink : Cond.fieldLink own index "BellowsRoundModel" "number" "I" ∈ ws) (h : decode cc pc = .ok (.getfield index, 3)) (hn : pc + 3 = n) (kk : PW cA ad D own ws cc nL ret d n lv (.int (M.1 9 9) :: st) M Q) : PW cA ad D own ws cc nL ret d pc lv (.ref (ad (4)) :: st) M Q :=
  r_get (ci := 4) (k := 14) (T := TX4) (by decide) (rfl) rfl hin (by decide) hlink rfl h hn kk
theorem p_mo_number {index : Nat} {x : Int32} (hin : ∀ w ∈ u_ws RX4 TX4 15, w ∈ ws) (hlink : Cond.fieldLink own index "BellowsRoundModel" "number" "I" ∈ ws) (h : decode cc pc = .ok (.putfield index, 3)) (hn : pc + 3 = n) (kk : PW cA ad D own ws cc nL ret d n lv st (mput M 9 9 x) Q) : PW cA ad D own ws cc nL ret d pc lv (.int x :: .ref (ad (4)) :: st) M Q :=
  r_put (ci := 4) (k := 14) (T := TX4) (ty := .int) (by decide) (rfl) rfl tyX4 tyX4_ok nmX4 hin (by decide) hlink rfl (by decide +kernel) rfl rfl (Nat.le_of_ble_eq_true rfl) (by simp [cellOf, mput, va_up, upd])
    (fun j2 h1 h2 => cell_other cA ad M (by decide) h1 (by rw [show ownI 9 9 = 4 from by decide]; exact h2)) h hn kk
theorem cell_ref {q : Nat} (k : Nat) (hk : k < 6) {j : Nat} (hj : j < 70) (h0 : j ≠ 0) (h3 : j = 3 → k < 2) : cellOf cA ad (M.1, va_up M.2 k q) j = cellOf cA ad M j := by
  unfold cellOf
  by_cases e3 : j = 3
  · have h9 : ∀ i, va_up M.2 k q (2 + i) = M.2 (2 + i) := fun i => by simp [va_up]; omega
    simp only [h9]
    simp [h0]
  · simp [h0, e3]
theorem p_br_now {index q : Nat} (hq : q < 6) (hin : ∀ w ∈ u_ws RX3 TX3 9, w ∈ ws) (hlink : Cond.fieldLink own index "BellowsRound" "now" "LBellowsRound$State;" ∈ ws) (h : decode cc pc = .ok (.putfield index, 3)) (hn : pc + 3 = n) (kk : PW cA ad D own ws cc nL ret d n lv st (M.1, va_up M.2 0 q) Q) : PW cA ad D own ws cc nL ret d pc lv (.ref (ad (10 + 10 * q)) :: .ref (ad 0) :: st) M Q :=
  r_put (ci := 3) (k := 0) (T := TX3) (ty := .object "BellowsRound$State") (by decide) rfl rfl tyX3 tyX3_ok nmX3 hin (by decide) hlink rfl (by decide +kernel) rfl rfl (Nat.le_of_ble_eq_true rfl) (by simp [cellOf, va_up])
    (fun j2 h1 h2 => cell_ref 0 (by decide) h1 h2 (by intro z; subst z; omega)) h hn kk
theorem p_br_trial {index q : Nat} (hq : q < 6) (hin : ∀ w ∈ u_ws RX3 TX3 9, w ∈ ws) (hlink : Cond.fieldLink own index "BellowsRound" "trial" "LBellowsRound$State;" ∈ ws) (h : decode cc pc = .ok (.putfield index, 3)) (hn : pc + 3 = n) (kk : PW cA ad D own ws cc nL ret d n lv st (M.1, va_up M.2 1 q) Q) : PW cA ad D own ws cc nL ret d pc lv (.ref (ad (10 + 10 * q)) :: .ref (ad 0) :: st) M Q :=
  r_put (ci := 3) (k := 1) (T := TX3) (ty := .object "BellowsRound$State") (by decide) rfl rfl tyX3 tyX3_ok nmX3 hin (by decide) hlink rfl (by decide +kernel) rfl rfl (Nat.le_of_ble_eq_true rfl) (by simp [cellOf, va_up])
    (fun j2 h1 h2 => cell_ref 1 (by decide) h1 h2 (by intro z; subst z; omega)) h hn kk
theorem a_hist {j : Int32} {k : Nat} (hj : j = nI k) (hk : k < 4) (h : decode cc pc = .ok (.aaload, 1)) (hn : pc + 1 = n) (kk : PW cA ad D own ws cc nL ret d n lv (.ref (ad (10 + 10 * M.2 (2 + k))) :: st) M Q) : PW cA ad D own ws cc nL ret d pc lv (.int j :: .ref (ad 3) :: st) M Q := by
  subst hj
  exact r_aald (i := 3) (len := 4) (t := 3) (C := "BellowsRound$State") (by decide) rfl rfl (vp_in_nI hk (by decide)) (by rw [nI_clamp (by omega)]) h hn kk
theorem a_sms {j : Int32} {k q : Nat} (hp : q < 6) (hj : j = nI k) (hk : k < 8) (h : decode cc pc = .ok (.aaload, 1)) (hn : pc + 1 = n) (kk : PW cA ad D own ws cc nL ret d n lv (.ref (ad (12 + 10 * q + k)) :: st) M Q) : PW cA ad D own ws cc nL ret d pc lv (.int j :: .ref (ad (10 + 10 * q + 1)) :: st) M Q := by
  subst hj
  exact r_aald (len := 8) (t := 2) (C := "BellowsRound$Smithy") (by omega) (cell_row cA ad M hp) rfl (vp_in_nI hk (by decide)) (by rw [nI_clamp (by omega)]) h hn kk
theorem a_putHist {j : Int32} {k q : Nat} (hj : j = nI k) (hk : k < 4) (hq : q < 6) (h : decode cc pc = .ok (.aastore, 1)) (hn : pc + 1 = n) (kk : PW cA ad D own ws cc nL ret d n lv st (M.1, va_up M.2 (2 + k) q) Q) : PW cA ad D own ws cc nL ret d pc lv (.ref (ad (10 + 10 * q)) :: .int j :: .ref (ad 3) :: st) M Q := by
  subst hj
  intro p l e s m args below meth c H locs ls E hW hS hl
  subst hn
  refine va_astq E.1 E.2.1 E.2.2.2.2.2.2.2.1.1 hW (wld_D E.2.2.2.2.2.2.2.2 M) hS 3 3 (10 + 10 * q) 2 (r := (RX2, TX2, 15)) (n := 4) (f := fun j => some (ad (10 + 10 * M.2 (2 + j)))) (wld_get cA ad M (by decide)) rfl ((wld_get cA ad M (by omega)).trans (by rw [cell_st cA ad M hq])) rfl (vp_in_nI hk (by decide)) h (fun H1 locs1 hP1 hD1 hS1 => ?_)
  rw [nI_clamp (by omega)] at hP1
  have hw := wld_set (cA := cA) (ad := ad) (M := M) (M' := (M.1, va_up M.2 (2 + k) q)) (i := 3) (e := .inl (cA 3, 4, .inr (.inr (.inr (.inr (va_up (fun j => some (ad (10 + 10 * M.2 (2 + j)))) k (some (ad (10 + 10 * q))))))))) (by decide) (by
      have hf : (fun j => some (ad (10 + 10 * va_up M.2 (2 + k) q (2 + j)))) = va_up (fun j => some (ad (10 + 10 * M.2 (2 + j)))) k (some (ad (10 + 10 * q))) := by
        funext j
        by_cases hj : j = k
        · subst hj; simp [va_up]
        · simp [va_up, hj]
      rw [← hf]
      rfl) (fun j2 h1 h2 => by
      by_cases e0 : j2 = 0
      · subst e0
        have z0 : va_up M.2 (2 + k) q 0 = M.2 0 := va_up_ne _ _ (by omega)
        have z1 : va_up M.2 (2 + k) q 1 = M.2 1 := va_up_ne _ _ (by omega)
        simp only [cellOf, z0, z1, if_true]
      · exact cell_ref (2 + k) (by omega) h1 e0 (fun z => absurd z h2))
  rw [hw] at hP1
  exact kk p l e s m args below meth c H1 locs1 ls E hP1 hS1 hl
theorem a_len {i len q0 : Nat} {f : Nat → Int32} (hi : i < 70) (hc : cellOf cA ad M i = .inl (cA 1, len, .inl f)) (h : decode cc pc = .ok (.arraylength, 1)) (hn : pc + 1 = n) (kk : PW cA ad D own ws cc nL ret d n lv (.int (nI len) :: st) M Q) : PW cA ad D own ws cc nL ret d pc lv (.ref (ad i) :: st) M Q := r_alen (t := 1) hi hc rfl rfl h hn kk
theorem a_lenHist (h : decode cc pc = .ok (.arraylength, 1)) (hn : pc + 1 = n) (kk : PW cA ad D own ws cc nL ret d n lv (.int 4 :: st) M Q) : PW cA ad D own ws cc nL ret d pc lv (.ref (ad 3) :: st) M Q := r_alen (i := 3) (len := 4) (t := 3) (by decide) rfl rfl rfl h hn kk
theorem a_lenChars (h : decode cc pc = .ok (.arraylength, 1)) (hn : pc + 1 = n) (kk : PW cA ad D own ws cc nL ret d n lv (.int 60 :: st) M Q) : PW cA ad D own ws cc nL ret d pc lv (.ref (ad 2) :: st) M Q := r_alen (i := 2) (len := 60) (t := 0) (by decide) rfl rfl rfl h hn kk
theorem a_lenSms {q : Nat} (hp : q < 6) (h : decode cc pc = .ok (.arraylength, 1)) (hn : pc + 1 = n) (kk : PW cA ad D own ws cc nL ret d n lv (.int 8 :: st) M Q) : PW cA ad D own ws cc nL ret d pc lv (.ref (ad (10 + 10 * q + 1)) :: st) M Q := r_alen (len := 8) (t := 2) (by omega) (cell_row cA ad M hp) rfl rfl h hn kk
theorem a_s {j : Int32} {k : Nat} (hj : j = nI k) (hk : k < 78) (h : decode cc pc = .ok (.iaload, 1)) (hn : pc + 1 = n) (kk : PW cA ad D own ws cc nL ret d n lv (.int (M.1 10 k) :: st) M Q) : PW cA ad D own ws cc nL ret d pc lv (.int j :: .ref (ad 5) :: st) M Q := by
  subst hj
  exact r_iald (i := 5) (len := 78) (f := M.1 10) (by decide) rfl (vp_in_nI hk (by decide)) h hn (by rw [nI_clamp (by omega)]; exact kk)
theorem a_put_s {j x : Int32} {k : Nat} (hj : j = nI k) (hk : k < 78) (h : decode cc pc = .ok (.iastore, 1)) (hn : pc + 1 = n) (kk : PW cA ad D own ws cc nL ret d n lv st (mput M 10 k x) Q) : PW cA ad D own ws cc nL ret d pc lv (.int x :: .int j :: .ref (ad 5) :: st) M Q := by
  subst hj
  refine r_iast (i := 5) (len := 78) (p' := 10) (f := M.1 10) (by decide) rfl (vp_in_nI hk (by decide)) (by simp [cellOf, mput, va_up]) (by decide) (by simp [ownI]) h hn ?_
  rw [nI_clamp (by omega)]
  exact kk
theorem a_past {j : Int32} {k : Nat} (hj : j = nI k) (hk : k < 312) (h : decode cc pc = .ok (.iaload, 1)) (hn : pc + 1 = n) (kk : PW cA ad D own ws cc nL ret d n lv (.int (M.1 11 k) :: st) M Q) : PW cA ad D own ws cc nL ret d pc lv (.int j :: .ref (ad 6) :: st) M Q := by
  subst hj
  exact r_iald (i := 6) (len := 312) (f := M.1 11) (by decide) rfl (vp_in_nI hk (by decide)) h hn (by rw [nI_clamp (by omega)]; exact kk)
theorem a_put_past {j x : Int32} {k : Nat} (hj : j = nI k) (hk : k < 312) (h : decode cc pc = .ok (.iastore, 1)) (hn : pc + 1 = n) (kk : PW cA ad D own ws cc nL ret d n lv st (mput M 11 k x) Q) : PW cA ad D own ws cc nL ret d pc lv (.int x :: .int j :: .ref (ad 6) :: st) M Q := by
  subst hj
  refine r_iast (i := 6) (len := 312) (p' := 11) (f := M.1 11) (by decide) rfl (vp_in_nI hk (by decide)) (by simp [cellOf, mput, va_up]) (by decide) (by simp [ownI]) h hn ?_
  rw [nI_clamp (by omega)]
  exact kk
theorem a_held {j : Int32} {k : Nat} (hj : j = nI k) (hk : k < 78) (h : decode cc pc = .ok (.iaload, 1)) (hn : pc + 1 = n) (kk : PW cA ad D own ws cc nL ret d n lv (.int (M.1 12 k) :: st) M Q) : PW cA ad D own ws cc nL ret d pc lv (.int j :: .ref (ad 7) :: st) M Q := by
  subst hj
  exact r_iald (i := 7) (len := 78) (f := M.1 12) (by decide) rfl (vp_in_nI hk (by decide)) h hn (by rw [nI_clamp (by omega)]; exact kk)
theorem a_put_held {j x : Int32} {k : Nat} (hj : j = nI k) (hk : k < 78) (h : decode cc pc = .ok (.iastore, 1)) (hn : pc + 1 = n) (kk : PW cA ad D own ws cc nL ret d n lv st (mput M 12 k x) Q) : PW cA ad D own ws cc nL ret d pc lv (.int x :: .int j :: .ref (ad 7) :: st) M Q := by
  subst hj
  refine r_iast (i := 7) (len := 78) (p' := 12) (f := M.1 12) (by decide) rfl (vp_in_nI hk (by decide)) (by simp [cellOf, mput, va_up]) (by decide) (by simp [ownI]) h hn ?_
  rw [nI_clamp (by omega)]
  exact kk
theorem a_tried {j : Int32} {k : Nat} (hj : j = nI k) (hk : k < 78) (h : decode cc pc = .ok (.iaload, 1)) (hn : pc + 1 = n) (kk : PW cA ad D own ws cc nL ret d n lv (.int (M.1 13 k) :: st) M Q) : PW cA ad D own ws cc nL ret d pc lv (.int j :: .ref (ad 8) :: st) M Q := by
  subst hj
  exact r_iald (i := 8) (len := 78) (f := M.1 13) (by decide) rfl (vp_in_nI hk (by decide)) h hn (by rw [nI_clamp (by omega)]; exact kk)
theorem a_put_tried {j x : Int32} {k : Nat} (hj : j = nI k) (hk : k < 78) (h : decode cc pc = .ok (.iastore, 1)) (hn : pc + 1 = n) (kk : PW cA ad D own ws cc nL ret d n lv st (mput M 13 k x) Q) : PW cA ad D own ws cc nL ret d pc lv (.int x :: .int j :: .ref (ad 8) :: st) M Q := by
  subst hj
  refine r_iast (i := 8) (len := 78) (p' := 13) (f := M.1 13) (by decide) rfl (vp_in_nI hk (by decide)) (by simp [cellOf, mput, va_up]) (by decide) (by simp [ownI]) h hn ?_
  rw [nI_clamp (by omega)]
  exact kk
theorem a_text {j : Int32} {k : Nat} (hj : j = nI k) (hk : k < 60) (h : decode cc pc = .ok (.iaload, 1)) (hn : pc + 1 = n) (kk : PW cA ad D own ws cc nL ret d n lv (.int (M.1 14 k) :: st) M Q) : PW cA ad D own ws cc nL ret d pc lv (.int j :: .ref (ad 9) :: st) M Q := by
  subst hj
  exact r_iald (i := 9) (len := 60) (f := M.1 14) (by decide) rfl (vp_in_nI hk (by decide)) h hn (by rw [nI_clamp (by omega)]; exact kk)
theorem a_put_text {j x : Int32} {k : Nat} (hj : j = nI k) (hk : k < 60) (h : decode cc pc = .ok (.iastore, 1)) (hn : pc + 1 = n) (kk : PW cA ad D own ws cc nL ret d n lv st (mput M 14 k x) Q) : PW cA ad D own ws cc nL ret d pc lv (.int x :: .int j :: .ref (ad 9) :: st) M Q := by
  subst hj
  refine r_iast (i := 9) (len := 60) (p' := 14) (f := M.1 14) (by decide) rfl (vp_in_nI hk (by decide)) (by simp [cellOf, mput, va_up]) (by decide) (by simp [ownI]) h hn ?_
  rw [nI_clamp (by omega)]
  exact kk
theorem a_chars {j : Int32} {k : Nat} (hj : j = nI k) (hk : k < 60) (h : decode cc pc = .ok (.caload, 1)) (hn : pc + 1 = n) (kk : PW cA ad D own ws cc nL ret d n lv (.int (M.1 7 k) :: st) M Q) : PW cA ad D own ws cc nL ret d pc lv (.int j :: .ref (ad 2) :: st) M Q := by
  subst hj
  exact r_cald (vp_in_nI hk (by decide)) h hn (by rw [nI_clamp (by omega)]; exact kk)
theorem a_put_chars {j x : Int32} {k : Nat} (hj : j = nI k) (hk : k < 60) (hx : vp_nar .char x = x) (h : decode cc pc = .ok (.castore, 1)) (hn : pc + 1 = n) (kk : PW cA ad D own ws cc nL ret d n lv st (mput M 7 k x) Q) : PW cA ad D own ws cc nL ret d pc lv (.int x :: .int j :: .ref (ad 2) :: st) M Q := by
  subst hj
  refine r_cast (vp_in_nI hk (by decide)) h hn ?_
  rw [nI_clamp (by omega), hx]
  exact kk
end FIELDS
end
section
section LOCALS
variable {cA : Nat → ClassId} {ad : Nat → Nat} {D : va_G} {own : String} {ws : List Cond} {cc : ByteArray} {nL : Nat} {ret : Option FieldType} {d pc n : Nat} {lv : List (Option Value)} {st rest : List Value} {M : Mem} {Q : QT}
variable {a0 a1 a2 a3 a4 a5 a6 a7 a8 a9 o : Option Value} {t : List (Option Value)}
theorem r_il0 {x : Int32} (h : decode cc pc = .ok (.iload_n 0, 1)) (hn : pc + 1 = n) (kk : PW cA ad D own ws cc nL ret d n (some (.int x) :: t) (.int x :: st) M Q) : PW cA ad D own ws cc nL ret d pc (some (.int x) :: t) st M Q := r_iload_n h rfl rfl hn kk
theorem r_is0 {x : Int32} (hL : 0 < nL) (hc : catok (o :: t) = true) (h : decode cc pc = .ok (.istore_n 0, 1)) (hn : pc + 1 = n) (kk : PW cA ad D own ws cc nL ret d n (some (.int x) :: t) st M Q) : PW cA ad D own ws cc nL ret d pc (o :: t) (.int x :: st) M Q := r_istore_n (i := 0) hL hc h rfl hn kk
theorem r_al0 {x : Nat} (h : decode cc pc = .ok (.aload_n 0, 1)) (hn : pc + 1 = n) (kk : PW cA ad D own ws cc nL ret d n (some (.ref x) :: t) (.ref x :: st) M Q) : PW cA ad D own ws cc nL ret d pc (some (.ref x) :: t) st M Q := r_aload_n h rfl rfl hn kk
theorem r_as0 {x : Nat} (hL : 0 < nL) (hc : catok (o :: t) = true) (h : decode cc pc = .ok (.astore_n 0, 1)) (hn : pc + 1 = n) (kk : PW cA ad D own ws cc nL ret d n (some (.ref x) :: t) st M Q) : PW cA ad D own ws cc nL ret d pc (o :: t) (.ref x :: st) M Q := r_astore_n (i := 0) hL hc h rfl hn kk
theorem r_fl0 {x : UInt32} (h : decode cc pc = .ok (.fload_n 0, 1)) (hn : pc + 1 = n) (kk : PW cA ad D own ws cc nL ret d n (some (.float x) :: t) (.float x :: st) M Q) : PW cA ad D own ws cc nL ret d pc (some (.float x) :: t) st M Q := r_fload_n h rfl rfl hn kk
theorem r_fs0 {x : UInt32} (hL : 0 < nL) (hc : catok (o :: t) = true) (h : decode cc pc = .ok (.fstore_n 0, 1)) (hn : pc + 1 = n) (kk : PW cA ad D own ws cc nL ret d n (some (.float x) :: t) st M Q) : PW cA ad D own ws cc nL ret d pc (o :: t) (.float x :: st) M Q := r_fstore_n (i := 0) hL hc h rfl hn kk
theorem r_al0N (h : decode cc pc = .ok (.aload_n 0, 1)) (hn : pc + 1 = n) (kk : PW cA ad D own ws cc nL ret d n (some .null :: t) (.null :: st) M Q) : PW cA ad D own ws cc nL ret d pc (some .null :: t) st M Q := r_aload_nN h rfl rfl hn kk
theorem r_as0N (hL : 0 < nL) (hc : catok (o :: t) = true) (h : decode cc pc = .ok (.astore_n 0, 1)) (hn : pc + 1 = n) (kk : PW cA ad D own ws cc nL ret d n (some .null :: t) st M Q) : PW cA ad D own ws cc nL ret d pc (o :: t) (.null :: st) M Q := r_astore_nN (i := 0) hL hc h rfl hn kk
theorem r_ii0 {z : Int} {x v : Int32} (hL : 0 < nL) (hc : catok (some (.int x) :: t) = true) (h : decode cc pc = .ok (.iinc 0 z, 3)) (hv : x + Int32.ofInt z = v) (hn : pc + 3 = n) (kk : PW cA ad D own ws cc nL ret d n (some (.int v) :: t) st M Q) : PW cA ad D own ws cc nL ret d pc (some (.int x) :: t) st M Q := r_iinc (i := 0) hL hc h rfl hv hn kk
theorem r_il1 {x : Int32} (h : decode cc pc = .ok (.iload_n 1, 1)) (hn : pc + 1 = n) (kk : PW cA ad D own ws cc nL ret d n (a0 :: some (.int x) :: t) (.int x :: st) M Q) : PW cA ad D own ws cc nL ret d pc (a0 :: some (.int x) :: t) st M Q := r_iload_n h rfl rfl hn kk
theorem r_is1 {x : Int32} (hL : 1 < nL) (hc : catok (a0 :: o :: t) = true) (h : decode cc pc = .ok (.istore_n 1, 1)) (hn : pc + 1 = n) (kk : PW cA ad D own ws cc nL ret d n (a0 :: some (.int x) :: t) st M Q) : PW cA ad D own ws cc nL ret d pc (a0 :: o :: t) (.int x :: st) M Q := r_istore_n (i := 1) hL hc h rfl hn kk
theorem r_al1 {x : Nat} (h : decode cc pc = .ok (.aload_n 1, 1)) (hn : pc + 1 = n) (kk : PW cA ad D own ws cc nL ret d n (a0 :: some (.ref x) :: t) (.ref x :: st) M Q) : PW cA ad D own ws cc nL ret d pc (a0 :: some (.ref x) :: t) st M Q := r_aload_n h rfl rfl hn kk
theorem r_as1 {x : Nat} (hL : 1 < nL) (hc : catok (a0 :: o :: t) = true) (h : decode cc pc = .ok (.astore_n 1, 1)) (hn : pc + 1 = n) (kk : PW cA ad D own ws cc nL ret d n (a0 :: some (.ref x) :: t) st M Q) : PW cA ad D own ws cc nL ret d pc (a0 :: o :: t) (.ref x :: st) M Q := r_astore_n (i := 1) hL hc h rfl hn kk
theorem r_fl1 {x : UInt32} (h : decode cc pc = .ok (.fload_n 1, 1)) (hn : pc + 1 = n) (kk : PW cA ad D own ws cc nL ret d n (a0 :: some (.float x) :: t) (.float x :: st) M Q) : PW cA ad D own ws cc nL ret d pc (a0 :: some (.float x) :: t) st M Q := r_fload_n h rfl rfl hn kk
theorem r_fs1 {x : UInt32} (hL : 1 < nL) (hc : catok (a0 :: o :: t) = true) (h : decode cc pc = .ok (.fstore_n 1, 1)) (hn : pc + 1 = n) (kk : PW cA ad D own ws cc nL ret d n (a0 :: some (.float x) :: t) st M Q) : PW cA ad D own ws cc nL ret d pc (a0 :: o :: t) (.float x :: st) M Q := r_fstore_n (i := 1) hL hc h rfl hn kk
theorem r_al1N (h : decode cc pc = .ok (.aload_n 1, 1)) (hn : pc + 1 = n) (kk : PW cA ad D own ws cc nL ret d n (a0 :: some .null :: t) (.null :: st) M Q) : PW cA ad D own ws cc nL ret d pc (a0 :: some .null :: t) st M Q := r_aload_nN h rfl rfl hn kk
theorem r_as1N (hL : 1 < nL) (hc : catok (a0 :: o :: t) = true) (h : decode cc pc = .ok (.astore_n 1, 1)) (hn : pc + 1 = n) (kk : PW cA ad D own ws cc nL ret d n (a0 :: some .null :: t) st M Q) : PW cA ad D own ws cc nL ret d pc (a0 :: o :: t) (.null :: st) M Q := r_astore_nN (i := 1) hL hc h rfl hn kk
theorem r_ii1 {z : Int} {x v : Int32} (hL : 1 < nL) (hc : catok (a0 :: some (.int x) :: t) = true) (h : decode cc pc = .ok (.iinc 1 z, 3)) (hv : x + Int32.ofInt z = v) (hn : pc + 3 = n) (kk : PW cA ad D own ws cc nL ret d n (a0 :: some (.int v) :: t) st M Q) : PW cA ad D own ws cc nL ret d pc (a0 :: some (.int x) :: t) st M Q := r_iinc (i := 1) hL hc h rfl hv hn kk
theorem r_il2 {x : Int32} (h : decode cc pc = .ok (.iload_n 2, 1)) (hn : pc + 1 = n) (kk : PW cA ad D own ws cc nL ret d n (a0 :: a1 :: some (.int x) :: t) (.int x :: st) M Q) : PW cA ad D own ws cc nL ret d pc (a0 :: a1 :: some (.int x) :: t) st M Q := r_iload_n h rfl rfl hn kk
theorem r_is2 {x : Int32} (hL : 2 < nL) (hc : catok (a0 :: a1 :: o :: t) = true) (h : decode cc pc = .ok (.istore_n 2, 1)) (hn : pc + 1 = n) (kk : PW cA ad D own ws cc nL ret d n (a0 :: a1 :: some (.int x) :: t) st M Q) : PW cA ad D own ws cc nL ret d pc (a0 :: a1 :: o :: t) (.int x :: st) M Q := r_istore_n (i := 2) hL hc h rfl hn kk
theorem r_al2 {x : Nat} (h : decode cc pc = .ok (.aload_n 2, 1)) (hn : pc + 1 = n) (kk : PW cA ad D own ws cc nL ret d n (a0 :: a1 :: some (.ref x) :: t) (.ref x :: st) M Q) : PW cA ad D own ws cc nL ret d pc (a0 :: a1 :: some (.ref x) :: t) st M Q := r_aload_n h rfl rfl hn kk
theorem r_as2 {x : Nat} (hL : 2 < nL) (hc : catok (a0 :: a1 :: o :: t) = true) (h : decode cc pc = .ok (.astore_n 2, 1)) (hn : pc + 1 = n) (kk : PW cA ad D own ws cc nL ret d n (a0 :: a1 :: some (.ref x) :: t) st M Q) : PW cA ad D own ws cc nL ret d pc (a0 :: a1 :: o :: t) (.ref x :: st) M Q := r_astore_n (i := 2) hL hc h rfl hn kk
theorem r_fl2 {x : UInt32} (h : decode cc pc = .ok (.fload_n 2, 1)) (hn : pc + 1 = n) (kk : PW cA ad D own ws cc nL ret d n (a0 :: a1 :: some (.float x) :: t) (.float x :: st) M Q) : PW cA ad D own ws cc nL ret d pc (a0 :: a1 :: some (.float x) :: t) st M Q := r_fload_n h rfl rfl hn kk
theorem r_fs2 {x : UInt32} (hL : 2 < nL) (hc : catok (a0 :: a1 :: o :: t) = true) (h : decode cc pc = .ok (.fstore_n 2, 1)) (hn : pc + 1 = n) (kk : PW cA ad D own ws cc nL ret d n (a0 :: a1 :: some (.float x) :: t) st M Q) : PW cA ad D own ws cc nL ret d pc (a0 :: a1 :: o :: t) (.float x :: st) M Q := r_fstore_n (i := 2) hL hc h rfl hn kk
theorem r_al2N (h : decode cc pc = .ok (.aload_n 2, 1)) (hn : pc + 1 = n) (kk : PW cA ad D own ws cc nL ret d n (a0 :: a1 :: some .null :: t) (.null :: st) M Q) : PW cA ad D own ws cc nL ret d pc (a0 :: a1 :: some .null :: t) st M Q := r_aload_nN h rfl rfl hn kk
theorem r_as2N (hL : 2 < nL) (hc : catok (a0 :: a1 :: o :: t) = true) (h : decode cc pc = .ok (.astore_n 2, 1)) (hn : pc + 1 = n) (kk : PW cA ad D own ws cc nL ret d n (a0 :: a1 :: some .null :: t) st M Q) : PW cA ad D own ws cc nL ret d pc (a0 :: a1 :: o :: t) (.null :: st) M Q := r_astore_nN (i := 2) hL hc h rfl hn kk
theorem r_ii2 {z : Int} {x v : Int32} (hL : 2 < nL) (hc : catok (a0 :: a1 :: some (.int x) :: t) = true) (h : decode cc pc = .ok (.iinc 2 z, 3)) (hv : x + Int32.ofInt z = v) (hn : pc + 3 = n) (kk : PW cA ad D own ws cc nL ret d n (a0 :: a1 :: some (.int v) :: t) st M Q) : PW cA ad D own ws cc nL ret d pc (a0 :: a1 :: some (.int x) :: t) st M Q := r_iinc (i := 2) hL hc h rfl hv hn kk
theorem r_il3 {x : Int32} (h : decode cc pc = .ok (.iload_n 3, 1)) (hn : pc + 1 = n) (kk : PW cA ad D own ws cc nL ret d n (a0 :: a1 :: a2 :: some (.int x) :: t) (.int x :: st) M Q) : PW cA ad D own ws cc nL ret d pc (a0 :: a1 :: a2 :: some (.int x) :: t) st M Q := r_iload_n h rfl rfl hn kk
theorem r_is3 {x : Int32} (hL : 3 < nL) (hc : catok (a0 :: a1 :: a2 :: o :: t) = true) (h : decode cc pc = .ok (.istore_n 3, 1)) (hn : pc + 1 = n) (kk : PW cA ad D own ws cc nL ret d n (a0 :: a1 :: a2 :: some (.int x) :: t) st M Q) : PW cA ad D own ws cc nL ret d pc (a0 :: a1 :: a2 :: o :: t) (.int x :: st) M Q := r_istore_n (i := 3) hL hc h rfl hn kk
theorem r_al3 {x : Nat} (h : decode cc pc = .ok (.aload_n 3, 1)) (hn : pc + 1 = n) (kk : PW cA ad D own ws cc nL ret d n (a0 :: a1 :: a2 :: some (.ref x) :: t) (.ref x :: st) M Q) : PW cA ad D own ws cc nL ret d pc (a0 :: a1 :: a2 :: some (.ref x) :: t) st M Q := r_aload_n h rfl rfl hn kk
theorem r_as3 {x : Nat} (hL : 3 < nL) (hc : catok (a0 :: a1 :: a2 :: o :: t) = true) (h : decode cc pc = .ok (.astore_n 3, 1)) (hn : pc + 1 = n) (kk : PW cA ad D own ws cc nL ret d n (a0 :: a1 :: a2 :: some (.ref x) :: t) st M Q) : PW cA ad D own ws cc nL ret d pc (a0 :: a1 :: a2 :: o :: t) (.ref x :: st) M Q := r_astore_n (i := 3) hL hc h rfl hn kk
theorem r_fl3 {x : UInt32} (h : decode cc pc = .ok (.fload_n 3, 1)) (hn : pc + 1 = n) (kk : PW cA ad D own ws cc nL ret d n (a0 :: a1 :: a2 :: some (.float x) :: t) (.float x :: st) M Q) : PW cA ad D own ws cc nL ret d pc (a0 :: a1 :: a2 :: some (.float x) :: t) st M Q := r_fload_n h rfl rfl hn kk
theorem r_fs3 {x : UInt32} (hL : 3 < nL) (hc : catok (a0 :: a1 :: a2 :: o :: t) = true) (h : decode cc pc = .ok (.fstore_n 3, 1)) (hn : pc + 1 = n) (kk : PW cA ad D own ws cc nL ret d n (a0 :: a1 :: a2 :: some (.float x) :: t) st M Q) : PW cA ad D own ws cc nL ret d pc (a0 :: a1 :: a2 :: o :: t) (.float x :: st) M Q := r_fstore_n (i := 3) hL hc h rfl hn kk
theorem r_al3N (h : decode cc pc = .ok (.aload_n 3, 1)) (hn : pc + 1 = n) (kk : PW cA ad D own ws cc nL ret d n (a0 :: a1 :: a2 :: some .null :: t) (.null :: st) M Q) : PW cA ad D own ws cc nL ret d pc (a0 :: a1 :: a2 :: some .null :: t) st M Q := r_aload_nN h rfl rfl hn kk
theorem r_as3N (hL : 3 < nL) (hc : catok (a0 :: a1 :: a2 :: o :: t) = true) (h : decode cc pc = .ok (.astore_n 3, 1)) (hn : pc + 1 = n) (kk : PW cA ad D own ws cc nL ret d n (a0 :: a1 :: a2 :: some .null :: t) st M Q) : PW cA ad D own ws cc nL ret d pc (a0 :: a1 :: a2 :: o :: t) (.null :: st) M Q := r_astore_nN (i := 3) hL hc h rfl hn kk
theorem r_ii3 {z : Int} {x v : Int32} (hL : 3 < nL) (hc : catok (a0 :: a1 :: a2 :: some (.int x) :: t) = true) (h : decode cc pc = .ok (.iinc 3 z, 3)) (hv : x + Int32.ofInt z = v) (hn : pc + 3 = n) (kk : PW cA ad D own ws cc nL ret d n (a0 :: a1 :: a2 :: some (.int v) :: t) st M Q) : PW cA ad D own ws cc nL ret d pc (a0 :: a1 :: a2 :: some (.int x) :: t) st M Q := r_iinc (i := 3) hL hc h rfl hv hn kk
theorem r_il4 {x : Int32} (h : decode cc pc = .ok (.iload 4, 2)) (hn : pc + 2 = n) (kk : PW cA ad D own ws cc nL ret d n (a0 :: a1 :: a2 :: a3 :: some (.int x) :: t) (.int x :: st) M Q) : PW cA ad D own ws cc nL ret d pc (a0 :: a1 :: a2 :: a3 :: some (.int x) :: t) st M Q := r_iload h rfl hn kk
theorem r_is4 {x : Int32} (hL : 4 < nL) (hc : catok (a0 :: a1 :: a2 :: a3 :: o :: t) = true) (h : decode cc pc = .ok (.istore 4, 2)) (hn : pc + 2 = n) (kk : PW cA ad D own ws cc nL ret d n (a0 :: a1 :: a2 :: a3 :: some (.int x) :: t) st M Q) : PW cA ad D own ws cc nL ret d pc (a0 :: a1 :: a2 :: a3 :: o :: t) (.int x :: st) M Q := r_istore (i := 4) hL hc h hn kk
theorem r_al4 {x : Nat} (h : decode cc pc = .ok (.aload 4, 2)) (hn : pc + 2 = n) (kk : PW cA ad D own ws cc nL ret d n (a0 :: a1 :: a2 :: a3 :: some (.ref x) :: t) (.ref x :: st) M Q) : PW cA ad D own ws cc nL ret d pc (a0 :: a1 :: a2 :: a3 :: some (.ref x) :: t) st M Q := r_aload h rfl hn kk
theorem r_as4 {x : Nat} (hL : 4 < nL) (hc : catok (a0 :: a1 :: a2 :: a3 :: o :: t) = true) (h : decode cc pc = .ok (.astore 4, 2)) (hn : pc + 2 = n) (kk : PW cA ad D own ws cc nL ret d n (a0 :: a1 :: a2 :: a3 :: some (.ref x) :: t) st M Q) : PW cA ad D own ws cc nL ret d pc (a0 :: a1 :: a2 :: a3 :: o :: t) (.ref x :: st) M Q := r_astore (i := 4) hL hc h hn kk
theorem r_ii4 {z : Int} {x v : Int32} (hL : 4 < nL) (hc : catok (a0 :: a1 :: a2 :: a3 :: some (.int x) :: t) = true) (h : decode cc pc = .ok (.iinc 4 z, 3)) (hv : x + Int32.ofInt z = v) (hn : pc + 3 = n) (kk : PW cA ad D own ws cc nL ret d n (a0 :: a1 :: a2 :: a3 :: some (.int v) :: t) st M Q) : PW cA ad D own ws cc nL ret d pc (a0 :: a1 :: a2 :: a3 :: some (.int x) :: t) st M Q := r_iinc (i := 4) hL hc h rfl hv hn kk
theorem r_il5 {x : Int32} (h : decode cc pc = .ok (.iload 5, 2)) (hn : pc + 2 = n) (kk : PW cA ad D own ws cc nL ret d n (a0 :: a1 :: a2 :: a3 :: a4 :: some (.int x) :: t) (.int x :: st) M Q) : PW cA ad D own ws cc nL ret d pc (a0 :: a1 :: a2 :: a3 :: a4 :: some (.int x) :: t) st M Q := r_iload h rfl hn kk
theorem r_is5 {x : Int32} (hL : 5 < nL) (hc : catok (a0 :: a1 :: a2 :: a3 :: a4 :: o :: t) = true) (h : decode cc pc = .ok (.istore 5, 2)) (hn : pc + 2 = n) (kk : PW cA ad D own ws cc nL ret d n (a0 :: a1 :: a2 :: a3 :: a4 :: some (.int x) :: t) st M Q) : PW cA ad D own ws cc nL ret d pc (a0 :: a1 :: a2 :: a3 :: a4 :: o :: t) (.int x :: st) M Q := r_istore (i := 5) hL hc h hn kk
theorem r_al5 {x : Nat} (h : decode cc pc = .ok (.aload 5, 2)) (hn : pc + 2 = n) (kk : PW cA ad D own ws cc nL ret d n (a0 :: a1 :: a2 :: a3 :: a4 :: some (.ref x) :: t) (.ref x :: st) M Q) : PW cA ad D own ws cc nL ret d pc (a0 :: a1 :: a2 :: a3 :: a4 :: some (.ref x) :: t) st M Q := r_aload h rfl hn kk
theorem r_as5 {x : Nat} (hL : 5 < nL) (hc : catok (a0 :: a1 :: a2 :: a3 :: a4 :: o :: t) = true) (h : decode cc pc = .ok (.astore 5, 2)) (hn : pc + 2 = n) (kk : PW cA ad D own ws cc nL ret d n (a0 :: a1 :: a2 :: a3 :: a4 :: some (.ref x) :: t) st M Q) : PW cA ad D own ws cc nL ret d pc (a0 :: a1 :: a2 :: a3 :: a4 :: o :: t) (.ref x :: st) M Q := r_astore (i := 5) hL hc h hn kk
theorem r_ii5 {z : Int} {x v : Int32} (hL : 5 < nL) (hc : catok (a0 :: a1 :: a2 :: a3 :: a4 :: some (.int x) :: t) = true) (h : decode cc pc = .ok (.iinc 5 z, 3)) (hv : x + Int32.ofInt z = v) (hn : pc + 3 = n) (kk : PW cA ad D own ws cc nL ret d n (a0 :: a1 :: a2 :: a3 :: a4 :: some (.int v) :: t) st M Q) : PW cA ad D own ws cc nL ret d pc (a0 :: a1 :: a2 :: a3 :: a4 :: some (.int x) :: t) st M Q := r_iinc (i := 5) hL hc h rfl hv hn kk
theorem r_il6 {x : Int32} (h : decode cc pc = .ok (.iload 6, 2)) (hn : pc + 2 = n) (kk : PW cA ad D own ws cc nL ret d n (a0 :: a1 :: a2 :: a3 :: a4 :: a5 :: some (.int x) :: t) (.int x :: st) M Q) : PW cA ad D own ws cc nL ret d pc (a0 :: a1 :: a2 :: a3 :: a4 :: a5 :: some (.int x) :: t) st M Q := r_iload h rfl hn kk
theorem r_is6 {x : Int32} (hL : 6 < nL) (hc : catok (a0 :: a1 :: a2 :: a3 :: a4 :: a5 :: o :: t) = true) (h : decode cc pc = .ok (.istore 6, 2)) (hn : pc + 2 = n) (kk : PW cA ad D own ws cc nL ret d n (a0 :: a1 :: a2 :: a3 :: a4 :: a5 :: some (.int x) :: t) st M Q) : PW cA ad D own ws cc nL ret d pc (a0 :: a1 :: a2 :: a3 :: a4 :: a5 :: o :: t) (.int x :: st) M Q := r_istore (i := 6) hL hc h hn kk
theorem r_al6 {x : Nat} (h : decode cc pc = .ok (.aload 6, 2)) (hn : pc + 2 = n) (kk : PW cA ad D own ws cc nL ret d n (a0 :: a1 :: a2 :: a3 :: a4 :: a5 :: some (.ref x) :: t) (.ref x :: st) M Q) : PW cA ad D own ws cc nL ret d pc (a0 :: a1 :: a2 :: a3 :: a4 :: a5 :: some (.ref x) :: t) st M Q := r_aload h rfl hn kk
theorem r_as6 {x : Nat} (hL : 6 < nL) (hc : catok (a0 :: a1 :: a2 :: a3 :: a4 :: a5 :: o :: t) = true) (h : decode cc pc = .ok (.astore 6, 2)) (hn : pc + 2 = n) (kk : PW cA ad D own ws cc nL ret d n (a0 :: a1 :: a2 :: a3 :: a4 :: a5 :: some (.ref x) :: t) st M Q) : PW cA ad D own ws cc nL ret d pc (a0 :: a1 :: a2 :: a3 :: a4 :: a5 :: o :: t) (.ref x :: st) M Q := r_astore (i := 6) hL hc h hn kk
theorem r_ii6 {z : Int} {x v : Int32} (hL : 6 < nL) (hc : catok (a0 :: a1 :: a2 :: a3 :: a4 :: a5 :: some (.int x) :: t) = true) (h : decode cc pc = .ok (.iinc 6 z, 3)) (hv : x + Int32.ofInt z = v) (hn : pc + 3 = n) (kk : PW cA ad D own ws cc nL ret d n (a0 :: a1 :: a2 :: a3 :: a4 :: a5 :: some (.int v) :: t) st M Q) : PW cA ad D own ws cc nL ret d pc (a0 :: a1 :: a2 :: a3 :: a4 :: a5 :: some (.int x) :: t) st M Q := r_iinc (i := 6) hL hc h rfl hv hn kk
theorem r_il7 {x : Int32} (h : decode cc pc = .ok (.iload 7, 2)) (hn : pc + 2 = n) (kk : PW cA ad D own ws cc nL ret d n (a0 :: a1 :: a2 :: a3 :: a4 :: a5 :: a6 :: some (.int x) :: t) (.int x :: st) M Q) : PW cA ad D own ws cc nL ret d pc (a0 :: a1 :: a2 :: a3 :: a4 :: a5 :: a6 :: some (.int x) :: t) st M Q := r_iload h rfl hn kk
theorem r_is7 {x : Int32} (hL : 7 < nL) (hc : catok (a0 :: a1 :: a2 :: a3 :: a4 :: a5 :: a6 :: o :: t) = true) (h : decode cc pc = .ok (.istore 7, 2)) (hn : pc + 2 = n) (kk : PW cA ad D own ws cc nL ret d n (a0 :: a1 :: a2 :: a3 :: a4 :: a5 :: a6 :: some (.int x) :: t) st M Q) : PW cA ad D own ws cc nL ret d pc (a0 :: a1 :: a2 :: a3 :: a4 :: a5 :: a6 :: o :: t) (.int x :: st) M Q := r_istore (i := 7) hL hc h hn kk
theorem r_al7 {x : Nat} (h : decode cc pc = .ok (.aload 7, 2)) (hn : pc + 2 = n) (kk : PW cA ad D own ws cc nL ret d n (a0 :: a1 :: a2 :: a3 :: a4 :: a5 :: a6 :: some (.ref x) :: t) (.ref x :: st) M Q) : PW cA ad D own ws cc nL ret d pc (a0 :: a1 :: a2 :: a3 :: a4 :: a5 :: a6 :: some (.ref x) :: t) st M Q := r_aload h rfl hn kk
theorem r_as7 {x : Nat} (hL : 7 < nL) (hc : catok (a0 :: a1 :: a2 :: a3 :: a4 :: a5 :: a6 :: o :: t) = true) (h : decode cc pc = .ok (.astore 7, 2)) (hn : pc + 2 = n) (kk : PW cA ad D own ws cc nL ret d n (a0 :: a1 :: a2 :: a3 :: a4 :: a5 :: a6 :: some (.ref x) :: t) st M Q) : PW cA ad D own ws cc nL ret d pc (a0 :: a1 :: a2 :: a3 :: a4 :: a5 :: a6 :: o :: t) (.ref x :: st) M Q := r_astore (i := 7) hL hc h hn kk
theorem r_ii7 {z : Int} {x v : Int32} (hL : 7 < nL) (hc : catok (a0 :: a1 :: a2 :: a3 :: a4 :: a5 :: a6 :: some (.int x) :: t) = true) (h : decode cc pc = .ok (.iinc 7 z, 3)) (hv : x + Int32.ofInt z = v) (hn : pc + 3 = n) (kk : PW cA ad D own ws cc nL ret d n (a0 :: a1 :: a2 :: a3 :: a4 :: a5 :: a6 :: some (.int v) :: t) st M Q) : PW cA ad D own ws cc nL ret d pc (a0 :: a1 :: a2 :: a3 :: a4 :: a5 :: a6 :: some (.int x) :: t) st M Q := r_iinc (i := 7) hL hc h rfl hv hn kk
theorem r_il8 {x : Int32} (h : decode cc pc = .ok (.iload 8, 2)) (hn : pc + 2 = n) (kk : PW cA ad D own ws cc nL ret d n (a0 :: a1 :: a2 :: a3 :: a4 :: a5 :: a6 :: a7 :: some (.int x) :: t) (.int x :: st) M Q) : PW cA ad D own ws cc nL ret d pc (a0 :: a1 :: a2 :: a3 :: a4 :: a5 :: a6 :: a7 :: some (.int x) :: t) st M Q := r_iload h rfl hn kk
theorem r_is8 {x : Int32} (hL : 8 < nL) (hc : catok (a0 :: a1 :: a2 :: a3 :: a4 :: a5 :: a6 :: a7 :: o :: t) = true) (h : decode cc pc = .ok (.istore 8, 2)) (hn : pc + 2 = n) (kk : PW cA ad D own ws cc nL ret d n (a0 :: a1 :: a2 :: a3 :: a4 :: a5 :: a6 :: a7 :: some (.int x) :: t) st M Q) : PW cA ad D own ws cc nL ret d pc (a0 :: a1 :: a2 :: a3 :: a4 :: a5 :: a6 :: a7 :: o :: t) (.int x :: st) M Q := r_istore (i := 8) hL hc h hn kk
theorem r_al8 {x : Nat} (h : decode cc pc = .ok (.aload 8, 2)) (hn : pc + 2 = n) (kk : PW cA ad D own ws cc nL ret d n (a0 :: a1 :: a2 :: a3 :: a4 :: a5 :: a6 :: a7 :: some (.ref x) :: t) (.ref x :: st) M Q) : PW cA ad D own ws cc nL ret d pc (a0 :: a1 :: a2 :: a3 :: a4 :: a5 :: a6 :: a7 :: some (.ref x) :: t) st M Q := r_aload h rfl hn kk
theorem r_as8 {x : Nat} (hL : 8 < nL) (hc : catok (a0 :: a1 :: a2 :: a3 :: a4 :: a5 :: a6 :: a7 :: o :: t) = true) (h : decode cc pc = .ok (.astore 8, 2)) (hn : pc + 2 = n) (kk : PW cA ad D own ws cc nL ret d n (a0 :: a1 :: a2 :: a3 :: a4 :: a5 :: a6 :: a7 :: some (.ref x) :: t) st M Q) : PW cA ad D own ws cc nL ret d pc (a0 :: a1 :: a2 :: a3 :: a4 :: a5 :: a6 :: a7 :: o :: t) (.ref x :: st) M Q := r_astore (i := 8) hL hc h hn kk
theorem r_ii8 {z : Int} {x v : Int32} (hL : 8 < nL) (hc : catok (a0 :: a1 :: a2 :: a3 :: a4 :: a5 :: a6 :: a7 :: some (.int x) :: t) = true) (h : decode cc pc = .ok (.iinc 8 z, 3)) (hv : x + Int32.ofInt z = v) (hn : pc + 3 = n) (kk : PW cA ad D own ws cc nL ret d n (a0 :: a1 :: a2 :: a3 :: a4 :: a5 :: a6 :: a7 :: some (.int v) :: t) st M Q) : PW cA ad D own ws cc nL ret d pc (a0 :: a1 :: a2 :: a3 :: a4 :: a5 :: a6 :: a7 :: some (.int x) :: t) st M Q := r_iinc (i := 8) hL hc h rfl hv hn kk
theorem r_il9 {x : Int32} (h : decode cc pc = .ok (.iload 9, 2)) (hn : pc + 2 = n) (kk : PW cA ad D own ws cc nL ret d n (a0 :: a1 :: a2 :: a3 :: a4 :: a5 :: a6 :: a7 :: a8 :: some (.int x) :: t) (.int x :: st) M Q) : PW cA ad D own ws cc nL ret d pc (a0 :: a1 :: a2 :: a3 :: a4 :: a5 :: a6 :: a7 :: a8 :: some (.int x) :: t) st M Q := r_iload h rfl hn kk
theorem r_is9 {x : Int32} (hL : 9 < nL) (hc : catok (a0 :: a1 :: a2 :: a3 :: a4 :: a5 :: a6 :: a7 :: a8 :: o :: t) = true) (h : decode cc pc = .ok (.istore 9, 2)) (hn : pc + 2 = n) (kk : PW cA ad D own ws cc nL ret d n (a0 :: a1 :: a2 :: a3 :: a4 :: a5 :: a6 :: a7 :: a8 :: some (.int x) :: t) st M Q) : PW cA ad D own ws cc nL ret d pc (a0 :: a1 :: a2 :: a3 :: a4 :: a5 :: a6 :: a7 :: a8 :: o :: t) (.int x :: st) M Q := r_istore (i := 9) hL hc h hn kk
theorem r_al9 {x : Nat} (h : decode cc pc = .ok (.aload 9, 2)) (hn : pc + 2 = n) (kk : PW cA ad D own ws cc nL ret d n (a0 :: a1 :: a2 :: a3 :: a4 :: a5 :: a6 :: a7 :: a8 :: some (.ref x) :: t) (.ref x :: st) M Q) : PW cA ad D own ws cc nL ret d pc (a0 :: a1 :: a2 :: a3 :: a4 :: a5 :: a6 :: a7 :: a8 :: some (.ref x) :: t) st M Q := r_aload h rfl hn kk
theorem r_as9 {x : Nat} (hL : 9 < nL) (hc : catok (a0 :: a1 :: a2 :: a3 :: a4 :: a5 :: a6 :: a7 :: a8 :: o :: t) = true) (h : decode cc pc = .ok (.astore 9, 2)) (hn : pc + 2 = n) (kk : PW cA ad D own ws cc nL ret d n (a0 :: a1 :: a2 :: a3 :: a4 :: a5 :: a6 :: a7 :: a8 :: some (.ref x) :: t) st M Q) : PW cA ad D own ws cc nL ret d pc (a0 :: a1 :: a2 :: a3 :: a4 :: a5 :: a6 :: a7 :: a8 :: o :: t) (.ref x :: st) M Q := r_astore (i := 9) hL hc h hn kk
theorem r_ii9 {z : Int} {x v : Int32} (hL : 9 < nL) (hc : catok (a0 :: a1 :: a2 :: a3 :: a4 :: a5 :: a6 :: a7 :: a8 :: some (.int x) :: t) = true) (h : decode cc pc = .ok (.iinc 9 z, 3)) (hv : x + Int32.ofInt z = v) (hn : pc + 3 = n) (kk : PW cA ad D own ws cc nL ret d n (a0 :: a1 :: a2 :: a3 :: a4 :: a5 :: a6 :: a7 :: a8 :: some (.int v) :: t) st M Q) : PW cA ad D own ws cc nL ret d pc (a0 :: a1 :: a2 :: a3 :: a4 :: a5 :: a6 :: a7 :: a8 :: some (.int x) :: t) st M Q := r_iinc (i := 9) hL hc h rfl hv hn kk
theorem r_il10 {x : Int32} (h : decode cc pc = .ok (.iload 10, 2)) (hn : pc + 2 = n) (kk : PW cA ad D own ws cc nL ret d n (a0 :: a1 :: a2 :: a3 :: a4 :: a5 :: a6 :: a7 :: a8 :: a9 :: some (.int x) :: t) (.int x :: st) M Q) : PW cA ad D own ws cc nL ret d pc (a0 :: a1 :: a2 :: a3 :: a4 :: a5 :: a6 :: a7 :: a8 :: a9 :: some (.int x) :: t) st M Q := r_iload h rfl hn kk
theorem r_is10 {x : Int32} (hL : 10 < nL) (hc : catok (a0 :: a1 :: a2 :: a3 :: a4 :: a5 :: a6 :: a7 :: a8 :: a9 :: o :: t) = true) (h : decode cc pc = .ok (.istore 10, 2)) (hn : pc + 2 = n) (kk : PW cA ad D own ws cc nL ret d n (a0 :: a1 :: a2 :: a3 :: a4 :: a5 :: a6 :: a7 :: a8 :: a9 :: some (.int x) :: t) st M Q) : PW cA ad D own ws cc nL ret d pc (a0 :: a1 :: a2 :: a3 :: a4 :: a5 :: a6 :: a7 :: a8 :: a9 :: o :: t) (.int x :: st) M Q := r_istore (i := 10) hL hc h hn kk
theorem r_al10 {x : Nat} (h : decode cc pc = .ok (.aload 10, 2)) (hn : pc + 2 = n) (kk : PW cA ad D own ws cc nL ret d n (a0 :: a1 :: a2 :: a3 :: a4 :: a5 :: a6 :: a7 :: a8 :: a9 :: some (.ref x) :: t) (.ref x :: st) M Q) : PW cA ad D own ws cc nL ret d pc (a0 :: a1 :: a2 :: a3 :: a4 :: a5 :: a6 :: a7 :: a8 :: a9 :: some (.ref x) :: t) st M Q := r_aload h rfl hn kk
theorem r_as10 {x : Nat} (hL : 10 < nL) (hc : catok (a0 :: a1 :: a2 :: a3 :: a4 :: a5 :: a6 :: a7 :: a8 :: a9 :: o :: t) = true) (h : decode cc pc = .ok (.astore 10, 2)) (hn : pc + 2 = n) (kk : PW cA ad D own ws cc nL ret d n (a0 :: a1 :: a2 :: a3 :: a4 :: a5 :: a6 :: a7 :: a8 :: a9 :: some (.ref x) :: t) st M Q) : PW cA ad D own ws cc nL ret d pc (a0 :: a1 :: a2 :: a3 :: a4 :: a5 :: a6 :: a7 :: a8 :: a9 :: o :: t) (.ref x :: st) M Q := r_astore (i := 10) hL hc h hn kk
theorem r_ii10 {z : Int} {x v : Int32} (hL : 10 < nL) (hc : catok (a0 :: a1 :: a2 :: a3 :: a4 :: a5 :: a6 :: a7 :: a8 :: a9 :: some (.int x) :: t) = true) (h : decode cc pc = .ok (.iinc 10 z, 3)) (hv : x + Int32.ofInt z = v) (hn : pc + 3 = n) (kk : PW cA ad D own ws cc nL ret d n (a0 :: a1 :: a2 :: a3 :: a4 :: a5 :: a6 :: a7 :: a8 :: a9 :: some (.int v) :: t) st M Q) : PW cA ad D own ws cc nL ret d pc (a0 :: a1 :: a2 :: a3 :: a4 :: a5 :: a6 :: a7 :: a8 :: a9 :: some (.int x) :: t) st M Q := r_iinc (i := 10) hL hc h rfl hv hn kk
theorem r_dr0 (kk : PW cA ad D own ws cc nL ret d pc (none :: t) st M Q) : PW cA ad D own ws cc nL ret d pc (o :: t) st M Q := pw_drop (i := 0) (by rfl) kk
theorem r_dr1 (kk : PW cA ad D own ws cc nL ret d pc (a0 :: none :: t) st M Q) : PW cA ad D own ws cc nL ret d pc (a0 :: o :: t) st M Q := pw_drop (i := 1) (by rfl) kk
theorem r_dr2 (kk : PW cA ad D own ws cc nL ret d pc (a0 :: a1 :: none :: t) st M Q) : PW cA ad D own ws cc nL ret d pc (a0 :: a1 :: o :: t) st M Q := pw_drop (i := 2) (by rfl) kk
theorem r_dr3 (kk : PW cA ad D own ws cc nL ret d pc (a0 :: a1 :: a2 :: none :: t) st M Q) : PW cA ad D own ws cc nL ret d pc (a0 :: a1 :: a2 :: o :: t) st M Q := pw_drop (i := 3) (by rfl) kk
theorem r_dr4 (kk : PW cA ad D own ws cc nL ret d pc (a0 :: a1 :: a2 :: a3 :: none :: t) st M Q) : PW cA ad D own ws cc nL ret d pc (a0 :: a1 :: a2 :: a3 :: o :: t) st M Q := pw_drop (i := 4) (by rfl) kk
theorem r_dr5 (kk : PW cA ad D own ws cc nL ret d pc (a0 :: a1 :: a2 :: a3 :: a4 :: none :: t) st M Q) : PW cA ad D own ws cc nL ret d pc (a0 :: a1 :: a2 :: a3 :: a4 :: o :: t) st M Q := pw_drop (i := 5) (by rfl) kk
theorem r_dr6 (kk : PW cA ad D own ws cc nL ret d pc (a0 :: a1 :: a2 :: a3 :: a4 :: a5 :: none :: t) st M Q) : PW cA ad D own ws cc nL ret d pc (a0 :: a1 :: a2 :: a3 :: a4 :: a5 :: o :: t) st M Q := pw_drop (i := 6) (by rfl) kk
theorem r_dr7 (kk : PW cA ad D own ws cc nL ret d pc (a0 :: a1 :: a2 :: a3 :: a4 :: a5 :: a6 :: none :: t) st M Q) : PW cA ad D own ws cc nL ret d pc (a0 :: a1 :: a2 :: a3 :: a4 :: a5 :: a6 :: o :: t) st M Q := pw_drop (i := 7) (by rfl) kk
theorem r_dr8 (kk : PW cA ad D own ws cc nL ret d pc (a0 :: a1 :: a2 :: a3 :: a4 :: a5 :: a6 :: a7 :: none :: t) st M Q) : PW cA ad D own ws cc nL ret d pc (a0 :: a1 :: a2 :: a3 :: a4 :: a5 :: a6 :: a7 :: o :: t) st M Q := pw_drop (i := 8) (by rfl) kk
theorem r_dr9 (kk : PW cA ad D own ws cc nL ret d pc (a0 :: a1 :: a2 :: a3 :: a4 :: a5 :: a6 :: a7 :: a8 :: none :: t) st M Q) : PW cA ad D own ws cc nL ret d pc (a0 :: a1 :: a2 :: a3 :: a4 :: a5 :: a6 :: a7 :: a8 :: o :: t) st M Q := pw_drop (i := 9) (by rfl) kk
theorem r_dr10 (kk : PW cA ad D own ws cc nL ret d pc (a0 :: a1 :: a2 :: a3 :: a4 :: a5 :: a6 :: a7 :: a8 :: a9 :: none :: t) st M Q) : PW cA ad D own ws cc nL ret d pc (a0 :: a1 :: a2 :: a3 :: a4 :: a5 :: a6 :: a7 :: a8 :: a9 :: o :: t) st M Q := pw_drop (i := 10) (by rfl) kk
end LOCALS
/-! ===== what a method answers, and the memory then ===== -/
def Ri (x : Int32) (N : Mem) : QT := fun r M => r = some (.int x) ∧ M = N
def Rv (N : Mem) : QT := fun r M => r = none ∧ M = N
def Ra (a : Nat) (N : Mem) : QT := fun r M => r = some (.ref a) ∧ M = N
def Rn (N : Mem) : QT := fun r M => r = some .null ∧ M = N
section RES
variable {cA : Nat → ClassId} {ad : Nat → Nat} {D : va_G} {own : String} {ws : List Cond} {cc : ByteArray} {nL : Nat} {ret : Option FieldType} {d pc n : Nat} {lv : List (Option Value)} {st rest : List Value} {M : Mem} {Q : QT}
theorem e_i {v x : Int32} {N : Mem} (h : decode cc pc = .ok (.ireturn, 1)) (hr : ret = some .int) (h1 : v = x) (h2 : M = N) : PW cA ad D own ws cc nL ret d pc lv [.int v] M (Ri x N) := r_iret h hr ⟨by rw [h1], h2⟩
theorem e_z {v x : Int32} {N : Mem} (h : decode cc pc = .ok (.ireturn, 1)) (hr : ret = some .boolean) (hv : v = 0 ∨ v = 1) (h1 : v = x) (h2 : M = N) : PW cA ad D own ws cc nL ret d pc lv [.int v] M (Ri x N) := r_zret h hr hv ⟨by rw [h1], h2⟩
theorem e_v {N : Mem} (h : decode cc pc = .ok (.return_, 1)) (hr : ret = none) (h2 : M = N) : PW cA ad D own ws cc nL ret d pc lv [] M (Rv N) := r_vret h hr ⟨rfl, h2⟩
theorem e_a {a b : Nat} {N : Mem} {C : String} (h : decode cc pc = .ok (.areturn, 1)) (hr : ret = some (.object C)) (h1 : a = b) (h2 : M = N) : PW cA ad D own ws cc nL ret d pc lv [.ref a] M (Ra b N) := r_aret h hr (Or.inr ⟨_, rfl⟩) ⟨by rw [h1], h2⟩
theorem e_n {N : Mem} {C : String} (h : decode cc pc = .ok (.areturn, 1)) (hr : ret = some (.object C)) (h2 : M = N) : PW cA ad D own ws cc nL ret d pc lv [.null] M (Rn N) := r_aret h hr (Or.inl rfl) ⟨rfl, h2⟩
theorem cV_i {index np d' ci N maxL i : Nat} {y : MethodName} {ws' wst : List Cond} {bytes : ByteArray} {rty : Option FieldType} {C : String} {T : u_T} {fs : List Value} {As : List Value} {M' : Mem} {x : Int32} (hM : PM cA ad D y ws' d' (.ref (ad i) :: As) M (Ri x M')) (hg : GoodIn ws (wsV own index C y ws')) (hw : ws' = Cond.code y bytes maxL rty :: wst) (hd : y.cls = C ∧ y.cls ≠ "java/lang/invoke/MethodHandle" ∧ y.cls ≠ "java/lang/invoke/VarHandle" ∧ (parseMethodDescriptor y.desc).map (fun d => d.parameters.length) = some np) (hnp : As.length = np) (hdep : d' + 1 ≤ d) (hmax : maxL ≤ 13) (hi : i < 70) (hc : cellOf cA ad M i = .inr (ci, fs)) (hcl : vwCl[ci]? = some (C, T, N)) (h : decode cc pc = .ok (.invokevirtual index, 3)) (hn : pc + 3 = n) (hst : st = As.reverse ++ .ref (ad i) :: rest) (hcat : (rest.map fun v => v.category).sum ≤ 8) (kk : PW cA ad D own ws cc nL ret d n lv (.int x :: rest) M' Q) : PW cA ad D own ws cc nL ret d pc lv st M Q :=
  r_callV hM hg hw hd hnp hdep hmax hi hc hcl h hn hst hcat (fun r M2 hq => by obtain ⟨rfl, rfl⟩ := hq; exact kk)
theorem cV_v {index np d' ci N maxL i : Nat} {y : MethodName} {ws' wst : List Cond} {bytes : ByteArray} {rty : Option FieldType} {C : String} {T : u_T} {fs : List Value} {As : List Value} {M' : Mem} (hM : PM cA ad D y ws' d' (.ref (ad i) :: As) M (Rv M')) (hg : GoodIn ws (wsV own index C y ws')) (hw : ws' = Cond.code y bytes maxL rty :: wst) (hd : y.cls = C ∧ y.cls ≠ "java/lang/invoke/MethodHandle" ∧ y.cls ≠ "java/lang/invoke/VarHandle" ∧ (parseMethodDescriptor y.desc).map (fun d => d.parameters.length) = some np) (hnp : As.length = np) (hdep : d' + 1 ≤ d) (hmax : maxL ≤ 13) (hi : i < 70) (hc : cellOf cA ad M i = .inr (ci, fs)) (hcl : vwCl[ci]? = some (C, T, N)) (h : decode cc pc = .ok (.invokevirtual index, 3)) (hn : pc + 3 = n) (hst : st = As.reverse ++ .ref (ad i) :: rest) (hcat : (rest.map fun v => v.category).sum ≤ 8) (kk : PW cA ad D own ws cc nL ret d n lv (rest) M' Q) : PW cA ad D own ws cc nL ret d pc lv st M Q :=
  r_callV hM hg hw hd hnp hdep hmax hi hc hcl h hn hst hcat (fun r M2 hq => by obtain ⟨rfl, rfl⟩ := hq; exact kk)
theorem cV_a {index np d' ci N maxL i : Nat} {y : MethodName} {ws' wst : List Cond} {bytes : ByteArray} {rty : Option FieldType} {C : String} {T : u_T} {fs : List Value} {As : List Value} {M' : Mem} {x : Nat} (hM : PM cA ad D y ws' d' (.ref (ad i) :: As) M (Ra x M')) (hg : GoodIn ws (wsV own index C y ws')) (hw : ws' = Cond.code y bytes maxL rty :: wst) (hd : y.cls = C ∧ y.cls ≠ "java/lang/invoke/MethodHandle" ∧ y.cls ≠ "java/lang/invoke/VarHandle" ∧ (parseMethodDescriptor y.desc).map (fun d => d.parameters.length) = some np) (hnp : As.length = np) (hdep : d' + 1 ≤ d) (hmax : maxL ≤ 13) (hi : i < 70) (hc : cellOf cA ad M i = .inr (ci, fs)) (hcl : vwCl[ci]? = some (C, T, N)) (h : decode cc pc = .ok (.invokevirtual index, 3)) (hn : pc + 3 = n) (hst : st = As.reverse ++ .ref (ad i) :: rest) (hcat : (rest.map fun v => v.category).sum ≤ 8) (kk : PW cA ad D own ws cc nL ret d n lv (.ref x :: rest) M' Q) : PW cA ad D own ws cc nL ret d pc lv st M Q :=
  r_callV hM hg hw hd hnp hdep hmax hi hc hcl h hn hst hcat (fun r M2 hq => by obtain ⟨rfl, rfl⟩ := hq; exact kk)
theorem cV_n {index np d' ci N maxL i : Nat} {y : MethodName} {ws' wst : List Cond} {bytes : ByteArray} {rty : Option FieldType} {C : String} {T : u_T} {fs : List Value} {As : List Value} {M' : Mem} (hM : PM cA ad D y ws' d' (.ref (ad i) :: As) M (Rn M')) (hg : GoodIn ws (wsV own index C y ws')) (hw : ws' = Cond.code y bytes maxL rty :: wst) (hd : y.cls = C ∧ y.cls ≠ "java/lang/invoke/MethodHandle" ∧ y.cls ≠ "java/lang/invoke/VarHandle" ∧ (parseMethodDescriptor y.desc).map (fun d => d.parameters.length) = some np) (hnp : As.length = np) (hdep : d' + 1 ≤ d) (hmax : maxL ≤ 13) (hi : i < 70) (hc : cellOf cA ad M i = .inr (ci, fs)) (hcl : vwCl[ci]? = some (C, T, N)) (h : decode cc pc = .ok (.invokevirtual index, 3)) (hn : pc + 3 = n) (hst : st = As.reverse ++ .ref (ad i) :: rest) (hcat : (rest.map fun v => v.category).sum ≤ 8) (kk : PW cA ad D own ws cc nL ret d n lv (.null :: rest) M' Q) : PW cA ad D own ws cc nL ret d pc lv st M Q :=
  r_callV hM hg hw hd hnp hdep hmax hi hc hcl h hn hst hcat (fun r M2 hq => by obtain ⟨rfl, rfl⟩ := hq; exact kk)
theorem cS_i {index np d' ci N maxL i : Nat} {y : MethodName} {ws' wst : List Cond} {bytes : ByteArray} {rty : Option FieldType} {C : String} {T : u_T} {fs : List Value} {As : List Value} {M' : Mem} {x : Int32} (hM : PM cA ad D y ws' d' As M (Ri x M')) (hg : GoodIn ws (va_wsS own index y ws')) (hw : ws' = Cond.code y bytes maxL rty :: wst) (hd : y.cls ≠ "java/lang/invoke/MethodHandle" ∧ y.cls ≠ "java/lang/invoke/VarHandle" ∧ (parseMethodDescriptor y.desc).map (fun d => d.parameters.length) = some np) (hnp : As.length = np) (hdep : d' + 1 ≤ d) (hmax : maxL ≤ 13) (h : decode cc pc = .ok (.invokestatic index, 3)) (hn : pc + 3 = n) (hst : st = As.reverse ++ rest) (hcat : (rest.map fun v => v.category).sum ≤ 8) (kk : PW cA ad D own ws cc nL ret d n lv (.int x :: rest) M' Q) : PW cA ad D own ws cc nL ret d pc lv st M Q :=
  r_callS hM hg hw hd hnp hdep hmax h hn hst hcat (fun r M2 hq => by obtain ⟨rfl, rfl⟩ := hq; exact kk)
theorem cN_i {index np d' ci N maxL i : Nat} {y : MethodName} {ws' wst : List Cond} {bytes : ByteArray} {rty : Option FieldType} {C : String} {T : u_T} {fs : List Value} {As : List Value} {M' : Mem} {x : Int32} {host : String} (hM : PM cA ad D y ws' d' As M (Ri x M')) (hg : GoodIn ws ws') (hw : ws' = Cond.code y bytes maxL rty :: wst) (hnn : ∀ U, NST U → va_Nw (.methodLinkNest own index y host) U) (h1 : Cond.initialized y.cls ∈ ws) (h2 : Cond.static y ∈ ws) (hd : y.cls ≠ "java/lang/invoke/MethodHandle" ∧ y.cls ≠ "java/lang/invoke/VarHandle" ∧ (parseMethodDescriptor y.desc).map (fun d => d.parameters.length) = some np) (hnp : As.length = np) (hdep : d' + 1 ≤ d) (hmax : maxL ≤ 13) (h : decode cc pc = .ok (.invokestatic index, 3)) (hn : pc + 3 = n) (hst : st = As.reverse ++ rest) (hcat : (rest.map fun v => v.category).sum ≤ 8) (kk : PW cA ad D own ws cc nL ret d n lv (.int x :: rest) M' Q) : PW cA ad D own ws cc nL ret d pc lv st M Q :=
  r_callSN hM hg hw hnn h1 h2 hd hnp hdep hmax h hn hst hcat (fun r M2 hq => by obtain ⟨rfl, rfl⟩ := hq; exact kk)
theorem cS_v {index np d' ci N maxL i : Nat} {y : MethodName} {ws' wst : List Cond} {bytes : ByteArray} {rty : Option FieldType} {C : String} {T : u_T} {fs : List Value} {As : List Value} {M' : Mem} (hM : PM cA ad D y ws' d' As M (Rv M')) (hg : GoodIn ws (va_wsS own index y ws')) (hw : ws' = Cond.code y bytes maxL rty :: wst) (hd : y.cls ≠ "java/lang/invoke/MethodHandle" ∧ y.cls ≠ "java/lang/invoke/VarHandle" ∧ (parseMethodDescriptor y.desc).map (fun d => d.parameters.length) = some np) (hnp : As.length = np) (hdep : d' + 1 ≤ d) (hmax : maxL ≤ 13) (h : decode cc pc = .ok (.invokestatic index, 3)) (hn : pc + 3 = n) (hst : st = As.reverse ++ rest) (hcat : (rest.map fun v => v.category).sum ≤ 8) (kk : PW cA ad D own ws cc nL ret d n lv (rest) M' Q) : PW cA ad D own ws cc nL ret d pc lv st M Q :=
  r_callS hM hg hw hd hnp hdep hmax h hn hst hcat (fun r M2 hq => by obtain ⟨rfl, rfl⟩ := hq; exact kk)
theorem cN_v {index np d' ci N maxL i : Nat} {y : MethodName} {ws' wst : List Cond} {bytes : ByteArray} {rty : Option FieldType} {C : String} {T : u_T} {fs : List Value} {As : List Value} {M' : Mem} {host : String} (hM : PM cA ad D y ws' d' As M (Rv M')) (hg : GoodIn ws ws') (hw : ws' = Cond.code y bytes maxL rty :: wst) (hnn : ∀ U, NST U → va_Nw (.methodLinkNest own index y host) U) (h1 : Cond.initialized y.cls ∈ ws) (h2 : Cond.static y ∈ ws) (hd : y.cls ≠ "java/lang/invoke/MethodHandle" ∧ y.cls ≠ "java/lang/invoke/VarHandle" ∧ (parseMethodDescriptor y.desc).map (fun d => d.parameters.length) = some np) (hnp : As.length = np) (hdep : d' + 1 ≤ d) (hmax : maxL ≤ 13) (h : decode cc pc = .ok (.invokestatic index, 3)) (hn : pc + 3 = n) (hst : st = As.reverse ++ rest) (hcat : (rest.map fun v => v.category).sum ≤ 8) (kk : PW cA ad D own ws cc nL ret d n lv (rest) M' Q) : PW cA ad D own ws cc nL ret d pc lv st M Q :=
  r_callSN hM hg hw hnn h1 h2 hd hnp hdep hmax h hn hst hcat (fun r M2 hq => by obtain ⟨rfl, rfl⟩ := hq; exact kk)
end RES
end
